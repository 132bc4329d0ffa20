section
-- ===== PART A: goes FIRST, ahead of the names: the tables' words, and 'selects' of the private methods out of them =====
/-- a private method of a class that the tables say can be made, by its rows of tables_1 -/
def lw_okq (q : MethodName × Nat) : Prop := (q.1.cls ≠ "java/lang/invoke/MethodHandle" ∧ q.1.cls ≠ "java/lang/invoke/VarHandle") ∧ Cond.instantiable q.1.cls q.2 ∈ tables_1 ∧ Cond.privateMethod q.1 ∈ tables_1 ∧ Cond.instanceMethod q.1 ∈ tables_1
theorem lw_p0 : lw_okq (⟨"PaddyTerraces$Slope", "sumOf", "([I)I"⟩, 18) := ⟨⟨by decide +kernel, by decide +kernel⟩, List.mem_of_getElem? (i := 50) (by decide +kernel), List.mem_of_getElem? (i := 187) (by decide +kernel), List.mem_of_getElem? (i := 188) (by decide +kernel)⟩
theorem lw_p1 : lw_okq (⟨"PaddyTerraces", "countNumber", "(I)I"⟩, 6) := ⟨⟨by decide +kernel, by decide +kernel⟩, List.mem_of_getElem? (i := 16) (by decide +kernel), List.mem_of_getElem? (i := 198) (by decide +kernel), List.mem_of_getElem? (i := 199) (by decide +kernel)⟩
theorem lw_p2 : lw_okq (⟨"java/lang/Throwable", "fillInStackTrace", "(I)Ljava/lang/Throwable;"⟩, 6) := ⟨⟨by decide +kernel, by decide +kernel⟩, List.mem_of_getElem? (i := 263) (by decide +kernel), List.mem_of_getElem? (i := 261) (by decide +kernel), List.mem_of_getElem? (i := 262) (by decide +kernel)⟩
theorem lw_p3 : lw_okq (⟨"PaddyTerraces$Slope", "takeRain", "(I)V"⟩, 18) := ⟨⟨by decide +kernel, by decide +kernel⟩, List.mem_of_getElem? (i := 50) (by decide +kernel), List.mem_of_getElem? (i := 414) (by decide +kernel), List.mem_of_getElem? (i := 415) (by decide +kernel)⟩
theorem lw_p4 : lw_okq (⟨"PaddyTerraces$Slope", "takeSpring", "(I)V"⟩, 18) := ⟨⟨by decide +kernel, by decide +kernel⟩, List.mem_of_getElem? (i := 50) (by decide +kernel), List.mem_of_getElem? (i := 418) (by decide +kernel), List.mem_of_getElem? (i := 419) (by decide +kernel)⟩
theorem lw_p5 : lw_okq (⟨"PaddyTerraces$Slope", "letWaterFlow", "()V"⟩, 18) := ⟨⟨by decide +kernel, by decide +kernel⟩, List.mem_of_getElem? (i := 50) (by decide +kernel), List.mem_of_getElem? (i := 422) (by decide +kernel), List.mem_of_getElem? (i := 423) (by decide +kernel)⟩
theorem lw_p6 : lw_okq (⟨"PaddyTerraces$Slope", "letFieldFlow", "(II)V"⟩, 18) := ⟨⟨by decide +kernel, by decide +kernel⟩, List.mem_of_getElem? (i := 50) (by decide +kernel), List.mem_of_getElem? (i := 426) (by decide +kernel), List.mem_of_getElem? (i := 427) (by decide +kernel)⟩
theorem lw_p7 : lw_okq (⟨"PaddyTerraces$Slope", "bringWater", "(III)V"⟩, 18) := ⟨⟨by decide +kernel, by decide +kernel⟩, List.mem_of_getElem? (i := 50) (by decide +kernel), List.mem_of_getElem? (i := 435) (by decide +kernel), List.mem_of_getElem? (i := 436) (by decide +kernel)⟩
theorem lw_p8 : lw_okq (⟨"PaddyTerraces$Slope", "loseWater", "(I)V"⟩, 18) := ⟨⟨by decide +kernel, by decide +kernel⟩, List.mem_of_getElem? (i := 50) (by decide +kernel), List.mem_of_getElem? (i := 440) (by decide +kernel), List.mem_of_getElem? (i := 441) (by decide +kernel)⟩
theorem lw_p9 : lw_okq (⟨"PaddyTerraces$Slope", "growRice", "()V"⟩, 18) := ⟨⟨by decide +kernel, by decide +kernel⟩, List.mem_of_getElem? (i := 50) (by decide +kernel), List.mem_of_getElem? (i := 444) (by decide +kernel), List.mem_of_getElem? (i := 445) (by decide +kernel)⟩
theorem lw_p10 : lw_okq (⟨"PaddyTerraces$Slope", "growCrop", "(I)V"⟩, 18) := ⟨⟨by decide +kernel, by decide +kernel⟩, List.mem_of_getElem? (i := 50) (by decide +kernel), List.mem_of_getElem? (i := 448) (by decide +kernel), List.mem_of_getElem? (i := 449) (by decide +kernel)⟩
theorem lw_p11 : lw_okq (⟨"PaddyTerraces$Slope", "hardening", "(I)I"⟩, 18) := ⟨⟨by decide +kernel, by decide +kernel⟩, List.mem_of_getElem? (i := 50) (by decide +kernel), List.mem_of_getElem? (i := 452) (by decide +kernel), List.mem_of_getElem? (i := 453) (by decide +kernel)⟩
theorem lw_p12 : lw_okq (⟨"PaddyTerraces", "foreseenNumber", "(I)I"⟩, 6) := ⟨⟨by decide +kernel, by decide +kernel⟩, List.mem_of_getElem? (i := 16) (by decide +kernel), List.mem_of_getElem? (i := 500) (by decide +kernel), List.mem_of_getElem? (i := 501) (by decide +kernel)⟩
theorem lw_p13 : lw_okq (⟨"PaddyTerraces", "findBestMove", "(I)V"⟩, 6) := ⟨⟨by decide +kernel, by decide +kernel⟩, List.mem_of_getElem? (i := 16) (by decide +kernel), List.mem_of_getElem? (i := 517) (by decide +kernel), List.mem_of_getElem? (i := 518) (by decide +kernel)⟩
theorem lw_p14 : lw_okq (⟨"PaddyTerracesModel", "clear", "(II)V"⟩, 7) := ⟨⟨by decide +kernel, by decide +kernel⟩, List.mem_of_getElem? (i := 537) (by decide +kernel), List.mem_of_getElem? (i := 543) (by decide +kernel), List.mem_of_getElem? (i := 544) (by decide +kernel)⟩
theorem lw_p15 : lw_okq (⟨"PaddyTerracesModel", "fail", "(I)I"⟩, 7) := ⟨⟨by decide +kernel, by decide +kernel⟩, List.mem_of_getElem? (i := 537) (by decide +kernel), List.mem_of_getElem? (i := 581) (by decide +kernel), List.mem_of_getElem? (i := 582) (by decide +kernel)⟩
def lw_privs_1 : List (MethodName × Nat) := [(⟨"PaddyTerraces$Slope", "sumOf", "([I)I"⟩, 18), (⟨"PaddyTerraces", "countNumber", "(I)I"⟩, 6), (⟨"java/lang/Throwable", "fillInStackTrace", "(I)Ljava/lang/Throwable;"⟩, 6), (⟨"PaddyTerraces$Slope", "takeRain", "(I)V"⟩, 18), (⟨"PaddyTerraces$Slope", "takeSpring", "(I)V"⟩, 18), (⟨"PaddyTerraces$Slope", "letWaterFlow", "()V"⟩, 18), (⟨"PaddyTerraces$Slope", "letFieldFlow", "(II)V"⟩, 18), (⟨"PaddyTerraces$Slope", "bringWater", "(III)V"⟩, 18), (⟨"PaddyTerraces$Slope", "loseWater", "(I)V"⟩, 18), (⟨"PaddyTerraces$Slope", "growRice", "()V"⟩, 18), (⟨"PaddyTerraces$Slope", "growCrop", "(I)V"⟩, 18), (⟨"PaddyTerraces$Slope", "hardening", "(I)I"⟩, 18), (⟨"PaddyTerraces", "foreseenNumber", "(I)I"⟩, 6), (⟨"PaddyTerraces", "findBestMove", "(I)V"⟩, 6), (⟨"PaddyTerracesModel", "clear", "(II)V"⟩, 7), (⟨"PaddyTerracesModel", "fail", "(I)I"⟩, 7)]
theorem lw_r1 : ∀ q ∈ lw_privs_1, lw_okq q := List.forall_mem_cons.mpr ⟨lw_p0, List.forall_mem_cons.mpr ⟨lw_p1, List.forall_mem_cons.mpr ⟨lw_p2, List.forall_mem_cons.mpr ⟨lw_p3, List.forall_mem_cons.mpr ⟨lw_p4, List.forall_mem_cons.mpr ⟨lw_p5, List.forall_mem_cons.mpr ⟨lw_p6, List.forall_mem_cons.mpr ⟨lw_p7, List.forall_mem_cons.mpr ⟨lw_p8, List.forall_mem_cons.mpr ⟨lw_p9, List.forall_mem_cons.mpr ⟨lw_p10, List.forall_mem_cons.mpr ⟨lw_p11, List.forall_mem_cons.mpr ⟨lw_p12, List.forall_mem_cons.mpr ⟨lw_p13, List.forall_mem_cons.mpr ⟨lw_p14, List.forall_mem_cons.mpr ⟨lw_p15, fun _ h => absurd h List.not_mem_nil⟩⟩⟩⟩⟩⟩⟩⟩⟩⟩⟩⟩⟩⟩⟩⟩
theorem lw_p16 : lw_okq (⟨"PaddyTerracesModel", "isField", "(II)Z"⟩, 7) := ⟨⟨by decide +kernel, by decide +kernel⟩, List.mem_of_getElem? (i := 537) (by decide +kernel), List.mem_of_getElem? (i := 589) (by decide +kernel), List.mem_of_getElem? (i := 590) (by decide +kernel)⟩
theorem lw_p17 : lw_okq (⟨"PaddyTerracesModel", "at", "(II)I"⟩, 7) := ⟨⟨by decide +kernel, by decide +kernel⟩, List.mem_of_getElem? (i := 537) (by decide +kernel), List.mem_of_getElem? (i := 593) (by decide +kernel), List.mem_of_getElem? (i := 594) (by decide +kernel)⟩
theorem lw_p18 : lw_okq (⟨"PaddyTerracesModel", "set", "(II)I"⟩, 7) := ⟨⟨by decide +kernel, by decide +kernel⟩, List.mem_of_getElem? (i := 537) (by decide +kernel), List.mem_of_getElem? (i := 598) (by decide +kernel), List.mem_of_getElem? (i := 599) (by decide +kernel)⟩
theorem lw_p19 : lw_okq (⟨"PaddyTerracesModel", "sum", "(I)I"⟩, 7) := ⟨⟨by decide +kernel, by decide +kernel⟩, List.mem_of_getElem? (i := 537) (by decide +kernel), List.mem_of_getElem? (i := 623) (by decide +kernel), List.mem_of_getElem? (i := 624) (by decide +kernel)⟩
theorem lw_p20 : lw_okq (⟨"PaddyTerracesModel", "many", "()I"⟩, 7) := ⟨⟨by decide +kernel, by decide +kernel⟩, List.mem_of_getElem? (i := 537) (by decide +kernel), List.mem_of_getElem? (i := 627) (by decide +kernel), List.mem_of_getElem? (i := 628) (by decide +kernel)⟩
theorem lw_p21 : lw_okq (⟨"PaddyTerracesModel", "fallow", "(I)V"⟩, 7) := ⟨⟨by decide +kernel, by decide +kernel⟩, List.mem_of_getElem? (i := 537) (by decide +kernel), List.mem_of_getElem? (i := 635) (by decide +kernel), List.mem_of_getElem? (i := 636) (by decide +kernel)⟩
theorem lw_p22 : lw_okq (⟨"PaddyTerracesModel", "dayOn", "()V"⟩, 7) := ⟨⟨by decide +kernel, by decide +kernel⟩, List.mem_of_getElem? (i := 537) (by decide +kernel), List.mem_of_getElem? (i := 643) (by decide +kernel), List.mem_of_getElem? (i := 644) (by decide +kernel)⟩
theorem lw_p23 : lw_okq (⟨"PaddyTerracesModel", "flow", "(II)V"⟩, 7) := ⟨⟨by decide +kernel, by decide +kernel⟩, List.mem_of_getElem? (i := 537) (by decide +kernel), List.mem_of_getElem? (i := 647) (by decide +kernel), List.mem_of_getElem? (i := 648) (by decide +kernel)⟩
theorem lw_p24 : lw_okq (⟨"PaddyTerracesModel", "come", "(III)V"⟩, 7) := ⟨⟨by decide +kernel, by decide +kernel⟩, List.mem_of_getElem? (i := 537) (by decide +kernel), List.mem_of_getElem? (i := 652) (by decide +kernel), List.mem_of_getElem? (i := 653) (by decide +kernel)⟩
theorem lw_p25 : lw_okq (⟨"PaddyTerracesModel", "growRice", "(I)V"⟩, 7) := ⟨⟨by decide +kernel, by decide +kernel⟩, List.mem_of_getElem? (i := 537) (by decide +kernel), List.mem_of_getElem? (i := 656) (by decide +kernel), List.mem_of_getElem? (i := 657) (by decide +kernel)⟩
theorem lw_p26 : lw_okq (⟨"PaddyTerracesModel", "counted", "(I)I"⟩, 7) := ⟨⟨by decide +kernel, by decide +kernel⟩, List.mem_of_getElem? (i := 537) (by decide +kernel), List.mem_of_getElem? (i := 668) (by decide +kernel), List.mem_of_getElem? (i := 669) (by decide +kernel)⟩
theorem lw_p27 : lw_okq (⟨"PaddyTerracesModel", "keep", "()V"⟩, 7) := ⟨⟨by decide +kernel, by decide +kernel⟩, List.mem_of_getElem? (i := 537) (by decide +kernel), List.mem_of_getElem? (i := 680) (by decide +kernel), List.mem_of_getElem? (i := 681) (by decide +kernel)⟩
theorem lw_p28 : lw_okq (⟨"PaddyTerracesModel", "bringBack", "()V"⟩, 7) := ⟨⟨by decide +kernel, by decide +kernel⟩, List.mem_of_getElem? (i := 537) (by decide +kernel), List.mem_of_getElem? (i := 684) (by decide +kernel), List.mem_of_getElem? (i := 685) (by decide +kernel)⟩
theorem lw_p29 : lw_okq (⟨"PaddyTerracesModel", "worth", "(I)I"⟩, 7) := ⟨⟨by decide +kernel, by decide +kernel⟩, List.mem_of_getElem? (i := 537) (by decide +kernel), List.mem_of_getElem? (i := 692) (by decide +kernel), List.mem_of_getElem? (i := 693) (by decide +kernel)⟩
def lw_privs_2 : List (MethodName × Nat) := [(⟨"PaddyTerracesModel", "isField", "(II)Z"⟩, 7), (⟨"PaddyTerracesModel", "at", "(II)I"⟩, 7), (⟨"PaddyTerracesModel", "set", "(II)I"⟩, 7), (⟨"PaddyTerracesModel", "sum", "(I)I"⟩, 7), (⟨"PaddyTerracesModel", "many", "()I"⟩, 7), (⟨"PaddyTerracesModel", "fallow", "(I)V"⟩, 7), (⟨"PaddyTerracesModel", "dayOn", "()V"⟩, 7), (⟨"PaddyTerracesModel", "flow", "(II)V"⟩, 7), (⟨"PaddyTerracesModel", "come", "(III)V"⟩, 7), (⟨"PaddyTerracesModel", "growRice", "(I)V"⟩, 7), (⟨"PaddyTerracesModel", "counted", "(I)I"⟩, 7), (⟨"PaddyTerracesModel", "keep", "()V"⟩, 7), (⟨"PaddyTerracesModel", "bringBack", "()V"⟩, 7), (⟨"PaddyTerracesModel", "worth", "(I)I"⟩, 7)]
theorem lw_r2 : ∀ q ∈ lw_privs_2, lw_okq q := List.forall_mem_cons.mpr ⟨lw_p16, List.forall_mem_cons.mpr ⟨lw_p17, List.forall_mem_cons.mpr ⟨lw_p18, List.forall_mem_cons.mpr ⟨lw_p19, List.forall_mem_cons.mpr ⟨lw_p20, List.forall_mem_cons.mpr ⟨lw_p21, List.forall_mem_cons.mpr ⟨lw_p22, List.forall_mem_cons.mpr ⟨lw_p23, List.forall_mem_cons.mpr ⟨lw_p24, List.forall_mem_cons.mpr ⟨lw_p25, List.forall_mem_cons.mpr ⟨lw_p26, List.forall_mem_cons.mpr ⟨lw_p27, List.forall_mem_cons.mpr ⟨lw_p28, List.forall_mem_cons.mpr ⟨lw_p29, fun _ h => absurd h List.not_mem_nil⟩⟩⟩⟩⟩⟩⟩⟩⟩⟩⟩⟩⟩⟩
def lw_privs : List (MethodName × Nat) := lw_privs_1 ++ (lw_privs_2)
def lw_tbl : List Cond := k2_sels lw_privs ++ tables_1
theorem lw_privs_ok : ∀ q ∈ lw_privs, lw_okq q := by
  show ∀ q ∈ lw_privs_1 ++ (lw_privs_2), lw_okq q
  exact List.forall_mem_append.mpr ⟨lw_r1, lw_r2⟩
/-- the streams that the claim lets the run draw from -/
abbrev lw_cs : List Choice := [Jvm.Choice.named "NaN.bits"]
theorem lw_bits : nanBits ∈ lw_cs := by first | decide | exact List.mem_cons_self | simp [lw_cs, nanBits]
/-! ===== BEGIN words of one list among another's, by their places ===== -/
theorem goodIn_r {big : List Cond} (ws : List Cond) (ps : List Nat) (hp : ws = ps.filterMap (fun i => big[i]?)) (h : ws.all goodWord = true) : GoodIn big ws := by
  intro w hw
  have h1 := List.all_eq_true.mp h w hw
  rw [hp] at hw
  obtain ⟨i, -, hi⟩ := List.mem_filterMap.mp hw
  have hm : w ∈ big := by first | exact List.mem_of_getElem? hi | exact List.getElem?_mem hi
  exact ⟨hm, good_of_word h1⟩
theorem goodIn_app {big a b : List Cond} (ha : GoodIn big a) (hb : GoodIn big b) : GoodIn big (a ++ b) := fun w h => (List.mem_append.mp h).elim (ha w) (hb w)
theorem goodIn_ca {big a b : List Cond} {c : Cond} (ha : GoodIn big (c :: a)) (hb : GoodIn big b) : GoodIn big (c :: (a ++ b)) := fun w h => (List.mem_cons.mp h).elim (fun e => ha w (List.mem_cons.mpr (Or.inl e))) (fun h => (List.mem_append.mp h).elim (fun h => ha w (List.mem_cons.mpr (Or.inr h))) (hb w))
theorem goodIn_sub {big ws : List Cond} (hm : ∀ w ∈ ws, w ∈ big) (h : ws.all goodWord = true) : GoodIn big ws := fun w hw => ⟨hm w hw, good_of_word (List.all_eq_true.mp h w hw)⟩
/-! ===== END ===== -/

/-! ===== BEGIN exceptions that leave a method, and their catching by the caller (launches without stack traces) ===== -/
section VXA
/-! The laws vx_back, vx_callV, vx_callS, vx_callSW, vx_throw0, vx_throwS follow proofs of the library, with one case more: JvmDerived/Free/Laws.lean (Back.of_free), Shelf42/LK1.lean (callV, callS), Shelf/KitTraced.lean (throwNew0V, throwNewS). -/
/-- where a method has thrown q: the class by its name, the cell, what was written, the world -/
def vx_T (XC : String → State → State → Prop) (st : State) (q : Addr) (t : State) (mc ms : Nat) (free : Addr → Prop) : Prop :=
  ∃ (E : String) (ce : Cell) (L : List Loc), XC E st t ∧ t.heap[q]? = some ce ∧ ce.vm = .none ∧ st.vm.findClass E = some ce.cls ∧ st.WarmedH t.vm ∧ st.sameButNew ({ t with vm := st.vm } : State) L mc ms ∧ ∀ z ∈ L, free z.base
def vx_Q (Qc : Array Value → State → Outcome → State → Prop) (XC : String → State → State → Prop) (mc ms : Nat) (free : Addr → Prop) : Array Value → State → Outcome → State → Prop := fun a st o t =>
  (Qc a st o t ∧ ∃ L, FrameEnd st o t L mc ms ∧ ∀ q ∈ L, free q.base) ∨ ∃ q, o = .threw q ∧ vx_T XC st q t mc ms free
/-- a callee that returns or throws -/
def vx_Met (l : Launch) (y : MethodName) (ws : List Cond) (rm : Room) (Pc : Array Value → State → Prop) (Qc : Array Value → State → Outcome → State → Prop) (XC : String → State → State → Prop) (mc ms : Nat) (free : Addr → Prop) : Prop :=
  MetFree l y (headSpec ws rm) Pc (fun _ _ _ _ _ => True) (vx_Q Qc XC mc ms free)
def vx_Post (XC : String → State → State → Prop) (mc ms : Nat) (free : Addr → Prop) : Pt → Array Value → Addr → Pt → Prop := fun A a q B =>
  ∃ (g : JFrame) (mk : MethodId) (t : State) (L : List Loc) (E : String) (ce : Cell), B.U.heap = t.heap ∧ B.U.vm = t.vm ∧ XC E (A.U.calling g mk a) t ∧ t.heap[q]? = some ce ∧ ce.vm = .none ∧ A.U.vm.findClass E = some ce.cls ∧ B.locs = A.locs ++ L ∧ (∀ z ∈ L, free z.base) ∧ B.cells = A.cells + mc ∧ B.slots = A.slots + ms
def vx_Back (l : Launch) (R : Room) (p : Program) (e : Env) (below : List Frame) (s : State) (sargs : Array Value) (y : MethodName) (len W9 : Nat)
    (Pre : Pt → Array Value → Prop) (Post : Pt → Array Value → Option Value → Pt → Prop) (PostX : Pt → Array Value → Addr → Pt → Prop) : Prop :=
  ∀ (m : MethodId) (meth : Method) (c : Code) (A : Pt) (g : JFrame) (ig : Instr) (mk : MethodId) (a : Array Value),
    Stand p l e R s m sargs below meth c A.U A.locs A.cells A.slots → g.method = m → g.locals.size = c.maxLocals → decode c.code g.pc = .ok (ig, len) →
    2 * g.monitorRoom + (g.stack.map fun v => v.category).sum ≤ W9 → A.U.methodNamed? y = some mk → Pre A a →
    (∃ (v : Option Value) (B : Pt), Stand p l e R s m sargs below meth c B.U B.locs B.cells B.slots ∧ Post A a v B ∧
      Steps p.tables e below (doInvoke e (A.U.setTop g) [] mk a).1 (B.U.setTop { g with pc := g.pc + len, stack := v.toList ++ g.stack })) ∨
    (∃ (q : Addr) (B : Pt), Stand p l e R s m sargs below meth c B.U B.locs B.cells B.slots ∧ PostX A a q B ∧
      Steps p.tables e below (doInvoke e (A.U.setTop g) [] mk a).1 ((B.U.setTop g).pushFrame (.throwing q)))
section Payer
variable {l : Launch} {R : Room} {p : Program} {e : Env} {below : List Frame} {s : State} {sargs : Array Value} {y : MethodName} {len W9 : Nat}
theorem vx_back {ws : List Cond} {rm : Room} {Pc : Array Value → State → Prop} {Qc : Array Value → State → Outcome → State → Prop} {XC : String → State → State → Prop} {mc ms : Nat} {free : Addr → Prop} {bytes : ByteArray} {maxL : Nat} {ret : Option FieldType}
    (hM : vx_Met l y ws rm Pc Qc XC mc ms free) (hblind : FrameBlind Pc) (hrc : rm.cells = mc) (hrs : rm.slots = ms)
    (hframes : rm.frames + 1 ≤ R.frames) (hlocals : W9 + (maxL + 11) + rm.locals ≤ R.locals)
    (hws : ∀ w ∈ ws, ∀ a' U, s.WarmedH U.vm → w.before a' U = true) (hcode : Cond.code y bytes maxL ret ∈ ws) (hinit : ∀ a' U, s.WarmedH U.vm → (Cond.initialized y.cls).before a' U = true) :
    vx_Back l R p e below s sargs y len W9 (PreOf R mc ms Pc) (PostOf Qc mc ms free) (vx_Post XC mc ms free) := by
  intro m meth c A g ig mk a X hg hsize hdg hW hn hp
  have h1 : (headSpec ws rm).pre.before a A.U = true := atoms_intro fun w hw => hws w hw _ _ X.warmed
  have h2 : (Cond.code y bytes maxL ret).before a A.U = true := hws _ hcode _ _ X.warmed
  have h3 : (Cond.initialized y.cls).before a A.U = true := hinit _ _ X.warmed
  have h4 : A.cells + (headSpec ws rm).room.cells ≤ R.cells := by rw [show (headSpec ws rm).room.cells = mc from hrc]; exact hp.1
  have h5 : A.slots + (headSpec ws rm).room.slots ≤ R.slots := by rw [show (headSpec ws rm).room.slots = ms from hrs]; exact hp.2.1
  have hPc : Pc a (A.U.calling g mk a) := hblind _ _ _ _ hp.2.2
  obtain ⟨U, Ls, c0, s0⟩ := A
  dsimp only [Pt.U, Pt.locs, Pt.cells, Pt.slots] at h1 h2 h3 h4 h5 X hn hPc ⊢
  obtain ⟨methY, cY, hmY, hcY, -, hlY, -, -, -, -⟩ := Cond.code_spec hn h2
  obtain ⟨kY, hkY, -⟩ := className_of_methodNamed hn
  have hinitY : kY.init = .initialized := Cond.initialized_spec (findClass_of_methodNamed hn) hkY h3
  have h : At U g.method c below := by rw [hg]; exact X.here
  have hlocals9 : W9 + (maxL + 11) + (headSpec ws rm).room.locals ≤ R.locals := hlocals
  have happ : (headSpec ws rm).appliesLoose y e.platform (U.calling g mk a) = true :=
    Spec.appliesLoose_calling (g := g) h hdg hn hkY hinitY
      (X.room_calling (g := g) (R' := (headSpec ws rm).room) hsize hmY hcY hframes (by rw [hlY]; omega) h4 h5) h1
  obtain ⟨mid, hmid⟩ := h.above
  have hfr : (U.setTop g).frames = (.java g :: mid) ++ below := by rw [State.frames_setTop' g h.top, hmid]; rfl
  obtain ⟨o, s₂, hsteps, -, hend, hq⟩ := Steps.callFree hM p X.admits X.cas X.clock (acts := []) hfr happ hPc trivial
  have hq' : vx_Q Qc XC mc ms free a (U.calling g mk a) o s₂ := hq
  rw [State.frames_setTop' g h.top] at hend
  obtain ⟨g₀, hg0⟩ := Option.isSome_iff_exists.mp h.top
  obtain ⟨r, hr⟩ := State.topJava?_eq_some.mp hg0
  have hr' : (({ U with heap := s₂.heap, slotsUsed := s₂.slotsUsed } : State).setVm s₂.vm).frames = .java g₀ :: r := hr
  rcases hq' with ⟨hqc, L, hfe, hL⟩ | ⟨q, rfl, E, ce, L, hx, hce, hcv, hcl, hW₂, hsm, hL⟩
  · obtain ⟨⟨v, rfl⟩, hW₂, e2, q2, q3, q4, q5, q6⟩ := id hfe
    have e3 : s₂ = ({ (U.calling g mk a).setFrames s₂.frames with heap := s₂.heap, slotsUsed := s₂.slotsUsed } : State).setVm s₂.vm := by
      have : s₂ = ({ s₂ with vm := (U.calling g mk a).vm } : State).setVm s₂.vm := rfl
      rw [e2] at this
      exact this
    obtain ⟨c₂, i₂, len₂, hc₂, hd₂, hf₂⟩ := hend
    have hW' : U.WarmedH s₂.vm := hW₂
    have hcc : c₂ = c := by
      have h1 : s₂.code? g.method = U.code? g.method := by
        rw [State.code?_eq, State.code?_eq, hW'.alike.method?]
      exact Option.some.inj (hc₂.symm.trans (h1.trans h.code))
    subst hcc
    have hlen : len₂ = len := by rw [hdg] at hd₂; cases hd₂; rfl
    subst hlen
    have hs₂ : s₂ = (({ U with heap := s₂.heap, slotsUsed := s₂.slotsUsed } : State).setVm s₂.vm).setTop { g with pc := g.pc + len₂, stack := v.toList ++ g.stack } := by
      refine e3.trans ?_
      rw [hf₂, State.calling_eq h.top, State.setFrames_setFrames, State.setTop_of_frames _ hr', hr]
      rfl
    have hsame : U.sameButNew ({ U with heap := s₂.heap, slotsUsed := s₂.slotsUsed } : State) L mc ms := by
      refine ⟨?_, q2, q3, q4, q5, q6⟩
      obtain ⟨t, ht, -⟩ := State.frames_cons hr
      show ({ U with heap := s₂.heap, slotsUsed := s₂.slotsUsed } : State) = { U.setFrames U.frames with heap := s₂.heap, slotsUsed := s₂.slotsUsed }
      rw [State.setFrames_self ht]
    subst hg
    refine Or.inl ⟨v, ⟨(({ U with heap := s₂.heap, slotsUsed := s₂.slotsUsed } : State).setVm s₂.vm), Ls ++ L, c0 + mc, s0 + ms⟩,
      ⟨X.admits, X.cas, X.clock, X.frames, X.room, X.hears, X.method, X.code, (X.here.setHeapUsed s₂.heap s₂.slotsUsed).setVm hW'.alike, X.tail, State.WarmedH.trans X.warmed hW', X.limits, X.bytes, X.same.trans (hsame.setVm s.vm)⟩,
      ⟨g, mk, s₂, L, rfl, rfl, hqc, rfl, hL, rfl, rfl⟩, ?_⟩
    show Steps p.tables e below _ ((({ U with heap := s₂.heap, slotsUsed := s₂.slotsUsed } : State).setVm s₂.vm).setTop { g with pc := g.pc + len₂, stack := v.toList ++ g.stack })
    rw [← hs₂]
    exact hsteps
  · obtain ⟨e2, q2, q3, q4, q5, q6⟩ := id hsm
    have e3 : s₂ = ({ (U.calling g mk a).setFrames s₂.frames with heap := s₂.heap, slotsUsed := s₂.slotsUsed } : State).setVm s₂.vm := by
      have : s₂ = ({ s₂ with vm := (U.calling g mk a).vm } : State).setVm s₂.vm := rfl
      rw [e2] at this
      exact this
    have hf₂ : s₂.frames = .throwing q :: .java g :: U.frames.tail := hend
    have hW' : U.WarmedH s₂.vm := hW₂
    have hs₂ : s₂ = ((({ U with heap := s₂.heap, slotsUsed := s₂.slotsUsed } : State).setVm s₂.vm).setTop g).pushFrame (.throwing q) := by
      refine e3.trans ?_
      rw [hf₂, State.calling_eq h.top, State.setFrames_setFrames, State.pushFrame, State.frames_setTop _ hr', State.setTop_of_frames _ hr', State.setFrames_setFrames, hr]
      rfl
    have hsame : U.sameButNew ({ U with heap := s₂.heap, slotsUsed := s₂.slotsUsed } : State) L mc ms := by
      refine ⟨?_, q2, q3, q4, q5, q6⟩
      obtain ⟨t, ht, -⟩ := State.frames_cons hr
      show ({ U with heap := s₂.heap, slotsUsed := s₂.slotsUsed } : State) = { U.setFrames U.frames with heap := s₂.heap, slotsUsed := s₂.slotsUsed }
      rw [State.setFrames_self ht]
    subst hg
    refine Or.inr ⟨q, ⟨(({ U with heap := s₂.heap, slotsUsed := s₂.slotsUsed } : State).setVm s₂.vm), Ls ++ L, c0 + mc, s0 + ms⟩,
      ⟨X.admits, X.cas, X.clock, X.frames, X.room, X.hears, X.method, X.code, (X.here.setHeapUsed s₂.heap s₂.slotsUsed).setVm hW'.alike, X.tail, State.WarmedH.trans X.warmed hW', X.limits, X.bytes, X.same.trans (hsame.setVm s.vm)⟩,
      ⟨g, mk, s₂, L, E, ce, rfl, rfl, hx, hce, hcv, hcl, rfl, hL, rfl, rfl⟩, ?_⟩
    show Steps p.tables e below _ (((({ U with heap := s₂.heap, slotsUsed := s₂.slotsUsed } : State).setVm s₂.vm).setTop g).pushFrame (.throwing q))
    rw [← hs₂]
    exact hsteps
end Payer
section Calls
variable {p : Program} {l : Launch} {e : Env} {R : Room} {s : State} {m : MethodId} {args : Array Value} {below : List Frame} {meth : Method} {c : Code} {T : State} {locs : List Loc} {cells slots : Nat}
theorem vx_callV (X : Stand p l e R s m args below meth c T locs cells slots) (hexec : p.tables.exec = Jvm.exec) {own C : String} {index : Nat} {y : MethodName} {bytes : ByteArray} {maxL : Nat} {ret : Option FieldType}
    (hown : s.vm.findClass own = some m.cls) (hlink : (Cond.methodLink own index y).before args s = true) (hinst : (Cond.instanceMethod y).before args s = true) (hsel : (Cond.selects C y y).before args s = true)
    (hcode : (Cond.code y bytes maxL ret).before args s = true) (hy : y.cls ≠ "java/lang/invoke/MethodHandle" ∧ y.cls ≠ "java/lang/invoke/VarHandle")
    {W9 : Nat} {Pre : Pt → Array Value → Prop} {Post : Pt → Array Value → Option Value → Pt → Prop} {PostX : Pt → Array Value → Addr → Pt → Prop} (hK : vx_Back l R p e below s args y 3 W9 Pre Post PostX)
    {b : Addr} {cellB : Cell} (hcell : T.heap[b]? = some cellB) (hobj : cellB.vm.isStatics = false) (hcls : s.vm.findClass C = some cellB.cls)
    {g : JFrame} (hg : g.method = m) (hsize : g.locals.size = c.maxLocals) {argsL rest : List Value} (hlen : ∀ sig, parseMethodDescriptor y.desc = some sig → argsL.length = sig.parameters.length)
    (hstack : g.stack = argsL.reverse ++ .ref b :: rest) (hW : 2 * g.monitorRoom + (rest.map fun v => v.category).sum ≤ W9) (hdg : decode c.code g.pc = .ok (.invokevirtual index, 3))
    (hpre : ∀ vm₁, s.WarmedH vm₁ → Pre ⟨T.setVm vm₁, locs, cells, slots⟩ (Value.ref b :: argsL).toArray) :
    (∃ (v : Option Value) (vm₁ : Vm) (B : Pt), s.WarmedH vm₁ ∧ Stand p l e R s m args below meth c B.U B.locs B.cells B.slots ∧ Post ⟨T.setVm vm₁, locs, cells, slots⟩ (Value.ref b :: argsL).toArray v B ∧
      ∀ target, Steps p.tables e below (B.U.setTop { g with pc := g.pc + 3, stack := v.toList ++ rest }) target → Steps p.tables e below (T.setTop g) target) ∨
    (∃ (q : Addr) (vm₁ : Vm) (B : Pt), s.WarmedH vm₁ ∧ Stand p l e R s m args below meth c B.U B.locs B.cells B.slots ∧ PostX ⟨T.setVm vm₁, locs, cells, slots⟩ (Value.ref b :: argsL).toArray q B ∧
      Steps p.tables e below (T.setTop g) ((B.U.setTop { g with stack := rest }).pushFrame (.throwing q))) := by
  obtain ⟨mk, methM, hnamed, hmethM, hstM, habM⟩ := Cond.instanceMethod_spec hinst
  obtain ⟨methM', cM, hmethM', -, -, -, -, -, -, hsigM⟩ := Cond.code_spec hnamed hcode
  cases hmethM.symm.trans hmethM'
  obtain ⟨c2, r2, m2, q1, q2, q3, q4, kP, hkP, hkPi⟩ := Cond.selects_spec hsel
  cases hcls.symm.trans q1
  cases (State.methodFound?_of_named hnamed hy).symm.trans q2
  cases hnamed.symm.trans q3
  have hselP : selectMethod e.platform s.vm cellB.cls mk = .method mk := by rw [Launch.admits_selectMethod X.admits]; exact q4
  obtain ⟨vm₁, X₁, hstep₁⟩ := X.invokevirtual hexec hown hlink hnamed hmethM hstM hkP hkPi hy (a := b) (cell := cellB) hcell
    (fun z h => by rw [h] at hobj; cases hobj) hselP hmethM habM hkP hkPi (g := g) hg (argsL := argsL) (rest := rest) (hlen _ hsigM) hstack hdg
  rcases hK m meth c ⟨T.setVm vm₁, locs, cells, slots⟩ { g with stack := rest } (.invokevirtual index) mk (Value.ref b :: argsL).toArray X₁ hg hsize hdg hW (X₁.named hnamed) (hpre vm₁ X₁.warmed) with ⟨v, B, X', hpost, hsteps⟩ | ⟨q, B, X', hpost, hsteps⟩
  · exact Or.inl ⟨v, vm₁, B, X₁.warmed, X', hpost, fun target h => hstep₁ _ fun acts => by rw [doInvoke_state]; exact hsteps.trans h⟩
  · exact Or.inr ⟨q, vm₁, B, X₁.warmed, X', hpost, hstep₁ _ fun acts => by rw [doInvoke_state]; exact hsteps⟩
theorem vx_callS (X : Stand p l e R s m args below meth c T locs cells slots) (hexec : p.tables.exec = Jvm.exec) {own : String} {index : Nat} {y : MethodName} {bytes : ByteArray} {maxL : Nat} {ret : Option FieldType}
    (hown : s.vm.findClass own = some m.cls) (hlink : (Cond.methodLink own index y).before args s = true) (hstat : (Cond.static y).before args s = true) (hinit : (Cond.initialized y.cls).before args s = true)
    (hcode : (Cond.code y bytes maxL ret).before args s = true) (hy : y.cls ≠ "java/lang/invoke/MethodHandle" ∧ y.cls ≠ "java/lang/invoke/VarHandle")
    {W9 : Nat} {Pre : Pt → Array Value → Prop} {Post : Pt → Array Value → Option Value → Pt → Prop} {PostX : Pt → Array Value → Addr → Pt → Prop} (hK : vx_Back l R p e below s args y 3 W9 Pre Post PostX)
    {g : JFrame} (hg : g.method = m) (hsize : g.locals.size = c.maxLocals) {argsL rest : List Value} (hlen : ∀ sig, parseMethodDescriptor y.desc = some sig → argsL.length = sig.parameters.length)
    (hstack : g.stack = argsL.reverse ++ rest) (hW : 2 * g.monitorRoom + (rest.map fun v => v.category).sum ≤ W9) (hdg : decode c.code g.pc = .ok (.invokestatic index, 3))
    (hpre : ∀ vm₁, s.WarmedH vm₁ → Pre ⟨T.setVm vm₁, locs, cells, slots⟩ argsL.toArray) :
    (∃ (v : Option Value) (vm₁ : Vm) (B : Pt), s.WarmedH vm₁ ∧ Stand p l e R s m args below meth c B.U B.locs B.cells B.slots ∧ Post ⟨T.setVm vm₁, locs, cells, slots⟩ argsL.toArray v B ∧
      ∀ target, Steps p.tables e below (B.U.setTop { g with pc := g.pc + 3, stack := v.toList ++ rest }) target → Steps p.tables e below (T.setTop g) target) ∨
    (∃ (q : Addr) (vm₁ : Vm) (B : Pt), s.WarmedH vm₁ ∧ Stand p l e R s m args below meth c B.U B.locs B.cells B.slots ∧ PostX ⟨T.setVm vm₁, locs, cells, slots⟩ argsL.toArray q B ∧
      Steps p.tables e below (T.setTop g) ((B.U.setTop { g with stack := rest }).pushFrame (.throwing q))) := by
  obtain ⟨mk, hnamed⟩ := Cond.code_named hcode
  obtain ⟨methM, cM, hmethM, -, -, -, -, -, -, hsigM⟩ := Cond.code_spec hnamed hcode
  have hstatic : methM.isStatic = true := Cond.static_spec hnamed hmethM hstat
  obtain ⟨kP, hkP, -⟩ := className_of_methodNamed hnamed
  have hinitP : kP.init = .initialized := Cond.initialized_spec (findClass_of_methodNamed hnamed) hkP hinit
  obtain ⟨vm₁, X₁, hstep₁⟩ := X.invokestatic hexec hown hlink hnamed hmethM hstatic hkP hinitP hy (g := g) hg (argsL := argsL) (rest := rest) (hlen _ hsigM) hstack hdg
  rcases hK m meth c ⟨T.setVm vm₁, locs, cells, slots⟩ { g with stack := rest } (.invokestatic index) mk argsL.toArray X₁ hg hsize hdg hW (X₁.named hnamed) (hpre vm₁ X₁.warmed) with ⟨v, B, X', hpost, hsteps⟩ | ⟨q, B, X', hpost, hsteps⟩
  · exact Or.inl ⟨v, vm₁, B, X₁.warmed, X', hpost, fun target h => hstep₁ _ fun acts => by rw [doInvoke_state]; exact hsteps.trans h⟩
  · exact Or.inr ⟨q, vm₁, B, X₁.warmed, X', hpost, hstep₁ _ fun acts => by rw [doInvoke_state]; exact hsteps⟩
end Calls
theorem vx_cls {s : State} {T : State} {vm₁ : Vm} {E : String} {k : ClassId} (hW : s.WarmedH vm₁) (h : (T.setVm vm₁).vm.findClass E = some k) : s.vm.findClass E = some k := by
  have h1 : vm₁.findClass E = some k := h
  rw [hW.alike.findClass] at h1
  exact h1
/-- the method's frame g, with q thrown over it -/
def vx_W (p : Program) (l : Launch) (e : Env) (R : Room) (s : State) (m : MethodId) (args : Array Value) (below : List Frame) (meth : Method) (c : Code) (H : Heap) (locs : List Loc) (cells slots : Nat) (Q : State → Prop) (g : JFrame) (q : Addr) : Prop :=
  ∀ T : State, T.heap = H → Stand p l e R s m args below meth c T locs cells slots → ∃ t, Steps p.tables e below ((T.setTop g).pushFrame (.throwing q)) t ∧ Q t
def vx_Run (p : Program) (l : Launch) (e : Env) (R : Room) (s : State) (m : MethodId) (args : Array Value) (below : List Frame) (meth : Method) (c : Code) (H : Heap) (locs : List Loc) (cells slots mc ms : Nat) (g : JFrame) (rest : List Value) (Qa : State → Outcome → State → Prop) (XC : String → State → State → Prop) (free : Addr → Prop) : Prop :=
  ∀ T : State, T.heap = H → Stand p l e R s m args below meth c T locs cells slots →
    (∃ (v : Option Value) (st₀ t T' : State) (L : List Loc), st₀.heap = H ∧ Stand p l e R s m args below meth c T' (locs ++ L) (cells + mc) (slots + ms) ∧ (∀ q ∈ L, free q.base) ∧ T'.heap = t.heap ∧ T'.vm = t.vm ∧ Qa st₀ (.returned v) t ∧
      Goes p e below T g T' { g with pc := g.pc + 3, stack := v.toList ++ rest }) ∨
    (∃ (q : Addr) (st₀ t T' : State) (L : List Loc) (E : String) (ce : Cell), st₀.heap = H ∧ Stand p l e R s m args below meth c T' (locs ++ L) (cells + mc) (slots + ms) ∧ (∀ z ∈ L, free z.base) ∧ T'.heap = t.heap ∧ T'.vm = t.vm ∧ XC E st₀ t ∧ t.heap[q]? = some ce ∧ ce.vm = .none ∧ s.vm.findClass E = some ce.cls ∧
      Steps p.tables e below (T.setTop g) ((T'.setTop { g with stack := rest }).pushFrame (.throwing q)))
def vx_X {S : Type} (px : S → Prop) (B : String → S → State → Prop) (A : Nat → Prop) : String → State → State → Prop := fun E st t => ∃ u : S, px u ∧ B E u t ∧ va_F A st t
section Runs
variable {p : Program} {l : Launch} {e : Env} {R : Room} {s : State} {m : MethodId} {args : Array Value} {below : List Frame} {meth : Method} {c : Code} {H : Heap} {locs : List Loc} {cells slots : Nat}
variable {y : MethodName} {bytes cc : ByteArray} {maxL nL mc ms n index : Nat} {ret : Option FieldType} {ws : List Cond} {rm : Room} {Pc : Array Value → State → Prop} {Qc : Array Value → State → Outcome → State → Prop} {XC : String → State → State → Prop} {free : Addr → Prop} {Ts : List Cond} {own C : String} {b : Addr} {As rest : List Value} {g : JFrame}
theorem vx_callBack (cb : CallB R s args own index y bytes maxL ret ws rm mc ms n) (hM : vx_Met l y ws rm Pc Qc XC mc ms free) (hbl : FrameBlind Pc) : vx_Back l R p e below s args y 3 8 (PreOf R mc ms Pc) (PostOf Qc mc ms free) (vx_Post XC mc ms free) := by
  obtain ⟨hrc, hrs, hfr, hlo, hws, hcw, -, hini, -⟩ := cb
  exact vx_back (bytes := bytes) (maxL := maxL) (ret := ret) hM hbl hrc hrs hfr hlo hws hcw (fun a' U hW => word_at hW (Or.inl (by first | rfl | simp [Cond.onTables, Cond.keeps, Cond.steady])) hini)
theorem vx_runV (S : CallFix p m c cc nL s args Ts own) (hM : vx_Met l y ws rm Pc Qc XC mc ms free) (cw : CallW R s args own C index y bytes maxL ret ws rm mc ms n) (hp : PreV s H C b Pc As)
    (hg : g.method = m) (hn : As.length = n) (hsize : g.locals.size = nL) (hstack : g.stack = As.reverse ++ .ref b :: rest) (hW : 2 * g.monitorRoom + (rest.map fun v => v.category).sum ≤ 8) (hdg : decode cc g.pc = .ok (.invokevirtual index, 3)) (hf : cells + mc ≤ R.cells ∧ slots + ms ≤ R.slots) :
    vx_Run p l e R s m args below meth c H locs cells slots mc ms g rest (Qc (Value.ref b :: As).toArray) XC free := by
  have hK : vx_Back l R p e below s args y 3 8 (PreOf R mc ms Pc) (PostOf Qc mc ms free) (vx_Post XC mc ms free) := vx_callBack cw.1 hM hp.1
  obtain ⟨⟨-, -, -, -, -, -, hcode, -, hy, hlen, hl⟩, hin, hse⟩ := cw
  obtain ⟨hx, hb, hml, ho, -⟩ := S
  obtain ⟨-, ⟨cellB, hcB, hoB, hclB⟩, hPc⟩ := hp
  intro T hT X
  rcases vx_callV X hx (C := C) (bytes := bytes) (maxL := maxL) (ret := ret) ho hl hin hse hcode hy hK (by rw [hT]; exact hcB) hoB hclB hg (hsize.trans hml.symm) (argsL := As) (rest := rest) (fun sig h => hn.trans (hlen sig h)) hstack hW (by rw [hb]; exact hdg)
    (fun vm₁ hW₁ => ⟨hf.1, hf.2, hPc (T.setVm vm₁) hT hW₁⟩) with ⟨v, vm₁, ⟨U', l2, c2, s2⟩, hW₁, X', ⟨g', mk, t, L, e1, e2, hq, h1, hL, h2, h3⟩, st⟩ | ⟨q, vm₁, ⟨U', l2, c2, s2⟩, hW₁, X', ⟨g', mk, t, L, E, ce, e1, e2, hq, hce, hcv, hcl, h1, hL, h2, h3⟩, st⟩
  · dsimp only [Pt.U, Pt.locs, Pt.cells, Pt.slots] at X' e1 e2 h1 h2 h3 st
    subst h1; subst h2; subst h3
    exact Or.inl ⟨v, (T.setVm vm₁).calling g' mk (Value.ref b :: As).toArray, t, U', L, hT, X', hL, e1, e2, hq, st⟩
  · dsimp only [Pt.U, Pt.locs, Pt.cells, Pt.slots] at X' e1 e2 h1 h2 h3 st hcl
    subst h1; subst h2; subst h3
    exact Or.inr ⟨q, (T.setVm vm₁).calling g' mk (Value.ref b :: As).toArray, t, U', L, E, ce, hT, X', hL, e1, e2, hq, hce, hcv, vx_cls hW₁ hcl, st⟩
theorem vx_runS (S : CallFix p m c cc nL s args Ts own) (hM : vx_Met l y ws rm Pc Qc XC mc ms free) (cw : CallB R s args own index y bytes maxL ret ws rm mc ms n ∧ (Cond.static y).before args s = true) (hp : PreS s H Pc As)
    (hg : g.method = m) (hn : As.length = n) (hsize : g.locals.size = nL) (hstack : g.stack = As.reverse ++ rest) (hW : 2 * g.monitorRoom + (rest.map fun v => v.category).sum ≤ 8) (hdg : decode cc g.pc = .ok (.invokestatic index, 3)) (hf : cells + mc ≤ R.cells ∧ slots + ms ≤ R.slots) :
    vx_Run p l e R s m args below meth c H locs cells slots mc ms g rest (Qc As.toArray) XC free := by
  have hK : vx_Back l R p e below s args y 3 8 (PreOf R mc ms Pc) (PostOf Qc mc ms free) (vx_Post XC mc ms free) := vx_callBack cw.1 hM hp.1
  obtain ⟨⟨-, -, -, -, -, -, hcode, hini, hy, hlen, hl⟩, hstt⟩ := cw
  obtain ⟨hx, hb, hml, ho, -⟩ := S
  intro T hT X
  rcases vx_callS X hx (bytes := bytes) (maxL := maxL) (ret := ret) ho hl hstt hini hcode hy hK hg (hsize.trans hml.symm) (argsL := As) (rest := rest) (fun sig h => hn.trans (hlen sig h)) hstack hW (by rw [hb]; exact hdg)
    (fun vm₁ hW₁ => ⟨hf.1, hf.2, hp.2 (T.setVm vm₁) hT hW₁⟩) with ⟨v, vm₁, ⟨U', l2, c2, s2⟩, hW₁, X', ⟨g', mk, t, L, e1, e2, hq, h1, hL, h2, h3⟩, st⟩ | ⟨q, vm₁, ⟨U', l2, c2, s2⟩, hW₁, X', ⟨g', mk, t, L, E, ce, e1, e2, hq, hce, hcv, hcl, h1, hL, h2, h3⟩, st⟩
  · dsimp only [Pt.U, Pt.locs, Pt.cells, Pt.slots] at X' e1 e2 h1 h2 h3 st
    subst h1; subst h2; subst h3
    exact Or.inl ⟨v, (T.setVm vm₁).calling g' mk As.toArray, t, U', L, hT, X', hL, e1, e2, hq, st⟩
  · dsimp only [Pt.U, Pt.locs, Pt.cells, Pt.slots] at X' e1 e2 h1 h2 h3 st hcl
    subst h1; subst h2; subst h3
    exact Or.inr ⟨q, (T.setVm vm₁).calling g' mk As.toArray, t, U', L, E, ce, hT, X', hL, e1, e2, hq, hce, hcv, vx_cls hW₁ hcl, st⟩
end Runs
section Rows
variable {p : Program} {l : Launch} {e : Env} {R : Room} {s : State} {m : MethodId} {args : Array Value} {below : List Frame} {meth : Method} {c : Code} {H : Heap} {locs : List Loc} {cells slots : Nat} {Q : State → Prop}
variable {mc ms : Nat} {free : Addr → Prop} {A0 A1 : Nat → Prop} {H0 : Heap} {a : Array Value} {pc : Nat} {ls : Array Slot} {st0 rest : List Value}
theorem vx_keep {st₀ t T' : State} {L : List Loc} (h0 : st₀.heap = H) (e1 : T'.heap = t.heap) (hS : va_S A0 H0 H locs) (hA : ∀ q, q < H.size → A1 q → A0 q) (hf : ∀ q, free q → A0 q) (hL : ∀ q ∈ L, free q.base) (hF : va_F A1 st₀ t) :
    H.size ≤ T'.heap.size ∧ (∀ q : Nat, q < H.size → ¬ A1 q → T'.heap[q]? = H[q]?) ∧ va_S A0 H0 T'.heap (locs ++ L) := by
  obtain ⟨hz, hk⟩ := hF
  rw [h0] at hz hk
  exact ⟨by rw [e1]; exact hz, fun q h1 h2 => by rw [e1]; exact hk q h1 h2,
    ⟨Nat.le_trans hS.1 (by rw [e1]; exact hz), fun q h1 h2 => by rw [e1, hk q (Nat.lt_of_lt_of_le h1 hS.1) (fun z => h2 (hA q (Nat.lt_of_lt_of_le h1 hS.1) z))]; exact hS.2.1 q h1 h2, fun q hq => by
      rcases List.mem_append.mp hq with h | h
      · exact hS.2.2 q h
      · exact hf _ (hL q h)⟩⟩
theorem vx_calli {S SX : Type} {post : Int32 → S → Prop} {px : SX → Prop} {B : S → State → Prop} {BX : String → SX → State → Prop} {AX : Nat → Prop} (hr : vx_Run p l e R s m args below meth c H locs cells slots mc ms (F0 m pc ls st0) rest (va_Qi post B A1 a) (vx_X px BX AX) free) (hS : va_S A0 H0 H locs) (hA : ∀ q, q < H.size → A1 q → A0 q) (hf : ∀ q, free q → A0 q) (hAX : ∀ q, q < H.size → AX q → A0 q)
    (kx : ∀ (E : String) (ce : Cell) (q9 : Addr) (u : SX) (t : State) (H1 : Heap) (locs1 : List Loc), t.heap = H1 → s.vm.Alike t.vm → px u → BX E u t → H.size ≤ H1.size → (∀ q : Nat, q < H.size → ¬ AX q → H1[q]? = H[q]?) → va_S A0 H0 H1 locs1 → H1[q9]? = some ce → ce.vm = .none → s.vm.findClass E = some ce.cls → vx_W p l e R s m args below meth c H1 locs1 (cells + mc) (slots + ms) Q (F0 m pc ls rest) q9)
    (kk : ∀ (r : Int32) (u : S) (t : State) (H1 : Heap) (locs1 : List Loc), t.heap = H1 → s.vm.Alike t.vm → post r u → B u t → H.size ≤ H1.size → (∀ q : Nat, q < H.size → ¬ A1 q → H1[q]? = H[q]?) → va_S A0 H0 H1 locs1 → W p l e R s m args below meth c H1 locs1 (cells + mc) (slots + ms) Q (F0 m (pc + 3) ls (.int r :: rest))) : W p l e R s m args below meth c H locs cells slots Q (F0 m pc ls st0) := by
  intro T hT X
  rcases hr T hT X with ⟨v, st₀, t, T', L, h0, X', hL, e1, e2, ⟨⟨r, u, hv, hp, hb⟩, hF⟩, st⟩ | ⟨q, st₀, t, T', L, E, ce, h0, X', hL, e1, e2, ⟨u, hp, hb, hF⟩, hce, hcv, hcl, st⟩
  · cases hv
    obtain ⟨k1, k2, k3⟩ := vx_keep h0 e1 hS hA hf hL hF
    obtain ⟨t2, a1, b1⟩ := kk r u t T'.heap (locs ++ L) e1.symm (by rw [← e2]; exact X'.warmed.alike) hp hb k1 k2 k3 T' rfl X'
    exact ⟨t2, st t2 a1, b1⟩
  · obtain ⟨k1, k2, k3⟩ := vx_keep h0 e1 hS hAX hf hL hF
    obtain ⟨t2, a1, b1⟩ := kx E ce q u t T'.heap (locs ++ L) e1.symm (by rw [← e2]; exact X'.warmed.alike) hp hb k1 k2 k3 (by rw [e1]; exact hce) hcv hcl T' rfl X'
    exact ⟨t2, st.trans a1, b1⟩
theorem vx_calll {S SX : Type} {post : Int64 → S → Prop} {px : SX → Prop} {B : S → State → Prop} {BX : String → SX → State → Prop} {AX : Nat → Prop} (hr : vx_Run p l e R s m args below meth c H locs cells slots mc ms (F0 m pc ls st0) rest (va_Ql post B A1 a) (vx_X px BX AX) free) (hS : va_S A0 H0 H locs) (hA : ∀ q, q < H.size → A1 q → A0 q) (hf : ∀ q, free q → A0 q) (hAX : ∀ q, q < H.size → AX q → A0 q)
    (kx : ∀ (E : String) (ce : Cell) (q9 : Addr) (u : SX) (t : State) (H1 : Heap) (locs1 : List Loc), t.heap = H1 → s.vm.Alike t.vm → px u → BX E u t → H.size ≤ H1.size → (∀ q : Nat, q < H.size → ¬ AX q → H1[q]? = H[q]?) → va_S A0 H0 H1 locs1 → H1[q9]? = some ce → ce.vm = .none → s.vm.findClass E = some ce.cls → vx_W p l e R s m args below meth c H1 locs1 (cells + mc) (slots + ms) Q (F0 m pc ls rest) q9)
    (kk : ∀ (r : Int64) (u : S) (t : State) (H1 : Heap) (locs1 : List Loc), t.heap = H1 → s.vm.Alike t.vm → post r u → B u t → H.size ≤ H1.size → (∀ q : Nat, q < H.size → ¬ A1 q → H1[q]? = H[q]?) → va_S A0 H0 H1 locs1 → W p l e R s m args below meth c H1 locs1 (cells + mc) (slots + ms) Q (F0 m (pc + 3) ls (.long r :: rest))) : W p l e R s m args below meth c H locs cells slots Q (F0 m pc ls st0) := by
  intro T hT X
  rcases hr T hT X with ⟨v, st₀, t, T', L, h0, X', hL, e1, e2, ⟨⟨r, u, hv, hp, hb⟩, hF⟩, st⟩ | ⟨q, st₀, t, T', L, E, ce, h0, X', hL, e1, e2, ⟨u, hp, hb, hF⟩, hce, hcv, hcl, st⟩
  · cases hv
    obtain ⟨k1, k2, k3⟩ := vx_keep h0 e1 hS hA hf hL hF
    obtain ⟨t2, a1, b1⟩ := kk r u t T'.heap (locs ++ L) e1.symm (by rw [← e2]; exact X'.warmed.alike) hp hb k1 k2 k3 T' rfl X'
    exact ⟨t2, st t2 a1, b1⟩
  · obtain ⟨k1, k2, k3⟩ := vx_keep h0 e1 hS hAX hf hL hF
    obtain ⟨t2, a1, b1⟩ := kx E ce q u t T'.heap (locs ++ L) e1.symm (by rw [← e2]; exact X'.warmed.alike) hp hb k1 k2 k3 (by rw [e1]; exact hce) hcv hcl T' rfl X'
    exact ⟨t2, st.trans a1, b1⟩
theorem vx_callf {S SX : Type} {post : UInt32 → S → Prop} {px : SX → Prop} {B : S → State → Prop} {BX : String → SX → State → Prop} {AX : Nat → Prop} (hr : vx_Run p l e R s m args below meth c H locs cells slots mc ms (F0 m pc ls st0) rest (va_Qf post B A1 a) (vx_X px BX AX) free) (hS : va_S A0 H0 H locs) (hA : ∀ q, q < H.size → A1 q → A0 q) (hf : ∀ q, free q → A0 q) (hAX : ∀ q, q < H.size → AX q → A0 q)
    (kx : ∀ (E : String) (ce : Cell) (q9 : Addr) (u : SX) (t : State) (H1 : Heap) (locs1 : List Loc), t.heap = H1 → s.vm.Alike t.vm → px u → BX E u t → H.size ≤ H1.size → (∀ q : Nat, q < H.size → ¬ AX q → H1[q]? = H[q]?) → va_S A0 H0 H1 locs1 → H1[q9]? = some ce → ce.vm = .none → s.vm.findClass E = some ce.cls → vx_W p l e R s m args below meth c H1 locs1 (cells + mc) (slots + ms) Q (F0 m pc ls rest) q9)
    (kk : ∀ (r : UInt32) (u : S) (t : State) (H1 : Heap) (locs1 : List Loc), t.heap = H1 → s.vm.Alike t.vm → post r u → B u t → H.size ≤ H1.size → (∀ q : Nat, q < H.size → ¬ A1 q → H1[q]? = H[q]?) → va_S A0 H0 H1 locs1 → W p l e R s m args below meth c H1 locs1 (cells + mc) (slots + ms) Q (F0 m (pc + 3) ls (.float r :: rest))) : W p l e R s m args below meth c H locs cells slots Q (F0 m pc ls st0) := by
  intro T hT X
  rcases hr T hT X with ⟨v, st₀, t, T', L, h0, X', hL, e1, e2, ⟨⟨r, u, hv, hp, hb⟩, hF⟩, st⟩ | ⟨q, st₀, t, T', L, E, ce, h0, X', hL, e1, e2, ⟨u, hp, hb, hF⟩, hce, hcv, hcl, st⟩
  · cases hv
    obtain ⟨k1, k2, k3⟩ := vx_keep h0 e1 hS hA hf hL hF
    obtain ⟨t2, a1, b1⟩ := kk r u t T'.heap (locs ++ L) e1.symm (by rw [← e2]; exact X'.warmed.alike) hp hb k1 k2 k3 T' rfl X'
    exact ⟨t2, st t2 a1, b1⟩
  · obtain ⟨k1, k2, k3⟩ := vx_keep h0 e1 hS hAX hf hL hF
    obtain ⟨t2, a1, b1⟩ := kx E ce q u t T'.heap (locs ++ L) e1.symm (by rw [← e2]; exact X'.warmed.alike) hp hb k1 k2 k3 (by rw [e1]; exact hce) hcv hcl T' rfl X'
    exact ⟨t2, st.trans a1, b1⟩
theorem vx_calld {S SX : Type} {post : UInt64 → S → Prop} {px : SX → Prop} {B : S → State → Prop} {BX : String → SX → State → Prop} {AX : Nat → Prop} (hr : vx_Run p l e R s m args below meth c H locs cells slots mc ms (F0 m pc ls st0) rest (va_Qd post B A1 a) (vx_X px BX AX) free) (hS : va_S A0 H0 H locs) (hA : ∀ q, q < H.size → A1 q → A0 q) (hf : ∀ q, free q → A0 q) (hAX : ∀ q, q < H.size → AX q → A0 q)
    (kx : ∀ (E : String) (ce : Cell) (q9 : Addr) (u : SX) (t : State) (H1 : Heap) (locs1 : List Loc), t.heap = H1 → s.vm.Alike t.vm → px u → BX E u t → H.size ≤ H1.size → (∀ q : Nat, q < H.size → ¬ AX q → H1[q]? = H[q]?) → va_S A0 H0 H1 locs1 → H1[q9]? = some ce → ce.vm = .none → s.vm.findClass E = some ce.cls → vx_W p l e R s m args below meth c H1 locs1 (cells + mc) (slots + ms) Q (F0 m pc ls rest) q9)
    (kk : ∀ (r : UInt64) (u : S) (t : State) (H1 : Heap) (locs1 : List Loc), t.heap = H1 → s.vm.Alike t.vm → post r u → B u t → H.size ≤ H1.size → (∀ q : Nat, q < H.size → ¬ A1 q → H1[q]? = H[q]?) → va_S A0 H0 H1 locs1 → W p l e R s m args below meth c H1 locs1 (cells + mc) (slots + ms) Q (F0 m (pc + 3) ls (.double r :: rest))) : W p l e R s m args below meth c H locs cells slots Q (F0 m pc ls st0) := by
  intro T hT X
  rcases hr T hT X with ⟨v, st₀, t, T', L, h0, X', hL, e1, e2, ⟨⟨r, u, hv, hp, hb⟩, hF⟩, st⟩ | ⟨q, st₀, t, T', L, E, ce, h0, X', hL, e1, e2, ⟨u, hp, hb, hF⟩, hce, hcv, hcl, st⟩
  · cases hv
    obtain ⟨k1, k2, k3⟩ := vx_keep h0 e1 hS hA hf hL hF
    obtain ⟨t2, a1, b1⟩ := kk r u t T'.heap (locs ++ L) e1.symm (by rw [← e2]; exact X'.warmed.alike) hp hb k1 k2 k3 T' rfl X'
    exact ⟨t2, st t2 a1, b1⟩
  · obtain ⟨k1, k2, k3⟩ := vx_keep h0 e1 hS hAX hf hL hF
    obtain ⟨t2, a1, b1⟩ := kx E ce q u t T'.heap (locs ++ L) e1.symm (by rw [← e2]; exact X'.warmed.alike) hp hb k1 k2 k3 (by rw [e1]; exact hce) hcv hcl T' rfl X'
    exact ⟨t2, st.trans a1, b1⟩
theorem vx_callv {S SX : Type} {post : S → Prop} {px : SX → Prop} {B : S → State → Prop} {BX : String → SX → State → Prop} {AX : Nat → Prop} (hr : vx_Run p l e R s m args below meth c H locs cells slots mc ms (F0 m pc ls st0) rest (va_Qv post B A1 a) (vx_X px BX AX) free) (hS : va_S A0 H0 H locs) (hA : ∀ q, q < H.size → A1 q → A0 q) (hf : ∀ q, free q → A0 q) (hAX : ∀ q, q < H.size → AX q → A0 q)
    (kx : ∀ (E : String) (ce : Cell) (q9 : Addr) (u : SX) (t : State) (H1 : Heap) (locs1 : List Loc), t.heap = H1 → s.vm.Alike t.vm → px u → BX E u t → H.size ≤ H1.size → (∀ q : Nat, q < H.size → ¬ AX q → H1[q]? = H[q]?) → va_S A0 H0 H1 locs1 → H1[q9]? = some ce → ce.vm = .none → s.vm.findClass E = some ce.cls → vx_W p l e R s m args below meth c H1 locs1 (cells + mc) (slots + ms) Q (F0 m pc ls rest) q9)
    (kk : ∀ (u : S) (t : State) (H1 : Heap) (locs1 : List Loc), t.heap = H1 → s.vm.Alike t.vm → post u → B u t → H.size ≤ H1.size → (∀ q : Nat, q < H.size → ¬ A1 q → H1[q]? = H[q]?) → va_S A0 H0 H1 locs1 → W p l e R s m args below meth c H1 locs1 (cells + mc) (slots + ms) Q (F0 m (pc + 3) ls (rest))) : W p l e R s m args below meth c H locs cells slots Q (F0 m pc ls st0) := by
  intro T hT X
  rcases hr T hT X with ⟨v, st₀, t, T', L, h0, X', hL, e1, e2, ⟨⟨u, hv, hp, hb⟩, hF⟩, st⟩ | ⟨q, st₀, t, T', L, E, ce, h0, X', hL, e1, e2, ⟨u, hp, hb, hF⟩, hce, hcv, hcl, st⟩
  · cases hv
    obtain ⟨k1, k2, k3⟩ := vx_keep h0 e1 hS hA hf hL hF
    obtain ⟨t2, a1, b1⟩ := kk u t T'.heap (locs ++ L) e1.symm (by rw [← e2]; exact X'.warmed.alike) hp hb k1 k2 k3 T' rfl X'
    exact ⟨t2, st t2 a1, b1⟩
  · obtain ⟨k1, k2, k3⟩ := vx_keep h0 e1 hS hAX hf hL hF
    obtain ⟨t2, a1, b1⟩ := kx E ce q u t T'.heap (locs ++ L) e1.symm (by rw [← e2]; exact X'.warmed.alike) hp hb k1 k2 k3 (by rw [e1]; exact hce) hcv hcl T' rfl X'
    exact ⟨t2, st.trans a1, b1⟩
/-- caught by the row x of this method's table; the rows ahead don't take it -/
theorem vx_catch {own name : String} {E : String} {ce : Cell} {q : Addr} (hown : s.vm.findClass own = some m.cls) (pre : List ExceptionTableEntry) (x : ExceptionTableEntry) (suf : List ExceptionTableEntry) (hsplit : c.exceptionTable.toList = pre ++ x :: suf)
    (hpass : ∀ z ∈ pre, covers z pc = false ∨ (z.catchType ≠ 0 ∧ ∃ nm : String, (Cond.classLink own z.catchType nm).before args s = true ∧ va_Nc E nm s)) (hx : covers x pc = true) (h0 : x.catchType ≠ 0)
    (hlink : (Cond.classLink own x.catchType name).before args s = true) (hcast : (Cond.castable E name).before args s = true) (hcell : H[q]? = some ce) (hv : ce.vm = .none) (hcl : s.vm.findClass E = some ce.cls)
    (kk : W p l e R s m args below meth c H locs cells slots Q (F0 m x.handlerPc ls [.ref q])) : vx_W p l e R s m args below meth c H locs cells slots Q (F0 m pc ls rest) q := by
  intro T hT X
  have hpl : e.platform.magicAccessors = ({} : Platform).magicAccessors := by rw [X.admits.platform]
  obtain ⟨c3, c4, hc3, hc4, hasg⟩ := Cond.castable_spec hcast
  cases Option.some.inj (hc3.symm.trans hcl)
  obtain ⟨c5, hc5, hcl5⟩ := Cond.classLink_spec hown hlink e.platform hpl
  cases Option.some.inj (hc4.symm.trans hc5)
  obtain ⟨vm', X', st⟩ := X.thenCaughtThrough q (g := F0 m pc ls rest) rfl (Steps.refl _) (by rw [hT]; exact hcell) (by rw [hv]; rfl) (by obtain ⟨k9, h9, -⟩ := Vm.findClass_spec hcl; exact ⟨k9, h9⟩) pre x suf hsplit
    (fun z hz => by
      rcases hpass z hz with h | ⟨hz0, nm, hl1, hn1⟩
      · exact Or.inl h
      · obtain ⟨c6, hc6, hcl6⟩ := Cond.classLink_spec hown hl1 e.platform hpl
        obtain ⟨a8, b8, h1, h2, h3⟩ := hn1
        cases Option.some.inj (h1.symm.trans hcl)
        cases Option.some.inj (h2.symm.trans hc6)
        exact Or.inr ⟨hz0, _, hcl6, h3⟩) hx (Or.inr ⟨h0, c4, hcl5, hasg⟩)
  obtain ⟨t, a1, b1⟩ := kk (T.setVm vm') hT X'
  exact ⟨t, st.trans a1, b1⟩
end Rows
section Ends
variable {p : Program} {l : Launch} {e : Env} {R : Room} {s : State} {m : MethodId} {args : Array Value} {below : List Frame} {meth : Method} {c : Code} {H : Heap} {locs : List Loc} {cells slots : Nat} {Q : State → Prop}
variable {mc ms : Nat} {free : Addr → Prop} {A0 A1 : Nat → Prop} {H0 : Heap} {a : Array Value} {ls : Array Slot} {st0 rest : List Value}
variable {Qc : Array Value → State → Outcome → State → Prop} {XC : String → State → State → Prop}
/-- what a body that may throw owes at its end -/
def vx_MQ (below : List Frame) (Qc : Array Value → State → Outcome → State → Prop) (XC : String → State → State → Prop) (a : Array Value) (s : State) (mc ms : Nat) (free : Addr → Prop) : State → Prop := fun t =>
  ∃ o, t.status = .running ∧ Ended t below o ∧ vx_Q Qc XC mc ms free a s o t
theorem vx_ret {g : JFrame} {mc ms : Nat} (k : W p l e R s m args below meth c H locs cells slots (MQ below Qc args s mc ms free) g) : W p l e R s m args below meth c H locs cells slots (vx_MQ below Qc XC args s mc ms free) g := by
  intro T hT X
  obtain ⟨t, a1, o, b1, b2, b3, b4⟩ := k T hT X
  exact ⟨t, a1, o, b1, b2, Or.inl ⟨b3, b4⟩⟩
/-- not caught here: it goes on to the caller -/
theorem vx_widen {g : JFrame} {q : Addr} {k n : Nat} (h1 : cells ≤ k) (h2 : slots ≤ n) (kk : vx_W p l e R s m args below meth c H locs k n Q g q) : vx_W p l e R s m args below meth c H locs cells slots Q g q := fun T hT X => kk T hT (stand_widen X h1 h2)
theorem vx_out {pc : Nat} {E : String} {ce : Cell} {q : Addr} {mc ms : Nat} (hout : ∀ x ∈ c.exceptionTable.toList, covers x pc = false) (hlocks : meth.locks = false) (hcell : H[q]? = some ce) (hv : ce.vm = .none) (hcl : s.vm.findClass E = some ce.cls)
    (hx : ∀ t : State, t.heap = H → s.vm.Alike t.vm → XC E s t) (hf : ∀ z ∈ locs, free z.base) (hc : cells ≤ mc) (hs : slots ≤ ms) :
    vx_W p l e R s m args below meth c H locs cells slots (vx_MQ below Qc XC args s mc ms free) (F0 m pc ls rest) q := by
  intro T hT X
  obtain ⟨st1, hrun, hend, hW, hsm⟩ := X.leaveThrown q (g := F0 m pc ls rest) rfl rfl rfl hout hlocks
  have hcell9 : (T.setFrames (.throwing q :: below)).heap[q]? = some ce := by
    show T.heap[q]? = some ce
    rw [hT]; exact hcell
  exact ⟨_, st1, .threw q, hrun, hend, Or.inr ⟨q, rfl, E, ce, locs, hx _ hT hW.alike, hcell9, hv, hcl, hW, hsm.mono hc hs, hf⟩⟩
theorem vx_frame {U : State} {k n : Nat} (h : s.sameButNew ({ U with vm := s.vm } : State) locs k n) : s.heap.size ≤ U.heap.size ∧ ∀ q : Nat, q < s.heap.size → (∀ z ∈ locs, z.base ≠ q) → U.heap[q]? = s.heap[q]? := by
  obtain ⟨-, h2, -, -, -, h6⟩ := h
  refine ⟨h2, fun q hq hz => ?_⟩
  obtain ⟨c9, e1, e2, e3, e4⟩ := h6 q _ (Array.getElem?_eq_getElem hq)
  have hs : c9.slots = (s.heap[q]).slots := Array.ext_getElem? fun i => e4 i fun hm => hz _ hm rfl
  have h9 : c9 = s.heap[q] := by
    rw [hs] at e2
    exact e2
  have e5 : U.heap[q]? = some c9 := e1
  rw [e5, h9, Array.getElem?_eq_getElem hq]
/-- the words of a throw but the four that speak of the heap -/
def vx_no (w : Cond) : Bool := decide (w ≠ .isRef (.static Bundle.tN "UNASSIGNED_STACK" Bundle.steD)) && decide (w ≠ .isRef (.static Bundle.tN "SUPPRESSED_SENTINEL" Bundle.listD)) && decide (w ≠ .laysStatic Bundle.tN "UNASSIGNED_STACK" Bundle.steD) && decide (w ≠ .laysStatic Bundle.tN "SUPPRESSED_SENTINEL" Bundle.listD)
def vx_at0 (own : String) (ic : Nat) (X : String) (names : List String) : List Cond := (Bundle.ownAtoms0 own ic X names).filter vx_no
def vx_atS (own : String) (ic : Nat) (X : String) (names : List String) : List Cond := (Bundle.ownAtoms own ic X names).filter vx_no
/-- a word that the tables alone decide, or a good one -/
def vx_ot (w : Cond) : Bool := w.onTables || goodWord w
theorem vx_ot_at {args a' : Array Value} {s U : State} {w : Cond} (hW : s.WarmedH U.vm) (hvm : s.vm = U.vm) (hg : vx_ot w = true) (h : w.before args s = true) : w.before a' U = true := by
  simp only [vx_ot, Bool.or_eq_true] at hg
  rcases hg with hg | hg
  · exact va_tabs hg hvm h
  · exact word_at hW (good_of_word hg) h
/-- a list's words: the good ones out of the method's own list, the others by premises of their own -/
theorem vx_hat {args : Array Value} {s : State} {L B : List Cond} (h1 : ∀ w ∈ L.filter goodWord, w.before args s = true) (h2 : ∀ w ∈ L.filter (fun w => !goodWord w), w ∈ B) (h3 : ∀ w ∈ B, w.before args s = true) : ∀ w ∈ L, w.before args s = true := by
  intro w hw
  by_cases g : goodWord w = true
  · exact h1 w (List.mem_filter.mpr ⟨hw, g⟩)
  · refine h3 w (h2 w (List.mem_filter.mpr ⟨hw, ?_⟩))
    show (!goodWord w) = true
    cases hgw : goodWord w
    · rfl
    · exact absurd hgw g
theorem vx_c {args : Array Value} {s : State} {w : Cond} {B : List Cond} (h : w.before args s = true) (t : ∀ w ∈ B, w.before args s = true) : ∀ w' ∈ w :: B, w'.before args s = true := fun w' h' => (List.mem_cons.mp h').elim (fun e => by rw [e]; exact h) (t w')
theorem vx_n {args : Array Value} {s : State} : ∀ w ∈ ([] : List Cond), w.before args s = true := fun _ h => nomatch h
theorem vx_own {args : Array Value} {s : State} {L : List Cond} (h1 : ∀ w ∈ L.filter vx_no, w.before args s = true)
    (hU : (Cond.isRef (.static Bundle.tN "UNASSIGNED_STACK" Bundle.steD)).before args s = true) (hN : (Cond.isRef (.static Bundle.tN "SUPPRESSED_SENTINEL" Bundle.listD)).before args s = true)
    (lU : (Cond.laysStatic Bundle.tN "UNASSIGNED_STACK" Bundle.steD).before args s = true) (lN : (Cond.laysStatic Bundle.tN "SUPPRESSED_SENTINEL" Bundle.listD).before args s = true) : ∀ w ∈ L, w.before args s = true := by
  intro w hw
  by_cases e1 : w = .isRef (.static Bundle.tN "UNASSIGNED_STACK" Bundle.steD)
  · rw [e1]; exact hU
  · by_cases e2 : w = .isRef (.static Bundle.tN "SUPPRESSED_SENTINEL" Bundle.listD)
    · rw [e2]; exact hN
    · by_cases e3 : w = .laysStatic Bundle.tN "UNASSIGNED_STACK" Bundle.steD
      · rw [e3]; exact lU
      · by_cases e4 : w = .laysStatic Bundle.tN "SUPPRESSED_SENTINEL" Bundle.listD
        · rw [e4]; exact lN
        · exact h1 w (List.mem_filter.mpr ⟨hw, by unfold vx_no; rw [decide_eq_true e1, decide_eq_true e2, decide_eq_true e3, decide_eq_true e4]; rfl⟩)
/-- where a static field lies, its class's statics cell in H -/
def vx_L (C n d : String) (A : Nat → Prop) (U : State) (H : Heap) : Prop := ∃ (c : ClassId) (k : Class) (i : Nat) (f : Field) (a : Nat) (cell : Cell), U.vm.findClass C = some c ∧ U.fieldFound? C n d = some (c, k, i, f) ∧ f.isStatic = true ∧ k.statics = some a ∧ H[a]? = some cell ∧ cell.vm.isStatics = true ∧ cell.cls = c ∧ f.slot < cell.slots.size ∧ k.staticTypes[f.slot]? = some f.type ∧ ¬ A a
theorem vx_L.moved {C n d : String} {A : Nat → Prop} {u U : State} {H : Heap} (hvm : u.vm.Alike U.vm) (h : vx_L C n d A u H) : vx_L C n d A U H := by
  obtain ⟨c, k, i, f, a, cell, h1, h2, h3, h4, h5, h6, h7, h8, h9, h10⟩ := h
  obtain ⟨k', hi', he⟩ := State.fieldFound?_setVm hvm h2
  exact ⟨c, k', i, f, a, cell, by rw [hvm.findClass]; exact h1, hi', h3, by rw [he]; exact h4, h5, h6, h7, h8, by rw [he]; exact h9, h10⟩
theorem vx_L.kept {C n d : String} {A : Nat → Prop} {U : State} {H H1 : Heap} (h : vx_L C n d A U H) (hq : ∀ a : Nat, a < H.size → ¬ A a → H1[a]? = H[a]?) : vx_L C n d A U H1 := by
  obtain ⟨c, k, i, f, a, cell, h1, h2, h3, h4, h5, h6, h7, h8, h9, h10⟩ := h
  exact ⟨c, k, i, f, a, cell, h1, h2, h3, h4, by rw [hq a (Array.getElem?_eq_some_iff.mp h5).1 h10]; exact h5, h6, h7, h8, h9, h10⟩
theorem vx_L.narrow {C n d : String} {A B : Nat → Prop} {U : State} {H : Heap} (h : vx_L C n d A U H) (hAB : ∀ q, B q → A q) : vx_L C n d B U H := by
  obtain ⟨c, k, i, f, a, cell, h1, h2, h3, h4, h5, h6, h7, h8, h9, h10⟩ := h
  exact ⟨c, k, i, f, a, cell, h1, h2, h3, h4, h5, h6, h7, h8, h9, fun z => h10 (hAB _ z)⟩
theorem vx_L.word {C n d : String} {A : Nat → Prop} {s : State} {args : Array Value} (h : vx_L C n d A s s.heap) : (Cond.laysStatic C n d).before args s = true := by
  obtain ⟨c, k, i, f, a, cell, h1, h2, h3, h4, h5, h6, h7, h8, h9, -⟩ := h
  show (Cond.laysStatic C n d).holds args s none s [] = true
  exact Cond.laysStatic_of h1 h2 h3 h4 h5 h6 h7 h8 h9
/-- .. and what it holds: null or some reference -/
def vx_Zq (C n d : String) (A : Nat → Prop) (U : State) (H : Heap) : Prop := va_Zq C n d A U H ∧ vx_L C n d A U H
theorem vx_Zq.moved {C n d : String} {A : Nat → Prop} {u U : State} {H : Heap} (hvm : u.vm.Alike U.vm) (h : vx_Zq C n d A u H) : vx_Zq C n d A U H := ⟨va_Zq.moved hvm h.1, vx_L.moved hvm h.2⟩
theorem vx_Zq.kept {C n d : String} {A : Nat → Prop} {U : State} {H H1 : Heap} (h : vx_Zq C n d A U H) (hq : ∀ a : Nat, a < H.size → ¬ A a → H1[a]? = H[a]?) : vx_Zq C n d A U H1 := ⟨va_Zq.kept h.1 hq, vx_L.kept h.2 hq⟩
theorem vx_Zq.narrow {C n d : String} {A B : Nat → Prop} {U : State} {H : Heap} (h : vx_Zq C n d A U H) (hAB : ∀ q, B q → A q) : vx_Zq C n d B U H := ⟨va_Zq.narrow h.1 hAB, vx_L.narrow h.2 hAB⟩
theorem vx_Zqof {args : Array Value} {s : State} {C n d : String} {A : Nat → Prop} (hl : (Cond.laysStatic C n d).before args s = true) (hini : (Cond.initialized C).before args s = true) (h : (Cond.isRef (.static C n d)).before args s = true) (hA : ∀ a : Nat, a < s.heap.size → ¬ A a) : vx_Zq C n d A s s.heap := by
  refine ⟨va_Zqof hl hini h hA, ?_⟩
  obtain ⟨c, k, i, f, a, cell, h1, h2, h3, h4, h5, h6, h7, h8, h9⟩ := Cond.laysStatic_spec hl
  exact ⟨c, k, i, f, a, cell, h1, h2, h3, h4, h5, h6, h7, h8, h9, hA a (Array.getElem?_eq_some_iff.mp h5).1⟩
theorem vx_isRef {C n d : String} {v : Value} {A : Nat → Prop} {s : State} {args : Array Value} (h : va_Z C n d v A s s.heap) (hv : v.isRef = true) : (Cond.isRef (.static C n d)).before args s = true := by
  obtain ⟨cf, kf, fi, f, a, cell, h1, h2, h3, h4, h5, h6, h7, -⟩ := h
  have he : (Term.static C n d).eval args s none [] s = some v := by
    simp [Term.eval, State.fieldNamed?, h1, h2, h4, h5, h6, h7]
  simp only [Cond.before, Cond.holds, Cond.value, he]
  cases v <;> simp_all [Value.isRef]
theorem vx_isRefq {C n d : String} {A : Nat → Prop} {s : State} {args : Array Value} (h : va_Zq C n d A s s.heap) : (Cond.isRef (.static C n d)).before args s = true := by
  rcases h with h | ⟨t, h⟩
  · exact vx_isRef h rfl
  · exact vx_isRef h rfl
/-- the same frame, seen from here: as if the method were called anew in this heap -/
theorem vx_rebase {T : State} (X : Stand p l e R s m args below meth c T locs cells slots) {R' : Room} (hf : R'.frames ≤ R.frames) (hl : R'.locals ≤ R.locals) (hc : cells + R'.cells ≤ R.cells) (hs : slots + R'.slots ≤ R.slots) :
    Stand p l e R' ((T.setVm s.vm).setFrames (.invoking m args :: below)) m args below meth c T [] 0 0 := by
  have htop : (T.setVm s.vm).topJava?.isSome := X.here.top
  have hF : ((T.setVm s.vm).setFrames (.invoking m args :: below)).frames = .invoking m args :: below := State.frames_setFrames _ (State.cur_lt_of_top htop)
  obtain ⟨g₀, hg0⟩ := Option.isSome_iff_exists.mp htop
  obtain ⟨r, hr⟩ := State.topJava?_eq_some.mp hg0
  have hl9 : e.platform.stackLimits (T.setVm s.vm).me = e.platform.stackLimits s.me := X.limits
  have hb9 : (T.setVm s.vm).me.stackBytes = s.me.stackBytes := X.bytes
  refine ⟨X.admits, X.cas, X.clock, hF, ?_, X.hears, X.method, X.code, X.here, X.tail, X.warmed, ?_, ?_, ?_⟩
  · have h := X.room
    have hU : ((T.setVm s.vm).setFrames (.invoking m args :: below)).localsInUse = s.localsInUse := by
      rw [State.localsInUse_invoking hF (meth := meth) (c := c) X.method X.code, State.localsInUse_invoking X.frames X.method X.code]
    simp only [State.hasRoom, Bool.and_eq_true, decide_eq_true_eq] at h ⊢
    obtain ⟨⟨⟨⟨h1, h2, h3, h4, h5, h6⟩, h7⟩, h8⟩, h9⟩ := h
    rw [X.frames, List.length_cons] at h2 h3
    have q1 := X.heapSize
    have q2 := X.used
    simp only [hF, hU, List.length_cons, State.stackLimits_setFrames, State.stackBytes_setFrames, hl9, hb9]
    refine ⟨⟨⟨⟨by omega, by omega, by omega, by omega, by omega, h6⟩, ?_⟩, ?_⟩, X.book⟩
    · show T.heap.size + R'.cells ≤ e.platform.maxCells
      omega
    · show T.slotsUsed + R'.slots ≤ e.platform.maxSlots
      omega
  · rw [State.stackLimits_setFrames]; rfl
  · rw [State.stackBytes_setFrames]; rfl
  · refine ⟨?_, Nat.le_refl _, Nat.le_refl _, ?_, ?_, fun a c9 h9 => ⟨c9, h9, rfl, rfl, fun _ _ => rfl⟩⟩
    · obtain ⟨t, ht, -⟩ := State.frames_cons hr
      show T.setVm s.vm = { ((T.setVm s.vm).setFrames (.invoking m args :: below)).setFrames (T.setVm s.vm).frames with heap := T.heap, slotsUsed := T.slotsUsed }
      rw [State.setFrames_setFrames, State.setFrames_self ht]
      rfl
    · show T.slotsUsed = T.slotsUsed + ((T.heap.toList.drop T.heap.size).map (·.slots.size)).sum
      rw [List.drop_eq_nil_of_le (Nat.le_of_eq Array.length_toList)]
      rfl
    · show ((T.heap.toList.drop T.heap.size).map (·.slots.size)).sum ≤ 0
      rw [List.drop_eq_nil_of_le (Nat.le_of_eq Array.length_toList)]
      exact Nat.le_refl _
/-- 'throw new E()': new; dup; invokespecial; athrow -/
theorem vx_throw0 {cc : ByteArray} {pc : Nat} (hexec : p.tables.exec = Jvm.exec) (hb : c.code = cc) (hl : l.stackTraces = false) {own cls : String} {names : List String} {ik ic mc ms : Nat} {A : Nat → Prop}
    (hown : s.vm.findClass own = some m.cls) (hcls : Bundle.fit cls = true) (hnames : ∀ n ∈ names, Bundle.fit n = true)
    (hk : (Cond.classLink own ik cls).before args s = true) (hini : (Cond.initialized cls).before args s = true) (hat : ∀ w ∈ vx_at0 own ic cls names, w.before args s = true)
    (hgood : ∀ w ∈ Cond.classLink own ik cls :: Cond.initialized cls :: vx_at0 own ic cls names, vx_ot w = true)
    (hU : vx_Zq Bundle.tN "UNASSIGNED_STACK" Bundle.steD A s s.heap) (hN : vx_Zq Bundle.tN "SUPPRESSED_SENTINEL" Bundle.listD A s s.heap) (hS : va_S A s.heap H locs) (hsize : ls.size = c.maxLocals)
    (d0 : decode cc pc = .ok (.new ik, 3)) (d3 : decode cc (pc + 3) = .ok (.dup, 1)) (d4 : decode cc (pc + 4) = .ok (.invokespecial ic, 3)) (d7 : decode cc (pc + 7) = .ok (.athrow, 1))
    (hout : ∀ x ∈ c.exceptionTable.toList, covers x (pc + 7) = false)
    (hRframes : names.length + 3 < R.frames) (hRlocals : (rest.map fun v => v.category).sum + (13 * (names.length + 1) + 42) ≤ R.locals) (hRcells : cells + 1 ≤ R.cells) (hRslots : slots + 6 ≤ R.slots) (hlocks : meth.locks = false)
    (hx : ∀ t : State, s.vm.Alike t.vm → H.size ≤ t.heap.size → (∀ q : Nat, q < H.size → t.heap[q]? = H[q]?) → XC cls s t)
    (hf : ∀ z ∈ locs, free z.base) (hc : cells + 1 ≤ mc) (hs : slots + 6 ≤ ms) :
    W p l e R s m args below meth c H locs cells slots (vx_MQ below Qc XC args s mc ms free) (F0 m pc ls rest) := by
  intro T hT X
  have htr : e.platform.stackTraces = false := (show e.platform.stackTraces = l.stackTraces by rw [X.admits.platform]).trans hl
  have Y := vx_rebase X (R' := { frames := R.frames, locals := R.locals, cells := 1, slots := 6 }) (Nat.le_refl _) (Nat.le_refl _) hRcells hRslots
  obtain ⟨s', hA⟩ : ∃ z, z = (T.setVm s.vm).setFrames (.invoking m args :: below) := ⟨_, rfl⟩
  rw [← hA] at Y
  have hvm : s'.vm = s.vm := by rw [hA]; rfl
  have hhp : s'.heap = H := by rw [hA]; exact hT
  have hW0 : s.WarmedH s'.vm := by rw [hvm]; exact State.WarmedH.refl s
  have hat' : ∀ w ∈ vx_at0 own ic cls names, w.before args s' = true := fun w hw => vx_ot_at hW0 hvm.symm (hgood w (List.mem_cons_of_mem _ (List.mem_cons_of_mem _ hw))) (hat w hw)
  have hk' : (Cond.classLink own ik cls).before args s' = true := vx_ot_at hW0 hvm.symm (hgood _ List.mem_cons_self) hk
  have hini' : (Cond.initialized cls).before args s' = true := vx_ot_at hW0 hvm.symm (hgood _ (List.mem_cons_of_mem _ List.mem_cons_self)) hini
  have hU' : vx_Zq Bundle.tN "UNASSIGNED_STACK" Bundle.steD A s' s'.heap := by rw [hhp]; exact vx_Zq.moved hW0.alike (hU.kept hS.2.1)
  have hN' : vx_Zq Bundle.tN "SUPPRESSED_SENTINEL" Bundle.listD A s' s'.heap := by rw [hhp]; exact vx_Zq.moved hW0.alike (hN.kept hS.2.1)
  have h : ∀ w ∈ Bundle.ownAtoms0 own ic cls names, w.before args s' = true := vx_own hat' (vx_isRefq hU'.1) (vx_isRefq hN'.1) hU'.2.word hN'.2.word
  have hown' : s'.vm.findClass own = some m.cls := by rw [hvm]; exact hown
  have hins : (Cond.instantiable cls 6).before args s' = true := h _ (by simp [Bundle.ownAtoms0])
  obtain ⟨vm₁, cX, kX, hfX, hkX, -, -, X₁, st1⟩ := Y.newCold hexec (own := own) (C := cls) (index := ik) (n := 6) hown' hk' hins hini'
    (g := F0 m pc ls rest) rfl (by rw [hb]; exact d0) (Nat.le_refl _) (Nat.le_refl _)
  generalize hT1 : (T.setVm vm₁).pushCell { cls := cX, slots := kX.instanceTypes.map defaultValue, vm := .none } = T1 at X₁ st1
  have hcat : (Value.ref T.heap.size).category = 1 := rfl
  have hcellA : T1.heap[T.heap.size]? = some (freshCell cX kX) := by rw [← hT1]; exact State.heap_pushCell_size _ _
  have d3' : decode c.code (pc + 3) = .ok (.dup, 1) := by rw [hb]; exact d3
  obtain ⟨U, hsteps, hrun, hend, hW, hsame, ce, hce, hO⟩ := X₁.ctorThrow0 hexec htr (own := own) (cls := cls) (names := names) (ic := ic) hown' hcls hnames h (fun x hx => nomatch hx) hfX hkX hcellA (by rw [hhp, hT]; exact Nat.le_refl _)
    (g := { method := m, pc := pc + 4, locals := ls, stack := .ref T.heap.size :: .ref T.heap.size :: rest, locked := none }) rfl hsize rfl rfl (rest := rest) rfl
    (by rw [hb]; exact d4) (by rw [hb]; exact d7) hout hRframes (by simp only [List.map_cons, List.sum_cons, hcat]; omega) hlocks
  obtain ⟨f1, f2⟩ := vx_frame hsame
  rw [hhp] at f1 f2
  have hWs : s.WarmedH U.vm := State.WarmedH.trans hW0 hW
  have hcl : s.vm.findClass cls = some ce.cls := by
    have h9 := hO.cls
    rw [hvm] at h9
    exact h9
  have hall : s.sameButNew ({ U with vm := s.vm } : State) locs mc ms := by
    subst hA
    obtain ⟨e1, e2⟩ := hsame
    rw [State.setFrames_setFrames] at e1
    have h2 : (T.setVm s.vm).sameButNew ({ U with vm := s.vm } : State) [] (0 + 1) (0 + 6) := ⟨e1, e2⟩
    have h3 := X.same.trans h2
    rw [List.append_nil] at h3
    exact h3.mono hc hs
  refine ⟨U, ?_, .threw T.heap.size, hrun, hend, Or.inr ⟨T.heap.size, rfl, cls, ce, locs, hx U hWs.alike f1 (fun q hq => f2 q hq (fun z hz => nomatch hz)), hce, hO.vm, hcl, hWs, hall, hf⟩⟩
  refine st1 _ ?_
  show Steps p.tables e below (T1.setTop { method := m, pc := pc + 3, locals := ls, stack := .ref T.heap.size :: rest, locked := none }) _
  jvm_step X₁.here [X₁.here.top, hexec, d3', Value.category]
  exact hsteps
/-- 'throw new E("text")': new; dup; ldc; invokespecial; athrow -/
theorem vx_throwS {cc : ByteArray} {pc : Nat} (hexec : p.tables.exec = Jvm.exec) (hb : c.code = cc) (hl : l.stackTraces = false) {own cls text : String} {names : List String} {ik is ic mc ms sa : Nat} {A : Nat → Prop}
    (hown : s.vm.findClass own = some m.cls) (hcls : Bundle.fit cls = true) (hnames : ∀ n ∈ names, Bundle.fit n = true)
    (hk : (Cond.classLink own ik cls).before args s = true) (hini : (Cond.initialized cls).before args s = true) (hstr : vk_R own is text sa s) (hat : ∀ w ∈ vx_atS own ic cls names, w.before args s = true)
    (hgood : ∀ w ∈ Cond.classLink own ik cls :: Cond.initialized cls :: vx_atS own ic cls names, vx_ot w = true)
    (hU : vx_Zq Bundle.tN "UNASSIGNED_STACK" Bundle.steD A s s.heap) (hN : vx_Zq Bundle.tN "SUPPRESSED_SENTINEL" Bundle.listD A s s.heap) (hS : va_S A s.heap H locs) (hsize : ls.size = c.maxLocals)
    (d0 : decode cc pc = .ok (.new ik, 3)) (d3 : decode cc (pc + 3) = .ok (.dup, 1)) (d4 : decode cc (pc + 4) = .ok (.ldc is, 2)) (d6 : decode cc (pc + 6) = .ok (.invokespecial ic, 3)) (d9 : decode cc (pc + 9) = .ok (.athrow, 1))
    (hout : ∀ x ∈ c.exceptionTable.toList, covers x (pc + 9) = false)
    (hRframes : names.length + 3 < R.frames) (hRlocals : (rest.map fun v => v.category).sum + (13 * (names.length + 1) + 43) ≤ R.locals) (hRcells : cells + 1 ≤ R.cells) (hRslots : slots + 6 ≤ R.slots) (hlocks : meth.locks = false)
    (hx : ∀ t : State, s.vm.Alike t.vm → H.size ≤ t.heap.size → (∀ q : Nat, q < H.size → t.heap[q]? = H[q]?) → XC cls s t)
    (hf : ∀ z ∈ locs, free z.base) (hc : cells + 1 ≤ mc) (hs : slots + 6 ≤ ms) :
    W p l e R s m args below meth c H locs cells slots (vx_MQ below Qc XC args s mc ms free) (F0 m pc ls rest) := by
  intro T hT X
  have htr : e.platform.stackTraces = false := (show e.platform.stackTraces = l.stackTraces by rw [X.admits.platform]).trans hl
  have Y := vx_rebase X (R' := { frames := R.frames, locals := R.locals, cells := 1, slots := 6 }) (Nat.le_refl _) (Nat.le_refl _) hRcells hRslots
  obtain ⟨s', hA⟩ : ∃ z, z = (T.setVm s.vm).setFrames (.invoking m args :: below) := ⟨_, rfl⟩
  rw [← hA] at Y
  have hvm : s'.vm = s.vm := by rw [hA]; rfl
  have hhp : s'.heap = H := by rw [hA]; exact hT
  have hW0 : s.WarmedH s'.vm := by rw [hvm]; exact State.WarmedH.refl s
  have hat' : ∀ w ∈ vx_atS own ic cls names, w.before args s' = true := fun w hw => vx_ot_at hW0 hvm.symm (hgood w (List.mem_cons_of_mem _ (List.mem_cons_of_mem _ hw))) (hat w hw)
  have hk' : (Cond.classLink own ik cls).before args s' = true := vx_ot_at hW0 hvm.symm (hgood _ List.mem_cons_self) hk
  have hini' : (Cond.initialized cls).before args s' = true := vx_ot_at hW0 hvm.symm (hgood _ (List.mem_cons_of_mem _ List.mem_cons_self)) hini
  have hU' : vx_Zq Bundle.tN "UNASSIGNED_STACK" Bundle.steD A s' s'.heap := by rw [hhp]; exact vx_Zq.moved hW0.alike (hU.kept hS.2.1)
  have hN' : vx_Zq Bundle.tN "SUPPRESSED_SENTINEL" Bundle.listD A s' s'.heap := by rw [hhp]; exact vx_Zq.moved hW0.alike (hN.kept hS.2.1)
  have h : ∀ w ∈ Bundle.ownAtoms own ic cls names, w.before args s' = true := vx_own hat' (vx_isRefq hU'.1) (vx_isRefq hN'.1) hU'.2.word hN'.2.word
  have hown' : s'.vm.findClass own = some m.cls := by rw [hvm]; exact hown
  have hins : (Cond.instantiable cls 6).before args s' = true := h _ (by simp [Bundle.ownAtoms])
  obtain ⟨vm₁, cX, kX, hfX, hkX, -, -, X₁, st1⟩ := Y.newCold hexec (own := own) (C := cls) (index := ik) (n := 6) hown' hk' hins hini'
    (g := F0 m pc ls rest) rfl (by rw [hb]; exact d0) (Nat.le_refl _) (Nat.le_refl _)
  generalize hT1 : (T.setVm vm₁).pushCell { cls := cX, slots := kX.instanceTypes.map defaultValue, vm := .none } = T1 at X₁ st1
  have hcat : (Value.ref T.heap.size).category = 1 := rfl
  have hcellA : T1.heap[T.heap.size]? = some (freshCell cX kX) := by rw [← hT1]; exact State.heap_pushCell_size _ _
  have d3' : decode c.code (pc + 3) = .ok (.dup, 1) := by rw [hb]; exact d3
  have d4' : decode c.code (pc + 4) = .ok (.ldc is, 2) := by rw [hb]; exact d4
  have hstr' : vk_R own is text sa s' := vk_R.warm hW0 hstr
  obtain ⟨U, hsteps, hrun, hend, hW, hsame, ce, hce, hO⟩ := X₁.ctorThrowS hexec htr (own := own) (cls := cls) (names := names) (ic := ic) hown' hcls hnames h (fun x hx => nomatch hx) hfX hkX hcellA (by rw [hhp, hT]; exact Nat.le_refl _) (msg := .ref sa) rfl
    (g := { method := m, pc := pc + 6, locals := ls, stack := .ref sa :: .ref T.heap.size :: .ref T.heap.size :: rest, locked := none }) rfl hsize rfl rfl (rest := rest) rfl
    (by rw [hb]; exact d6) (by rw [hb]; exact d9) hout hRframes (by simp only [List.map_cons, List.sum_cons, hcat]; omega) hlocks
  obtain ⟨f1, f2⟩ := vx_frame hsame
  rw [hhp] at f1 f2
  have hWs : s.WarmedH U.vm := State.WarmedH.trans hW0 hW
  have hcl : s.vm.findClass cls = some ce.cls := by
    have h9 := hO.cls
    rw [hvm] at h9
    exact h9
  have hall : s.sameButNew ({ U with vm := s.vm } : State) locs mc ms := by
    subst hA
    obtain ⟨e1, e2⟩ := hsame
    rw [State.setFrames_setFrames] at e1
    have h2 : (T.setVm s.vm).sameButNew ({ U with vm := s.vm } : State) [] (0 + 1) (0 + 6) := ⟨e1, e2⟩
    have h3 := X.same.trans h2
    rw [List.append_nil] at h3
    exact h3.mono hc hs
  refine ⟨U, ?_, .threw T.heap.size, hrun, hend, Or.inr ⟨T.heap.size, rfl, cls, ce, locs, hx U hWs.alike f1 (fun q hq => f2 q hq (fun z hz => nomatch hz)), hce, hO.vm, hcl, hWs, hall, hf⟩⟩
  refine st1 _ ?_
  show Steps p.tables e below (T1.setTop { method := m, pc := pc + 3, locals := ls, stack := .ref T.heap.size :: rest, locked := none }) _
  jvm_step X₁.here [X₁.here.top, hexec, d3', Value.category]
  exact X₁.ldcString hexec (own := own) (text := text) (index := is) (a := sa) hown' hstr'.1 hstr'.2
    (g := { method := m, pc := pc + 4, locals := ls, stack := .ref T.heap.size :: .ref T.heap.size :: rest, locked := none }) rfl d4' _ hsteps
/-- 'throw new E("text")', the text by a wide index -/
theorem vx_throwSW {cc : ByteArray} {pc : Nat} (hexec : p.tables.exec = Jvm.exec) (hb : c.code = cc) (hl : l.stackTraces = false) {own cls text : String} {names : List String} {ik is ic mc ms sa : Nat} {A : Nat → Prop}
    (hown : s.vm.findClass own = some m.cls) (hcls : Bundle.fit cls = true) (hnames : ∀ n ∈ names, Bundle.fit n = true)
    (hk : (Cond.classLink own ik cls).before args s = true) (hini : (Cond.initialized cls).before args s = true) (hstr : vk_R own is text sa s) (hat : ∀ w ∈ vx_atS own ic cls names, w.before args s = true)
    (hgood : ∀ w ∈ Cond.classLink own ik cls :: Cond.initialized cls :: vx_atS own ic cls names, vx_ot w = true)
    (hU : vx_Zq Bundle.tN "UNASSIGNED_STACK" Bundle.steD A s s.heap) (hN : vx_Zq Bundle.tN "SUPPRESSED_SENTINEL" Bundle.listD A s s.heap) (hS : va_S A s.heap H locs) (hsize : ls.size = c.maxLocals)
    (d0 : decode cc pc = .ok (.new ik, 3)) (d3 : decode cc (pc + 3) = .ok (.dup, 1)) (d4 : decode cc (pc + 4) = .ok (.ldc_w is, 3)) (d7 : decode cc (pc + 7) = .ok (.invokespecial ic, 3)) (d10 : decode cc (pc + 10) = .ok (.athrow, 1))
    (hout : ∀ x ∈ c.exceptionTable.toList, covers x (pc + 10) = false)
    (hRframes : names.length + 3 < R.frames) (hRlocals : (rest.map fun v => v.category).sum + (13 * (names.length + 1) + 43) ≤ R.locals) (hRcells : cells + 1 ≤ R.cells) (hRslots : slots + 6 ≤ R.slots) (hlocks : meth.locks = false)
    (hx : ∀ t : State, s.vm.Alike t.vm → H.size ≤ t.heap.size → (∀ q : Nat, q < H.size → t.heap[q]? = H[q]?) → XC cls s t)
    (hf : ∀ z ∈ locs, free z.base) (hc : cells + 1 ≤ mc) (hs : slots + 6 ≤ ms) :
    W p l e R s m args below meth c H locs cells slots (vx_MQ below Qc XC args s mc ms free) (F0 m pc ls rest) := by
  intro T hT X
  have htr : e.platform.stackTraces = false := (show e.platform.stackTraces = l.stackTraces by rw [X.admits.platform]).trans hl
  have Y := vx_rebase X (R' := { frames := R.frames, locals := R.locals, cells := 1, slots := 6 }) (Nat.le_refl _) (Nat.le_refl _) hRcells hRslots
  obtain ⟨s', hA⟩ : ∃ z, z = (T.setVm s.vm).setFrames (.invoking m args :: below) := ⟨_, rfl⟩
  rw [← hA] at Y
  have hvm : s'.vm = s.vm := by rw [hA]; rfl
  have hhp : s'.heap = H := by rw [hA]; exact hT
  have hW0 : s.WarmedH s'.vm := by rw [hvm]; exact State.WarmedH.refl s
  have hat' : ∀ w ∈ vx_atS own ic cls names, w.before args s' = true := fun w hw => vx_ot_at hW0 hvm.symm (hgood w (List.mem_cons_of_mem _ (List.mem_cons_of_mem _ hw))) (hat w hw)
  have hk' : (Cond.classLink own ik cls).before args s' = true := vx_ot_at hW0 hvm.symm (hgood _ List.mem_cons_self) hk
  have hini' : (Cond.initialized cls).before args s' = true := vx_ot_at hW0 hvm.symm (hgood _ (List.mem_cons_of_mem _ List.mem_cons_self)) hini
  have hU' : vx_Zq Bundle.tN "UNASSIGNED_STACK" Bundle.steD A s' s'.heap := by rw [hhp]; exact vx_Zq.moved hW0.alike (hU.kept hS.2.1)
  have hN' : vx_Zq Bundle.tN "SUPPRESSED_SENTINEL" Bundle.listD A s' s'.heap := by rw [hhp]; exact vx_Zq.moved hW0.alike (hN.kept hS.2.1)
  have h : ∀ w ∈ Bundle.ownAtoms own ic cls names, w.before args s' = true := vx_own hat' (vx_isRefq hU'.1) (vx_isRefq hN'.1) hU'.2.word hN'.2.word
  have hown' : s'.vm.findClass own = some m.cls := by rw [hvm]; exact hown
  have hins : (Cond.instantiable cls 6).before args s' = true := h _ (by simp [Bundle.ownAtoms])
  obtain ⟨vm₁, cX, kX, hfX, hkX, -, -, X₁, st1⟩ := Y.newCold hexec (own := own) (C := cls) (index := ik) (n := 6) hown' hk' hins hini'
    (g := F0 m pc ls rest) rfl (by rw [hb]; exact d0) (Nat.le_refl _) (Nat.le_refl _)
  generalize hT1 : (T.setVm vm₁).pushCell { cls := cX, slots := kX.instanceTypes.map defaultValue, vm := .none } = T1 at X₁ st1
  have hcat : (Value.ref T.heap.size).category = 1 := rfl
  have hcellA : T1.heap[T.heap.size]? = some (freshCell cX kX) := by rw [← hT1]; exact State.heap_pushCell_size _ _
  have d3' : decode c.code (pc + 3) = .ok (.dup, 1) := by rw [hb]; exact d3
  have d4' : decode c.code (pc + 4) = .ok (.ldc_w is, 3) := by rw [hb]; exact d4
  have hstr' : vk_R own is text sa s' := vk_R.warm hW0 hstr
  obtain ⟨U, hsteps, hrun, hend, hW, hsame, ce, hce, hO⟩ := X₁.ctorThrowS hexec htr (own := own) (cls := cls) (names := names) (ic := ic) hown' hcls hnames h (fun x hx => nomatch hx) hfX hkX hcellA (by rw [hhp, hT]; exact Nat.le_refl _) (msg := .ref sa) rfl
    (g := { method := m, pc := pc + 7, locals := ls, stack := .ref sa :: .ref T.heap.size :: .ref T.heap.size :: rest, locked := none }) rfl hsize rfl rfl (rest := rest) rfl
    (by rw [hb]; exact d7) (by rw [hb]; exact d10) hout hRframes (by simp only [List.map_cons, List.sum_cons, hcat]; omega) hlocks
  obtain ⟨f1, f2⟩ := vx_frame hsame
  rw [hhp] at f1 f2
  have hWs : s.WarmedH U.vm := State.WarmedH.trans hW0 hW
  have hcl : s.vm.findClass cls = some ce.cls := by
    have h9 := hO.cls
    rw [hvm] at h9
    exact h9
  have hall : s.sameButNew ({ U with vm := s.vm } : State) locs mc ms := by
    subst hA
    obtain ⟨e1, e2⟩ := hsame
    rw [State.setFrames_setFrames] at e1
    have h2 : (T.setVm s.vm).sameButNew ({ U with vm := s.vm } : State) [] (0 + 1) (0 + 6) := ⟨e1, e2⟩
    have h3 := X.same.trans h2
    rw [List.append_nil] at h3
    exact h3.mono hc hs
  refine ⟨U, ?_, .threw T.heap.size, hrun, hend, Or.inr ⟨T.heap.size, rfl, cls, ce, locs, hx U hWs.alike f1 (fun q hq => f2 q hq (fun z hz => nomatch hz)), hce, hO.vm, hcl, hWs, hall, hf⟩⟩
  refine st1 _ ?_
  show Steps p.tables e below (T1.setTop { method := m, pc := pc + 3, locals := ls, stack := .ref T.heap.size :: rest, locked := none }) _
  jvm_step X₁.here [X₁.here.top, hexec, d3', Value.category]
  exact X₁.ldcStringW hexec (own := own) (text := text) (index := is) (a := sa) hown' hstr'.1 hstr'.2
    (g := { method := m, pc := pc + 4, locals := ls, stack := .ref T.heap.size :: .ref T.heap.size :: rest, locked := none }) rfl d4' _ hsteps
end Ends
section Bodies
variable {l : Launch}
theorem vx_ofW {y : MethodName} {ws ws' : List Cond} {rm : Room} {Pc : Array Value → State → Prop} {Qc : Array Value → State → Outcome → State → Prop} {XC : String → State → State → Prop} {mc ms : Nat} {free : Addr → Prop} {cc : ByteArray} {maxL : Nat} {ret : Option FieldType}
    (hy : plainName y.cls = true) (hw : ws = Cond.code y cc maxL ret :: ws')
    (body : ∀ p e s m args below meth c s₁, BodyLoose p l y (headSpec ws rm) cc maxL ret e s m args below meth c s₁ → c.maxLocals = maxL → (∀ x ∈ c.exceptionTable.toList, False) → Pc args s →
      W p l e (headSpec ws rm).room s m args below meth c s.heap [] 0 0 (vx_MQ below Qc XC args s mc ms free) (entryFrame m args maxL)) : vx_Met l y ws rm Pc Qc XC mc ms free := by
  refine MetFree.of_bodyS (code := cc) (maxLocals := maxL) (ret := ret) hy ?_ ?_
  · intro args s m h hn
    obtain ⟨meth, c, h1, h2, h3, h4, h5, h6, -, -⟩ := Cond.code_spec hn (atoms_spec (ws := ws) h _ (by rw [hw]; exact List.mem_cons_self))
    exact ⟨meth, c, h1, h2, h3, h4, h5, h6⟩
  · intro p e s m args below meth c s₁ B hml hP _
    have hh0 : s₁.heap = s.heap := by rw [B.state]; rfl
    have ht : ∀ x ∈ c.exceptionTable.toList, False := by
      obtain ⟨meth9, c9, h1, h2, -, -, -, -, h7, -⟩ := Cond.code_spec B.named (atoms_spec (ws := ws) B.pre _ (by rw [hw]; exact List.mem_cons_self))
      cases Option.some.inj (h1.symm.trans B.method)
      cases Option.some.inj (h2.symm.trans (Stand.of_body B).code)
      intro x hx
      rw [Array.isEmpty_iff.mp h7] at hx
      cases hx
    obtain ⟨t, a1, o, b1, b2, b3⟩ := body p e s m args below meth c s₁ B hml ht hP s₁ hh0 (Stand.of_body B)
    exact ⟨t, o, a1, b1, b2, b3⟩
/-- the table of a body with handlers -/
theorem vx_table {p : Program} {x y : MethodName} {S : Spec} {cc bytes : ByteArray} {maxL maxL' : Nat} {ret ret' : Option FieldType} {e : Env} {s s₁ : State} {m : MethodId} {args : Array Value} {below : List Frame} {meth : Method} {c : Code} {hh : List (Nat × Nat × Nat × Nat)}
    (B : BodyLoose p l y S cc maxL ret e s m args below meth c s₁) (h : (Cond.codeWith y bytes maxL' ret' hh).before args s = true) : c.exceptionTable.toList = tableOf hh := by
  obtain ⟨m9, meth9, c9, hn9, h1, h2, -, -, h6, -⟩ := Cond.codeWith_spec h
  cases Option.some.inj (hn9.symm.trans B.named)
  cases Option.some.inj (h1.symm.trans B.method)
  cases Option.some.inj (h2.symm.trans (Stand.of_body B).code)
  rw [← h6, table_eq]
end Bodies
end VXA
/-! ===== END ===== -/
/-! ===== BEGIN a static call of a method with an exception table ===== -/
section VXS
variable {p : Program} {l : Launch} {e : Env} {R : Room} {s : State} {m : MethodId} {args : Array Value} {below : List Frame} {meth : Method} {c : Code} {T : State} {H : Heap} {locs : List Loc} {cells slots : Nat}
abbrev vx_CSW (R : Room) (s : State) (args : Array Value) (own : String) (index : Nat) (y : MethodName) (bytes : ByteArray) (maxL : Nat) (ret : Option FieldType) (hh : List (Nat × Nat × Nat × Nat)) (ws : List Cond) (rm : Room) (mc ms n : Nat) : Prop :=
  (rm.cells = mc ∧ rm.slots = ms ∧ rm.frames + 1 ≤ R.frames ∧ 8 + (maxL + 11) + rm.locals ≤ R.locals ∧ (∀ w ∈ ws, ∀ (a' : Array Value) (U : State), s.WarmedH U.vm → w.before a' U = true) ∧ Cond.codeWith y bytes maxL ret hh ∈ ws) ∧
  (Cond.codeWith y bytes maxL ret hh).before args s = true ∧ (Cond.initialized y.cls).before args s = true ∧ (y.cls ≠ "java/lang/invoke/MethodHandle" ∧ y.cls ≠ "java/lang/invoke/VarHandle") ∧
  (∀ sig, parseMethodDescriptor y.desc = some sig → n = sig.parameters.length) ∧ (Cond.methodLink own index y).before args s = true ∧ (Cond.static y).before args s = true
theorem vx_cwSW {own : String} {index maxL mc ms : Nat} {y : MethodName} {bytes : ByteArray} {ret : Option FieldType} {hh : List (Nat × Nat × Nat × Nat)} {Ts ws ws' : List Cond} {rm : Room} (n : Nat) (ht : ∀ w ∈ Ts, w.before args s = true) (hT : GoodIn Ts (va_wsS own index y ws)) (hw : ws = Cond.codeWith y bytes maxL ret hh :: ws') (hrc : rm.cells = mc) (hrs : rm.slots = ms)
    (hd : y.cls ≠ "java/lang/invoke/MethodHandle" ∧ y.cls ≠ "java/lang/invoke/VarHandle" ∧ (parseMethodDescriptor y.desc).map (fun d => d.parameters.length) = some n) (hR : rm.frames + 1 ≤ R.frames ∧ 8 + (maxL + 11) + rm.locals ≤ R.locals) :
    vx_CSW R s args own index y bytes maxL ret hh ws rm mc ms n := by
  have ok : ∀ w ∈ va_wsS own index y ws, w.before args s = true := fun w h => ht w (hT w h).1
  have hG : GoodIn Ts ws := fun w h => hT w (by unfold va_wsS; exact List.mem_append_right _ h)
  have hc : Cond.codeWith y bytes maxL ret hh ∈ ws := by rw [hw]; exact List.mem_cons_self
  refine ⟨⟨hrc, hrs, hR.1, hR.2, pay_in ht hG, hc⟩, ht _ (hG _ hc).1, ok _ (by simp [va_wsS]), ⟨hd.1, hd.2.1⟩, fun sig h => ?_, ok _ (by simp [va_wsS]), ok _ (by simp [va_wsS])⟩
  have h2 := hd.2.2
  rw [h] at h2
  exact (Option.some.inj h2).symm
theorem vx_callSW (X : Stand p l e R s m args below meth c T locs cells slots) (hexec : p.tables.exec = Jvm.exec) {own : String} {index : Nat} {y : MethodName} {bytes : ByteArray} {maxL : Nat} {ret : Option FieldType} {hh : List (Nat × Nat × Nat × Nat)}
    (hown : s.vm.findClass own = some m.cls) (hlink : (Cond.methodLink own index y).before args s = true) (hstat : (Cond.static y).before args s = true) (hinit : (Cond.initialized y.cls).before args s = true)
    (hcode : (Cond.codeWith y bytes maxL ret hh).before args s = true) (hy : y.cls ≠ "java/lang/invoke/MethodHandle" ∧ y.cls ≠ "java/lang/invoke/VarHandle")
    {W9 : Nat} {Pre : Pt → Array Value → Prop} {Post : Pt → Array Value → Option Value → Pt → Prop} (hK : Back l R p e below s args y 3 W9 Pre Post)
    {g : JFrame} (hg : g.method = m) (hsize : g.locals.size = c.maxLocals) {argsL rest : List Value} (hlen : ∀ sig, parseMethodDescriptor y.desc = some sig → argsL.length = sig.parameters.length)
    (hstack : g.stack = argsL.reverse ++ rest) (hW : 2 * g.monitorRoom + (rest.map fun v => v.category).sum ≤ W9) (hdg : decode c.code g.pc = .ok (.invokestatic index, 3))
    (hpre : ∀ vm₁, s.WarmedH vm₁ → Pre ⟨T.setVm vm₁, locs, cells, slots⟩ argsL.toArray) :
    ∃ (v : Option Value) (vm₁ : Vm) (B : Pt), s.WarmedH vm₁ ∧ Stand p l e R s m args below meth c B.U B.locs B.cells B.slots ∧ Post ⟨T.setVm vm₁, locs, cells, slots⟩ argsL.toArray v B ∧
      ∀ target, Steps p.tables e below (B.U.setTop { g with pc := g.pc + 3, stack := v.toList ++ rest }) target → Steps p.tables e below (T.setTop g) target := by
  obtain ⟨mk, methM, cM, hnamed, hmethM, -, -, -, -, -, -, hsigM⟩ := Cond.codeWith_spec hcode
  have hstatic : methM.isStatic = true := Cond.static_spec hnamed hmethM hstat
  obtain ⟨kP, hkP, -⟩ := className_of_methodNamed hnamed
  have hinitP : kP.init = .initialized := Cond.initialized_spec (findClass_of_methodNamed hnamed) hkP hinit
  obtain ⟨vm₁, X₁, hstep₁⟩ := X.invokestatic hexec hown hlink hnamed hmethM hstatic hkP hinitP hy (g := g) hg (argsL := argsL) (rest := rest) (hlen _ hsigM) hstack hdg
  obtain ⟨v, B, X', hpost, hsteps⟩ := hK m meth c ⟨T.setVm vm₁, locs, cells, slots⟩ { g with stack := rest } (.invokestatic index) mk argsL.toArray X₁ hg hsize hdg hW (X₁.named hnamed) (hpre vm₁ X₁.warmed)
  exact ⟨v, vm₁, B, X₁.warmed, X', hpost, fun target h => hstep₁ _ fun acts => by rw [doInvoke_state]; exact hsteps.trans h⟩
theorem vx_runSW {y : MethodName} {bytes cc : ByteArray} {maxL nL mc ms n index : Nat} {ret : Option FieldType} {hh : List (Nat × Nat × Nat × Nat)} {ws : List Cond} {rm : Room} {Pc : Array Value → State → Prop} {Qc : Array Value → State → Outcome → State → Prop} {free : Addr → Prop} {Ts : List Cond} {own : String} {As rest : List Value} {g : JFrame}
    (S : CallFix p m c cc nL s args Ts own) (hM : Met l y ws rm Pc Qc mc ms free) (cw : vx_CSW R s args own index y bytes maxL ret hh ws rm mc ms n) (hp : PreS s H Pc As)
    (hg : g.method = m) (hn : As.length = n) (hsize : g.locals.size = nL) (hstack : g.stack = As.reverse ++ rest) (hW : 2 * g.monitorRoom + (rest.map fun v => v.category).sum ≤ 8) (hdg : decode cc g.pc = .ok (.invokestatic index, 3)) (hf : cells + mc ≤ R.cells ∧ slots + ms ≤ R.slots) :
    va_Run p l e R s m args below meth c H locs cells slots mc ms g rest (Qc As.toArray) (free) := by
  obtain ⟨⟨hrc, hrs, hfr, hlo, hws, hcw⟩, hcode, hini, hy, hlen, hl, hstt⟩ := cw
  have hK : Back l R p e below s args y 3 8 (PreOf R mc ms Pc) (PostOf Qc mc ms free) := va_backW (hh := hh) (bytes := bytes) (maxL := maxL) (ret := ret) hM hp.1 hrc hrs hfr hlo hws hcw (fun a' U hW => word_at hW (Or.inl (by first | rfl | simp [Cond.onTables, Cond.keeps, Cond.steady])) hini)
  obtain ⟨hx, hb, hml, ho, -⟩ := S
  intro T hT X
  obtain ⟨v, vm₁, ⟨U', l2, c2, s2⟩, hW₁, X', ⟨g', mk, t, L, e1, e2, hq, h1, hL, h2, h3⟩, st⟩ := vx_callSW X hx (hh := hh) (bytes := bytes) (maxL := maxL) (ret := ret) ho hl hstt hini hcode hy hK hg (hsize.trans hml.symm) (argsL := As) (rest := rest) (fun sig h => hn.trans (hlen sig h)) hstack hW (by rw [hb]; exact hdg)
    (fun vm₁ hW₁ => ⟨hf.1, hf.2, hp.2 (T.setVm vm₁) hT hW₁⟩)
  dsimp only [Pt.U, Pt.locs, Pt.cells, Pt.slots] at X' e1 e2 h1 h2 h3 st
  subst h1; subst h2; subst h3
  exact ⟨v, (T.setVm vm₁).calling g' mk As.toArray, t, U', L, hT, X', hL, e1, e2, hq, st⟩
/-- not caught here, past rows that name other classes: it goes on to the caller -/
theorem vx_outP {p : Program} {l : Launch} {e : Env} {R : Room} {s : State} {m : MethodId} {args : Array Value} {below : List Frame} {meth : Method} {c : Code} {H : Heap} {locs : List Loc} {cells slots : Nat} {free : Addr → Prop} {ls : Array Slot} {rest : List Value} {Qc : Array Value → State → Outcome → State → Prop} {XC : String → State → State → Prop}
    {pc : Nat} {own E : String} {ce : Cell} {q : Addr} {mc ms : Nat} (hown : s.vm.findClass own = some m.cls) (hlocks : meth.locks = false)
    (hpass : ∀ z ∈ c.exceptionTable.toList, covers z pc = false ∨ (z.catchType ≠ 0 ∧ ∃ nm : String, (Cond.classLink own z.catchType nm).before args s = true ∧ va_Nc E nm s)) (hcell : H[q]? = some ce) (hv : ce.vm = .none) (hcl : s.vm.findClass E = some ce.cls)
    (hx : ∀ t : State, t.heap = H → s.vm.Alike t.vm → XC E s t) (hf : ∀ z ∈ locs, free z.base) (hc : cells ≤ mc) (hs : slots ≤ ms) :
    vx_W p l e R s m args below meth c H locs cells slots (vx_MQ below Qc XC args s mc ms free) (F0 m pc ls rest) q := by
  intro T hT X
  have hpl : e.platform.magicAccessors = ({} : Platform).magicAccessors := by rw [X.admits.platform]
  obtain ⟨vm', hW', X', st⟩ := X.outThrough hlocks q (g := F0 m pc ls rest) rfl rfl rfl (cell := ce) (by rw [hT]; exact hcell) (by rw [hv]; rfl)
    (by obtain ⟨k9, h9, -⟩ := Vm.findClass_spec hcl; exact ⟨k9, h9⟩) (fun z hz => by
      rcases hpass z hz with h | ⟨hz0, nm, hl1, hn1⟩
      · exact Or.inl h
      · obtain ⟨c6, hc6, hcl6⟩ := Cond.classLink_spec hown hl1 e.platform hpl
        obtain ⟨a8, b8, h1, h2, h3⟩ := hn1
        cases Option.some.inj (h1.symm.trans hcl)
        cases Option.some.inj (h2.symm.trans hc6)
        exact Or.inr ⟨hz0, _, hcl6, h3⟩)
  obtain ⟨g₀, hfr⟩ := X'.frames_eq
  have hcell9 : ((T.setVm vm').setFrames (.throwing q :: below)).heap[q]? = some ce := by
    show T.heap[q]? = some ce
    rw [hT]; exact hcell
  have hend : Ended ((T.setVm vm').setFrames (.throwing q :: below)) below (.threw q) := State.frames_setFrames _ (State.cur_lt_of_frames hfr)
  refine ⟨(T.setVm vm').setFrames (.throwing q :: below), ?_, .threw q, X'.here.running, hend, Or.inr ⟨q, rfl, E, ce, locs, hx _ hT (X'.ends _).1.alike, hcell9, hv, hcl, (X'.ends _).1, (X'.ends _).2.mono hc hs, hf⟩⟩
  rw [X.pushThrowing_eq]
  exact st
/-- a thing of a world lies in the heap -/
theorem vx_lt {D : va_G} {cl : List vw_C} {ws : va_W} {H1 : Heap} (h : va_P D cl ws H1) {k : Nat} {q : Nat × va_E} (hk : ws[k]? = some q) : q.1 < H1.size := (h k q hk).lt
end VXS
/-! ===== END ===== -/
/-! ===== BEGIN methods with a table of their own: called by a name, returning or throwing ===== -/
section VXH
/-! vx_backW, vx_callVX, vx_callSX, vx_callVW, vx_runVW, vx_runVX, vx_runSX, vx_ofWH follow the same proofs as their sisters above (Free/Laws.lean, Shelf42/LK1.lean); vx_outP calls Shelf42/NT130.lean (outThrough). -/
section
variable {l : Launch} {R : Room} {p : Program} {e : Env} {below : List Frame} {s : State} {sargs : Array Value} {y : MethodName} {len W9 : Nat}
theorem vx_backW {ws : List Cond} {rm : Room} {Pc : Array Value → State → Prop} {Qc : Array Value → State → Outcome → State → Prop} {XC : String → State → State → Prop} {mc ms : Nat} {free : Addr → Prop} {bytes : ByteArray} {maxL : Nat} {ret : Option FieldType} {hh : List (Nat × Nat × Nat × Nat)}
    (hM : vx_Met l y ws rm Pc Qc XC mc ms free) (hblind : FrameBlind Pc) (hrc : rm.cells = mc) (hrs : rm.slots = ms)
    (hframes : rm.frames + 1 ≤ R.frames) (hlocals : W9 + (maxL + 11) + rm.locals ≤ R.locals)
    (hws : ∀ w ∈ ws, ∀ a' U, s.WarmedH U.vm → w.before a' U = true) (hcode : Cond.codeWith y bytes maxL ret hh ∈ ws) (hinit : ∀ a' U, s.WarmedH U.vm → (Cond.initialized y.cls).before a' U = true) :
    vx_Back l R p e below s sargs y len W9 (PreOf R mc ms Pc) (PostOf Qc mc ms free) (vx_Post XC mc ms free) := by
  intro m meth c A g ig mk a X hg hsize hdg hW hn hp
  have h1 : (headSpec ws rm).pre.before a A.U = true := atoms_intro fun w hw => hws w hw _ _ X.warmed
  have h2 : (Cond.codeWith y bytes maxL ret hh).before a A.U = true := hws _ hcode _ _ X.warmed
  have h3 : (Cond.initialized y.cls).before a A.U = true := hinit _ _ X.warmed
  have h4 : A.cells + (headSpec ws rm).room.cells ≤ R.cells := by rw [show (headSpec ws rm).room.cells = mc from hrc]; exact hp.1
  have h5 : A.slots + (headSpec ws rm).room.slots ≤ R.slots := by rw [show (headSpec ws rm).room.slots = ms from hrs]; exact hp.2.1
  have hPc : Pc a (A.U.calling g mk a) := hblind _ _ _ _ hp.2.2
  obtain ⟨U, Ls, c0, s0⟩ := A
  dsimp only [Pt.U, Pt.locs, Pt.cells, Pt.slots] at h1 h2 h3 h4 h5 X hn hPc ⊢
  obtain ⟨m9, methY, cY, hn9, hmY, hcY, -, hlY, -⟩ := Cond.codeWith_spec h2
  cases Option.some.inj (hn9.symm.trans hn)
  obtain ⟨kY, hkY, -⟩ := className_of_methodNamed hn
  have hinitY : kY.init = .initialized := Cond.initialized_spec (findClass_of_methodNamed hn) hkY h3
  have h : At U g.method c below := by rw [hg]; exact X.here
  have hlocals9 : W9 + (maxL + 11) + (headSpec ws rm).room.locals ≤ R.locals := hlocals
  have happ : (headSpec ws rm).appliesLoose y e.platform (U.calling g mk a) = true :=
    Spec.appliesLoose_calling (g := g) h hdg hn hkY hinitY
      (X.room_calling (g := g) (R' := (headSpec ws rm).room) hsize hmY hcY hframes (by rw [hlY]; omega) h4 h5) h1
  obtain ⟨mid, hmid⟩ := h.above
  have hfr : (U.setTop g).frames = (.java g :: mid) ++ below := by rw [State.frames_setTop' g h.top, hmid]; rfl
  obtain ⟨o, s₂, hsteps, -, hend, hq⟩ := Steps.callFree hM p X.admits X.cas X.clock (acts := []) hfr happ hPc trivial
  have hq' : vx_Q Qc XC mc ms free a (U.calling g mk a) o s₂ := hq
  rw [State.frames_setTop' g h.top] at hend
  obtain ⟨g₀, hg0⟩ := Option.isSome_iff_exists.mp h.top
  obtain ⟨r, hr⟩ := State.topJava?_eq_some.mp hg0
  have hr' : (({ U with heap := s₂.heap, slotsUsed := s₂.slotsUsed } : State).setVm s₂.vm).frames = .java g₀ :: r := hr
  rcases hq' with ⟨hqc, L, hfe, hL⟩ | ⟨q, rfl, E, ce, L, hx, hce, hcv, hcl, hW₂, hsm, hL⟩
  · obtain ⟨⟨v, rfl⟩, hW₂, e2, q2, q3, q4, q5, q6⟩ := id hfe
    have e3 : s₂ = ({ (U.calling g mk a).setFrames s₂.frames with heap := s₂.heap, slotsUsed := s₂.slotsUsed } : State).setVm s₂.vm := by
      have : s₂ = ({ s₂ with vm := (U.calling g mk a).vm } : State).setVm s₂.vm := rfl
      rw [e2] at this
      exact this
    obtain ⟨c₂, i₂, len₂, hc₂, hd₂, hf₂⟩ := hend
    have hW' : U.WarmedH s₂.vm := hW₂
    have hcc : c₂ = c := by
      have h1 : s₂.code? g.method = U.code? g.method := by
        rw [State.code?_eq, State.code?_eq, hW'.alike.method?]
      exact Option.some.inj (hc₂.symm.trans (h1.trans h.code))
    subst hcc
    have hlen : len₂ = len := by rw [hdg] at hd₂; cases hd₂; rfl
    subst hlen
    have hs₂ : s₂ = (({ U with heap := s₂.heap, slotsUsed := s₂.slotsUsed } : State).setVm s₂.vm).setTop { g with pc := g.pc + len₂, stack := v.toList ++ g.stack } := by
      refine e3.trans ?_
      rw [hf₂, State.calling_eq h.top, State.setFrames_setFrames, State.setTop_of_frames _ hr', hr]
      rfl
    have hsame : U.sameButNew ({ U with heap := s₂.heap, slotsUsed := s₂.slotsUsed } : State) L mc ms := by
      refine ⟨?_, q2, q3, q4, q5, q6⟩
      obtain ⟨t, ht, -⟩ := State.frames_cons hr
      show ({ U with heap := s₂.heap, slotsUsed := s₂.slotsUsed } : State) = { U.setFrames U.frames with heap := s₂.heap, slotsUsed := s₂.slotsUsed }
      rw [State.setFrames_self ht]
    subst hg
    refine Or.inl ⟨v, ⟨(({ U with heap := s₂.heap, slotsUsed := s₂.slotsUsed } : State).setVm s₂.vm), Ls ++ L, c0 + mc, s0 + ms⟩,
      ⟨X.admits, X.cas, X.clock, X.frames, X.room, X.hears, X.method, X.code, (X.here.setHeapUsed s₂.heap s₂.slotsUsed).setVm hW'.alike, X.tail, State.WarmedH.trans X.warmed hW', X.limits, X.bytes, X.same.trans (hsame.setVm s.vm)⟩,
      ⟨g, mk, s₂, L, rfl, rfl, hqc, rfl, hL, rfl, rfl⟩, ?_⟩
    show Steps p.tables e below _ ((({ U with heap := s₂.heap, slotsUsed := s₂.slotsUsed } : State).setVm s₂.vm).setTop { g with pc := g.pc + len₂, stack := v.toList ++ g.stack })
    rw [← hs₂]
    exact hsteps
  · obtain ⟨e2, q2, q3, q4, q5, q6⟩ := id hsm
    have e3 : s₂ = ({ (U.calling g mk a).setFrames s₂.frames with heap := s₂.heap, slotsUsed := s₂.slotsUsed } : State).setVm s₂.vm := by
      have : s₂ = ({ s₂ with vm := (U.calling g mk a).vm } : State).setVm s₂.vm := rfl
      rw [e2] at this
      exact this
    have hf₂ : s₂.frames = .throwing q :: .java g :: U.frames.tail := hend
    have hW' : U.WarmedH s₂.vm := hW₂
    have hs₂ : s₂ = ((({ U with heap := s₂.heap, slotsUsed := s₂.slotsUsed } : State).setVm s₂.vm).setTop g).pushFrame (.throwing q) := by
      refine e3.trans ?_
      rw [hf₂, State.calling_eq h.top, State.setFrames_setFrames, State.pushFrame, State.frames_setTop _ hr', State.setTop_of_frames _ hr', State.setFrames_setFrames, hr]
      rfl
    have hsame : U.sameButNew ({ U with heap := s₂.heap, slotsUsed := s₂.slotsUsed } : State) L mc ms := by
      refine ⟨?_, q2, q3, q4, q5, q6⟩
      obtain ⟨t, ht, -⟩ := State.frames_cons hr
      show ({ U with heap := s₂.heap, slotsUsed := s₂.slotsUsed } : State) = { U.setFrames U.frames with heap := s₂.heap, slotsUsed := s₂.slotsUsed }
      rw [State.setFrames_self ht]
    subst hg
    refine Or.inr ⟨q, ⟨(({ U with heap := s₂.heap, slotsUsed := s₂.slotsUsed } : State).setVm s₂.vm), Ls ++ L, c0 + mc, s0 + ms⟩,
      ⟨X.admits, X.cas, X.clock, X.frames, X.room, X.hears, X.method, X.code, (X.here.setHeapUsed s₂.heap s₂.slotsUsed).setVm hW'.alike, X.tail, State.WarmedH.trans X.warmed hW', X.limits, X.bytes, X.same.trans (hsame.setVm s.vm)⟩,
      ⟨g, mk, s₂, L, E, ce, rfl, rfl, hx, hce, hcv, hcl, rfl, hL, rfl, rfl⟩, ?_⟩
    show Steps p.tables e below _ (((({ U with heap := s₂.heap, slotsUsed := s₂.slotsUsed } : State).setVm s₂.vm).setTop g).pushFrame (.throwing q))
    rw [← hs₂]
    exact hsteps
end
variable {p : Program} {l : Launch} {e : Env} {R : Room} {s : State} {m : MethodId} {args : Array Value} {below : List Frame} {meth : Method} {c : Code} {T : State} {H : Heap} {locs : List Loc} {cells slots : Nat}
theorem vx_callVX (X : Stand p l e R s m args below meth c T locs cells slots) (hexec : p.tables.exec = Jvm.exec) {own C : String} {index : Nat} {y : MethodName} {bytes : ByteArray} {maxL : Nat} {ret : Option FieldType} {hh : List (Nat × Nat × Nat × Nat)}
    (hown : s.vm.findClass own = some m.cls) (hlink : (Cond.methodLink own index y).before args s = true) (hinst : (Cond.instanceMethod y).before args s = true) (hsel : (Cond.selects C y y).before args s = true)
    (hcode : (Cond.codeWith y bytes maxL ret hh).before args s = true) (hy : y.cls ≠ "java/lang/invoke/MethodHandle" ∧ y.cls ≠ "java/lang/invoke/VarHandle")
    {W9 : Nat} {Pre : Pt → Array Value → Prop} {Post : Pt → Array Value → Option Value → Pt → Prop} {PostX : Pt → Array Value → Addr → Pt → Prop} (hK : vx_Back l R p e below s args y 3 W9 Pre Post PostX)
    {b : Addr} {cellB : Cell} (hcell : T.heap[b]? = some cellB) (hobj : cellB.vm.isStatics = false) (hcls : s.vm.findClass C = some cellB.cls)
    {g : JFrame} (hg : g.method = m) (hsize : g.locals.size = c.maxLocals) {argsL rest : List Value} (hlen : ∀ sig, parseMethodDescriptor y.desc = some sig → argsL.length = sig.parameters.length)
    (hstack : g.stack = argsL.reverse ++ .ref b :: rest) (hW : 2 * g.monitorRoom + (rest.map fun v => v.category).sum ≤ W9) (hdg : decode c.code g.pc = .ok (.invokevirtual index, 3))
    (hpre : ∀ vm₁, s.WarmedH vm₁ → Pre ⟨T.setVm vm₁, locs, cells, slots⟩ (Value.ref b :: argsL).toArray) :
    (∃ (v : Option Value) (vm₁ : Vm) (B : Pt), s.WarmedH vm₁ ∧ Stand p l e R s m args below meth c B.U B.locs B.cells B.slots ∧ Post ⟨T.setVm vm₁, locs, cells, slots⟩ (Value.ref b :: argsL).toArray v B ∧
      ∀ target, Steps p.tables e below (B.U.setTop { g with pc := g.pc + 3, stack := v.toList ++ rest }) target → Steps p.tables e below (T.setTop g) target) ∨
    (∃ (q : Addr) (vm₁ : Vm) (B : Pt), s.WarmedH vm₁ ∧ Stand p l e R s m args below meth c B.U B.locs B.cells B.slots ∧ PostX ⟨T.setVm vm₁, locs, cells, slots⟩ (Value.ref b :: argsL).toArray q B ∧
      Steps p.tables e below (T.setTop g) ((B.U.setTop { g with stack := rest }).pushFrame (.throwing q))) := by
  obtain ⟨mk, methM, hnamed, hmethM, hstM, habM⟩ := Cond.instanceMethod_spec hinst
  obtain ⟨m8, methM', cM, hn8, hmethM', -, -, -, -, -, -, hsigM⟩ := Cond.codeWith_spec hcode
  cases Option.some.inj (hn8.symm.trans hnamed)
  cases hmethM.symm.trans hmethM'
  obtain ⟨c2, r2, m2, q1, q2, q3, q4, kP, hkP, hkPi⟩ := Cond.selects_spec hsel
  cases hcls.symm.trans q1
  cases (State.methodFound?_of_named hnamed hy).symm.trans q2
  cases hnamed.symm.trans q3
  have hselP : selectMethod e.platform s.vm cellB.cls mk = .method mk := by rw [Launch.admits_selectMethod X.admits]; exact q4
  obtain ⟨vm₁, X₁, hstep₁⟩ := X.invokevirtual hexec hown hlink hnamed hmethM hstM hkP hkPi hy (a := b) (cell := cellB) hcell
    (fun z h => by rw [h] at hobj; cases hobj) hselP hmethM habM hkP hkPi (g := g) hg (argsL := argsL) (rest := rest) (hlen _ hsigM) hstack hdg
  rcases hK m meth c ⟨T.setVm vm₁, locs, cells, slots⟩ { g with stack := rest } (.invokevirtual index) mk (Value.ref b :: argsL).toArray X₁ hg hsize hdg hW (X₁.named hnamed) (hpre vm₁ X₁.warmed) with ⟨v, B, X', hpost, hsteps⟩ | ⟨q, B, X', hpost, hsteps⟩
  · exact Or.inl ⟨v, vm₁, B, X₁.warmed, X', hpost, fun target h => hstep₁ _ fun acts => by rw [doInvoke_state]; exact hsteps.trans h⟩
  · exact Or.inr ⟨q, vm₁, B, X₁.warmed, X', hpost, hstep₁ _ fun acts => by rw [doInvoke_state]; exact hsteps⟩
theorem vx_callSX (X : Stand p l e R s m args below meth c T locs cells slots) (hexec : p.tables.exec = Jvm.exec) {own : String} {index : Nat} {y : MethodName} {bytes : ByteArray} {maxL : Nat} {ret : Option FieldType} {hh : List (Nat × Nat × Nat × Nat)}
    (hown : s.vm.findClass own = some m.cls) (hlink : (Cond.methodLink own index y).before args s = true) (hstat : (Cond.static y).before args s = true) (hinit : (Cond.initialized y.cls).before args s = true)
    (hcode : (Cond.codeWith y bytes maxL ret hh).before args s = true) (hy : y.cls ≠ "java/lang/invoke/MethodHandle" ∧ y.cls ≠ "java/lang/invoke/VarHandle")
    {W9 : Nat} {Pre : Pt → Array Value → Prop} {Post : Pt → Array Value → Option Value → Pt → Prop} {PostX : Pt → Array Value → Addr → Pt → Prop} (hK : vx_Back l R p e below s args y 3 W9 Pre Post PostX)
    {g : JFrame} (hg : g.method = m) (hsize : g.locals.size = c.maxLocals) {argsL rest : List Value} (hlen : ∀ sig, parseMethodDescriptor y.desc = some sig → argsL.length = sig.parameters.length)
    (hstack : g.stack = argsL.reverse ++ rest) (hW : 2 * g.monitorRoom + (rest.map fun v => v.category).sum ≤ W9) (hdg : decode c.code g.pc = .ok (.invokestatic index, 3))
    (hpre : ∀ vm₁, s.WarmedH vm₁ → Pre ⟨T.setVm vm₁, locs, cells, slots⟩ argsL.toArray) :
    (∃ (v : Option Value) (vm₁ : Vm) (B : Pt), s.WarmedH vm₁ ∧ Stand p l e R s m args below meth c B.U B.locs B.cells B.slots ∧ Post ⟨T.setVm vm₁, locs, cells, slots⟩ argsL.toArray v B ∧
      ∀ target, Steps p.tables e below (B.U.setTop { g with pc := g.pc + 3, stack := v.toList ++ rest }) target → Steps p.tables e below (T.setTop g) target) ∨
    (∃ (q : Addr) (vm₁ : Vm) (B : Pt), s.WarmedH vm₁ ∧ Stand p l e R s m args below meth c B.U B.locs B.cells B.slots ∧ PostX ⟨T.setVm vm₁, locs, cells, slots⟩ argsL.toArray q B ∧
      Steps p.tables e below (T.setTop g) ((B.U.setTop { g with stack := rest }).pushFrame (.throwing q))) := by
  obtain ⟨mk, methM, cM, hnamed, hmethM, -, -, -, -, -, -, hsigM⟩ := Cond.codeWith_spec hcode
  have hstatic : methM.isStatic = true := Cond.static_spec hnamed hmethM hstat
  obtain ⟨kP, hkP, -⟩ := className_of_methodNamed hnamed
  have hinitP : kP.init = .initialized := Cond.initialized_spec (findClass_of_methodNamed hnamed) hkP hinit
  obtain ⟨vm₁, X₁, hstep₁⟩ := X.invokestatic hexec hown hlink hnamed hmethM hstatic hkP hinitP hy (g := g) hg (argsL := argsL) (rest := rest) (hlen _ hsigM) hstack hdg
  rcases hK m meth c ⟨T.setVm vm₁, locs, cells, slots⟩ { g with stack := rest } (.invokestatic index) mk argsL.toArray X₁ hg hsize hdg hW (X₁.named hnamed) (hpre vm₁ X₁.warmed) with ⟨v, B, X', hpost, hsteps⟩ | ⟨q, B, X', hpost, hsteps⟩
  · exact Or.inl ⟨v, vm₁, B, X₁.warmed, X', hpost, fun target h => hstep₁ _ fun acts => by rw [doInvoke_state]; exact hsteps.trans h⟩
  · exact Or.inr ⟨q, vm₁, B, X₁.warmed, X', hpost, hstep₁ _ fun acts => by rw [doInvoke_state]; exact hsteps⟩
theorem vx_callVW (X : Stand p l e R s m args below meth c T locs cells slots) (hexec : p.tables.exec = Jvm.exec) {own C : String} {index : Nat} {y : MethodName} {bytes : ByteArray} {maxL : Nat} {ret : Option FieldType} {hh : List (Nat × Nat × Nat × Nat)}
    (hown : s.vm.findClass own = some m.cls) (hlink : (Cond.methodLink own index y).before args s = true) (hinst : (Cond.instanceMethod y).before args s = true) (hsel : (Cond.selects C y y).before args s = true)
    (hcode : (Cond.codeWith y bytes maxL ret hh).before args s = true) (hy : y.cls ≠ "java/lang/invoke/MethodHandle" ∧ y.cls ≠ "java/lang/invoke/VarHandle")
    {W9 : Nat} {Pre : Pt → Array Value → Prop} {Post : Pt → Array Value → Option Value → Pt → Prop} (hK : Back l R p e below s args y 3 W9 Pre Post)
    {b : Addr} {cellB : Cell} (hcell : T.heap[b]? = some cellB) (hobj : cellB.vm.isStatics = false) (hcls : s.vm.findClass C = some cellB.cls)
    {g : JFrame} (hg : g.method = m) (hsize : g.locals.size = c.maxLocals) {argsL rest : List Value} (hlen : ∀ sig, parseMethodDescriptor y.desc = some sig → argsL.length = sig.parameters.length)
    (hstack : g.stack = argsL.reverse ++ .ref b :: rest) (hW : 2 * g.monitorRoom + (rest.map fun v => v.category).sum ≤ W9) (hdg : decode c.code g.pc = .ok (.invokevirtual index, 3))
    (hpre : ∀ vm₁, s.WarmedH vm₁ → Pre ⟨T.setVm vm₁, locs, cells, slots⟩ (Value.ref b :: argsL).toArray) :
    ∃ (v : Option Value) (vm₁ : Vm) (B : Pt), s.WarmedH vm₁ ∧ Stand p l e R s m args below meth c B.U B.locs B.cells B.slots ∧ Post ⟨T.setVm vm₁, locs, cells, slots⟩ (Value.ref b :: argsL).toArray v B ∧
      ∀ target, Steps p.tables e below (B.U.setTop { g with pc := g.pc + 3, stack := v.toList ++ rest }) target → Steps p.tables e below (T.setTop g) target := by
  obtain ⟨mk, methM, hnamed, hmethM, hstM, habM⟩ := Cond.instanceMethod_spec hinst
  obtain ⟨m8, methM', cM, hn8, hmethM', -, -, -, -, -, -, hsigM⟩ := Cond.codeWith_spec hcode
  cases Option.some.inj (hn8.symm.trans hnamed)
  cases hmethM.symm.trans hmethM'
  obtain ⟨c2, r2, m2, q1, q2, q3, q4, kP, hkP, hkPi⟩ := Cond.selects_spec hsel
  cases hcls.symm.trans q1
  cases (State.methodFound?_of_named hnamed hy).symm.trans q2
  cases hnamed.symm.trans q3
  have hselP : selectMethod e.platform s.vm cellB.cls mk = .method mk := by rw [Launch.admits_selectMethod X.admits]; exact q4
  obtain ⟨vm₁, X₁, hstep₁⟩ := X.invokevirtual hexec hown hlink hnamed hmethM hstM hkP hkPi hy (a := b) (cell := cellB) hcell
    (fun z h => by rw [h] at hobj; cases hobj) hselP hmethM habM hkP hkPi (g := g) hg (argsL := argsL) (rest := rest) (hlen _ hsigM) hstack hdg
  obtain ⟨v, B, X', hpost, hsteps⟩ := hK m meth c ⟨T.setVm vm₁, locs, cells, slots⟩ { g with stack := rest } (.invokevirtual index) mk (Value.ref b :: argsL).toArray X₁ hg hsize hdg hW (X₁.named hnamed) (hpre vm₁ X₁.warmed)
  exact ⟨v, vm₁, B, X₁.warmed, X', hpost, fun target h => hstep₁ _ fun acts => by rw [doInvoke_state]; exact hsteps.trans h⟩
abbrev vx_CVW (R : Room) (s : State) (args : Array Value) (own C : String) (index : Nat) (y : MethodName) (bytes : ByteArray) (maxL : Nat) (ret : Option FieldType) (hh : List (Nat × Nat × Nat × Nat)) (ws : List Cond) (rm : Room) (mc ms n : Nat) : Prop :=
  (rm.cells = mc ∧ rm.slots = ms ∧ rm.frames + 1 ≤ R.frames ∧ 8 + (maxL + 11) + rm.locals ≤ R.locals ∧ (∀ w ∈ ws, ∀ (a' : Array Value) (U : State), s.WarmedH U.vm → w.before a' U = true) ∧ Cond.codeWith y bytes maxL ret hh ∈ ws) ∧
  (Cond.codeWith y bytes maxL ret hh).before args s = true ∧ (Cond.initialized y.cls).before args s = true ∧ (y.cls ≠ "java/lang/invoke/MethodHandle" ∧ y.cls ≠ "java/lang/invoke/VarHandle") ∧
  (∀ sig, parseMethodDescriptor y.desc = some sig → n = sig.parameters.length) ∧ (Cond.methodLink own index y).before args s = true ∧ (Cond.instanceMethod y).before args s = true ∧ (Cond.selects C y y).before args s = true
theorem vx_cwVW {own C : String} {index maxL mc ms : Nat} {y : MethodName} {bytes : ByteArray} {ret : Option FieldType} {hh : List (Nat × Nat × Nat × Nat)} {Ts ws ws' : List Cond} {rm : Room} (n : Nat) (ht : ∀ w ∈ Ts, w.before args s = true) (hT : GoodIn Ts (wsV own index C y ws)) (hw : ws = Cond.codeWith y bytes maxL ret hh :: ws') (hrc : rm.cells = mc) (hrs : rm.slots = ms)
    (hd : y.cls = C ∧ y.cls ≠ "java/lang/invoke/MethodHandle" ∧ y.cls ≠ "java/lang/invoke/VarHandle" ∧ (parseMethodDescriptor y.desc).map (fun d => d.parameters.length) = some n) (hR : rm.frames + 1 ≤ R.frames ∧ 8 + (maxL + 11) + rm.locals ≤ R.locals) :
    vx_CVW R s args own C index y bytes maxL ret hh ws rm mc ms n := by
  obtain ⟨hC, hd⟩ := hd
  subst hC
  have ok : ∀ w ∈ wsV own index y.cls y ws, w.before args s = true := fun w h => ht w (hT w h).1
  have hG : GoodIn Ts ws := fun w h => hT w (by unfold wsV; exact List.mem_append_right _ h)
  have hc : Cond.codeWith y bytes maxL ret hh ∈ ws := by rw [hw]; exact List.mem_cons_self
  refine ⟨⟨hrc, hrs, hR.1, hR.2, pay_in ht hG, hc⟩, ht _ (hG _ hc).1, ok _ (by simp [wsV]), ⟨hd.1, hd.2.1⟩, fun sig h => ?_, ok _ (by simp [wsV]), ok _ (by simp [wsV]), ok _ (by simp [wsV])⟩
  have h2 := hd.2.2
  rw [h] at h2
  exact (Option.some.inj h2).symm
theorem vx_runVW {y : MethodName} {bytes cc : ByteArray} {maxL nL mc ms n index : Nat} {ret : Option FieldType} {hh : List (Nat × Nat × Nat × Nat)} {ws : List Cond} {rm : Room} {Pc : Array Value → State → Prop} {Qc : Array Value → State → Outcome → State → Prop} {free : Addr → Prop} {Ts : List Cond} {own C : String} {b : Addr} {As rest : List Value} {g : JFrame}
    (S : CallFix p m c cc nL s args Ts own) (hM : Met l y ws rm Pc Qc mc ms free) (cw : vx_CVW R s args own C index y bytes maxL ret hh ws rm mc ms n) (hp : PreV s H C b Pc As)
    (hg : g.method = m) (hn : As.length = n) (hsize : g.locals.size = nL) (hstack : g.stack = As.reverse ++ .ref b :: rest) (hW : 2 * g.monitorRoom + (rest.map fun v => v.category).sum ≤ 8) (hdg : decode cc g.pc = .ok (.invokevirtual index, 3)) (hf : cells + mc ≤ R.cells ∧ slots + ms ≤ R.slots) :
    va_Run p l e R s m args below meth c H locs cells slots mc ms g rest (Qc (Value.ref b :: As).toArray) free := by
  obtain ⟨⟨hrc, hrs, hfr, hlo, hws, hcw⟩, hcode, hini, hy, hlen, hl, hin, hse⟩ := cw
  have hK : Back l R p e below s args y 3 8 (PreOf R mc ms Pc) (PostOf Qc mc ms free) := va_backW (hh := hh) (bytes := bytes) (maxL := maxL) (ret := ret) hM hp.1 hrc hrs hfr hlo hws hcw (fun a' U hW => word_at hW (Or.inl (by first | rfl | simp [Cond.onTables, Cond.keeps, Cond.steady])) hini)
  obtain ⟨hx, hb, hml, ho, -⟩ := S
  obtain ⟨-, ⟨cellB, hcB, hoB, hclB⟩, hPc⟩ := hp
  intro T hT X
  obtain ⟨v, vm₁, ⟨U', l2, c2, s2⟩, hW₁, X', ⟨g', mk, t, L, e1, e2, hq, h1, hL, h2, h3⟩, st⟩ := vx_callVW X hx (C := C) (hh := hh) (bytes := bytes) (maxL := maxL) (ret := ret) ho hl hin hse hcode hy hK (by rw [hT]; exact hcB) hoB hclB hg (hsize.trans hml.symm) (argsL := As) (rest := rest) (fun sig h => hn.trans (hlen sig h)) hstack hW (by rw [hb]; exact hdg)
    (fun vm₁ hW₁ => ⟨hf.1, hf.2, hPc (T.setVm vm₁) hT hW₁⟩)
  dsimp only [Pt.U, Pt.locs, Pt.cells, Pt.slots] at X' e1 e2 h1 h2 h3 st
  subst h1; subst h2; subst h3
  exact ⟨v, (T.setVm vm₁).calling g' mk (Value.ref b :: As).toArray, t, U', L, hT, X', hL, e1, e2, hq, st⟩
section
variable {y : MethodName} {bytes cc : ByteArray} {maxL nL mc ms n index : Nat} {ret : Option FieldType} {ws : List Cond} {rm : Room} {Pc : Array Value → State → Prop} {Qc : Array Value → State → Outcome → State → Prop} {XC : String → State → State → Prop} {free : Addr → Prop} {Ts : List Cond} {own C : String} {b : Addr} {As rest : List Value} {g : JFrame}
theorem vx_runVX {hh : List (Nat × Nat × Nat × Nat)} (S : CallFix p m c cc nL s args Ts own) (hM : vx_Met l y ws rm Pc Qc XC mc ms free) (cw : vx_CVW R s args own C index y bytes maxL ret hh ws rm mc ms n) (hp : PreV s H C b Pc As)
    (hg : g.method = m) (hn : As.length = n) (hsize : g.locals.size = nL) (hstack : g.stack = As.reverse ++ .ref b :: rest) (hW : 2 * g.monitorRoom + (rest.map fun v => v.category).sum ≤ 8) (hdg : decode cc g.pc = .ok (.invokevirtual index, 3)) (hf : cells + mc ≤ R.cells ∧ slots + ms ≤ R.slots) :
    vx_Run p l e R s m args below meth c H locs cells slots mc ms g rest (Qc (Value.ref b :: As).toArray) XC free := by
  obtain ⟨⟨hrc, hrs, hfr, hlo, hws, hcw⟩, hcode, hini, hy, hlen, hl, hin, hse⟩ := cw
  have hK : vx_Back l R p e below s args y 3 8 (PreOf R mc ms Pc) (PostOf Qc mc ms free) (vx_Post XC mc ms free) := vx_backW (hh := hh) (bytes := bytes) (maxL := maxL) (ret := ret) hM hp.1 hrc hrs hfr hlo hws hcw (fun a' U hW => word_at hW (Or.inl (by first | rfl | simp [Cond.onTables, Cond.keeps, Cond.steady])) hini)
  obtain ⟨hx, hb, hml, ho, -⟩ := S
  obtain ⟨-, ⟨cellB, hcB, hoB, hclB⟩, hPc⟩ := hp
  intro T hT X
  rcases vx_callVX X hx (C := C) (hh := hh) (bytes := bytes) (maxL := maxL) (ret := ret) ho hl hin hse hcode hy hK (by rw [hT]; exact hcB) hoB hclB hg (hsize.trans hml.symm) (argsL := As) (rest := rest) (fun sig h => hn.trans (hlen sig h)) hstack hW (by rw [hb]; exact hdg)
    (fun vm₁ hW₁ => ⟨hf.1, hf.2, hPc (T.setVm vm₁) hT hW₁⟩) with ⟨v, vm₁, ⟨U', l2, c2, s2⟩, hW₁, X', ⟨g', mk, t, L, e1, e2, hq, h1, hL, h2, h3⟩, st⟩ | ⟨q, vm₁, ⟨U', l2, c2, s2⟩, hW₁, X', ⟨g', mk, t, L, E, ce, e1, e2, hq, hce, hcv, hcl, h1, hL, h2, h3⟩, st⟩
  · dsimp only [Pt.U, Pt.locs, Pt.cells, Pt.slots] at X' e1 e2 h1 h2 h3 st
    subst h1; subst h2; subst h3
    exact Or.inl ⟨v, (T.setVm vm₁).calling g' mk (Value.ref b :: As).toArray, t, U', L, hT, X', hL, e1, e2, hq, st⟩
  · dsimp only [Pt.U, Pt.locs, Pt.cells, Pt.slots] at X' e1 e2 h1 h2 h3 st hcl
    subst h1; subst h2; subst h3
    exact Or.inr ⟨q, (T.setVm vm₁).calling g' mk (Value.ref b :: As).toArray, t, U', L, E, ce, hT, X', hL, e1, e2, hq, hce, hcv, vx_cls hW₁ hcl, st⟩
theorem vx_runSX {hh : List (Nat × Nat × Nat × Nat)} (S : CallFix p m c cc nL s args Ts own) (hM : vx_Met l y ws rm Pc Qc XC mc ms free) (cw : vx_CSW R s args own index y bytes maxL ret hh ws rm mc ms n) (hp : PreS s H Pc As)
    (hg : g.method = m) (hn : As.length = n) (hsize : g.locals.size = nL) (hstack : g.stack = As.reverse ++ rest) (hW : 2 * g.monitorRoom + (rest.map fun v => v.category).sum ≤ 8) (hdg : decode cc g.pc = .ok (.invokestatic index, 3)) (hf : cells + mc ≤ R.cells ∧ slots + ms ≤ R.slots) :
    vx_Run p l e R s m args below meth c H locs cells slots mc ms g rest (Qc As.toArray) XC free := by
  obtain ⟨⟨hrc, hrs, hfr, hlo, hws, hcw⟩, hcode, hini, hy, hlen, hl, hstt⟩ := cw
  have hK : vx_Back l R p e below s args y 3 8 (PreOf R mc ms Pc) (PostOf Qc mc ms free) (vx_Post XC mc ms free) := vx_backW (hh := hh) (bytes := bytes) (maxL := maxL) (ret := ret) hM hp.1 hrc hrs hfr hlo hws hcw (fun a' U hW => word_at hW (Or.inl (by first | rfl | simp [Cond.onTables, Cond.keeps, Cond.steady])) hini)
  obtain ⟨hx, hb, hml, ho, -⟩ := S
  intro T hT X
  rcases vx_callSX X hx (hh := hh) (bytes := bytes) (maxL := maxL) (ret := ret) ho hl hstt hini hcode hy hK hg (hsize.trans hml.symm) (argsL := As) (rest := rest) (fun sig h => hn.trans (hlen sig h)) hstack hW (by rw [hb]; exact hdg)
    (fun vm₁ hW₁ => ⟨hf.1, hf.2, hp.2 (T.setVm vm₁) hT hW₁⟩) with ⟨v, vm₁, ⟨U', l2, c2, s2⟩, hW₁, X', ⟨g', mk, t, L, e1, e2, hq, h1, hL, h2, h3⟩, st⟩ | ⟨q, vm₁, ⟨U', l2, c2, s2⟩, hW₁, X', ⟨g', mk, t, L, E, ce, e1, e2, hq, hce, hcv, hcl, h1, hL, h2, h3⟩, st⟩
  · dsimp only [Pt.U, Pt.locs, Pt.cells, Pt.slots] at X' e1 e2 h1 h2 h3 st
    subst h1; subst h2; subst h3
    exact Or.inl ⟨v, (T.setVm vm₁).calling g' mk As.toArray, t, U', L, hT, X', hL, e1, e2, hq, st⟩
  · dsimp only [Pt.U, Pt.locs, Pt.cells, Pt.slots] at X' e1 e2 h1 h2 h3 st hcl
    subst h1; subst h2; subst h3
    exact Or.inr ⟨q, (T.setVm vm₁).calling g' mk As.toArray, t, U', L, E, ce, hT, X', hL, e1, e2, hq, hce, hcv, vx_cls hW₁ hcl, st⟩
end
end VXH
theorem vx_ofWH {l : Launch} {y : MethodName} {ws ws' : List Cond} {rm : Room} {Pc : Array Value → State → Prop} {Qc : Array Value → State → Outcome → State → Prop} {XC : String → State → State → Prop} {mc ms : Nat} {free : Addr → Prop} {cc : ByteArray} {maxL : Nat} {ret : Option FieldType} {hh : List (Nat × Nat × Nat × Nat)}
    (hy : plainName y.cls = true) (hw : ws = Cond.codeWith y cc maxL ret hh :: ws')
    (body : ∀ p e s m args below meth c s₁, BodyLoose p l y (headSpec ws rm) cc maxL ret e s m args below meth c s₁ → c.maxLocals = maxL → Pc args s →
      W p l e (headSpec ws rm).room s m args below meth c s.heap [] 0 0 (vx_MQ below Qc XC args s mc ms free) (entryFrame m args maxL)) : vx_Met l y ws rm Pc Qc XC mc ms free := by
  refine MetFree.of_bodyS (code := cc) (maxLocals := maxL) (ret := ret) hy ?_ ?_
  · intro args s m h hn
    obtain ⟨m9, meth, c, hn9, h1, h2, h3, h4, -, h5, h6, -⟩ := Cond.codeWith_spec (atoms_spec (ws := ws) h _ (by rw [hw]; exact List.mem_cons_self))
    cases hn.symm.trans hn9
    exact ⟨meth, c, h1, h2, h3, h4, h5, h6⟩
  · intro p e s m args below meth c s₁ B hml hP _
    have hh0 : s₁.heap = s.heap := by rw [B.state]; rfl
    obtain ⟨t, a1, o, b1, b2, b3⟩ := body p e s m args below meth c s₁ B hml hP s₁ hh0 (Stand.of_body B)
    exact ⟨t, o, a1, b1, b2, b3⟩
/-! ===== END ===== -/
end
section
def RX0 : String := "PaddyTerraces$Calendar"
def TX0 : u_T := fun k => match k with
  | 0 => ("PaddyTerraces$Calendar", "rain", "[I", true)
  | 1 => ("PaddyTerraces$Calendar", "spring", "[I", true)
  | _ => ("PaddyTerraces$Calendar", "draught", "[I", true)
def tyX0 : Nat → FieldType := fun k => match k with
  | 0 => .array .int
  | 1 => .array .int
  | _ => .array .int
abbrev wsX00 : List Cond := u_ws RX0 TX0 3
theorem nmX0 : ∀ a, a < 3 → ∀ b, b < 3 → a ≠ b → (TX0 a).2.1 ≠ (TX0 b).2.1 := by decide +kernel
theorem tyX0_ok : ∀ k, k < 3 → parseFieldDescriptor (TX0 k).2.2.1 = some (tyX0 k) := by decide +kernel
abbrev cX0_init : ByteArray := prog_2_method_1_code
def yX0_init : MethodName := ⟨RX0, "<init>", "()V"⟩
abbrev cX0_dayNumber : ByteArray := prog_2_method_2_code
def yX0_dayNumber : MethodName := ⟨RX0, "dayNumber", "(II)I"⟩
def RX1 : String := "PaddyTerraces$Move"
def TX1 : u_T := fun k => match k with
  | 0 => ("PaddyTerraces$Move", "terrace", "I", false)
  | 1 => ("PaddyTerraces$Move", "column", "I", false)
  | 2 => ("PaddyTerraces$Move", "height", "I", false)
  | 3 => ("PaddyTerraces$Move", "crops", "I", false)
  | _ => ("PaddyTerraces$Move", "hardness", "I", false)
def tyX1 : Nat → FieldType := fun k => match k with
  | 0 => .int
  | 1 => .int
  | 2 => .int
  | 3 => .int
  | _ => .int
abbrev wsX10 : List Cond := u_ws RX1 TX1 5
theorem nmX1 : ∀ a, a < 5 → ∀ b, b < 5 → a ≠ b → (TX1 a).2.1 ≠ (TX1 b).2.1 := by decide +kernel
theorem tyX1_ok : ∀ k, k < 5 → parseFieldDescriptor (TX1 k).2.2.1 = some (tyX1 k) := by decide +kernel
abbrev cX1_init : ByteArray := prog_3_method_1_code
def yX1_init : MethodName := ⟨RX1, "<init>", "()V"⟩
abbrev cX1_becomeLeaving : ByteArray := prog_3_method_2_code
def yX1_becomeLeaving : MethodName := ⟨RX1, "becomeLeaving", "(II)V"⟩
abbrev cX1_becomeIfBetter : ByteArray := prog_3_method_3_code
def yX1_becomeIfBetter : MethodName := ⟨RX1, "becomeIfBetter", "(IIIII)V"⟩
abbrev cX1_become : ByteArray := prog_3_method_4_code
def yX1_become : MethodName := ⟨RX1, "become", "(IIIII)V"⟩
abbrev cX1_moveNumber : ByteArray := prog_3_method_5_code
def yX1_moveNumber : MethodName := ⟨RX1, "moveNumber", "(I)I"⟩
def RX2 : String := "PaddyTerraces$Slope"
def TX2 : u_T := fun k => match k with
  | 0 => ("PaddyTerraces$Slope", "h", "I", false)
  | 1 => ("PaddyTerraces$Slope", "w", "I", false)
  | 2 => ("PaddyTerraces$Slope", "day", "I", false)
  | 3 => ("PaddyTerraces$Slope", "brook", "I", false)
  | 4 => ("PaddyTerraces$Slope", "died", "I", false)
  | 5 => ("PaddyTerraces$Slope", "share", "[I", true)
  | 6 => ("PaddyTerraces$Slope", "depth", "[I", true)
  | 7 => ("PaddyTerraces$Slope", "bank", "[I", true)
  | 8 => ("PaddyTerraces$Slope", "seepage", "[I", true)
  | 9 => ("PaddyTerraces$Slope", "stone", "[I", true)
  | 10 => ("PaddyTerraces$Slope", "side", "[I", true)
  | 11 => ("PaddyTerraces$Slope", "crop", "[I", true)
  | 12 => ("PaddyTerraces$Slope", "age", "[I", true)
  | 13 => ("PaddyTerraces$Slope", "hardness", "[I", true)
  | 14 => ("PaddyTerraces$Slope", "drowned", "[I", true)
  | 15 => ("PaddyTerraces$Slope", "dry", "[I", true)
  | 16 => ("PaddyTerraces$Slope", "wentOut", "[I", true)
  | _ => ("PaddyTerraces$Slope", "spilled", "[I", true)
def tyX2 : Nat → FieldType := fun k => match k with
  | 0 => .int
  | 1 => .int
  | 2 => .int
  | 3 => .int
  | 4 => .int
  | 5 => .array .int
  | 6 => .array .int
  | 7 => .array .int
  | 8 => .array .int
  | 9 => .array .int
  | 10 => .array .int
  | 11 => .array .int
  | 12 => .array .int
  | 13 => .array .int
  | 14 => .array .int
  | 15 => .array .int
  | 16 => .array .int
  | _ => .array .int
abbrev wsX20 : List Cond := u_ws RX2 TX2 18
theorem nmX2 : ∀ a, a < 18 → ∀ b, b < 18 → a ≠ b → (TX2 a).2.1 ≠ (TX2 b).2.1 := by decide +kernel
theorem tyX2_ok : ∀ k, k < 18 → parseFieldDescriptor (TX2 k).2.2.1 = some (tyX2 k) := by decide +kernel
abbrev cX2_init : ByteArray := prog_4_method_1_code
def yX2_init : MethodName := ⟨RX2, "<init>", "(II)V"⟩
abbrev cX2_startAnew : ByteArray := prog_4_method_2_code
def yX2_startAnew : MethodName := ⟨RX2, "startAnew", "(II)V"⟩
abbrev cX2_copyFrom : ByteArray := prog_4_method_3_code
def yX2_copyFrom : MethodName := ⟨RX2, "copyFrom", "(LPaddyTerraces$Slope;)V"⟩
abbrev cX2_copyRow : ByteArray := prog_4_method_4_code
def yX2_copyRow : MethodName := ⟨RX2, "copyRow", "([I[I)V"⟩
abbrev cX2_cells : ByteArray := prog_4_method_5_code
def yX2_cells : MethodName := ⟨RX2, "cells", "()I"⟩
abbrev cX2_hasField : ByteArray := prog_4_method_6_code
def yX2_hasField : MethodName := ⟨RX2, "hasField", "(II)Z"⟩
abbrev cX2_cellOf : ByteArray := prog_4_method_7_code
def yX2_cellOf : MethodName := ⟨RX2, "cellOf", "(II)I"⟩
abbrev cX2_fieldNumber : ByteArray := prog_4_method_8_code
def yX2_fieldNumber : MethodName := ⟨RX2, "fieldNumber", "(II)I"⟩
abbrev cX2_crops : ByteArray := prog_4_method_9_code
def yX2_crops : MethodName := ⟨RX2, "crops", "()I"⟩
abbrev cX2_allHardness : ByteArray := prog_4_method_10_code
def yX2_allHardness : MethodName := ⟨RX2, "allHardness", "()I"⟩
abbrev cX2_allDepths : ByteArray := prog_4_method_11_code
def yX2_allDepths : MethodName := ⟨RX2, "allDepths", "()I"⟩
abbrev cX2_sumOf : ByteArray := prog_4_method_12_code
def yX2_sumOf : MethodName := ⟨RX2, "sumOf", "([I)I"⟩
abbrev cX2_clearCrop : ByteArray := prog_4_method_13_code
def yX2_clearCrop : MethodName := ⟨RX2, "clearCrop", "(I)V"⟩
abbrev cX2_letDaysGoBy : ByteArray := prog_4_method_14_code
def yX2_letDaysGoBy : MethodName := ⟨RX2, "letDaysGoBy", "(ILPaddyTerraces$Calendar;)V"⟩
abbrev cX2_takeRain : ByteArray := prog_4_method_15_code
def yX2_takeRain : MethodName := ⟨RX2, "takeRain", "(I)V"⟩
abbrev cX2_takeSpring : ByteArray := prog_4_method_16_code
def yX2_takeSpring : MethodName := ⟨RX2, "takeSpring", "(I)V"⟩
abbrev cX2_letWaterFlow : ByteArray := prog_4_method_17_code
def yX2_letWaterFlow : MethodName := ⟨RX2, "letWaterFlow", "()V"⟩
abbrev cX2_letFieldFlow : ByteArray := prog_4_method_18_code
def yX2_letFieldFlow : MethodName := ⟨RX2, "letFieldFlow", "(II)V"⟩
abbrev cX2_bringWater : ByteArray := prog_4_method_19_code
def yX2_bringWater : MethodName := ⟨RX2, "bringWater", "(III)V"⟩
abbrev cX2_loseWater : ByteArray := prog_4_method_20_code
def yX2_loseWater : MethodName := ⟨RX2, "loseWater", "(I)V"⟩
abbrev cX2_growRice : ByteArray := prog_4_method_21_code
def yX2_growRice : MethodName := ⟨RX2, "growRice", "()V"⟩
abbrev cX2_growCrop : ByteArray := prog_4_method_22_code
def yX2_growCrop : MethodName := ⟨RX2, "growCrop", "(I)V"⟩
abbrev cX2_hardening : ByteArray := prog_4_method_23_code
def yX2_hardening : MethodName := ⟨RX2, "hardening", "(I)I"⟩
def RX3 : String := "PaddyTerraces"
def TX3 : u_T := fun k => match k with
  | 0 => ("PaddyTerraces", "calendar", "LPaddyTerraces$Calendar;", true)
  | 1 => ("PaddyTerraces", "slope", "LPaddyTerraces$Slope;", true)
  | 2 => ("PaddyTerraces", "trial", "LPaddyTerraces$Slope;", true)
  | 3 => ("PaddyTerraces", "best", "LPaddyTerraces$Move;", true)
  | 4 => ("PaddyTerraces", "reaped", "I", false)
  | _ => ("PaddyTerraces", "moved", "I", false)
def tyX3 : Nat → FieldType := fun k => match k with
  | 0 => .object "PaddyTerraces$Calendar"
  | 1 => .object "PaddyTerraces$Slope"
  | 2 => .object "PaddyTerraces$Slope"
  | 3 => .object "PaddyTerraces$Move"
  | 4 => .int
  | _ => .int
abbrev wsX30 : List Cond := u_ws RX3 TX3 6
theorem nmX3 : ∀ a, a < 6 → ∀ b, b < 6 → a ≠ b → (TX3 a).2.1 ≠ (TX3 b).2.1 := by decide +kernel
theorem tyX3_ok : ∀ k, k < 6 → parseFieldDescriptor (TX3 k).2.2.1 = some (tyX3 k) := by decide +kernel
abbrev cX3_init : ByteArray := prog_1_method_1_code
def yX3_init : MethodName := ⟨RX3, "<init>", "()V"⟩
abbrev cX3_lay : ByteArray := prog_1_method_2_code
def yX3_lay : MethodName := ⟨RX3, "lay", "(II)I"⟩
abbrev cX3_setField : ByteArray := prog_1_method_3_code
def yX3_setField : MethodName := ⟨RX3, "setField", "(IIII)I"⟩
abbrev cX3_moveStone : ByteArray := prog_1_method_4_code
def yX3_moveStone : MethodName := ⟨RX3, "moveStone", "(III)I"⟩
abbrev cX3_turn : ByteArray := prog_1_method_5_code
def yX3_turn : MethodName := ⟨RX3, "turn", "(III)I"⟩
abbrev cX3_setShare : ByteArray := prog_1_method_6_code
def yX3_setShare : MethodName := ⟨RX3, "setShare", "(II)I"⟩
abbrev cX3_setDay : ByteArray := prog_1_method_7_code
def yX3_setDay : MethodName := ⟨RX3, "setDay", "(IIII)I"⟩
abbrev cX3_plant : ByteArray := prog_1_method_8_code
def yX3_plant : MethodName := ⟨RX3, "plant", "(III)I"⟩
abbrev cX3_reap : ByteArray := prog_1_method_9_code
def yX3_reap : MethodName := ⟨RX3, "reap", "(II)I"⟩
abbrev cX3_pass : ByteArray := prog_1_method_10_code
def yX3_pass : MethodName := ⟨RX3, "pass", "(I)I"⟩
abbrev cX3_field : ByteArray := prog_1_method_11_code
def yX3_field : MethodName := ⟨RX3, "field", "(III)I"⟩
abbrev cX3_count : ByteArray := prog_1_method_12_code
def yX3_count : MethodName := ⟨RX3, "count", "(I)I"⟩
abbrev cX3_weather : ByteArray := prog_1_method_13_code
def yX3_weather : MethodName := ⟨RX3, "weather", "(II)I"⟩
abbrev cX3_foresee : ByteArray := prog_1_method_14_code
def yX3_foresee : MethodName := ⟨RX3, "foresee", "(II)I"⟩
abbrev cX3_advise : ByteArray := prog_1_method_15_code
def yX3_advise : MethodName := ⟨RX3, "advise", "(II)I"⟩
abbrev cX3_depth : ByteArray := prog_1_method_16_code
def yX3_depth : MethodName := ⟨RX3, "depth", "()D"⟩
abbrev cX3_digest : ByteArray := prog_1_method_17_code
def yX3_digest : MethodName := ⟨RX3, "digest", "()J"⟩
abbrev cX3_isWithin : ByteArray := prog_1_method_18_code
def yX3_isWithin : MethodName := ⟨RX3, "isWithin", "(III)Z"⟩
abbrev cX3_countNumber : ByteArray := prog_1_method_19_code
def yX3_countNumber : MethodName := ⟨RX3, "countNumber", "(I)I"⟩
abbrev cX3_foreseenNumber : ByteArray := prog_1_method_20_code
def yX3_foreseenNumber : MethodName := ⟨RX3, "foreseenNumber", "(I)I"⟩
abbrev cX3_findBestMove : ByteArray := prog_1_method_21_code
def yX3_findBestMove : MethodName := ⟨RX3, "findBestMove", "(I)V"⟩
def RX4 : String := "PaddyTerracesModel"
def TX4 : u_T := fun k => match k with
  | 0 => ("PaddyTerracesModel", "thrown", "I", false)
  | 1 => ("PaddyTerracesModel", "n", "[I", true)
  | 2 => ("PaddyTerracesModel", "shares", "[I", true)
  | 3 => ("PaddyTerracesModel", "fields", "[I", true)
  | 4 => ("PaddyTerracesModel", "weather", "[I", true)
  | 5 => ("PaddyTerracesModel", "spareCounts", "[I", true)
  | _ => ("PaddyTerracesModel", "spareFields", "[I", true)
def tyX4 : Nat → FieldType := fun k => match k with
  | 0 => .int
  | 1 => .array .int
  | 2 => .array .int
  | 3 => .array .int
  | 4 => .array .int
  | 5 => .array .int
  | _ => .array .int
abbrev wsX40 : List Cond := u_ws RX4 TX4 7
theorem nmX4 : ∀ a, a < 7 → ∀ b, b < 7 → a ≠ b → (TX4 a).2.1 ≠ (TX4 b).2.1 := by decide +kernel
theorem tyX4_ok : ∀ k, k < 7 → parseFieldDescriptor (TX4 k).2.2.1 = some (tyX4 k) := by decide +kernel
abbrev cX4_init : ByteArray := prog_6_method_1_code
def yX4_init : MethodName := ⟨RX4, "<init>", "()V"⟩
abbrev cX4_clear : ByteArray := prog_6_method_2_code
def yX4_clear : MethodName := ⟨RX4, "clear", "(II)V"⟩
abbrev cX4_thrown : ByteArray := prog_6_method_3_code
def yX4_thrown : MethodName := ⟨RX4, "thrown", "()I"⟩
abbrev cX4_fail : ByteArray := prog_6_method_4_code
def yX4_fail : MethodName := ⟨RX4, "fail", "(I)I"⟩
abbrev cX4_isIn : ByteArray := prog_6_method_5_code
def yX4_isIn : MethodName := ⟨RX4, "isIn", "(III)Z"⟩
abbrev cX4_isField : ByteArray := prog_6_method_6_code
def yX4_isField : MethodName := ⟨RX4, "isField", "(II)Z"⟩
abbrev cX4_at : ByteArray := prog_6_method_7_code
def yX4_at : MethodName := ⟨RX4, "at", "(II)I"⟩
abbrev cX4_many : ByteArray := prog_6_method_8_code
def yX4_many : MethodName := ⟨RX4, "many", "()I"⟩
abbrev cX4_lay : ByteArray := prog_6_method_9_code
def yX4_lay : MethodName := ⟨RX4, "lay", "(II)I"⟩
abbrev cX4_set : ByteArray := prog_6_method_10_code
def yX4_set : MethodName := ⟨RX4, "set", "(II)I"⟩
abbrev cX4_setField : ByteArray := prog_6_method_11_code
def yX4_setField : MethodName := ⟨RX4, "setField", "(IIII)I"⟩
abbrev cX4_moveStone : ByteArray := prog_6_method_12_code
def yX4_moveStone : MethodName := ⟨RX4, "moveStone", "(III)I"⟩
abbrev cX4_turn : ByteArray := prog_6_method_13_code
def yX4_turn : MethodName := ⟨RX4, "turn", "(III)I"⟩
abbrev cX4_setShare : ByteArray := prog_6_method_14_code
def yX4_setShare : MethodName := ⟨RX4, "setShare", "(II)I"⟩
abbrev cX4_setDay : ByteArray := prog_6_method_15_code
def yX4_setDay : MethodName := ⟨RX4, "setDay", "(IIII)I"⟩
abbrev cX4_sum : ByteArray := prog_6_method_16_code
def yX4_sum : MethodName := ⟨RX4, "sum", "(I)I"⟩
abbrev cX4_fallow : ByteArray := prog_6_method_17_code
def yX4_fallow : MethodName := ⟨RX4, "fallow", "(I)V"⟩
abbrev cX4_plant : ByteArray := prog_6_method_18_code
def yX4_plant : MethodName := ⟨RX4, "plant", "(III)I"⟩
abbrev cX4_reap : ByteArray := prog_6_method_19_code
def yX4_reap : MethodName := ⟨RX4, "reap", "(II)I"⟩
abbrev cX4_come : ByteArray := prog_6_method_20_code
def yX4_come : MethodName := ⟨RX4, "come", "(III)V"⟩
abbrev cX4_flow : ByteArray := prog_6_method_21_code
def yX4_flow : MethodName := ⟨RX4, "flow", "(II)V"⟩
abbrev cX4_growRice : ByteArray := prog_6_method_22_code
def yX4_growRice : MethodName := ⟨RX4, "growRice", "(I)V"⟩
abbrev cX4_dayOn : ByteArray := prog_6_method_23_code
def yX4_dayOn : MethodName := ⟨RX4, "dayOn", "()V"⟩
abbrev cX4_pass : ByteArray := prog_6_method_24_code
def yX4_pass : MethodName := ⟨RX4, "pass", "(I)I"⟩
abbrev cX4_field : ByteArray := prog_6_method_25_code
def yX4_field : MethodName := ⟨RX4, "field", "(III)I"⟩
abbrev cX4_counted : ByteArray := prog_6_method_26_code
def yX4_counted : MethodName := ⟨RX4, "counted", "(I)I"⟩
abbrev cX4_count : ByteArray := prog_6_method_27_code
def yX4_count : MethodName := ⟨RX4, "count", "(I)I"⟩
abbrev cX4_weather : ByteArray := prog_6_method_28_code
def yX4_weather : MethodName := ⟨RX4, "weather", "(II)I"⟩
abbrev cX4_keep : ByteArray := prog_6_method_29_code
def yX4_keep : MethodName := ⟨RX4, "keep", "()V"⟩
abbrev cX4_bringBack : ByteArray := prog_6_method_30_code
def yX4_bringBack : MethodName := ⟨RX4, "bringBack", "()V"⟩
abbrev cX4_foresee : ByteArray := prog_6_method_31_code
def yX4_foresee : MethodName := ⟨RX4, "foresee", "(II)I"⟩
abbrev cX4_worth : ByteArray := prog_6_method_32_code
def yX4_worth : MethodName := ⟨RX4, "worth", "(I)I"⟩
abbrev cX4_advise : ByteArray := prog_6_method_33_code
def yX4_advise : MethodName := ⟨RX4, "advise", "(II)I"⟩
abbrev cX4_depth : ByteArray := prog_6_method_34_code
def yX4_depth : MethodName := ⟨RX4, "depth", "()D"⟩
abbrev cX4_digest : ByteArray := prog_6_method_35_code
def yX4_digest : MethodName := ⟨RX4, "digest", "()J"⟩
def RJx145de : String := "java/io/Serializable"
def TJx145de : u_T := fun k => match k with
  | _ => ("", "", "", false)
def tyJx145de : Nat → FieldType := fun k => match k with
  | _ => .int
abbrev wsJx145de0 : List Cond := u_ws RJx145de TJx145de 0
theorem nmJx145de : ∀ a, a < 0 → ∀ b, b < 0 → a ≠ b → (TJx145de a).2.1 ≠ (TJx145de b).2.1 := by decide +kernel
theorem tyJx145de_ok : ∀ k, k < 0 → parseFieldDescriptor (TJx145de k).2.2.1 = some (tyJx145de k) := by decide +kernel
def RJ9 : String := "java/lang/Math"
def TJ9 : u_T := fun k => match k with
  | _ => ("", "", "", false)
def tyJ9 : Nat → FieldType := fun k => match k with
  | _ => .int
abbrev wsJ90 : List Cond := u_ws RJ9 TJ9 0
theorem nmJ9 : ∀ a, a < 0 → ∀ b, b < 0 → a ≠ b → (TJ9 a).2.1 ≠ (TJ9 b).2.1 := by decide +kernel
theorem tyJ9_ok : ∀ k, k < 0 → parseFieldDescriptor (TJ9 k).2.2.1 = some (tyJ9 k) := by decide +kernel
abbrev cJ9_abs_0f7a4 : ByteArray := prog_11_method_59_code
def yJ9_abs_0f7a4 : MethodName := ⟨RJ9, "abs", "(I)I"⟩
abbrev cJ9_max_7cf53 : ByteArray := prog_11_method_65_code
def yJ9_max_7cf53 : MethodName := ⟨RJ9, "max", "(II)I"⟩
abbrev cJ9_min_7cf53 : ByteArray := prog_11_method_69_code
def yJ9_min_7cf53 : MethodName := ⟨RJ9, "min", "(II)I"⟩
def RJ0 : String := "java/lang/String"
def TJ0 : u_T := fun k => match k with
  | _ => ("", "", "", false)
def tyJ0 : Nat → FieldType := fun k => match k with
  | _ => .int
abbrev wsJ00 : List Cond := u_ws RJ0 TJ0 0
theorem nmJ0 : ∀ a, a < 0 → ∀ b, b < 0 → a ≠ b → (TJ0 a).2.1 ≠ (TJ0 b).2.1 := by decide +kernel
theorem tyJ0_ok : ∀ k, k < 0 → parseFieldDescriptor (TJ0 k).2.2.1 = some (tyJ0 k) := by decide +kernel
def RJ10 : String := "java/lang/System"
def TJ10 : u_T := fun k => match k with
  | _ => ("", "", "", false)
def tyJ10 : Nat → FieldType := fun k => match k with
  | _ => .int
abbrev wsJ100 : List Cond := u_ws RJ10 TJ10 0
theorem nmJ10 : ∀ a, a < 0 → ∀ b, b < 0 → a ≠ b → (TJ10 a).2.1 ≠ (TJ10 b).2.1 := by decide +kernel
theorem tyJ10_ok : ∀ k, k < 0 → parseFieldDescriptor (TJ10 k).2.2.1 = some (tyJ10 k) := by decide +kernel
def RJ7 : String := "java/util/Arrays"
def TJ7 : u_T := fun k => match k with
  | _ => ("", "", "", false)
def tyJ7 : Nat → FieldType := fun k => match k with
  | _ => .int
abbrev wsJ70 : List Cond := u_ws RJ7 TJ7 0
theorem nmJ7 : ∀ a, a < 0 → ∀ b, b < 0 → a ≠ b → (TJ7 a).2.1 ≠ (TJ7 b).2.1 := by decide +kernel
theorem tyJ7_ok : ∀ k, k < 0 → parseFieldDescriptor (TJ7 k).2.2.1 = some (tyJ7 k) := by decide +kernel
abbrev cJ7_fill_53178 : ByteArray := prog_16_method_103_code
def yJ7_fill_53178 : MethodName := ⟨RJ7, "fill", "([II)V"⟩
def RL : String := "PaddyTerracesLaw"
abbrev cL_lay : ByteArray := method_3_code
def yL_lay : MethodName := ⟨RL, "lay", "(LPaddyTerraces;II[J)I"⟩
abbrev cL_setField : ByteArray := method_4_code
def yL_setField : MethodName := ⟨RL, "setField", "(LPaddyTerraces;IIII[J)I"⟩
abbrev cL_moveStone : ByteArray := method_5_code
def yL_moveStone : MethodName := ⟨RL, "moveStone", "(LPaddyTerraces;III[J)I"⟩
abbrev cL_turn : ByteArray := method_6_code
def yL_turn : MethodName := ⟨RL, "turn", "(LPaddyTerraces;III[J)I"⟩
abbrev cL_setShare : ByteArray := method_7_code
def yL_setShare : MethodName := ⟨RL, "setShare", "(LPaddyTerraces;II[J)I"⟩
abbrev cL_setDay : ByteArray := method_8_code
def yL_setDay : MethodName := ⟨RL, "setDay", "(LPaddyTerraces;IIII[J)I"⟩
abbrev cL_plant : ByteArray := method_9_code
def yL_plant : MethodName := ⟨RL, "plant", "(LPaddyTerraces;III[J)I"⟩
abbrev cL_reap : ByteArray := method_10_code
def yL_reap : MethodName := ⟨RL, "reap", "(LPaddyTerraces;II[J)I"⟩
abbrev cL_pass : ByteArray := method_11_code
def yL_pass : MethodName := ⟨RL, "pass", "(LPaddyTerraces;I[J)I"⟩
abbrev cL_field : ByteArray := method_12_code
def yL_field : MethodName := ⟨RL, "field", "(LPaddyTerraces;III[J)I"⟩
abbrev cL_count : ByteArray := method_13_code
def yL_count : MethodName := ⟨RL, "count", "(LPaddyTerraces;I[J)I"⟩
abbrev cL_weather : ByteArray := method_14_code
def yL_weather : MethodName := ⟨RL, "weather", "(LPaddyTerraces;II[J)I"⟩
abbrev cL_foresee : ByteArray := method_15_code
def yL_foresee : MethodName := ⟨RL, "foresee", "(LPaddyTerraces;II[J)I"⟩
abbrev cL_advise : ByteArray := method_16_code
def yL_advise : MethodName := ⟨RL, "advise", "(LPaddyTerraces;II[J)I"⟩
abbrev cL_law : ByteArray := code
def yL_law : MethodName := ⟨RL, "law", "([I)Z"⟩
def wsJ7_fill_53178 : List Cond := .code yJ7_fill_53178 cJ7_fill_53178 4 none :: ([])
def wsX0_init : List Cond := .code yX0_init cX0_init 1 none :: ([.methodLink RX0 3 objectInit, .instanceMethod objectInit, .code objectInit ⟨#[0xb1]⟩ 1 none, .arrayClass .int, .fieldLink RX0 9 "PaddyTerraces$Calendar" "rain" "[I", .fieldLink RX0 15 "PaddyTerraces$Calendar" "spring" "[I", .fieldLink RX0 18 "PaddyTerraces$Calendar" "draught" "[I", .methodLink RX0 21 yJ7_fill_53178, .static yJ7_fill_53178, .initialized RJ7, .code yJ7_fill_53178 cJ7_fill_53178 4 none] ++ wsX00)
def wsX0_dayNumber : List Cond := .code yX0_dayNumber cX0_dayNumber 3 (some .int) :: ([.fieldLink RX0 9 "PaddyTerraces$Calendar" "rain" "[I", .fieldLink RX0 15 "PaddyTerraces$Calendar" "spring" "[I", .fieldLink RX0 18 "PaddyTerraces$Calendar" "draught" "[I"] ++ wsX00)
def wsX1_init : List Cond := .code yX1_init cX1_init 1 none :: ([.methodLink RX1 3 objectInit, .instanceMethod objectInit, .code objectInit ⟨#[0xb1]⟩ 1 none])
def wsX1_become : List Cond := .code yX1_become cX1_become 6 none :: ([.fieldLink RX1 22 "PaddyTerraces$Move" "terrace" "I", .fieldLink RX1 25 "PaddyTerraces$Move" "column" "I", .fieldLink RX1 28 "PaddyTerraces$Move" "height" "I", .fieldLink RX1 15 "PaddyTerraces$Move" "crops" "I", .fieldLink RX1 19 "PaddyTerraces$Move" "hardness" "I"] ++ wsX10)
def wsX1_becomeLeaving : List Cond := .code yX1_becomeLeaving cX1_becomeLeaving 3 none :: ([.methodLink RX1 9 yX1_become, .instanceMethod yX1_become, .selects RX1 yX1_become yX1_become, .initialized RX1, .code yX1_become cX1_become 6 none, .fieldLink RX1 22 "PaddyTerraces$Move" "terrace" "I", .fieldLink RX1 25 "PaddyTerraces$Move" "column" "I", .fieldLink RX1 28 "PaddyTerraces$Move" "height" "I", .fieldLink RX1 15 "PaddyTerraces$Move" "crops" "I", .fieldLink RX1 19 "PaddyTerraces$Move" "hardness" "I"] ++ wsX10)
def wsX1_becomeIfBetter : List Cond := .code yX1_becomeIfBetter cX1_becomeIfBetter 6 none :: ([.fieldLink RX1 15 "PaddyTerraces$Move" "crops" "I", .fieldLink RX1 19 "PaddyTerraces$Move" "hardness" "I", .methodLink RX1 9 yX1_become, .instanceMethod yX1_become, .selects RX1 yX1_become yX1_become, .initialized RX1, .code yX1_become cX1_become 6 none, .fieldLink RX1 22 "PaddyTerraces$Move" "terrace" "I", .fieldLink RX1 25 "PaddyTerraces$Move" "column" "I", .fieldLink RX1 28 "PaddyTerraces$Move" "height" "I"] ++ wsX10)
def wsX1_moveNumber : List Cond := .code yX1_moveNumber cX1_moveNumber 2 (some .int) :: ([.fieldLink RX1 22 "PaddyTerraces$Move" "terrace" "I", .fieldLink RX1 25 "PaddyTerraces$Move" "column" "I", .fieldLink RX1 28 "PaddyTerraces$Move" "height" "I"] ++ wsX10)
def wsX2_clearCrop : List Cond := .code yX2_clearCrop cX2_clearCrop 2 none :: ([.fieldLink RX2 30 "PaddyTerraces$Slope" "crop" "[I", .fieldLink RX2 33 "PaddyTerraces$Slope" "age" "[I", .fieldLink RX2 36 "PaddyTerraces$Slope" "hardness" "[I", .fieldLink RX2 39 "PaddyTerraces$Slope" "drowned" "[I", .fieldLink RX2 42 "PaddyTerraces$Slope" "dry" "[I"] ++ wsX20)
def wsX2_startAnew_r1 : List Cond := [Cond.fieldLink RX2 55 "PaddyTerraces$Slope" "h" "I", Cond.fieldLink RX2 59 "PaddyTerraces$Slope" "w" "I", Cond.fieldLink RX2 62 "PaddyTerraces$Slope" "day" "I", Cond.fieldLink RX2 65 "PaddyTerraces$Slope" "brook" "I", Cond.fieldLink RX2 68 "PaddyTerraces$Slope" "died" "I", Cond.fieldLink RX2 9 "PaddyTerraces$Slope" "share" "[I", Cond.fieldLink RX2 15 "PaddyTerraces$Slope" "depth" "[I", Cond.fieldLink RX2 18 "PaddyTerraces$Slope" "bank" "[I", Cond.fieldLink RX2 21 "PaddyTerraces$Slope" "seepage" "[I", Cond.fieldLink RX2 24 "PaddyTerraces$Slope" "stone" "[I", Cond.fieldLink RX2 27 "PaddyTerraces$Slope" "side" "[I", Cond.fieldLink RX2 45 "PaddyTerraces$Slope" "wentOut" "[I", Cond.fieldLink RX2 48 "PaddyTerraces$Slope" "spilled" "[I", Cond.methodLink RX2 71 yJ7_fill_53178, Cond.static yJ7_fill_53178, Cond.initialized RJ7, Cond.code yJ7_fill_53178 cJ7_fill_53178 4 none, Cond.methodLink RX2 77 yX2_clearCrop, Cond.instanceMethod yX2_clearCrop, Cond.selects RX2 yX2_clearCrop yX2_clearCrop, Cond.initialized RX2, Cond.code yX2_clearCrop cX2_clearCrop 2 none, Cond.fieldLink RX2 30 "PaddyTerraces$Slope" "crop" "[I", Cond.fieldLink RX2 33 "PaddyTerraces$Slope" "age" "[I"]
def wsX2_startAnew_r2 : List Cond := [Cond.fieldLink RX2 36 "PaddyTerraces$Slope" "hardness" "[I", Cond.fieldLink RX2 39 "PaddyTerraces$Slope" "drowned" "[I", Cond.fieldLink RX2 42 "PaddyTerraces$Slope" "dry" "[I"]
def wsX2_startAnew : List Cond := .code yX2_startAnew cX2_startAnew 4 none :: ((wsX2_startAnew_r1 ++ wsX2_startAnew_r2) ++ wsX20)
def wsX2_init_r1 : List Cond := [Cond.methodLink RX2 3 objectInit, Cond.instanceMethod objectInit, Cond.code objectInit ⟨#[0xb1]⟩ 1 none, Cond.arrayClass .int, Cond.fieldLink RX2 9 "PaddyTerraces$Slope" "share" "[I", Cond.fieldLink RX2 15 "PaddyTerraces$Slope" "depth" "[I", Cond.fieldLink RX2 18 "PaddyTerraces$Slope" "bank" "[I", Cond.fieldLink RX2 21 "PaddyTerraces$Slope" "seepage" "[I", Cond.fieldLink RX2 24 "PaddyTerraces$Slope" "stone" "[I", Cond.fieldLink RX2 27 "PaddyTerraces$Slope" "side" "[I", Cond.fieldLink RX2 30 "PaddyTerraces$Slope" "crop" "[I", Cond.fieldLink RX2 33 "PaddyTerraces$Slope" "age" "[I", Cond.fieldLink RX2 36 "PaddyTerraces$Slope" "hardness" "[I", Cond.fieldLink RX2 39 "PaddyTerraces$Slope" "drowned" "[I", Cond.fieldLink RX2 42 "PaddyTerraces$Slope" "dry" "[I", Cond.fieldLink RX2 45 "PaddyTerraces$Slope" "wentOut" "[I", Cond.fieldLink RX2 48 "PaddyTerraces$Slope" "spilled" "[I", Cond.methodLink RX2 51 yX2_startAnew, Cond.instanceMethod yX2_startAnew, Cond.selects RX2 yX2_startAnew yX2_startAnew, Cond.initialized RX2, Cond.code yX2_startAnew cX2_startAnew 4 none, Cond.fieldLink RX2 55 "PaddyTerraces$Slope" "h" "I", Cond.fieldLink RX2 59 "PaddyTerraces$Slope" "w" "I"]
def wsX2_init_r2 : List Cond := [Cond.fieldLink RX2 62 "PaddyTerraces$Slope" "day" "I", Cond.fieldLink RX2 65 "PaddyTerraces$Slope" "brook" "I", Cond.fieldLink RX2 68 "PaddyTerraces$Slope" "died" "I", Cond.methodLink RX2 71 yJ7_fill_53178, Cond.static yJ7_fill_53178, Cond.initialized RJ7, Cond.code yJ7_fill_53178 cJ7_fill_53178 4 none, Cond.methodLink RX2 77 yX2_clearCrop, Cond.instanceMethod yX2_clearCrop, Cond.selects RX2 yX2_clearCrop yX2_clearCrop, Cond.code yX2_clearCrop cX2_clearCrop 2 none]
def wsX2_init : List Cond := .code yX2_init cX2_init 3 none :: ((wsX2_init_r1 ++ wsX2_init_r2) ++ wsX20)
def wsX2_copyRow : List Cond := .code yX2_copyRow cX2_copyRow 2 none :: ([.methodLink RX2 81 arraycopyName, .native arraycopyName, .static arraycopyName, .initialized "java/lang/System"])
def wsX2_copyFrom_r1 : List Cond := [Cond.fieldLink RX2 55 "PaddyTerraces$Slope" "h" "I", Cond.fieldLink RX2 59 "PaddyTerraces$Slope" "w" "I", Cond.fieldLink RX2 62 "PaddyTerraces$Slope" "day" "I", Cond.fieldLink RX2 65 "PaddyTerraces$Slope" "brook" "I", Cond.fieldLink RX2 68 "PaddyTerraces$Slope" "died" "I", Cond.fieldLink RX2 9 "PaddyTerraces$Slope" "share" "[I", Cond.methodLink RX2 81 arraycopyName, Cond.native arraycopyName, Cond.static arraycopyName, Cond.initialized "java/lang/System", Cond.fieldLink RX2 15 "PaddyTerraces$Slope" "depth" "[I", Cond.fieldLink RX2 18 "PaddyTerraces$Slope" "bank" "[I", Cond.fieldLink RX2 21 "PaddyTerraces$Slope" "seepage" "[I", Cond.fieldLink RX2 24 "PaddyTerraces$Slope" "stone" "[I", Cond.fieldLink RX2 27 "PaddyTerraces$Slope" "side" "[I", Cond.fieldLink RX2 30 "PaddyTerraces$Slope" "crop" "[I", Cond.fieldLink RX2 33 "PaddyTerraces$Slope" "age" "[I", Cond.fieldLink RX2 36 "PaddyTerraces$Slope" "hardness" "[I", Cond.fieldLink RX2 39 "PaddyTerraces$Slope" "drowned" "[I", Cond.fieldLink RX2 42 "PaddyTerraces$Slope" "dry" "[I", Cond.fieldLink RX2 45 "PaddyTerraces$Slope" "wentOut" "[I", Cond.fieldLink RX2 48 "PaddyTerraces$Slope" "spilled" "[I", Cond.methodLink RX2 87 yX2_copyRow, Cond.static yX2_copyRow]
def wsX2_copyFrom_r2 : List Cond := [Cond.initialized RX2, Cond.code yX2_copyRow cX2_copyRow 2 none]
def wsX2_copyFrom : List Cond := .code yX2_copyFrom cX2_copyFrom 2 none :: ((wsX2_copyFrom_r1 ++ wsX2_copyFrom_r2) ++ wsX20)
def wsX2_cells : List Cond := .code yX2_cells cX2_cells 1 (some .int) :: ([.fieldLink RX2 55 "PaddyTerraces$Slope" "h" "I", .fieldLink RX2 59 "PaddyTerraces$Slope" "w" "I"] ++ wsX20)
def wsX2_hasField : List Cond := .code yX2_hasField cX2_hasField 3 (some .boolean) :: ([.fieldLink RX2 55 "PaddyTerraces$Slope" "h" "I", .fieldLink RX2 59 "PaddyTerraces$Slope" "w" "I"] ++ wsX20)
def wsX2_cellOf : List Cond := .code yX2_cellOf cX2_cellOf 3 (some .int) :: ([.fieldLink RX2 59 "PaddyTerraces$Slope" "w" "I"] ++ wsX20)
def wsX2_fieldNumber : List Cond := .code yX2_fieldNumber cX2_fieldNumber 3 (some .int) :: ([.fieldLink RX2 15 "PaddyTerraces$Slope" "depth" "[I", .fieldLink RX2 18 "PaddyTerraces$Slope" "bank" "[I", .fieldLink RX2 21 "PaddyTerraces$Slope" "seepage" "[I", .fieldLink RX2 24 "PaddyTerraces$Slope" "stone" "[I", .fieldLink RX2 27 "PaddyTerraces$Slope" "side" "[I", .fieldLink RX2 30 "PaddyTerraces$Slope" "crop" "[I", .fieldLink RX2 33 "PaddyTerraces$Slope" "age" "[I", .fieldLink RX2 36 "PaddyTerraces$Slope" "hardness" "[I", .fieldLink RX2 39 "PaddyTerraces$Slope" "drowned" "[I", .fieldLink RX2 42 "PaddyTerraces$Slope" "dry" "[I", .fieldLink RX2 45 "PaddyTerraces$Slope" "wentOut" "[I", .fieldLink RX2 48 "PaddyTerraces$Slope" "spilled" "[I"] ++ wsX20)
def wsX2_sumOf : List Cond := .code yX2_sumOf cX2_sumOf 4 (some .int) :: ([.methodLink RX2 95 yX2_cells, .instanceMethod yX2_cells, .selects RX2 yX2_cells yX2_cells, .initialized RX2, .code yX2_cells cX2_cells 1 (some .int), .fieldLink RX2 55 "PaddyTerraces$Slope" "h" "I", .fieldLink RX2 59 "PaddyTerraces$Slope" "w" "I"] ++ wsX20)
def wsX2_crops : List Cond := .code yX2_crops cX2_crops 1 (some .int) :: ([.fieldLink RX2 30 "PaddyTerraces$Slope" "crop" "[I", .methodLink RX2 91 yX2_sumOf, .instanceMethod yX2_sumOf, .selects RX2 yX2_sumOf yX2_sumOf, .initialized RX2, .code yX2_sumOf cX2_sumOf 4 (some .int), .methodLink RX2 95 yX2_cells, .instanceMethod yX2_cells, .selects RX2 yX2_cells yX2_cells, .code yX2_cells cX2_cells 1 (some .int), .fieldLink RX2 55 "PaddyTerraces$Slope" "h" "I", .fieldLink RX2 59 "PaddyTerraces$Slope" "w" "I"] ++ wsX20)
def wsX2_allHardness : List Cond := .code yX2_allHardness cX2_allHardness 1 (some .int) :: ([.fieldLink RX2 36 "PaddyTerraces$Slope" "hardness" "[I", .methodLink RX2 91 yX2_sumOf, .instanceMethod yX2_sumOf, .selects RX2 yX2_sumOf yX2_sumOf, .initialized RX2, .code yX2_sumOf cX2_sumOf 4 (some .int), .methodLink RX2 95 yX2_cells, .instanceMethod yX2_cells, .selects RX2 yX2_cells yX2_cells, .code yX2_cells cX2_cells 1 (some .int), .fieldLink RX2 55 "PaddyTerraces$Slope" "h" "I", .fieldLink RX2 59 "PaddyTerraces$Slope" "w" "I"] ++ wsX20)
def wsX2_allDepths : List Cond := .code yX2_allDepths cX2_allDepths 1 (some .int) :: ([.fieldLink RX2 15 "PaddyTerraces$Slope" "depth" "[I", .methodLink RX2 91 yX2_sumOf, .instanceMethod yX2_sumOf, .selects RX2 yX2_sumOf yX2_sumOf, .initialized RX2, .code yX2_sumOf cX2_sumOf 4 (some .int), .methodLink RX2 95 yX2_cells, .instanceMethod yX2_cells, .selects RX2 yX2_cells yX2_cells, .code yX2_cells cX2_cells 1 (some .int), .fieldLink RX2 55 "PaddyTerraces$Slope" "h" "I", .fieldLink RX2 59 "PaddyTerraces$Slope" "w" "I"] ++ wsX20)
def wsX2_takeRain : List Cond := .code yX2_takeRain cX2_takeRain 3 none :: ([.fieldLink RX2 15 "PaddyTerraces$Slope" "depth" "[I", .methodLink RX2 95 yX2_cells, .instanceMethod yX2_cells, .selects RX2 yX2_cells yX2_cells, .initialized RX2, .code yX2_cells cX2_cells 1 (some .int), .fieldLink RX2 55 "PaddyTerraces$Slope" "h" "I", .fieldLink RX2 59 "PaddyTerraces$Slope" "w" "I"] ++ wsX20)
def wsX2_takeSpring : List Cond := .code yX2_takeSpring cX2_takeSpring 4 none :: ([.fieldLink RX2 59 "PaddyTerraces$Slope" "w" "I", .fieldLink RX2 9 "PaddyTerraces$Slope" "share" "[I", .fieldLink RX2 15 "PaddyTerraces$Slope" "depth" "[I"] ++ wsX20)
def wsX2_bringWater : List Cond := .code yX2_bringWater cX2_bringWater 4 none :: ([.fieldLink RX2 15 "PaddyTerraces$Slope" "depth" "[I", .fieldLink RX2 65 "PaddyTerraces$Slope" "brook" "I", .methodLink RX2 144 yX2_hasField, .instanceMethod yX2_hasField, .selects RX2 yX2_hasField yX2_hasField, .initialized RX2, .code yX2_hasField cX2_hasField 3 (some .boolean), .fieldLink RX2 55 "PaddyTerraces$Slope" "h" "I", .fieldLink RX2 59 "PaddyTerraces$Slope" "w" "I", .methodLink RX2 128 yX2_cellOf, .instanceMethod yX2_cellOf, .selects RX2 yX2_cellOf yX2_cellOf, .code yX2_cellOf cX2_cellOf 3 (some .int)] ++ wsX20)
def wsX2_letFieldFlow_r1 : List Cond := [Cond.fieldLink RX2 15 "PaddyTerraces$Slope" "depth" "[I", Cond.fieldLink RX2 24 "PaddyTerraces$Slope" "stone" "[I", Cond.methodLink RX2 132 Lib.Math.max.name, Cond.static Lib.Math.max.name, Cond.initialized "java/lang/Math", Cond.code Lib.Math.max.name Lib.Math.max.code 2 (some .int), Cond.methodLink RX2 137 Lib.Math.min.name, Cond.static Lib.Math.min.name, Cond.code Lib.Math.min.name Lib.Math.min.code 2 (some .int), Cond.fieldLink RX2 45 "PaddyTerraces$Slope" "wentOut" "[I", Cond.fieldLink RX2 27 "PaddyTerraces$Slope" "side" "[I", Cond.fieldLink RX2 18 "PaddyTerraces$Slope" "bank" "[I", Cond.fieldLink RX2 48 "PaddyTerraces$Slope" "spilled" "[I", Cond.methodLink RX2 128 yX2_cellOf, Cond.instanceMethod yX2_cellOf, Cond.selects RX2 yX2_cellOf yX2_cellOf, Cond.initialized RX2, Cond.code yX2_cellOf cX2_cellOf 3 (some .int), Cond.fieldLink RX2 59 "PaddyTerraces$Slope" "w" "I", Cond.methodLink RX2 140 yX2_bringWater, Cond.instanceMethod yX2_bringWater, Cond.selects RX2 yX2_bringWater yX2_bringWater, Cond.code yX2_bringWater cX2_bringWater 4 none, Cond.fieldLink RX2 65 "PaddyTerraces$Slope" "brook" "I"]
def wsX2_letFieldFlow_r2 : List Cond := [Cond.methodLink RX2 144 yX2_hasField, Cond.instanceMethod yX2_hasField, Cond.selects RX2 yX2_hasField yX2_hasField, Cond.code yX2_hasField cX2_hasField 3 (some .boolean), Cond.fieldLink RX2 55 "PaddyTerraces$Slope" "h" "I"]
def wsX2_letFieldFlow : List Cond := .code yX2_letFieldFlow cX2_letFieldFlow 6 none :: ((wsX2_letFieldFlow_r1 ++ wsX2_letFieldFlow_r2) ++ wsX20)
def wsX2_letWaterFlow_r1 : List Cond := [Cond.fieldLink RX2 55 "PaddyTerraces$Slope" "h" "I", Cond.fieldLink RX2 59 "PaddyTerraces$Slope" "w" "I", Cond.methodLink RX2 125 yX2_letFieldFlow, Cond.instanceMethod yX2_letFieldFlow, Cond.selects RX2 yX2_letFieldFlow yX2_letFieldFlow, Cond.initialized RX2, Cond.code yX2_letFieldFlow cX2_letFieldFlow 6 none, Cond.fieldLink RX2 15 "PaddyTerraces$Slope" "depth" "[I", Cond.fieldLink RX2 24 "PaddyTerraces$Slope" "stone" "[I", Cond.methodLink RX2 132 Lib.Math.max.name, Cond.static Lib.Math.max.name, Cond.initialized "java/lang/Math", Cond.code Lib.Math.max.name Lib.Math.max.code 2 (some .int), Cond.methodLink RX2 137 Lib.Math.min.name, Cond.static Lib.Math.min.name, Cond.code Lib.Math.min.name Lib.Math.min.code 2 (some .int), Cond.fieldLink RX2 45 "PaddyTerraces$Slope" "wentOut" "[I", Cond.fieldLink RX2 27 "PaddyTerraces$Slope" "side" "[I", Cond.fieldLink RX2 18 "PaddyTerraces$Slope" "bank" "[I", Cond.fieldLink RX2 48 "PaddyTerraces$Slope" "spilled" "[I", Cond.methodLink RX2 128 yX2_cellOf, Cond.instanceMethod yX2_cellOf, Cond.selects RX2 yX2_cellOf yX2_cellOf, Cond.code yX2_cellOf cX2_cellOf 3 (some .int)]
def wsX2_letWaterFlow_r2 : List Cond := [Cond.methodLink RX2 140 yX2_bringWater, Cond.instanceMethod yX2_bringWater, Cond.selects RX2 yX2_bringWater yX2_bringWater, Cond.code yX2_bringWater cX2_bringWater 4 none, Cond.fieldLink RX2 65 "PaddyTerraces$Slope" "brook" "I", Cond.methodLink RX2 144 yX2_hasField, Cond.instanceMethod yX2_hasField, Cond.selects RX2 yX2_hasField yX2_hasField, Cond.code yX2_hasField cX2_hasField 3 (some .boolean)]
def wsX2_letWaterFlow : List Cond := .code yX2_letWaterFlow cX2_letWaterFlow 3 none :: ((wsX2_letWaterFlow_r1 ++ wsX2_letWaterFlow_r2) ++ wsX20)
def wsX2_loseWater : List Cond := .code yX2_loseWater cX2_loseWater 4 none :: ([.fieldLink RX2 15 "PaddyTerraces$Slope" "depth" "[I", .fieldLink RX2 21 "PaddyTerraces$Slope" "seepage" "[I", .methodLink RX2 132 Lib.Math.max.name, .static Lib.Math.max.name, .initialized "java/lang/Math", .code Lib.Math.max.name Lib.Math.max.code 2 (some .int), .methodLink RX2 137 Lib.Math.min.name, .static Lib.Math.min.name, .code Lib.Math.min.name Lib.Math.min.code 2 (some .int), .fieldLink RX2 65 "PaddyTerraces$Slope" "brook" "I", .methodLink RX2 95 yX2_cells, .instanceMethod yX2_cells, .selects RX2 yX2_cells yX2_cells, .initialized RX2, .code yX2_cells cX2_cells 1 (some .int), .fieldLink RX2 55 "PaddyTerraces$Slope" "h" "I", .fieldLink RX2 59 "PaddyTerraces$Slope" "w" "I"] ++ wsX20)
def wsX3_isWithin : List Cond := .code yX3_isWithin cX3_isWithin 3 (some .boolean) :: ([])
def wsX2_hardening : List Cond := .code yX2_hardening cX2_hardening 2 (some .int) :: ([.fieldLink RX2 39 "PaddyTerraces$Slope" "drowned" "[I", .fieldLink RX2 42 "PaddyTerraces$Slope" "dry" "[I", .fieldLink RX2 15 "PaddyTerraces$Slope" "depth" "[I", .static yX3_isWithin, .initialized RX3, .code yX3_isWithin cX3_isWithin 3 (some .boolean)] ++ wsX20)
def wsX2_growCrop_r1 : List Cond := [Cond.fieldLink RX2 33 "PaddyTerraces$Slope" "age" "[I", Cond.methodLink RX2 137 Lib.Math.min.name, Cond.static Lib.Math.min.name, Cond.initialized "java/lang/Math", Cond.code Lib.Math.min.name Lib.Math.min.code 2 (some .int), Cond.fieldLink RX2 39 "PaddyTerraces$Slope" "drowned" "[I", Cond.fieldLink RX2 15 "PaddyTerraces$Slope" "depth" "[I", Cond.fieldLink RX2 42 "PaddyTerraces$Slope" "dry" "[I", Cond.fieldLink RX2 68 "PaddyTerraces$Slope" "died" "I", Cond.fieldLink RX2 36 "PaddyTerraces$Slope" "hardness" "[I", Cond.methodLink RX2 132 Lib.Math.max.name, Cond.static Lib.Math.max.name, Cond.code Lib.Math.max.name Lib.Math.max.code 2 (some .int), Cond.methodLink RX2 77 yX2_clearCrop, Cond.instanceMethod yX2_clearCrop, Cond.selects RX2 yX2_clearCrop yX2_clearCrop, Cond.initialized RX2, Cond.code yX2_clearCrop cX2_clearCrop 2 none, Cond.fieldLink RX2 30 "PaddyTerraces$Slope" "crop" "[I", Cond.methodLink RX2 151 yX2_hardening, Cond.instanceMethod yX2_hardening, Cond.selects RX2 yX2_hardening yX2_hardening, Cond.code yX2_hardening cX2_hardening 2 (some .int), Cond.static yX3_isWithin]
def wsX2_growCrop_r2 : List Cond := [Cond.initialized RX3, Cond.code yX3_isWithin cX3_isWithin 3 (some .boolean)]
def wsX2_growCrop : List Cond := .code yX2_growCrop cX2_growCrop 4 none :: ((wsX2_growCrop_r1 ++ wsX2_growCrop_r2) ++ wsX20)
def wsX2_growRice_r1 : List Cond := [Cond.fieldLink RX2 30 "PaddyTerraces$Slope" "crop" "[I", Cond.methodLink RX2 95 yX2_cells, Cond.instanceMethod yX2_cells, Cond.selects RX2 yX2_cells yX2_cells, Cond.initialized RX2, Cond.code yX2_cells cX2_cells 1 (some .int), Cond.fieldLink RX2 55 "PaddyTerraces$Slope" "h" "I", Cond.fieldLink RX2 59 "PaddyTerraces$Slope" "w" "I", Cond.methodLink RX2 148 yX2_growCrop, Cond.instanceMethod yX2_growCrop, Cond.selects RX2 yX2_growCrop yX2_growCrop, Cond.code yX2_growCrop cX2_growCrop 4 none, Cond.fieldLink RX2 33 "PaddyTerraces$Slope" "age" "[I", Cond.methodLink RX2 137 Lib.Math.min.name, Cond.static Lib.Math.min.name, Cond.initialized "java/lang/Math", Cond.code Lib.Math.min.name Lib.Math.min.code 2 (some .int), Cond.fieldLink RX2 39 "PaddyTerraces$Slope" "drowned" "[I", Cond.fieldLink RX2 15 "PaddyTerraces$Slope" "depth" "[I", Cond.fieldLink RX2 42 "PaddyTerraces$Slope" "dry" "[I", Cond.fieldLink RX2 68 "PaddyTerraces$Slope" "died" "I", Cond.fieldLink RX2 36 "PaddyTerraces$Slope" "hardness" "[I", Cond.methodLink RX2 132 Lib.Math.max.name, Cond.static Lib.Math.max.name]
def wsX2_growRice_r2 : List Cond := [Cond.code Lib.Math.max.name Lib.Math.max.code 2 (some .int), Cond.methodLink RX2 77 yX2_clearCrop, Cond.instanceMethod yX2_clearCrop, Cond.selects RX2 yX2_clearCrop yX2_clearCrop, Cond.code yX2_clearCrop cX2_clearCrop 2 none, Cond.methodLink RX2 151 yX2_hardening, Cond.instanceMethod yX2_hardening, Cond.selects RX2 yX2_hardening yX2_hardening, Cond.code yX2_hardening cX2_hardening 2 (some .int), Cond.static yX3_isWithin, Cond.initialized RX3, Cond.code yX3_isWithin cX3_isWithin 3 (some .boolean)]
def wsX2_growRice : List Cond := .code yX2_growRice cX2_growRice 2 none :: ((wsX2_growRice_r1 ++ wsX2_growRice_r2) ++ wsX20)
def wsX2_letDaysGoBy_r1 : List Cond := [Cond.fieldLink RX2 62 "PaddyTerraces$Slope" "day" "I", Cond.fieldLink RX2 99 "PaddyTerraces$Calendar" "rain" "[I", Cond.fieldLink RX2 107 "PaddyTerraces$Calendar" "spring" "[I", Cond.fieldLink RX2 116 "PaddyTerraces$Calendar" "draught" "[I", Cond.methodLink RX2 104 yX2_takeRain, Cond.instanceMethod yX2_takeRain, Cond.selects RX2 yX2_takeRain yX2_takeRain, Cond.initialized RX2, Cond.code yX2_takeRain cX2_takeRain 3 none, Cond.fieldLink RX2 15 "PaddyTerraces$Slope" "depth" "[I", Cond.methodLink RX2 95 yX2_cells, Cond.instanceMethod yX2_cells, Cond.selects RX2 yX2_cells yX2_cells, Cond.code yX2_cells cX2_cells 1 (some .int), Cond.fieldLink RX2 55 "PaddyTerraces$Slope" "h" "I", Cond.fieldLink RX2 59 "PaddyTerraces$Slope" "w" "I", Cond.methodLink RX2 110 yX2_takeSpring, Cond.instanceMethod yX2_takeSpring, Cond.selects RX2 yX2_takeSpring yX2_takeSpring, Cond.code yX2_takeSpring cX2_takeSpring 4 none, Cond.fieldLink RX2 9 "PaddyTerraces$Slope" "share" "[I", Cond.methodLink RX2 113 yX2_letWaterFlow, Cond.instanceMethod yX2_letWaterFlow, Cond.selects RX2 yX2_letWaterFlow yX2_letWaterFlow]
def wsX2_letDaysGoBy_r2 : List Cond := [Cond.code yX2_letWaterFlow cX2_letWaterFlow 3 none, Cond.methodLink RX2 125 yX2_letFieldFlow, Cond.instanceMethod yX2_letFieldFlow, Cond.selects RX2 yX2_letFieldFlow yX2_letFieldFlow, Cond.code yX2_letFieldFlow cX2_letFieldFlow 6 none, Cond.fieldLink RX2 24 "PaddyTerraces$Slope" "stone" "[I", Cond.methodLink RX2 132 Lib.Math.max.name, Cond.static Lib.Math.max.name, Cond.initialized "java/lang/Math", Cond.code Lib.Math.max.name Lib.Math.max.code 2 (some .int), Cond.methodLink RX2 137 Lib.Math.min.name, Cond.static Lib.Math.min.name, Cond.code Lib.Math.min.name Lib.Math.min.code 2 (some .int), Cond.fieldLink RX2 45 "PaddyTerraces$Slope" "wentOut" "[I", Cond.fieldLink RX2 27 "PaddyTerraces$Slope" "side" "[I", Cond.fieldLink RX2 18 "PaddyTerraces$Slope" "bank" "[I", Cond.fieldLink RX2 48 "PaddyTerraces$Slope" "spilled" "[I", Cond.methodLink RX2 128 yX2_cellOf, Cond.instanceMethod yX2_cellOf, Cond.selects RX2 yX2_cellOf yX2_cellOf, Cond.code yX2_cellOf cX2_cellOf 3 (some .int), Cond.methodLink RX2 140 yX2_bringWater, Cond.instanceMethod yX2_bringWater, Cond.selects RX2 yX2_bringWater yX2_bringWater]
def wsX2_letDaysGoBy_r3 : List Cond := [Cond.code yX2_bringWater cX2_bringWater 4 none, Cond.fieldLink RX2 65 "PaddyTerraces$Slope" "brook" "I", Cond.methodLink RX2 144 yX2_hasField, Cond.instanceMethod yX2_hasField, Cond.selects RX2 yX2_hasField yX2_hasField, Cond.code yX2_hasField cX2_hasField 3 (some .boolean), Cond.methodLink RX2 119 yX2_loseWater, Cond.instanceMethod yX2_loseWater, Cond.selects RX2 yX2_loseWater yX2_loseWater, Cond.code yX2_loseWater cX2_loseWater 4 none, Cond.fieldLink RX2 21 "PaddyTerraces$Slope" "seepage" "[I", Cond.methodLink RX2 122 yX2_growRice, Cond.instanceMethod yX2_growRice, Cond.selects RX2 yX2_growRice yX2_growRice, Cond.code yX2_growRice cX2_growRice 2 none, Cond.fieldLink RX2 30 "PaddyTerraces$Slope" "crop" "[I", Cond.methodLink RX2 148 yX2_growCrop, Cond.instanceMethod yX2_growCrop, Cond.selects RX2 yX2_growCrop yX2_growCrop, Cond.code yX2_growCrop cX2_growCrop 4 none, Cond.fieldLink RX2 33 "PaddyTerraces$Slope" "age" "[I", Cond.fieldLink RX2 39 "PaddyTerraces$Slope" "drowned" "[I", Cond.fieldLink RX2 42 "PaddyTerraces$Slope" "dry" "[I", Cond.fieldLink RX2 68 "PaddyTerraces$Slope" "died" "I"]
def wsX2_letDaysGoBy_r4 : List Cond := [Cond.fieldLink RX2 36 "PaddyTerraces$Slope" "hardness" "[I", Cond.methodLink RX2 77 yX2_clearCrop, Cond.instanceMethod yX2_clearCrop, Cond.selects RX2 yX2_clearCrop yX2_clearCrop, Cond.code yX2_clearCrop cX2_clearCrop 2 none, Cond.methodLink RX2 151 yX2_hardening, Cond.instanceMethod yX2_hardening, Cond.selects RX2 yX2_hardening yX2_hardening, Cond.code yX2_hardening cX2_hardening 2 (some .int), Cond.static yX3_isWithin, Cond.initialized RX3, Cond.code yX3_isWithin cX3_isWithin 3 (some .boolean)]
def wsX2_letDaysGoBy : List Cond := .code yX2_letDaysGoBy cX2_letDaysGoBy 5 none :: ((wsX2_letDaysGoBy_r1 ++ (wsX2_letDaysGoBy_r2 ++ (wsX2_letDaysGoBy_r3 ++ wsX2_letDaysGoBy_r4))) ++ wsX20 ++ wsX00)
def wsX3_init_r1 : List Cond := [Cond.methodLink RX3 1 objectInit, Cond.instanceMethod objectInit, Cond.code objectInit ⟨#[0xb1]⟩ 1 none, Cond.classLink RX3 7 RX0, Cond.instantiable RX0 3, Cond.initialized RX0, Cond.fieldLink RX3 10 "PaddyTerraces" "calendar" "LPaddyTerraces$Calendar;", Cond.classLink RX3 16 RX2, Cond.instantiable RX2 18, Cond.initialized RX2, Cond.fieldLink RX3 21 "PaddyTerraces" "slope" "LPaddyTerraces$Slope;", Cond.fieldLink RX3 25 "PaddyTerraces" "trial" "LPaddyTerraces$Slope;", Cond.classLink RX3 28 RX1, Cond.instantiable RX1 5, Cond.initialized RX1, Cond.fieldLink RX3 31 "PaddyTerraces" "best" "LPaddyTerraces$Move;", Cond.methodLink RX3 9 yX0_init, Cond.instanceMethod yX0_init, Cond.code yX0_init cX0_init 1 none, Cond.methodLink RX0 3 objectInit, Cond.arrayClass .int, Cond.fieldLink RX0 9 "PaddyTerraces$Calendar" "rain" "[I", Cond.fieldLink RX0 15 "PaddyTerraces$Calendar" "spring" "[I", Cond.fieldLink RX0 18 "PaddyTerraces$Calendar" "draught" "[I"]
def wsX3_init_r2 : List Cond := [Cond.methodLink RX0 21 yJ7_fill_53178, Cond.static yJ7_fill_53178, Cond.initialized RJ7, Cond.code yJ7_fill_53178 cJ7_fill_53178 4 none, Cond.methodLink RX3 18 yX2_init, Cond.instanceMethod yX2_init, Cond.code yX2_init cX2_init 3 none, Cond.methodLink RX2 3 objectInit, Cond.fieldLink RX2 9 "PaddyTerraces$Slope" "share" "[I", Cond.fieldLink RX2 15 "PaddyTerraces$Slope" "depth" "[I", Cond.fieldLink RX2 18 "PaddyTerraces$Slope" "bank" "[I", Cond.fieldLink RX2 21 "PaddyTerraces$Slope" "seepage" "[I", Cond.fieldLink RX2 24 "PaddyTerraces$Slope" "stone" "[I", Cond.fieldLink RX2 27 "PaddyTerraces$Slope" "side" "[I", Cond.fieldLink RX2 30 "PaddyTerraces$Slope" "crop" "[I", Cond.fieldLink RX2 33 "PaddyTerraces$Slope" "age" "[I", Cond.fieldLink RX2 36 "PaddyTerraces$Slope" "hardness" "[I", Cond.fieldLink RX2 39 "PaddyTerraces$Slope" "drowned" "[I", Cond.fieldLink RX2 42 "PaddyTerraces$Slope" "dry" "[I", Cond.fieldLink RX2 45 "PaddyTerraces$Slope" "wentOut" "[I", Cond.fieldLink RX2 48 "PaddyTerraces$Slope" "spilled" "[I", Cond.methodLink RX2 51 yX2_startAnew, Cond.instanceMethod yX2_startAnew, Cond.selects RX2 yX2_startAnew yX2_startAnew]
def wsX3_init_r3 : List Cond := [Cond.code yX2_startAnew cX2_startAnew 4 none, Cond.fieldLink RX2 55 "PaddyTerraces$Slope" "h" "I", Cond.fieldLink RX2 59 "PaddyTerraces$Slope" "w" "I", Cond.fieldLink RX2 62 "PaddyTerraces$Slope" "day" "I", Cond.fieldLink RX2 65 "PaddyTerraces$Slope" "brook" "I", Cond.fieldLink RX2 68 "PaddyTerraces$Slope" "died" "I", Cond.methodLink RX2 71 yJ7_fill_53178, Cond.methodLink RX2 77 yX2_clearCrop, Cond.instanceMethod yX2_clearCrop, Cond.selects RX2 yX2_clearCrop yX2_clearCrop, Cond.code yX2_clearCrop cX2_clearCrop 2 none, Cond.instanceMethod yX1_init, Cond.code yX1_init cX1_init 1 none, Cond.methodLink RX1 3 objectInit]
def wsX3_init : List Cond := .code yX3_init cX3_init 1 none :: ((wsX3_init_r1 ++ (wsX3_init_r2 ++ wsX3_init_r3)) ++ wsX00 ++ wsX30 ++ wsX20 ++ wsX10)
def wsX3_lay_r1 : List Cond := [Cond.classLink RX3 39 "java/lang/IllegalArgumentException", Cond.initialized "java/lang/IllegalArgumentException", Cond.fieldLink RX3 21 "PaddyTerraces" "slope" "LPaddyTerraces$Slope;", Cond.fieldLink RX3 49 "PaddyTerraces" "reaped" "I", Cond.fieldLink RX3 53 "PaddyTerraces" "moved" "I", Cond.methodLink RX3 35 yX3_isWithin, Cond.static yX3_isWithin, Cond.initialized RX3, Cond.code yX3_isWithin cX3_isWithin 3 (some .boolean), Cond.methodLink RX3 46 yX2_startAnew, Cond.instanceMethod yX2_startAnew, Cond.selects RX2 yX2_startAnew yX2_startAnew, Cond.initialized RX2, Cond.code yX2_startAnew cX2_startAnew 4 none, Cond.fieldLink RX2 55 "PaddyTerraces$Slope" "h" "I", Cond.fieldLink RX2 59 "PaddyTerraces$Slope" "w" "I", Cond.fieldLink RX2 62 "PaddyTerraces$Slope" "day" "I", Cond.fieldLink RX2 65 "PaddyTerraces$Slope" "brook" "I", Cond.fieldLink RX2 68 "PaddyTerraces$Slope" "died" "I", Cond.fieldLink RX2 9 "PaddyTerraces$Slope" "share" "[I", Cond.fieldLink RX2 15 "PaddyTerraces$Slope" "depth" "[I", Cond.fieldLink RX2 18 "PaddyTerraces$Slope" "bank" "[I", Cond.fieldLink RX2 21 "PaddyTerraces$Slope" "seepage" "[I", Cond.fieldLink RX2 24 "PaddyTerraces$Slope" "stone" "[I"]
def wsX3_lay_r2 : List Cond := [Cond.fieldLink RX2 27 "PaddyTerraces$Slope" "side" "[I", Cond.fieldLink RX2 45 "PaddyTerraces$Slope" "wentOut" "[I", Cond.fieldLink RX2 48 "PaddyTerraces$Slope" "spilled" "[I", Cond.methodLink RX2 71 yJ7_fill_53178, Cond.static yJ7_fill_53178, Cond.initialized RJ7, Cond.code yJ7_fill_53178 cJ7_fill_53178 4 none, Cond.methodLink RX2 77 yX2_clearCrop, Cond.instanceMethod yX2_clearCrop, Cond.selects RX2 yX2_clearCrop yX2_clearCrop, Cond.code yX2_clearCrop cX2_clearCrop 2 none, Cond.fieldLink RX2 30 "PaddyTerraces$Slope" "crop" "[I", Cond.fieldLink RX2 33 "PaddyTerraces$Slope" "age" "[I", Cond.fieldLink RX2 36 "PaddyTerraces$Slope" "hardness" "[I", Cond.fieldLink RX2 39 "PaddyTerraces$Slope" "drowned" "[I", Cond.fieldLink RX2 42 "PaddyTerraces$Slope" "dry" "[I", Cond.methodLink RX3 56 yX2_cells, Cond.instanceMethod yX2_cells, Cond.selects RX2 yX2_cells yX2_cells, Cond.code yX2_cells cX2_cells 1 (some .int)]
def wsX3_lay : List Cond := .code yX3_lay cX3_lay 3 (some .int) :: ((wsX3_lay_r1 ++ wsX3_lay_r2) ++ wsX30 ++ wsX20 ++ (vx_atS RX3 43 "java/lang/IllegalArgumentException" ["java/lang/RuntimeException", "java/lang/Exception"]).filter goodWord)
def wsX3_setField_r1 : List Cond := [Cond.classLink RX3 64 "java/lang/IndexOutOfBoundsException", Cond.initialized "java/lang/IndexOutOfBoundsException", Cond.classLink RX3 39 "java/lang/IllegalArgumentException", Cond.initialized "java/lang/IllegalArgumentException", Cond.fieldLink RX3 21 "PaddyTerraces" "slope" "LPaddyTerraces$Slope;", Cond.fieldLink RX3 75 "PaddyTerraces$Slope" "bank" "[I", Cond.fieldLink RX3 79 "PaddyTerraces$Slope" "seepage" "[I", Cond.fieldLink RX3 82 "PaddyTerraces$Slope" "stone" "[I", Cond.methodLink RX3 85 Lib.Math.min.name, Cond.static Lib.Math.min.name, Cond.initialized "java/lang/Math", Cond.code Lib.Math.min.name Lib.Math.min.code 2 (some .int), Cond.methodLink RX3 60 yX2_hasField, Cond.instanceMethod yX2_hasField, Cond.selects RX2 yX2_hasField yX2_hasField, Cond.initialized RX2, Cond.code yX2_hasField cX2_hasField 3 (some .boolean), Cond.fieldLink RX2 55 "PaddyTerraces$Slope" "h" "I", Cond.fieldLink RX2 59 "PaddyTerraces$Slope" "w" "I", Cond.methodLink RX3 35 yX3_isWithin, Cond.static yX3_isWithin, Cond.initialized RX3, Cond.code yX3_isWithin cX3_isWithin 3 (some .boolean), Cond.methodLink RX3 71 yX2_cellOf]
def wsX3_setField_r2 : List Cond := [Cond.instanceMethod yX2_cellOf, Cond.selects RX2 yX2_cellOf yX2_cellOf, Cond.code yX2_cellOf cX2_cellOf 3 (some .int)]
def wsX3_setField : List Cond := .code yX3_setField cX3_setField 7 (some .int) :: ((wsX3_setField_r1 ++ wsX3_setField_r2) ++ wsX30 ++ wsX20 ++ (vx_atS RX3 68 "java/lang/IndexOutOfBoundsException" ["java/lang/RuntimeException", "java/lang/Exception"]).filter goodWord ++ (vx_atS RX3 43 "java/lang/IllegalArgumentException" ["java/lang/RuntimeException", "java/lang/Exception"]).filter goodWord)
def wsX3_moveStone_r1 : List Cond := [Cond.classLink RX3 64 "java/lang/IndexOutOfBoundsException", Cond.initialized "java/lang/IndexOutOfBoundsException", Cond.classLink RX3 39 "java/lang/IllegalArgumentException", Cond.initialized "java/lang/IllegalArgumentException", Cond.fieldLink RX3 21 "PaddyTerraces" "slope" "LPaddyTerraces$Slope;", Cond.fieldLink RX3 75 "PaddyTerraces$Slope" "bank" "[I", Cond.fieldLink RX3 82 "PaddyTerraces$Slope" "stone" "[I", Cond.fieldLink RX3 53 "PaddyTerraces" "moved" "I", Cond.methodLink RX3 92 Lib.Math.abs.name, Cond.static Lib.Math.abs.name, Cond.initialized "java/lang/Math", Cond.code Lib.Math.abs.name Lib.Math.abs.code 1 (some .int), Cond.methodLink RX3 60 yX2_hasField, Cond.instanceMethod yX2_hasField, Cond.selects RX2 yX2_hasField yX2_hasField, Cond.initialized RX2, Cond.code yX2_hasField cX2_hasField 3 (some .boolean), Cond.fieldLink RX2 55 "PaddyTerraces$Slope" "h" "I", Cond.fieldLink RX2 59 "PaddyTerraces$Slope" "w" "I", Cond.methodLink RX3 71 yX2_cellOf, Cond.instanceMethod yX2_cellOf, Cond.selects RX2 yX2_cellOf yX2_cellOf, Cond.code yX2_cellOf cX2_cellOf 3 (some .int), Cond.methodLink RX3 35 yX3_isWithin]
def wsX3_moveStone_r2 : List Cond := [Cond.static yX3_isWithin, Cond.initialized RX3, Cond.code yX3_isWithin cX3_isWithin 3 (some .boolean)]
def wsX3_moveStone : List Cond := .code yX3_moveStone cX3_moveStone 6 (some .int) :: ((wsX3_moveStone_r1 ++ wsX3_moveStone_r2) ++ wsX30 ++ wsX20 ++ (vx_atS RX3 68 "java/lang/IndexOutOfBoundsException" ["java/lang/RuntimeException", "java/lang/Exception"]).filter goodWord ++ (vx_atS RX3 43 "java/lang/IllegalArgumentException" ["java/lang/RuntimeException", "java/lang/Exception"]).filter goodWord)
def wsX3_turn : List Cond := .code yX3_turn cX3_turn 6 (some .int) :: ([.classLink RX3 64 "java/lang/IndexOutOfBoundsException", .initialized "java/lang/IndexOutOfBoundsException", .classLink RX3 39 "java/lang/IllegalArgumentException", .initialized "java/lang/IllegalArgumentException", .fieldLink RX3 21 "PaddyTerraces" "slope" "LPaddyTerraces$Slope;", .fieldLink RX3 98 "PaddyTerraces$Slope" "side" "[I", .methodLink RX3 60 yX2_hasField, .instanceMethod yX2_hasField, .selects RX2 yX2_hasField yX2_hasField, .initialized RX2, .code yX2_hasField cX2_hasField 3 (some .boolean), .fieldLink RX2 55 "PaddyTerraces$Slope" "h" "I", .fieldLink RX2 59 "PaddyTerraces$Slope" "w" "I", .methodLink RX3 35 yX3_isWithin, .static yX3_isWithin, .initialized RX3, .code yX3_isWithin cX3_isWithin 3 (some .boolean), .methodLink RX3 71 yX2_cellOf, .instanceMethod yX2_cellOf, .selects RX2 yX2_cellOf yX2_cellOf, .code yX2_cellOf cX2_cellOf 3 (some .int)] ++ wsX30 ++ wsX20 ++ (vx_atS RX3 68 "java/lang/IndexOutOfBoundsException" ["java/lang/RuntimeException", "java/lang/Exception"]).filter goodWord ++ (vx_atS RX3 43 "java/lang/IllegalArgumentException" ["java/lang/RuntimeException", "java/lang/Exception"]).filter goodWord)
def wsX3_setShare : List Cond := .code yX3_setShare cX3_setShare 4 (some .int) :: ([.classLink RX3 64 "java/lang/IndexOutOfBoundsException", .initialized "java/lang/IndexOutOfBoundsException", .classLink RX3 39 "java/lang/IllegalArgumentException", .initialized "java/lang/IllegalArgumentException", .fieldLink RX3 21 "PaddyTerraces" "slope" "LPaddyTerraces$Slope;", .fieldLink RX3 105 "PaddyTerraces$Slope" "share" "[I", .methodLink RX3 60 yX2_hasField, .instanceMethod yX2_hasField, .selects RX2 yX2_hasField yX2_hasField, .initialized RX2, .code yX2_hasField cX2_hasField 3 (some .boolean), .fieldLink RX2 55 "PaddyTerraces$Slope" "h" "I", .fieldLink RX2 59 "PaddyTerraces$Slope" "w" "I", .methodLink RX3 35 yX3_isWithin, .static yX3_isWithin, .initialized RX3, .code yX3_isWithin cX3_isWithin 3 (some .boolean)] ++ wsX30 ++ wsX20 ++ (vx_atS RX3 68 "java/lang/IndexOutOfBoundsException" ["java/lang/RuntimeException", "java/lang/Exception"]).filter goodWord ++ (vx_atS RX3 43 "java/lang/IllegalArgumentException" ["java/lang/RuntimeException", "java/lang/Exception"]).filter goodWord)
def wsX3_setDay : List Cond := .code yX3_setDay cX3_setDay 6 (some .int) :: ([.classLink RX3 64 "java/lang/IndexOutOfBoundsException", .initialized "java/lang/IndexOutOfBoundsException", .classLink RX3 39 "java/lang/IllegalArgumentException", .initialized "java/lang/IllegalArgumentException", .fieldLink RX3 10 "PaddyTerraces" "calendar" "LPaddyTerraces$Calendar;", .fieldLink RX3 112 "PaddyTerraces$Calendar" "spring" "[I", .fieldLink RX3 115 "PaddyTerraces$Calendar" "rain" "[I", .fieldLink RX3 118 "PaddyTerraces$Calendar" "draught" "[I", .methodLink RX3 35 yX3_isWithin, .static yX3_isWithin, .initialized RX3, .code yX3_isWithin cX3_isWithin 3 (some .boolean)] ++ wsX30 ++ wsX00 ++ (vx_atS RX3 68 "java/lang/IndexOutOfBoundsException" ["java/lang/RuntimeException", "java/lang/Exception"]).filter goodWord ++ (vx_atS RX3 43 "java/lang/IllegalArgumentException" ["java/lang/RuntimeException", "java/lang/Exception"]).filter goodWord)
def wsX3_plant_r1 : List Cond := [Cond.classLink RX3 64 "java/lang/IndexOutOfBoundsException", Cond.initialized "java/lang/IndexOutOfBoundsException", Cond.classLink RX3 39 "java/lang/IllegalArgumentException", Cond.initialized "java/lang/IllegalArgumentException", Cond.classLink RX3 129 "java/lang/IllegalStateException", Cond.initialized "java/lang/IllegalStateException", Cond.fieldLink RX3 21 "PaddyTerraces" "slope" "LPaddyTerraces$Slope;", Cond.fieldLink RX3 123 "PaddyTerraces$Slope" "crop" "[I", Cond.fieldLink RX3 126 "PaddyTerraces$Slope" "depth" "[I", Cond.fieldLink RX3 134 "PaddyTerraces$Slope" "age" "[I", Cond.methodLink RX3 60 yX2_hasField, Cond.instanceMethod yX2_hasField, Cond.selects RX2 yX2_hasField yX2_hasField, Cond.initialized RX2, Cond.code yX2_hasField cX2_hasField 3 (some .boolean), Cond.fieldLink RX2 55 "PaddyTerraces$Slope" "h" "I", Cond.fieldLink RX2 59 "PaddyTerraces$Slope" "w" "I", Cond.methodLink RX3 35 yX3_isWithin, Cond.static yX3_isWithin, Cond.initialized RX3, Cond.code yX3_isWithin cX3_isWithin 3 (some .boolean), Cond.methodLink RX3 71 yX2_cellOf, Cond.instanceMethod yX2_cellOf, Cond.selects RX2 yX2_cellOf yX2_cellOf]
def wsX3_plant_r2 : List Cond := [Cond.code yX2_cellOf cX2_cellOf 3 (some .int), Cond.methodLink RX3 137 yX2_crops, Cond.instanceMethod yX2_crops, Cond.selects RX2 yX2_crops yX2_crops, Cond.code yX2_crops cX2_crops 1 (some .int), Cond.fieldLink RX2 30 "PaddyTerraces$Slope" "crop" "[I", Cond.methodLink RX2 91 yX2_sumOf, Cond.instanceMethod yX2_sumOf, Cond.selects RX2 yX2_sumOf yX2_sumOf, Cond.code yX2_sumOf cX2_sumOf 4 (some .int), Cond.methodLink RX2 95 yX2_cells, Cond.instanceMethod yX2_cells, Cond.selects RX2 yX2_cells yX2_cells, Cond.code yX2_cells cX2_cells 1 (some .int)]
def wsX3_plant : List Cond := .code yX3_plant cX3_plant 5 (some .int) :: ((wsX3_plant_r1 ++ wsX3_plant_r2) ++ wsX30 ++ wsX20 ++ (vx_atS RX3 68 "java/lang/IndexOutOfBoundsException" ["java/lang/RuntimeException", "java/lang/Exception"]).filter goodWord ++ (vx_atS RX3 43 "java/lang/IllegalArgumentException" ["java/lang/RuntimeException", "java/lang/Exception"]).filter goodWord ++ (vx_atS RX3 133 "java/lang/IllegalStateException" ["java/lang/RuntimeException", "java/lang/Exception"]).filter goodWord)
def wsX3_reap_r1 : List Cond := [Cond.classLink RX3 64 "java/lang/IndexOutOfBoundsException", Cond.initialized "java/lang/IndexOutOfBoundsException", Cond.classLink RX3 129 "java/lang/IllegalStateException", Cond.initialized "java/lang/IllegalStateException", Cond.fieldLink RX3 21 "PaddyTerraces" "slope" "LPaddyTerraces$Slope;", Cond.fieldLink RX3 123 "PaddyTerraces$Slope" "crop" "[I", Cond.fieldLink RX3 134 "PaddyTerraces$Slope" "age" "[I", Cond.fieldLink RX3 142 "PaddyTerraces$Slope" "hardness" "[I", Cond.fieldLink RX3 126 "PaddyTerraces$Slope" "depth" "[I", Cond.fieldLink RX3 49 "PaddyTerraces" "reaped" "I", Cond.methodLink RX3 60 yX2_hasField, Cond.instanceMethod yX2_hasField, Cond.selects RX2 yX2_hasField yX2_hasField, Cond.initialized RX2, Cond.code yX2_hasField cX2_hasField 3 (some .boolean), Cond.fieldLink RX2 55 "PaddyTerraces$Slope" "h" "I", Cond.fieldLink RX2 59 "PaddyTerraces$Slope" "w" "I", Cond.methodLink RX3 71 yX2_cellOf, Cond.instanceMethod yX2_cellOf, Cond.selects RX2 yX2_cellOf yX2_cellOf, Cond.code yX2_cellOf cX2_cellOf 3 (some .int), Cond.methodLink RX3 145 yX2_clearCrop, Cond.instanceMethod yX2_clearCrop, Cond.selects RX2 yX2_clearCrop yX2_clearCrop]
def wsX3_reap_r2 : List Cond := [Cond.code yX2_clearCrop cX2_clearCrop 2 none, Cond.fieldLink RX2 30 "PaddyTerraces$Slope" "crop" "[I", Cond.fieldLink RX2 33 "PaddyTerraces$Slope" "age" "[I", Cond.fieldLink RX2 36 "PaddyTerraces$Slope" "hardness" "[I", Cond.fieldLink RX2 39 "PaddyTerraces$Slope" "drowned" "[I", Cond.fieldLink RX2 42 "PaddyTerraces$Slope" "dry" "[I"]
def wsX3_reap : List Cond := .code yX3_reap cX3_reap 5 (some .int) :: ((wsX3_reap_r1 ++ wsX3_reap_r2) ++ wsX30 ++ wsX20 ++ (vx_atS RX3 68 "java/lang/IndexOutOfBoundsException" ["java/lang/RuntimeException", "java/lang/Exception"]).filter goodWord ++ (vx_atS RX3 133 "java/lang/IllegalStateException" ["java/lang/RuntimeException", "java/lang/Exception"]).filter goodWord)
def wsX3_pass_r1 : List Cond := [Cond.classLink RX3 39 "java/lang/IllegalArgumentException", Cond.initialized "java/lang/IllegalArgumentException", Cond.classLink RX3 129 "java/lang/IllegalStateException", Cond.initialized "java/lang/IllegalStateException", Cond.fieldLink RX3 21 "PaddyTerraces" "slope" "LPaddyTerraces$Slope;", Cond.fieldLink RX3 151 "PaddyTerraces$Slope" "day" "I", Cond.fieldLink RX3 10 "PaddyTerraces" "calendar" "LPaddyTerraces$Calendar;", Cond.methodLink RX3 35 yX3_isWithin, Cond.static yX3_isWithin, Cond.initialized RX3, Cond.code yX3_isWithin cX3_isWithin 3 (some .boolean), Cond.methodLink RX3 156 yX2_letDaysGoBy, Cond.instanceMethod yX2_letDaysGoBy, Cond.selects RX2 yX2_letDaysGoBy yX2_letDaysGoBy, Cond.initialized RX2, Cond.code yX2_letDaysGoBy cX2_letDaysGoBy 5 none, Cond.fieldLink RX2 62 "PaddyTerraces$Slope" "day" "I", Cond.fieldLink RX2 99 "PaddyTerraces$Calendar" "rain" "[I", Cond.fieldLink RX2 107 "PaddyTerraces$Calendar" "spring" "[I", Cond.fieldLink RX2 116 "PaddyTerraces$Calendar" "draught" "[I", Cond.methodLink RX2 104 yX2_takeRain, Cond.instanceMethod yX2_takeRain, Cond.selects RX2 yX2_takeRain yX2_takeRain, Cond.code yX2_takeRain cX2_takeRain 3 none]
def wsX3_pass_r2 : List Cond := [Cond.fieldLink RX2 15 "PaddyTerraces$Slope" "depth" "[I", Cond.methodLink RX2 95 yX2_cells, Cond.instanceMethod yX2_cells, Cond.selects RX2 yX2_cells yX2_cells, Cond.code yX2_cells cX2_cells 1 (some .int), Cond.fieldLink RX2 55 "PaddyTerraces$Slope" "h" "I", Cond.fieldLink RX2 59 "PaddyTerraces$Slope" "w" "I", Cond.methodLink RX2 110 yX2_takeSpring, Cond.instanceMethod yX2_takeSpring, Cond.selects RX2 yX2_takeSpring yX2_takeSpring, Cond.code yX2_takeSpring cX2_takeSpring 4 none, Cond.fieldLink RX2 9 "PaddyTerraces$Slope" "share" "[I", Cond.methodLink RX2 113 yX2_letWaterFlow, Cond.instanceMethod yX2_letWaterFlow, Cond.selects RX2 yX2_letWaterFlow yX2_letWaterFlow, Cond.code yX2_letWaterFlow cX2_letWaterFlow 3 none, Cond.methodLink RX2 125 yX2_letFieldFlow, Cond.instanceMethod yX2_letFieldFlow, Cond.selects RX2 yX2_letFieldFlow yX2_letFieldFlow, Cond.code yX2_letFieldFlow cX2_letFieldFlow 6 none, Cond.fieldLink RX2 24 "PaddyTerraces$Slope" "stone" "[I", Cond.methodLink RX2 132 Lib.Math.max.name, Cond.static Lib.Math.max.name, Cond.initialized "java/lang/Math"]
def wsX3_pass_r3 : List Cond := [Cond.code Lib.Math.max.name Lib.Math.max.code 2 (some .int), Cond.methodLink RX2 137 Lib.Math.min.name, Cond.static Lib.Math.min.name, Cond.code Lib.Math.min.name Lib.Math.min.code 2 (some .int), Cond.fieldLink RX2 45 "PaddyTerraces$Slope" "wentOut" "[I", Cond.fieldLink RX2 27 "PaddyTerraces$Slope" "side" "[I", Cond.fieldLink RX2 18 "PaddyTerraces$Slope" "bank" "[I", Cond.fieldLink RX2 48 "PaddyTerraces$Slope" "spilled" "[I", Cond.methodLink RX2 128 yX2_cellOf, Cond.instanceMethod yX2_cellOf, Cond.selects RX2 yX2_cellOf yX2_cellOf, Cond.code yX2_cellOf cX2_cellOf 3 (some .int), Cond.methodLink RX2 140 yX2_bringWater, Cond.instanceMethod yX2_bringWater, Cond.selects RX2 yX2_bringWater yX2_bringWater, Cond.code yX2_bringWater cX2_bringWater 4 none, Cond.fieldLink RX2 65 "PaddyTerraces$Slope" "brook" "I", Cond.methodLink RX2 144 yX2_hasField, Cond.instanceMethod yX2_hasField, Cond.selects RX2 yX2_hasField yX2_hasField, Cond.code yX2_hasField cX2_hasField 3 (some .boolean), Cond.methodLink RX2 119 yX2_loseWater, Cond.instanceMethod yX2_loseWater, Cond.selects RX2 yX2_loseWater yX2_loseWater]
def wsX3_pass_r4 : List Cond := [Cond.code yX2_loseWater cX2_loseWater 4 none, Cond.fieldLink RX2 21 "PaddyTerraces$Slope" "seepage" "[I", Cond.methodLink RX2 122 yX2_growRice, Cond.instanceMethod yX2_growRice, Cond.selects RX2 yX2_growRice yX2_growRice, Cond.code yX2_growRice cX2_growRice 2 none, Cond.fieldLink RX2 30 "PaddyTerraces$Slope" "crop" "[I", Cond.methodLink RX2 148 yX2_growCrop, Cond.instanceMethod yX2_growCrop, Cond.selects RX2 yX2_growCrop yX2_growCrop, Cond.code yX2_growCrop cX2_growCrop 4 none, Cond.fieldLink RX2 33 "PaddyTerraces$Slope" "age" "[I", Cond.fieldLink RX2 39 "PaddyTerraces$Slope" "drowned" "[I", Cond.fieldLink RX2 42 "PaddyTerraces$Slope" "dry" "[I", Cond.fieldLink RX2 68 "PaddyTerraces$Slope" "died" "I", Cond.fieldLink RX2 36 "PaddyTerraces$Slope" "hardness" "[I", Cond.methodLink RX2 77 yX2_clearCrop, Cond.instanceMethod yX2_clearCrop, Cond.selects RX2 yX2_clearCrop yX2_clearCrop, Cond.code yX2_clearCrop cX2_clearCrop 2 none, Cond.methodLink RX2 151 yX2_hardening, Cond.instanceMethod yX2_hardening, Cond.selects RX2 yX2_hardening yX2_hardening, Cond.code yX2_hardening cX2_hardening 2 (some .int)]
def wsX3_pass_r5 : List Cond := [Cond.methodLink RX3 137 yX2_crops, Cond.instanceMethod yX2_crops, Cond.selects RX2 yX2_crops yX2_crops, Cond.code yX2_crops cX2_crops 1 (some .int), Cond.methodLink RX2 91 yX2_sumOf, Cond.instanceMethod yX2_sumOf, Cond.selects RX2 yX2_sumOf yX2_sumOf, Cond.code yX2_sumOf cX2_sumOf 4 (some .int)]
def wsX3_pass : List Cond := .code yX3_pass cX3_pass 2 (some .int) :: ((wsX3_pass_r1 ++ (wsX3_pass_r2 ++ (wsX3_pass_r3 ++ (wsX3_pass_r4 ++ wsX3_pass_r5)))) ++ wsX30 ++ wsX20 ++ wsX00 ++ (vx_atS RX3 43 "java/lang/IllegalArgumentException" ["java/lang/RuntimeException", "java/lang/Exception"]).filter goodWord ++ (vx_atS RX3 133 "java/lang/IllegalStateException" ["java/lang/RuntimeException", "java/lang/Exception"]).filter goodWord)
def wsX3_field_r1 : List Cond := [Cond.classLink RX3 64 "java/lang/IndexOutOfBoundsException", Cond.initialized "java/lang/IndexOutOfBoundsException", Cond.fieldLink RX3 21 "PaddyTerraces" "slope" "LPaddyTerraces$Slope;", Cond.methodLink RX3 60 yX2_hasField, Cond.instanceMethod yX2_hasField, Cond.selects RX2 yX2_hasField yX2_hasField, Cond.initialized RX2, Cond.code yX2_hasField cX2_hasField 3 (some .boolean), Cond.fieldLink RX2 55 "PaddyTerraces$Slope" "h" "I", Cond.fieldLink RX2 59 "PaddyTerraces$Slope" "w" "I", Cond.methodLink RX3 35 yX3_isWithin, Cond.static yX3_isWithin, Cond.initialized RX3, Cond.code yX3_isWithin cX3_isWithin 3 (some .boolean), Cond.methodLink RX3 71 yX2_cellOf, Cond.instanceMethod yX2_cellOf, Cond.selects RX2 yX2_cellOf yX2_cellOf, Cond.code yX2_cellOf cX2_cellOf 3 (some .int), Cond.methodLink RX3 162 yX2_fieldNumber, Cond.instanceMethod yX2_fieldNumber, Cond.selects RX2 yX2_fieldNumber yX2_fieldNumber, Cond.code yX2_fieldNumber cX2_fieldNumber 3 (some .int), Cond.fieldLink RX2 15 "PaddyTerraces$Slope" "depth" "[I", Cond.fieldLink RX2 18 "PaddyTerraces$Slope" "bank" "[I"]
def wsX3_field_r2 : List Cond := [Cond.fieldLink RX2 21 "PaddyTerraces$Slope" "seepage" "[I", Cond.fieldLink RX2 24 "PaddyTerraces$Slope" "stone" "[I", Cond.fieldLink RX2 27 "PaddyTerraces$Slope" "side" "[I", Cond.fieldLink RX2 30 "PaddyTerraces$Slope" "crop" "[I", Cond.fieldLink RX2 33 "PaddyTerraces$Slope" "age" "[I", Cond.fieldLink RX2 36 "PaddyTerraces$Slope" "hardness" "[I", Cond.fieldLink RX2 39 "PaddyTerraces$Slope" "drowned" "[I", Cond.fieldLink RX2 42 "PaddyTerraces$Slope" "dry" "[I", Cond.fieldLink RX2 45 "PaddyTerraces$Slope" "wentOut" "[I", Cond.fieldLink RX2 48 "PaddyTerraces$Slope" "spilled" "[I"]
def wsX3_field : List Cond := .code yX3_field cX3_field 4 (some .int) :: ((wsX3_field_r1 ++ wsX3_field_r2) ++ wsX30 ++ wsX20 ++ (vx_atS RX3 68 "java/lang/IndexOutOfBoundsException" ["java/lang/RuntimeException", "java/lang/Exception"]).filter goodWord)
def wsX3_countNumber_r1 : List Cond := [Cond.fieldLink RX3 21 "PaddyTerraces" "slope" "LPaddyTerraces$Slope;", Cond.fieldLink RX3 206 "PaddyTerraces$Slope" "h" "I", Cond.fieldLink RX3 203 "PaddyTerraces$Slope" "w" "I", Cond.fieldLink RX3 151 "PaddyTerraces$Slope" "day" "I", Cond.fieldLink RX3 209 "PaddyTerraces$Slope" "brook" "I", Cond.fieldLink RX3 49 "PaddyTerraces" "reaped" "I", Cond.fieldLink RX3 212 "PaddyTerraces$Slope" "died" "I", Cond.fieldLink RX3 53 "PaddyTerraces" "moved" "I", Cond.methodLink RX3 137 yX2_crops, Cond.instanceMethod yX2_crops, Cond.selects RX2 yX2_crops yX2_crops, Cond.initialized RX2, Cond.code yX2_crops cX2_crops 1 (some .int), Cond.fieldLink RX2 30 "PaddyTerraces$Slope" "crop" "[I", Cond.methodLink RX2 91 yX2_sumOf, Cond.instanceMethod yX2_sumOf, Cond.selects RX2 yX2_sumOf yX2_sumOf, Cond.code yX2_sumOf cX2_sumOf 4 (some .int), Cond.methodLink RX2 95 yX2_cells, Cond.instanceMethod yX2_cells, Cond.selects RX2 yX2_cells yX2_cells, Cond.code yX2_cells cX2_cells 1 (some .int), Cond.fieldLink RX2 55 "PaddyTerraces$Slope" "h" "I", Cond.fieldLink RX2 59 "PaddyTerraces$Slope" "w" "I"]
def wsX3_countNumber_r2 : List Cond := [Cond.methodLink RX3 196 yX2_allDepths, Cond.instanceMethod yX2_allDepths, Cond.selects RX2 yX2_allDepths yX2_allDepths, Cond.code yX2_allDepths cX2_allDepths 1 (some .int), Cond.fieldLink RX2 15 "PaddyTerraces$Slope" "depth" "[I"]
def wsX3_countNumber : List Cond := .code yX3_countNumber cX3_countNumber 2 (some .int) :: ((wsX3_countNumber_r1 ++ wsX3_countNumber_r2) ++ wsX30 ++ wsX20)
def wsX3_count_r1 : List Cond := [Cond.classLink RX3 64 "java/lang/IndexOutOfBoundsException", Cond.initialized "java/lang/IndexOutOfBoundsException", Cond.methodLink RX3 35 yX3_isWithin, Cond.static yX3_isWithin, Cond.initialized RX3, Cond.code yX3_isWithin cX3_isWithin 3 (some .boolean), Cond.methodLink RX3 167 yX3_countNumber, Cond.instanceMethod yX3_countNumber, Cond.selects RX3 yX3_countNumber yX3_countNumber, Cond.code yX3_countNumber cX3_countNumber 2 (some .int), Cond.fieldLink RX3 21 "PaddyTerraces" "slope" "LPaddyTerraces$Slope;", Cond.fieldLink RX3 206 "PaddyTerraces$Slope" "h" "I", Cond.fieldLink RX3 203 "PaddyTerraces$Slope" "w" "I", Cond.fieldLink RX3 151 "PaddyTerraces$Slope" "day" "I", Cond.fieldLink RX3 209 "PaddyTerraces$Slope" "brook" "I", Cond.fieldLink RX3 49 "PaddyTerraces" "reaped" "I", Cond.fieldLink RX3 212 "PaddyTerraces$Slope" "died" "I", Cond.fieldLink RX3 53 "PaddyTerraces" "moved" "I", Cond.methodLink RX3 137 yX2_crops, Cond.instanceMethod yX2_crops, Cond.selects RX2 yX2_crops yX2_crops, Cond.initialized RX2, Cond.code yX2_crops cX2_crops 1 (some .int), Cond.fieldLink RX2 30 "PaddyTerraces$Slope" "crop" "[I"]
def wsX3_count_r2 : List Cond := [Cond.methodLink RX2 91 yX2_sumOf, Cond.instanceMethod yX2_sumOf, Cond.selects RX2 yX2_sumOf yX2_sumOf, Cond.code yX2_sumOf cX2_sumOf 4 (some .int), Cond.methodLink RX2 95 yX2_cells, Cond.instanceMethod yX2_cells, Cond.selects RX2 yX2_cells yX2_cells, Cond.code yX2_cells cX2_cells 1 (some .int), Cond.fieldLink RX2 55 "PaddyTerraces$Slope" "h" "I", Cond.fieldLink RX2 59 "PaddyTerraces$Slope" "w" "I", Cond.methodLink RX3 196 yX2_allDepths, Cond.instanceMethod yX2_allDepths, Cond.selects RX2 yX2_allDepths yX2_allDepths, Cond.code yX2_allDepths cX2_allDepths 1 (some .int), Cond.fieldLink RX2 15 "PaddyTerraces$Slope" "depth" "[I"]
def wsX3_count : List Cond := .code yX3_count cX3_count 2 (some .int) :: ((wsX3_count_r1 ++ wsX3_count_r2) ++ wsX30 ++ wsX20 ++ (vx_atS RX3 68 "java/lang/IndexOutOfBoundsException" ["java/lang/RuntimeException", "java/lang/Exception"]).filter goodWord)
def wsX3_weather : List Cond := .code yX3_weather cX3_weather 3 (some .int) :: ([.classLink RX3 64 "java/lang/IndexOutOfBoundsException", .initialized "java/lang/IndexOutOfBoundsException", .fieldLink RX3 10 "PaddyTerraces" "calendar" "LPaddyTerraces$Calendar;", .methodLink RX3 35 yX3_isWithin, .static yX3_isWithin, .initialized RX3, .code yX3_isWithin cX3_isWithin 3 (some .boolean), .methodLink RX3 172 yX0_dayNumber, .instanceMethod yX0_dayNumber, .selects RX0 yX0_dayNumber yX0_dayNumber, .initialized RX0, .code yX0_dayNumber cX0_dayNumber 3 (some .int), .fieldLink RX0 9 "PaddyTerraces$Calendar" "rain" "[I", .fieldLink RX0 15 "PaddyTerraces$Calendar" "spring" "[I", .fieldLink RX0 18 "PaddyTerraces$Calendar" "draught" "[I"] ++ wsX30 ++ wsX00 ++ (vx_atS RX3 68 "java/lang/IndexOutOfBoundsException" ["java/lang/RuntimeException", "java/lang/Exception"]).filter goodWord)
def wsX3_foreseenNumber_r1 : List Cond := [Cond.fieldLink RX3 25 "PaddyTerraces" "trial" "LPaddyTerraces$Slope;", Cond.fieldLink RX3 209 "PaddyTerraces$Slope" "brook" "I", Cond.fieldLink RX3 21 "PaddyTerraces" "slope" "LPaddyTerraces$Slope;", Cond.methodLink RX3 137 yX2_crops, Cond.instanceMethod yX2_crops, Cond.selects RX2 yX2_crops yX2_crops, Cond.initialized RX2, Cond.code yX2_crops cX2_crops 1 (some .int), Cond.fieldLink RX2 30 "PaddyTerraces$Slope" "crop" "[I", Cond.methodLink RX2 91 yX2_sumOf, Cond.instanceMethod yX2_sumOf, Cond.selects RX2 yX2_sumOf yX2_sumOf, Cond.code yX2_sumOf cX2_sumOf 4 (some .int), Cond.methodLink RX2 95 yX2_cells, Cond.instanceMethod yX2_cells, Cond.selects RX2 yX2_cells yX2_cells, Cond.code yX2_cells cX2_cells 1 (some .int), Cond.fieldLink RX2 55 "PaddyTerraces$Slope" "h" "I", Cond.fieldLink RX2 59 "PaddyTerraces$Slope" "w" "I", Cond.methodLink RX3 215 yX2_allHardness, Cond.instanceMethod yX2_allHardness, Cond.selects RX2 yX2_allHardness yX2_allHardness, Cond.code yX2_allHardness cX2_allHardness 1 (some .int), Cond.fieldLink RX2 36 "PaddyTerraces$Slope" "hardness" "[I"]
def wsX3_foreseenNumber_r2 : List Cond := [Cond.methodLink RX3 196 yX2_allDepths, Cond.instanceMethod yX2_allDepths, Cond.selects RX2 yX2_allDepths yX2_allDepths, Cond.code yX2_allDepths cX2_allDepths 1 (some .int), Cond.fieldLink RX2 15 "PaddyTerraces$Slope" "depth" "[I"]
def wsX3_foreseenNumber : List Cond := .code yX3_foreseenNumber cX3_foreseenNumber 2 (some .int) :: ((wsX3_foreseenNumber_r1 ++ wsX3_foreseenNumber_r2) ++ wsX30 ++ wsX20)
def wsX3_foresee_r1 : List Cond := [Cond.classLink RX3 39 "java/lang/IllegalArgumentException", Cond.initialized "java/lang/IllegalArgumentException", Cond.classLink RX3 64 "java/lang/IndexOutOfBoundsException", Cond.initialized "java/lang/IndexOutOfBoundsException", Cond.classLink RX3 129 "java/lang/IllegalStateException", Cond.initialized "java/lang/IllegalStateException", Cond.fieldLink RX3 21 "PaddyTerraces" "slope" "LPaddyTerraces$Slope;", Cond.fieldLink RX3 151 "PaddyTerraces$Slope" "day" "I", Cond.fieldLink RX3 25 "PaddyTerraces" "trial" "LPaddyTerraces$Slope;", Cond.fieldLink RX3 10 "PaddyTerraces" "calendar" "LPaddyTerraces$Calendar;", Cond.methodLink RX3 35 yX3_isWithin, Cond.static yX3_isWithin, Cond.initialized RX3, Cond.code yX3_isWithin cX3_isWithin 3 (some .boolean), Cond.methodLink RX3 179 yX2_copyFrom, Cond.instanceMethod yX2_copyFrom, Cond.selects RX2 yX2_copyFrom yX2_copyFrom, Cond.initialized RX2, Cond.code yX2_copyFrom cX2_copyFrom 2 none, Cond.fieldLink RX2 55 "PaddyTerraces$Slope" "h" "I", Cond.fieldLink RX2 59 "PaddyTerraces$Slope" "w" "I", Cond.fieldLink RX2 62 "PaddyTerraces$Slope" "day" "I", Cond.fieldLink RX2 65 "PaddyTerraces$Slope" "brook" "I", Cond.fieldLink RX2 68 "PaddyTerraces$Slope" "died" "I"]
def wsX3_foresee_r2 : List Cond := [Cond.fieldLink RX2 9 "PaddyTerraces$Slope" "share" "[I", Cond.methodLink RX2 81 arraycopyName, Cond.native arraycopyName, Cond.static arraycopyName, Cond.initialized "java/lang/System", Cond.fieldLink RX2 15 "PaddyTerraces$Slope" "depth" "[I", Cond.fieldLink RX2 18 "PaddyTerraces$Slope" "bank" "[I", Cond.fieldLink RX2 21 "PaddyTerraces$Slope" "seepage" "[I", Cond.fieldLink RX2 24 "PaddyTerraces$Slope" "stone" "[I", Cond.fieldLink RX2 27 "PaddyTerraces$Slope" "side" "[I", Cond.fieldLink RX2 30 "PaddyTerraces$Slope" "crop" "[I", Cond.fieldLink RX2 33 "PaddyTerraces$Slope" "age" "[I", Cond.fieldLink RX2 36 "PaddyTerraces$Slope" "hardness" "[I", Cond.fieldLink RX2 39 "PaddyTerraces$Slope" "drowned" "[I", Cond.fieldLink RX2 42 "PaddyTerraces$Slope" "dry" "[I", Cond.fieldLink RX2 45 "PaddyTerraces$Slope" "wentOut" "[I", Cond.fieldLink RX2 48 "PaddyTerraces$Slope" "spilled" "[I", Cond.methodLink RX2 87 yX2_copyRow, Cond.static yX2_copyRow, Cond.code yX2_copyRow cX2_copyRow 2 none, Cond.methodLink RX3 156 yX2_letDaysGoBy, Cond.instanceMethod yX2_letDaysGoBy, Cond.selects RX2 yX2_letDaysGoBy yX2_letDaysGoBy, Cond.code yX2_letDaysGoBy cX2_letDaysGoBy 5 none]
def wsX3_foresee_r3 : List Cond := [Cond.fieldLink RX2 99 "PaddyTerraces$Calendar" "rain" "[I", Cond.fieldLink RX2 107 "PaddyTerraces$Calendar" "spring" "[I", Cond.fieldLink RX2 116 "PaddyTerraces$Calendar" "draught" "[I", Cond.methodLink RX2 104 yX2_takeRain, Cond.instanceMethod yX2_takeRain, Cond.selects RX2 yX2_takeRain yX2_takeRain, Cond.code yX2_takeRain cX2_takeRain 3 none, Cond.methodLink RX2 95 yX2_cells, Cond.instanceMethod yX2_cells, Cond.selects RX2 yX2_cells yX2_cells, Cond.code yX2_cells cX2_cells 1 (some .int), Cond.methodLink RX2 110 yX2_takeSpring, Cond.instanceMethod yX2_takeSpring, Cond.selects RX2 yX2_takeSpring yX2_takeSpring, Cond.code yX2_takeSpring cX2_takeSpring 4 none, Cond.methodLink RX2 113 yX2_letWaterFlow, Cond.instanceMethod yX2_letWaterFlow, Cond.selects RX2 yX2_letWaterFlow yX2_letWaterFlow, Cond.code yX2_letWaterFlow cX2_letWaterFlow 3 none, Cond.methodLink RX2 125 yX2_letFieldFlow, Cond.instanceMethod yX2_letFieldFlow, Cond.selects RX2 yX2_letFieldFlow yX2_letFieldFlow, Cond.code yX2_letFieldFlow cX2_letFieldFlow 6 none, Cond.methodLink RX2 132 Lib.Math.max.name]
def wsX3_foresee_r4 : List Cond := [Cond.static Lib.Math.max.name, Cond.initialized "java/lang/Math", Cond.code Lib.Math.max.name Lib.Math.max.code 2 (some .int), Cond.methodLink RX2 137 Lib.Math.min.name, Cond.static Lib.Math.min.name, Cond.code Lib.Math.min.name Lib.Math.min.code 2 (some .int), Cond.methodLink RX2 128 yX2_cellOf, Cond.instanceMethod yX2_cellOf, Cond.selects RX2 yX2_cellOf yX2_cellOf, Cond.code yX2_cellOf cX2_cellOf 3 (some .int), Cond.methodLink RX2 140 yX2_bringWater, Cond.instanceMethod yX2_bringWater, Cond.selects RX2 yX2_bringWater yX2_bringWater, Cond.code yX2_bringWater cX2_bringWater 4 none, Cond.methodLink RX2 144 yX2_hasField, Cond.instanceMethod yX2_hasField, Cond.selects RX2 yX2_hasField yX2_hasField, Cond.code yX2_hasField cX2_hasField 3 (some .boolean), Cond.methodLink RX2 119 yX2_loseWater, Cond.instanceMethod yX2_loseWater, Cond.selects RX2 yX2_loseWater yX2_loseWater, Cond.code yX2_loseWater cX2_loseWater 4 none, Cond.methodLink RX2 122 yX2_growRice, Cond.instanceMethod yX2_growRice]
def wsX3_foresee_r5 : List Cond := [Cond.selects RX2 yX2_growRice yX2_growRice, Cond.code yX2_growRice cX2_growRice 2 none, Cond.methodLink RX2 148 yX2_growCrop, Cond.instanceMethod yX2_growCrop, Cond.selects RX2 yX2_growCrop yX2_growCrop, Cond.code yX2_growCrop cX2_growCrop 4 none, Cond.methodLink RX2 77 yX2_clearCrop, Cond.instanceMethod yX2_clearCrop, Cond.selects RX2 yX2_clearCrop yX2_clearCrop, Cond.code yX2_clearCrop cX2_clearCrop 2 none, Cond.methodLink RX2 151 yX2_hardening, Cond.instanceMethod yX2_hardening, Cond.selects RX2 yX2_hardening yX2_hardening, Cond.code yX2_hardening cX2_hardening 2 (some .int), Cond.methodLink RX3 183 yX3_foreseenNumber, Cond.instanceMethod yX3_foreseenNumber, Cond.selects RX3 yX3_foreseenNumber yX3_foreseenNumber, Cond.code yX3_foreseenNumber cX3_foreseenNumber 2 (some .int), Cond.fieldLink RX3 209 "PaddyTerraces$Slope" "brook" "I", Cond.methodLink RX3 137 yX2_crops, Cond.instanceMethod yX2_crops, Cond.selects RX2 yX2_crops yX2_crops, Cond.code yX2_crops cX2_crops 1 (some .int), Cond.methodLink RX2 91 yX2_sumOf]
def wsX3_foresee_r6 : List Cond := [Cond.instanceMethod yX2_sumOf, Cond.selects RX2 yX2_sumOf yX2_sumOf, Cond.code yX2_sumOf cX2_sumOf 4 (some .int), Cond.methodLink RX3 215 yX2_allHardness, Cond.instanceMethod yX2_allHardness, Cond.selects RX2 yX2_allHardness yX2_allHardness, Cond.code yX2_allHardness cX2_allHardness 1 (some .int), Cond.methodLink RX3 196 yX2_allDepths, Cond.instanceMethod yX2_allDepths, Cond.selects RX2 yX2_allDepths yX2_allDepths, Cond.code yX2_allDepths cX2_allDepths 1 (some .int)]
def wsX3_foresee : List Cond := .code yX3_foresee cX3_foresee 3 (some .int) :: ((wsX3_foresee_r1 ++ (wsX3_foresee_r2 ++ (wsX3_foresee_r3 ++ (wsX3_foresee_r4 ++ (wsX3_foresee_r5 ++ wsX3_foresee_r6))))) ++ wsX30 ++ wsX20 ++ wsX00 ++ (vx_atS RX3 43 "java/lang/IllegalArgumentException" ["java/lang/RuntimeException", "java/lang/Exception"]).filter goodWord ++ (vx_atS RX3 68 "java/lang/IndexOutOfBoundsException" ["java/lang/RuntimeException", "java/lang/Exception"]).filter goodWord ++ (vx_atS RX3 133 "java/lang/IllegalStateException" ["java/lang/RuntimeException", "java/lang/Exception"]).filter goodWord)
def wsX3_findBestMove_r1 : List Cond := [Cond.fieldLink RX3 25 "PaddyTerraces" "trial" "LPaddyTerraces$Slope;", Cond.fieldLink RX3 21 "PaddyTerraces" "slope" "LPaddyTerraces$Slope;", Cond.fieldLink RX3 10 "PaddyTerraces" "calendar" "LPaddyTerraces$Calendar;", Cond.fieldLink RX3 31 "PaddyTerraces" "best" "LPaddyTerraces$Move;", Cond.fieldLink RX3 206 "PaddyTerraces$Slope" "h" "I", Cond.fieldLink RX3 203 "PaddyTerraces$Slope" "w" "I", Cond.fieldLink RX3 75 "PaddyTerraces$Slope" "bank" "[I", Cond.fieldLink RX3 82 "PaddyTerraces$Slope" "stone" "[I", Cond.methodLink RX3 179 yX2_copyFrom, Cond.instanceMethod yX2_copyFrom, Cond.selects RX2 yX2_copyFrom yX2_copyFrom, Cond.initialized RX2, Cond.code yX2_copyFrom cX2_copyFrom 2 none, Cond.fieldLink RX2 55 "PaddyTerraces$Slope" "h" "I", Cond.fieldLink RX2 59 "PaddyTerraces$Slope" "w" "I", Cond.fieldLink RX2 62 "PaddyTerraces$Slope" "day" "I", Cond.fieldLink RX2 65 "PaddyTerraces$Slope" "brook" "I", Cond.fieldLink RX2 68 "PaddyTerraces$Slope" "died" "I", Cond.fieldLink RX2 9 "PaddyTerraces$Slope" "share" "[I", Cond.methodLink RX2 81 arraycopyName, Cond.native arraycopyName, Cond.static arraycopyName, Cond.initialized "java/lang/System", Cond.fieldLink RX2 15 "PaddyTerraces$Slope" "depth" "[I"]
def wsX3_findBestMove_r2 : List Cond := [Cond.fieldLink RX2 18 "PaddyTerraces$Slope" "bank" "[I", Cond.fieldLink RX2 21 "PaddyTerraces$Slope" "seepage" "[I", Cond.fieldLink RX2 24 "PaddyTerraces$Slope" "stone" "[I", Cond.fieldLink RX2 27 "PaddyTerraces$Slope" "side" "[I", Cond.fieldLink RX2 30 "PaddyTerraces$Slope" "crop" "[I", Cond.fieldLink RX2 33 "PaddyTerraces$Slope" "age" "[I", Cond.fieldLink RX2 36 "PaddyTerraces$Slope" "hardness" "[I", Cond.fieldLink RX2 39 "PaddyTerraces$Slope" "drowned" "[I", Cond.fieldLink RX2 42 "PaddyTerraces$Slope" "dry" "[I", Cond.fieldLink RX2 45 "PaddyTerraces$Slope" "wentOut" "[I", Cond.fieldLink RX2 48 "PaddyTerraces$Slope" "spilled" "[I", Cond.methodLink RX2 87 yX2_copyRow, Cond.static yX2_copyRow, Cond.code yX2_copyRow cX2_copyRow 2 none, Cond.methodLink RX3 156 yX2_letDaysGoBy, Cond.instanceMethod yX2_letDaysGoBy, Cond.selects RX2 yX2_letDaysGoBy yX2_letDaysGoBy, Cond.code yX2_letDaysGoBy cX2_letDaysGoBy 5 none, Cond.fieldLink RX2 99 "PaddyTerraces$Calendar" "rain" "[I", Cond.fieldLink RX2 107 "PaddyTerraces$Calendar" "spring" "[I", Cond.fieldLink RX2 116 "PaddyTerraces$Calendar" "draught" "[I", Cond.methodLink RX2 104 yX2_takeRain, Cond.instanceMethod yX2_takeRain, Cond.selects RX2 yX2_takeRain yX2_takeRain]
def wsX3_findBestMove_r3 : List Cond := [Cond.code yX2_takeRain cX2_takeRain 3 none, Cond.methodLink RX2 95 yX2_cells, Cond.instanceMethod yX2_cells, Cond.selects RX2 yX2_cells yX2_cells, Cond.code yX2_cells cX2_cells 1 (some .int), Cond.methodLink RX2 110 yX2_takeSpring, Cond.instanceMethod yX2_takeSpring, Cond.selects RX2 yX2_takeSpring yX2_takeSpring, Cond.code yX2_takeSpring cX2_takeSpring 4 none, Cond.methodLink RX2 113 yX2_letWaterFlow, Cond.instanceMethod yX2_letWaterFlow, Cond.selects RX2 yX2_letWaterFlow yX2_letWaterFlow, Cond.code yX2_letWaterFlow cX2_letWaterFlow 3 none, Cond.methodLink RX2 125 yX2_letFieldFlow, Cond.instanceMethod yX2_letFieldFlow, Cond.selects RX2 yX2_letFieldFlow yX2_letFieldFlow, Cond.code yX2_letFieldFlow cX2_letFieldFlow 6 none, Cond.methodLink RX2 132 Lib.Math.max.name, Cond.static Lib.Math.max.name, Cond.initialized "java/lang/Math", Cond.code Lib.Math.max.name Lib.Math.max.code 2 (some .int), Cond.methodLink RX2 137 Lib.Math.min.name, Cond.static Lib.Math.min.name, Cond.code Lib.Math.min.name Lib.Math.min.code 2 (some .int)]
def wsX3_findBestMove_r4 : List Cond := [Cond.methodLink RX2 128 yX2_cellOf, Cond.instanceMethod yX2_cellOf, Cond.selects RX2 yX2_cellOf yX2_cellOf, Cond.code yX2_cellOf cX2_cellOf 3 (some .int), Cond.methodLink RX2 140 yX2_bringWater, Cond.instanceMethod yX2_bringWater, Cond.selects RX2 yX2_bringWater yX2_bringWater, Cond.code yX2_bringWater cX2_bringWater 4 none, Cond.methodLink RX2 144 yX2_hasField, Cond.instanceMethod yX2_hasField, Cond.selects RX2 yX2_hasField yX2_hasField, Cond.code yX2_hasField cX2_hasField 3 (some .boolean), Cond.methodLink RX2 119 yX2_loseWater, Cond.instanceMethod yX2_loseWater, Cond.selects RX2 yX2_loseWater yX2_loseWater, Cond.code yX2_loseWater cX2_loseWater 4 none, Cond.methodLink RX2 122 yX2_growRice, Cond.instanceMethod yX2_growRice, Cond.selects RX2 yX2_growRice yX2_growRice, Cond.code yX2_growRice cX2_growRice 2 none, Cond.methodLink RX2 148 yX2_growCrop, Cond.instanceMethod yX2_growCrop, Cond.selects RX2 yX2_growCrop yX2_growCrop, Cond.code yX2_growCrop cX2_growCrop 4 none]
def wsX3_findBestMove_r5 : List Cond := [Cond.methodLink RX2 77 yX2_clearCrop, Cond.instanceMethod yX2_clearCrop, Cond.selects RX2 yX2_clearCrop yX2_clearCrop, Cond.code yX2_clearCrop cX2_clearCrop 2 none, Cond.methodLink RX2 151 yX2_hardening, Cond.instanceMethod yX2_hardening, Cond.selects RX2 yX2_hardening yX2_hardening, Cond.code yX2_hardening cX2_hardening 2 (some .int), Cond.static yX3_isWithin, Cond.initialized RX3, Cond.code yX3_isWithin cX3_isWithin 3 (some .boolean), Cond.methodLink RX3 137 yX2_crops, Cond.instanceMethod yX2_crops, Cond.selects RX2 yX2_crops yX2_crops, Cond.code yX2_crops cX2_crops 1 (some .int), Cond.methodLink RX2 91 yX2_sumOf, Cond.instanceMethod yX2_sumOf, Cond.selects RX2 yX2_sumOf yX2_sumOf, Cond.code yX2_sumOf cX2_sumOf 4 (some .int), Cond.methodLink RX3 215 yX2_allHardness, Cond.instanceMethod yX2_allHardness, Cond.selects RX2 yX2_allHardness yX2_allHardness, Cond.code yX2_allHardness cX2_allHardness 1 (some .int), Cond.methodLink RX3 218 yX1_becomeLeaving]
def wsX3_findBestMove_r6 : List Cond := [Cond.instanceMethod yX1_becomeLeaving, Cond.selects RX1 yX1_becomeLeaving yX1_becomeLeaving, Cond.initialized RX1, Cond.code yX1_becomeLeaving cX1_becomeLeaving 3 none, Cond.methodLink RX1 9 yX1_become, Cond.instanceMethod yX1_become, Cond.selects RX1 yX1_become yX1_become, Cond.code yX1_become cX1_become 6 none, Cond.fieldLink RX1 22 "PaddyTerraces$Move" "terrace" "I", Cond.fieldLink RX1 25 "PaddyTerraces$Move" "column" "I", Cond.fieldLink RX1 28 "PaddyTerraces$Move" "height" "I", Cond.fieldLink RX1 15 "PaddyTerraces$Move" "crops" "I", Cond.fieldLink RX1 19 "PaddyTerraces$Move" "hardness" "I", Cond.methodLink RX3 71 yX2_cellOf, Cond.methodLink RX3 221 yX1_becomeIfBetter, Cond.instanceMethod yX1_becomeIfBetter, Cond.selects RX1 yX1_becomeIfBetter yX1_becomeIfBetter, Cond.code yX1_becomeIfBetter cX1_becomeIfBetter 6 none]
def wsX3_findBestMove : List Cond := .code yX3_findBestMove cX3_findBestMove 6 none :: ((wsX3_findBestMove_r1 ++ (wsX3_findBestMove_r2 ++ (wsX3_findBestMove_r3 ++ (wsX3_findBestMove_r4 ++ (wsX3_findBestMove_r5 ++ wsX3_findBestMove_r6))))) ++ wsX30 ++ wsX20 ++ wsX00 ++ wsX10)
def wsX3_advise_r1 : List Cond := [Cond.classLink RX3 39 "java/lang/IllegalArgumentException", Cond.initialized "java/lang/IllegalArgumentException", Cond.classLink RX3 64 "java/lang/IndexOutOfBoundsException", Cond.initialized "java/lang/IndexOutOfBoundsException", Cond.classLink RX3 129 "java/lang/IllegalStateException", Cond.initialized "java/lang/IllegalStateException", Cond.fieldLink RX3 21 "PaddyTerraces" "slope" "LPaddyTerraces$Slope;", Cond.fieldLink RX3 151 "PaddyTerraces$Slope" "day" "I", Cond.fieldLink RX3 31 "PaddyTerraces" "best" "LPaddyTerraces$Move;", Cond.methodLink RX3 35 yX3_isWithin, Cond.static yX3_isWithin, Cond.initialized RX3, Cond.code yX3_isWithin cX3_isWithin 3 (some .boolean), Cond.methodLink RX3 190 yX3_findBestMove, Cond.instanceMethod yX3_findBestMove, Cond.selects RX3 yX3_findBestMove yX3_findBestMove, Cond.code yX3_findBestMove cX3_findBestMove 6 none, Cond.fieldLink RX3 25 "PaddyTerraces" "trial" "LPaddyTerraces$Slope;", Cond.fieldLink RX3 10 "PaddyTerraces" "calendar" "LPaddyTerraces$Calendar;", Cond.fieldLink RX3 206 "PaddyTerraces$Slope" "h" "I", Cond.fieldLink RX3 203 "PaddyTerraces$Slope" "w" "I", Cond.fieldLink RX3 75 "PaddyTerraces$Slope" "bank" "[I", Cond.fieldLink RX3 82 "PaddyTerraces$Slope" "stone" "[I", Cond.methodLink RX3 179 yX2_copyFrom]
def wsX3_advise_r2 : List Cond := [Cond.instanceMethod yX2_copyFrom, Cond.selects RX2 yX2_copyFrom yX2_copyFrom, Cond.initialized RX2, Cond.code yX2_copyFrom cX2_copyFrom 2 none, Cond.fieldLink RX2 55 "PaddyTerraces$Slope" "h" "I", Cond.fieldLink RX2 59 "PaddyTerraces$Slope" "w" "I", Cond.fieldLink RX2 62 "PaddyTerraces$Slope" "day" "I", Cond.fieldLink RX2 65 "PaddyTerraces$Slope" "brook" "I", Cond.fieldLink RX2 68 "PaddyTerraces$Slope" "died" "I", Cond.fieldLink RX2 9 "PaddyTerraces$Slope" "share" "[I", Cond.methodLink RX2 81 arraycopyName, Cond.native arraycopyName, Cond.static arraycopyName, Cond.initialized "java/lang/System", Cond.fieldLink RX2 15 "PaddyTerraces$Slope" "depth" "[I", Cond.fieldLink RX2 18 "PaddyTerraces$Slope" "bank" "[I", Cond.fieldLink RX2 21 "PaddyTerraces$Slope" "seepage" "[I", Cond.fieldLink RX2 24 "PaddyTerraces$Slope" "stone" "[I", Cond.fieldLink RX2 27 "PaddyTerraces$Slope" "side" "[I", Cond.fieldLink RX2 30 "PaddyTerraces$Slope" "crop" "[I", Cond.fieldLink RX2 33 "PaddyTerraces$Slope" "age" "[I", Cond.fieldLink RX2 36 "PaddyTerraces$Slope" "hardness" "[I", Cond.fieldLink RX2 39 "PaddyTerraces$Slope" "drowned" "[I", Cond.fieldLink RX2 42 "PaddyTerraces$Slope" "dry" "[I"]
def wsX3_advise_r3 : List Cond := [Cond.fieldLink RX2 45 "PaddyTerraces$Slope" "wentOut" "[I", Cond.fieldLink RX2 48 "PaddyTerraces$Slope" "spilled" "[I", Cond.methodLink RX2 87 yX2_copyRow, Cond.static yX2_copyRow, Cond.code yX2_copyRow cX2_copyRow 2 none, Cond.methodLink RX3 156 yX2_letDaysGoBy, Cond.instanceMethod yX2_letDaysGoBy, Cond.selects RX2 yX2_letDaysGoBy yX2_letDaysGoBy, Cond.code yX2_letDaysGoBy cX2_letDaysGoBy 5 none, Cond.fieldLink RX2 99 "PaddyTerraces$Calendar" "rain" "[I", Cond.fieldLink RX2 107 "PaddyTerraces$Calendar" "spring" "[I", Cond.fieldLink RX2 116 "PaddyTerraces$Calendar" "draught" "[I", Cond.methodLink RX2 104 yX2_takeRain, Cond.instanceMethod yX2_takeRain, Cond.selects RX2 yX2_takeRain yX2_takeRain, Cond.code yX2_takeRain cX2_takeRain 3 none, Cond.methodLink RX2 95 yX2_cells, Cond.instanceMethod yX2_cells, Cond.selects RX2 yX2_cells yX2_cells, Cond.code yX2_cells cX2_cells 1 (some .int), Cond.methodLink RX2 110 yX2_takeSpring, Cond.instanceMethod yX2_takeSpring, Cond.selects RX2 yX2_takeSpring yX2_takeSpring, Cond.code yX2_takeSpring cX2_takeSpring 4 none]
def wsX3_advise_r4 : List Cond := [Cond.methodLink RX2 113 yX2_letWaterFlow, Cond.instanceMethod yX2_letWaterFlow, Cond.selects RX2 yX2_letWaterFlow yX2_letWaterFlow, Cond.code yX2_letWaterFlow cX2_letWaterFlow 3 none, Cond.methodLink RX2 125 yX2_letFieldFlow, Cond.instanceMethod yX2_letFieldFlow, Cond.selects RX2 yX2_letFieldFlow yX2_letFieldFlow, Cond.code yX2_letFieldFlow cX2_letFieldFlow 6 none, Cond.methodLink RX2 132 Lib.Math.max.name, Cond.static Lib.Math.max.name, Cond.initialized "java/lang/Math", Cond.code Lib.Math.max.name Lib.Math.max.code 2 (some .int), Cond.methodLink RX2 137 Lib.Math.min.name, Cond.static Lib.Math.min.name, Cond.code Lib.Math.min.name Lib.Math.min.code 2 (some .int), Cond.methodLink RX2 128 yX2_cellOf, Cond.instanceMethod yX2_cellOf, Cond.selects RX2 yX2_cellOf yX2_cellOf, Cond.code yX2_cellOf cX2_cellOf 3 (some .int), Cond.methodLink RX2 140 yX2_bringWater, Cond.instanceMethod yX2_bringWater, Cond.selects RX2 yX2_bringWater yX2_bringWater, Cond.code yX2_bringWater cX2_bringWater 4 none, Cond.methodLink RX2 144 yX2_hasField]
def wsX3_advise_r5 : List Cond := [Cond.instanceMethod yX2_hasField, Cond.selects RX2 yX2_hasField yX2_hasField, Cond.code yX2_hasField cX2_hasField 3 (some .boolean), Cond.methodLink RX2 119 yX2_loseWater, Cond.instanceMethod yX2_loseWater, Cond.selects RX2 yX2_loseWater yX2_loseWater, Cond.code yX2_loseWater cX2_loseWater 4 none, Cond.methodLink RX2 122 yX2_growRice, Cond.instanceMethod yX2_growRice, Cond.selects RX2 yX2_growRice yX2_growRice, Cond.code yX2_growRice cX2_growRice 2 none, Cond.methodLink RX2 148 yX2_growCrop, Cond.instanceMethod yX2_growCrop, Cond.selects RX2 yX2_growCrop yX2_growCrop, Cond.code yX2_growCrop cX2_growCrop 4 none, Cond.methodLink RX2 77 yX2_clearCrop, Cond.instanceMethod yX2_clearCrop, Cond.selects RX2 yX2_clearCrop yX2_clearCrop, Cond.code yX2_clearCrop cX2_clearCrop 2 none, Cond.methodLink RX2 151 yX2_hardening, Cond.instanceMethod yX2_hardening, Cond.selects RX2 yX2_hardening yX2_hardening, Cond.code yX2_hardening cX2_hardening 2 (some .int), Cond.methodLink RX3 137 yX2_crops]
def wsX3_advise_r6 : List Cond := [Cond.instanceMethod yX2_crops, Cond.selects RX2 yX2_crops yX2_crops, Cond.code yX2_crops cX2_crops 1 (some .int), Cond.methodLink RX2 91 yX2_sumOf, Cond.instanceMethod yX2_sumOf, Cond.selects RX2 yX2_sumOf yX2_sumOf, Cond.code yX2_sumOf cX2_sumOf 4 (some .int), Cond.methodLink RX3 215 yX2_allHardness, Cond.instanceMethod yX2_allHardness, Cond.selects RX2 yX2_allHardness yX2_allHardness, Cond.code yX2_allHardness cX2_allHardness 1 (some .int), Cond.methodLink RX3 218 yX1_becomeLeaving, Cond.instanceMethod yX1_becomeLeaving, Cond.selects RX1 yX1_becomeLeaving yX1_becomeLeaving, Cond.initialized RX1, Cond.code yX1_becomeLeaving cX1_becomeLeaving 3 none, Cond.methodLink RX1 9 yX1_become, Cond.instanceMethod yX1_become, Cond.selects RX1 yX1_become yX1_become, Cond.code yX1_become cX1_become 6 none, Cond.fieldLink RX1 22 "PaddyTerraces$Move" "terrace" "I", Cond.fieldLink RX1 25 "PaddyTerraces$Move" "column" "I", Cond.fieldLink RX1 28 "PaddyTerraces$Move" "height" "I", Cond.fieldLink RX1 15 "PaddyTerraces$Move" "crops" "I"]
def wsX3_advise_r7 : List Cond := [Cond.fieldLink RX1 19 "PaddyTerraces$Move" "hardness" "I", Cond.methodLink RX3 71 yX2_cellOf, Cond.methodLink RX3 221 yX1_becomeIfBetter, Cond.instanceMethod yX1_becomeIfBetter, Cond.selects RX1 yX1_becomeIfBetter yX1_becomeIfBetter, Cond.code yX1_becomeIfBetter cX1_becomeIfBetter 6 none, Cond.methodLink RX3 193 yX1_moveNumber, Cond.instanceMethod yX1_moveNumber, Cond.selects RX1 yX1_moveNumber yX1_moveNumber, Cond.code yX1_moveNumber cX1_moveNumber 2 (some .int)]
def wsX3_advise : List Cond := .code yX3_advise cX3_advise 3 (some .int) :: ((wsX3_advise_r1 ++ (wsX3_advise_r2 ++ (wsX3_advise_r3 ++ (wsX3_advise_r4 ++ (wsX3_advise_r5 ++ (wsX3_advise_r6 ++ wsX3_advise_r7)))))) ++ wsX30 ++ wsX20 ++ wsX00 ++ wsX10 ++ (vx_atS RX3 43 "java/lang/IllegalArgumentException" ["java/lang/RuntimeException", "java/lang/Exception"]).filter goodWord ++ (vx_atS RX3 68 "java/lang/IndexOutOfBoundsException" ["java/lang/RuntimeException", "java/lang/Exception"]).filter goodWord ++ (vx_atS RX3 133 "java/lang/IllegalStateException" ["java/lang/RuntimeException", "java/lang/Exception"]).filter goodWord)
def wsX3_depth : List Cond := .code yX3_depth cX3_depth 2 (some .double) :: ([.fieldLink RX3 21 "PaddyTerraces" "slope" "LPaddyTerraces$Slope;", .methodLink RX3 56 yX2_cells, .instanceMethod yX2_cells, .selects RX2 yX2_cells yX2_cells, .initialized RX2, .code yX2_cells cX2_cells 1 (some .int), .fieldLink RX2 55 "PaddyTerraces$Slope" "h" "I", .fieldLink RX2 59 "PaddyTerraces$Slope" "w" "I", .methodLink RX3 196 yX2_allDepths, .instanceMethod yX2_allDepths, .selects RX2 yX2_allDepths yX2_allDepths, .code yX2_allDepths cX2_allDepths 1 (some .int), .fieldLink RX2 15 "PaddyTerraces$Slope" "depth" "[I", .methodLink RX2 91 yX2_sumOf, .instanceMethod yX2_sumOf, .selects RX2 yX2_sumOf yX2_sumOf, .code yX2_sumOf cX2_sumOf 4 (some .int), .methodLink RX2 95 yX2_cells] ++ wsX30 ++ wsX20)
def wsX3_digest_r1 : List Cond := [Cond.constantLong RX3 199 (443), Cond.constantLong RX3 201 (31), Cond.fieldLink RX3 21 "PaddyTerraces" "slope" "LPaddyTerraces$Slope;", Cond.fieldLink RX3 203 "PaddyTerraces$Slope" "w" "I", Cond.fieldLink RX3 105 "PaddyTerraces$Slope" "share" "[I", Cond.fieldLink RX3 10 "PaddyTerraces" "calendar" "LPaddyTerraces$Calendar;", Cond.methodLink RX3 167 yX3_countNumber, Cond.instanceMethod yX3_countNumber, Cond.selects RX3 yX3_countNumber yX3_countNumber, Cond.initialized RX3, Cond.code yX3_countNumber cX3_countNumber 2 (some .int), Cond.fieldLink RX3 206 "PaddyTerraces$Slope" "h" "I", Cond.fieldLink RX3 151 "PaddyTerraces$Slope" "day" "I", Cond.fieldLink RX3 209 "PaddyTerraces$Slope" "brook" "I", Cond.fieldLink RX3 49 "PaddyTerraces" "reaped" "I", Cond.fieldLink RX3 212 "PaddyTerraces$Slope" "died" "I", Cond.fieldLink RX3 53 "PaddyTerraces" "moved" "I", Cond.methodLink RX3 137 yX2_crops, Cond.instanceMethod yX2_crops, Cond.selects RX2 yX2_crops yX2_crops, Cond.initialized RX2, Cond.code yX2_crops cX2_crops 1 (some .int), Cond.fieldLink RX2 30 "PaddyTerraces$Slope" "crop" "[I", Cond.methodLink RX2 91 yX2_sumOf]
def wsX3_digest_r2 : List Cond := [Cond.instanceMethod yX2_sumOf, Cond.selects RX2 yX2_sumOf yX2_sumOf, Cond.code yX2_sumOf cX2_sumOf 4 (some .int), Cond.methodLink RX2 95 yX2_cells, Cond.instanceMethod yX2_cells, Cond.selects RX2 yX2_cells yX2_cells, Cond.code yX2_cells cX2_cells 1 (some .int), Cond.fieldLink RX2 55 "PaddyTerraces$Slope" "h" "I", Cond.fieldLink RX2 59 "PaddyTerraces$Slope" "w" "I", Cond.methodLink RX3 196 yX2_allDepths, Cond.instanceMethod yX2_allDepths, Cond.selects RX2 yX2_allDepths yX2_allDepths, Cond.code yX2_allDepths cX2_allDepths 1 (some .int), Cond.fieldLink RX2 15 "PaddyTerraces$Slope" "depth" "[I", Cond.methodLink RX3 56 yX2_cells, Cond.methodLink RX3 162 yX2_fieldNumber, Cond.instanceMethod yX2_fieldNumber, Cond.selects RX2 yX2_fieldNumber yX2_fieldNumber, Cond.code yX2_fieldNumber cX2_fieldNumber 3 (some .int), Cond.fieldLink RX2 18 "PaddyTerraces$Slope" "bank" "[I", Cond.fieldLink RX2 21 "PaddyTerraces$Slope" "seepage" "[I", Cond.fieldLink RX2 24 "PaddyTerraces$Slope" "stone" "[I", Cond.fieldLink RX2 27 "PaddyTerraces$Slope" "side" "[I", Cond.fieldLink RX2 33 "PaddyTerraces$Slope" "age" "[I"]
def wsX3_digest_r3 : List Cond := [Cond.fieldLink RX2 36 "PaddyTerraces$Slope" "hardness" "[I", Cond.fieldLink RX2 39 "PaddyTerraces$Slope" "drowned" "[I", Cond.fieldLink RX2 42 "PaddyTerraces$Slope" "dry" "[I", Cond.fieldLink RX2 45 "PaddyTerraces$Slope" "wentOut" "[I", Cond.fieldLink RX2 48 "PaddyTerraces$Slope" "spilled" "[I", Cond.methodLink RX3 172 yX0_dayNumber, Cond.instanceMethod yX0_dayNumber, Cond.selects RX0 yX0_dayNumber yX0_dayNumber, Cond.initialized RX0, Cond.code yX0_dayNumber cX0_dayNumber 3 (some .int), Cond.fieldLink RX0 9 "PaddyTerraces$Calendar" "rain" "[I", Cond.fieldLink RX0 15 "PaddyTerraces$Calendar" "spring" "[I", Cond.fieldLink RX0 18 "PaddyTerraces$Calendar" "draught" "[I"]
def wsX3_digest : List Cond := .code yX3_digest cX3_digest 5 (some .long) :: ((wsX3_digest_r1 ++ (wsX3_digest_r2 ++ wsX3_digest_r3)) ++ wsX30 ++ wsX20 ++ wsX00)
def wsX4_clear : List Cond := .code yX4_clear cX4_clear 5 none :: ([.fieldLink RX4 9 "PaddyTerracesModel" "n" "[I", .fieldLink RX4 13 "PaddyTerracesModel" "shares" "[I", .arrayClass .int, .fieldLink RX4 16 "PaddyTerracesModel" "fields" "[I", .methodLink RX4 32 arraycopyName, .native arraycopyName, .static arraycopyName, .initialized "java/lang/System"] ++ wsX40)
def wsX4_init : List Cond := .code yX4_init cX4_init 2 none :: ([.methodLink RX4 1 objectInit, .instanceMethod objectInit, .code objectInit ⟨#[0xb1]⟩ 1 none, .arrayClass .int, .fieldLink RX4 9 "PaddyTerracesModel" "n" "[I", .fieldLink RX4 13 "PaddyTerracesModel" "shares" "[I", .fieldLink RX4 16 "PaddyTerracesModel" "fields" "[I", .fieldLink RX4 19 "PaddyTerracesModel" "weather" "[I", .fieldLink RX4 22 "PaddyTerracesModel" "spareCounts" "[I", .fieldLink RX4 25 "PaddyTerracesModel" "spareFields" "[I", .methodLink RX4 28 yX4_clear, .instanceMethod yX4_clear, .selects RX4 yX4_clear yX4_clear, .initialized RX4, .code yX4_clear cX4_clear 5 none, .methodLink RX4 32 arraycopyName, .native arraycopyName, .static arraycopyName, .initialized "java/lang/System"] ++ wsX40)
def wsX4_thrown : List Cond := .code yX4_thrown cX4_thrown 1 (some .int) :: ([.fieldLink RX4 38 "PaddyTerracesModel" "thrown" "I"] ++ wsX40)
def wsX4_fail : List Cond := .code yX4_fail cX4_fail 2 (some .int) :: ([.fieldLink RX4 38 "PaddyTerracesModel" "thrown" "I"] ++ wsX40)
def wsX4_isIn : List Cond := .code yX4_isIn cX4_isIn 3 (some .boolean) :: ([])
def wsX4_isField : List Cond := .code yX4_isField cX4_isField 3 (some .boolean) :: ([.fieldLink RX4 9 "PaddyTerracesModel" "n" "[I", .methodLink RX4 42 yX4_isIn, .static yX4_isIn, .initialized RX4, .code yX4_isIn cX4_isIn 3 (some .boolean)] ++ wsX40)
def wsX4_at : List Cond := .code yX4_at cX4_at 3 (some .int) :: ([.fieldLink RX4 9 "PaddyTerracesModel" "n" "[I"] ++ wsX40)
def wsX4_many : List Cond := .code yX4_many cX4_many 1 (some .int) :: ([.fieldLink RX4 9 "PaddyTerracesModel" "n" "[I"] ++ wsX40)
def wsX4_lay : List Cond := .code yX4_lay cX4_lay 3 (some .int) :: ([.fieldLink RX4 38 "PaddyTerracesModel" "thrown" "I", .methodLink RX4 42 yX4_isIn, .static yX4_isIn, .initialized RX4, .code yX4_isIn cX4_isIn 3 (some .boolean), .methodLink RX4 46 yX4_fail, .instanceMethod yX4_fail, .selects RX4 yX4_fail yX4_fail, .code yX4_fail cX4_fail 2 (some .int), .methodLink RX4 28 yX4_clear, .instanceMethod yX4_clear, .selects RX4 yX4_clear yX4_clear, .code yX4_clear cX4_clear 5 none, .fieldLink RX4 9 "PaddyTerracesModel" "n" "[I", .fieldLink RX4 13 "PaddyTerracesModel" "shares" "[I", .arrayClass .int, .fieldLink RX4 16 "PaddyTerracesModel" "fields" "[I", .methodLink RX4 32 arraycopyName, .native arraycopyName, .static arraycopyName, .initialized "java/lang/System"] ++ wsX40)
def wsX4_set : List Cond := .code yX4_set cX4_set 4 (some .int) :: ([.fieldLink RX4 16 "PaddyTerracesModel" "fields" "[I"] ++ wsX40)
def wsX4_setField_r1 : List Cond := [Cond.fieldLink RX4 38 "PaddyTerracesModel" "thrown" "I", Cond.fieldLink RX4 16 "PaddyTerracesModel" "fields" "[I", Cond.methodLink RX4 58 Lib.Math.min.name, Cond.static Lib.Math.min.name, Cond.initialized "java/lang/Math", Cond.code Lib.Math.min.name Lib.Math.min.code 2 (some .int), Cond.methodLink RX4 50 yX4_isField, Cond.instanceMethod yX4_isField, Cond.selects RX4 yX4_isField yX4_isField, Cond.initialized RX4, Cond.code yX4_isField cX4_isField 3 (some .boolean), Cond.fieldLink RX4 9 "PaddyTerracesModel" "n" "[I", Cond.methodLink RX4 42 yX4_isIn, Cond.static yX4_isIn, Cond.code yX4_isIn cX4_isIn 3 (some .boolean), Cond.methodLink RX4 46 yX4_fail, Cond.instanceMethod yX4_fail, Cond.selects RX4 yX4_fail yX4_fail, Cond.code yX4_fail cX4_fail 2 (some .int), Cond.methodLink RX4 54 yX4_at, Cond.instanceMethod yX4_at, Cond.selects RX4 yX4_at yX4_at, Cond.code yX4_at cX4_at 3 (some .int), Cond.methodLink RX4 63 yX4_set]
def wsX4_setField_r2 : List Cond := [Cond.instanceMethod yX4_set, Cond.selects RX4 yX4_set yX4_set, Cond.code yX4_set cX4_set 4 (some .int)]
def wsX4_setField : List Cond := .code yX4_setField cX4_setField 6 (some .int) :: ((wsX4_setField_r1 ++ wsX4_setField_r2) ++ wsX40)
def wsX4_moveStone_r1 : List Cond := [Cond.fieldLink RX4 38 "PaddyTerracesModel" "thrown" "I", Cond.fieldLink RX4 16 "PaddyTerracesModel" "fields" "[I", Cond.fieldLink RX4 9 "PaddyTerracesModel" "n" "[I", Cond.methodLink RX4 66 Lib.Math.abs.name, Cond.static Lib.Math.abs.name, Cond.initialized "java/lang/Math", Cond.code Lib.Math.abs.name Lib.Math.abs.code 1 (some .int), Cond.methodLink RX4 50 yX4_isField, Cond.instanceMethod yX4_isField, Cond.selects RX4 yX4_isField yX4_isField, Cond.initialized RX4, Cond.code yX4_isField cX4_isField 3 (some .boolean), Cond.methodLink RX4 42 yX4_isIn, Cond.static yX4_isIn, Cond.code yX4_isIn cX4_isIn 3 (some .boolean), Cond.methodLink RX4 46 yX4_fail, Cond.instanceMethod yX4_fail, Cond.selects RX4 yX4_fail yX4_fail, Cond.code yX4_fail cX4_fail 2 (some .int), Cond.methodLink RX4 54 yX4_at, Cond.instanceMethod yX4_at, Cond.selects RX4 yX4_at yX4_at, Cond.code yX4_at cX4_at 3 (some .int), Cond.methodLink RX4 63 yX4_set]
def wsX4_moveStone_r2 : List Cond := [Cond.instanceMethod yX4_set, Cond.selects RX4 yX4_set yX4_set, Cond.code yX4_set cX4_set 4 (some .int)]
def wsX4_moveStone : List Cond := .code yX4_moveStone cX4_moveStone 5 (some .int) :: ((wsX4_moveStone_r1 ++ wsX4_moveStone_r2) ++ wsX40)
def wsX4_turn : List Cond := .code yX4_turn cX4_turn 4 (some .int) :: ([.fieldLink RX4 38 "PaddyTerracesModel" "thrown" "I", .methodLink RX4 50 yX4_isField, .instanceMethod yX4_isField, .selects RX4 yX4_isField yX4_isField, .initialized RX4, .code yX4_isField cX4_isField 3 (some .boolean), .fieldLink RX4 9 "PaddyTerracesModel" "n" "[I", .methodLink RX4 42 yX4_isIn, .static yX4_isIn, .code yX4_isIn cX4_isIn 3 (some .boolean), .methodLink RX4 46 yX4_fail, .instanceMethod yX4_fail, .selects RX4 yX4_fail yX4_fail, .code yX4_fail cX4_fail 2 (some .int), .methodLink RX4 54 yX4_at, .instanceMethod yX4_at, .selects RX4 yX4_at yX4_at, .code yX4_at cX4_at 3 (some .int), .methodLink RX4 63 yX4_set, .instanceMethod yX4_set, .selects RX4 yX4_set yX4_set, .code yX4_set cX4_set 4 (some .int), .fieldLink RX4 16 "PaddyTerracesModel" "fields" "[I"] ++ wsX40)
def wsX4_setShare : List Cond := .code yX4_setShare cX4_setShare 4 (some .int) :: ([.fieldLink RX4 38 "PaddyTerracesModel" "thrown" "I", .fieldLink RX4 9 "PaddyTerracesModel" "n" "[I", .fieldLink RX4 13 "PaddyTerracesModel" "shares" "[I", .methodLink RX4 42 yX4_isIn, .static yX4_isIn, .initialized RX4, .code yX4_isIn cX4_isIn 3 (some .boolean), .methodLink RX4 46 yX4_fail, .instanceMethod yX4_fail, .selects RX4 yX4_fail yX4_fail, .code yX4_fail cX4_fail 2 (some .int)] ++ wsX40)
def wsX4_setDay : List Cond := .code yX4_setDay cX4_setDay 7 (some .int) :: ([.fieldLink RX4 38 "PaddyTerracesModel" "thrown" "I", .fieldLink RX4 19 "PaddyTerracesModel" "weather" "[I", .arrayClass .int, .methodLink RX4 32 arraycopyName, .native arraycopyName, .static arraycopyName, .initialized "java/lang/System", .methodLink RX4 42 yX4_isIn, .static yX4_isIn, .initialized RX4, .code yX4_isIn cX4_isIn 3 (some .boolean), .methodLink RX4 46 yX4_fail, .instanceMethod yX4_fail, .selects RX4 yX4_fail yX4_fail, .code yX4_fail cX4_fail 2 (some .int)] ++ wsX40)
def wsX4_sum : List Cond := .code yX4_sum cX4_sum 4 (some .int) :: ([.fieldLink RX4 16 "PaddyTerracesModel" "fields" "[I", .methodLink RX4 69 yX4_many, .instanceMethod yX4_many, .selects RX4 yX4_many yX4_many, .initialized RX4, .code yX4_many cX4_many 1 (some .int), .fieldLink RX4 9 "PaddyTerracesModel" "n" "[I"] ++ wsX40)
def wsX4_fallow : List Cond := .code yX4_fallow cX4_fallow 3 none :: ([.fieldLink RX4 16 "PaddyTerracesModel" "fields" "[I"] ++ wsX40)
def wsX4_plant_r1 : List Cond := [Cond.fieldLink RX4 38 "PaddyTerracesModel" "thrown" "I", Cond.fieldLink RX4 16 "PaddyTerracesModel" "fields" "[I", Cond.methodLink RX4 50 yX4_isField, Cond.instanceMethod yX4_isField, Cond.selects RX4 yX4_isField yX4_isField, Cond.initialized RX4, Cond.code yX4_isField cX4_isField 3 (some .boolean), Cond.fieldLink RX4 9 "PaddyTerracesModel" "n" "[I", Cond.methodLink RX4 42 yX4_isIn, Cond.static yX4_isIn, Cond.code yX4_isIn cX4_isIn 3 (some .boolean), Cond.methodLink RX4 46 yX4_fail, Cond.instanceMethod yX4_fail, Cond.selects RX4 yX4_fail yX4_fail, Cond.code yX4_fail cX4_fail 2 (some .int), Cond.methodLink RX4 54 yX4_at, Cond.instanceMethod yX4_at, Cond.selects RX4 yX4_at yX4_at, Cond.code yX4_at cX4_at 3 (some .int), Cond.methodLink RX4 73 yX4_sum, Cond.instanceMethod yX4_sum, Cond.selects RX4 yX4_sum yX4_sum, Cond.code yX4_sum cX4_sum 4 (some .int), Cond.methodLink RX4 69 yX4_many]
def wsX4_plant_r2 : List Cond := [Cond.instanceMethod yX4_many, Cond.selects RX4 yX4_many yX4_many, Cond.code yX4_many cX4_many 1 (some .int)]
def wsX4_plant : List Cond := .code yX4_plant cX4_plant 5 (some .int) :: ((wsX4_plant_r1 ++ wsX4_plant_r2) ++ wsX40)
def wsX4_reap : List Cond := .code yX4_reap cX4_reap 5 (some .int) :: ([.fieldLink RX4 38 "PaddyTerracesModel" "thrown" "I", .fieldLink RX4 16 "PaddyTerracesModel" "fields" "[I", .fieldLink RX4 9 "PaddyTerracesModel" "n" "[I", .methodLink RX4 50 yX4_isField, .instanceMethod yX4_isField, .selects RX4 yX4_isField yX4_isField, .initialized RX4, .code yX4_isField cX4_isField 3 (some .boolean), .methodLink RX4 42 yX4_isIn, .static yX4_isIn, .code yX4_isIn cX4_isIn 3 (some .boolean), .methodLink RX4 46 yX4_fail, .instanceMethod yX4_fail, .selects RX4 yX4_fail yX4_fail, .code yX4_fail cX4_fail 2 (some .int), .methodLink RX4 54 yX4_at, .instanceMethod yX4_at, .selects RX4 yX4_at yX4_at, .code yX4_at cX4_at 3 (some .int), .methodLink RX4 76 yX4_fallow, .instanceMethod yX4_fallow, .selects RX4 yX4_fallow yX4_fallow, .code yX4_fallow cX4_fallow 3 none] ++ wsX40)
def wsX4_come : List Cond := .code yX4_come cX4_come 4 none :: ([.fieldLink RX4 16 "PaddyTerracesModel" "fields" "[I", .fieldLink RX4 9 "PaddyTerracesModel" "n" "[I", .methodLink RX4 50 yX4_isField, .instanceMethod yX4_isField, .selects RX4 yX4_isField yX4_isField, .initialized RX4, .code yX4_isField cX4_isField 3 (some .boolean), .methodLink RX4 42 yX4_isIn, .static yX4_isIn, .code yX4_isIn cX4_isIn 3 (some .boolean), .methodLink RX4 54 yX4_at, .instanceMethod yX4_at, .selects RX4 yX4_at yX4_at, .code yX4_at cX4_at 3 (some .int)] ++ wsX40)
def wsX4_flow_r1 : List Cond := [Cond.fieldLink RX4 16 "PaddyTerracesModel" "fields" "[I", Cond.methodLink RX4 58 Lib.Math.min.name, Cond.static Lib.Math.min.name, Cond.initialized "java/lang/Math", Cond.code Lib.Math.min.name Lib.Math.min.code 2 (some .int), Cond.methodLink RX4 80 Lib.Math.max.name, Cond.static Lib.Math.max.name, Cond.code Lib.Math.max.name Lib.Math.max.code 2 (some .int), Cond.methodLink RX4 54 yX4_at, Cond.instanceMethod yX4_at, Cond.selects RX4 yX4_at yX4_at, Cond.initialized RX4, Cond.code yX4_at cX4_at 3 (some .int), Cond.fieldLink RX4 9 "PaddyTerracesModel" "n" "[I", Cond.methodLink RX4 83 yX4_come, Cond.instanceMethod yX4_come, Cond.selects RX4 yX4_come yX4_come, Cond.code yX4_come cX4_come 4 none, Cond.methodLink RX4 50 yX4_isField, Cond.instanceMethod yX4_isField, Cond.selects RX4 yX4_isField yX4_isField, Cond.code yX4_isField cX4_isField 3 (some .boolean), Cond.methodLink RX4 42 yX4_isIn, Cond.static yX4_isIn]
def wsX4_flow_r2 : List Cond := [Cond.code yX4_isIn cX4_isIn 3 (some .boolean)]
def wsX4_flow : List Cond := .code yX4_flow cX4_flow 6 none :: ((wsX4_flow_r1 ++ wsX4_flow_r2) ++ wsX40)
def wsX4_growRice : List Cond := .code yX4_growRice cX4_growRice 6 none :: ([.fieldLink RX4 16 "PaddyTerracesModel" "fields" "[I", .methodLink RX4 58 Lib.Math.min.name, .static Lib.Math.min.name, .initialized "java/lang/Math", .code Lib.Math.min.name Lib.Math.min.code 2 (some .int), .methodLink RX4 80 Lib.Math.max.name, .static Lib.Math.max.name, .code Lib.Math.max.name Lib.Math.max.code 2 (some .int), .fieldLink RX4 9 "PaddyTerracesModel" "n" "[I", .methodLink RX4 42 yX4_isIn, .static yX4_isIn, .initialized RX4, .code yX4_isIn cX4_isIn 3 (some .boolean), .methodLink RX4 76 yX4_fallow, .instanceMethod yX4_fallow, .selects RX4 yX4_fallow yX4_fallow, .code yX4_fallow cX4_fallow 3 none] ++ wsX40)
def wsX4_dayOn_r1 : List Cond := [Cond.fieldLink RX4 9 "PaddyTerracesModel" "n" "[I", Cond.fieldLink RX4 13 "PaddyTerracesModel" "shares" "[I", Cond.fieldLink RX4 16 "PaddyTerracesModel" "fields" "[I", Cond.fieldLink RX4 19 "PaddyTerracesModel" "weather" "[I", Cond.methodLink RX4 80 Lib.Math.max.name, Cond.static Lib.Math.max.name, Cond.initialized "java/lang/Math", Cond.code Lib.Math.max.name Lib.Math.max.code 2 (some .int), Cond.methodLink RX4 58 Lib.Math.min.name, Cond.static Lib.Math.min.name, Cond.code Lib.Math.min.name Lib.Math.min.code 2 (some .int), Cond.methodLink RX4 69 yX4_many, Cond.instanceMethod yX4_many, Cond.selects RX4 yX4_many yX4_many, Cond.initialized RX4, Cond.code yX4_many cX4_many 1 (some .int), Cond.methodLink RX4 87 yX4_flow, Cond.instanceMethod yX4_flow, Cond.selects RX4 yX4_flow yX4_flow, Cond.code yX4_flow cX4_flow 6 none, Cond.methodLink RX4 54 yX4_at, Cond.instanceMethod yX4_at, Cond.selects RX4 yX4_at yX4_at, Cond.code yX4_at cX4_at 3 (some .int)]
def wsX4_dayOn_r2 : List Cond := [Cond.methodLink RX4 83 yX4_come, Cond.instanceMethod yX4_come, Cond.selects RX4 yX4_come yX4_come, Cond.code yX4_come cX4_come 4 none, Cond.methodLink RX4 50 yX4_isField, Cond.instanceMethod yX4_isField, Cond.selects RX4 yX4_isField yX4_isField, Cond.code yX4_isField cX4_isField 3 (some .boolean), Cond.methodLink RX4 42 yX4_isIn, Cond.static yX4_isIn, Cond.code yX4_isIn cX4_isIn 3 (some .boolean), Cond.methodLink RX4 90 yX4_growRice, Cond.instanceMethod yX4_growRice, Cond.selects RX4 yX4_growRice yX4_growRice, Cond.code yX4_growRice cX4_growRice 6 none, Cond.methodLink RX4 76 yX4_fallow, Cond.instanceMethod yX4_fallow, Cond.selects RX4 yX4_fallow yX4_fallow, Cond.code yX4_fallow cX4_fallow 3 none]
def wsX4_dayOn : List Cond := .code yX4_dayOn cX4_dayOn 6 none :: ((wsX4_dayOn_r1 ++ wsX4_dayOn_r2) ++ wsX40)
def wsX4_pass_r1 : List Cond := [Cond.fieldLink RX4 38 "PaddyTerracesModel" "thrown" "I", Cond.fieldLink RX4 9 "PaddyTerracesModel" "n" "[I", Cond.methodLink RX4 42 yX4_isIn, Cond.static yX4_isIn, Cond.initialized RX4, Cond.code yX4_isIn cX4_isIn 3 (some .boolean), Cond.methodLink RX4 46 yX4_fail, Cond.instanceMethod yX4_fail, Cond.selects RX4 yX4_fail yX4_fail, Cond.code yX4_fail cX4_fail 2 (some .int), Cond.methodLink RX4 93 yX4_dayOn, Cond.instanceMethod yX4_dayOn, Cond.selects RX4 yX4_dayOn yX4_dayOn, Cond.code yX4_dayOn cX4_dayOn 6 none, Cond.fieldLink RX4 13 "PaddyTerracesModel" "shares" "[I", Cond.fieldLink RX4 16 "PaddyTerracesModel" "fields" "[I", Cond.fieldLink RX4 19 "PaddyTerracesModel" "weather" "[I", Cond.methodLink RX4 80 Lib.Math.max.name, Cond.static Lib.Math.max.name, Cond.initialized "java/lang/Math", Cond.code Lib.Math.max.name Lib.Math.max.code 2 (some .int), Cond.methodLink RX4 58 Lib.Math.min.name, Cond.static Lib.Math.min.name, Cond.code Lib.Math.min.name Lib.Math.min.code 2 (some .int)]
def wsX4_pass_r2 : List Cond := [Cond.methodLink RX4 69 yX4_many, Cond.instanceMethod yX4_many, Cond.selects RX4 yX4_many yX4_many, Cond.code yX4_many cX4_many 1 (some .int), Cond.methodLink RX4 87 yX4_flow, Cond.instanceMethod yX4_flow, Cond.selects RX4 yX4_flow yX4_flow, Cond.code yX4_flow cX4_flow 6 none, Cond.methodLink RX4 54 yX4_at, Cond.instanceMethod yX4_at, Cond.selects RX4 yX4_at yX4_at, Cond.code yX4_at cX4_at 3 (some .int), Cond.methodLink RX4 83 yX4_come, Cond.instanceMethod yX4_come, Cond.selects RX4 yX4_come yX4_come, Cond.code yX4_come cX4_come 4 none, Cond.methodLink RX4 50 yX4_isField, Cond.instanceMethod yX4_isField, Cond.selects RX4 yX4_isField yX4_isField, Cond.code yX4_isField cX4_isField 3 (some .boolean), Cond.methodLink RX4 90 yX4_growRice, Cond.instanceMethod yX4_growRice, Cond.selects RX4 yX4_growRice yX4_growRice, Cond.code yX4_growRice cX4_growRice 6 none]
def wsX4_pass_r3 : List Cond := [Cond.methodLink RX4 76 yX4_fallow, Cond.instanceMethod yX4_fallow, Cond.selects RX4 yX4_fallow yX4_fallow, Cond.code yX4_fallow cX4_fallow 3 none, Cond.methodLink RX4 73 yX4_sum, Cond.instanceMethod yX4_sum, Cond.selects RX4 yX4_sum yX4_sum, Cond.code yX4_sum cX4_sum 4 (some .int)]
def wsX4_pass : List Cond := .code yX4_pass cX4_pass 3 (some .int) :: ((wsX4_pass_r1 ++ (wsX4_pass_r2 ++ wsX4_pass_r3)) ++ wsX40)
def wsX4_field : List Cond := .code yX4_field cX4_field 4 (some .int) :: ([.fieldLink RX4 38 "PaddyTerracesModel" "thrown" "I", .fieldLink RX4 16 "PaddyTerracesModel" "fields" "[I", .methodLink RX4 50 yX4_isField, .instanceMethod yX4_isField, .selects RX4 yX4_isField yX4_isField, .initialized RX4, .code yX4_isField cX4_isField 3 (some .boolean), .fieldLink RX4 9 "PaddyTerracesModel" "n" "[I", .methodLink RX4 42 yX4_isIn, .static yX4_isIn, .code yX4_isIn cX4_isIn 3 (some .boolean), .methodLink RX4 54 yX4_at, .instanceMethod yX4_at, .selects RX4 yX4_at yX4_at, .code yX4_at cX4_at 3 (some .int), .methodLink RX4 46 yX4_fail, .instanceMethod yX4_fail, .selects RX4 yX4_fail yX4_fail, .code yX4_fail cX4_fail 2 (some .int)] ++ wsX40)
def wsX4_counted : List Cond := .code yX4_counted cX4_counted 2 (some .int) :: ([.fieldLink RX4 9 "PaddyTerracesModel" "n" "[I", .methodLink RX4 73 yX4_sum, .instanceMethod yX4_sum, .selects RX4 yX4_sum yX4_sum, .initialized RX4, .code yX4_sum cX4_sum 4 (some .int), .fieldLink RX4 16 "PaddyTerracesModel" "fields" "[I", .methodLink RX4 69 yX4_many, .instanceMethod yX4_many, .selects RX4 yX4_many yX4_many, .code yX4_many cX4_many 1 (some .int)] ++ wsX40)
def wsX4_count : List Cond := .code yX4_count cX4_count 2 (some .int) :: ([.fieldLink RX4 38 "PaddyTerracesModel" "thrown" "I", .methodLink RX4 42 yX4_isIn, .static yX4_isIn, .initialized RX4, .code yX4_isIn cX4_isIn 3 (some .boolean), .methodLink RX4 96 yX4_counted, .instanceMethod yX4_counted, .selects RX4 yX4_counted yX4_counted, .code yX4_counted cX4_counted 2 (some .int), .fieldLink RX4 9 "PaddyTerracesModel" "n" "[I", .methodLink RX4 73 yX4_sum, .instanceMethod yX4_sum, .selects RX4 yX4_sum yX4_sum, .code yX4_sum cX4_sum 4 (some .int), .fieldLink RX4 16 "PaddyTerracesModel" "fields" "[I", .methodLink RX4 69 yX4_many, .instanceMethod yX4_many, .selects RX4 yX4_many yX4_many, .code yX4_many cX4_many 1 (some .int), .methodLink RX4 46 yX4_fail, .instanceMethod yX4_fail, .selects RX4 yX4_fail yX4_fail, .code yX4_fail cX4_fail 2 (some .int)] ++ wsX40)
def wsX4_weather : List Cond := .code yX4_weather cX4_weather 3 (some .int) :: ([.fieldLink RX4 38 "PaddyTerracesModel" "thrown" "I", .fieldLink RX4 19 "PaddyTerracesModel" "weather" "[I", .methodLink RX4 42 yX4_isIn, .static yX4_isIn, .initialized RX4, .code yX4_isIn cX4_isIn 3 (some .boolean), .methodLink RX4 46 yX4_fail, .instanceMethod yX4_fail, .selects RX4 yX4_fail yX4_fail, .code yX4_fail cX4_fail 2 (some .int)] ++ wsX40)
def wsX4_keep : List Cond := .code yX4_keep cX4_keep 1 none :: ([.fieldLink RX4 9 "PaddyTerracesModel" "n" "[I", .fieldLink RX4 22 "PaddyTerracesModel" "spareCounts" "[I", .methodLink RX4 32 arraycopyName, .native arraycopyName, .static arraycopyName, .initialized "java/lang/System", .fieldLink RX4 16 "PaddyTerracesModel" "fields" "[I", .fieldLink RX4 25 "PaddyTerracesModel" "spareFields" "[I", .methodLink RX4 69 yX4_many, .instanceMethod yX4_many, .selects RX4 yX4_many yX4_many, .initialized RX4, .code yX4_many cX4_many 1 (some .int)] ++ wsX40)
def wsX4_bringBack : List Cond := .code yX4_bringBack cX4_bringBack 1 none :: ([.fieldLink RX4 22 "PaddyTerracesModel" "spareCounts" "[I", .fieldLink RX4 9 "PaddyTerracesModel" "n" "[I", .methodLink RX4 32 arraycopyName, .native arraycopyName, .static arraycopyName, .initialized "java/lang/System", .fieldLink RX4 25 "PaddyTerracesModel" "spareFields" "[I", .fieldLink RX4 16 "PaddyTerracesModel" "fields" "[I", .methodLink RX4 69 yX4_many, .instanceMethod yX4_many, .selects RX4 yX4_many yX4_many, .initialized RX4, .code yX4_many cX4_many 1 (some .int)] ++ wsX40)
def wsX4_foresee_r1 : List Cond := [Cond.fieldLink RX4 38 "PaddyTerracesModel" "thrown" "I", Cond.fieldLink RX4 9 "PaddyTerracesModel" "n" "[I", Cond.fieldLink RX4 22 "PaddyTerracesModel" "spareCounts" "[I", Cond.methodLink RX4 42 yX4_isIn, Cond.static yX4_isIn, Cond.initialized RX4, Cond.code yX4_isIn cX4_isIn 3 (some .boolean), Cond.methodLink RX4 46 yX4_fail, Cond.instanceMethod yX4_fail, Cond.selects RX4 yX4_fail yX4_fail, Cond.code yX4_fail cX4_fail 2 (some .int), Cond.methodLink RX4 99 yX4_keep, Cond.instanceMethod yX4_keep, Cond.selects RX4 yX4_keep yX4_keep, Cond.code yX4_keep cX4_keep 1 none, Cond.methodLink RX4 32 arraycopyName, Cond.native arraycopyName, Cond.static arraycopyName, Cond.initialized "java/lang/System", Cond.fieldLink RX4 16 "PaddyTerracesModel" "fields" "[I", Cond.fieldLink RX4 25 "PaddyTerracesModel" "spareFields" "[I", Cond.methodLink RX4 69 yX4_many, Cond.instanceMethod yX4_many, Cond.selects RX4 yX4_many yX4_many]
def wsX4_foresee_r2 : List Cond := [Cond.code yX4_many cX4_many 1 (some .int), Cond.methodLink RX4 93 yX4_dayOn, Cond.instanceMethod yX4_dayOn, Cond.selects RX4 yX4_dayOn yX4_dayOn, Cond.code yX4_dayOn cX4_dayOn 6 none, Cond.fieldLink RX4 13 "PaddyTerracesModel" "shares" "[I", Cond.fieldLink RX4 19 "PaddyTerracesModel" "weather" "[I", Cond.methodLink RX4 80 Lib.Math.max.name, Cond.static Lib.Math.max.name, Cond.initialized "java/lang/Math", Cond.code Lib.Math.max.name Lib.Math.max.code 2 (some .int), Cond.methodLink RX4 58 Lib.Math.min.name, Cond.static Lib.Math.min.name, Cond.code Lib.Math.min.name Lib.Math.min.code 2 (some .int), Cond.methodLink RX4 87 yX4_flow, Cond.instanceMethod yX4_flow, Cond.selects RX4 yX4_flow yX4_flow, Cond.code yX4_flow cX4_flow 6 none, Cond.methodLink RX4 54 yX4_at, Cond.instanceMethod yX4_at, Cond.selects RX4 yX4_at yX4_at, Cond.code yX4_at cX4_at 3 (some .int), Cond.methodLink RX4 83 yX4_come, Cond.instanceMethod yX4_come]
def wsX4_foresee_r3 : List Cond := [Cond.selects RX4 yX4_come yX4_come, Cond.code yX4_come cX4_come 4 none, Cond.methodLink RX4 50 yX4_isField, Cond.instanceMethod yX4_isField, Cond.selects RX4 yX4_isField yX4_isField, Cond.code yX4_isField cX4_isField 3 (some .boolean), Cond.methodLink RX4 90 yX4_growRice, Cond.instanceMethod yX4_growRice, Cond.selects RX4 yX4_growRice yX4_growRice, Cond.code yX4_growRice cX4_growRice 6 none, Cond.methodLink RX4 76 yX4_fallow, Cond.instanceMethod yX4_fallow, Cond.selects RX4 yX4_fallow yX4_fallow, Cond.code yX4_fallow cX4_fallow 3 none, Cond.methodLink RX4 73 yX4_sum, Cond.instanceMethod yX4_sum, Cond.selects RX4 yX4_sum yX4_sum, Cond.code yX4_sum cX4_sum 4 (some .int), Cond.methodLink RX4 102 yX4_bringBack, Cond.instanceMethod yX4_bringBack, Cond.selects RX4 yX4_bringBack yX4_bringBack, Cond.code yX4_bringBack cX4_bringBack 1 none]
def wsX4_foresee : List Cond := .code yX4_foresee cX4_foresee 4 (some .int) :: ((wsX4_foresee_r1 ++ (wsX4_foresee_r2 ++ wsX4_foresee_r3)) ++ wsX40)
def wsX4_worth_r1 : List Cond := [Cond.methodLink RX4 93 yX4_dayOn, Cond.instanceMethod yX4_dayOn, Cond.selects RX4 yX4_dayOn yX4_dayOn, Cond.initialized RX4, Cond.code yX4_dayOn cX4_dayOn 6 none, Cond.fieldLink RX4 9 "PaddyTerracesModel" "n" "[I", Cond.fieldLink RX4 13 "PaddyTerracesModel" "shares" "[I", Cond.fieldLink RX4 16 "PaddyTerracesModel" "fields" "[I", Cond.fieldLink RX4 19 "PaddyTerracesModel" "weather" "[I", Cond.methodLink RX4 80 Lib.Math.max.name, Cond.static Lib.Math.max.name, Cond.initialized "java/lang/Math", Cond.code Lib.Math.max.name Lib.Math.max.code 2 (some .int), Cond.methodLink RX4 58 Lib.Math.min.name, Cond.static Lib.Math.min.name, Cond.code Lib.Math.min.name Lib.Math.min.code 2 (some .int), Cond.methodLink RX4 69 yX4_many, Cond.instanceMethod yX4_many, Cond.selects RX4 yX4_many yX4_many, Cond.code yX4_many cX4_many 1 (some .int), Cond.methodLink RX4 87 yX4_flow, Cond.instanceMethod yX4_flow, Cond.selects RX4 yX4_flow yX4_flow, Cond.code yX4_flow cX4_flow 6 none]
def wsX4_worth_r2 : List Cond := [Cond.methodLink RX4 54 yX4_at, Cond.instanceMethod yX4_at, Cond.selects RX4 yX4_at yX4_at, Cond.code yX4_at cX4_at 3 (some .int), Cond.methodLink RX4 83 yX4_come, Cond.instanceMethod yX4_come, Cond.selects RX4 yX4_come yX4_come, Cond.code yX4_come cX4_come 4 none, Cond.methodLink RX4 50 yX4_isField, Cond.instanceMethod yX4_isField, Cond.selects RX4 yX4_isField yX4_isField, Cond.code yX4_isField cX4_isField 3 (some .boolean), Cond.methodLink RX4 42 yX4_isIn, Cond.static yX4_isIn, Cond.code yX4_isIn cX4_isIn 3 (some .boolean), Cond.methodLink RX4 90 yX4_growRice, Cond.instanceMethod yX4_growRice, Cond.selects RX4 yX4_growRice yX4_growRice, Cond.code yX4_growRice cX4_growRice 6 none, Cond.methodLink RX4 76 yX4_fallow, Cond.instanceMethod yX4_fallow, Cond.selects RX4 yX4_fallow yX4_fallow, Cond.code yX4_fallow cX4_fallow 3 none, Cond.methodLink RX4 73 yX4_sum]
def wsX4_worth_r3 : List Cond := [Cond.instanceMethod yX4_sum, Cond.selects RX4 yX4_sum yX4_sum, Cond.code yX4_sum cX4_sum 4 (some .int), Cond.methodLink RX4 102 yX4_bringBack, Cond.instanceMethod yX4_bringBack, Cond.selects RX4 yX4_bringBack yX4_bringBack, Cond.code yX4_bringBack cX4_bringBack 1 none, Cond.fieldLink RX4 22 "PaddyTerracesModel" "spareCounts" "[I", Cond.methodLink RX4 32 arraycopyName, Cond.native arraycopyName, Cond.static arraycopyName, Cond.initialized "java/lang/System", Cond.fieldLink RX4 25 "PaddyTerracesModel" "spareFields" "[I"]
def wsX4_worth : List Cond := .code yX4_worth cX4_worth 3 (some .int) :: ((wsX4_worth_r1 ++ (wsX4_worth_r2 ++ wsX4_worth_r3)) ++ wsX40)
def wsX4_advise_r1 : List Cond := [Cond.fieldLink RX4 38 "PaddyTerracesModel" "thrown" "I", Cond.fieldLink RX4 9 "PaddyTerracesModel" "n" "[I", Cond.fieldLink RX4 16 "PaddyTerracesModel" "fields" "[I", Cond.methodLink RX4 42 yX4_isIn, Cond.static yX4_isIn, Cond.initialized RX4, Cond.code yX4_isIn cX4_isIn 3 (some .boolean), Cond.methodLink RX4 46 yX4_fail, Cond.instanceMethod yX4_fail, Cond.selects RX4 yX4_fail yX4_fail, Cond.code yX4_fail cX4_fail 2 (some .int), Cond.methodLink RX4 99 yX4_keep, Cond.instanceMethod yX4_keep, Cond.selects RX4 yX4_keep yX4_keep, Cond.code yX4_keep cX4_keep 1 none, Cond.fieldLink RX4 22 "PaddyTerracesModel" "spareCounts" "[I", Cond.methodLink RX4 32 arraycopyName, Cond.native arraycopyName, Cond.static arraycopyName, Cond.initialized "java/lang/System", Cond.fieldLink RX4 25 "PaddyTerracesModel" "spareFields" "[I", Cond.methodLink RX4 69 yX4_many, Cond.instanceMethod yX4_many, Cond.selects RX4 yX4_many yX4_many]
def wsX4_advise_r2 : List Cond := [Cond.code yX4_many cX4_many 1 (some .int), Cond.methodLink RX4 105 yX4_worth, Cond.instanceMethod yX4_worth, Cond.selects RX4 yX4_worth yX4_worth, Cond.code yX4_worth cX4_worth 3 (some .int), Cond.methodLink RX4 93 yX4_dayOn, Cond.instanceMethod yX4_dayOn, Cond.selects RX4 yX4_dayOn yX4_dayOn, Cond.code yX4_dayOn cX4_dayOn 6 none, Cond.fieldLink RX4 13 "PaddyTerracesModel" "shares" "[I", Cond.fieldLink RX4 19 "PaddyTerracesModel" "weather" "[I", Cond.methodLink RX4 80 Lib.Math.max.name, Cond.static Lib.Math.max.name, Cond.initialized "java/lang/Math", Cond.code Lib.Math.max.name Lib.Math.max.code 2 (some .int), Cond.methodLink RX4 58 Lib.Math.min.name, Cond.static Lib.Math.min.name, Cond.code Lib.Math.min.name Lib.Math.min.code 2 (some .int), Cond.methodLink RX4 87 yX4_flow, Cond.instanceMethod yX4_flow, Cond.selects RX4 yX4_flow yX4_flow, Cond.code yX4_flow cX4_flow 6 none, Cond.methodLink RX4 54 yX4_at, Cond.instanceMethod yX4_at]
def wsX4_advise_r3 : List Cond := [Cond.selects RX4 yX4_at yX4_at, Cond.code yX4_at cX4_at 3 (some .int), Cond.methodLink RX4 83 yX4_come, Cond.instanceMethod yX4_come, Cond.selects RX4 yX4_come yX4_come, Cond.code yX4_come cX4_come 4 none, Cond.methodLink RX4 50 yX4_isField, Cond.instanceMethod yX4_isField, Cond.selects RX4 yX4_isField yX4_isField, Cond.code yX4_isField cX4_isField 3 (some .boolean), Cond.methodLink RX4 90 yX4_growRice, Cond.instanceMethod yX4_growRice, Cond.selects RX4 yX4_growRice yX4_growRice, Cond.code yX4_growRice cX4_growRice 6 none, Cond.methodLink RX4 76 yX4_fallow, Cond.instanceMethod yX4_fallow, Cond.selects RX4 yX4_fallow yX4_fallow, Cond.code yX4_fallow cX4_fallow 3 none, Cond.methodLink RX4 73 yX4_sum, Cond.instanceMethod yX4_sum, Cond.selects RX4 yX4_sum yX4_sum, Cond.code yX4_sum cX4_sum 4 (some .int), Cond.methodLink RX4 102 yX4_bringBack, Cond.instanceMethod yX4_bringBack]
def wsX4_advise_r4 : List Cond := [Cond.selects RX4 yX4_bringBack yX4_bringBack, Cond.code yX4_bringBack cX4_bringBack 1 none]
def wsX4_advise : List Cond := .code yX4_advise cX4_advise 9 (some .int) :: ((wsX4_advise_r1 ++ (wsX4_advise_r2 ++ (wsX4_advise_r3 ++ wsX4_advise_r4))) ++ wsX40)
def wsX4_depth : List Cond := .code yX4_depth cX4_depth 1 (some .double) :: ([.fieldLink RX4 38 "PaddyTerracesModel" "thrown" "I", .methodLink RX4 73 yX4_sum, .instanceMethod yX4_sum, .selects RX4 yX4_sum yX4_sum, .initialized RX4, .code yX4_sum cX4_sum 4 (some .int), .fieldLink RX4 16 "PaddyTerracesModel" "fields" "[I", .methodLink RX4 69 yX4_many, .instanceMethod yX4_many, .selects RX4 yX4_many yX4_many, .code yX4_many cX4_many 1 (some .int), .fieldLink RX4 9 "PaddyTerracesModel" "n" "[I"] ++ wsX40)
def wsX4_digest : List Cond := .code yX4_digest cX4_digest 4 (some .long) :: ([.fieldLink RX4 38 "PaddyTerracesModel" "thrown" "I", .constantLong RX4 108 (443), .constantLong RX4 110 (31), .fieldLink RX4 9 "PaddyTerracesModel" "n" "[I", .fieldLink RX4 13 "PaddyTerracesModel" "shares" "[I", .fieldLink RX4 16 "PaddyTerracesModel" "fields" "[I", .fieldLink RX4 19 "PaddyTerracesModel" "weather" "[I", .methodLink RX4 96 yX4_counted, .instanceMethod yX4_counted, .selects RX4 yX4_counted yX4_counted, .initialized RX4, .code yX4_counted cX4_counted 2 (some .int), .methodLink RX4 73 yX4_sum, .instanceMethod yX4_sum, .selects RX4 yX4_sum yX4_sum, .code yX4_sum cX4_sum 4 (some .int), .methodLink RX4 69 yX4_many, .instanceMethod yX4_many, .selects RX4 yX4_many yX4_many, .code yX4_many cX4_many 1 (some .int)] ++ wsX40)
def wsJ9_abs_0f7a4 : List Cond := .code yJ9_abs_0f7a4 cJ9_abs_0f7a4 1 (some .int) :: ([])
def wsJ9_max_7cf53 : List Cond := .code yJ9_max_7cf53 cJ9_max_7cf53 2 (some .int) :: ([])
def wsJ9_min_7cf53 : List Cond := .code yJ9_min_7cf53 cJ9_min_7cf53 2 (some .int) :: ([])
def wsL_lay_r1 : List Cond := [Cond.classLink RL 13 "java/lang/IllegalArgumentException", Cond.methodLink RL 7 yX3_lay, Cond.instanceMethod yX3_lay, Cond.selects RX3 yX3_lay yX3_lay, Cond.initialized RX3, Cond.code yX3_lay cX3_lay 3 (some .int), Cond.classLink RX3 39 "java/lang/IllegalArgumentException", Cond.initialized "java/lang/IllegalArgumentException", Cond.fieldLink RX3 21 "PaddyTerraces" "slope" "LPaddyTerraces$Slope;", Cond.fieldLink RX3 49 "PaddyTerraces" "reaped" "I", Cond.fieldLink RX3 53 "PaddyTerraces" "moved" "I", Cond.methodLink RX3 35 yX3_isWithin, Cond.static yX3_isWithin, Cond.code yX3_isWithin cX3_isWithin 3 (some .boolean), Cond.methodLink RX3 46 yX2_startAnew, Cond.instanceMethod yX2_startAnew, Cond.selects RX2 yX2_startAnew yX2_startAnew, Cond.initialized RX2, Cond.code yX2_startAnew cX2_startAnew 4 none, Cond.fieldLink RX2 55 "PaddyTerraces$Slope" "h" "I", Cond.fieldLink RX2 59 "PaddyTerraces$Slope" "w" "I", Cond.fieldLink RX2 62 "PaddyTerraces$Slope" "day" "I", Cond.fieldLink RX2 65 "PaddyTerraces$Slope" "brook" "I", Cond.fieldLink RX2 68 "PaddyTerraces$Slope" "died" "I"]
def wsL_lay_r2 : List Cond := [Cond.fieldLink RX2 9 "PaddyTerraces$Slope" "share" "[I", Cond.fieldLink RX2 15 "PaddyTerraces$Slope" "depth" "[I", Cond.fieldLink RX2 18 "PaddyTerraces$Slope" "bank" "[I", Cond.fieldLink RX2 21 "PaddyTerraces$Slope" "seepage" "[I", Cond.fieldLink RX2 24 "PaddyTerraces$Slope" "stone" "[I", Cond.fieldLink RX2 27 "PaddyTerraces$Slope" "side" "[I", Cond.fieldLink RX2 45 "PaddyTerraces$Slope" "wentOut" "[I", Cond.fieldLink RX2 48 "PaddyTerraces$Slope" "spilled" "[I", Cond.methodLink RX2 71 yJ7_fill_53178, Cond.static yJ7_fill_53178, Cond.initialized RJ7, Cond.code yJ7_fill_53178 cJ7_fill_53178 4 none, Cond.methodLink RX2 77 yX2_clearCrop, Cond.instanceMethod yX2_clearCrop, Cond.selects RX2 yX2_clearCrop yX2_clearCrop, Cond.code yX2_clearCrop cX2_clearCrop 2 none, Cond.fieldLink RX2 30 "PaddyTerraces$Slope" "crop" "[I", Cond.fieldLink RX2 33 "PaddyTerraces$Slope" "age" "[I", Cond.fieldLink RX2 36 "PaddyTerraces$Slope" "hardness" "[I", Cond.fieldLink RX2 39 "PaddyTerraces$Slope" "drowned" "[I", Cond.fieldLink RX2 42 "PaddyTerraces$Slope" "dry" "[I", Cond.methodLink RX3 56 yX2_cells, Cond.instanceMethod yX2_cells, Cond.selects RX2 yX2_cells yX2_cells]
def wsL_lay_r3 : List Cond := [Cond.code yX2_cells cX2_cells 1 (some .int)]
def wsL_lay : List Cond := .codeWith yL_lay cL_lay 5 (some .int) [(0, 10, 13, 13)] :: ((wsL_lay_r1 ++ (wsL_lay_r2 ++ wsL_lay_r3)) ++ wsX30 ++ wsX20 ++ (vx_atS RX3 43 "java/lang/IllegalArgumentException" ["java/lang/RuntimeException", "java/lang/Exception"]).filter goodWord)
def wsL_setField_r1 : List Cond := [Cond.classLink RL 19 "java/lang/IndexOutOfBoundsException", Cond.classLink RL 13 "java/lang/IllegalArgumentException", Cond.methodLink RL 15 yX3_setField, Cond.instanceMethod yX3_setField, Cond.selects RX3 yX3_setField yX3_setField, Cond.initialized RX3, Cond.code yX3_setField cX3_setField 7 (some .int), Cond.classLink RX3 64 "java/lang/IndexOutOfBoundsException", Cond.initialized "java/lang/IndexOutOfBoundsException", Cond.classLink RX3 39 "java/lang/IllegalArgumentException", Cond.initialized "java/lang/IllegalArgumentException", Cond.fieldLink RX3 21 "PaddyTerraces" "slope" "LPaddyTerraces$Slope;", Cond.fieldLink RX3 75 "PaddyTerraces$Slope" "bank" "[I", Cond.fieldLink RX3 79 "PaddyTerraces$Slope" "seepage" "[I", Cond.fieldLink RX3 82 "PaddyTerraces$Slope" "stone" "[I", Cond.methodLink RX3 85 Lib.Math.min.name, Cond.static Lib.Math.min.name, Cond.initialized "java/lang/Math", Cond.code Lib.Math.min.name Lib.Math.min.code 2 (some .int), Cond.methodLink RX3 60 yX2_hasField, Cond.instanceMethod yX2_hasField, Cond.selects RX2 yX2_hasField yX2_hasField, Cond.initialized RX2, Cond.code yX2_hasField cX2_hasField 3 (some .boolean)]
def wsL_setField_r2 : List Cond := [Cond.fieldLink RX2 55 "PaddyTerraces$Slope" "h" "I", Cond.fieldLink RX2 59 "PaddyTerraces$Slope" "w" "I", Cond.methodLink RX3 35 yX3_isWithin, Cond.static yX3_isWithin, Cond.code yX3_isWithin cX3_isWithin 3 (some .boolean), Cond.methodLink RX3 71 yX2_cellOf, Cond.instanceMethod yX2_cellOf, Cond.selects RX2 yX2_cellOf yX2_cellOf, Cond.code yX2_cellOf cX2_cellOf 3 (some .int)]
def wsL_setField : List Cond := .codeWith yL_setField cL_setField 7 (some .int) [(0, 14, 17, 19), (0, 14, 21, 13)] :: ((wsL_setField_r1 ++ wsL_setField_r2) ++ wsX30 ++ wsX20 ++ (vx_atS RX3 68 "java/lang/IndexOutOfBoundsException" ["java/lang/RuntimeException", "java/lang/Exception"]).filter goodWord ++ (vx_atS RX3 43 "java/lang/IllegalArgumentException" ["java/lang/RuntimeException", "java/lang/Exception"]).filter goodWord)
def wsL_moveStone_r1 : List Cond := [Cond.classLink RL 19 "java/lang/IndexOutOfBoundsException", Cond.classLink RL 13 "java/lang/IllegalArgumentException", Cond.methodLink RL 21 yX3_moveStone, Cond.instanceMethod yX3_moveStone, Cond.selects RX3 yX3_moveStone yX3_moveStone, Cond.initialized RX3, Cond.code yX3_moveStone cX3_moveStone 6 (some .int), Cond.classLink RX3 64 "java/lang/IndexOutOfBoundsException", Cond.initialized "java/lang/IndexOutOfBoundsException", Cond.classLink RX3 39 "java/lang/IllegalArgumentException", Cond.initialized "java/lang/IllegalArgumentException", Cond.fieldLink RX3 21 "PaddyTerraces" "slope" "LPaddyTerraces$Slope;", Cond.fieldLink RX3 75 "PaddyTerraces$Slope" "bank" "[I", Cond.fieldLink RX3 82 "PaddyTerraces$Slope" "stone" "[I", Cond.fieldLink RX3 53 "PaddyTerraces" "moved" "I", Cond.methodLink RX3 92 Lib.Math.abs.name, Cond.static Lib.Math.abs.name, Cond.initialized "java/lang/Math", Cond.code Lib.Math.abs.name Lib.Math.abs.code 1 (some .int), Cond.methodLink RX3 60 yX2_hasField, Cond.instanceMethod yX2_hasField, Cond.selects RX2 yX2_hasField yX2_hasField, Cond.initialized RX2, Cond.code yX2_hasField cX2_hasField 3 (some .boolean)]
def wsL_moveStone_r2 : List Cond := [Cond.fieldLink RX2 55 "PaddyTerraces$Slope" "h" "I", Cond.fieldLink RX2 59 "PaddyTerraces$Slope" "w" "I", Cond.methodLink RX3 71 yX2_cellOf, Cond.instanceMethod yX2_cellOf, Cond.selects RX2 yX2_cellOf yX2_cellOf, Cond.code yX2_cellOf cX2_cellOf 3 (some .int), Cond.methodLink RX3 35 yX3_isWithin, Cond.static yX3_isWithin, Cond.code yX3_isWithin cX3_isWithin 3 (some .boolean)]
def wsL_moveStone : List Cond := .codeWith yL_moveStone cL_moveStone 6 (some .int) [(0, 12, 15, 19), (0, 12, 19, 13)] :: ((wsL_moveStone_r1 ++ wsL_moveStone_r2) ++ wsX30 ++ wsX20 ++ (vx_atS RX3 68 "java/lang/IndexOutOfBoundsException" ["java/lang/RuntimeException", "java/lang/Exception"]).filter goodWord ++ (vx_atS RX3 43 "java/lang/IllegalArgumentException" ["java/lang/RuntimeException", "java/lang/Exception"]).filter goodWord)
def wsL_turn_r1 : List Cond := [Cond.classLink RL 19 "java/lang/IndexOutOfBoundsException", Cond.classLink RL 13 "java/lang/IllegalArgumentException", Cond.methodLink RL 25 yX3_turn, Cond.instanceMethod yX3_turn, Cond.selects RX3 yX3_turn yX3_turn, Cond.initialized RX3, Cond.code yX3_turn cX3_turn 6 (some .int), Cond.classLink RX3 64 "java/lang/IndexOutOfBoundsException", Cond.initialized "java/lang/IndexOutOfBoundsException", Cond.classLink RX3 39 "java/lang/IllegalArgumentException", Cond.initialized "java/lang/IllegalArgumentException", Cond.fieldLink RX3 21 "PaddyTerraces" "slope" "LPaddyTerraces$Slope;", Cond.fieldLink RX3 98 "PaddyTerraces$Slope" "side" "[I", Cond.methodLink RX3 60 yX2_hasField, Cond.instanceMethod yX2_hasField, Cond.selects RX2 yX2_hasField yX2_hasField, Cond.initialized RX2, Cond.code yX2_hasField cX2_hasField 3 (some .boolean), Cond.fieldLink RX2 55 "PaddyTerraces$Slope" "h" "I", Cond.fieldLink RX2 59 "PaddyTerraces$Slope" "w" "I", Cond.methodLink RX3 35 yX3_isWithin, Cond.static yX3_isWithin, Cond.code yX3_isWithin cX3_isWithin 3 (some .boolean), Cond.methodLink RX3 71 yX2_cellOf]
def wsL_turn_r2 : List Cond := [Cond.instanceMethod yX2_cellOf, Cond.selects RX2 yX2_cellOf yX2_cellOf, Cond.code yX2_cellOf cX2_cellOf 3 (some .int)]
def wsL_turn : List Cond := .codeWith yL_turn cL_turn 6 (some .int) [(0, 12, 15, 19), (0, 12, 19, 13)] :: ((wsL_turn_r1 ++ wsL_turn_r2) ++ wsX30 ++ wsX20 ++ (vx_atS RX3 68 "java/lang/IndexOutOfBoundsException" ["java/lang/RuntimeException", "java/lang/Exception"]).filter goodWord ++ (vx_atS RX3 43 "java/lang/IllegalArgumentException" ["java/lang/RuntimeException", "java/lang/Exception"]).filter goodWord)
def wsL_setShare : List Cond := .codeWith yL_setShare cL_setShare 5 (some .int) [(0, 10, 13, 19), (0, 10, 17, 13)] :: ([.classLink RL 19 "java/lang/IndexOutOfBoundsException", .classLink RL 13 "java/lang/IllegalArgumentException", .methodLink RL 28 yX3_setShare, .instanceMethod yX3_setShare, .selects RX3 yX3_setShare yX3_setShare, .initialized RX3, .code yX3_setShare cX3_setShare 4 (some .int), .classLink RX3 64 "java/lang/IndexOutOfBoundsException", .initialized "java/lang/IndexOutOfBoundsException", .classLink RX3 39 "java/lang/IllegalArgumentException", .initialized "java/lang/IllegalArgumentException", .fieldLink RX3 21 "PaddyTerraces" "slope" "LPaddyTerraces$Slope;", .fieldLink RX3 105 "PaddyTerraces$Slope" "share" "[I", .methodLink RX3 60 yX2_hasField, .instanceMethod yX2_hasField, .selects RX2 yX2_hasField yX2_hasField, .initialized RX2, .code yX2_hasField cX2_hasField 3 (some .boolean), .fieldLink RX2 55 "PaddyTerraces$Slope" "h" "I", .fieldLink RX2 59 "PaddyTerraces$Slope" "w" "I", .methodLink RX3 35 yX3_isWithin, .static yX3_isWithin, .code yX3_isWithin cX3_isWithin 3 (some .boolean)] ++ wsX30 ++ wsX20 ++ (vx_atS RX3 68 "java/lang/IndexOutOfBoundsException" ["java/lang/RuntimeException", "java/lang/Exception"]).filter goodWord ++ (vx_atS RX3 43 "java/lang/IllegalArgumentException" ["java/lang/RuntimeException", "java/lang/Exception"]).filter goodWord)
def wsL_setDay : List Cond := .codeWith yL_setDay cL_setDay 7 (some .int) [(0, 14, 17, 19), (0, 14, 21, 13)] :: ([.classLink RL 19 "java/lang/IndexOutOfBoundsException", .classLink RL 13 "java/lang/IllegalArgumentException", .methodLink RL 31 yX3_setDay, .instanceMethod yX3_setDay, .selects RX3 yX3_setDay yX3_setDay, .initialized RX3, .code yX3_setDay cX3_setDay 6 (some .int), .classLink RX3 64 "java/lang/IndexOutOfBoundsException", .initialized "java/lang/IndexOutOfBoundsException", .classLink RX3 39 "java/lang/IllegalArgumentException", .initialized "java/lang/IllegalArgumentException", .fieldLink RX3 10 "PaddyTerraces" "calendar" "LPaddyTerraces$Calendar;", .fieldLink RX3 112 "PaddyTerraces$Calendar" "spring" "[I", .fieldLink RX3 115 "PaddyTerraces$Calendar" "rain" "[I", .fieldLink RX3 118 "PaddyTerraces$Calendar" "draught" "[I", .methodLink RX3 35 yX3_isWithin, .static yX3_isWithin, .code yX3_isWithin cX3_isWithin 3 (some .boolean)] ++ wsX30 ++ wsX00 ++ (vx_atS RX3 68 "java/lang/IndexOutOfBoundsException" ["java/lang/RuntimeException", "java/lang/Exception"]).filter goodWord ++ (vx_atS RX3 43 "java/lang/IllegalArgumentException" ["java/lang/RuntimeException", "java/lang/Exception"]).filter goodWord)
def wsL_plant_r1 : List Cond := [Cond.classLink RL 19 "java/lang/IndexOutOfBoundsException", Cond.classLink RL 13 "java/lang/IllegalArgumentException", Cond.classLink RL 37 "java/lang/IllegalStateException", Cond.methodLink RL 34 yX3_plant, Cond.instanceMethod yX3_plant, Cond.selects RX3 yX3_plant yX3_plant, Cond.initialized RX3, Cond.code yX3_plant cX3_plant 5 (some .int), Cond.classLink RX3 64 "java/lang/IndexOutOfBoundsException", Cond.initialized "java/lang/IndexOutOfBoundsException", Cond.classLink RX3 39 "java/lang/IllegalArgumentException", Cond.initialized "java/lang/IllegalArgumentException", Cond.classLink RX3 129 "java/lang/IllegalStateException", Cond.initialized "java/lang/IllegalStateException", Cond.fieldLink RX3 21 "PaddyTerraces" "slope" "LPaddyTerraces$Slope;", Cond.fieldLink RX3 123 "PaddyTerraces$Slope" "crop" "[I", Cond.fieldLink RX3 126 "PaddyTerraces$Slope" "depth" "[I", Cond.fieldLink RX3 134 "PaddyTerraces$Slope" "age" "[I", Cond.methodLink RX3 60 yX2_hasField, Cond.instanceMethod yX2_hasField, Cond.selects RX2 yX2_hasField yX2_hasField, Cond.initialized RX2, Cond.code yX2_hasField cX2_hasField 3 (some .boolean), Cond.fieldLink RX2 55 "PaddyTerraces$Slope" "h" "I"]
def wsL_plant_r2 : List Cond := [Cond.fieldLink RX2 59 "PaddyTerraces$Slope" "w" "I", Cond.methodLink RX3 35 yX3_isWithin, Cond.static yX3_isWithin, Cond.code yX3_isWithin cX3_isWithin 3 (some .boolean), Cond.methodLink RX3 71 yX2_cellOf, Cond.instanceMethod yX2_cellOf, Cond.selects RX2 yX2_cellOf yX2_cellOf, Cond.code yX2_cellOf cX2_cellOf 3 (some .int), Cond.methodLink RX3 137 yX2_crops, Cond.instanceMethod yX2_crops, Cond.selects RX2 yX2_crops yX2_crops, Cond.code yX2_crops cX2_crops 1 (some .int), Cond.fieldLink RX2 30 "PaddyTerraces$Slope" "crop" "[I", Cond.methodLink RX2 91 yX2_sumOf, Cond.instanceMethod yX2_sumOf, Cond.selects RX2 yX2_sumOf yX2_sumOf, Cond.code yX2_sumOf cX2_sumOf 4 (some .int), Cond.methodLink RX2 95 yX2_cells, Cond.instanceMethod yX2_cells, Cond.selects RX2 yX2_cells yX2_cells, Cond.code yX2_cells cX2_cells 1 (some .int)]
def wsL_plant : List Cond := .codeWith yL_plant cL_plant 6 (some .int) [(0, 12, 15, 19), (0, 12, 19, 13), (0, 12, 23, 37)] :: ((wsL_plant_r1 ++ wsL_plant_r2) ++ wsX30 ++ wsX20 ++ (vx_atS RX3 68 "java/lang/IndexOutOfBoundsException" ["java/lang/RuntimeException", "java/lang/Exception"]).filter goodWord ++ (vx_atS RX3 43 "java/lang/IllegalArgumentException" ["java/lang/RuntimeException", "java/lang/Exception"]).filter goodWord ++ (vx_atS RX3 133 "java/lang/IllegalStateException" ["java/lang/RuntimeException", "java/lang/Exception"]).filter goodWord)
def wsL_reap_r1 : List Cond := [Cond.classLink RL 19 "java/lang/IndexOutOfBoundsException", Cond.classLink RL 37 "java/lang/IllegalStateException", Cond.methodLink RL 39 yX3_reap, Cond.instanceMethod yX3_reap, Cond.selects RX3 yX3_reap yX3_reap, Cond.initialized RX3, Cond.code yX3_reap cX3_reap 5 (some .int), Cond.classLink RX3 64 "java/lang/IndexOutOfBoundsException", Cond.initialized "java/lang/IndexOutOfBoundsException", Cond.classLink RX3 129 "java/lang/IllegalStateException", Cond.initialized "java/lang/IllegalStateException", Cond.fieldLink RX3 21 "PaddyTerraces" "slope" "LPaddyTerraces$Slope;", Cond.fieldLink RX3 123 "PaddyTerraces$Slope" "crop" "[I", Cond.fieldLink RX3 134 "PaddyTerraces$Slope" "age" "[I", Cond.fieldLink RX3 142 "PaddyTerraces$Slope" "hardness" "[I", Cond.fieldLink RX3 126 "PaddyTerraces$Slope" "depth" "[I", Cond.fieldLink RX3 49 "PaddyTerraces" "reaped" "I", Cond.methodLink RX3 60 yX2_hasField, Cond.instanceMethod yX2_hasField, Cond.selects RX2 yX2_hasField yX2_hasField, Cond.initialized RX2, Cond.code yX2_hasField cX2_hasField 3 (some .boolean), Cond.fieldLink RX2 55 "PaddyTerraces$Slope" "h" "I", Cond.fieldLink RX2 59 "PaddyTerraces$Slope" "w" "I"]
def wsL_reap_r2 : List Cond := [Cond.methodLink RX3 71 yX2_cellOf, Cond.instanceMethod yX2_cellOf, Cond.selects RX2 yX2_cellOf yX2_cellOf, Cond.code yX2_cellOf cX2_cellOf 3 (some .int), Cond.methodLink RX3 145 yX2_clearCrop, Cond.instanceMethod yX2_clearCrop, Cond.selects RX2 yX2_clearCrop yX2_clearCrop, Cond.code yX2_clearCrop cX2_clearCrop 2 none, Cond.fieldLink RX2 30 "PaddyTerraces$Slope" "crop" "[I", Cond.fieldLink RX2 33 "PaddyTerraces$Slope" "age" "[I", Cond.fieldLink RX2 36 "PaddyTerraces$Slope" "hardness" "[I", Cond.fieldLink RX2 39 "PaddyTerraces$Slope" "drowned" "[I", Cond.fieldLink RX2 42 "PaddyTerraces$Slope" "dry" "[I"]
def wsL_reap : List Cond := .codeWith yL_reap cL_reap 5 (some .int) [(0, 10, 13, 19), (0, 10, 17, 37)] :: ((wsL_reap_r1 ++ wsL_reap_r2) ++ wsX30 ++ wsX20 ++ (vx_atS RX3 68 "java/lang/IndexOutOfBoundsException" ["java/lang/RuntimeException", "java/lang/Exception"]).filter goodWord ++ (vx_atS RX3 133 "java/lang/IllegalStateException" ["java/lang/RuntimeException", "java/lang/Exception"]).filter goodWord)
def wsL_pass_r1 : List Cond := [Cond.classLink RL 13 "java/lang/IllegalArgumentException", Cond.classLink RL 37 "java/lang/IllegalStateException", Cond.methodLink RL 42 yX3_pass, Cond.instanceMethod yX3_pass, Cond.selects RX3 yX3_pass yX3_pass, Cond.initialized RX3, Cond.code yX3_pass cX3_pass 2 (some .int), Cond.classLink RX3 39 "java/lang/IllegalArgumentException", Cond.initialized "java/lang/IllegalArgumentException", Cond.classLink RX3 129 "java/lang/IllegalStateException", Cond.initialized "java/lang/IllegalStateException", Cond.fieldLink RX3 21 "PaddyTerraces" "slope" "LPaddyTerraces$Slope;", Cond.fieldLink RX3 151 "PaddyTerraces$Slope" "day" "I", Cond.fieldLink RX3 10 "PaddyTerraces" "calendar" "LPaddyTerraces$Calendar;", Cond.methodLink RX3 35 yX3_isWithin, Cond.static yX3_isWithin, Cond.code yX3_isWithin cX3_isWithin 3 (some .boolean), Cond.methodLink RX3 156 yX2_letDaysGoBy, Cond.instanceMethod yX2_letDaysGoBy, Cond.selects RX2 yX2_letDaysGoBy yX2_letDaysGoBy, Cond.initialized RX2, Cond.code yX2_letDaysGoBy cX2_letDaysGoBy 5 none, Cond.fieldLink RX2 62 "PaddyTerraces$Slope" "day" "I", Cond.fieldLink RX2 99 "PaddyTerraces$Calendar" "rain" "[I"]
def wsL_pass_r2 : List Cond := [Cond.fieldLink RX2 107 "PaddyTerraces$Calendar" "spring" "[I", Cond.fieldLink RX2 116 "PaddyTerraces$Calendar" "draught" "[I", Cond.methodLink RX2 104 yX2_takeRain, Cond.instanceMethod yX2_takeRain, Cond.selects RX2 yX2_takeRain yX2_takeRain, Cond.code yX2_takeRain cX2_takeRain 3 none, Cond.fieldLink RX2 15 "PaddyTerraces$Slope" "depth" "[I", Cond.methodLink RX2 95 yX2_cells, Cond.instanceMethod yX2_cells, Cond.selects RX2 yX2_cells yX2_cells, Cond.code yX2_cells cX2_cells 1 (some .int), Cond.fieldLink RX2 55 "PaddyTerraces$Slope" "h" "I", Cond.fieldLink RX2 59 "PaddyTerraces$Slope" "w" "I", Cond.methodLink RX2 110 yX2_takeSpring, Cond.instanceMethod yX2_takeSpring, Cond.selects RX2 yX2_takeSpring yX2_takeSpring, Cond.code yX2_takeSpring cX2_takeSpring 4 none, Cond.fieldLink RX2 9 "PaddyTerraces$Slope" "share" "[I", Cond.methodLink RX2 113 yX2_letWaterFlow, Cond.instanceMethod yX2_letWaterFlow, Cond.selects RX2 yX2_letWaterFlow yX2_letWaterFlow, Cond.code yX2_letWaterFlow cX2_letWaterFlow 3 none, Cond.methodLink RX2 125 yX2_letFieldFlow, Cond.instanceMethod yX2_letFieldFlow]
def wsL_pass_r3 : List Cond := [Cond.selects RX2 yX2_letFieldFlow yX2_letFieldFlow, Cond.code yX2_letFieldFlow cX2_letFieldFlow 6 none, Cond.fieldLink RX2 24 "PaddyTerraces$Slope" "stone" "[I", Cond.methodLink RX2 132 Lib.Math.max.name, Cond.static Lib.Math.max.name, Cond.initialized "java/lang/Math", Cond.code Lib.Math.max.name Lib.Math.max.code 2 (some .int), Cond.methodLink RX2 137 Lib.Math.min.name, Cond.static Lib.Math.min.name, Cond.code Lib.Math.min.name Lib.Math.min.code 2 (some .int), Cond.fieldLink RX2 45 "PaddyTerraces$Slope" "wentOut" "[I", Cond.fieldLink RX2 27 "PaddyTerraces$Slope" "side" "[I", Cond.fieldLink RX2 18 "PaddyTerraces$Slope" "bank" "[I", Cond.fieldLink RX2 48 "PaddyTerraces$Slope" "spilled" "[I", Cond.methodLink RX2 128 yX2_cellOf, Cond.instanceMethod yX2_cellOf, Cond.selects RX2 yX2_cellOf yX2_cellOf, Cond.code yX2_cellOf cX2_cellOf 3 (some .int), Cond.methodLink RX2 140 yX2_bringWater, Cond.instanceMethod yX2_bringWater, Cond.selects RX2 yX2_bringWater yX2_bringWater, Cond.code yX2_bringWater cX2_bringWater 4 none, Cond.fieldLink RX2 65 "PaddyTerraces$Slope" "brook" "I", Cond.methodLink RX2 144 yX2_hasField]
def wsL_pass_r4 : List Cond := [Cond.instanceMethod yX2_hasField, Cond.selects RX2 yX2_hasField yX2_hasField, Cond.code yX2_hasField cX2_hasField 3 (some .boolean), Cond.methodLink RX2 119 yX2_loseWater, Cond.instanceMethod yX2_loseWater, Cond.selects RX2 yX2_loseWater yX2_loseWater, Cond.code yX2_loseWater cX2_loseWater 4 none, Cond.fieldLink RX2 21 "PaddyTerraces$Slope" "seepage" "[I", Cond.methodLink RX2 122 yX2_growRice, Cond.instanceMethod yX2_growRice, Cond.selects RX2 yX2_growRice yX2_growRice, Cond.code yX2_growRice cX2_growRice 2 none, Cond.fieldLink RX2 30 "PaddyTerraces$Slope" "crop" "[I", Cond.methodLink RX2 148 yX2_growCrop, Cond.instanceMethod yX2_growCrop, Cond.selects RX2 yX2_growCrop yX2_growCrop, Cond.code yX2_growCrop cX2_growCrop 4 none, Cond.fieldLink RX2 33 "PaddyTerraces$Slope" "age" "[I", Cond.fieldLink RX2 39 "PaddyTerraces$Slope" "drowned" "[I", Cond.fieldLink RX2 42 "PaddyTerraces$Slope" "dry" "[I", Cond.fieldLink RX2 68 "PaddyTerraces$Slope" "died" "I", Cond.fieldLink RX2 36 "PaddyTerraces$Slope" "hardness" "[I", Cond.methodLink RX2 77 yX2_clearCrop, Cond.instanceMethod yX2_clearCrop]
def wsL_pass_r5 : List Cond := [Cond.selects RX2 yX2_clearCrop yX2_clearCrop, Cond.code yX2_clearCrop cX2_clearCrop 2 none, Cond.methodLink RX2 151 yX2_hardening, Cond.instanceMethod yX2_hardening, Cond.selects RX2 yX2_hardening yX2_hardening, Cond.code yX2_hardening cX2_hardening 2 (some .int), Cond.methodLink RX3 137 yX2_crops, Cond.instanceMethod yX2_crops, Cond.selects RX2 yX2_crops yX2_crops, Cond.code yX2_crops cX2_crops 1 (some .int), Cond.methodLink RX2 91 yX2_sumOf, Cond.instanceMethod yX2_sumOf, Cond.selects RX2 yX2_sumOf yX2_sumOf, Cond.code yX2_sumOf cX2_sumOf 4 (some .int)]
def wsL_pass : List Cond := .codeWith yL_pass cL_pass 4 (some .int) [(0, 9, 12, 13), (0, 9, 15, 37)] :: ((wsL_pass_r1 ++ (wsL_pass_r2 ++ (wsL_pass_r3 ++ (wsL_pass_r4 ++ wsL_pass_r5)))) ++ wsX30 ++ wsX20 ++ wsX00 ++ (vx_atS RX3 43 "java/lang/IllegalArgumentException" ["java/lang/RuntimeException", "java/lang/Exception"]).filter goodWord ++ (vx_atS RX3 133 "java/lang/IllegalStateException" ["java/lang/RuntimeException", "java/lang/Exception"]).filter goodWord)
def wsL_field_r1 : List Cond := [Cond.classLink RL 19 "java/lang/IndexOutOfBoundsException", Cond.methodLink RL 46 yX3_field, Cond.instanceMethod yX3_field, Cond.selects RX3 yX3_field yX3_field, Cond.initialized RX3, Cond.code yX3_field cX3_field 4 (some .int), Cond.classLink RX3 64 "java/lang/IndexOutOfBoundsException", Cond.initialized "java/lang/IndexOutOfBoundsException", Cond.fieldLink RX3 21 "PaddyTerraces" "slope" "LPaddyTerraces$Slope;", Cond.methodLink RX3 60 yX2_hasField, Cond.instanceMethod yX2_hasField, Cond.selects RX2 yX2_hasField yX2_hasField, Cond.initialized RX2, Cond.code yX2_hasField cX2_hasField 3 (some .boolean), Cond.fieldLink RX2 55 "PaddyTerraces$Slope" "h" "I", Cond.fieldLink RX2 59 "PaddyTerraces$Slope" "w" "I", Cond.methodLink RX3 35 yX3_isWithin, Cond.static yX3_isWithin, Cond.code yX3_isWithin cX3_isWithin 3 (some .boolean), Cond.methodLink RX3 71 yX2_cellOf, Cond.instanceMethod yX2_cellOf, Cond.selects RX2 yX2_cellOf yX2_cellOf, Cond.code yX2_cellOf cX2_cellOf 3 (some .int), Cond.methodLink RX3 162 yX2_fieldNumber]
def wsL_field_r2 : List Cond := [Cond.instanceMethod yX2_fieldNumber, Cond.selects RX2 yX2_fieldNumber yX2_fieldNumber, Cond.code yX2_fieldNumber cX2_fieldNumber 3 (some .int), Cond.fieldLink RX2 15 "PaddyTerraces$Slope" "depth" "[I", Cond.fieldLink RX2 18 "PaddyTerraces$Slope" "bank" "[I", Cond.fieldLink RX2 21 "PaddyTerraces$Slope" "seepage" "[I", Cond.fieldLink RX2 24 "PaddyTerraces$Slope" "stone" "[I", Cond.fieldLink RX2 27 "PaddyTerraces$Slope" "side" "[I", Cond.fieldLink RX2 30 "PaddyTerraces$Slope" "crop" "[I", Cond.fieldLink RX2 33 "PaddyTerraces$Slope" "age" "[I", Cond.fieldLink RX2 36 "PaddyTerraces$Slope" "hardness" "[I", Cond.fieldLink RX2 39 "PaddyTerraces$Slope" "drowned" "[I", Cond.fieldLink RX2 42 "PaddyTerraces$Slope" "dry" "[I", Cond.fieldLink RX2 45 "PaddyTerraces$Slope" "wentOut" "[I", Cond.fieldLink RX2 48 "PaddyTerraces$Slope" "spilled" "[I"]
def wsL_field : List Cond := .codeWith yL_field cL_field 6 (some .int) [(0, 12, 15, 19)] :: ((wsL_field_r1 ++ wsL_field_r2) ++ wsX30 ++ wsX20 ++ (vx_atS RX3 68 "java/lang/IndexOutOfBoundsException" ["java/lang/RuntimeException", "java/lang/Exception"]).filter goodWord)
def wsL_count_r1 : List Cond := [Cond.classLink RL 19 "java/lang/IndexOutOfBoundsException", Cond.methodLink RL 49 yX3_count, Cond.instanceMethod yX3_count, Cond.selects RX3 yX3_count yX3_count, Cond.initialized RX3, Cond.code yX3_count cX3_count 2 (some .int), Cond.classLink RX3 64 "java/lang/IndexOutOfBoundsException", Cond.initialized "java/lang/IndexOutOfBoundsException", Cond.methodLink RX3 35 yX3_isWithin, Cond.static yX3_isWithin, Cond.code yX3_isWithin cX3_isWithin 3 (some .boolean), Cond.methodLink RX3 167 yX3_countNumber, Cond.instanceMethod yX3_countNumber, Cond.selects RX3 yX3_countNumber yX3_countNumber, Cond.code yX3_countNumber cX3_countNumber 2 (some .int), Cond.fieldLink RX3 21 "PaddyTerraces" "slope" "LPaddyTerraces$Slope;", Cond.fieldLink RX3 206 "PaddyTerraces$Slope" "h" "I", Cond.fieldLink RX3 203 "PaddyTerraces$Slope" "w" "I", Cond.fieldLink RX3 151 "PaddyTerraces$Slope" "day" "I", Cond.fieldLink RX3 209 "PaddyTerraces$Slope" "brook" "I", Cond.fieldLink RX3 49 "PaddyTerraces" "reaped" "I", Cond.fieldLink RX3 212 "PaddyTerraces$Slope" "died" "I", Cond.fieldLink RX3 53 "PaddyTerraces" "moved" "I", Cond.methodLink RX3 137 yX2_crops]
def wsL_count_r2 : List Cond := [Cond.instanceMethod yX2_crops, Cond.selects RX2 yX2_crops yX2_crops, Cond.initialized RX2, Cond.code yX2_crops cX2_crops 1 (some .int), Cond.fieldLink RX2 30 "PaddyTerraces$Slope" "crop" "[I", Cond.methodLink RX2 91 yX2_sumOf, Cond.instanceMethod yX2_sumOf, Cond.selects RX2 yX2_sumOf yX2_sumOf, Cond.code yX2_sumOf cX2_sumOf 4 (some .int), Cond.methodLink RX2 95 yX2_cells, Cond.instanceMethod yX2_cells, Cond.selects RX2 yX2_cells yX2_cells, Cond.code yX2_cells cX2_cells 1 (some .int), Cond.fieldLink RX2 55 "PaddyTerraces$Slope" "h" "I", Cond.fieldLink RX2 59 "PaddyTerraces$Slope" "w" "I", Cond.methodLink RX3 196 yX2_allDepths, Cond.instanceMethod yX2_allDepths, Cond.selects RX2 yX2_allDepths yX2_allDepths, Cond.code yX2_allDepths cX2_allDepths 1 (some .int), Cond.fieldLink RX2 15 "PaddyTerraces$Slope" "depth" "[I"]
def wsL_count : List Cond := .codeWith yL_count cL_count 4 (some .int) [(0, 9, 12, 19)] :: ((wsL_count_r1 ++ wsL_count_r2) ++ wsX30 ++ wsX20 ++ (vx_atS RX3 68 "java/lang/IndexOutOfBoundsException" ["java/lang/RuntimeException", "java/lang/Exception"]).filter goodWord)
def wsL_weather : List Cond := .codeWith yL_weather cL_weather 5 (some .int) [(0, 10, 13, 19)] :: ([.classLink RL 19 "java/lang/IndexOutOfBoundsException", .methodLink RL 52 yX3_weather, .instanceMethod yX3_weather, .selects RX3 yX3_weather yX3_weather, .initialized RX3, .code yX3_weather cX3_weather 3 (some .int), .classLink RX3 64 "java/lang/IndexOutOfBoundsException", .initialized "java/lang/IndexOutOfBoundsException", .fieldLink RX3 10 "PaddyTerraces" "calendar" "LPaddyTerraces$Calendar;", .methodLink RX3 35 yX3_isWithin, .static yX3_isWithin, .code yX3_isWithin cX3_isWithin 3 (some .boolean), .methodLink RX3 172 yX0_dayNumber, .instanceMethod yX0_dayNumber, .selects RX0 yX0_dayNumber yX0_dayNumber, .initialized RX0, .code yX0_dayNumber cX0_dayNumber 3 (some .int), .fieldLink RX0 9 "PaddyTerraces$Calendar" "rain" "[I", .fieldLink RX0 15 "PaddyTerraces$Calendar" "spring" "[I", .fieldLink RX0 18 "PaddyTerraces$Calendar" "draught" "[I"] ++ wsX30 ++ wsX00 ++ (vx_atS RX3 68 "java/lang/IndexOutOfBoundsException" ["java/lang/RuntimeException", "java/lang/Exception"]).filter goodWord)
def wsL_foresee_r1 : List Cond := [Cond.classLink RL 13 "java/lang/IllegalArgumentException", Cond.classLink RL 19 "java/lang/IndexOutOfBoundsException", Cond.classLink RL 37 "java/lang/IllegalStateException", Cond.methodLink RL 55 yX3_foresee, Cond.instanceMethod yX3_foresee, Cond.selects RX3 yX3_foresee yX3_foresee, Cond.initialized RX3, Cond.code yX3_foresee cX3_foresee 3 (some .int), Cond.classLink RX3 39 "java/lang/IllegalArgumentException", Cond.initialized "java/lang/IllegalArgumentException", Cond.classLink RX3 64 "java/lang/IndexOutOfBoundsException", Cond.initialized "java/lang/IndexOutOfBoundsException", Cond.classLink RX3 129 "java/lang/IllegalStateException", Cond.initialized "java/lang/IllegalStateException", Cond.fieldLink RX3 21 "PaddyTerraces" "slope" "LPaddyTerraces$Slope;", Cond.fieldLink RX3 151 "PaddyTerraces$Slope" "day" "I", Cond.fieldLink RX3 25 "PaddyTerraces" "trial" "LPaddyTerraces$Slope;", Cond.fieldLink RX3 10 "PaddyTerraces" "calendar" "LPaddyTerraces$Calendar;", Cond.methodLink RX3 35 yX3_isWithin, Cond.static yX3_isWithin, Cond.code yX3_isWithin cX3_isWithin 3 (some .boolean), Cond.methodLink RX3 179 yX2_copyFrom, Cond.instanceMethod yX2_copyFrom, Cond.selects RX2 yX2_copyFrom yX2_copyFrom]
def wsL_foresee_r2 : List Cond := [Cond.initialized RX2, Cond.code yX2_copyFrom cX2_copyFrom 2 none, Cond.fieldLink RX2 55 "PaddyTerraces$Slope" "h" "I", Cond.fieldLink RX2 59 "PaddyTerraces$Slope" "w" "I", Cond.fieldLink RX2 62 "PaddyTerraces$Slope" "day" "I", Cond.fieldLink RX2 65 "PaddyTerraces$Slope" "brook" "I", Cond.fieldLink RX2 68 "PaddyTerraces$Slope" "died" "I", Cond.fieldLink RX2 9 "PaddyTerraces$Slope" "share" "[I", Cond.methodLink RX2 81 arraycopyName, Cond.native arraycopyName, Cond.static arraycopyName, Cond.initialized "java/lang/System", Cond.fieldLink RX2 15 "PaddyTerraces$Slope" "depth" "[I", Cond.fieldLink RX2 18 "PaddyTerraces$Slope" "bank" "[I", Cond.fieldLink RX2 21 "PaddyTerraces$Slope" "seepage" "[I", Cond.fieldLink RX2 24 "PaddyTerraces$Slope" "stone" "[I", Cond.fieldLink RX2 27 "PaddyTerraces$Slope" "side" "[I", Cond.fieldLink RX2 30 "PaddyTerraces$Slope" "crop" "[I", Cond.fieldLink RX2 33 "PaddyTerraces$Slope" "age" "[I", Cond.fieldLink RX2 36 "PaddyTerraces$Slope" "hardness" "[I", Cond.fieldLink RX2 39 "PaddyTerraces$Slope" "drowned" "[I", Cond.fieldLink RX2 42 "PaddyTerraces$Slope" "dry" "[I", Cond.fieldLink RX2 45 "PaddyTerraces$Slope" "wentOut" "[I", Cond.fieldLink RX2 48 "PaddyTerraces$Slope" "spilled" "[I"]
def wsL_foresee_r3 : List Cond := [Cond.methodLink RX2 87 yX2_copyRow, Cond.static yX2_copyRow, Cond.code yX2_copyRow cX2_copyRow 2 none, Cond.methodLink RX3 156 yX2_letDaysGoBy, Cond.instanceMethod yX2_letDaysGoBy, Cond.selects RX2 yX2_letDaysGoBy yX2_letDaysGoBy, Cond.code yX2_letDaysGoBy cX2_letDaysGoBy 5 none, Cond.fieldLink RX2 99 "PaddyTerraces$Calendar" "rain" "[I", Cond.fieldLink RX2 107 "PaddyTerraces$Calendar" "spring" "[I", Cond.fieldLink RX2 116 "PaddyTerraces$Calendar" "draught" "[I", Cond.methodLink RX2 104 yX2_takeRain, Cond.instanceMethod yX2_takeRain, Cond.selects RX2 yX2_takeRain yX2_takeRain, Cond.code yX2_takeRain cX2_takeRain 3 none, Cond.methodLink RX2 95 yX2_cells, Cond.instanceMethod yX2_cells, Cond.selects RX2 yX2_cells yX2_cells, Cond.code yX2_cells cX2_cells 1 (some .int), Cond.methodLink RX2 110 yX2_takeSpring, Cond.instanceMethod yX2_takeSpring, Cond.selects RX2 yX2_takeSpring yX2_takeSpring, Cond.code yX2_takeSpring cX2_takeSpring 4 none, Cond.methodLink RX2 113 yX2_letWaterFlow, Cond.instanceMethod yX2_letWaterFlow]
def wsL_foresee_r4 : List Cond := [Cond.selects RX2 yX2_letWaterFlow yX2_letWaterFlow, Cond.code yX2_letWaterFlow cX2_letWaterFlow 3 none, Cond.methodLink RX2 125 yX2_letFieldFlow, Cond.instanceMethod yX2_letFieldFlow, Cond.selects RX2 yX2_letFieldFlow yX2_letFieldFlow, Cond.code yX2_letFieldFlow cX2_letFieldFlow 6 none, Cond.methodLink RX2 132 Lib.Math.max.name, Cond.static Lib.Math.max.name, Cond.initialized "java/lang/Math", Cond.code Lib.Math.max.name Lib.Math.max.code 2 (some .int), Cond.methodLink RX2 137 Lib.Math.min.name, Cond.static Lib.Math.min.name, Cond.code Lib.Math.min.name Lib.Math.min.code 2 (some .int), Cond.methodLink RX2 128 yX2_cellOf, Cond.instanceMethod yX2_cellOf, Cond.selects RX2 yX2_cellOf yX2_cellOf, Cond.code yX2_cellOf cX2_cellOf 3 (some .int), Cond.methodLink RX2 140 yX2_bringWater, Cond.instanceMethod yX2_bringWater, Cond.selects RX2 yX2_bringWater yX2_bringWater, Cond.code yX2_bringWater cX2_bringWater 4 none, Cond.methodLink RX2 144 yX2_hasField, Cond.instanceMethod yX2_hasField, Cond.selects RX2 yX2_hasField yX2_hasField]
def wsL_foresee_r5 : List Cond := [Cond.code yX2_hasField cX2_hasField 3 (some .boolean), Cond.methodLink RX2 119 yX2_loseWater, Cond.instanceMethod yX2_loseWater, Cond.selects RX2 yX2_loseWater yX2_loseWater, Cond.code yX2_loseWater cX2_loseWater 4 none, Cond.methodLink RX2 122 yX2_growRice, Cond.instanceMethod yX2_growRice, Cond.selects RX2 yX2_growRice yX2_growRice, Cond.code yX2_growRice cX2_growRice 2 none, Cond.methodLink RX2 148 yX2_growCrop, Cond.instanceMethod yX2_growCrop, Cond.selects RX2 yX2_growCrop yX2_growCrop, Cond.code yX2_growCrop cX2_growCrop 4 none, Cond.methodLink RX2 77 yX2_clearCrop, Cond.instanceMethod yX2_clearCrop, Cond.selects RX2 yX2_clearCrop yX2_clearCrop, Cond.code yX2_clearCrop cX2_clearCrop 2 none, Cond.methodLink RX2 151 yX2_hardening, Cond.instanceMethod yX2_hardening, Cond.selects RX2 yX2_hardening yX2_hardening, Cond.code yX2_hardening cX2_hardening 2 (some .int), Cond.methodLink RX3 183 yX3_foreseenNumber, Cond.instanceMethod yX3_foreseenNumber, Cond.selects RX3 yX3_foreseenNumber yX3_foreseenNumber]
def wsL_foresee_r6 : List Cond := [Cond.code yX3_foreseenNumber cX3_foreseenNumber 2 (some .int), Cond.fieldLink RX3 209 "PaddyTerraces$Slope" "brook" "I", Cond.methodLink RX3 137 yX2_crops, Cond.instanceMethod yX2_crops, Cond.selects RX2 yX2_crops yX2_crops, Cond.code yX2_crops cX2_crops 1 (some .int), Cond.methodLink RX2 91 yX2_sumOf, Cond.instanceMethod yX2_sumOf, Cond.selects RX2 yX2_sumOf yX2_sumOf, Cond.code yX2_sumOf cX2_sumOf 4 (some .int), Cond.methodLink RX3 215 yX2_allHardness, Cond.instanceMethod yX2_allHardness, Cond.selects RX2 yX2_allHardness yX2_allHardness, Cond.code yX2_allHardness cX2_allHardness 1 (some .int), Cond.methodLink RX3 196 yX2_allDepths, Cond.instanceMethod yX2_allDepths, Cond.selects RX2 yX2_allDepths yX2_allDepths, Cond.code yX2_allDepths cX2_allDepths 1 (some .int)]
def wsL_foresee : List Cond := .codeWith yL_foresee cL_foresee 5 (some .int) [(0, 10, 13, 13), (0, 10, 17, 19), (0, 10, 21, 37)] :: ((wsL_foresee_r1 ++ (wsL_foresee_r2 ++ (wsL_foresee_r3 ++ (wsL_foresee_r4 ++ (wsL_foresee_r5 ++ wsL_foresee_r6))))) ++ wsX30 ++ wsX20 ++ wsX00 ++ (vx_atS RX3 43 "java/lang/IllegalArgumentException" ["java/lang/RuntimeException", "java/lang/Exception"]).filter goodWord ++ (vx_atS RX3 68 "java/lang/IndexOutOfBoundsException" ["java/lang/RuntimeException", "java/lang/Exception"]).filter goodWord ++ (vx_atS RX3 133 "java/lang/IllegalStateException" ["java/lang/RuntimeException", "java/lang/Exception"]).filter goodWord)
def wsL_advise_r1 : List Cond := [Cond.classLink RL 13 "java/lang/IllegalArgumentException", Cond.classLink RL 19 "java/lang/IndexOutOfBoundsException", Cond.classLink RL 37 "java/lang/IllegalStateException", Cond.methodLink RL 58 yX3_advise, Cond.instanceMethod yX3_advise, Cond.selects RX3 yX3_advise yX3_advise, Cond.initialized RX3, Cond.code yX3_advise cX3_advise 3 (some .int), Cond.classLink RX3 39 "java/lang/IllegalArgumentException", Cond.initialized "java/lang/IllegalArgumentException", Cond.classLink RX3 64 "java/lang/IndexOutOfBoundsException", Cond.initialized "java/lang/IndexOutOfBoundsException", Cond.classLink RX3 129 "java/lang/IllegalStateException", Cond.initialized "java/lang/IllegalStateException", Cond.fieldLink RX3 21 "PaddyTerraces" "slope" "LPaddyTerraces$Slope;", Cond.fieldLink RX3 151 "PaddyTerraces$Slope" "day" "I", Cond.fieldLink RX3 31 "PaddyTerraces" "best" "LPaddyTerraces$Move;", Cond.methodLink RX3 35 yX3_isWithin, Cond.static yX3_isWithin, Cond.code yX3_isWithin cX3_isWithin 3 (some .boolean), Cond.methodLink RX3 190 yX3_findBestMove, Cond.instanceMethod yX3_findBestMove, Cond.selects RX3 yX3_findBestMove yX3_findBestMove, Cond.code yX3_findBestMove cX3_findBestMove 6 none]
def wsL_advise_r2 : List Cond := [Cond.fieldLink RX3 25 "PaddyTerraces" "trial" "LPaddyTerraces$Slope;", Cond.fieldLink RX3 10 "PaddyTerraces" "calendar" "LPaddyTerraces$Calendar;", Cond.fieldLink RX3 206 "PaddyTerraces$Slope" "h" "I", Cond.fieldLink RX3 203 "PaddyTerraces$Slope" "w" "I", Cond.fieldLink RX3 75 "PaddyTerraces$Slope" "bank" "[I", Cond.fieldLink RX3 82 "PaddyTerraces$Slope" "stone" "[I", Cond.methodLink RX3 179 yX2_copyFrom, Cond.instanceMethod yX2_copyFrom, Cond.selects RX2 yX2_copyFrom yX2_copyFrom, Cond.initialized RX2, Cond.code yX2_copyFrom cX2_copyFrom 2 none, Cond.fieldLink RX2 55 "PaddyTerraces$Slope" "h" "I", Cond.fieldLink RX2 59 "PaddyTerraces$Slope" "w" "I", Cond.fieldLink RX2 62 "PaddyTerraces$Slope" "day" "I", Cond.fieldLink RX2 65 "PaddyTerraces$Slope" "brook" "I", Cond.fieldLink RX2 68 "PaddyTerraces$Slope" "died" "I", Cond.fieldLink RX2 9 "PaddyTerraces$Slope" "share" "[I", Cond.methodLink RX2 81 arraycopyName, Cond.native arraycopyName, Cond.static arraycopyName, Cond.initialized "java/lang/System", Cond.fieldLink RX2 15 "PaddyTerraces$Slope" "depth" "[I", Cond.fieldLink RX2 18 "PaddyTerraces$Slope" "bank" "[I", Cond.fieldLink RX2 21 "PaddyTerraces$Slope" "seepage" "[I"]
def wsL_advise_r3 : List Cond := [Cond.fieldLink RX2 24 "PaddyTerraces$Slope" "stone" "[I", Cond.fieldLink RX2 27 "PaddyTerraces$Slope" "side" "[I", Cond.fieldLink RX2 30 "PaddyTerraces$Slope" "crop" "[I", Cond.fieldLink RX2 33 "PaddyTerraces$Slope" "age" "[I", Cond.fieldLink RX2 36 "PaddyTerraces$Slope" "hardness" "[I", Cond.fieldLink RX2 39 "PaddyTerraces$Slope" "drowned" "[I", Cond.fieldLink RX2 42 "PaddyTerraces$Slope" "dry" "[I", Cond.fieldLink RX2 45 "PaddyTerraces$Slope" "wentOut" "[I", Cond.fieldLink RX2 48 "PaddyTerraces$Slope" "spilled" "[I", Cond.methodLink RX2 87 yX2_copyRow, Cond.static yX2_copyRow, Cond.code yX2_copyRow cX2_copyRow 2 none, Cond.methodLink RX3 156 yX2_letDaysGoBy, Cond.instanceMethod yX2_letDaysGoBy, Cond.selects RX2 yX2_letDaysGoBy yX2_letDaysGoBy, Cond.code yX2_letDaysGoBy cX2_letDaysGoBy 5 none, Cond.fieldLink RX2 99 "PaddyTerraces$Calendar" "rain" "[I", Cond.fieldLink RX2 107 "PaddyTerraces$Calendar" "spring" "[I", Cond.fieldLink RX2 116 "PaddyTerraces$Calendar" "draught" "[I", Cond.methodLink RX2 104 yX2_takeRain, Cond.instanceMethod yX2_takeRain, Cond.selects RX2 yX2_takeRain yX2_takeRain, Cond.code yX2_takeRain cX2_takeRain 3 none, Cond.methodLink RX2 95 yX2_cells]
def wsL_advise_r4 : List Cond := [Cond.instanceMethod yX2_cells, Cond.selects RX2 yX2_cells yX2_cells, Cond.code yX2_cells cX2_cells 1 (some .int), Cond.methodLink RX2 110 yX2_takeSpring, Cond.instanceMethod yX2_takeSpring, Cond.selects RX2 yX2_takeSpring yX2_takeSpring, Cond.code yX2_takeSpring cX2_takeSpring 4 none, Cond.methodLink RX2 113 yX2_letWaterFlow, Cond.instanceMethod yX2_letWaterFlow, Cond.selects RX2 yX2_letWaterFlow yX2_letWaterFlow, Cond.code yX2_letWaterFlow cX2_letWaterFlow 3 none, Cond.methodLink RX2 125 yX2_letFieldFlow, Cond.instanceMethod yX2_letFieldFlow, Cond.selects RX2 yX2_letFieldFlow yX2_letFieldFlow, Cond.code yX2_letFieldFlow cX2_letFieldFlow 6 none, Cond.methodLink RX2 132 Lib.Math.max.name, Cond.static Lib.Math.max.name, Cond.initialized "java/lang/Math", Cond.code Lib.Math.max.name Lib.Math.max.code 2 (some .int), Cond.methodLink RX2 137 Lib.Math.min.name, Cond.static Lib.Math.min.name, Cond.code Lib.Math.min.name Lib.Math.min.code 2 (some .int), Cond.methodLink RX2 128 yX2_cellOf, Cond.instanceMethod yX2_cellOf]
def wsL_advise_r5 : List Cond := [Cond.selects RX2 yX2_cellOf yX2_cellOf, Cond.code yX2_cellOf cX2_cellOf 3 (some .int), Cond.methodLink RX2 140 yX2_bringWater, Cond.instanceMethod yX2_bringWater, Cond.selects RX2 yX2_bringWater yX2_bringWater, Cond.code yX2_bringWater cX2_bringWater 4 none, Cond.methodLink RX2 144 yX2_hasField, Cond.instanceMethod yX2_hasField, Cond.selects RX2 yX2_hasField yX2_hasField, Cond.code yX2_hasField cX2_hasField 3 (some .boolean), Cond.methodLink RX2 119 yX2_loseWater, Cond.instanceMethod yX2_loseWater, Cond.selects RX2 yX2_loseWater yX2_loseWater, Cond.code yX2_loseWater cX2_loseWater 4 none, Cond.methodLink RX2 122 yX2_growRice, Cond.instanceMethod yX2_growRice, Cond.selects RX2 yX2_growRice yX2_growRice, Cond.code yX2_growRice cX2_growRice 2 none, Cond.methodLink RX2 148 yX2_growCrop, Cond.instanceMethod yX2_growCrop, Cond.selects RX2 yX2_growCrop yX2_growCrop, Cond.code yX2_growCrop cX2_growCrop 4 none, Cond.methodLink RX2 77 yX2_clearCrop, Cond.instanceMethod yX2_clearCrop]
def wsL_advise_r6 : List Cond := [Cond.selects RX2 yX2_clearCrop yX2_clearCrop, Cond.code yX2_clearCrop cX2_clearCrop 2 none, Cond.methodLink RX2 151 yX2_hardening, Cond.instanceMethod yX2_hardening, Cond.selects RX2 yX2_hardening yX2_hardening, Cond.code yX2_hardening cX2_hardening 2 (some .int), Cond.methodLink RX3 137 yX2_crops, Cond.instanceMethod yX2_crops, Cond.selects RX2 yX2_crops yX2_crops, Cond.code yX2_crops cX2_crops 1 (some .int), Cond.methodLink RX2 91 yX2_sumOf, Cond.instanceMethod yX2_sumOf, Cond.selects RX2 yX2_sumOf yX2_sumOf, Cond.code yX2_sumOf cX2_sumOf 4 (some .int), Cond.methodLink RX3 215 yX2_allHardness, Cond.instanceMethod yX2_allHardness, Cond.selects RX2 yX2_allHardness yX2_allHardness, Cond.code yX2_allHardness cX2_allHardness 1 (some .int), Cond.methodLink RX3 218 yX1_becomeLeaving, Cond.instanceMethod yX1_becomeLeaving, Cond.selects RX1 yX1_becomeLeaving yX1_becomeLeaving, Cond.initialized RX1, Cond.code yX1_becomeLeaving cX1_becomeLeaving 3 none, Cond.methodLink RX1 9 yX1_become]
def wsL_advise_r7 : List Cond := [Cond.instanceMethod yX1_become, Cond.selects RX1 yX1_become yX1_become, Cond.code yX1_become cX1_become 6 none, Cond.fieldLink RX1 22 "PaddyTerraces$Move" "terrace" "I", Cond.fieldLink RX1 25 "PaddyTerraces$Move" "column" "I", Cond.fieldLink RX1 28 "PaddyTerraces$Move" "height" "I", Cond.fieldLink RX1 15 "PaddyTerraces$Move" "crops" "I", Cond.fieldLink RX1 19 "PaddyTerraces$Move" "hardness" "I", Cond.methodLink RX3 71 yX2_cellOf, Cond.methodLink RX3 221 yX1_becomeIfBetter, Cond.instanceMethod yX1_becomeIfBetter, Cond.selects RX1 yX1_becomeIfBetter yX1_becomeIfBetter, Cond.code yX1_becomeIfBetter cX1_becomeIfBetter 6 none, Cond.methodLink RX3 193 yX1_moveNumber, Cond.instanceMethod yX1_moveNumber, Cond.selects RX1 yX1_moveNumber yX1_moveNumber, Cond.code yX1_moveNumber cX1_moveNumber 2 (some .int)]
def wsL_advise : List Cond := .codeWith yL_advise cL_advise 5 (some .int) [(0, 10, 13, 13), (0, 10, 17, 19), (0, 10, 21, 37)] :: ((wsL_advise_r1 ++ (wsL_advise_r2 ++ (wsL_advise_r3 ++ (wsL_advise_r4 ++ (wsL_advise_r5 ++ (wsL_advise_r6 ++ wsL_advise_r7)))))) ++ wsX30 ++ wsX20 ++ wsX00 ++ wsX10 ++ (vx_atS RX3 43 "java/lang/IllegalArgumentException" ["java/lang/RuntimeException", "java/lang/Exception"]).filter goodWord ++ (vx_atS RX3 68 "java/lang/IndexOutOfBoundsException" ["java/lang/RuntimeException", "java/lang/Exception"]).filter goodWord ++ (vx_atS RX3 133 "java/lang/IllegalStateException" ["java/lang/RuntimeException", "java/lang/Exception"]).filter goodWord)
def wsL_law0_r1 : List Cond := [Cond.classLink RL 8 RX3, Cond.instantiable RX3 6, Cond.initialized RX3, Cond.classLink RL 62 RX4, Cond.instantiable RX4 7, Cond.initialized RX4, Cond.arrayClass .long, Cond.methodLink RL 61 yX3_init, Cond.instanceMethod yX3_init, Cond.code yX3_init cX3_init 1 none, Cond.methodLink RX3 1 objectInit, Cond.instanceMethod objectInit, Cond.code objectInit ⟨#[0xb1]⟩ 1 none, Cond.classLink RX3 7 RX0, Cond.instantiable RX0 3, Cond.initialized RX0, Cond.fieldLink RX3 10 "PaddyTerraces" "calendar" "LPaddyTerraces$Calendar;", Cond.classLink RX3 16 RX2, Cond.instantiable RX2 18, Cond.initialized RX2, Cond.fieldLink RX3 21 "PaddyTerraces" "slope" "LPaddyTerraces$Slope;", Cond.fieldLink RX3 25 "PaddyTerraces" "trial" "LPaddyTerraces$Slope;", Cond.classLink RX3 28 RX1, Cond.instantiable RX1 5]
def wsL_law0_r2 : List Cond := [Cond.initialized RX1, Cond.fieldLink RX3 31 "PaddyTerraces" "best" "LPaddyTerraces$Move;", Cond.methodLink RX3 9 yX0_init, Cond.instanceMethod yX0_init, Cond.code yX0_init cX0_init 1 none, Cond.methodLink RX0 3 objectInit, Cond.arrayClass .int, Cond.fieldLink RX0 9 "PaddyTerraces$Calendar" "rain" "[I", Cond.fieldLink RX0 15 "PaddyTerraces$Calendar" "spring" "[I", Cond.fieldLink RX0 18 "PaddyTerraces$Calendar" "draught" "[I", Cond.methodLink RX0 21 yJ7_fill_53178, Cond.static yJ7_fill_53178, Cond.initialized RJ7, Cond.code yJ7_fill_53178 cJ7_fill_53178 4 none, Cond.methodLink RX3 18 yX2_init, Cond.instanceMethod yX2_init, Cond.code yX2_init cX2_init 3 none, Cond.methodLink RX2 3 objectInit, Cond.fieldLink RX2 9 "PaddyTerraces$Slope" "share" "[I", Cond.fieldLink RX2 15 "PaddyTerraces$Slope" "depth" "[I", Cond.fieldLink RX2 18 "PaddyTerraces$Slope" "bank" "[I", Cond.fieldLink RX2 21 "PaddyTerraces$Slope" "seepage" "[I", Cond.fieldLink RX2 24 "PaddyTerraces$Slope" "stone" "[I", Cond.fieldLink RX2 27 "PaddyTerraces$Slope" "side" "[I"]
def wsL_law0_r3 : List Cond := [Cond.fieldLink RX2 30 "PaddyTerraces$Slope" "crop" "[I", Cond.fieldLink RX2 33 "PaddyTerraces$Slope" "age" "[I", Cond.fieldLink RX2 36 "PaddyTerraces$Slope" "hardness" "[I", Cond.fieldLink RX2 39 "PaddyTerraces$Slope" "drowned" "[I", Cond.fieldLink RX2 42 "PaddyTerraces$Slope" "dry" "[I", Cond.fieldLink RX2 45 "PaddyTerraces$Slope" "wentOut" "[I", Cond.fieldLink RX2 48 "PaddyTerraces$Slope" "spilled" "[I", Cond.methodLink RX2 51 yX2_startAnew, Cond.instanceMethod yX2_startAnew, Cond.selects RX2 yX2_startAnew yX2_startAnew, Cond.code yX2_startAnew cX2_startAnew 4 none, Cond.fieldLink RX2 55 "PaddyTerraces$Slope" "h" "I", Cond.fieldLink RX2 59 "PaddyTerraces$Slope" "w" "I", Cond.fieldLink RX2 62 "PaddyTerraces$Slope" "day" "I", Cond.fieldLink RX2 65 "PaddyTerraces$Slope" "brook" "I", Cond.fieldLink RX2 68 "PaddyTerraces$Slope" "died" "I", Cond.methodLink RX2 71 yJ7_fill_53178, Cond.methodLink RX2 77 yX2_clearCrop, Cond.instanceMethod yX2_clearCrop, Cond.selects RX2 yX2_clearCrop yX2_clearCrop, Cond.code yX2_clearCrop cX2_clearCrop 2 none, Cond.instanceMethod yX1_init, Cond.code yX1_init cX1_init 1 none, Cond.methodLink RX1 3 objectInit]
def wsL_law0_r4 : List Cond := [Cond.methodLink RL 64 yX4_init, Cond.instanceMethod yX4_init, Cond.code yX4_init cX4_init 2 none, Cond.methodLink RX4 1 objectInit, Cond.fieldLink RX4 9 "PaddyTerracesModel" "n" "[I", Cond.fieldLink RX4 13 "PaddyTerracesModel" "shares" "[I", Cond.fieldLink RX4 16 "PaddyTerracesModel" "fields" "[I", Cond.fieldLink RX4 19 "PaddyTerracesModel" "weather" "[I", Cond.fieldLink RX4 22 "PaddyTerracesModel" "spareCounts" "[I", Cond.fieldLink RX4 25 "PaddyTerracesModel" "spareFields" "[I", Cond.methodLink RX4 28 yX4_clear, Cond.instanceMethod yX4_clear, Cond.selects RX4 yX4_clear yX4_clear, Cond.code yX4_clear cX4_clear 5 none, Cond.methodLink RX4 32 arraycopyName, Cond.native arraycopyName, Cond.static arraycopyName, Cond.initialized "java/lang/System", Cond.methodLink RL 65 yL_lay, Cond.static yL_lay, Cond.initialized RL, Cond.codeWith yL_lay cL_lay 5 (some .int) [(0, 10, 13, 13)], Cond.classLink RL 13 "java/lang/IllegalArgumentException", Cond.methodLink RL 7 yX3_lay]
def wsL_law0_r5 : List Cond := [Cond.instanceMethod yX3_lay, Cond.selects RX3 yX3_lay yX3_lay, Cond.code yX3_lay cX3_lay 3 (some .int), Cond.classLink RX3 39 "java/lang/IllegalArgumentException", Cond.initialized "java/lang/IllegalArgumentException", Cond.fieldLink RX3 49 "PaddyTerraces" "reaped" "I", Cond.fieldLink RX3 53 "PaddyTerraces" "moved" "I", Cond.methodLink RX3 35 yX3_isWithin, Cond.static yX3_isWithin, Cond.code yX3_isWithin cX3_isWithin 3 (some .boolean), Cond.methodLink RX3 46 yX2_startAnew, Cond.methodLink RX3 56 yX2_cells, Cond.instanceMethod yX2_cells, Cond.selects RX2 yX2_cells yX2_cells, Cond.code yX2_cells cX2_cells 1 (some .int), Cond.methodLink RL 70 yX4_lay, Cond.instanceMethod yX4_lay, Cond.selects RX4 yX4_lay yX4_lay, Cond.code yX4_lay cX4_lay 3 (some .int), Cond.fieldLink RX4 38 "PaddyTerracesModel" "thrown" "I", Cond.methodLink RX4 42 yX4_isIn, Cond.static yX4_isIn, Cond.code yX4_isIn cX4_isIn 3 (some .boolean), Cond.methodLink RX4 46 yX4_fail]
def wsL_law0_r6 : List Cond := [Cond.instanceMethod yX4_fail, Cond.selects RX4 yX4_fail yX4_fail, Cond.code yX4_fail cX4_fail 2 (some .int), Cond.methodLink RL 71 yX4_thrown, Cond.instanceMethod yX4_thrown, Cond.selects RX4 yX4_thrown yX4_thrown, Cond.code yX4_thrown cX4_thrown 1 (some .int), Cond.methodLink RL 75 yL_setField, Cond.static yL_setField, Cond.codeWith yL_setField cL_setField 7 (some .int) [(0, 14, 17, 19), (0, 14, 21, 13)], Cond.classLink RL 19 "java/lang/IndexOutOfBoundsException", Cond.methodLink RL 15 yX3_setField, Cond.instanceMethod yX3_setField, Cond.selects RX3 yX3_setField yX3_setField, Cond.code yX3_setField cX3_setField 7 (some .int), Cond.classLink RX3 64 "java/lang/IndexOutOfBoundsException", Cond.initialized "java/lang/IndexOutOfBoundsException", Cond.fieldLink RX3 75 "PaddyTerraces$Slope" "bank" "[I", Cond.fieldLink RX3 79 "PaddyTerraces$Slope" "seepage" "[I", Cond.fieldLink RX3 82 "PaddyTerraces$Slope" "stone" "[I", Cond.methodLink RX3 85 Lib.Math.min.name, Cond.static Lib.Math.min.name, Cond.initialized "java/lang/Math", Cond.code Lib.Math.min.name Lib.Math.min.code 2 (some .int)]
def wsL_law0_r7 : List Cond := [Cond.methodLink RX3 60 yX2_hasField, Cond.instanceMethod yX2_hasField, Cond.selects RX2 yX2_hasField yX2_hasField, Cond.code yX2_hasField cX2_hasField 3 (some .boolean), Cond.methodLink RX3 71 yX2_cellOf, Cond.instanceMethod yX2_cellOf, Cond.selects RX2 yX2_cellOf yX2_cellOf, Cond.code yX2_cellOf cX2_cellOf 3 (some .int), Cond.methodLink RL 78 yX4_setField, Cond.instanceMethod yX4_setField, Cond.selects RX4 yX4_setField yX4_setField, Cond.code yX4_setField cX4_setField 6 (some .int), Cond.methodLink RX4 58 Lib.Math.min.name, Cond.methodLink RX4 50 yX4_isField, Cond.instanceMethod yX4_isField, Cond.selects RX4 yX4_isField yX4_isField, Cond.code yX4_isField cX4_isField 3 (some .boolean), Cond.methodLink RX4 54 yX4_at, Cond.instanceMethod yX4_at, Cond.selects RX4 yX4_at yX4_at, Cond.code yX4_at cX4_at 3 (some .int), Cond.methodLink RX4 63 yX4_set, Cond.instanceMethod yX4_set, Cond.selects RX4 yX4_set yX4_set]
def wsL_law0_r8 : List Cond := [Cond.code yX4_set cX4_set 4 (some .int), Cond.methodLink RL 79 yL_moveStone, Cond.static yL_moveStone, Cond.codeWith yL_moveStone cL_moveStone 6 (some .int) [(0, 12, 15, 19), (0, 12, 19, 13)], Cond.methodLink RL 21 yX3_moveStone, Cond.instanceMethod yX3_moveStone, Cond.selects RX3 yX3_moveStone yX3_moveStone, Cond.code yX3_moveStone cX3_moveStone 6 (some .int), Cond.methodLink RX3 92 Lib.Math.abs.name, Cond.static Lib.Math.abs.name, Cond.code Lib.Math.abs.name Lib.Math.abs.code 1 (some .int), Cond.methodLink RL 82 yX4_moveStone, Cond.instanceMethod yX4_moveStone, Cond.selects RX4 yX4_moveStone yX4_moveStone, Cond.code yX4_moveStone cX4_moveStone 5 (some .int), Cond.methodLink RX4 66 Lib.Math.abs.name, Cond.methodLink RL 83 yL_turn, Cond.static yL_turn, Cond.codeWith yL_turn cL_turn 6 (some .int) [(0, 12, 15, 19), (0, 12, 19, 13)], Cond.methodLink RL 25 yX3_turn, Cond.instanceMethod yX3_turn, Cond.selects RX3 yX3_turn yX3_turn, Cond.code yX3_turn cX3_turn 6 (some .int), Cond.fieldLink RX3 98 "PaddyTerraces$Slope" "side" "[I"]
def wsL_law0_r9 : List Cond := [Cond.methodLink RL 85 yX4_turn, Cond.instanceMethod yX4_turn, Cond.selects RX4 yX4_turn yX4_turn, Cond.code yX4_turn cX4_turn 4 (some .int), Cond.methodLink RL 86 yL_setShare, Cond.static yL_setShare, Cond.codeWith yL_setShare cL_setShare 5 (some .int) [(0, 10, 13, 19), (0, 10, 17, 13)], Cond.methodLink RL 28 yX3_setShare, Cond.instanceMethod yX3_setShare, Cond.selects RX3 yX3_setShare yX3_setShare, Cond.code yX3_setShare cX3_setShare 4 (some .int), Cond.fieldLink RX3 105 "PaddyTerraces$Slope" "share" "[I", Cond.methodLink RL 88 yX4_setShare, Cond.instanceMethod yX4_setShare, Cond.selects RX4 yX4_setShare yX4_setShare, Cond.code yX4_setShare cX4_setShare 4 (some .int), Cond.methodLink RL 89 yL_setDay, Cond.static yL_setDay, Cond.codeWith yL_setDay cL_setDay 7 (some .int) [(0, 14, 17, 19), (0, 14, 21, 13)], Cond.methodLink RL 31 yX3_setDay, Cond.instanceMethod yX3_setDay, Cond.selects RX3 yX3_setDay yX3_setDay, Cond.code yX3_setDay cX3_setDay 6 (some .int), Cond.fieldLink RX3 112 "PaddyTerraces$Calendar" "spring" "[I"]
def wsL_law0_r10 : List Cond := [Cond.fieldLink RX3 115 "PaddyTerraces$Calendar" "rain" "[I", Cond.fieldLink RX3 118 "PaddyTerraces$Calendar" "draught" "[I", Cond.methodLink RL 91 yX4_setDay, Cond.instanceMethod yX4_setDay, Cond.selects RX4 yX4_setDay yX4_setDay, Cond.code yX4_setDay cX4_setDay 7 (some .int), Cond.methodLink RL 92 yL_plant, Cond.static yL_plant, Cond.codeWith yL_plant cL_plant 6 (some .int) [(0, 12, 15, 19), (0, 12, 19, 13), (0, 12, 23, 37)], Cond.classLink RL 37 "java/lang/IllegalStateException", Cond.methodLink RL 34 yX3_plant, Cond.instanceMethod yX3_plant, Cond.selects RX3 yX3_plant yX3_plant, Cond.code yX3_plant cX3_plant 5 (some .int), Cond.classLink RX3 129 "java/lang/IllegalStateException", Cond.initialized "java/lang/IllegalStateException", Cond.fieldLink RX3 123 "PaddyTerraces$Slope" "crop" "[I", Cond.fieldLink RX3 126 "PaddyTerraces$Slope" "depth" "[I", Cond.fieldLink RX3 134 "PaddyTerraces$Slope" "age" "[I", Cond.methodLink RX3 137 yX2_crops, Cond.instanceMethod yX2_crops, Cond.selects RX2 yX2_crops yX2_crops, Cond.code yX2_crops cX2_crops 1 (some .int), Cond.methodLink RX2 91 yX2_sumOf]
def wsL_law0_r11 : List Cond := [Cond.instanceMethod yX2_sumOf, Cond.selects RX2 yX2_sumOf yX2_sumOf, Cond.code yX2_sumOf cX2_sumOf 4 (some .int), Cond.methodLink RX2 95 yX2_cells, Cond.methodLink RL 94 yX4_plant, Cond.instanceMethod yX4_plant, Cond.selects RX4 yX4_plant yX4_plant, Cond.code yX4_plant cX4_plant 5 (some .int), Cond.methodLink RX4 73 yX4_sum, Cond.instanceMethod yX4_sum, Cond.selects RX4 yX4_sum yX4_sum, Cond.code yX4_sum cX4_sum 4 (some .int), Cond.methodLink RX4 69 yX4_many, Cond.instanceMethod yX4_many, Cond.selects RX4 yX4_many yX4_many, Cond.code yX4_many cX4_many 1 (some .int), Cond.methodLink RL 95 yL_reap, Cond.static yL_reap, Cond.codeWith yL_reap cL_reap 5 (some .int) [(0, 10, 13, 19), (0, 10, 17, 37)], Cond.methodLink RL 39 yX3_reap, Cond.instanceMethod yX3_reap, Cond.selects RX3 yX3_reap yX3_reap, Cond.code yX3_reap cX3_reap 5 (some .int), Cond.fieldLink RX3 142 "PaddyTerraces$Slope" "hardness" "[I"]
def wsL_law0_r12 : List Cond := [Cond.methodLink RX3 145 yX2_clearCrop, Cond.methodLink RL 97 yX4_reap, Cond.instanceMethod yX4_reap, Cond.selects RX4 yX4_reap yX4_reap, Cond.code yX4_reap cX4_reap 5 (some .int), Cond.methodLink RX4 76 yX4_fallow, Cond.instanceMethod yX4_fallow, Cond.selects RX4 yX4_fallow yX4_fallow, Cond.code yX4_fallow cX4_fallow 3 none, Cond.methodLink RL 98 yL_pass, Cond.static yL_pass, Cond.codeWith yL_pass cL_pass 4 (some .int) [(0, 9, 12, 13), (0, 9, 15, 37)], Cond.methodLink RL 42 yX3_pass, Cond.instanceMethod yX3_pass, Cond.selects RX3 yX3_pass yX3_pass, Cond.code yX3_pass cX3_pass 2 (some .int), Cond.fieldLink RX3 151 "PaddyTerraces$Slope" "day" "I", Cond.methodLink RX3 156 yX2_letDaysGoBy, Cond.instanceMethod yX2_letDaysGoBy, Cond.selects RX2 yX2_letDaysGoBy yX2_letDaysGoBy, Cond.code yX2_letDaysGoBy cX2_letDaysGoBy 5 none, Cond.fieldLink RX2 99 "PaddyTerraces$Calendar" "rain" "[I", Cond.fieldLink RX2 107 "PaddyTerraces$Calendar" "spring" "[I", Cond.fieldLink RX2 116 "PaddyTerraces$Calendar" "draught" "[I"]
def wsL_law0_r13 : List Cond := [Cond.methodLink RX2 104 yX2_takeRain, Cond.instanceMethod yX2_takeRain, Cond.selects RX2 yX2_takeRain yX2_takeRain, Cond.code yX2_takeRain cX2_takeRain 3 none, Cond.methodLink RX2 110 yX2_takeSpring, Cond.instanceMethod yX2_takeSpring, Cond.selects RX2 yX2_takeSpring yX2_takeSpring, Cond.code yX2_takeSpring cX2_takeSpring 4 none, Cond.methodLink RX2 113 yX2_letWaterFlow, Cond.instanceMethod yX2_letWaterFlow, Cond.selects RX2 yX2_letWaterFlow yX2_letWaterFlow, Cond.code yX2_letWaterFlow cX2_letWaterFlow 3 none, Cond.methodLink RX2 125 yX2_letFieldFlow, Cond.instanceMethod yX2_letFieldFlow, Cond.selects RX2 yX2_letFieldFlow yX2_letFieldFlow, Cond.code yX2_letFieldFlow cX2_letFieldFlow 6 none, Cond.methodLink RX2 132 Lib.Math.max.name, Cond.static Lib.Math.max.name, Cond.code Lib.Math.max.name Lib.Math.max.code 2 (some .int), Cond.methodLink RX2 137 Lib.Math.min.name, Cond.methodLink RX2 128 yX2_cellOf, Cond.methodLink RX2 140 yX2_bringWater, Cond.instanceMethod yX2_bringWater, Cond.selects RX2 yX2_bringWater yX2_bringWater]
def wsL_law0_r14 : List Cond := [Cond.code yX2_bringWater cX2_bringWater 4 none, Cond.methodLink RX2 144 yX2_hasField, Cond.methodLink RX2 119 yX2_loseWater, Cond.instanceMethod yX2_loseWater, Cond.selects RX2 yX2_loseWater yX2_loseWater, Cond.code yX2_loseWater cX2_loseWater 4 none, Cond.methodLink RX2 122 yX2_growRice, Cond.instanceMethod yX2_growRice, Cond.selects RX2 yX2_growRice yX2_growRice, Cond.code yX2_growRice cX2_growRice 2 none, Cond.methodLink RX2 148 yX2_growCrop, Cond.instanceMethod yX2_growCrop, Cond.selects RX2 yX2_growCrop yX2_growCrop, Cond.code yX2_growCrop cX2_growCrop 4 none, Cond.methodLink RX2 151 yX2_hardening, Cond.instanceMethod yX2_hardening, Cond.selects RX2 yX2_hardening yX2_hardening, Cond.code yX2_hardening cX2_hardening 2 (some .int), Cond.methodLink RL 101 yX4_pass, Cond.instanceMethod yX4_pass, Cond.selects RX4 yX4_pass yX4_pass, Cond.code yX4_pass cX4_pass 3 (some .int), Cond.methodLink RX4 93 yX4_dayOn, Cond.instanceMethod yX4_dayOn]
def wsL_law0_r15 : List Cond := [Cond.selects RX4 yX4_dayOn yX4_dayOn, Cond.code yX4_dayOn cX4_dayOn 6 none, Cond.methodLink RX4 80 Lib.Math.max.name, Cond.methodLink RX4 87 yX4_flow, Cond.instanceMethod yX4_flow, Cond.selects RX4 yX4_flow yX4_flow, Cond.code yX4_flow cX4_flow 6 none, Cond.methodLink RX4 83 yX4_come, Cond.instanceMethod yX4_come, Cond.selects RX4 yX4_come yX4_come, Cond.code yX4_come cX4_come 4 none, Cond.methodLink RX4 90 yX4_growRice, Cond.instanceMethod yX4_growRice, Cond.selects RX4 yX4_growRice yX4_growRice, Cond.code yX4_growRice cX4_growRice 6 none, Cond.methodLink RL 102 yL_field, Cond.static yL_field, Cond.codeWith yL_field cL_field 6 (some .int) [(0, 12, 15, 19)], Cond.methodLink RL 46 yX3_field, Cond.instanceMethod yX3_field, Cond.selects RX3 yX3_field yX3_field, Cond.code yX3_field cX3_field 4 (some .int), Cond.methodLink RX3 162 yX2_fieldNumber, Cond.instanceMethod yX2_fieldNumber]
def wsL_law0_r16 : List Cond := [Cond.selects RX2 yX2_fieldNumber yX2_fieldNumber, Cond.code yX2_fieldNumber cX2_fieldNumber 3 (some .int), Cond.methodLink RL 104 yX4_field, Cond.instanceMethod yX4_field, Cond.selects RX4 yX4_field yX4_field, Cond.code yX4_field cX4_field 4 (some .int), Cond.methodLink RL 105 yL_count, Cond.static yL_count, Cond.codeWith yL_count cL_count 4 (some .int) [(0, 9, 12, 19)], Cond.methodLink RL 49 yX3_count, Cond.instanceMethod yX3_count, Cond.selects RX3 yX3_count yX3_count, Cond.code yX3_count cX3_count 2 (some .int), Cond.methodLink RX3 167 yX3_countNumber, Cond.instanceMethod yX3_countNumber, Cond.selects RX3 yX3_countNumber yX3_countNumber, Cond.code yX3_countNumber cX3_countNumber 2 (some .int), Cond.fieldLink RX3 206 "PaddyTerraces$Slope" "h" "I", Cond.fieldLink RX3 203 "PaddyTerraces$Slope" "w" "I", Cond.fieldLink RX3 209 "PaddyTerraces$Slope" "brook" "I", Cond.fieldLink RX3 212 "PaddyTerraces$Slope" "died" "I", Cond.methodLink RX3 196 yX2_allDepths, Cond.instanceMethod yX2_allDepths, Cond.selects RX2 yX2_allDepths yX2_allDepths]
def wsL_law0_r17 : List Cond := [Cond.code yX2_allDepths cX2_allDepths 1 (some .int), Cond.methodLink RL 107 yX4_count, Cond.instanceMethod yX4_count, Cond.selects RX4 yX4_count yX4_count, Cond.code yX4_count cX4_count 2 (some .int), Cond.methodLink RX4 96 yX4_counted, Cond.instanceMethod yX4_counted, Cond.selects RX4 yX4_counted yX4_counted, Cond.code yX4_counted cX4_counted 2 (some .int), Cond.methodLink RL 108 yL_weather, Cond.static yL_weather, Cond.codeWith yL_weather cL_weather 5 (some .int) [(0, 10, 13, 19)], Cond.methodLink RL 52 yX3_weather, Cond.instanceMethod yX3_weather, Cond.selects RX3 yX3_weather yX3_weather, Cond.code yX3_weather cX3_weather 3 (some .int), Cond.methodLink RX3 172 yX0_dayNumber, Cond.instanceMethod yX0_dayNumber, Cond.selects RX0 yX0_dayNumber yX0_dayNumber, Cond.code yX0_dayNumber cX0_dayNumber 3 (some .int), Cond.methodLink RL 110 yX4_weather, Cond.instanceMethod yX4_weather, Cond.selects RX4 yX4_weather yX4_weather, Cond.code yX4_weather cX4_weather 3 (some .int)]
def wsL_law0_r18 : List Cond := [Cond.methodLink RL 111 yL_foresee, Cond.static yL_foresee, Cond.codeWith yL_foresee cL_foresee 5 (some .int) [(0, 10, 13, 13), (0, 10, 17, 19), (0, 10, 21, 37)], Cond.methodLink RL 55 yX3_foresee, Cond.instanceMethod yX3_foresee, Cond.selects RX3 yX3_foresee yX3_foresee, Cond.code yX3_foresee cX3_foresee 3 (some .int), Cond.methodLink RX3 179 yX2_copyFrom, Cond.instanceMethod yX2_copyFrom, Cond.selects RX2 yX2_copyFrom yX2_copyFrom, Cond.code yX2_copyFrom cX2_copyFrom 2 none, Cond.methodLink RX2 81 arraycopyName, Cond.methodLink RX2 87 yX2_copyRow, Cond.static yX2_copyRow, Cond.code yX2_copyRow cX2_copyRow 2 none, Cond.methodLink RX3 183 yX3_foreseenNumber, Cond.instanceMethod yX3_foreseenNumber, Cond.selects RX3 yX3_foreseenNumber yX3_foreseenNumber, Cond.code yX3_foreseenNumber cX3_foreseenNumber 2 (some .int), Cond.methodLink RX3 215 yX2_allHardness, Cond.instanceMethod yX2_allHardness, Cond.selects RX2 yX2_allHardness yX2_allHardness, Cond.code yX2_allHardness cX2_allHardness 1 (some .int), Cond.methodLink RL 113 yX4_foresee]
def wsL_law0_r19 : List Cond := [Cond.instanceMethod yX4_foresee, Cond.selects RX4 yX4_foresee yX4_foresee, Cond.code yX4_foresee cX4_foresee 4 (some .int), Cond.methodLink RX4 99 yX4_keep, Cond.instanceMethod yX4_keep, Cond.selects RX4 yX4_keep yX4_keep, Cond.code yX4_keep cX4_keep 1 none, Cond.methodLink RX4 102 yX4_bringBack, Cond.instanceMethod yX4_bringBack, Cond.selects RX4 yX4_bringBack yX4_bringBack, Cond.code yX4_bringBack cX4_bringBack 1 none, Cond.methodLink RL 114 yL_advise, Cond.static yL_advise, Cond.codeWith yL_advise cL_advise 5 (some .int) [(0, 10, 13, 13), (0, 10, 17, 19), (0, 10, 21, 37)], Cond.methodLink RL 58 yX3_advise, Cond.instanceMethod yX3_advise, Cond.selects RX3 yX3_advise yX3_advise, Cond.code yX3_advise cX3_advise 3 (some .int), Cond.methodLink RX3 190 yX3_findBestMove, Cond.instanceMethod yX3_findBestMove, Cond.selects RX3 yX3_findBestMove yX3_findBestMove, Cond.code yX3_findBestMove cX3_findBestMove 6 none, Cond.methodLink RX3 218 yX1_becomeLeaving, Cond.instanceMethod yX1_becomeLeaving]
def wsL_law0_r20 : List Cond := [Cond.selects RX1 yX1_becomeLeaving yX1_becomeLeaving, Cond.code yX1_becomeLeaving cX1_becomeLeaving 3 none, Cond.methodLink RX1 9 yX1_become, Cond.instanceMethod yX1_become, Cond.selects RX1 yX1_become yX1_become, Cond.code yX1_become cX1_become 6 none, Cond.fieldLink RX1 22 "PaddyTerraces$Move" "terrace" "I", Cond.fieldLink RX1 25 "PaddyTerraces$Move" "column" "I", Cond.fieldLink RX1 28 "PaddyTerraces$Move" "height" "I", Cond.fieldLink RX1 15 "PaddyTerraces$Move" "crops" "I", Cond.fieldLink RX1 19 "PaddyTerraces$Move" "hardness" "I", Cond.methodLink RX3 221 yX1_becomeIfBetter, Cond.instanceMethod yX1_becomeIfBetter, Cond.selects RX1 yX1_becomeIfBetter yX1_becomeIfBetter, Cond.code yX1_becomeIfBetter cX1_becomeIfBetter 6 none, Cond.methodLink RX3 193 yX1_moveNumber, Cond.instanceMethod yX1_moveNumber, Cond.selects RX1 yX1_moveNumber yX1_moveNumber, Cond.code yX1_moveNumber cX1_moveNumber 2 (some .int), Cond.methodLink RL 116 yX4_advise, Cond.instanceMethod yX4_advise, Cond.selects RX4 yX4_advise yX4_advise, Cond.code yX4_advise cX4_advise 9 (some .int), Cond.methodLink RX4 105 yX4_worth]
def wsL_law0_r21 : List Cond := [Cond.instanceMethod yX4_worth, Cond.selects RX4 yX4_worth yX4_worth, Cond.code yX4_worth cX4_worth 3 (some .int), Cond.methodLink RL 117 yX3_depth, Cond.instanceMethod yX3_depth, Cond.selects RX3 yX3_depth yX3_depth, Cond.code yX3_depth cX3_depth 2 (some .double), Cond.methodLink RL 121 yX4_depth, Cond.instanceMethod yX4_depth, Cond.selects RX4 yX4_depth yX4_depth, Cond.code yX4_depth cX4_depth 1 (some .double), Cond.methodLink RL 122 yX3_digest, Cond.instanceMethod yX3_digest, Cond.selects RX3 yX3_digest yX3_digest, Cond.code yX3_digest cX3_digest 5 (some .long), Cond.constantLong RX3 199 (443), Cond.constantLong RX3 201 (31), Cond.methodLink RL 126 yX4_digest, Cond.instanceMethod yX4_digest, Cond.selects RX4 yX4_digest yX4_digest, Cond.code yX4_digest cX4_digest 4 (some .long), Cond.constantLong RX4 108 (443), Cond.constantLong RX4 110 (31)]
def wsL_law0 : List Cond := (wsL_law0_r1 ++ (wsL_law0_r2 ++ (wsL_law0_r3 ++ (wsL_law0_r4 ++ (wsL_law0_r5 ++ (wsL_law0_r6 ++ (wsL_law0_r7 ++ (wsL_law0_r8 ++ (wsL_law0_r9 ++ (wsL_law0_r10 ++ (wsL_law0_r11 ++ (wsL_law0_r12 ++ (wsL_law0_r13 ++ (wsL_law0_r14 ++ (wsL_law0_r15 ++ (wsL_law0_r16 ++ (wsL_law0_r17 ++ (wsL_law0_r18 ++ (wsL_law0_r19 ++ (wsL_law0_r20 ++ wsL_law0_r21)))))))))))))))))))) ++ wsX30 ++ wsX40 ++ wsX00 ++ wsX20 ++ wsX10 ++ ([] : List Cond)
def wsL_law : List Cond := wsL_law0 ++ (vx_atS RX3 43 "java/lang/IllegalArgumentException" ["java/lang/RuntimeException", "java/lang/Exception"]).filter goodWord ++ (vx_atS RX3 68 "java/lang/IndexOutOfBoundsException" ["java/lang/RuntimeException", "java/lang/Exception"]).filter goodWord ++ (vx_atS RX3 133 "java/lang/IllegalStateException" ["java/lang/RuntimeException", "java/lang/Exception"]).filter goodWord
end
section
theorem zn_in {big : List Cond} (ws : List Cond) (ps : List Nat) (hp : ws = ps.filterMap (fun i => big[i]?)) : ∀ w ∈ ws, w ∈ big := by
  intro w hw
  rw [hp] at hw
  obtain ⟨i, -, hi⟩ := List.mem_filterMap.mp hw
  exact List.mem_of_getElem? hi
theorem zn_app {big a b : List Cond} (ha : ∀ w ∈ a, w ∈ big) (hb : ∀ w ∈ b, w ∈ big) : ∀ w ∈ a ++ b, w ∈ big := fun w h => (List.mem_append.mp h).elim (ha w) (hb w)
theorem zn_nil {big : List Cond} : ∀ w ∈ ([] : List Cond), w ∈ big := fun _ h => absurd h List.not_mem_nil

theorem wsL_law_ir1 : ∀ w ∈ wsL_law0_r1, w ∈ lw_tbl := fun w h => zn_in wsL_law0_r1 [45, 46, 31, 566, 567, 36, 735, 47, 48, 49, 50, 51, 52, 53, 54, 32, 185, 79, 80, 34, 186, 187, 163, 164] (by decide +kernel) w h
theorem wsL_law_ir2 : ∀ w ∈ wsL_law0_r2, w ∈ lw_tbl := fun w h => zn_in wsL_law0_r2 [35, 188, 55, 56, 57, 58, 78, 62, 65, 68, 59, 60, 33, 61, 81, 82, 83, 84, 104, 106, 108, 110, 112, 114] (by decide +kernel) w h
theorem wsL_law_ir3 : ∀ w ∈ wsL_law0_r3, w ∈ lw_tbl := fun w h => zn_in wsL_law0_r3 [116, 118, 120, 122, 123, 124, 125, 85, 86, 87, 88, 94, 96, 98, 100, 102, 89, 90, 91, 92, 93, 166, 167, 168] (by decide +kernel) w h
theorem wsL_law_ir4 : ∀ w ∈ wsL_law0_r4, w ∈ lw_tbl := fun w h => zn_in wsL_law0_r4 [568, 569, 570, 571, 578, 579, 580, 581, 582, 583, 572, 574, 14, 575, 576, 525, 524, 37, 243, 244, 30, 245, 246, 247] (by decide +kernel) w h
theorem wsL_law_ir5 : ∀ w ∈ wsL_law0_r5, w ∈ lw_tbl := fun w h => zn_in wsL_law0_r5 [248, 249, 250, 254, 41, 189, 190, 251, 252, 253, 322, 208, 209, 210, 211, 603, 604, 605, 606, 577, 607, 608, 609, 610] (by decide +kernel) w h
theorem wsL_law_ir6 : ∀ w ∈ wsL_law0_r6, w ∈ lw_tbl := fun w h => zn_in wsL_law0_r6 [612, 15, 613, 599, 600, 601, 602, 323, 324, 325, 326, 327, 328, 329, 330, 335, 42, 109, 111, 113, 356, 357, 43, 358] (by decide +kernel) w h
theorem wsL_law_ir7 : ∀ w ∈ wsL_law0_r7, w ∈ lw_tbl := fun w h => zn_in wsL_law0_r7 [331, 332, 333, 334, 352, 353, 354, 355, 614, 615, 616, 617, 626, 618, 620, 16, 621, 622, 624, 17, 625, 627, 629, 18] (by decide +kernel) w h
theorem wsL_law_ir8 : ∀ w ∈ wsL_law0_r8, w ∈ lw_tbl := fun w h => zn_in wsL_law0_r8 [630, 359, 360, 361, 362, 363, 364, 365, 367, 368, 369, 631, 632, 633, 634, 635, 370, 371, 372, 373, 374, 375, 376, 115] (by decide +kernel) w h
theorem wsL_law_ir9 : ∀ w ∈ wsL_law0_r9, w ∈ lw_tbl := fun w h => zn_in wsL_law0_r9 [636, 637, 638, 639, 378, 379, 380, 381, 382, 383, 384, 105, 640, 641, 642, 643, 387, 388, 389, 390, 391, 392, 393, 66] (by decide +kernel) w h
theorem wsL_law_ir10 : ∀ w ∈ wsL_law0_r10, w ∈ lw_tbl := fun w h => zn_in wsL_law0_r10 [63, 69, 644, 645, 646, 647, 396, 397, 398, 399, 400, 401, 402, 403, 405, 44, 117, 107, 119, 231, 232, 233, 234, 216] (by decide +kernel) w h
theorem wsL_law_ir11 : ∀ w ∈ wsL_law0_r11, w ∈ lw_tbl := fun w h => zn_in wsL_law0_r11 [218, 0, 219, 220, 648, 649, 650, 651, 652, 654, 19, 655, 656, 658, 20, 659, 421, 422, 423, 424, 425, 426, 427, 121] (by decide +kernel) w h
theorem wsL_law_ir12 : ∀ w ∈ wsL_law0_r12, w ∈ lw_tbl := fun w h => zn_in wsL_law0_r12 [429, 660, 661, 662, 663, 664, 666, 21, 667, 430, 431, 432, 433, 434, 435, 436, 99, 439, 440, 441, 442, 64, 67, 70] (by decide +kernel) w h
theorem wsL_law_ir13 : ∀ w ∈ wsL_law0_r13, w ∈ lw_tbl := fun w h => zn_in wsL_law0_r13 [443, 445, 3, 446, 447, 449, 4, 450, 451, 453, 5, 454, 455, 457, 6, 458, 460, 461, 462, 463, 459, 464, 466, 7] (by decide +kernel) w h
theorem wsL_law_ir14 : ∀ w ∈ wsL_law0_r14, w ∈ lw_tbl := fun w h => zn_in wsL_law0_r14 [467, 468, 469, 471, 8, 472, 473, 475, 9, 476, 477, 479, 10, 480, 481, 483, 11, 484, 668, 669, 670, 671, 672, 674] (by decide +kernel) w h
theorem wsL_law_ir15 : ∀ w ∈ wsL_law0_r15, w ∈ lw_tbl := fun w h => zn_in wsL_law0_r15 [22, 675, 680, 676, 678, 23, 679, 681, 683, 24, 684, 685, 687, 25, 688, 486, 487, 488, 489, 490, 491, 492, 235, 236] (by decide +kernel) w h
theorem wsL_law_ir16 : ∀ w ∈ wsL_law0_r16, w ∈ lw_tbl := fun w h => zn_in wsL_law0_r16 [237, 238, 689, 690, 691, 692, 494, 495, 496, 497, 498, 499, 500, 227, 229, 1, 230, 95, 97, 101, 103, 212, 213, 214] (by decide +kernel) w h
theorem wsL_law_ir17 : ∀ w ∈ wsL_law0_r17, w ∈ lw_tbl := fun w h => zn_in wsL_law0_r17 [215, 693, 694, 695, 696, 697, 699, 26, 700, 502, 503, 504, 505, 506, 507, 508, 239, 240, 241, 242, 701, 702, 703, 704] (by decide +kernel) w h
theorem wsL_law_ir18 : ∀ w ∈ wsL_law0_r18, w ∈ lw_tbl := fun w h => zn_in wsL_law0_r18 [510, 511, 512, 513, 514, 515, 516, 519, 520, 521, 522, 523, 526, 527, 528, 529, 531, 12, 532, 533, 534, 535, 536, 705] (by decide +kernel) w h
theorem wsL_law_ir19 : ∀ w ∈ wsL_law0_r19, w ∈ lw_tbl := fun w h => zn_in wsL_law0_r19 [706, 707, 708, 709, 711, 27, 712, 713, 715, 28, 716, 537, 538, 539, 540, 541, 542, 543, 546, 548, 13, 549, 550, 551] (by decide +kernel) w h
theorem wsL_law_ir20 : ∀ w ∈ wsL_law0_r20, w ∈ lw_tbl := fun w h => zn_in wsL_law0_r20 [552, 553, 554, 555, 556, 557, 169, 170, 171, 172, 173, 558, 559, 560, 561, 562, 563, 564, 565, 717, 718, 719, 720, 721] (by decide +kernel) w h
theorem wsL_law_ir21 : ∀ w ∈ wsL_law0_r21, w ∈ lw_tbl := fun w h => zn_in wsL_law0_r21 [723, 29, 724, 204, 205, 206, 207, 725, 726, 727, 728, 221, 222, 223, 224, 225, 226, 729, 730, 731, 732, 733, 734] (by decide +kernel) w h
theorem zn_inX0 : ∀ w ∈ wsX00, w ∈ lw_tbl := fun w h => zn_in wsX00 [71, 73, 75] (by decide +kernel) w h
theorem zn_inX1 : ∀ w ∈ wsX10, w ∈ lw_tbl := fun w h => zn_in wsX10 [174, 176, 178, 180, 182] (by decide +kernel) w h
theorem zn_inX2 : ∀ w ∈ wsX20, w ∈ lw_tbl := fun w h => zn_in wsX20 [126, 128, 130, 132, 134, 136, 138, 140, 142, 144, 146, 148, 150, 152, 154, 156, 158, 160] (by decide +kernel) w h
theorem zn_inX3 : ∀ w ∈ wsX30, w ∈ lw_tbl := fun w h => zn_in wsX30 [191, 193, 195, 197, 199, 201] (by decide +kernel) w h
theorem zn_inX4 : ∀ w ∈ wsX40, w ∈ lw_tbl := fun w h => zn_in wsX40 [584, 586, 588, 590, 592, 594, 596] (by decide +kernel) w h
theorem wsL_law_in0 : ∀ w ∈ wsL_law0, w ∈ lw_tbl := (zn_app (zn_app (zn_app (zn_app (zn_app (zn_app (zn_app wsL_law_ir1 (zn_app wsL_law_ir2 (zn_app wsL_law_ir3 (zn_app wsL_law_ir4 (zn_app wsL_law_ir5 (zn_app wsL_law_ir6 (zn_app wsL_law_ir7 (zn_app wsL_law_ir8 (zn_app wsL_law_ir9 (zn_app wsL_law_ir10 (zn_app wsL_law_ir11 (zn_app wsL_law_ir12 (zn_app wsL_law_ir13 (zn_app wsL_law_ir14 (zn_app wsL_law_ir15 (zn_app wsL_law_ir16 (zn_app wsL_law_ir17 (zn_app wsL_law_ir18 (zn_app wsL_law_ir19 (zn_app wsL_law_ir20 wsL_law_ir21)))))))))))))))))))) zn_inX3) zn_inX4) zn_inX0) zn_inX2) zn_inX1) zn_nil)
end
section
theorem wsL_law_x0 : ∀ w ∈ (vx_atS RX3 43 "java/lang/IllegalArgumentException" ["java/lang/RuntimeException", "java/lang/Exception"]).filter goodWord, w ∈ lw_tbl := by decide +kernel
theorem wsL_law_x1 : ∀ w ∈ (vx_atS RX3 68 "java/lang/IndexOutOfBoundsException" ["java/lang/RuntimeException", "java/lang/Exception"]).filter goodWord, w ∈ lw_tbl := by decide +kernel
theorem wsL_law_x2 : ∀ w ∈ (vx_atS RX3 133 "java/lang/IllegalStateException" ["java/lang/RuntimeException", "java/lang/Exception"]).filter goodWord, w ∈ lw_tbl := by decide +kernel
theorem wsL_law_in : ∀ w ∈ wsL_law, w ∈ lw_tbl := fun w h => (List.mem_append.mp h).elim (fun h => (List.mem_append.mp h).elim (fun h => (List.mem_append.mp h).elim (fun h => wsL_law_in0 w h) (fun h => wsL_law_x0 w h)) (fun h => wsL_law_x1 w h)) (fun h => wsL_law_x2 w h)
theorem inlX0 : ∀ w ∈ wsX00, w ∈ wsL_law := fun _ h => List.mem_append_left _ (List.mem_append_left _ (List.mem_append_left _ (List.mem_append_left _ (List.mem_append_left _ (List.mem_append_left _ (List.mem_append_right _ h))))))
theorem inX0 : ∀ w ∈ wsX00, w ∈ lw_tbl := fun w h => wsL_law_in w (inlX0 w h)
theorem inlX1 : ∀ w ∈ wsX10, w ∈ wsL_law := fun _ h => List.mem_append_left _ (List.mem_append_left _ (List.mem_append_left _ (List.mem_append_left _ (List.mem_append_right _ h))))
theorem inX1 : ∀ w ∈ wsX10, w ∈ lw_tbl := fun w h => wsL_law_in w (inlX1 w h)
theorem inlX2 : ∀ w ∈ wsX20, w ∈ wsL_law := fun _ h => List.mem_append_left _ (List.mem_append_left _ (List.mem_append_left _ (List.mem_append_left _ (List.mem_append_left _ (List.mem_append_right _ h)))))
theorem inX2 : ∀ w ∈ wsX20, w ∈ lw_tbl := fun w h => wsL_law_in w (inlX2 w h)
theorem inlX3 : ∀ w ∈ wsX30, w ∈ wsL_law := fun _ h => List.mem_append_left _ (List.mem_append_left _ (List.mem_append_left _ (List.mem_append_left _ (List.mem_append_left _ (List.mem_append_left _ (List.mem_append_left _ (List.mem_append_left _ (List.mem_append_right _ h))))))))
theorem inX3 : ∀ w ∈ wsX30, w ∈ lw_tbl := fun w h => wsL_law_in w (inlX3 w h)
theorem inlX4 : ∀ w ∈ wsX40, w ∈ wsL_law := fun _ h => List.mem_append_left _ (List.mem_append_left _ (List.mem_append_left _ (List.mem_append_left _ (List.mem_append_left _ (List.mem_append_left _ (List.mem_append_left _ (List.mem_append_right _ h)))))))
theorem inX4 : ∀ w ∈ wsX40, w ∈ lw_tbl := fun w h => wsL_law_in w (inlX4 w h)
theorem inJx145de : ∀ w ∈ wsJx145de0, w ∈ lw_tbl := by decide +kernel
theorem inJ9 : ∀ w ∈ wsJ90, w ∈ lw_tbl := by decide +kernel
theorem inJ0 : ∀ w ∈ wsJ00, w ∈ lw_tbl := by decide +kernel
theorem inJ10 : ∀ w ∈ wsJ100, w ∈ lw_tbl := by decide +kernel
theorem inJ7 : ∀ w ∈ wsJ70, w ∈ lw_tbl := by decide +kernel
end
section
set_option maxRecDepth 20000 in
theorem ggX0_init_J7_fill_53178 : GoodIn wsX0_init wsJ7_fill_53178 := goodIn_r _ [11] (by decide +kernel) (by decide +kernel)
set_option maxRecDepth 20000 in
theorem gX0_init_J7_fill_53178 : GoodIn wsX0_init (va_wsS RX0 21 yJ7_fill_53178 wsJ7_fill_53178) := goodIn_app (goodIn_of _ (by decide +kernel)) ggX0_init_J7_fill_53178
theorem dX0_init_0 : decode cX0_init 0 = .ok (.aload_n 0, 1) := by decide +kernel
theorem dX0_init_1 : decode cX0_init 1 = .ok (.invokespecial 3, 3) := by decide +kernel
theorem dX0_init_4 : decode cX0_init 4 = .ok (.aload_n 0, 1) := by decide +kernel
theorem dX0_init_5 : decode cX0_init 5 = .ok (.bipush 30, 2) := by decide +kernel
theorem dX0_init_7 : decode cX0_init 7 = .ok (.newarray .int, 2) := by decide +kernel
theorem dX0_init_9 : decode cX0_init 9 = .ok (.putfield 9, 3) := by decide +kernel
theorem dX0_init_12 : decode cX0_init 12 = .ok (.aload_n 0, 1) := by decide +kernel
theorem dX0_init_13 : decode cX0_init 13 = .ok (.bipush 30, 2) := by decide +kernel
theorem dX0_init_15 : decode cX0_init 15 = .ok (.newarray .int, 2) := by decide +kernel
theorem dX0_init_17 : decode cX0_init 17 = .ok (.putfield 15, 3) := by decide +kernel
theorem dX0_init_20 : decode cX0_init 20 = .ok (.aload_n 0, 1) := by decide +kernel
theorem dX0_init_21 : decode cX0_init 21 = .ok (.bipush 30, 2) := by decide +kernel
theorem dX0_init_23 : decode cX0_init 23 = .ok (.newarray .int, 2) := by decide +kernel
theorem dX0_init_25 : decode cX0_init 25 = .ok (.putfield 18, 3) := by decide +kernel
theorem dX0_init_28 : decode cX0_init 28 = .ok (.aload_n 0, 1) := by decide +kernel
theorem dX0_init_29 : decode cX0_init 29 = .ok (.getfield 15, 3) := by decide +kernel
theorem dX0_init_32 : decode cX0_init 32 = .ok (.bipush 60, 2) := by decide +kernel
theorem dX0_init_34 : decode cX0_init 34 = .ok (.invokestatic 21, 3) := by decide +kernel
theorem dX0_init_37 : decode cX0_init 37 = .ok (.aload_n 0, 1) := by decide +kernel
theorem dX0_init_38 : decode cX0_init 38 = .ok (.getfield 18, 3) := by decide +kernel
theorem dX0_init_41 : decode cX0_init 41 = .ok (.iconst 3, 1) := by decide +kernel
theorem dX0_init_42 : decode cX0_init 42 = .ok (.invokestatic 21, 3) := by decide +kernel
theorem dX0_init_45 : decode cX0_init 45 = .ok (.return_, 1) := by decide +kernel
theorem dX0_dayNumber_0 : decode cX0_dayNumber 0 = .ok (.iload_n 2, 1) := by decide +kernel
theorem dX0_dayNumber_1 : decode cX0_dayNumber 1 = .ok (.lookupswitch 41 #[(0, 27), (1, 34)], 27) := by decide +kernel
theorem dX0_dayNumber_28 : decode cX0_dayNumber 28 = .ok (.aload_n 0, 1) := by decide +kernel
theorem dX0_dayNumber_29 : decode cX0_dayNumber 29 = .ok (.getfield 9, 3) := by decide +kernel
theorem dX0_dayNumber_32 : decode cX0_dayNumber 32 = .ok (.iload_n 1, 1) := by decide +kernel
theorem dX0_dayNumber_33 : decode cX0_dayNumber 33 = .ok (.iaload, 1) := by decide +kernel
theorem dX0_dayNumber_34 : decode cX0_dayNumber 34 = .ok (.ireturn, 1) := by decide +kernel
theorem dX0_dayNumber_35 : decode cX0_dayNumber 35 = .ok (.aload_n 0, 1) := by decide +kernel
theorem dX0_dayNumber_36 : decode cX0_dayNumber 36 = .ok (.getfield 15, 3) := by decide +kernel
theorem dX0_dayNumber_39 : decode cX0_dayNumber 39 = .ok (.iload_n 1, 1) := by decide +kernel
theorem dX0_dayNumber_40 : decode cX0_dayNumber 40 = .ok (.iaload, 1) := by decide +kernel
theorem dX0_dayNumber_41 : decode cX0_dayNumber 41 = .ok (.ireturn, 1) := by decide +kernel
theorem dX0_dayNumber_42 : decode cX0_dayNumber 42 = .ok (.aload_n 0, 1) := by decide +kernel
theorem dX0_dayNumber_43 : decode cX0_dayNumber 43 = .ok (.getfield 18, 3) := by decide +kernel
theorem dX0_dayNumber_46 : decode cX0_dayNumber 46 = .ok (.iload_n 1, 1) := by decide +kernel
theorem dX0_dayNumber_47 : decode cX0_dayNumber 47 = .ok (.iaload, 1) := by decide +kernel
theorem dX0_dayNumber_48 : decode cX0_dayNumber 48 = .ok (.ireturn, 1) := by decide +kernel
theorem dJ9_abs_0f7a4_0 : decode cJ9_abs_0f7a4 0 = .ok (.iload_n 0, 1) := by decide +kernel
theorem dJ9_abs_0f7a4_1 : decode cJ9_abs_0f7a4 1 = .ok (.ifCond .ge 8, 3) := by decide +kernel
theorem dJ9_abs_0f7a4_4 : decode cJ9_abs_0f7a4 4 = .ok (.iload_n 0, 1) := by decide +kernel
theorem dJ9_abs_0f7a4_5 : decode cJ9_abs_0f7a4 5 = .ok (.ineg, 1) := by decide +kernel
theorem dJ9_abs_0f7a4_6 : decode cJ9_abs_0f7a4 6 = .ok (.goto 4, 3) := by decide +kernel
theorem dJ9_abs_0f7a4_9 : decode cJ9_abs_0f7a4 9 = .ok (.iload_n 0, 1) := by decide +kernel
theorem dJ9_abs_0f7a4_10 : decode cJ9_abs_0f7a4 10 = .ok (.ireturn, 1) := by decide +kernel
theorem dJ9_max_7cf53_0 : decode cJ9_max_7cf53 0 = .ok (.iload_n 0, 1) := by decide +kernel
theorem dJ9_max_7cf53_1 : decode cJ9_max_7cf53 1 = .ok (.iload_n 1, 1) := by decide +kernel
theorem dJ9_max_7cf53_2 : decode cJ9_max_7cf53 2 = .ok (.if_icmp .lt 7, 3) := by decide +kernel
theorem dJ9_max_7cf53_5 : decode cJ9_max_7cf53 5 = .ok (.iload_n 0, 1) := by decide +kernel
theorem dJ9_max_7cf53_6 : decode cJ9_max_7cf53 6 = .ok (.goto 4, 3) := by decide +kernel
theorem dJ9_max_7cf53_9 : decode cJ9_max_7cf53 9 = .ok (.iload_n 1, 1) := by decide +kernel
theorem dJ9_max_7cf53_10 : decode cJ9_max_7cf53 10 = .ok (.ireturn, 1) := by decide +kernel
theorem dJ9_min_7cf53_0 : decode cJ9_min_7cf53 0 = .ok (.iload_n 0, 1) := by decide +kernel
theorem dJ9_min_7cf53_1 : decode cJ9_min_7cf53 1 = .ok (.iload_n 1, 1) := by decide +kernel
theorem dJ9_min_7cf53_2 : decode cJ9_min_7cf53 2 = .ok (.if_icmp .gt 7, 3) := by decide +kernel
theorem dJ9_min_7cf53_5 : decode cJ9_min_7cf53 5 = .ok (.iload_n 0, 1) := by decide +kernel
theorem dJ9_min_7cf53_6 : decode cJ9_min_7cf53 6 = .ok (.goto 4, 3) := by decide +kernel
theorem dJ9_min_7cf53_9 : decode cJ9_min_7cf53 9 = .ok (.iload_n 1, 1) := by decide +kernel
theorem dJ9_min_7cf53_10 : decode cJ9_min_7cf53 10 = .ok (.ireturn, 1) := by decide +kernel
theorem dJ7_fill_53178_0 : decode cJ7_fill_53178 0 = .ok (.iconst 0, 1) := by decide +kernel
theorem dJ7_fill_53178_1 : decode cJ7_fill_53178 1 = .ok (.istore_n 2, 1) := by decide +kernel
theorem dJ7_fill_53178_2 : decode cJ7_fill_53178 2 = .ok (.aload_n 0, 1) := by decide +kernel
theorem dJ7_fill_53178_3 : decode cJ7_fill_53178 3 = .ok (.arraylength, 1) := by decide +kernel
theorem dJ7_fill_53178_4 : decode cJ7_fill_53178 4 = .ok (.istore_n 3, 1) := by decide +kernel
theorem dJ7_fill_53178_5 : decode cJ7_fill_53178 5 = .ok (.iload_n 2, 1) := by decide +kernel
theorem dJ7_fill_53178_6 : decode cJ7_fill_53178 6 = .ok (.iload_n 3, 1) := by decide +kernel
theorem dJ7_fill_53178_7 : decode cJ7_fill_53178 7 = .ok (.if_icmp .ge 13, 3) := by decide +kernel
theorem dJ7_fill_53178_10 : decode cJ7_fill_53178 10 = .ok (.aload_n 0, 1) := by decide +kernel
theorem dJ7_fill_53178_11 : decode cJ7_fill_53178 11 = .ok (.iload_n 2, 1) := by decide +kernel
theorem dJ7_fill_53178_12 : decode cJ7_fill_53178 12 = .ok (.iload_n 1, 1) := by decide +kernel
theorem dJ7_fill_53178_13 : decode cJ7_fill_53178 13 = .ok (.iastore, 1) := by decide +kernel
theorem dJ7_fill_53178_14 : decode cJ7_fill_53178 14 = .ok (.iinc 2 1, 3) := by decide +kernel
theorem dJ7_fill_53178_17 : decode cJ7_fill_53178 17 = .ok (.goto (-12), 3) := by decide +kernel
theorem dJ7_fill_53178_20 : decode cJ7_fill_53178 20 = .ok (.return_, 1) := by decide +kernel
end
section
theorem dX1_init_0 : decode cX1_init 0 = .ok (.aload_n 0, 1) := by decide +kernel
theorem dX1_init_1 : decode cX1_init 1 = .ok (.invokespecial 3, 3) := by decide +kernel
theorem dX1_init_4 : decode cX1_init 4 = .ok (.return_, 1) := by decide +kernel
set_option maxRecDepth 20000 in
theorem ggX1_becomeLeaving_X1_become : GoodIn wsX1_becomeLeaving wsX1_become := goodIn_r _ [5, 6, 7, 8, 9, 10, 11, 12, 13, 14, 15] (by decide +kernel) (by decide +kernel)
set_option maxRecDepth 20000 in
theorem gX1_becomeLeaving_X1_become : GoodIn wsX1_becomeLeaving (wsV RX1 9 RX1 yX1_become wsX1_become) := goodIn_app (goodIn_of _ (by decide +kernel)) ggX1_becomeLeaving_X1_become
theorem dX1_becomeLeaving_0 : decode cX1_becomeLeaving 0 = .ok (.aload_n 0, 1) := by decide +kernel
theorem dX1_becomeLeaving_1 : decode cX1_becomeLeaving 1 = .ok (.iconst (-1), 1) := by decide +kernel
theorem dX1_becomeLeaving_2 : decode cX1_becomeLeaving 2 = .ok (.iconst (-1), 1) := by decide +kernel
theorem dX1_becomeLeaving_3 : decode cX1_becomeLeaving 3 = .ok (.iconst (-1), 1) := by decide +kernel
theorem dX1_becomeLeaving_4 : decode cX1_becomeLeaving 4 = .ok (.iload_n 1, 1) := by decide +kernel
theorem dX1_becomeLeaving_5 : decode cX1_becomeLeaving 5 = .ok (.iload_n 2, 1) := by decide +kernel
theorem dX1_becomeLeaving_6 : decode cX1_becomeLeaving 6 = .ok (.invokevirtual 9, 3) := by decide +kernel
theorem dX1_becomeLeaving_9 : decode cX1_becomeLeaving 9 = .ok (.return_, 1) := by decide +kernel
set_option maxRecDepth 20000 in
theorem ggX1_becomeIfBetter_X1_become : GoodIn wsX1_becomeIfBetter wsX1_become := goodIn_r _ [7, 8, 9, 10, 1, 2, 11, 12, 13, 14, 15] (by decide +kernel) (by decide +kernel)
set_option maxRecDepth 20000 in
theorem gX1_becomeIfBetter_X1_become : GoodIn wsX1_becomeIfBetter (wsV RX1 9 RX1 yX1_become wsX1_become) := goodIn_app (goodIn_of _ (by decide +kernel)) ggX1_becomeIfBetter_X1_become
theorem dX1_becomeIfBetter_0 : decode cX1_becomeIfBetter 0 = .ok (.iload 4, 2) := by decide +kernel
theorem dX1_becomeIfBetter_2 : decode cX1_becomeIfBetter 2 = .ok (.aload_n 0, 1) := by decide +kernel
theorem dX1_becomeIfBetter_3 : decode cX1_becomeIfBetter 3 = .ok (.getfield 15, 3) := by decide +kernel
theorem dX1_becomeIfBetter_6 : decode cX1_becomeIfBetter 6 = .ok (.if_icmp .gt 21, 3) := by decide +kernel
theorem dX1_becomeIfBetter_9 : decode cX1_becomeIfBetter 9 = .ok (.iload 4, 2) := by decide +kernel
theorem dX1_becomeIfBetter_11 : decode cX1_becomeIfBetter 11 = .ok (.aload_n 0, 1) := by decide +kernel
theorem dX1_becomeIfBetter_12 : decode cX1_becomeIfBetter 12 = .ok (.getfield 15, 3) := by decide +kernel
theorem dX1_becomeIfBetter_15 : decode cX1_becomeIfBetter 15 = .ok (.if_icmp .ne 23, 3) := by decide +kernel
theorem dX1_becomeIfBetter_18 : decode cX1_becomeIfBetter 18 = .ok (.iload 5, 2) := by decide +kernel
theorem dX1_becomeIfBetter_20 : decode cX1_becomeIfBetter 20 = .ok (.aload_n 0, 1) := by decide +kernel
theorem dX1_becomeIfBetter_21 : decode cX1_becomeIfBetter 21 = .ok (.getfield 19, 3) := by decide +kernel
theorem dX1_becomeIfBetter_24 : decode cX1_becomeIfBetter 24 = .ok (.if_icmp .le 14, 3) := by decide +kernel
theorem dX1_becomeIfBetter_27 : decode cX1_becomeIfBetter 27 = .ok (.aload_n 0, 1) := by decide +kernel
theorem dX1_becomeIfBetter_28 : decode cX1_becomeIfBetter 28 = .ok (.iload_n 1, 1) := by decide +kernel
theorem dX1_becomeIfBetter_29 : decode cX1_becomeIfBetter 29 = .ok (.iload_n 2, 1) := by decide +kernel
theorem dX1_becomeIfBetter_30 : decode cX1_becomeIfBetter 30 = .ok (.iload_n 3, 1) := by decide +kernel
theorem dX1_becomeIfBetter_31 : decode cX1_becomeIfBetter 31 = .ok (.iload 4, 2) := by decide +kernel
theorem dX1_becomeIfBetter_33 : decode cX1_becomeIfBetter 33 = .ok (.iload 5, 2) := by decide +kernel
theorem dX1_becomeIfBetter_35 : decode cX1_becomeIfBetter 35 = .ok (.invokevirtual 9, 3) := by decide +kernel
theorem dX1_becomeIfBetter_38 : decode cX1_becomeIfBetter 38 = .ok (.return_, 1) := by decide +kernel
theorem dX1_become_0 : decode cX1_become 0 = .ok (.aload_n 0, 1) := by decide +kernel
theorem dX1_become_1 : decode cX1_become 1 = .ok (.iload_n 1, 1) := by decide +kernel
theorem dX1_become_2 : decode cX1_become 2 = .ok (.putfield 22, 3) := by decide +kernel
theorem dX1_become_5 : decode cX1_become 5 = .ok (.aload_n 0, 1) := by decide +kernel
theorem dX1_become_6 : decode cX1_become 6 = .ok (.iload_n 2, 1) := by decide +kernel
theorem dX1_become_7 : decode cX1_become 7 = .ok (.putfield 25, 3) := by decide +kernel
theorem dX1_become_10 : decode cX1_become 10 = .ok (.aload_n 0, 1) := by decide +kernel
theorem dX1_become_11 : decode cX1_become 11 = .ok (.iload_n 3, 1) := by decide +kernel
theorem dX1_become_12 : decode cX1_become 12 = .ok (.putfield 28, 3) := by decide +kernel
theorem dX1_become_15 : decode cX1_become 15 = .ok (.aload_n 0, 1) := by decide +kernel
theorem dX1_become_16 : decode cX1_become 16 = .ok (.iload 4, 2) := by decide +kernel
theorem dX1_become_18 : decode cX1_become 18 = .ok (.putfield 15, 3) := by decide +kernel
theorem dX1_become_21 : decode cX1_become 21 = .ok (.aload_n 0, 1) := by decide +kernel
theorem dX1_become_22 : decode cX1_become 22 = .ok (.iload 5, 2) := by decide +kernel
theorem dX1_become_24 : decode cX1_become 24 = .ok (.putfield 19, 3) := by decide +kernel
theorem dX1_become_27 : decode cX1_become 27 = .ok (.return_, 1) := by decide +kernel
theorem dX1_moveNumber_0 : decode cX1_moveNumber 0 = .ok (.iload_n 1, 1) := by decide +kernel
theorem dX1_moveNumber_1 : decode cX1_moveNumber 1 = .ok (.lookupswitch 37 #[(0, 27), (1, 32)], 27) := by decide +kernel
theorem dX1_moveNumber_28 : decode cX1_moveNumber 28 = .ok (.aload_n 0, 1) := by decide +kernel
theorem dX1_moveNumber_29 : decode cX1_moveNumber 29 = .ok (.getfield 22, 3) := by decide +kernel
theorem dX1_moveNumber_32 : decode cX1_moveNumber 32 = .ok (.ireturn, 1) := by decide +kernel
theorem dX1_moveNumber_33 : decode cX1_moveNumber 33 = .ok (.aload_n 0, 1) := by decide +kernel
theorem dX1_moveNumber_34 : decode cX1_moveNumber 34 = .ok (.getfield 25, 3) := by decide +kernel
theorem dX1_moveNumber_37 : decode cX1_moveNumber 37 = .ok (.ireturn, 1) := by decide +kernel
theorem dX1_moveNumber_38 : decode cX1_moveNumber 38 = .ok (.aload_n 0, 1) := by decide +kernel
theorem dX1_moveNumber_39 : decode cX1_moveNumber 39 = .ok (.getfield 28, 3) := by decide +kernel
theorem dX1_moveNumber_42 : decode cX1_moveNumber 42 = .ok (.ireturn, 1) := by decide +kernel
end
section
set_option maxRecDepth 20000 in
theorem ggX2_init_X2_startAnew : GoodIn wsX2_init wsX2_startAnew := goodIn_r _ [22, 23, 24, 25, 26, 27, 5, 6, 7, 8, 9, 10, 16, 17, 28, 29, 30, 31, 32, 33, 34, 21, 35, 11, 12, 13, 14, 15, 36, 37, 38, 39, 40, 41, 42, 43, 44, 45, 46, 47, 48, 49, 50, 51, 52, 53] (by decide +kernel) (by decide +kernel)
set_option maxRecDepth 20000 in
theorem gX2_init_X2_startAnew : GoodIn wsX2_init (wsV RX2 51 RX2 yX2_startAnew wsX2_startAnew) := goodIn_app (goodIn_of _ (by decide +kernel)) ggX2_init_X2_startAnew
theorem dX2_init_0 : decode cX2_init 0 = .ok (.aload_n 0, 1) := by decide +kernel
theorem dX2_init_1 : decode cX2_init 1 = .ok (.invokespecial 3, 3) := by decide +kernel
theorem dX2_init_4 : decode cX2_init 4 = .ok (.aload_n 0, 1) := by decide +kernel
theorem dX2_init_5 : decode cX2_init 5 = .ok (.bipush 8, 2) := by decide +kernel
theorem dX2_init_7 : decode cX2_init 7 = .ok (.newarray .int, 2) := by decide +kernel
theorem dX2_init_9 : decode cX2_init 9 = .ok (.putfield 9, 3) := by decide +kernel
theorem dX2_init_12 : decode cX2_init 12 = .ok (.aload_n 0, 1) := by decide +kernel
theorem dX2_init_13 : decode cX2_init 13 = .ok (.bipush 64, 2) := by decide +kernel
theorem dX2_init_15 : decode cX2_init 15 = .ok (.newarray .int, 2) := by decide +kernel
theorem dX2_init_17 : decode cX2_init 17 = .ok (.putfield 15, 3) := by decide +kernel
theorem dX2_init_20 : decode cX2_init 20 = .ok (.aload_n 0, 1) := by decide +kernel
theorem dX2_init_21 : decode cX2_init 21 = .ok (.bipush 64, 2) := by decide +kernel
theorem dX2_init_23 : decode cX2_init 23 = .ok (.newarray .int, 2) := by decide +kernel
theorem dX2_init_25 : decode cX2_init 25 = .ok (.putfield 18, 3) := by decide +kernel
theorem dX2_init_28 : decode cX2_init 28 = .ok (.aload_n 0, 1) := by decide +kernel
theorem dX2_init_29 : decode cX2_init 29 = .ok (.bipush 64, 2) := by decide +kernel
theorem dX2_init_31 : decode cX2_init 31 = .ok (.newarray .int, 2) := by decide +kernel
theorem dX2_init_33 : decode cX2_init 33 = .ok (.putfield 21, 3) := by decide +kernel
theorem dX2_init_36 : decode cX2_init 36 = .ok (.aload_n 0, 1) := by decide +kernel
theorem dX2_init_37 : decode cX2_init 37 = .ok (.bipush 64, 2) := by decide +kernel
theorem dX2_init_39 : decode cX2_init 39 = .ok (.newarray .int, 2) := by decide +kernel
theorem dX2_init_41 : decode cX2_init 41 = .ok (.putfield 24, 3) := by decide +kernel
theorem dX2_init_44 : decode cX2_init 44 = .ok (.aload_n 0, 1) := by decide +kernel
theorem dX2_init_45 : decode cX2_init 45 = .ok (.bipush 64, 2) := by decide +kernel
theorem dX2_init_47 : decode cX2_init 47 = .ok (.newarray .int, 2) := by decide +kernel
theorem dX2_init_49 : decode cX2_init 49 = .ok (.putfield 27, 3) := by decide +kernel
theorem dX2_init_52 : decode cX2_init 52 = .ok (.aload_n 0, 1) := by decide +kernel
theorem dX2_init_53 : decode cX2_init 53 = .ok (.bipush 64, 2) := by decide +kernel
theorem dX2_init_55 : decode cX2_init 55 = .ok (.newarray .int, 2) := by decide +kernel
theorem dX2_init_57 : decode cX2_init 57 = .ok (.putfield 30, 3) := by decide +kernel
theorem dX2_init_60 : decode cX2_init 60 = .ok (.aload_n 0, 1) := by decide +kernel
theorem dX2_init_61 : decode cX2_init 61 = .ok (.bipush 64, 2) := by decide +kernel
theorem dX2_init_63 : decode cX2_init 63 = .ok (.newarray .int, 2) := by decide +kernel
theorem dX2_init_65 : decode cX2_init 65 = .ok (.putfield 33, 3) := by decide +kernel
theorem dX2_init_68 : decode cX2_init 68 = .ok (.aload_n 0, 1) := by decide +kernel
theorem dX2_init_69 : decode cX2_init 69 = .ok (.bipush 64, 2) := by decide +kernel
theorem dX2_init_71 : decode cX2_init 71 = .ok (.newarray .int, 2) := by decide +kernel
theorem dX2_init_73 : decode cX2_init 73 = .ok (.putfield 36, 3) := by decide +kernel
theorem dX2_init_76 : decode cX2_init 76 = .ok (.aload_n 0, 1) := by decide +kernel
theorem dX2_init_77 : decode cX2_init 77 = .ok (.bipush 64, 2) := by decide +kernel
theorem dX2_init_79 : decode cX2_init 79 = .ok (.newarray .int, 2) := by decide +kernel
theorem dX2_init_81 : decode cX2_init 81 = .ok (.putfield 39, 3) := by decide +kernel
theorem dX2_init_84 : decode cX2_init 84 = .ok (.aload_n 0, 1) := by decide +kernel
theorem dX2_init_85 : decode cX2_init 85 = .ok (.bipush 64, 2) := by decide +kernel
theorem dX2_init_87 : decode cX2_init 87 = .ok (.newarray .int, 2) := by decide +kernel
theorem dX2_init_89 : decode cX2_init 89 = .ok (.putfield 42, 3) := by decide +kernel
theorem dX2_init_92 : decode cX2_init 92 = .ok (.aload_n 0, 1) := by decide +kernel
theorem dX2_init_93 : decode cX2_init 93 = .ok (.bipush 64, 2) := by decide +kernel
theorem dX2_init_95 : decode cX2_init 95 = .ok (.newarray .int, 2) := by decide +kernel
theorem dX2_init_97 : decode cX2_init 97 = .ok (.putfield 45, 3) := by decide +kernel
theorem dX2_init_100 : decode cX2_init 100 = .ok (.aload_n 0, 1) := by decide +kernel
theorem dX2_init_101 : decode cX2_init 101 = .ok (.bipush 64, 2) := by decide +kernel
theorem dX2_init_103 : decode cX2_init 103 = .ok (.newarray .int, 2) := by decide +kernel
theorem dX2_init_105 : decode cX2_init 105 = .ok (.putfield 48, 3) := by decide +kernel
theorem dX2_init_108 : decode cX2_init 108 = .ok (.aload_n 0, 1) := by decide +kernel
theorem dX2_init_109 : decode cX2_init 109 = .ok (.iload_n 1, 1) := by decide +kernel
theorem dX2_init_110 : decode cX2_init 110 = .ok (.iload_n 2, 1) := by decide +kernel
theorem dX2_init_111 : decode cX2_init 111 = .ok (.invokevirtual 51, 3) := by decide +kernel
theorem dX2_init_114 : decode cX2_init 114 = .ok (.return_, 1) := by decide +kernel
set_option maxRecDepth 20000 in
theorem ggX2_startAnew_J7_fill_53178 : GoodIn wsX2_startAnew wsJ7_fill_53178 := goodIn_r _ [17] (by decide +kernel) (by decide +kernel)
set_option maxRecDepth 20000 in
theorem gX2_startAnew_J7_fill_53178 : GoodIn wsX2_startAnew (va_wsS RX2 71 yJ7_fill_53178 wsJ7_fill_53178) := goodIn_app (goodIn_of _ (by decide +kernel)) ggX2_startAnew_J7_fill_53178
set_option maxRecDepth 20000 in
theorem ggX2_startAnew_X2_clearCrop : GoodIn wsX2_startAnew wsX2_clearCrop := goodIn_r _ [22, 23, 24, 25, 26, 27, 28, 29, 30, 31, 32, 33, 34, 35, 36, 37, 38, 39, 40, 41, 42, 43, 44, 45] (by decide +kernel) (by decide +kernel)
set_option maxRecDepth 20000 in
theorem gX2_startAnew_X2_clearCrop : GoodIn wsX2_startAnew (wsV RX2 77 RX2 yX2_clearCrop wsX2_clearCrop) := goodIn_app (goodIn_of _ (by decide +kernel)) ggX2_startAnew_X2_clearCrop
theorem dX2_startAnew_0 : decode cX2_startAnew 0 = .ok (.aload_n 0, 1) := by decide +kernel
theorem dX2_startAnew_1 : decode cX2_startAnew 1 = .ok (.iload_n 1, 1) := by decide +kernel
theorem dX2_startAnew_2 : decode cX2_startAnew 2 = .ok (.putfield 55, 3) := by decide +kernel
theorem dX2_startAnew_5 : decode cX2_startAnew 5 = .ok (.aload_n 0, 1) := by decide +kernel
theorem dX2_startAnew_6 : decode cX2_startAnew 6 = .ok (.iload_n 2, 1) := by decide +kernel
theorem dX2_startAnew_7 : decode cX2_startAnew 7 = .ok (.putfield 59, 3) := by decide +kernel
theorem dX2_startAnew_10 : decode cX2_startAnew 10 = .ok (.aload_n 0, 1) := by decide +kernel
theorem dX2_startAnew_11 : decode cX2_startAnew 11 = .ok (.iconst 0, 1) := by decide +kernel
theorem dX2_startAnew_12 : decode cX2_startAnew 12 = .ok (.putfield 62, 3) := by decide +kernel
theorem dX2_startAnew_15 : decode cX2_startAnew 15 = .ok (.aload_n 0, 1) := by decide +kernel
theorem dX2_startAnew_16 : decode cX2_startAnew 16 = .ok (.iconst 0, 1) := by decide +kernel
theorem dX2_startAnew_17 : decode cX2_startAnew 17 = .ok (.putfield 65, 3) := by decide +kernel
theorem dX2_startAnew_20 : decode cX2_startAnew 20 = .ok (.aload_n 0, 1) := by decide +kernel
theorem dX2_startAnew_21 : decode cX2_startAnew 21 = .ok (.iconst 0, 1) := by decide +kernel
theorem dX2_startAnew_22 : decode cX2_startAnew 22 = .ok (.putfield 68, 3) := by decide +kernel
theorem dX2_startAnew_25 : decode cX2_startAnew 25 = .ok (.aload_n 0, 1) := by decide +kernel
theorem dX2_startAnew_26 : decode cX2_startAnew 26 = .ok (.getfield 9, 3) := by decide +kernel
theorem dX2_startAnew_29 : decode cX2_startAnew 29 = .ok (.iconst 1, 1) := by decide +kernel
theorem dX2_startAnew_30 : decode cX2_startAnew 30 = .ok (.invokestatic 71, 3) := by decide +kernel
theorem dX2_startAnew_33 : decode cX2_startAnew 33 = .ok (.aload_n 0, 1) := by decide +kernel
theorem dX2_startAnew_34 : decode cX2_startAnew 34 = .ok (.getfield 15, 3) := by decide +kernel
theorem dX2_startAnew_37 : decode cX2_startAnew 37 = .ok (.iconst 0, 1) := by decide +kernel
theorem dX2_startAnew_38 : decode cX2_startAnew 38 = .ok (.invokestatic 71, 3) := by decide +kernel
theorem dX2_startAnew_41 : decode cX2_startAnew 41 = .ok (.aload_n 0, 1) := by decide +kernel
theorem dX2_startAnew_42 : decode cX2_startAnew 42 = .ok (.getfield 18, 3) := by decide +kernel
theorem dX2_startAnew_45 : decode cX2_startAnew 45 = .ok (.bipush 60, 2) := by decide +kernel
theorem dX2_startAnew_47 : decode cX2_startAnew 47 = .ok (.invokestatic 71, 3) := by decide +kernel
theorem dX2_startAnew_50 : decode cX2_startAnew 50 = .ok (.aload_n 0, 1) := by decide +kernel
theorem dX2_startAnew_51 : decode cX2_startAnew 51 = .ok (.getfield 21, 3) := by decide +kernel
theorem dX2_startAnew_54 : decode cX2_startAnew 54 = .ok (.iconst 2, 1) := by decide +kernel
theorem dX2_startAnew_55 : decode cX2_startAnew 55 = .ok (.invokestatic 71, 3) := by decide +kernel
theorem dX2_startAnew_58 : decode cX2_startAnew 58 = .ok (.aload_n 0, 1) := by decide +kernel
theorem dX2_startAnew_59 : decode cX2_startAnew 59 = .ok (.getfield 24, 3) := by decide +kernel
theorem dX2_startAnew_62 : decode cX2_startAnew 62 = .ok (.bipush 30, 2) := by decide +kernel
theorem dX2_startAnew_64 : decode cX2_startAnew 64 = .ok (.invokestatic 71, 3) := by decide +kernel
theorem dX2_startAnew_67 : decode cX2_startAnew 67 = .ok (.aload_n 0, 1) := by decide +kernel
theorem dX2_startAnew_68 : decode cX2_startAnew 68 = .ok (.getfield 27, 3) := by decide +kernel
theorem dX2_startAnew_71 : decode cX2_startAnew 71 = .ok (.iconst 0, 1) := by decide +kernel
theorem dX2_startAnew_72 : decode cX2_startAnew 72 = .ok (.invokestatic 71, 3) := by decide +kernel
theorem dX2_startAnew_75 : decode cX2_startAnew 75 = .ok (.aload_n 0, 1) := by decide +kernel
theorem dX2_startAnew_76 : decode cX2_startAnew 76 = .ok (.getfield 45, 3) := by decide +kernel
theorem dX2_startAnew_79 : decode cX2_startAnew 79 = .ok (.iconst 0, 1) := by decide +kernel
theorem dX2_startAnew_80 : decode cX2_startAnew 80 = .ok (.invokestatic 71, 3) := by decide +kernel
theorem dX2_startAnew_83 : decode cX2_startAnew 83 = .ok (.aload_n 0, 1) := by decide +kernel
theorem dX2_startAnew_84 : decode cX2_startAnew 84 = .ok (.getfield 48, 3) := by decide +kernel
theorem dX2_startAnew_87 : decode cX2_startAnew 87 = .ok (.iconst 0, 1) := by decide +kernel
theorem dX2_startAnew_88 : decode cX2_startAnew 88 = .ok (.invokestatic 71, 3) := by decide +kernel
theorem dX2_startAnew_91 : decode cX2_startAnew 91 = .ok (.iconst 0, 1) := by decide +kernel
theorem dX2_startAnew_92 : decode cX2_startAnew 92 = .ok (.istore_n 3, 1) := by decide +kernel
theorem dX2_startAnew_93 : decode cX2_startAnew 93 = .ok (.iload_n 3, 1) := by decide +kernel
theorem dX2_startAnew_94 : decode cX2_startAnew 94 = .ok (.bipush 64, 2) := by decide +kernel
theorem dX2_startAnew_96 : decode cX2_startAnew 96 = .ok (.if_icmp .ge 14, 3) := by decide +kernel
theorem dX2_startAnew_99 : decode cX2_startAnew 99 = .ok (.aload_n 0, 1) := by decide +kernel
theorem dX2_startAnew_100 : decode cX2_startAnew 100 = .ok (.iload_n 3, 1) := by decide +kernel
theorem dX2_startAnew_101 : decode cX2_startAnew 101 = .ok (.invokevirtual 77, 3) := by decide +kernel
theorem dX2_startAnew_104 : decode cX2_startAnew 104 = .ok (.iinc 3 1, 3) := by decide +kernel
theorem dX2_startAnew_107 : decode cX2_startAnew 107 = .ok (.goto (-14), 3) := by decide +kernel
theorem dX2_startAnew_110 : decode cX2_startAnew 110 = .ok (.return_, 1) := by decide +kernel
set_option maxRecDepth 20000 in
theorem ggX2_copyFrom_X2_copyRow : GoodIn wsX2_copyFrom wsX2_copyRow := goodIn_r _ [26, 7, 8, 9, 10] (by decide +kernel) (by decide +kernel)
set_option maxRecDepth 20000 in
theorem gX2_copyFrom_X2_copyRow : GoodIn wsX2_copyFrom (va_wsS RX2 87 yX2_copyRow wsX2_copyRow) := goodIn_app (goodIn_of _ (by decide +kernel)) ggX2_copyFrom_X2_copyRow
theorem dX2_copyFrom_0 : decode cX2_copyFrom 0 = .ok (.aload_n 0, 1) := by decide +kernel
theorem dX2_copyFrom_1 : decode cX2_copyFrom 1 = .ok (.aload_n 1, 1) := by decide +kernel
theorem dX2_copyFrom_2 : decode cX2_copyFrom 2 = .ok (.getfield 55, 3) := by decide +kernel
theorem dX2_copyFrom_5 : decode cX2_copyFrom 5 = .ok (.putfield 55, 3) := by decide +kernel
theorem dX2_copyFrom_8 : decode cX2_copyFrom 8 = .ok (.aload_n 0, 1) := by decide +kernel
theorem dX2_copyFrom_9 : decode cX2_copyFrom 9 = .ok (.aload_n 1, 1) := by decide +kernel
theorem dX2_copyFrom_10 : decode cX2_copyFrom 10 = .ok (.getfield 59, 3) := by decide +kernel
theorem dX2_copyFrom_13 : decode cX2_copyFrom 13 = .ok (.putfield 59, 3) := by decide +kernel
theorem dX2_copyFrom_16 : decode cX2_copyFrom 16 = .ok (.aload_n 0, 1) := by decide +kernel
theorem dX2_copyFrom_17 : decode cX2_copyFrom 17 = .ok (.aload_n 1, 1) := by decide +kernel
theorem dX2_copyFrom_18 : decode cX2_copyFrom 18 = .ok (.getfield 62, 3) := by decide +kernel
theorem dX2_copyFrom_21 : decode cX2_copyFrom 21 = .ok (.putfield 62, 3) := by decide +kernel
theorem dX2_copyFrom_24 : decode cX2_copyFrom 24 = .ok (.aload_n 0, 1) := by decide +kernel
theorem dX2_copyFrom_25 : decode cX2_copyFrom 25 = .ok (.aload_n 1, 1) := by decide +kernel
theorem dX2_copyFrom_26 : decode cX2_copyFrom 26 = .ok (.getfield 65, 3) := by decide +kernel
theorem dX2_copyFrom_29 : decode cX2_copyFrom 29 = .ok (.putfield 65, 3) := by decide +kernel
theorem dX2_copyFrom_32 : decode cX2_copyFrom 32 = .ok (.aload_n 0, 1) := by decide +kernel
theorem dX2_copyFrom_33 : decode cX2_copyFrom 33 = .ok (.aload_n 1, 1) := by decide +kernel
theorem dX2_copyFrom_34 : decode cX2_copyFrom 34 = .ok (.getfield 68, 3) := by decide +kernel
theorem dX2_copyFrom_37 : decode cX2_copyFrom 37 = .ok (.putfield 68, 3) := by decide +kernel
theorem dX2_copyFrom_40 : decode cX2_copyFrom 40 = .ok (.aload_n 1, 1) := by decide +kernel
theorem dX2_copyFrom_41 : decode cX2_copyFrom 41 = .ok (.getfield 9, 3) := by decide +kernel
theorem dX2_copyFrom_44 : decode cX2_copyFrom 44 = .ok (.iconst 0, 1) := by decide +kernel
theorem dX2_copyFrom_45 : decode cX2_copyFrom 45 = .ok (.aload_n 0, 1) := by decide +kernel
theorem dX2_copyFrom_46 : decode cX2_copyFrom 46 = .ok (.getfield 9, 3) := by decide +kernel
theorem dX2_copyFrom_49 : decode cX2_copyFrom 49 = .ok (.iconst 0, 1) := by decide +kernel
theorem dX2_copyFrom_50 : decode cX2_copyFrom 50 = .ok (.bipush 8, 2) := by decide +kernel
theorem dX2_copyFrom_52 : decode cX2_copyFrom 52 = .ok (.invokestatic 81, 3) := by decide +kernel
theorem dX2_copyFrom_55 : decode cX2_copyFrom 55 = .ok (.aload_n 1, 1) := by decide +kernel
theorem dX2_copyFrom_56 : decode cX2_copyFrom 56 = .ok (.getfield 15, 3) := by decide +kernel
theorem dX2_copyFrom_59 : decode cX2_copyFrom 59 = .ok (.aload_n 0, 1) := by decide +kernel
theorem dX2_copyFrom_60 : decode cX2_copyFrom 60 = .ok (.getfield 15, 3) := by decide +kernel
theorem dX2_copyFrom_63 : decode cX2_copyFrom 63 = .ok (.invokestatic 87, 3) := by decide +kernel
theorem dX2_copyFrom_66 : decode cX2_copyFrom 66 = .ok (.aload_n 1, 1) := by decide +kernel
theorem dX2_copyFrom_67 : decode cX2_copyFrom 67 = .ok (.getfield 18, 3) := by decide +kernel
theorem dX2_copyFrom_70 : decode cX2_copyFrom 70 = .ok (.aload_n 0, 1) := by decide +kernel
theorem dX2_copyFrom_71 : decode cX2_copyFrom 71 = .ok (.getfield 18, 3) := by decide +kernel
theorem dX2_copyFrom_74 : decode cX2_copyFrom 74 = .ok (.invokestatic 87, 3) := by decide +kernel
theorem dX2_copyFrom_77 : decode cX2_copyFrom 77 = .ok (.aload_n 1, 1) := by decide +kernel
theorem dX2_copyFrom_78 : decode cX2_copyFrom 78 = .ok (.getfield 21, 3) := by decide +kernel
theorem dX2_copyFrom_81 : decode cX2_copyFrom 81 = .ok (.aload_n 0, 1) := by decide +kernel
theorem dX2_copyFrom_82 : decode cX2_copyFrom 82 = .ok (.getfield 21, 3) := by decide +kernel
theorem dX2_copyFrom_85 : decode cX2_copyFrom 85 = .ok (.invokestatic 87, 3) := by decide +kernel
theorem dX2_copyFrom_88 : decode cX2_copyFrom 88 = .ok (.aload_n 1, 1) := by decide +kernel
theorem dX2_copyFrom_89 : decode cX2_copyFrom 89 = .ok (.getfield 24, 3) := by decide +kernel
theorem dX2_copyFrom_92 : decode cX2_copyFrom 92 = .ok (.aload_n 0, 1) := by decide +kernel
theorem dX2_copyFrom_93 : decode cX2_copyFrom 93 = .ok (.getfield 24, 3) := by decide +kernel
theorem dX2_copyFrom_96 : decode cX2_copyFrom 96 = .ok (.invokestatic 87, 3) := by decide +kernel
theorem dX2_copyFrom_99 : decode cX2_copyFrom 99 = .ok (.aload_n 1, 1) := by decide +kernel
theorem dX2_copyFrom_100 : decode cX2_copyFrom 100 = .ok (.getfield 27, 3) := by decide +kernel
theorem dX2_copyFrom_103 : decode cX2_copyFrom 103 = .ok (.aload_n 0, 1) := by decide +kernel
theorem dX2_copyFrom_104 : decode cX2_copyFrom 104 = .ok (.getfield 27, 3) := by decide +kernel
theorem dX2_copyFrom_107 : decode cX2_copyFrom 107 = .ok (.invokestatic 87, 3) := by decide +kernel
theorem dX2_copyFrom_110 : decode cX2_copyFrom 110 = .ok (.aload_n 1, 1) := by decide +kernel
theorem dX2_copyFrom_111 : decode cX2_copyFrom 111 = .ok (.getfield 30, 3) := by decide +kernel
theorem dX2_copyFrom_114 : decode cX2_copyFrom 114 = .ok (.aload_n 0, 1) := by decide +kernel
theorem dX2_copyFrom_115 : decode cX2_copyFrom 115 = .ok (.getfield 30, 3) := by decide +kernel
theorem dX2_copyFrom_118 : decode cX2_copyFrom 118 = .ok (.invokestatic 87, 3) := by decide +kernel
theorem dX2_copyFrom_121 : decode cX2_copyFrom 121 = .ok (.aload_n 1, 1) := by decide +kernel
theorem dX2_copyFrom_122 : decode cX2_copyFrom 122 = .ok (.getfield 33, 3) := by decide +kernel
theorem dX2_copyFrom_125 : decode cX2_copyFrom 125 = .ok (.aload_n 0, 1) := by decide +kernel
theorem dX2_copyFrom_126 : decode cX2_copyFrom 126 = .ok (.getfield 33, 3) := by decide +kernel
theorem dX2_copyFrom_129 : decode cX2_copyFrom 129 = .ok (.invokestatic 87, 3) := by decide +kernel
theorem dX2_copyFrom_132 : decode cX2_copyFrom 132 = .ok (.aload_n 1, 1) := by decide +kernel
theorem dX2_copyFrom_133 : decode cX2_copyFrom 133 = .ok (.getfield 36, 3) := by decide +kernel
theorem dX2_copyFrom_136 : decode cX2_copyFrom 136 = .ok (.aload_n 0, 1) := by decide +kernel
theorem dX2_copyFrom_137 : decode cX2_copyFrom 137 = .ok (.getfield 36, 3) := by decide +kernel
theorem dX2_copyFrom_140 : decode cX2_copyFrom 140 = .ok (.invokestatic 87, 3) := by decide +kernel
theorem dX2_copyFrom_143 : decode cX2_copyFrom 143 = .ok (.aload_n 1, 1) := by decide +kernel
theorem dX2_copyFrom_144 : decode cX2_copyFrom 144 = .ok (.getfield 39, 3) := by decide +kernel
theorem dX2_copyFrom_147 : decode cX2_copyFrom 147 = .ok (.aload_n 0, 1) := by decide +kernel
theorem dX2_copyFrom_148 : decode cX2_copyFrom 148 = .ok (.getfield 39, 3) := by decide +kernel
theorem dX2_copyFrom_151 : decode cX2_copyFrom 151 = .ok (.invokestatic 87, 3) := by decide +kernel
theorem dX2_copyFrom_154 : decode cX2_copyFrom 154 = .ok (.aload_n 1, 1) := by decide +kernel
theorem dX2_copyFrom_155 : decode cX2_copyFrom 155 = .ok (.getfield 42, 3) := by decide +kernel
theorem dX2_copyFrom_158 : decode cX2_copyFrom 158 = .ok (.aload_n 0, 1) := by decide +kernel
theorem dX2_copyFrom_159 : decode cX2_copyFrom 159 = .ok (.getfield 42, 3) := by decide +kernel
theorem dX2_copyFrom_162 : decode cX2_copyFrom 162 = .ok (.invokestatic 87, 3) := by decide +kernel
theorem dX2_copyFrom_165 : decode cX2_copyFrom 165 = .ok (.aload_n 1, 1) := by decide +kernel
theorem dX2_copyFrom_166 : decode cX2_copyFrom 166 = .ok (.getfield 45, 3) := by decide +kernel
theorem dX2_copyFrom_169 : decode cX2_copyFrom 169 = .ok (.aload_n 0, 1) := by decide +kernel
theorem dX2_copyFrom_170 : decode cX2_copyFrom 170 = .ok (.getfield 45, 3) := by decide +kernel
theorem dX2_copyFrom_173 : decode cX2_copyFrom 173 = .ok (.invokestatic 87, 3) := by decide +kernel
theorem dX2_copyFrom_176 : decode cX2_copyFrom 176 = .ok (.aload_n 1, 1) := by decide +kernel
theorem dX2_copyFrom_177 : decode cX2_copyFrom 177 = .ok (.getfield 48, 3) := by decide +kernel
theorem dX2_copyFrom_180 : decode cX2_copyFrom 180 = .ok (.aload_n 0, 1) := by decide +kernel
theorem dX2_copyFrom_181 : decode cX2_copyFrom 181 = .ok (.getfield 48, 3) := by decide +kernel
theorem dX2_copyFrom_184 : decode cX2_copyFrom 184 = .ok (.invokestatic 87, 3) := by decide +kernel
theorem dX2_copyFrom_187 : decode cX2_copyFrom 187 = .ok (.return_, 1) := by decide +kernel
theorem dX2_copyRow_0 : decode cX2_copyRow 0 = .ok (.aload_n 0, 1) := by decide +kernel
theorem dX2_copyRow_1 : decode cX2_copyRow 1 = .ok (.iconst 0, 1) := by decide +kernel
theorem dX2_copyRow_2 : decode cX2_copyRow 2 = .ok (.aload_n 1, 1) := by decide +kernel
theorem dX2_copyRow_3 : decode cX2_copyRow 3 = .ok (.iconst 0, 1) := by decide +kernel
theorem dX2_copyRow_4 : decode cX2_copyRow 4 = .ok (.bipush 64, 2) := by decide +kernel
theorem dX2_copyRow_6 : decode cX2_copyRow 6 = .ok (.invokestatic 81, 3) := by decide +kernel
theorem dX2_copyRow_9 : decode cX2_copyRow 9 = .ok (.return_, 1) := by decide +kernel
theorem dX2_cells_0 : decode cX2_cells 0 = .ok (.aload_n 0, 1) := by decide +kernel
theorem dX2_cells_1 : decode cX2_cells 1 = .ok (.getfield 55, 3) := by decide +kernel
theorem dX2_cells_4 : decode cX2_cells 4 = .ok (.aload_n 0, 1) := by decide +kernel
theorem dX2_cells_5 : decode cX2_cells 5 = .ok (.getfield 59, 3) := by decide +kernel
theorem dX2_cells_8 : decode cX2_cells 8 = .ok (.imul, 1) := by decide +kernel
theorem dX2_cells_9 : decode cX2_cells 9 = .ok (.ireturn, 1) := by decide +kernel
theorem dX2_hasField_0 : decode cX2_hasField 0 = .ok (.iload_n 1, 1) := by decide +kernel
theorem dX2_hasField_1 : decode cX2_hasField 1 = .ok (.ifCond .lt 27, 3) := by decide +kernel
theorem dX2_hasField_4 : decode cX2_hasField 4 = .ok (.iload_n 1, 1) := by decide +kernel
theorem dX2_hasField_5 : decode cX2_hasField 5 = .ok (.aload_n 0, 1) := by decide +kernel
theorem dX2_hasField_6 : decode cX2_hasField 6 = .ok (.getfield 55, 3) := by decide +kernel
theorem dX2_hasField_9 : decode cX2_hasField 9 = .ok (.if_icmp .ge 19, 3) := by decide +kernel
theorem dX2_hasField_12 : decode cX2_hasField 12 = .ok (.iload_n 2, 1) := by decide +kernel
theorem dX2_hasField_13 : decode cX2_hasField 13 = .ok (.ifCond .lt 15, 3) := by decide +kernel
theorem dX2_hasField_16 : decode cX2_hasField 16 = .ok (.iload_n 2, 1) := by decide +kernel
theorem dX2_hasField_17 : decode cX2_hasField 17 = .ok (.aload_n 0, 1) := by decide +kernel
theorem dX2_hasField_18 : decode cX2_hasField 18 = .ok (.getfield 59, 3) := by decide +kernel
theorem dX2_hasField_21 : decode cX2_hasField 21 = .ok (.if_icmp .ge 7, 3) := by decide +kernel
theorem dX2_hasField_24 : decode cX2_hasField 24 = .ok (.iconst 1, 1) := by decide +kernel
theorem dX2_hasField_25 : decode cX2_hasField 25 = .ok (.goto 4, 3) := by decide +kernel
theorem dX2_hasField_28 : decode cX2_hasField 28 = .ok (.iconst 0, 1) := by decide +kernel
theorem dX2_hasField_29 : decode cX2_hasField 29 = .ok (.ireturn, 1) := by decide +kernel
theorem dX2_cellOf_0 : decode cX2_cellOf 0 = .ok (.iload_n 1, 1) := by decide +kernel
theorem dX2_cellOf_1 : decode cX2_cellOf 1 = .ok (.aload_n 0, 1) := by decide +kernel
theorem dX2_cellOf_2 : decode cX2_cellOf 2 = .ok (.getfield 59, 3) := by decide +kernel
theorem dX2_cellOf_5 : decode cX2_cellOf 5 = .ok (.imul, 1) := by decide +kernel
theorem dX2_cellOf_6 : decode cX2_cellOf 6 = .ok (.iload_n 2, 1) := by decide +kernel
theorem dX2_cellOf_7 : decode cX2_cellOf 7 = .ok (.iadd, 1) := by decide +kernel
theorem dX2_cellOf_8 : decode cX2_cellOf 8 = .ok (.ireturn, 1) := by decide +kernel
theorem dX2_fieldNumber_0 : decode cX2_fieldNumber 0 = .ok (.iload_n 2, 1) := by decide +kernel
theorem dX2_fieldNumber_1 : decode cX2_fieldNumber 1 = .ok (.tableswitch 136 0 10 #[59, 66, 73, 80, 87, 94, 101, 108, 115, 122, 129], 59) := by decide +kernel
theorem dX2_fieldNumber_60 : decode cX2_fieldNumber 60 = .ok (.aload_n 0, 1) := by decide +kernel
theorem dX2_fieldNumber_61 : decode cX2_fieldNumber 61 = .ok (.getfield 15, 3) := by decide +kernel
theorem dX2_fieldNumber_64 : decode cX2_fieldNumber 64 = .ok (.iload_n 1, 1) := by decide +kernel
theorem dX2_fieldNumber_65 : decode cX2_fieldNumber 65 = .ok (.iaload, 1) := by decide +kernel
theorem dX2_fieldNumber_66 : decode cX2_fieldNumber 66 = .ok (.ireturn, 1) := by decide +kernel
theorem dX2_fieldNumber_67 : decode cX2_fieldNumber 67 = .ok (.aload_n 0, 1) := by decide +kernel
theorem dX2_fieldNumber_68 : decode cX2_fieldNumber 68 = .ok (.getfield 18, 3) := by decide +kernel
theorem dX2_fieldNumber_71 : decode cX2_fieldNumber 71 = .ok (.iload_n 1, 1) := by decide +kernel
theorem dX2_fieldNumber_72 : decode cX2_fieldNumber 72 = .ok (.iaload, 1) := by decide +kernel
theorem dX2_fieldNumber_73 : decode cX2_fieldNumber 73 = .ok (.ireturn, 1) := by decide +kernel
theorem dX2_fieldNumber_74 : decode cX2_fieldNumber 74 = .ok (.aload_n 0, 1) := by decide +kernel
theorem dX2_fieldNumber_75 : decode cX2_fieldNumber 75 = .ok (.getfield 21, 3) := by decide +kernel
theorem dX2_fieldNumber_78 : decode cX2_fieldNumber 78 = .ok (.iload_n 1, 1) := by decide +kernel
theorem dX2_fieldNumber_79 : decode cX2_fieldNumber 79 = .ok (.iaload, 1) := by decide +kernel
theorem dX2_fieldNumber_80 : decode cX2_fieldNumber 80 = .ok (.ireturn, 1) := by decide +kernel
theorem dX2_fieldNumber_81 : decode cX2_fieldNumber 81 = .ok (.aload_n 0, 1) := by decide +kernel
theorem dX2_fieldNumber_82 : decode cX2_fieldNumber 82 = .ok (.getfield 24, 3) := by decide +kernel
theorem dX2_fieldNumber_85 : decode cX2_fieldNumber 85 = .ok (.iload_n 1, 1) := by decide +kernel
theorem dX2_fieldNumber_86 : decode cX2_fieldNumber 86 = .ok (.iaload, 1) := by decide +kernel
theorem dX2_fieldNumber_87 : decode cX2_fieldNumber 87 = .ok (.ireturn, 1) := by decide +kernel
theorem dX2_fieldNumber_88 : decode cX2_fieldNumber 88 = .ok (.aload_n 0, 1) := by decide +kernel
theorem dX2_fieldNumber_89 : decode cX2_fieldNumber 89 = .ok (.getfield 27, 3) := by decide +kernel
theorem dX2_fieldNumber_92 : decode cX2_fieldNumber 92 = .ok (.iload_n 1, 1) := by decide +kernel
theorem dX2_fieldNumber_93 : decode cX2_fieldNumber 93 = .ok (.iaload, 1) := by decide +kernel
theorem dX2_fieldNumber_94 : decode cX2_fieldNumber 94 = .ok (.ireturn, 1) := by decide +kernel
theorem dX2_fieldNumber_95 : decode cX2_fieldNumber 95 = .ok (.aload_n 0, 1) := by decide +kernel
theorem dX2_fieldNumber_96 : decode cX2_fieldNumber 96 = .ok (.getfield 30, 3) := by decide +kernel
theorem dX2_fieldNumber_99 : decode cX2_fieldNumber 99 = .ok (.iload_n 1, 1) := by decide +kernel
theorem dX2_fieldNumber_100 : decode cX2_fieldNumber 100 = .ok (.iaload, 1) := by decide +kernel
theorem dX2_fieldNumber_101 : decode cX2_fieldNumber 101 = .ok (.ireturn, 1) := by decide +kernel
theorem dX2_fieldNumber_102 : decode cX2_fieldNumber 102 = .ok (.aload_n 0, 1) := by decide +kernel
theorem dX2_fieldNumber_103 : decode cX2_fieldNumber 103 = .ok (.getfield 33, 3) := by decide +kernel
theorem dX2_fieldNumber_106 : decode cX2_fieldNumber 106 = .ok (.iload_n 1, 1) := by decide +kernel
theorem dX2_fieldNumber_107 : decode cX2_fieldNumber 107 = .ok (.iaload, 1) := by decide +kernel
theorem dX2_fieldNumber_108 : decode cX2_fieldNumber 108 = .ok (.ireturn, 1) := by decide +kernel
theorem dX2_fieldNumber_109 : decode cX2_fieldNumber 109 = .ok (.aload_n 0, 1) := by decide +kernel
theorem dX2_fieldNumber_110 : decode cX2_fieldNumber 110 = .ok (.getfield 36, 3) := by decide +kernel
theorem dX2_fieldNumber_113 : decode cX2_fieldNumber 113 = .ok (.iload_n 1, 1) := by decide +kernel
theorem dX2_fieldNumber_114 : decode cX2_fieldNumber 114 = .ok (.iaload, 1) := by decide +kernel
theorem dX2_fieldNumber_115 : decode cX2_fieldNumber 115 = .ok (.ireturn, 1) := by decide +kernel
theorem dX2_fieldNumber_116 : decode cX2_fieldNumber 116 = .ok (.aload_n 0, 1) := by decide +kernel
theorem dX2_fieldNumber_117 : decode cX2_fieldNumber 117 = .ok (.getfield 39, 3) := by decide +kernel
theorem dX2_fieldNumber_120 : decode cX2_fieldNumber 120 = .ok (.iload_n 1, 1) := by decide +kernel
theorem dX2_fieldNumber_121 : decode cX2_fieldNumber 121 = .ok (.iaload, 1) := by decide +kernel
theorem dX2_fieldNumber_122 : decode cX2_fieldNumber 122 = .ok (.ireturn, 1) := by decide +kernel
theorem dX2_fieldNumber_123 : decode cX2_fieldNumber 123 = .ok (.aload_n 0, 1) := by decide +kernel
theorem dX2_fieldNumber_124 : decode cX2_fieldNumber 124 = .ok (.getfield 42, 3) := by decide +kernel
theorem dX2_fieldNumber_127 : decode cX2_fieldNumber 127 = .ok (.iload_n 1, 1) := by decide +kernel
theorem dX2_fieldNumber_128 : decode cX2_fieldNumber 128 = .ok (.iaload, 1) := by decide +kernel
theorem dX2_fieldNumber_129 : decode cX2_fieldNumber 129 = .ok (.ireturn, 1) := by decide +kernel
theorem dX2_fieldNumber_130 : decode cX2_fieldNumber 130 = .ok (.aload_n 0, 1) := by decide +kernel
theorem dX2_fieldNumber_131 : decode cX2_fieldNumber 131 = .ok (.getfield 45, 3) := by decide +kernel
theorem dX2_fieldNumber_134 : decode cX2_fieldNumber 134 = .ok (.iload_n 1, 1) := by decide +kernel
theorem dX2_fieldNumber_135 : decode cX2_fieldNumber 135 = .ok (.iaload, 1) := by decide +kernel
theorem dX2_fieldNumber_136 : decode cX2_fieldNumber 136 = .ok (.ireturn, 1) := by decide +kernel
theorem dX2_fieldNumber_137 : decode cX2_fieldNumber 137 = .ok (.aload_n 0, 1) := by decide +kernel
theorem dX2_fieldNumber_138 : decode cX2_fieldNumber 138 = .ok (.getfield 48, 3) := by decide +kernel
theorem dX2_fieldNumber_141 : decode cX2_fieldNumber 141 = .ok (.iload_n 1, 1) := by decide +kernel
theorem dX2_fieldNumber_142 : decode cX2_fieldNumber 142 = .ok (.iaload, 1) := by decide +kernel
theorem dX2_fieldNumber_143 : decode cX2_fieldNumber 143 = .ok (.ireturn, 1) := by decide +kernel
set_option maxRecDepth 20000 in
theorem ggX2_crops_X2_sumOf : GoodIn wsX2_crops wsX2_sumOf := goodIn_r _ [6, 7, 8, 9, 5, 10, 11, 12, 13, 14, 15, 16, 17, 18, 19, 20, 21, 22, 23, 24, 25, 26, 27, 28, 29, 30] (by decide +kernel) (by decide +kernel)
set_option maxRecDepth 20000 in
theorem gX2_crops_X2_sumOf : GoodIn wsX2_crops (wsV RX2 91 RX2 yX2_sumOf wsX2_sumOf) := goodIn_app (goodIn_of _ (by decide +kernel)) ggX2_crops_X2_sumOf
theorem dX2_crops_0 : decode cX2_crops 0 = .ok (.aload_n 0, 1) := by decide +kernel
theorem dX2_crops_1 : decode cX2_crops 1 = .ok (.aload_n 0, 1) := by decide +kernel
theorem dX2_crops_2 : decode cX2_crops 2 = .ok (.getfield 30, 3) := by decide +kernel
theorem dX2_crops_5 : decode cX2_crops 5 = .ok (.invokevirtual 91, 3) := by decide +kernel
theorem dX2_crops_8 : decode cX2_crops 8 = .ok (.ireturn, 1) := by decide +kernel
set_option maxRecDepth 20000 in
theorem ggX2_allHardness_X2_sumOf : GoodIn wsX2_allHardness wsX2_sumOf := goodIn_r _ [6, 7, 8, 9, 5, 10, 11, 12, 13, 14, 15, 16, 17, 18, 19, 20, 21, 22, 23, 24, 25, 26, 27, 28, 29, 30] (by decide +kernel) (by decide +kernel)
set_option maxRecDepth 20000 in
theorem gX2_allHardness_X2_sumOf : GoodIn wsX2_allHardness (wsV RX2 91 RX2 yX2_sumOf wsX2_sumOf) := goodIn_app (goodIn_of _ (by decide +kernel)) ggX2_allHardness_X2_sumOf
theorem dX2_allHardness_0 : decode cX2_allHardness 0 = .ok (.aload_n 0, 1) := by decide +kernel
theorem dX2_allHardness_1 : decode cX2_allHardness 1 = .ok (.aload_n 0, 1) := by decide +kernel
theorem dX2_allHardness_2 : decode cX2_allHardness 2 = .ok (.getfield 36, 3) := by decide +kernel
theorem dX2_allHardness_5 : decode cX2_allHardness 5 = .ok (.invokevirtual 91, 3) := by decide +kernel
theorem dX2_allHardness_8 : decode cX2_allHardness 8 = .ok (.ireturn, 1) := by decide +kernel
set_option maxRecDepth 20000 in
theorem ggX2_allDepths_X2_sumOf : GoodIn wsX2_allDepths wsX2_sumOf := goodIn_r _ [6, 7, 8, 9, 5, 10, 11, 12, 13, 14, 15, 16, 17, 18, 19, 20, 21, 22, 23, 24, 25, 26, 27, 28, 29, 30] (by decide +kernel) (by decide +kernel)
set_option maxRecDepth 20000 in
theorem gX2_allDepths_X2_sumOf : GoodIn wsX2_allDepths (wsV RX2 91 RX2 yX2_sumOf wsX2_sumOf) := goodIn_app (goodIn_of _ (by decide +kernel)) ggX2_allDepths_X2_sumOf
theorem dX2_allDepths_0 : decode cX2_allDepths 0 = .ok (.aload_n 0, 1) := by decide +kernel
theorem dX2_allDepths_1 : decode cX2_allDepths 1 = .ok (.aload_n 0, 1) := by decide +kernel
theorem dX2_allDepths_2 : decode cX2_allDepths 2 = .ok (.getfield 15, 3) := by decide +kernel
theorem dX2_allDepths_5 : decode cX2_allDepths 5 = .ok (.invokevirtual 91, 3) := by decide +kernel
theorem dX2_allDepths_8 : decode cX2_allDepths 8 = .ok (.ireturn, 1) := by decide +kernel
set_option maxRecDepth 20000 in
theorem ggX2_sumOf_X2_cells : GoodIn wsX2_sumOf wsX2_cells := goodIn_r _ [5, 6, 7, 8, 9, 10, 11, 12, 13, 14, 15, 16, 17, 18, 19, 20, 21, 22, 23, 24, 25] (by decide +kernel) (by decide +kernel)
set_option maxRecDepth 20000 in
theorem gX2_sumOf_X2_cells : GoodIn wsX2_sumOf (wsV RX2 95 RX2 yX2_cells wsX2_cells) := goodIn_app (goodIn_of _ (by decide +kernel)) ggX2_sumOf_X2_cells
theorem dX2_sumOf_0 : decode cX2_sumOf 0 = .ok (.iconst 0, 1) := by decide +kernel
theorem dX2_sumOf_1 : decode cX2_sumOf 1 = .ok (.istore_n 2, 1) := by decide +kernel
theorem dX2_sumOf_2 : decode cX2_sumOf 2 = .ok (.iconst 0, 1) := by decide +kernel
theorem dX2_sumOf_3 : decode cX2_sumOf 3 = .ok (.istore_n 3, 1) := by decide +kernel
theorem dX2_sumOf_4 : decode cX2_sumOf 4 = .ok (.iload_n 3, 1) := by decide +kernel
theorem dX2_sumOf_5 : decode cX2_sumOf 5 = .ok (.aload_n 0, 1) := by decide +kernel
theorem dX2_sumOf_6 : decode cX2_sumOf 6 = .ok (.invokevirtual 95, 3) := by decide +kernel
theorem dX2_sumOf_9 : decode cX2_sumOf 9 = .ok (.if_icmp .ge 15, 3) := by decide +kernel
theorem dX2_sumOf_12 : decode cX2_sumOf 12 = .ok (.iload_n 2, 1) := by decide +kernel
theorem dX2_sumOf_13 : decode cX2_sumOf 13 = .ok (.aload_n 1, 1) := by decide +kernel
theorem dX2_sumOf_14 : decode cX2_sumOf 14 = .ok (.iload_n 3, 1) := by decide +kernel
theorem dX2_sumOf_15 : decode cX2_sumOf 15 = .ok (.iaload, 1) := by decide +kernel
theorem dX2_sumOf_16 : decode cX2_sumOf 16 = .ok (.iadd, 1) := by decide +kernel
theorem dX2_sumOf_17 : decode cX2_sumOf 17 = .ok (.istore_n 2, 1) := by decide +kernel
theorem dX2_sumOf_18 : decode cX2_sumOf 18 = .ok (.iinc 3 1, 3) := by decide +kernel
theorem dX2_sumOf_21 : decode cX2_sumOf 21 = .ok (.goto (-17), 3) := by decide +kernel
theorem dX2_sumOf_24 : decode cX2_sumOf 24 = .ok (.iload_n 2, 1) := by decide +kernel
theorem dX2_sumOf_25 : decode cX2_sumOf 25 = .ok (.ireturn, 1) := by decide +kernel
theorem dX2_clearCrop_0 : decode cX2_clearCrop 0 = .ok (.aload_n 0, 1) := by decide +kernel
theorem dX2_clearCrop_1 : decode cX2_clearCrop 1 = .ok (.getfield 30, 3) := by decide +kernel
theorem dX2_clearCrop_4 : decode cX2_clearCrop 4 = .ok (.iload_n 1, 1) := by decide +kernel
theorem dX2_clearCrop_5 : decode cX2_clearCrop 5 = .ok (.iconst 0, 1) := by decide +kernel
theorem dX2_clearCrop_6 : decode cX2_clearCrop 6 = .ok (.iastore, 1) := by decide +kernel
theorem dX2_clearCrop_7 : decode cX2_clearCrop 7 = .ok (.aload_n 0, 1) := by decide +kernel
theorem dX2_clearCrop_8 : decode cX2_clearCrop 8 = .ok (.getfield 33, 3) := by decide +kernel
theorem dX2_clearCrop_11 : decode cX2_clearCrop 11 = .ok (.iload_n 1, 1) := by decide +kernel
theorem dX2_clearCrop_12 : decode cX2_clearCrop 12 = .ok (.iconst 0, 1) := by decide +kernel
theorem dX2_clearCrop_13 : decode cX2_clearCrop 13 = .ok (.iastore, 1) := by decide +kernel
theorem dX2_clearCrop_14 : decode cX2_clearCrop 14 = .ok (.aload_n 0, 1) := by decide +kernel
theorem dX2_clearCrop_15 : decode cX2_clearCrop 15 = .ok (.getfield 36, 3) := by decide +kernel
theorem dX2_clearCrop_18 : decode cX2_clearCrop 18 = .ok (.iload_n 1, 1) := by decide +kernel
theorem dX2_clearCrop_19 : decode cX2_clearCrop 19 = .ok (.iconst 0, 1) := by decide +kernel
theorem dX2_clearCrop_20 : decode cX2_clearCrop 20 = .ok (.iastore, 1) := by decide +kernel
theorem dX2_clearCrop_21 : decode cX2_clearCrop 21 = .ok (.aload_n 0, 1) := by decide +kernel
theorem dX2_clearCrop_22 : decode cX2_clearCrop 22 = .ok (.getfield 39, 3) := by decide +kernel
theorem dX2_clearCrop_25 : decode cX2_clearCrop 25 = .ok (.iload_n 1, 1) := by decide +kernel
theorem dX2_clearCrop_26 : decode cX2_clearCrop 26 = .ok (.iconst 0, 1) := by decide +kernel
theorem dX2_clearCrop_27 : decode cX2_clearCrop 27 = .ok (.iastore, 1) := by decide +kernel
theorem dX2_clearCrop_28 : decode cX2_clearCrop 28 = .ok (.aload_n 0, 1) := by decide +kernel
theorem dX2_clearCrop_29 : decode cX2_clearCrop 29 = .ok (.getfield 42, 3) := by decide +kernel
theorem dX2_clearCrop_32 : decode cX2_clearCrop 32 = .ok (.iload_n 1, 1) := by decide +kernel
theorem dX2_clearCrop_33 : decode cX2_clearCrop 33 = .ok (.iconst 0, 1) := by decide +kernel
theorem dX2_clearCrop_34 : decode cX2_clearCrop 34 = .ok (.iastore, 1) := by decide +kernel
theorem dX2_clearCrop_35 : decode cX2_clearCrop 35 = .ok (.return_, 1) := by decide +kernel
set_option maxRecDepth 20000 in
theorem ggX2_letDaysGoBy_X2_takeRain : GoodIn wsX2_letDaysGoBy wsX2_takeRain := goodIn_r _ [9, 10, 11, 12, 13, 8, 14, 15, 16, 85, 86, 87, 88, 89, 90, 91, 92, 93, 94, 95, 96, 97, 98, 99, 100, 101, 102] (by decide +kernel) (by decide +kernel)
set_option maxRecDepth 20000 in
theorem gX2_letDaysGoBy_X2_takeRain : GoodIn wsX2_letDaysGoBy (wsV RX2 104 RX2 yX2_takeRain wsX2_takeRain) := goodIn_app (goodIn_of _ (by decide +kernel)) ggX2_letDaysGoBy_X2_takeRain
set_option maxRecDepth 20000 in
theorem ggX2_letDaysGoBy_X2_takeSpring : GoodIn wsX2_letDaysGoBy wsX2_takeSpring := goodIn_r _ [20, 16, 21, 10, 85, 86, 87, 88, 89, 90, 91, 92, 93, 94, 95, 96, 97, 98, 99, 100, 101, 102] (by decide +kernel) (by decide +kernel)
set_option maxRecDepth 20000 in
theorem gX2_letDaysGoBy_X2_takeSpring : GoodIn wsX2_letDaysGoBy (wsV RX2 110 RX2 yX2_takeSpring wsX2_takeSpring) := goodIn_app (goodIn_of _ (by decide +kernel)) ggX2_letDaysGoBy_X2_takeSpring
set_option maxRecDepth 20000 in
theorem ggX2_letDaysGoBy_X2_letWaterFlow : GoodIn wsX2_letDaysGoBy wsX2_letWaterFlow := goodIn_r _ [25, 15, 16, 26, 27, 28, 8, 29, 10, 30, 31, 32, 33, 34, 35, 36, 37, 38, 39, 40, 41, 42, 43, 44, 45, 46, 47, 48, 49, 50, 51, 52, 53, 54, 85, 86, 87, 88, 89, 90, 91, 92, 93, 94, 95, 96, 97, 98, 99, 100, 101, 102] (by decide +kernel) (by decide +kernel)
set_option maxRecDepth 20000 in
theorem gX2_letDaysGoBy_X2_letWaterFlow : GoodIn wsX2_letDaysGoBy (wsV RX2 113 RX2 yX2_letWaterFlow wsX2_letWaterFlow) := goodIn_app (goodIn_of _ (by decide +kernel)) ggX2_letDaysGoBy_X2_letWaterFlow
set_option maxRecDepth 20000 in
theorem ggX2_letDaysGoBy_X2_loseWater : GoodIn wsX2_letDaysGoBy wsX2_loseWater := goodIn_r _ [58, 10, 59, 31, 32, 33, 34, 35, 36, 37, 50, 11, 12, 13, 8, 14, 15, 16, 85, 86, 87, 88, 89, 90, 91, 92, 93, 94, 95, 96, 97, 98, 99, 100, 101, 102] (by decide +kernel) (by decide +kernel)
set_option maxRecDepth 20000 in
theorem gX2_letDaysGoBy_X2_loseWater : GoodIn wsX2_letDaysGoBy (wsV RX2 119 RX2 yX2_loseWater wsX2_loseWater) := goodIn_app (goodIn_of _ (by decide +kernel)) ggX2_letDaysGoBy_X2_loseWater
set_option maxRecDepth 20000 in
theorem ggX2_letDaysGoBy_X2_growRice : GoodIn wsX2_letDaysGoBy wsX2_growRice := goodIn_r _ [63, 64, 11, 12, 13, 8, 14, 15, 16, 65, 66, 67, 68, 69, 35, 36, 33, 37, 70, 10, 71, 72, 73, 31, 32, 34, 74, 75, 76, 77, 78, 79, 80, 81, 82, 83, 84, 85, 86, 87, 88, 89, 90, 91, 92, 93, 94, 95, 96, 97, 98, 99, 100, 101, 102] (by decide +kernel) (by decide +kernel)
set_option maxRecDepth 20000 in
theorem gX2_letDaysGoBy_X2_growRice : GoodIn wsX2_letDaysGoBy (wsV RX2 122 RX2 yX2_growRice wsX2_growRice) := goodIn_app (goodIn_of _ (by decide +kernel)) ggX2_letDaysGoBy_X2_growRice
theorem dX2_letDaysGoBy_0 : decode cX2_letDaysGoBy 0 = .ok (.iconst 0, 1) := by decide +kernel
theorem dX2_letDaysGoBy_1 : decode cX2_letDaysGoBy 1 = .ok (.istore_n 3, 1) := by decide +kernel
theorem dX2_letDaysGoBy_2 : decode cX2_letDaysGoBy 2 = .ok (.iload_n 3, 1) := by decide +kernel
theorem dX2_letDaysGoBy_3 : decode cX2_letDaysGoBy 3 = .ok (.iload_n 1, 1) := by decide +kernel
theorem dX2_letDaysGoBy_4 : decode cX2_letDaysGoBy 4 = .ok (.if_icmp .ge 69, 3) := by decide +kernel
theorem dX2_letDaysGoBy_7 : decode cX2_letDaysGoBy 7 = .ok (.aload_n 0, 1) := by decide +kernel
theorem dX2_letDaysGoBy_8 : decode cX2_letDaysGoBy 8 = .ok (.getfield 62, 3) := by decide +kernel
theorem dX2_letDaysGoBy_11 : decode cX2_letDaysGoBy 11 = .ok (.bipush 30, 2) := by decide +kernel
theorem dX2_letDaysGoBy_13 : decode cX2_letDaysGoBy 13 = .ok (.irem, 1) := by decide +kernel
theorem dX2_letDaysGoBy_14 : decode cX2_letDaysGoBy 14 = .ok (.istore 4, 2) := by decide +kernel
theorem dX2_letDaysGoBy_16 : decode cX2_letDaysGoBy 16 = .ok (.aload_n 0, 1) := by decide +kernel
theorem dX2_letDaysGoBy_17 : decode cX2_letDaysGoBy 17 = .ok (.dup, 1) := by decide +kernel
theorem dX2_letDaysGoBy_18 : decode cX2_letDaysGoBy 18 = .ok (.getfield 62, 3) := by decide +kernel
theorem dX2_letDaysGoBy_21 : decode cX2_letDaysGoBy 21 = .ok (.iconst 1, 1) := by decide +kernel
theorem dX2_letDaysGoBy_22 : decode cX2_letDaysGoBy 22 = .ok (.iadd, 1) := by decide +kernel
theorem dX2_letDaysGoBy_23 : decode cX2_letDaysGoBy 23 = .ok (.putfield 62, 3) := by decide +kernel
theorem dX2_letDaysGoBy_26 : decode cX2_letDaysGoBy 26 = .ok (.aload_n 0, 1) := by decide +kernel
theorem dX2_letDaysGoBy_27 : decode cX2_letDaysGoBy 27 = .ok (.aload_n 2, 1) := by decide +kernel
theorem dX2_letDaysGoBy_28 : decode cX2_letDaysGoBy 28 = .ok (.getfield 99, 3) := by decide +kernel
theorem dX2_letDaysGoBy_31 : decode cX2_letDaysGoBy 31 = .ok (.iload 4, 2) := by decide +kernel
theorem dX2_letDaysGoBy_33 : decode cX2_letDaysGoBy 33 = .ok (.iaload, 1) := by decide +kernel
theorem dX2_letDaysGoBy_34 : decode cX2_letDaysGoBy 34 = .ok (.invokevirtual 104, 3) := by decide +kernel
theorem dX2_letDaysGoBy_37 : decode cX2_letDaysGoBy 37 = .ok (.aload_n 0, 1) := by decide +kernel
theorem dX2_letDaysGoBy_38 : decode cX2_letDaysGoBy 38 = .ok (.aload_n 2, 1) := by decide +kernel
theorem dX2_letDaysGoBy_39 : decode cX2_letDaysGoBy 39 = .ok (.getfield 107, 3) := by decide +kernel
theorem dX2_letDaysGoBy_42 : decode cX2_letDaysGoBy 42 = .ok (.iload 4, 2) := by decide +kernel
theorem dX2_letDaysGoBy_44 : decode cX2_letDaysGoBy 44 = .ok (.iaload, 1) := by decide +kernel
theorem dX2_letDaysGoBy_45 : decode cX2_letDaysGoBy 45 = .ok (.invokevirtual 110, 3) := by decide +kernel
theorem dX2_letDaysGoBy_48 : decode cX2_letDaysGoBy 48 = .ok (.aload_n 0, 1) := by decide +kernel
theorem dX2_letDaysGoBy_49 : decode cX2_letDaysGoBy 49 = .ok (.invokevirtual 113, 3) := by decide +kernel
theorem dX2_letDaysGoBy_52 : decode cX2_letDaysGoBy 52 = .ok (.aload_n 0, 1) := by decide +kernel
theorem dX2_letDaysGoBy_53 : decode cX2_letDaysGoBy 53 = .ok (.aload_n 2, 1) := by decide +kernel
theorem dX2_letDaysGoBy_54 : decode cX2_letDaysGoBy 54 = .ok (.getfield 116, 3) := by decide +kernel
theorem dX2_letDaysGoBy_57 : decode cX2_letDaysGoBy 57 = .ok (.iload 4, 2) := by decide +kernel
theorem dX2_letDaysGoBy_59 : decode cX2_letDaysGoBy 59 = .ok (.iaload, 1) := by decide +kernel
theorem dX2_letDaysGoBy_60 : decode cX2_letDaysGoBy 60 = .ok (.invokevirtual 119, 3) := by decide +kernel
theorem dX2_letDaysGoBy_63 : decode cX2_letDaysGoBy 63 = .ok (.aload_n 0, 1) := by decide +kernel
theorem dX2_letDaysGoBy_64 : decode cX2_letDaysGoBy 64 = .ok (.invokevirtual 122, 3) := by decide +kernel
theorem dX2_letDaysGoBy_67 : decode cX2_letDaysGoBy 67 = .ok (.iinc 3 1, 3) := by decide +kernel
theorem dX2_letDaysGoBy_70 : decode cX2_letDaysGoBy 70 = .ok (.goto (-68), 3) := by decide +kernel
theorem dX2_letDaysGoBy_73 : decode cX2_letDaysGoBy 73 = .ok (.return_, 1) := by decide +kernel
set_option maxRecDepth 20000 in
theorem ggX2_takeRain_X2_cells : GoodIn wsX2_takeRain wsX2_cells := goodIn_r _ [6, 7, 8, 9, 10, 11, 12, 13, 14, 15, 16, 17, 18, 19, 20, 21, 22, 23, 24, 25, 26] (by decide +kernel) (by decide +kernel)
set_option maxRecDepth 20000 in
theorem gX2_takeRain_X2_cells : GoodIn wsX2_takeRain (wsV RX2 95 RX2 yX2_cells wsX2_cells) := goodIn_app (goodIn_of _ (by decide +kernel)) ggX2_takeRain_X2_cells
theorem dX2_takeRain_0 : decode cX2_takeRain 0 = .ok (.iconst 0, 1) := by decide +kernel
theorem dX2_takeRain_1 : decode cX2_takeRain 1 = .ok (.istore_n 2, 1) := by decide +kernel
theorem dX2_takeRain_2 : decode cX2_takeRain 2 = .ok (.iload_n 2, 1) := by decide +kernel
theorem dX2_takeRain_3 : decode cX2_takeRain 3 = .ok (.aload_n 0, 1) := by decide +kernel
theorem dX2_takeRain_4 : decode cX2_takeRain 4 = .ok (.invokevirtual 95, 3) := by decide +kernel
theorem dX2_takeRain_7 : decode cX2_takeRain 7 = .ok (.if_icmp .ge 19, 3) := by decide +kernel
theorem dX2_takeRain_10 : decode cX2_takeRain 10 = .ok (.aload_n 0, 1) := by decide +kernel
theorem dX2_takeRain_11 : decode cX2_takeRain 11 = .ok (.getfield 15, 3) := by decide +kernel
theorem dX2_takeRain_14 : decode cX2_takeRain 14 = .ok (.iload_n 2, 1) := by decide +kernel
theorem dX2_takeRain_15 : decode cX2_takeRain 15 = .ok (.dup2, 1) := by decide +kernel
theorem dX2_takeRain_16 : decode cX2_takeRain 16 = .ok (.iaload, 1) := by decide +kernel
theorem dX2_takeRain_17 : decode cX2_takeRain 17 = .ok (.iload_n 1, 1) := by decide +kernel
theorem dX2_takeRain_18 : decode cX2_takeRain 18 = .ok (.iadd, 1) := by decide +kernel
theorem dX2_takeRain_19 : decode cX2_takeRain 19 = .ok (.iastore, 1) := by decide +kernel
theorem dX2_takeRain_20 : decode cX2_takeRain 20 = .ok (.iinc 2 1, 3) := by decide +kernel
theorem dX2_takeRain_23 : decode cX2_takeRain 23 = .ok (.goto (-21), 3) := by decide +kernel
theorem dX2_takeRain_26 : decode cX2_takeRain 26 = .ok (.return_, 1) := by decide +kernel
theorem dX2_takeSpring_0 : decode cX2_takeSpring 0 = .ok (.iconst 0, 1) := by decide +kernel
theorem dX2_takeSpring_1 : decode cX2_takeSpring 1 = .ok (.istore_n 2, 1) := by decide +kernel
theorem dX2_takeSpring_2 : decode cX2_takeSpring 2 = .ok (.iconst 0, 1) := by decide +kernel
theorem dX2_takeSpring_3 : decode cX2_takeSpring 3 = .ok (.istore_n 3, 1) := by decide +kernel
theorem dX2_takeSpring_4 : decode cX2_takeSpring 4 = .ok (.iload_n 3, 1) := by decide +kernel
theorem dX2_takeSpring_5 : decode cX2_takeSpring 5 = .ok (.aload_n 0, 1) := by decide +kernel
theorem dX2_takeSpring_6 : decode cX2_takeSpring 6 = .ok (.getfield 59, 3) := by decide +kernel
theorem dX2_takeSpring_9 : decode cX2_takeSpring 9 = .ok (.if_icmp .ge 18, 3) := by decide +kernel
theorem dX2_takeSpring_12 : decode cX2_takeSpring 12 = .ok (.iload_n 2, 1) := by decide +kernel
theorem dX2_takeSpring_13 : decode cX2_takeSpring 13 = .ok (.aload_n 0, 1) := by decide +kernel
theorem dX2_takeSpring_14 : decode cX2_takeSpring 14 = .ok (.getfield 9, 3) := by decide +kernel
theorem dX2_takeSpring_17 : decode cX2_takeSpring 17 = .ok (.iload_n 3, 1) := by decide +kernel
theorem dX2_takeSpring_18 : decode cX2_takeSpring 18 = .ok (.iaload, 1) := by decide +kernel
theorem dX2_takeSpring_19 : decode cX2_takeSpring 19 = .ok (.iadd, 1) := by decide +kernel
theorem dX2_takeSpring_20 : decode cX2_takeSpring 20 = .ok (.istore_n 2, 1) := by decide +kernel
theorem dX2_takeSpring_21 : decode cX2_takeSpring 21 = .ok (.iinc 3 1, 3) := by decide +kernel
theorem dX2_takeSpring_24 : decode cX2_takeSpring 24 = .ok (.goto (-20), 3) := by decide +kernel
theorem dX2_takeSpring_27 : decode cX2_takeSpring 27 = .ok (.iload_n 2, 1) := by decide +kernel
theorem dX2_takeSpring_28 : decode cX2_takeSpring 28 = .ok (.ifCond .ne 4, 3) := by decide +kernel
theorem dX2_takeSpring_31 : decode cX2_takeSpring 31 = .ok (.return_, 1) := by decide +kernel
theorem dX2_takeSpring_32 : decode cX2_takeSpring 32 = .ok (.iconst 0, 1) := by decide +kernel
theorem dX2_takeSpring_33 : decode cX2_takeSpring 33 = .ok (.istore_n 3, 1) := by decide +kernel
theorem dX2_takeSpring_34 : decode cX2_takeSpring 34 = .ok (.iload_n 3, 1) := by decide +kernel
theorem dX2_takeSpring_35 : decode cX2_takeSpring 35 = .ok (.aload_n 0, 1) := by decide +kernel
theorem dX2_takeSpring_36 : decode cX2_takeSpring 36 = .ok (.getfield 59, 3) := by decide +kernel
theorem dX2_takeSpring_39 : decode cX2_takeSpring 39 = .ok (.if_icmp .ge 28, 3) := by decide +kernel
theorem dX2_takeSpring_42 : decode cX2_takeSpring 42 = .ok (.aload_n 0, 1) := by decide +kernel
theorem dX2_takeSpring_43 : decode cX2_takeSpring 43 = .ok (.getfield 15, 3) := by decide +kernel
theorem dX2_takeSpring_46 : decode cX2_takeSpring 46 = .ok (.iload_n 3, 1) := by decide +kernel
theorem dX2_takeSpring_47 : decode cX2_takeSpring 47 = .ok (.dup2, 1) := by decide +kernel
theorem dX2_takeSpring_48 : decode cX2_takeSpring 48 = .ok (.iaload, 1) := by decide +kernel
theorem dX2_takeSpring_49 : decode cX2_takeSpring 49 = .ok (.iload_n 1, 1) := by decide +kernel
theorem dX2_takeSpring_50 : decode cX2_takeSpring 50 = .ok (.aload_n 0, 1) := by decide +kernel
theorem dX2_takeSpring_51 : decode cX2_takeSpring 51 = .ok (.getfield 9, 3) := by decide +kernel
theorem dX2_takeSpring_54 : decode cX2_takeSpring 54 = .ok (.iload_n 3, 1) := by decide +kernel
theorem dX2_takeSpring_55 : decode cX2_takeSpring 55 = .ok (.iaload, 1) := by decide +kernel
theorem dX2_takeSpring_56 : decode cX2_takeSpring 56 = .ok (.imul, 1) := by decide +kernel
theorem dX2_takeSpring_57 : decode cX2_takeSpring 57 = .ok (.iload_n 2, 1) := by decide +kernel
theorem dX2_takeSpring_58 : decode cX2_takeSpring 58 = .ok (.idiv, 1) := by decide +kernel
theorem dX2_takeSpring_59 : decode cX2_takeSpring 59 = .ok (.iadd, 1) := by decide +kernel
theorem dX2_takeSpring_60 : decode cX2_takeSpring 60 = .ok (.iastore, 1) := by decide +kernel
theorem dX2_takeSpring_61 : decode cX2_takeSpring 61 = .ok (.iinc 3 1, 3) := by decide +kernel
theorem dX2_takeSpring_64 : decode cX2_takeSpring 64 = .ok (.goto (-30), 3) := by decide +kernel
theorem dX2_takeSpring_67 : decode cX2_takeSpring 67 = .ok (.return_, 1) := by decide +kernel
set_option maxRecDepth 20000 in
theorem ggX2_letWaterFlow_X2_letFieldFlow : GoodIn wsX2_letWaterFlow wsX2_letFieldFlow := goodIn_r _ [7, 8, 9, 10, 11, 12, 13, 14, 15, 16, 17, 18, 19, 20, 21, 22, 23, 6, 24, 2, 25, 26, 27, 28, 29, 30, 31, 32, 33, 1, 34, 35, 36, 37, 38, 39, 40, 41, 42, 43, 44, 45, 46, 47, 48, 49, 50, 51] (by decide +kernel) (by decide +kernel)
set_option maxRecDepth 20000 in
theorem gX2_letWaterFlow_X2_letFieldFlow : GoodIn wsX2_letWaterFlow (wsV RX2 125 RX2 yX2_letFieldFlow wsX2_letFieldFlow) := goodIn_app (goodIn_of _ (by decide +kernel)) ggX2_letWaterFlow_X2_letFieldFlow
theorem dX2_letWaterFlow_0 : decode cX2_letWaterFlow 0 = .ok (.iconst 0, 1) := by decide +kernel
theorem dX2_letWaterFlow_1 : decode cX2_letWaterFlow 1 = .ok (.istore_n 1, 1) := by decide +kernel
theorem dX2_letWaterFlow_2 : decode cX2_letWaterFlow 2 = .ok (.iload_n 1, 1) := by decide +kernel
theorem dX2_letWaterFlow_3 : decode cX2_letWaterFlow 3 = .ok (.aload_n 0, 1) := by decide +kernel
theorem dX2_letWaterFlow_4 : decode cX2_letWaterFlow 4 = .ok (.getfield 55, 3) := by decide +kernel
end
section
theorem dX2_letWaterFlow_7 : decode cX2_letWaterFlow 7 = .ok (.if_icmp .ge 31, 3) := by decide +kernel
theorem dX2_letWaterFlow_10 : decode cX2_letWaterFlow 10 = .ok (.iconst 0, 1) := by decide +kernel
theorem dX2_letWaterFlow_11 : decode cX2_letWaterFlow 11 = .ok (.istore_n 2, 1) := by decide +kernel
theorem dX2_letWaterFlow_12 : decode cX2_letWaterFlow 12 = .ok (.iload_n 2, 1) := by decide +kernel
theorem dX2_letWaterFlow_13 : decode cX2_letWaterFlow 13 = .ok (.aload_n 0, 1) := by decide +kernel
theorem dX2_letWaterFlow_14 : decode cX2_letWaterFlow 14 = .ok (.getfield 59, 3) := by decide +kernel
theorem dX2_letWaterFlow_17 : decode cX2_letWaterFlow 17 = .ok (.if_icmp .ge 15, 3) := by decide +kernel
theorem dX2_letWaterFlow_20 : decode cX2_letWaterFlow 20 = .ok (.aload_n 0, 1) := by decide +kernel
theorem dX2_letWaterFlow_21 : decode cX2_letWaterFlow 21 = .ok (.iload_n 1, 1) := by decide +kernel
theorem dX2_letWaterFlow_22 : decode cX2_letWaterFlow 22 = .ok (.iload_n 2, 1) := by decide +kernel
theorem dX2_letWaterFlow_23 : decode cX2_letWaterFlow 23 = .ok (.invokevirtual 125, 3) := by decide +kernel
theorem dX2_letWaterFlow_26 : decode cX2_letWaterFlow 26 = .ok (.iinc 2 1, 3) := by decide +kernel
theorem dX2_letWaterFlow_29 : decode cX2_letWaterFlow 29 = .ok (.goto (-17), 3) := by decide +kernel
theorem dX2_letWaterFlow_32 : decode cX2_letWaterFlow 32 = .ok (.iinc 1 1, 3) := by decide +kernel
theorem dX2_letWaterFlow_35 : decode cX2_letWaterFlow 35 = .ok (.goto (-33), 3) := by decide +kernel
theorem dX2_letWaterFlow_38 : decode cX2_letWaterFlow 38 = .ok (.return_, 1) := by decide +kernel
set_option maxRecDepth 20000 in
theorem ggX2_letFieldFlow_X2_cellOf : GoodIn wsX2_letFieldFlow wsX2_cellOf := goodIn_r _ [18, 19, 30, 31, 32, 33, 34, 35, 36, 37, 38, 39, 40, 41, 42, 43, 44, 45, 46, 47] (by decide +kernel) (by decide +kernel)
set_option maxRecDepth 20000 in
theorem gX2_letFieldFlow_X2_cellOf : GoodIn wsX2_letFieldFlow (wsV RX2 128 RX2 yX2_cellOf wsX2_cellOf) := goodIn_app (goodIn_of _ (by decide +kernel)) ggX2_letFieldFlow_X2_cellOf
set_option maxRecDepth 20000 in
theorem ggX2_letFieldFlow_X2_bringWater : GoodIn wsX2_letFieldFlow wsX2_bringWater := goodIn_r _ [23, 1, 24, 25, 26, 27, 17, 28, 29, 19, 14, 15, 16, 18, 30, 31, 32, 33, 34, 35, 36, 37, 38, 39, 40, 41, 42, 43, 44, 45, 46, 47] (by decide +kernel) (by decide +kernel)
set_option maxRecDepth 20000 in
theorem gX2_letFieldFlow_X2_bringWater : GoodIn wsX2_letFieldFlow (wsV RX2 140 RX2 yX2_bringWater wsX2_bringWater) := goodIn_app (goodIn_of _ (by decide +kernel)) ggX2_letFieldFlow_X2_bringWater
theorem dX2_letFieldFlow_0 : decode cX2_letFieldFlow 0 = .ok (.aload_n 0, 1) := by decide +kernel
theorem dX2_letFieldFlow_1 : decode cX2_letFieldFlow 1 = .ok (.iload_n 1, 1) := by decide +kernel
theorem dX2_letFieldFlow_2 : decode cX2_letFieldFlow 2 = .ok (.iload_n 2, 1) := by decide +kernel
theorem dX2_letFieldFlow_3 : decode cX2_letFieldFlow 3 = .ok (.invokevirtual 128, 3) := by decide +kernel
theorem dX2_letFieldFlow_6 : decode cX2_letFieldFlow 6 = .ok (.istore_n 3, 1) := by decide +kernel
theorem dX2_letFieldFlow_7 : decode cX2_letFieldFlow 7 = .ok (.aload_n 0, 1) := by decide +kernel
theorem dX2_letFieldFlow_8 : decode cX2_letFieldFlow 8 = .ok (.getfield 15, 3) := by decide +kernel
theorem dX2_letFieldFlow_11 : decode cX2_letFieldFlow 11 = .ok (.iload_n 3, 1) := by decide +kernel
theorem dX2_letFieldFlow_12 : decode cX2_letFieldFlow 12 = .ok (.iaload, 1) := by decide +kernel
theorem dX2_letFieldFlow_13 : decode cX2_letFieldFlow 13 = .ok (.aload_n 0, 1) := by decide +kernel
theorem dX2_letFieldFlow_14 : decode cX2_letFieldFlow 14 = .ok (.getfield 24, 3) := by decide +kernel
theorem dX2_letFieldFlow_17 : decode cX2_letFieldFlow 17 = .ok (.iload_n 3, 1) := by decide +kernel
theorem dX2_letFieldFlow_18 : decode cX2_letFieldFlow 18 = .ok (.iaload, 1) := by decide +kernel
theorem dX2_letFieldFlow_19 : decode cX2_letFieldFlow 19 = .ok (.isub, 1) := by decide +kernel
theorem dX2_letFieldFlow_20 : decode cX2_letFieldFlow 20 = .ok (.iconst 0, 1) := by decide +kernel
theorem dX2_letFieldFlow_21 : decode cX2_letFieldFlow 21 = .ok (.invokestatic 132, 3) := by decide +kernel
theorem dX2_letFieldFlow_24 : decode cX2_letFieldFlow 24 = .ok (.bipush 40, 2) := by decide +kernel
theorem dX2_letFieldFlow_26 : decode cX2_letFieldFlow 26 = .ok (.invokestatic 137, 3) := by decide +kernel
theorem dX2_letFieldFlow_29 : decode cX2_letFieldFlow 29 = .ok (.istore 4, 2) := by decide +kernel
theorem dX2_letFieldFlow_31 : decode cX2_letFieldFlow 31 = .ok (.aload_n 0, 1) := by decide +kernel
theorem dX2_letFieldFlow_32 : decode cX2_letFieldFlow 32 = .ok (.getfield 45, 3) := by decide +kernel
theorem dX2_letFieldFlow_35 : decode cX2_letFieldFlow 35 = .ok (.iload_n 3, 1) := by decide +kernel
theorem dX2_letFieldFlow_36 : decode cX2_letFieldFlow 36 = .ok (.iload 4, 2) := by decide +kernel
theorem dX2_letFieldFlow_38 : decode cX2_letFieldFlow 38 = .ok (.iastore, 1) := by decide +kernel
theorem dX2_letFieldFlow_39 : decode cX2_letFieldFlow 39 = .ok (.aload_n 0, 1) := by decide +kernel
theorem dX2_letFieldFlow_40 : decode cX2_letFieldFlow 40 = .ok (.getfield 15, 3) := by decide +kernel
theorem dX2_letFieldFlow_43 : decode cX2_letFieldFlow 43 = .ok (.iload_n 3, 1) := by decide +kernel
theorem dX2_letFieldFlow_44 : decode cX2_letFieldFlow 44 = .ok (.dup2, 1) := by decide +kernel
theorem dX2_letFieldFlow_45 : decode cX2_letFieldFlow 45 = .ok (.iaload, 1) := by decide +kernel
theorem dX2_letFieldFlow_46 : decode cX2_letFieldFlow 46 = .ok (.iload 4, 2) := by decide +kernel
theorem dX2_letFieldFlow_48 : decode cX2_letFieldFlow 48 = .ok (.isub, 1) := by decide +kernel
theorem dX2_letFieldFlow_49 : decode cX2_letFieldFlow 49 = .ok (.iastore, 1) := by decide +kernel
theorem dX2_letFieldFlow_50 : decode cX2_letFieldFlow 50 = .ok (.aload_n 0, 1) := by decide +kernel
theorem dX2_letFieldFlow_51 : decode cX2_letFieldFlow 51 = .ok (.iload_n 1, 1) := by decide +kernel
theorem dX2_letFieldFlow_52 : decode cX2_letFieldFlow 52 = .ok (.iconst 1, 1) := by decide +kernel
theorem dX2_letFieldFlow_53 : decode cX2_letFieldFlow 53 = .ok (.iadd, 1) := by decide +kernel
theorem dX2_letFieldFlow_54 : decode cX2_letFieldFlow 54 = .ok (.iload_n 2, 1) := by decide +kernel
theorem dX2_letFieldFlow_55 : decode cX2_letFieldFlow 55 = .ok (.aload_n 0, 1) := by decide +kernel
theorem dX2_letFieldFlow_56 : decode cX2_letFieldFlow 56 = .ok (.getfield 27, 3) := by decide +kernel
theorem dX2_letFieldFlow_59 : decode cX2_letFieldFlow 59 = .ok (.iload_n 3, 1) := by decide +kernel
theorem dX2_letFieldFlow_60 : decode cX2_letFieldFlow 60 = .ok (.iaload, 1) := by decide +kernel
theorem dX2_letFieldFlow_61 : decode cX2_letFieldFlow 61 = .ok (.iadd, 1) := by decide +kernel
theorem dX2_letFieldFlow_62 : decode cX2_letFieldFlow 62 = .ok (.iload 4, 2) := by decide +kernel
theorem dX2_letFieldFlow_64 : decode cX2_letFieldFlow 64 = .ok (.invokevirtual 140, 3) := by decide +kernel
theorem dX2_letFieldFlow_67 : decode cX2_letFieldFlow 67 = .ok (.aload_n 0, 1) := by decide +kernel
theorem dX2_letFieldFlow_68 : decode cX2_letFieldFlow 68 = .ok (.getfield 15, 3) := by decide +kernel
theorem dX2_letFieldFlow_71 : decode cX2_letFieldFlow 71 = .ok (.iload_n 3, 1) := by decide +kernel
theorem dX2_letFieldFlow_72 : decode cX2_letFieldFlow 72 = .ok (.iaload, 1) := by decide +kernel
theorem dX2_letFieldFlow_73 : decode cX2_letFieldFlow 73 = .ok (.aload_n 0, 1) := by decide +kernel
theorem dX2_letFieldFlow_74 : decode cX2_letFieldFlow 74 = .ok (.getfield 18, 3) := by decide +kernel
theorem dX2_letFieldFlow_77 : decode cX2_letFieldFlow 77 = .ok (.iload_n 3, 1) := by decide +kernel
theorem dX2_letFieldFlow_78 : decode cX2_letFieldFlow 78 = .ok (.iaload, 1) := by decide +kernel
theorem dX2_letFieldFlow_79 : decode cX2_letFieldFlow 79 = .ok (.isub, 1) := by decide +kernel
theorem dX2_letFieldFlow_80 : decode cX2_letFieldFlow 80 = .ok (.iconst 0, 1) := by decide +kernel
theorem dX2_letFieldFlow_81 : decode cX2_letFieldFlow 81 = .ok (.invokestatic 132, 3) := by decide +kernel
theorem dX2_letFieldFlow_84 : decode cX2_letFieldFlow 84 = .ok (.istore 5, 2) := by decide +kernel
theorem dX2_letFieldFlow_86 : decode cX2_letFieldFlow 86 = .ok (.aload_n 0, 1) := by decide +kernel
theorem dX2_letFieldFlow_87 : decode cX2_letFieldFlow 87 = .ok (.getfield 48, 3) := by decide +kernel
theorem dX2_letFieldFlow_90 : decode cX2_letFieldFlow 90 = .ok (.iload_n 3, 1) := by decide +kernel
theorem dX2_letFieldFlow_91 : decode cX2_letFieldFlow 91 = .ok (.iload 5, 2) := by decide +kernel
theorem dX2_letFieldFlow_93 : decode cX2_letFieldFlow 93 = .ok (.iastore, 1) := by decide +kernel
theorem dX2_letFieldFlow_94 : decode cX2_letFieldFlow 94 = .ok (.aload_n 0, 1) := by decide +kernel
theorem dX2_letFieldFlow_95 : decode cX2_letFieldFlow 95 = .ok (.getfield 15, 3) := by decide +kernel
theorem dX2_letFieldFlow_98 : decode cX2_letFieldFlow 98 = .ok (.iload_n 3, 1) := by decide +kernel
theorem dX2_letFieldFlow_99 : decode cX2_letFieldFlow 99 = .ok (.dup2, 1) := by decide +kernel
theorem dX2_letFieldFlow_100 : decode cX2_letFieldFlow 100 = .ok (.iaload, 1) := by decide +kernel
theorem dX2_letFieldFlow_101 : decode cX2_letFieldFlow 101 = .ok (.iload 5, 2) := by decide +kernel
theorem dX2_letFieldFlow_103 : decode cX2_letFieldFlow 103 = .ok (.isub, 1) := by decide +kernel
theorem dX2_letFieldFlow_104 : decode cX2_letFieldFlow 104 = .ok (.iastore, 1) := by decide +kernel
theorem dX2_letFieldFlow_105 : decode cX2_letFieldFlow 105 = .ok (.aload_n 0, 1) := by decide +kernel
theorem dX2_letFieldFlow_106 : decode cX2_letFieldFlow 106 = .ok (.iload_n 1, 1) := by decide +kernel
theorem dX2_letFieldFlow_107 : decode cX2_letFieldFlow 107 = .ok (.iload_n 2, 1) := by decide +kernel
theorem dX2_letFieldFlow_108 : decode cX2_letFieldFlow 108 = .ok (.iconst 1, 1) := by decide +kernel
theorem dX2_letFieldFlow_109 : decode cX2_letFieldFlow 109 = .ok (.isub, 1) := by decide +kernel
theorem dX2_letFieldFlow_110 : decode cX2_letFieldFlow 110 = .ok (.iload 5, 2) := by decide +kernel
theorem dX2_letFieldFlow_112 : decode cX2_letFieldFlow 112 = .ok (.iconst 2, 1) := by decide +kernel
theorem dX2_letFieldFlow_113 : decode cX2_letFieldFlow 113 = .ok (.idiv, 1) := by decide +kernel
theorem dX2_letFieldFlow_114 : decode cX2_letFieldFlow 114 = .ok (.invokevirtual 140, 3) := by decide +kernel
theorem dX2_letFieldFlow_117 : decode cX2_letFieldFlow 117 = .ok (.aload_n 0, 1) := by decide +kernel
theorem dX2_letFieldFlow_118 : decode cX2_letFieldFlow 118 = .ok (.iload_n 1, 1) := by decide +kernel
theorem dX2_letFieldFlow_119 : decode cX2_letFieldFlow 119 = .ok (.iload_n 2, 1) := by decide +kernel
theorem dX2_letFieldFlow_120 : decode cX2_letFieldFlow 120 = .ok (.iconst 1, 1) := by decide +kernel
theorem dX2_letFieldFlow_121 : decode cX2_letFieldFlow 121 = .ok (.iadd, 1) := by decide +kernel
theorem dX2_letFieldFlow_122 : decode cX2_letFieldFlow 122 = .ok (.iload 5, 2) := by decide +kernel
theorem dX2_letFieldFlow_124 : decode cX2_letFieldFlow 124 = .ok (.iload 5, 2) := by decide +kernel
theorem dX2_letFieldFlow_126 : decode cX2_letFieldFlow 126 = .ok (.iconst 2, 1) := by decide +kernel
theorem dX2_letFieldFlow_127 : decode cX2_letFieldFlow 127 = .ok (.idiv, 1) := by decide +kernel
theorem dX2_letFieldFlow_128 : decode cX2_letFieldFlow 128 = .ok (.isub, 1) := by decide +kernel
theorem dX2_letFieldFlow_129 : decode cX2_letFieldFlow 129 = .ok (.invokevirtual 140, 3) := by decide +kernel
theorem dX2_letFieldFlow_132 : decode cX2_letFieldFlow 132 = .ok (.return_, 1) := by decide +kernel
set_option maxRecDepth 20000 in
theorem ggX2_bringWater_X2_hasField : GoodIn wsX2_bringWater wsX2_hasField := goodIn_r _ [7, 8, 9, 14, 15, 16, 17, 18, 19, 20, 21, 22, 23, 24, 25, 26, 27, 28, 29, 30, 31] (by decide +kernel) (by decide +kernel)
set_option maxRecDepth 20000 in
theorem gX2_bringWater_X2_hasField : GoodIn wsX2_bringWater (wsV RX2 144 RX2 yX2_hasField wsX2_hasField) := goodIn_app (goodIn_of _ (by decide +kernel)) ggX2_bringWater_X2_hasField
set_option maxRecDepth 20000 in
theorem ggX2_bringWater_X2_cellOf : GoodIn wsX2_bringWater wsX2_cellOf := goodIn_r _ [13, 9, 14, 15, 16, 17, 18, 19, 20, 21, 22, 23, 24, 25, 26, 27, 28, 29, 30, 31] (by decide +kernel) (by decide +kernel)
set_option maxRecDepth 20000 in
theorem gX2_bringWater_X2_cellOf : GoodIn wsX2_bringWater (wsV RX2 128 RX2 yX2_cellOf wsX2_cellOf) := goodIn_app (goodIn_of _ (by decide +kernel)) ggX2_bringWater_X2_cellOf
theorem dX2_bringWater_0 : decode cX2_bringWater 0 = .ok (.aload_n 0, 1) := by decide +kernel
theorem dX2_bringWater_1 : decode cX2_bringWater 1 = .ok (.iload_n 1, 1) := by decide +kernel
theorem dX2_bringWater_2 : decode cX2_bringWater 2 = .ok (.iload_n 2, 1) := by decide +kernel
theorem dX2_bringWater_3 : decode cX2_bringWater 3 = .ok (.invokevirtual 144, 3) := by decide +kernel
theorem dX2_bringWater_6 : decode cX2_bringWater 6 = .ok (.ifCond .eq 21, 3) := by decide +kernel
theorem dX2_bringWater_9 : decode cX2_bringWater 9 = .ok (.aload_n 0, 1) := by decide +kernel
theorem dX2_bringWater_10 : decode cX2_bringWater 10 = .ok (.getfield 15, 3) := by decide +kernel
theorem dX2_bringWater_13 : decode cX2_bringWater 13 = .ok (.aload_n 0, 1) := by decide +kernel
theorem dX2_bringWater_14 : decode cX2_bringWater 14 = .ok (.iload_n 1, 1) := by decide +kernel
theorem dX2_bringWater_15 : decode cX2_bringWater 15 = .ok (.iload_n 2, 1) := by decide +kernel
theorem dX2_bringWater_16 : decode cX2_bringWater 16 = .ok (.invokevirtual 128, 3) := by decide +kernel
theorem dX2_bringWater_19 : decode cX2_bringWater 19 = .ok (.dup2, 1) := by decide +kernel
theorem dX2_bringWater_20 : decode cX2_bringWater 20 = .ok (.iaload, 1) := by decide +kernel
theorem dX2_bringWater_21 : decode cX2_bringWater 21 = .ok (.iload_n 3, 1) := by decide +kernel
theorem dX2_bringWater_22 : decode cX2_bringWater 22 = .ok (.iadd, 1) := by decide +kernel
theorem dX2_bringWater_23 : decode cX2_bringWater 23 = .ok (.iastore, 1) := by decide +kernel
theorem dX2_bringWater_24 : decode cX2_bringWater 24 = .ok (.goto 13, 3) := by decide +kernel
theorem dX2_bringWater_27 : decode cX2_bringWater 27 = .ok (.aload_n 0, 1) := by decide +kernel
theorem dX2_bringWater_28 : decode cX2_bringWater 28 = .ok (.dup, 1) := by decide +kernel
theorem dX2_bringWater_29 : decode cX2_bringWater 29 = .ok (.getfield 65, 3) := by decide +kernel
theorem dX2_bringWater_32 : decode cX2_bringWater 32 = .ok (.iload_n 3, 1) := by decide +kernel
theorem dX2_bringWater_33 : decode cX2_bringWater 33 = .ok (.iadd, 1) := by decide +kernel
theorem dX2_bringWater_34 : decode cX2_bringWater 34 = .ok (.putfield 65, 3) := by decide +kernel
theorem dX2_bringWater_37 : decode cX2_bringWater 37 = .ok (.return_, 1) := by decide +kernel
set_option maxRecDepth 20000 in
theorem ggX2_loseWater_X2_cells : GoodIn wsX2_loseWater wsX2_cells := goodIn_r _ [15, 16, 17, 18, 19, 20, 21, 22, 23, 24, 25, 26, 27, 28, 29, 30, 31, 32, 33, 34, 35] (by decide +kernel) (by decide +kernel)
set_option maxRecDepth 20000 in
theorem gX2_loseWater_X2_cells : GoodIn wsX2_loseWater (wsV RX2 95 RX2 yX2_cells wsX2_cells) := goodIn_app (goodIn_of _ (by decide +kernel)) ggX2_loseWater_X2_cells
theorem dX2_loseWater_0 : decode cX2_loseWater 0 = .ok (.iconst 0, 1) := by decide +kernel
theorem dX2_loseWater_1 : decode cX2_loseWater 1 = .ok (.istore_n 2, 1) := by decide +kernel
theorem dX2_loseWater_2 : decode cX2_loseWater 2 = .ok (.iload_n 2, 1) := by decide +kernel
theorem dX2_loseWater_3 : decode cX2_loseWater 3 = .ok (.aload_n 0, 1) := by decide +kernel
theorem dX2_loseWater_4 : decode cX2_loseWater 4 = .ok (.invokevirtual 95, 3) := by decide +kernel
theorem dX2_loseWater_7 : decode cX2_loseWater 7 = .ok (.if_icmp .ge 59, 3) := by decide +kernel
theorem dX2_loseWater_10 : decode cX2_loseWater 10 = .ok (.aload_n 0, 1) := by decide +kernel
theorem dX2_loseWater_11 : decode cX2_loseWater 11 = .ok (.getfield 15, 3) := by decide +kernel
theorem dX2_loseWater_14 : decode cX2_loseWater 14 = .ok (.iload_n 2, 1) := by decide +kernel
theorem dX2_loseWater_15 : decode cX2_loseWater 15 = .ok (.iaload, 1) := by decide +kernel
theorem dX2_loseWater_16 : decode cX2_loseWater 16 = .ok (.aload_n 0, 1) := by decide +kernel
theorem dX2_loseWater_17 : decode cX2_loseWater 17 = .ok (.getfield 21, 3) := by decide +kernel
theorem dX2_loseWater_20 : decode cX2_loseWater 20 = .ok (.iload_n 2, 1) := by decide +kernel
theorem dX2_loseWater_21 : decode cX2_loseWater 21 = .ok (.iaload, 1) := by decide +kernel
theorem dX2_loseWater_22 : decode cX2_loseWater 22 = .ok (.isub, 1) := by decide +kernel
theorem dX2_loseWater_23 : decode cX2_loseWater 23 = .ok (.iload_n 1, 1) := by decide +kernel
theorem dX2_loseWater_24 : decode cX2_loseWater 24 = .ok (.isub, 1) := by decide +kernel
theorem dX2_loseWater_25 : decode cX2_loseWater 25 = .ok (.iconst 0, 1) := by decide +kernel
theorem dX2_loseWater_26 : decode cX2_loseWater 26 = .ok (.invokestatic 132, 3) := by decide +kernel
theorem dX2_loseWater_29 : decode cX2_loseWater 29 = .ok (.istore_n 3, 1) := by decide +kernel
theorem dX2_loseWater_30 : decode cX2_loseWater 30 = .ok (.aload_n 0, 1) := by decide +kernel
theorem dX2_loseWater_31 : decode cX2_loseWater 31 = .ok (.getfield 15, 3) := by decide +kernel
theorem dX2_loseWater_34 : decode cX2_loseWater 34 = .ok (.iload_n 2, 1) := by decide +kernel
theorem dX2_loseWater_35 : decode cX2_loseWater 35 = .ok (.iload_n 3, 1) := by decide +kernel
theorem dX2_loseWater_36 : decode cX2_loseWater 36 = .ok (.sipush 200, 3) := by decide +kernel
theorem dX2_loseWater_39 : decode cX2_loseWater 39 = .ok (.invokestatic 137, 3) := by decide +kernel
theorem dX2_loseWater_42 : decode cX2_loseWater 42 = .ok (.iastore, 1) := by decide +kernel
theorem dX2_loseWater_43 : decode cX2_loseWater 43 = .ok (.aload_n 0, 1) := by decide +kernel
theorem dX2_loseWater_44 : decode cX2_loseWater 44 = .ok (.dup, 1) := by decide +kernel
theorem dX2_loseWater_45 : decode cX2_loseWater 45 = .ok (.getfield 65, 3) := by decide +kernel
theorem dX2_loseWater_48 : decode cX2_loseWater 48 = .ok (.iload_n 3, 1) := by decide +kernel
theorem dX2_loseWater_49 : decode cX2_loseWater 49 = .ok (.aload_n 0, 1) := by decide +kernel
theorem dX2_loseWater_50 : decode cX2_loseWater 50 = .ok (.getfield 15, 3) := by decide +kernel
theorem dX2_loseWater_53 : decode cX2_loseWater 53 = .ok (.iload_n 2, 1) := by decide +kernel
theorem dX2_loseWater_54 : decode cX2_loseWater 54 = .ok (.iaload, 1) := by decide +kernel
theorem dX2_loseWater_55 : decode cX2_loseWater 55 = .ok (.isub, 1) := by decide +kernel
theorem dX2_loseWater_56 : decode cX2_loseWater 56 = .ok (.iadd, 1) := by decide +kernel
theorem dX2_loseWater_57 : decode cX2_loseWater 57 = .ok (.putfield 65, 3) := by decide +kernel
theorem dX2_loseWater_60 : decode cX2_loseWater 60 = .ok (.iinc 2 1, 3) := by decide +kernel
theorem dX2_loseWater_63 : decode cX2_loseWater 63 = .ok (.goto (-61), 3) := by decide +kernel
theorem dX2_loseWater_66 : decode cX2_loseWater 66 = .ok (.return_, 1) := by decide +kernel
set_option maxRecDepth 20000 in
theorem ggX2_growRice_X2_cells : GoodIn wsX2_growRice wsX2_cells := goodIn_r _ [6, 7, 8, 37, 38, 39, 40, 41, 42, 43, 44, 45, 46, 47, 48, 49, 50, 51, 52, 53, 54] (by decide +kernel) (by decide +kernel)
set_option maxRecDepth 20000 in
theorem gX2_growRice_X2_cells : GoodIn wsX2_growRice (wsV RX2 95 RX2 yX2_cells wsX2_cells) := goodIn_app (goodIn_of _ (by decide +kernel)) ggX2_growRice_X2_cells
set_option maxRecDepth 20000 in
theorem ggX2_growRice_X2_growCrop : GoodIn wsX2_growRice wsX2_growCrop := goodIn_r _ [12, 13, 14, 15, 16, 17, 18, 19, 20, 21, 22, 23, 24, 25, 26, 27, 28, 5, 29, 1, 30, 31, 32, 33, 34, 35, 36, 37, 38, 39, 40, 41, 42, 43, 44, 45, 46, 47, 48, 49, 50, 51, 52, 53, 54] (by decide +kernel) (by decide +kernel)
set_option maxRecDepth 20000 in
theorem gX2_growRice_X2_growCrop : GoodIn wsX2_growRice (wsV RX2 148 RX2 yX2_growCrop wsX2_growCrop) := goodIn_app (goodIn_of _ (by decide +kernel)) ggX2_growRice_X2_growCrop
theorem dX2_growRice_0 : decode cX2_growRice 0 = .ok (.iconst 0, 1) := by decide +kernel
theorem dX2_growRice_1 : decode cX2_growRice 1 = .ok (.istore_n 1, 1) := by decide +kernel
theorem dX2_growRice_2 : decode cX2_growRice 2 = .ok (.iload_n 1, 1) := by decide +kernel
theorem dX2_growRice_3 : decode cX2_growRice 3 = .ok (.aload_n 0, 1) := by decide +kernel
theorem dX2_growRice_4 : decode cX2_growRice 4 = .ok (.invokevirtual 95, 3) := by decide +kernel
theorem dX2_growRice_7 : decode cX2_growRice 7 = .ok (.if_icmp .ge 23, 3) := by decide +kernel
theorem dX2_growRice_10 : decode cX2_growRice 10 = .ok (.aload_n 0, 1) := by decide +kernel
theorem dX2_growRice_11 : decode cX2_growRice 11 = .ok (.getfield 30, 3) := by decide +kernel
theorem dX2_growRice_14 : decode cX2_growRice 14 = .ok (.iload_n 1, 1) := by decide +kernel
theorem dX2_growRice_15 : decode cX2_growRice 15 = .ok (.iaload, 1) := by decide +kernel
theorem dX2_growRice_16 : decode cX2_growRice 16 = .ok (.ifCond .eq 8, 3) := by decide +kernel
theorem dX2_growRice_19 : decode cX2_growRice 19 = .ok (.aload_n 0, 1) := by decide +kernel
theorem dX2_growRice_20 : decode cX2_growRice 20 = .ok (.iload_n 1, 1) := by decide +kernel
theorem dX2_growRice_21 : decode cX2_growRice 21 = .ok (.invokevirtual 148, 3) := by decide +kernel
theorem dX2_growRice_24 : decode cX2_growRice 24 = .ok (.iinc 1 1, 3) := by decide +kernel
theorem dX2_growRice_27 : decode cX2_growRice 27 = .ok (.goto (-25), 3) := by decide +kernel
theorem dX2_growRice_30 : decode cX2_growRice 30 = .ok (.return_, 1) := by decide +kernel
set_option maxRecDepth 20000 in
theorem ggX2_growCrop_X2_clearCrop : GoodIn wsX2_growCrop wsX2_clearCrop := goodIn_r _ [18, 19, 1, 10, 6, 8, 27, 28, 29, 30, 31, 32, 33, 34, 35, 36, 37, 38, 39, 40, 41, 42, 43, 44] (by decide +kernel) (by decide +kernel)
set_option maxRecDepth 20000 in
theorem gX2_growCrop_X2_clearCrop : GoodIn wsX2_growCrop (wsV RX2 77 RX2 yX2_clearCrop wsX2_clearCrop) := goodIn_app (goodIn_of _ (by decide +kernel)) ggX2_growCrop_X2_clearCrop
set_option maxRecDepth 20000 in
theorem ggX2_growCrop_X2_hardening : GoodIn wsX2_growCrop wsX2_hardening := goodIn_r _ [23, 6, 8, 7, 24, 25, 26, 27, 28, 29, 30, 31, 32, 33, 34, 35, 36, 37, 38, 39, 40, 41, 42, 43, 44] (by decide +kernel) (by decide +kernel)
set_option maxRecDepth 20000 in
theorem gX2_growCrop_X2_hardening : GoodIn wsX2_growCrop (wsV RX2 151 RX2 yX2_hardening wsX2_hardening) := goodIn_app (goodIn_of _ (by decide +kernel)) ggX2_growCrop_X2_hardening
theorem dX2_growCrop_0 : decode cX2_growCrop 0 = .ok (.aload_n 0, 1) := by decide +kernel
theorem dX2_growCrop_1 : decode cX2_growCrop 1 = .ok (.getfield 33, 3) := by decide +kernel
theorem dX2_growCrop_4 : decode cX2_growCrop 4 = .ok (.iload_n 1, 1) := by decide +kernel
theorem dX2_growCrop_5 : decode cX2_growCrop 5 = .ok (.dup2, 1) := by decide +kernel
theorem dX2_growCrop_6 : decode cX2_growCrop 6 = .ok (.iaload, 1) := by decide +kernel
theorem dX2_growCrop_7 : decode cX2_growCrop 7 = .ok (.iconst 1, 1) := by decide +kernel
theorem dX2_growCrop_8 : decode cX2_growCrop 8 = .ok (.iadd, 1) := by decide +kernel
theorem dX2_growCrop_9 : decode cX2_growCrop 9 = .ok (.iastore, 1) := by decide +kernel
theorem dX2_growCrop_10 : decode cX2_growCrop 10 = .ok (.iconst 5, 1) := by decide +kernel
theorem dX2_growCrop_11 : decode cX2_growCrop 11 = .ok (.aload_n 0, 1) := by decide +kernel
theorem dX2_growCrop_12 : decode cX2_growCrop 12 = .ok (.getfield 33, 3) := by decide +kernel
theorem dX2_growCrop_15 : decode cX2_growCrop 15 = .ok (.iload_n 1, 1) := by decide +kernel
theorem dX2_growCrop_16 : decode cX2_growCrop 16 = .ok (.iaload, 1) := by decide +kernel
theorem dX2_growCrop_17 : decode cX2_growCrop 17 = .ok (.iconst 2, 1) := by decide +kernel
theorem dX2_growCrop_18 : decode cX2_growCrop 18 = .ok (.imul, 1) := by decide +kernel
theorem dX2_growCrop_19 : decode cX2_growCrop 19 = .ok (.iconst 3, 1) := by decide +kernel
theorem dX2_growCrop_20 : decode cX2_growCrop 20 = .ok (.idiv, 1) := by decide +kernel
theorem dX2_growCrop_21 : decode cX2_growCrop 21 = .ok (.iadd, 1) := by decide +kernel
theorem dX2_growCrop_22 : decode cX2_growCrop 22 = .ok (.bipush 45, 2) := by decide +kernel
theorem dX2_growCrop_24 : decode cX2_growCrop 24 = .ok (.invokestatic 137, 3) := by decide +kernel
theorem dX2_growCrop_27 : decode cX2_growCrop 27 = .ok (.istore_n 2, 1) := by decide +kernel
theorem dX2_growCrop_28 : decode cX2_growCrop 28 = .ok (.aload_n 0, 1) := by decide +kernel
theorem dX2_growCrop_29 : decode cX2_growCrop 29 = .ok (.getfield 39, 3) := by decide +kernel
theorem dX2_growCrop_32 : decode cX2_growCrop 32 = .ok (.iload_n 1, 1) := by decide +kernel
theorem dX2_growCrop_33 : decode cX2_growCrop 33 = .ok (.aload_n 0, 1) := by decide +kernel
theorem dX2_growCrop_34 : decode cX2_growCrop 34 = .ok (.getfield 15, 3) := by decide +kernel
theorem dX2_growCrop_37 : decode cX2_growCrop 37 = .ok (.iload_n 1, 1) := by decide +kernel
theorem dX2_growCrop_38 : decode cX2_growCrop 38 = .ok (.iaload, 1) := by decide +kernel
theorem dX2_growCrop_39 : decode cX2_growCrop 39 = .ok (.iload_n 2, 1) := by decide +kernel
theorem dX2_growCrop_40 : decode cX2_growCrop 40 = .ok (.if_icmp .le 14, 3) := by decide +kernel
theorem dX2_growCrop_43 : decode cX2_growCrop 43 = .ok (.aload_n 0, 1) := by decide +kernel
theorem dX2_growCrop_44 : decode cX2_growCrop 44 = .ok (.getfield 39, 3) := by decide +kernel
theorem dX2_growCrop_47 : decode cX2_growCrop 47 = .ok (.iload_n 1, 1) := by decide +kernel
theorem dX2_growCrop_48 : decode cX2_growCrop 48 = .ok (.iaload, 1) := by decide +kernel
theorem dX2_growCrop_49 : decode cX2_growCrop 49 = .ok (.iconst 1, 1) := by decide +kernel
theorem dX2_growCrop_50 : decode cX2_growCrop 50 = .ok (.iadd, 1) := by decide +kernel
theorem dX2_growCrop_51 : decode cX2_growCrop 51 = .ok (.goto 4, 3) := by decide +kernel
theorem dX2_growCrop_54 : decode cX2_growCrop 54 = .ok (.iconst 0, 1) := by decide +kernel
theorem dX2_growCrop_55 : decode cX2_growCrop 55 = .ok (.iastore, 1) := by decide +kernel
theorem dX2_growCrop_56 : decode cX2_growCrop 56 = .ok (.aload_n 0, 1) := by decide +kernel
theorem dX2_growCrop_57 : decode cX2_growCrop 57 = .ok (.getfield 42, 3) := by decide +kernel
theorem dX2_growCrop_60 : decode cX2_growCrop 60 = .ok (.iload_n 1, 1) := by decide +kernel
theorem dX2_growCrop_61 : decode cX2_growCrop 61 = .ok (.aload_n 0, 1) := by decide +kernel
theorem dX2_growCrop_62 : decode cX2_growCrop 62 = .ok (.getfield 15, 3) := by decide +kernel
theorem dX2_growCrop_65 : decode cX2_growCrop 65 = .ok (.iload_n 1, 1) := by decide +kernel
theorem dX2_growCrop_66 : decode cX2_growCrop 66 = .ok (.iaload, 1) := by decide +kernel
theorem dX2_growCrop_67 : decode cX2_growCrop 67 = .ok (.ifCond .ne 14, 3) := by decide +kernel
theorem dX2_growCrop_70 : decode cX2_growCrop 70 = .ok (.aload_n 0, 1) := by decide +kernel
theorem dX2_growCrop_71 : decode cX2_growCrop 71 = .ok (.getfield 42, 3) := by decide +kernel
theorem dX2_growCrop_74 : decode cX2_growCrop 74 = .ok (.iload_n 1, 1) := by decide +kernel
theorem dX2_growCrop_75 : decode cX2_growCrop 75 = .ok (.iaload, 1) := by decide +kernel
theorem dX2_growCrop_76 : decode cX2_growCrop 76 = .ok (.iconst 1, 1) := by decide +kernel
theorem dX2_growCrop_77 : decode cX2_growCrop 77 = .ok (.iadd, 1) := by decide +kernel
theorem dX2_growCrop_78 : decode cX2_growCrop 78 = .ok (.goto 4, 3) := by decide +kernel
theorem dX2_growCrop_81 : decode cX2_growCrop 81 = .ok (.iconst 0, 1) := by decide +kernel
theorem dX2_growCrop_82 : decode cX2_growCrop 82 = .ok (.iastore, 1) := by decide +kernel
theorem dX2_growCrop_83 : decode cX2_growCrop 83 = .ok (.aload_n 0, 1) := by decide +kernel
theorem dX2_growCrop_84 : decode cX2_growCrop 84 = .ok (.getfield 39, 3) := by decide +kernel
theorem dX2_growCrop_87 : decode cX2_growCrop 87 = .ok (.iload_n 1, 1) := by decide +kernel
theorem dX2_growCrop_88 : decode cX2_growCrop 88 = .ok (.iaload, 1) := by decide +kernel
theorem dX2_growCrop_89 : decode cX2_growCrop 89 = .ok (.iconst 4, 1) := by decide +kernel
theorem dX2_growCrop_90 : decode cX2_growCrop 90 = .ok (.if_icmp .ge 13, 3) := by decide +kernel
theorem dX2_growCrop_93 : decode cX2_growCrop 93 = .ok (.aload_n 0, 1) := by decide +kernel
theorem dX2_growCrop_94 : decode cX2_growCrop 94 = .ok (.getfield 42, 3) := by decide +kernel
theorem dX2_growCrop_97 : decode cX2_growCrop 97 = .ok (.iload_n 1, 1) := by decide +kernel
theorem dX2_growCrop_98 : decode cX2_growCrop 98 = .ok (.iaload, 1) := by decide +kernel
theorem dX2_growCrop_99 : decode cX2_growCrop 99 = .ok (.iconst 5, 1) := by decide +kernel
theorem dX2_growCrop_100 : decode cX2_growCrop 100 = .ok (.if_icmp .lt 21, 3) := by decide +kernel
theorem dX2_growCrop_103 : decode cX2_growCrop 103 = .ok (.aload_n 0, 1) := by decide +kernel
theorem dX2_growCrop_104 : decode cX2_growCrop 104 = .ok (.iload_n 1, 1) := by decide +kernel
theorem dX2_growCrop_105 : decode cX2_growCrop 105 = .ok (.invokevirtual 77, 3) := by decide +kernel
theorem dX2_growCrop_108 : decode cX2_growCrop 108 = .ok (.aload_n 0, 1) := by decide +kernel
theorem dX2_growCrop_109 : decode cX2_growCrop 109 = .ok (.dup, 1) := by decide +kernel
theorem dX2_growCrop_110 : decode cX2_growCrop 110 = .ok (.getfield 68, 3) := by decide +kernel
theorem dX2_growCrop_113 : decode cX2_growCrop 113 = .ok (.iconst 1, 1) := by decide +kernel
theorem dX2_growCrop_114 : decode cX2_growCrop 114 = .ok (.iadd, 1) := by decide +kernel
theorem dX2_growCrop_115 : decode cX2_growCrop 115 = .ok (.putfield 68, 3) := by decide +kernel
theorem dX2_growCrop_118 : decode cX2_growCrop 118 = .ok (.goto 32, 3) := by decide +kernel
theorem dX2_growCrop_121 : decode cX2_growCrop 121 = .ok (.aload_n 0, 1) := by decide +kernel
theorem dX2_growCrop_122 : decode cX2_growCrop 122 = .ok (.getfield 36, 3) := by decide +kernel
theorem dX2_growCrop_125 : decode cX2_growCrop 125 = .ok (.iload_n 1, 1) := by decide +kernel
theorem dX2_growCrop_126 : decode cX2_growCrop 126 = .ok (.iaload, 1) := by decide +kernel
theorem dX2_growCrop_127 : decode cX2_growCrop 127 = .ok (.aload_n 0, 1) := by decide +kernel
theorem dX2_growCrop_128 : decode cX2_growCrop 128 = .ok (.iload_n 1, 1) := by decide +kernel
theorem dX2_growCrop_129 : decode cX2_growCrop 129 = .ok (.invokevirtual 151, 3) := by decide +kernel
theorem dX2_growCrop_132 : decode cX2_growCrop 132 = .ok (.iadd, 1) := by decide +kernel
theorem dX2_growCrop_133 : decode cX2_growCrop 133 = .ok (.istore_n 3, 1) := by decide +kernel
theorem dX2_growCrop_134 : decode cX2_growCrop 134 = .ok (.aload_n 0, 1) := by decide +kernel
theorem dX2_growCrop_135 : decode cX2_growCrop 135 = .ok (.getfield 36, 3) := by decide +kernel
theorem dX2_growCrop_138 : decode cX2_growCrop 138 = .ok (.iload_n 1, 1) := by decide +kernel
theorem dX2_growCrop_139 : decode cX2_growCrop 139 = .ok (.iload_n 3, 1) := by decide +kernel
theorem dX2_growCrop_140 : decode cX2_growCrop 140 = .ok (.iconst 0, 1) := by decide +kernel
theorem dX2_growCrop_141 : decode cX2_growCrop 141 = .ok (.invokestatic 132, 3) := by decide +kernel
theorem dX2_growCrop_144 : decode cX2_growCrop 144 = .ok (.bipush 100, 2) := by decide +kernel
theorem dX2_growCrop_146 : decode cX2_growCrop 146 = .ok (.invokestatic 137, 3) := by decide +kernel
theorem dX2_growCrop_149 : decode cX2_growCrop 149 = .ok (.iastore, 1) := by decide +kernel
theorem dX2_growCrop_150 : decode cX2_growCrop 150 = .ok (.return_, 1) := by decide +kernel
set_option maxRecDepth 20000 in
theorem ggX2_hardening_X3_isWithin : GoodIn wsX2_hardening wsX3_isWithin := goodIn_r _ [6] (by decide +kernel) (by decide +kernel)
set_option maxRecDepth 20000 in
theorem gX2_hardening_X3_isWithin_n155 : GoodIn wsX2_hardening (wsX3_isWithin) := ggX2_hardening_X3_isWithin
theorem dX2_hardening_0 : decode cX2_hardening 0 = .ok (.aload_n 0, 1) := by decide +kernel
theorem dX2_hardening_1 : decode cX2_hardening 1 = .ok (.getfield 39, 3) := by decide +kernel
theorem dX2_hardening_4 : decode cX2_hardening 4 = .ok (.iload_n 1, 1) := by decide +kernel
theorem dX2_hardening_5 : decode cX2_hardening 5 = .ok (.iaload, 1) := by decide +kernel
theorem dX2_hardening_6 : decode cX2_hardening 6 = .ok (.ifCond .gt 12, 3) := by decide +kernel
theorem dX2_hardening_9 : decode cX2_hardening 9 = .ok (.aload_n 0, 1) := by decide +kernel
theorem dX2_hardening_10 : decode cX2_hardening 10 = .ok (.getfield 42, 3) := by decide +kernel
theorem dX2_hardening_13 : decode cX2_hardening 13 = .ok (.iload_n 1, 1) := by decide +kernel
theorem dX2_hardening_14 : decode cX2_hardening 14 = .ok (.iaload, 1) := by decide +kernel
theorem dX2_hardening_15 : decode cX2_hardening 15 = .ok (.ifCond .le 6, 3) := by decide +kernel
theorem dX2_hardening_18 : decode cX2_hardening 18 = .ok (.bipush (-3), 2) := by decide +kernel
theorem dX2_hardening_20 : decode cX2_hardening 20 = .ok (.ireturn, 1) := by decide +kernel
theorem dX2_hardening_21 : decode cX2_hardening 21 = .ok (.aload_n 0, 1) := by decide +kernel
theorem dX2_hardening_22 : decode cX2_hardening 22 = .ok (.getfield 15, 3) := by decide +kernel
theorem dX2_hardening_25 : decode cX2_hardening 25 = .ok (.iload_n 1, 1) := by decide +kernel
theorem dX2_hardening_26 : decode cX2_hardening 26 = .ok (.iaload, 1) := by decide +kernel
theorem dX2_hardening_27 : decode cX2_hardening 27 = .ok (.iconst 5, 1) := by decide +kernel
theorem dX2_hardening_28 : decode cX2_hardening 28 = .ok (.bipush 25, 2) := by decide +kernel
theorem dX2_hardening_30 : decode cX2_hardening 30 = .ok (.invokestatic 155, 3) := by decide +kernel
theorem dX2_hardening_33 : decode cX2_hardening 33 = .ok (.ifCond .eq 7, 3) := by decide +kernel
theorem dX2_hardening_36 : decode cX2_hardening 36 = .ok (.iconst 2, 1) := by decide +kernel
theorem dX2_hardening_37 : decode cX2_hardening 37 = .ok (.goto 4, 3) := by decide +kernel
theorem dX2_hardening_40 : decode cX2_hardening 40 = .ok (.iconst 1, 1) := by decide +kernel
theorem dX2_hardening_41 : decode cX2_hardening 41 = .ok (.ireturn, 1) := by decide +kernel
end
section
set_option maxRecDepth 20000 in
theorem ggX3_init_X0_init : GoodIn wsX3_init wsX0_init := goodIn_r _ [19, 20, 2, 3, 21, 22, 23, 24, 25, 26, 27, 28, 63, 64, 65] (by decide +kernel) (by decide +kernel)
set_option maxRecDepth 20000 in
theorem gX3_init_X0_init : GoodIn wsX3_init (wsX0_init) := ggX3_init_X0_init
set_option maxRecDepth 20000 in
theorem ggX3_init_X2_init : GoodIn wsX3_init wsX2_init := goodIn_r _ [31, 32, 2, 3, 21, 33, 34, 35, 36, 37, 38, 39, 40, 41, 42, 43, 44, 45, 46, 47, 48, 10, 49, 50, 51, 52, 53, 54, 55, 26, 27, 28, 56, 57, 58, 59, 72, 73, 74, 75, 76, 77, 78, 79, 80, 81, 82, 83, 84, 85, 86, 87, 88, 89] (by decide +kernel) (by decide +kernel)
set_option maxRecDepth 20000 in
theorem gX3_init_X2_init : GoodIn wsX3_init (wsX2_init) := ggX3_init_X2_init
set_option maxRecDepth 20000 in
theorem ggX3_init_X1_init : GoodIn wsX3_init wsX1_init := goodIn_r _ [61, 62, 2, 3] (by decide +kernel) (by decide +kernel)
set_option maxRecDepth 20000 in
theorem gX3_init_X1_init_n30 : GoodIn wsX3_init (wsX1_init) := ggX3_init_X1_init
theorem dX3_init_0 : decode cX3_init 0 = .ok (.aload_n 0, 1) := by decide +kernel
theorem dX3_init_1 : decode cX3_init 1 = .ok (.invokespecial 1, 3) := by decide +kernel
theorem dX3_init_4 : decode cX3_init 4 = .ok (.aload_n 0, 1) := by decide +kernel
theorem dX3_init_5 : decode cX3_init 5 = .ok (.new 7, 3) := by decide +kernel
theorem dX3_init_8 : decode cX3_init 8 = .ok (.dup, 1) := by decide +kernel
theorem dX3_init_9 : decode cX3_init 9 = .ok (.invokespecial 9, 3) := by decide +kernel
theorem dX3_init_12 : decode cX3_init 12 = .ok (.putfield 10, 3) := by decide +kernel
theorem dX3_init_15 : decode cX3_init 15 = .ok (.aload_n 0, 1) := by decide +kernel
theorem dX3_init_16 : decode cX3_init 16 = .ok (.new 16, 3) := by decide +kernel
theorem dX3_init_19 : decode cX3_init 19 = .ok (.dup, 1) := by decide +kernel
theorem dX3_init_20 : decode cX3_init 20 = .ok (.iconst 4, 1) := by decide +kernel
theorem dX3_init_21 : decode cX3_init 21 = .ok (.iconst 4, 1) := by decide +kernel
theorem dX3_init_22 : decode cX3_init 22 = .ok (.invokespecial 18, 3) := by decide +kernel
theorem dX3_init_25 : decode cX3_init 25 = .ok (.putfield 21, 3) := by decide +kernel
theorem dX3_init_28 : decode cX3_init 28 = .ok (.aload_n 0, 1) := by decide +kernel
theorem dX3_init_29 : decode cX3_init 29 = .ok (.new 16, 3) := by decide +kernel
theorem dX3_init_32 : decode cX3_init 32 = .ok (.dup, 1) := by decide +kernel
theorem dX3_init_33 : decode cX3_init 33 = .ok (.iconst 4, 1) := by decide +kernel
theorem dX3_init_34 : decode cX3_init 34 = .ok (.iconst 4, 1) := by decide +kernel
theorem dX3_init_35 : decode cX3_init 35 = .ok (.invokespecial 18, 3) := by decide +kernel
theorem dX3_init_38 : decode cX3_init 38 = .ok (.putfield 25, 3) := by decide +kernel
theorem dX3_init_41 : decode cX3_init 41 = .ok (.aload_n 0, 1) := by decide +kernel
theorem dX3_init_42 : decode cX3_init 42 = .ok (.new 28, 3) := by decide +kernel
theorem dX3_init_45 : decode cX3_init 45 = .ok (.dup, 1) := by decide +kernel
theorem dX3_init_46 : decode cX3_init 46 = .ok (.invokespecial 30, 3) := by decide +kernel
theorem dX3_init_49 : decode cX3_init 49 = .ok (.putfield 31, 3) := by decide +kernel
theorem dX3_init_52 : decode cX3_init 52 = .ok (.return_, 1) := by decide +kernel
set_option maxRecDepth 20000 in
theorem ggX3_lay_X3_isWithin : GoodIn wsX3_lay wsX3_isWithin := goodIn_r _ [9] (by decide +kernel) (by decide +kernel)
set_option maxRecDepth 20000 in
theorem gX3_lay_X3_isWithin : GoodIn wsX3_lay (va_wsS RX3 35 yX3_isWithin wsX3_isWithin) := goodIn_app (goodIn_of _ (by decide +kernel)) ggX3_lay_X3_isWithin
set_option maxRecDepth 20000 in
theorem ggX3_lay_X2_startAnew : GoodIn wsX3_lay wsX2_startAnew := goodIn_r _ [14, 15, 16, 17, 18, 19, 20, 21, 22, 23, 24, 25, 26, 27, 28, 29, 30, 31, 32, 33, 34, 13, 35, 36, 37, 38, 39, 40, 51, 52, 53, 54, 55, 56, 57, 58, 59, 60, 61, 62, 63, 64, 65, 66, 67, 68] (by decide +kernel) (by decide +kernel)
set_option maxRecDepth 20000 in
theorem gX3_lay_X2_startAnew : GoodIn wsX3_lay (wsV RX3 46 RX2 yX2_startAnew wsX2_startAnew) := goodIn_app (goodIn_of _ (by decide +kernel)) ggX3_lay_X2_startAnew
set_option maxRecDepth 20000 in
theorem ggX3_lay_X2_cells : GoodIn wsX3_lay wsX2_cells := goodIn_r _ [44, 15, 16, 51, 52, 53, 54, 55, 56, 57, 58, 59, 60, 61, 62, 63, 64, 65, 66, 67, 68] (by decide +kernel) (by decide +kernel)
set_option maxRecDepth 20000 in
theorem gX3_lay_X2_cells : GoodIn wsX3_lay (wsV RX3 56 RX2 yX2_cells wsX2_cells) := goodIn_app (goodIn_of _ (by decide +kernel)) ggX3_lay_X2_cells
theorem dX3_lay_0 : decode cX3_lay 0 = .ok (.iload_n 1, 1) := by decide +kernel
theorem dX3_lay_1 : decode cX3_lay 1 = .ok (.iconst 2, 1) := by decide +kernel
theorem dX3_lay_2 : decode cX3_lay 2 = .ok (.bipush 8, 2) := by decide +kernel
theorem dX3_lay_4 : decode cX3_lay 4 = .ok (.invokestatic 35, 3) := by decide +kernel
theorem dX3_lay_7 : decode cX3_lay 7 = .ok (.ifCond .eq 13, 3) := by decide +kernel
theorem dX3_lay_10 : decode cX3_lay 10 = .ok (.iload_n 2, 1) := by decide +kernel
theorem dX3_lay_11 : decode cX3_lay 11 = .ok (.iconst 2, 1) := by decide +kernel
theorem dX3_lay_12 : decode cX3_lay 12 = .ok (.bipush 8, 2) := by decide +kernel
theorem dX3_lay_14 : decode cX3_lay 14 = .ok (.invokestatic 35, 3) := by decide +kernel
theorem dX3_lay_17 : decode cX3_lay 17 = .ok (.ifCond .ne 13, 3) := by decide +kernel
theorem dX3_lay_20 : decode cX3_lay 20 = .ok (.new 39, 3) := by decide +kernel
theorem dX3_lay_23 : decode cX3_lay 23 = .ok (.dup, 1) := by decide +kernel
theorem dX3_lay_24 : decode cX3_lay 24 = .ok (.ldc 41, 2) := by decide +kernel
theorem dX3_lay_26 : decode cX3_lay 26 = .ok (.invokespecial 43, 3) := by decide +kernel
theorem dX3_lay_29 : decode cX3_lay 29 = .ok (.athrow, 1) := by decide +kernel
theorem dX3_lay_30 : decode cX3_lay 30 = .ok (.aload_n 0, 1) := by decide +kernel
theorem dX3_lay_31 : decode cX3_lay 31 = .ok (.getfield 21, 3) := by decide +kernel
theorem dX3_lay_34 : decode cX3_lay 34 = .ok (.iload_n 1, 1) := by decide +kernel
theorem dX3_lay_35 : decode cX3_lay 35 = .ok (.iload_n 2, 1) := by decide +kernel
theorem dX3_lay_36 : decode cX3_lay 36 = .ok (.invokevirtual 46, 3) := by decide +kernel
theorem dX3_lay_39 : decode cX3_lay 39 = .ok (.aload_n 0, 1) := by decide +kernel
theorem dX3_lay_40 : decode cX3_lay 40 = .ok (.iconst 0, 1) := by decide +kernel
theorem dX3_lay_41 : decode cX3_lay 41 = .ok (.putfield 49, 3) := by decide +kernel
theorem dX3_lay_44 : decode cX3_lay 44 = .ok (.aload_n 0, 1) := by decide +kernel
theorem dX3_lay_45 : decode cX3_lay 45 = .ok (.iconst 0, 1) := by decide +kernel
theorem dX3_lay_46 : decode cX3_lay 46 = .ok (.putfield 53, 3) := by decide +kernel
theorem dX3_lay_49 : decode cX3_lay 49 = .ok (.aload_n 0, 1) := by decide +kernel
theorem dX3_lay_50 : decode cX3_lay 50 = .ok (.getfield 21, 3) := by decide +kernel
theorem dX3_lay_53 : decode cX3_lay 53 = .ok (.invokevirtual 56, 3) := by decide +kernel
theorem dX3_lay_56 : decode cX3_lay 56 = .ok (.ireturn, 1) := by decide +kernel
set_option maxRecDepth 20000 in
theorem ggX3_setField_X2_hasField : GoodIn wsX3_setField wsX2_hasField := goodIn_r _ [17, 18, 19, 34, 35, 36, 37, 38, 39, 40, 41, 42, 43, 44, 45, 46, 47, 48, 49, 50, 51] (by decide +kernel) (by decide +kernel)
set_option maxRecDepth 20000 in
theorem gX3_setField_X2_hasField : GoodIn wsX3_setField (wsV RX3 60 RX2 yX2_hasField wsX2_hasField) := goodIn_app (goodIn_of _ (by decide +kernel)) ggX3_setField_X2_hasField
set_option maxRecDepth 20000 in
theorem ggX3_setField_X3_isWithin : GoodIn wsX3_setField wsX3_isWithin := goodIn_r _ [23] (by decide +kernel) (by decide +kernel)
set_option maxRecDepth 20000 in
theorem gX3_setField_X3_isWithin : GoodIn wsX3_setField (va_wsS RX3 35 yX3_isWithin wsX3_isWithin) := goodIn_app (goodIn_of _ (by decide +kernel)) ggX3_setField_X3_isWithin
set_option maxRecDepth 20000 in
theorem ggX3_setField_X2_cellOf : GoodIn wsX3_setField wsX2_cellOf := goodIn_r _ [27, 19, 34, 35, 36, 37, 38, 39, 40, 41, 42, 43, 44, 45, 46, 47, 48, 49, 50, 51] (by decide +kernel) (by decide +kernel)
set_option maxRecDepth 20000 in
theorem gX3_setField_X2_cellOf : GoodIn wsX3_setField (wsV RX3 71 RX2 yX2_cellOf wsX2_cellOf) := goodIn_app (goodIn_of _ (by decide +kernel)) ggX3_setField_X2_cellOf
theorem dX3_setField_0 : decode cX3_setField 0 = .ok (.aload_n 0, 1) := by decide +kernel
theorem dX3_setField_1 : decode cX3_setField 1 = .ok (.getfield 21, 3) := by decide +kernel
theorem dX3_setField_4 : decode cX3_setField 4 = .ok (.iload_n 1, 1) := by decide +kernel
theorem dX3_setField_5 : decode cX3_setField 5 = .ok (.iload_n 2, 1) := by decide +kernel
theorem dX3_setField_6 : decode cX3_setField 6 = .ok (.invokevirtual 60, 3) := by decide +kernel
theorem dX3_setField_9 : decode cX3_setField 9 = .ok (.ifCond .ne 13, 3) := by decide +kernel
theorem dX3_setField_12 : decode cX3_setField 12 = .ok (.new 64, 3) := by decide +kernel
theorem dX3_setField_15 : decode cX3_setField 15 = .ok (.dup, 1) := by decide +kernel
theorem dX3_setField_16 : decode cX3_setField 16 = .ok (.ldc 66, 2) := by decide +kernel
theorem dX3_setField_18 : decode cX3_setField 18 = .ok (.invokespecial 68, 3) := by decide +kernel
theorem dX3_setField_21 : decode cX3_setField 21 = .ok (.athrow, 1) := by decide +kernel
theorem dX3_setField_22 : decode cX3_setField 22 = .ok (.iload_n 3, 1) := by decide +kernel
theorem dX3_setField_23 : decode cX3_setField 23 = .ok (.bipush 20, 2) := by decide +kernel
theorem dX3_setField_25 : decode cX3_setField 25 = .ok (.bipush 120, 2) := by decide +kernel
theorem dX3_setField_27 : decode cX3_setField 27 = .ok (.invokestatic 35, 3) := by decide +kernel
theorem dX3_setField_30 : decode cX3_setField 30 = .ok (.ifCond .eq 14, 3) := by decide +kernel
theorem dX3_setField_33 : decode cX3_setField 33 = .ok (.iload 4, 2) := by decide +kernel
theorem dX3_setField_35 : decode cX3_setField 35 = .ok (.iconst 0, 1) := by decide +kernel
theorem dX3_setField_36 : decode cX3_setField 36 = .ok (.bipush 9, 2) := by decide +kernel
theorem dX3_setField_38 : decode cX3_setField 38 = .ok (.invokestatic 35, 3) := by decide +kernel
theorem dX3_setField_41 : decode cX3_setField 41 = .ok (.ifCond .ne 13, 3) := by decide +kernel
theorem dX3_setField_44 : decode cX3_setField 44 = .ok (.new 39, 3) := by decide +kernel
theorem dX3_setField_47 : decode cX3_setField 47 = .ok (.dup, 1) := by decide +kernel
theorem dX3_setField_48 : decode cX3_setField 48 = .ok (.ldc 69, 2) := by decide +kernel
theorem dX3_setField_50 : decode cX3_setField 50 = .ok (.invokespecial 43, 3) := by decide +kernel
theorem dX3_setField_53 : decode cX3_setField 53 = .ok (.athrow, 1) := by decide +kernel
theorem dX3_setField_54 : decode cX3_setField 54 = .ok (.aload_n 0, 1) := by decide +kernel
theorem dX3_setField_55 : decode cX3_setField 55 = .ok (.getfield 21, 3) := by decide +kernel
theorem dX3_setField_58 : decode cX3_setField 58 = .ok (.iload_n 1, 1) := by decide +kernel
theorem dX3_setField_59 : decode cX3_setField 59 = .ok (.iload_n 2, 1) := by decide +kernel
theorem dX3_setField_60 : decode cX3_setField 60 = .ok (.invokevirtual 71, 3) := by decide +kernel
theorem dX3_setField_63 : decode cX3_setField 63 = .ok (.istore 5, 2) := by decide +kernel
theorem dX3_setField_65 : decode cX3_setField 65 = .ok (.aload_n 0, 1) := by decide +kernel
theorem dX3_setField_66 : decode cX3_setField 66 = .ok (.getfield 21, 3) := by decide +kernel
theorem dX3_setField_69 : decode cX3_setField 69 = .ok (.getfield 75, 3) := by decide +kernel
theorem dX3_setField_72 : decode cX3_setField 72 = .ok (.iload 5, 2) := by decide +kernel
theorem dX3_setField_74 : decode cX3_setField 74 = .ok (.iaload, 1) := by decide +kernel
theorem dX3_setField_75 : decode cX3_setField 75 = .ok (.istore 6, 2) := by decide +kernel
theorem dX3_setField_77 : decode cX3_setField 77 = .ok (.aload_n 0, 1) := by decide +kernel
theorem dX3_setField_78 : decode cX3_setField 78 = .ok (.getfield 21, 3) := by decide +kernel
theorem dX3_setField_81 : decode cX3_setField 81 = .ok (.getfield 75, 3) := by decide +kernel
theorem dX3_setField_84 : decode cX3_setField 84 = .ok (.iload 5, 2) := by decide +kernel
theorem dX3_setField_86 : decode cX3_setField 86 = .ok (.iload_n 3, 1) := by decide +kernel
theorem dX3_setField_87 : decode cX3_setField 87 = .ok (.iastore, 1) := by decide +kernel
theorem dX3_setField_88 : decode cX3_setField 88 = .ok (.aload_n 0, 1) := by decide +kernel
theorem dX3_setField_89 : decode cX3_setField 89 = .ok (.getfield 21, 3) := by decide +kernel
theorem dX3_setField_92 : decode cX3_setField 92 = .ok (.getfield 79, 3) := by decide +kernel
theorem dX3_setField_95 : decode cX3_setField 95 = .ok (.iload 5, 2) := by decide +kernel
theorem dX3_setField_97 : decode cX3_setField 97 = .ok (.iload 4, 2) := by decide +kernel
theorem dX3_setField_99 : decode cX3_setField 99 = .ok (.iastore, 1) := by decide +kernel
theorem dX3_setField_100 : decode cX3_setField 100 = .ok (.aload_n 0, 1) := by decide +kernel
theorem dX3_setField_101 : decode cX3_setField 101 = .ok (.getfield 21, 3) := by decide +kernel
theorem dX3_setField_104 : decode cX3_setField 104 = .ok (.getfield 82, 3) := by decide +kernel
theorem dX3_setField_107 : decode cX3_setField 107 = .ok (.iload 5, 2) := by decide +kernel
theorem dX3_setField_109 : decode cX3_setField 109 = .ok (.aload_n 0, 1) := by decide +kernel
theorem dX3_setField_110 : decode cX3_setField 110 = .ok (.getfield 21, 3) := by decide +kernel
theorem dX3_setField_113 : decode cX3_setField 113 = .ok (.getfield 82, 3) := by decide +kernel
theorem dX3_setField_116 : decode cX3_setField 116 = .ok (.iload 5, 2) := by decide +kernel
theorem dX3_setField_118 : decode cX3_setField 118 = .ok (.iaload, 1) := by decide +kernel
theorem dX3_setField_119 : decode cX3_setField 119 = .ok (.iload_n 3, 1) := by decide +kernel
theorem dX3_setField_120 : decode cX3_setField 120 = .ok (.invokestatic 85, 3) := by decide +kernel
theorem dX3_setField_123 : decode cX3_setField 123 = .ok (.iastore, 1) := by decide +kernel
theorem dX3_setField_124 : decode cX3_setField 124 = .ok (.iload 6, 2) := by decide +kernel
theorem dX3_setField_126 : decode cX3_setField 126 = .ok (.ireturn, 1) := by decide +kernel
set_option maxRecDepth 20000 in
theorem ggX3_moveStone_X2_hasField : GoodIn wsX3_moveStone wsX2_hasField := goodIn_r _ [17, 18, 19, 34, 35, 36, 37, 38, 39, 40, 41, 42, 43, 44, 45, 46, 47, 48, 49, 50, 51] (by decide +kernel) (by decide +kernel)
set_option maxRecDepth 20000 in
theorem gX3_moveStone_X2_hasField : GoodIn wsX3_moveStone (wsV RX3 60 RX2 yX2_hasField wsX2_hasField) := goodIn_app (goodIn_of _ (by decide +kernel)) ggX3_moveStone_X2_hasField
set_option maxRecDepth 20000 in
theorem ggX3_moveStone_X2_cellOf : GoodIn wsX3_moveStone wsX2_cellOf := goodIn_r _ [23, 19, 34, 35, 36, 37, 38, 39, 40, 41, 42, 43, 44, 45, 46, 47, 48, 49, 50, 51] (by decide +kernel) (by decide +kernel)
set_option maxRecDepth 20000 in
theorem gX3_moveStone_X2_cellOf : GoodIn wsX3_moveStone (wsV RX3 71 RX2 yX2_cellOf wsX2_cellOf) := goodIn_app (goodIn_of _ (by decide +kernel)) ggX3_moveStone_X2_cellOf
set_option maxRecDepth 20000 in
theorem ggX3_moveStone_X3_isWithin : GoodIn wsX3_moveStone wsX3_isWithin := goodIn_r _ [27] (by decide +kernel) (by decide +kernel)
set_option maxRecDepth 20000 in
theorem gX3_moveStone_X3_isWithin : GoodIn wsX3_moveStone (va_wsS RX3 35 yX3_isWithin wsX3_isWithin) := goodIn_app (goodIn_of _ (by decide +kernel)) ggX3_moveStone_X3_isWithin
theorem dX3_moveStone_0 : decode cX3_moveStone 0 = .ok (.aload_n 0, 1) := by decide +kernel
theorem dX3_moveStone_1 : decode cX3_moveStone 1 = .ok (.getfield 21, 3) := by decide +kernel
theorem dX3_moveStone_4 : decode cX3_moveStone 4 = .ok (.iload_n 1, 1) := by decide +kernel
theorem dX3_moveStone_5 : decode cX3_moveStone 5 = .ok (.iload_n 2, 1) := by decide +kernel
theorem dX3_moveStone_6 : decode cX3_moveStone 6 = .ok (.invokevirtual 60, 3) := by decide +kernel
theorem dX3_moveStone_9 : decode cX3_moveStone 9 = .ok (.ifCond .ne 13, 3) := by decide +kernel
theorem dX3_moveStone_12 : decode cX3_moveStone 12 = .ok (.new 64, 3) := by decide +kernel
theorem dX3_moveStone_15 : decode cX3_moveStone 15 = .ok (.dup, 1) := by decide +kernel
theorem dX3_moveStone_16 : decode cX3_moveStone 16 = .ok (.ldc 66, 2) := by decide +kernel
theorem dX3_moveStone_18 : decode cX3_moveStone 18 = .ok (.invokespecial 68, 3) := by decide +kernel
theorem dX3_moveStone_21 : decode cX3_moveStone 21 = .ok (.athrow, 1) := by decide +kernel
theorem dX3_moveStone_22 : decode cX3_moveStone 22 = .ok (.aload_n 0, 1) := by decide +kernel
theorem dX3_moveStone_23 : decode cX3_moveStone 23 = .ok (.getfield 21, 3) := by decide +kernel
theorem dX3_moveStone_26 : decode cX3_moveStone 26 = .ok (.iload_n 1, 1) := by decide +kernel
theorem dX3_moveStone_27 : decode cX3_moveStone 27 = .ok (.iload_n 2, 1) := by decide +kernel
theorem dX3_moveStone_28 : decode cX3_moveStone 28 = .ok (.invokevirtual 71, 3) := by decide +kernel
theorem dX3_moveStone_31 : decode cX3_moveStone 31 = .ok (.istore 4, 2) := by decide +kernel
theorem dX3_moveStone_33 : decode cX3_moveStone 33 = .ok (.iload_n 3, 1) := by decide +kernel
theorem dX3_moveStone_34 : decode cX3_moveStone 34 = .ok (.iconst 0, 1) := by decide +kernel
theorem dX3_moveStone_35 : decode cX3_moveStone 35 = .ok (.aload_n 0, 1) := by decide +kernel
theorem dX3_moveStone_36 : decode cX3_moveStone 36 = .ok (.getfield 21, 3) := by decide +kernel
theorem dX3_moveStone_39 : decode cX3_moveStone 39 = .ok (.getfield 75, 3) := by decide +kernel
theorem dX3_moveStone_42 : decode cX3_moveStone 42 = .ok (.iload 4, 2) := by decide +kernel
theorem dX3_moveStone_44 : decode cX3_moveStone 44 = .ok (.iaload, 1) := by decide +kernel
theorem dX3_moveStone_45 : decode cX3_moveStone 45 = .ok (.invokestatic 35, 3) := by decide +kernel
theorem dX3_moveStone_48 : decode cX3_moveStone 48 = .ok (.ifCond .ne 13, 3) := by decide +kernel
theorem dX3_moveStone_51 : decode cX3_moveStone 51 = .ok (.new 39, 3) := by decide +kernel
theorem dX3_moveStone_54 : decode cX3_moveStone 54 = .ok (.dup, 1) := by decide +kernel
theorem dX3_moveStone_55 : decode cX3_moveStone 55 = .ok (.ldc 90, 2) := by decide +kernel
theorem dX3_moveStone_57 : decode cX3_moveStone 57 = .ok (.invokespecial 43, 3) := by decide +kernel
theorem dX3_moveStone_60 : decode cX3_moveStone 60 = .ok (.athrow, 1) := by decide +kernel
theorem dX3_moveStone_61 : decode cX3_moveStone 61 = .ok (.iload_n 3, 1) := by decide +kernel
theorem dX3_moveStone_62 : decode cX3_moveStone 62 = .ok (.aload_n 0, 1) := by decide +kernel
theorem dX3_moveStone_63 : decode cX3_moveStone 63 = .ok (.getfield 21, 3) := by decide +kernel
theorem dX3_moveStone_66 : decode cX3_moveStone 66 = .ok (.getfield 82, 3) := by decide +kernel
theorem dX3_moveStone_69 : decode cX3_moveStone 69 = .ok (.iload 4, 2) := by decide +kernel
theorem dX3_moveStone_71 : decode cX3_moveStone 71 = .ok (.iaload, 1) := by decide +kernel
theorem dX3_moveStone_72 : decode cX3_moveStone 72 = .ok (.isub, 1) := by decide +kernel
theorem dX3_moveStone_73 : decode cX3_moveStone 73 = .ok (.istore 5, 2) := by decide +kernel
theorem dX3_moveStone_75 : decode cX3_moveStone 75 = .ok (.aload_n 0, 1) := by decide +kernel
theorem dX3_moveStone_76 : decode cX3_moveStone 76 = .ok (.getfield 21, 3) := by decide +kernel
theorem dX3_moveStone_79 : decode cX3_moveStone 79 = .ok (.getfield 82, 3) := by decide +kernel
theorem dX3_moveStone_82 : decode cX3_moveStone 82 = .ok (.iload 4, 2) := by decide +kernel
theorem dX3_moveStone_84 : decode cX3_moveStone 84 = .ok (.iload_n 3, 1) := by decide +kernel
theorem dX3_moveStone_85 : decode cX3_moveStone 85 = .ok (.iastore, 1) := by decide +kernel
theorem dX3_moveStone_86 : decode cX3_moveStone 86 = .ok (.aload_n 0, 1) := by decide +kernel
theorem dX3_moveStone_87 : decode cX3_moveStone 87 = .ok (.dup, 1) := by decide +kernel
theorem dX3_moveStone_88 : decode cX3_moveStone 88 = .ok (.getfield 53, 3) := by decide +kernel
theorem dX3_moveStone_91 : decode cX3_moveStone 91 = .ok (.iload 5, 2) := by decide +kernel
theorem dX3_moveStone_93 : decode cX3_moveStone 93 = .ok (.invokestatic 92, 3) := by decide +kernel
theorem dX3_moveStone_96 : decode cX3_moveStone 96 = .ok (.iadd, 1) := by decide +kernel
theorem dX3_moveStone_97 : decode cX3_moveStone 97 = .ok (.putfield 53, 3) := by decide +kernel
theorem dX3_moveStone_100 : decode cX3_moveStone 100 = .ok (.iload 5, 2) := by decide +kernel
theorem dX3_moveStone_102 : decode cX3_moveStone 102 = .ok (.ireturn, 1) := by decide +kernel
set_option maxRecDepth 20000 in
theorem ggX3_turn_X2_hasField : GoodIn wsX3_turn wsX2_hasField := goodIn_r _ [11, 12, 13, 28, 29, 30, 31, 32, 33, 34, 35, 36, 37, 38, 39, 40, 41, 42, 43, 44, 45] (by decide +kernel) (by decide +kernel)
set_option maxRecDepth 20000 in
theorem gX3_turn_X2_hasField : GoodIn wsX3_turn (wsV RX3 60 RX2 yX2_hasField wsX2_hasField) := goodIn_app (goodIn_of _ (by decide +kernel)) ggX3_turn_X2_hasField
set_option maxRecDepth 20000 in
theorem ggX3_turn_X3_isWithin : GoodIn wsX3_turn wsX3_isWithin := goodIn_r _ [17] (by decide +kernel) (by decide +kernel)
set_option maxRecDepth 20000 in
theorem gX3_turn_X3_isWithin : GoodIn wsX3_turn (va_wsS RX3 35 yX3_isWithin wsX3_isWithin) := goodIn_app (goodIn_of _ (by decide +kernel)) ggX3_turn_X3_isWithin
set_option maxRecDepth 20000 in
theorem ggX3_turn_X2_cellOf : GoodIn wsX3_turn wsX2_cellOf := goodIn_r _ [21, 13, 28, 29, 30, 31, 32, 33, 34, 35, 36, 37, 38, 39, 40, 41, 42, 43, 44, 45] (by decide +kernel) (by decide +kernel)
set_option maxRecDepth 20000 in
theorem gX3_turn_X2_cellOf : GoodIn wsX3_turn (wsV RX3 71 RX2 yX2_cellOf wsX2_cellOf) := goodIn_app (goodIn_of _ (by decide +kernel)) ggX3_turn_X2_cellOf
theorem dX3_turn_0 : decode cX3_turn 0 = .ok (.aload_n 0, 1) := by decide +kernel
theorem dX3_turn_1 : decode cX3_turn 1 = .ok (.getfield 21, 3) := by decide +kernel
theorem dX3_turn_4 : decode cX3_turn 4 = .ok (.iload_n 1, 1) := by decide +kernel
theorem dX3_turn_5 : decode cX3_turn 5 = .ok (.iload_n 2, 1) := by decide +kernel
theorem dX3_turn_6 : decode cX3_turn 6 = .ok (.invokevirtual 60, 3) := by decide +kernel
theorem dX3_turn_9 : decode cX3_turn 9 = .ok (.ifCond .ne 13, 3) := by decide +kernel
theorem dX3_turn_12 : decode cX3_turn 12 = .ok (.new 64, 3) := by decide +kernel
theorem dX3_turn_15 : decode cX3_turn 15 = .ok (.dup, 1) := by decide +kernel
theorem dX3_turn_16 : decode cX3_turn 16 = .ok (.ldc 66, 2) := by decide +kernel
theorem dX3_turn_18 : decode cX3_turn 18 = .ok (.invokespecial 68, 3) := by decide +kernel
theorem dX3_turn_21 : decode cX3_turn 21 = .ok (.athrow, 1) := by decide +kernel
theorem dX3_turn_22 : decode cX3_turn 22 = .ok (.iload_n 3, 1) := by decide +kernel
theorem dX3_turn_23 : decode cX3_turn 23 = .ok (.iconst (-1), 1) := by decide +kernel
theorem dX3_turn_24 : decode cX3_turn 24 = .ok (.iconst 1, 1) := by decide +kernel
theorem dX3_turn_25 : decode cX3_turn 25 = .ok (.invokestatic 35, 3) := by decide +kernel
theorem dX3_turn_28 : decode cX3_turn 28 = .ok (.ifCond .ne 13, 3) := by decide +kernel
theorem dX3_turn_31 : decode cX3_turn 31 = .ok (.new 39, 3) := by decide +kernel
theorem dX3_turn_34 : decode cX3_turn 34 = .ok (.dup, 1) := by decide +kernel
theorem dX3_turn_35 : decode cX3_turn 35 = .ok (.ldc 96, 2) := by decide +kernel
theorem dX3_turn_37 : decode cX3_turn 37 = .ok (.invokespecial 43, 3) := by decide +kernel
theorem dX3_turn_40 : decode cX3_turn 40 = .ok (.athrow, 1) := by decide +kernel
theorem dX3_turn_41 : decode cX3_turn 41 = .ok (.aload_n 0, 1) := by decide +kernel
theorem dX3_turn_42 : decode cX3_turn 42 = .ok (.getfield 21, 3) := by decide +kernel
theorem dX3_turn_45 : decode cX3_turn 45 = .ok (.iload_n 1, 1) := by decide +kernel
theorem dX3_turn_46 : decode cX3_turn 46 = .ok (.iload_n 2, 1) := by decide +kernel
theorem dX3_turn_47 : decode cX3_turn 47 = .ok (.invokevirtual 71, 3) := by decide +kernel
theorem dX3_turn_50 : decode cX3_turn 50 = .ok (.istore 4, 2) := by decide +kernel
theorem dX3_turn_52 : decode cX3_turn 52 = .ok (.aload_n 0, 1) := by decide +kernel
theorem dX3_turn_53 : decode cX3_turn 53 = .ok (.getfield 21, 3) := by decide +kernel
theorem dX3_turn_56 : decode cX3_turn 56 = .ok (.getfield 98, 3) := by decide +kernel
theorem dX3_turn_59 : decode cX3_turn 59 = .ok (.iload 4, 2) := by decide +kernel
theorem dX3_turn_61 : decode cX3_turn 61 = .ok (.iaload, 1) := by decide +kernel
theorem dX3_turn_62 : decode cX3_turn 62 = .ok (.istore 5, 2) := by decide +kernel
theorem dX3_turn_64 : decode cX3_turn 64 = .ok (.aload_n 0, 1) := by decide +kernel
theorem dX3_turn_65 : decode cX3_turn 65 = .ok (.getfield 21, 3) := by decide +kernel
theorem dX3_turn_68 : decode cX3_turn 68 = .ok (.getfield 98, 3) := by decide +kernel
theorem dX3_turn_71 : decode cX3_turn 71 = .ok (.iload 4, 2) := by decide +kernel
theorem dX3_turn_73 : decode cX3_turn 73 = .ok (.iload_n 3, 1) := by decide +kernel
theorem dX3_turn_74 : decode cX3_turn 74 = .ok (.iastore, 1) := by decide +kernel
theorem dX3_turn_75 : decode cX3_turn 75 = .ok (.iload 5, 2) := by decide +kernel
theorem dX3_turn_77 : decode cX3_turn 77 = .ok (.ireturn, 1) := by decide +kernel
set_option maxRecDepth 20000 in
theorem ggX3_setShare_X2_hasField : GoodIn wsX3_setShare wsX2_hasField := goodIn_r _ [11, 12, 13, 24, 25, 26, 27, 28, 29, 30, 31, 32, 33, 34, 35, 36, 37, 38, 39, 40, 41] (by decide +kernel) (by decide +kernel)
set_option maxRecDepth 20000 in
theorem gX3_setShare_X2_hasField : GoodIn wsX3_setShare (wsV RX3 60 RX2 yX2_hasField wsX2_hasField) := goodIn_app (goodIn_of _ (by decide +kernel)) ggX3_setShare_X2_hasField
set_option maxRecDepth 20000 in
theorem ggX3_setShare_X3_isWithin : GoodIn wsX3_setShare wsX3_isWithin := goodIn_r _ [17] (by decide +kernel) (by decide +kernel)
set_option maxRecDepth 20000 in
theorem gX3_setShare_X3_isWithin : GoodIn wsX3_setShare (va_wsS RX3 35 yX3_isWithin wsX3_isWithin) := goodIn_app (goodIn_of _ (by decide +kernel)) ggX3_setShare_X3_isWithin
theorem dX3_setShare_0 : decode cX3_setShare 0 = .ok (.aload_n 0, 1) := by decide +kernel
theorem dX3_setShare_1 : decode cX3_setShare 1 = .ok (.getfield 21, 3) := by decide +kernel
theorem dX3_setShare_4 : decode cX3_setShare 4 = .ok (.iconst 0, 1) := by decide +kernel
theorem dX3_setShare_5 : decode cX3_setShare 5 = .ok (.iload_n 1, 1) := by decide +kernel
theorem dX3_setShare_6 : decode cX3_setShare 6 = .ok (.invokevirtual 60, 3) := by decide +kernel
theorem dX3_setShare_9 : decode cX3_setShare 9 = .ok (.ifCond .ne 13, 3) := by decide +kernel
theorem dX3_setShare_12 : decode cX3_setShare 12 = .ok (.new 64, 3) := by decide +kernel
theorem dX3_setShare_15 : decode cX3_setShare 15 = .ok (.dup, 1) := by decide +kernel
theorem dX3_setShare_16 : decode cX3_setShare 16 = .ok (.ldc 101, 2) := by decide +kernel
theorem dX3_setShare_18 : decode cX3_setShare 18 = .ok (.invokespecial 68, 3) := by decide +kernel
theorem dX3_setShare_21 : decode cX3_setShare 21 = .ok (.athrow, 1) := by decide +kernel
theorem dX3_setShare_22 : decode cX3_setShare 22 = .ok (.iload_n 2, 1) := by decide +kernel
theorem dX3_setShare_23 : decode cX3_setShare 23 = .ok (.iconst 0, 1) := by decide +kernel
theorem dX3_setShare_24 : decode cX3_setShare 24 = .ok (.bipush 9, 2) := by decide +kernel
theorem dX3_setShare_26 : decode cX3_setShare 26 = .ok (.invokestatic 35, 3) := by decide +kernel
theorem dX3_setShare_29 : decode cX3_setShare 29 = .ok (.ifCond .ne 13, 3) := by decide +kernel
theorem dX3_setShare_32 : decode cX3_setShare 32 = .ok (.new 39, 3) := by decide +kernel
theorem dX3_setShare_35 : decode cX3_setShare 35 = .ok (.dup, 1) := by decide +kernel
theorem dX3_setShare_36 : decode cX3_setShare 36 = .ok (.ldc 103, 2) := by decide +kernel
theorem dX3_setShare_38 : decode cX3_setShare 38 = .ok (.invokespecial 43, 3) := by decide +kernel
theorem dX3_setShare_41 : decode cX3_setShare 41 = .ok (.athrow, 1) := by decide +kernel
theorem dX3_setShare_42 : decode cX3_setShare 42 = .ok (.aload_n 0, 1) := by decide +kernel
theorem dX3_setShare_43 : decode cX3_setShare 43 = .ok (.getfield 21, 3) := by decide +kernel
theorem dX3_setShare_46 : decode cX3_setShare 46 = .ok (.getfield 105, 3) := by decide +kernel
theorem dX3_setShare_49 : decode cX3_setShare 49 = .ok (.iload_n 1, 1) := by decide +kernel
theorem dX3_setShare_50 : decode cX3_setShare 50 = .ok (.iaload, 1) := by decide +kernel
theorem dX3_setShare_51 : decode cX3_setShare 51 = .ok (.istore_n 3, 1) := by decide +kernel
theorem dX3_setShare_52 : decode cX3_setShare 52 = .ok (.aload_n 0, 1) := by decide +kernel
theorem dX3_setShare_53 : decode cX3_setShare 53 = .ok (.getfield 21, 3) := by decide +kernel
theorem dX3_setShare_56 : decode cX3_setShare 56 = .ok (.getfield 105, 3) := by decide +kernel
theorem dX3_setShare_59 : decode cX3_setShare 59 = .ok (.iload_n 1, 1) := by decide +kernel
theorem dX3_setShare_60 : decode cX3_setShare 60 = .ok (.iload_n 2, 1) := by decide +kernel
theorem dX3_setShare_61 : decode cX3_setShare 61 = .ok (.iastore, 1) := by decide +kernel
theorem dX3_setShare_62 : decode cX3_setShare 62 = .ok (.iload_n 3, 1) := by decide +kernel
theorem dX3_setShare_63 : decode cX3_setShare 63 = .ok (.ireturn, 1) := by decide +kernel
set_option maxRecDepth 20000 in
theorem ggX3_setDay_X3_isWithin : GoodIn wsX3_setDay wsX3_isWithin := goodIn_r _ [12] (by decide +kernel) (by decide +kernel)
set_option maxRecDepth 20000 in
theorem gX3_setDay_X3_isWithin : GoodIn wsX3_setDay (va_wsS RX3 35 yX3_isWithin wsX3_isWithin) := goodIn_app (goodIn_of _ (by decide +kernel)) ggX3_setDay_X3_isWithin
theorem dX3_setDay_0 : decode cX3_setDay 0 = .ok (.iload_n 1, 1) := by decide +kernel
theorem dX3_setDay_1 : decode cX3_setDay 1 = .ok (.iconst 0, 1) := by decide +kernel
theorem dX3_setDay_2 : decode cX3_setDay 2 = .ok (.bipush 29, 2) := by decide +kernel
theorem dX3_setDay_4 : decode cX3_setDay 4 = .ok (.invokestatic 35, 3) := by decide +kernel
theorem dX3_setDay_7 : decode cX3_setDay 7 = .ok (.ifCond .ne 13, 3) := by decide +kernel
theorem dX3_setDay_10 : decode cX3_setDay 10 = .ok (.new 64, 3) := by decide +kernel
theorem dX3_setDay_13 : decode cX3_setDay 13 = .ok (.dup, 1) := by decide +kernel
theorem dX3_setDay_14 : decode cX3_setDay 14 = .ok (.ldc 108, 2) := by decide +kernel
theorem dX3_setDay_16 : decode cX3_setDay 16 = .ok (.invokespecial 68, 3) := by decide +kernel
theorem dX3_setDay_19 : decode cX3_setDay 19 = .ok (.athrow, 1) := by decide +kernel
theorem dX3_setDay_20 : decode cX3_setDay 20 = .ok (.iload_n 2, 1) := by decide +kernel
theorem dX3_setDay_21 : decode cX3_setDay 21 = .ok (.iconst 0, 1) := by decide +kernel
theorem dX3_setDay_22 : decode cX3_setDay 22 = .ok (.bipush 60, 2) := by decide +kernel
theorem dX3_setDay_24 : decode cX3_setDay 24 = .ok (.invokestatic 35, 3) := by decide +kernel
theorem dX3_setDay_27 : decode cX3_setDay 27 = .ok (.ifCond .eq 25, 3) := by decide +kernel
theorem dX3_setDay_30 : decode cX3_setDay 30 = .ok (.iload_n 3, 1) := by decide +kernel
theorem dX3_setDay_31 : decode cX3_setDay 31 = .ok (.iconst 0, 1) := by decide +kernel
theorem dX3_setDay_32 : decode cX3_setDay 32 = .ok (.sipush 400, 3) := by decide +kernel
theorem dX3_setDay_35 : decode cX3_setDay 35 = .ok (.invokestatic 35, 3) := by decide +kernel
theorem dX3_setDay_38 : decode cX3_setDay 38 = .ok (.ifCond .eq 14, 3) := by decide +kernel
theorem dX3_setDay_41 : decode cX3_setDay 41 = .ok (.iload 4, 2) := by decide +kernel
theorem dX3_setDay_43 : decode cX3_setDay 43 = .ok (.iconst 0, 1) := by decide +kernel
theorem dX3_setDay_44 : decode cX3_setDay 44 = .ok (.bipush 20, 2) := by decide +kernel
theorem dX3_setDay_46 : decode cX3_setDay 46 = .ok (.invokestatic 35, 3) := by decide +kernel
theorem dX3_setDay_49 : decode cX3_setDay 49 = .ok (.ifCond .ne 13, 3) := by decide +kernel
theorem dX3_setDay_52 : decode cX3_setDay 52 = .ok (.new 39, 3) := by decide +kernel
theorem dX3_setDay_55 : decode cX3_setDay 55 = .ok (.dup, 1) := by decide +kernel
theorem dX3_setDay_56 : decode cX3_setDay 56 = .ok (.ldc 110, 2) := by decide +kernel
theorem dX3_setDay_58 : decode cX3_setDay 58 = .ok (.invokespecial 43, 3) := by decide +kernel
theorem dX3_setDay_61 : decode cX3_setDay 61 = .ok (.athrow, 1) := by decide +kernel
theorem dX3_setDay_62 : decode cX3_setDay 62 = .ok (.aload_n 0, 1) := by decide +kernel
theorem dX3_setDay_63 : decode cX3_setDay 63 = .ok (.getfield 10, 3) := by decide +kernel
theorem dX3_setDay_66 : decode cX3_setDay 66 = .ok (.getfield 112, 3) := by decide +kernel
theorem dX3_setDay_69 : decode cX3_setDay 69 = .ok (.iload_n 1, 1) := by decide +kernel
theorem dX3_setDay_70 : decode cX3_setDay 70 = .ok (.iaload, 1) := by decide +kernel
theorem dX3_setDay_71 : decode cX3_setDay 71 = .ok (.istore 5, 2) := by decide +kernel
theorem dX3_setDay_73 : decode cX3_setDay 73 = .ok (.aload_n 0, 1) := by decide +kernel
theorem dX3_setDay_74 : decode cX3_setDay 74 = .ok (.getfield 10, 3) := by decide +kernel
theorem dX3_setDay_77 : decode cX3_setDay 77 = .ok (.getfield 115, 3) := by decide +kernel
theorem dX3_setDay_80 : decode cX3_setDay 80 = .ok (.iload_n 1, 1) := by decide +kernel
theorem dX3_setDay_81 : decode cX3_setDay 81 = .ok (.iload_n 2, 1) := by decide +kernel
theorem dX3_setDay_82 : decode cX3_setDay 82 = .ok (.iastore, 1) := by decide +kernel
theorem dX3_setDay_83 : decode cX3_setDay 83 = .ok (.aload_n 0, 1) := by decide +kernel
theorem dX3_setDay_84 : decode cX3_setDay 84 = .ok (.getfield 10, 3) := by decide +kernel
theorem dX3_setDay_87 : decode cX3_setDay 87 = .ok (.getfield 112, 3) := by decide +kernel
theorem dX3_setDay_90 : decode cX3_setDay 90 = .ok (.iload_n 1, 1) := by decide +kernel
theorem dX3_setDay_91 : decode cX3_setDay 91 = .ok (.iload_n 3, 1) := by decide +kernel
theorem dX3_setDay_92 : decode cX3_setDay 92 = .ok (.iastore, 1) := by decide +kernel
theorem dX3_setDay_93 : decode cX3_setDay 93 = .ok (.aload_n 0, 1) := by decide +kernel
theorem dX3_setDay_94 : decode cX3_setDay 94 = .ok (.getfield 10, 3) := by decide +kernel
theorem dX3_setDay_97 : decode cX3_setDay 97 = .ok (.getfield 118, 3) := by decide +kernel
theorem dX3_setDay_100 : decode cX3_setDay 100 = .ok (.iload_n 1, 1) := by decide +kernel
theorem dX3_setDay_101 : decode cX3_setDay 101 = .ok (.iload 4, 2) := by decide +kernel
theorem dX3_setDay_103 : decode cX3_setDay 103 = .ok (.iastore, 1) := by decide +kernel
theorem dX3_setDay_104 : decode cX3_setDay 104 = .ok (.iload 5, 2) := by decide +kernel
theorem dX3_setDay_106 : decode cX3_setDay 106 = .ok (.ireturn, 1) := by decide +kernel
set_option maxRecDepth 20000 in
theorem ggX3_plant_X2_hasField : GoodIn wsX3_plant wsX2_hasField := goodIn_r _ [15, 16, 17, 45, 46, 47, 48, 49, 50, 51, 52, 53, 54, 55, 56, 57, 58, 59, 60, 61, 62] (by decide +kernel) (by decide +kernel)
set_option maxRecDepth 20000 in
theorem gX3_plant_X2_hasField : GoodIn wsX3_plant (wsV RX3 60 RX2 yX2_hasField wsX2_hasField) := goodIn_app (goodIn_of _ (by decide +kernel)) ggX3_plant_X2_hasField
set_option maxRecDepth 20000 in
theorem ggX3_plant_X3_isWithin : GoodIn wsX3_plant wsX3_isWithin := goodIn_r _ [21] (by decide +kernel) (by decide +kernel)
set_option maxRecDepth 20000 in
theorem gX3_plant_X3_isWithin : GoodIn wsX3_plant (va_wsS RX3 35 yX3_isWithin wsX3_isWithin) := goodIn_app (goodIn_of _ (by decide +kernel)) ggX3_plant_X3_isWithin
set_option maxRecDepth 20000 in
theorem ggX3_plant_X2_cellOf : GoodIn wsX3_plant wsX2_cellOf := goodIn_r _ [25, 17, 45, 46, 47, 48, 49, 50, 51, 52, 53, 54, 55, 56, 57, 58, 59, 60, 61, 62] (by decide +kernel) (by decide +kernel)
set_option maxRecDepth 20000 in
theorem gX3_plant_X2_cellOf : GoodIn wsX3_plant (wsV RX3 71 RX2 yX2_cellOf wsX2_cellOf) := goodIn_app (goodIn_of _ (by decide +kernel)) ggX3_plant_X2_cellOf
set_option maxRecDepth 20000 in
theorem ggX3_plant_X2_crops : GoodIn wsX3_plant wsX2_crops := goodIn_r _ [29, 30, 31, 32, 33, 14, 34, 35, 36, 37, 38, 16, 17, 45, 46, 47, 48, 49, 50, 51, 52, 53, 54, 55, 56, 57, 58, 59, 60, 61, 62] (by decide +kernel) (by decide +kernel)
set_option maxRecDepth 20000 in
theorem gX3_plant_X2_crops : GoodIn wsX3_plant (wsV RX3 137 RX2 yX2_crops wsX2_crops) := goodIn_app (goodIn_of _ (by decide +kernel)) ggX3_plant_X2_crops
theorem dX3_plant_0 : decode cX3_plant 0 = .ok (.aload_n 0, 1) := by decide +kernel
theorem dX3_plant_1 : decode cX3_plant 1 = .ok (.getfield 21, 3) := by decide +kernel
theorem dX3_plant_4 : decode cX3_plant 4 = .ok (.iload_n 1, 1) := by decide +kernel
theorem dX3_plant_5 : decode cX3_plant 5 = .ok (.iload_n 2, 1) := by decide +kernel
theorem dX3_plant_6 : decode cX3_plant 6 = .ok (.invokevirtual 60, 3) := by decide +kernel
theorem dX3_plant_9 : decode cX3_plant 9 = .ok (.ifCond .ne 13, 3) := by decide +kernel
theorem dX3_plant_12 : decode cX3_plant 12 = .ok (.new 64, 3) := by decide +kernel
theorem dX3_plant_15 : decode cX3_plant 15 = .ok (.dup, 1) := by decide +kernel
theorem dX3_plant_16 : decode cX3_plant 16 = .ok (.ldc 66, 2) := by decide +kernel
theorem dX3_plant_18 : decode cX3_plant 18 = .ok (.invokespecial 68, 3) := by decide +kernel
theorem dX3_plant_21 : decode cX3_plant 21 = .ok (.athrow, 1) := by decide +kernel
theorem dX3_plant_22 : decode cX3_plant 22 = .ok (.iload_n 3, 1) := by decide +kernel
theorem dX3_plant_23 : decode cX3_plant 23 = .ok (.iconst 0, 1) := by decide +kernel
theorem dX3_plant_24 : decode cX3_plant 24 = .ok (.bipush 20, 2) := by decide +kernel
theorem dX3_plant_26 : decode cX3_plant 26 = .ok (.invokestatic 35, 3) := by decide +kernel
theorem dX3_plant_29 : decode cX3_plant 29 = .ok (.ifCond .ne 13, 3) := by decide +kernel
theorem dX3_plant_32 : decode cX3_plant 32 = .ok (.new 39, 3) := by decide +kernel
theorem dX3_plant_35 : decode cX3_plant 35 = .ok (.dup, 1) := by decide +kernel
theorem dX3_plant_36 : decode cX3_plant 36 = .ok (.ldc 121, 2) := by decide +kernel
theorem dX3_plant_38 : decode cX3_plant 38 = .ok (.invokespecial 43, 3) := by decide +kernel
theorem dX3_plant_41 : decode cX3_plant 41 = .ok (.athrow, 1) := by decide +kernel
theorem dX3_plant_42 : decode cX3_plant 42 = .ok (.aload_n 0, 1) := by decide +kernel
theorem dX3_plant_43 : decode cX3_plant 43 = .ok (.getfield 21, 3) := by decide +kernel
theorem dX3_plant_46 : decode cX3_plant 46 = .ok (.iload_n 1, 1) := by decide +kernel
theorem dX3_plant_47 : decode cX3_plant 47 = .ok (.iload_n 2, 1) := by decide +kernel
theorem dX3_plant_48 : decode cX3_plant 48 = .ok (.invokevirtual 71, 3) := by decide +kernel
theorem dX3_plant_51 : decode cX3_plant 51 = .ok (.istore 4, 2) := by decide +kernel
theorem dX3_plant_53 : decode cX3_plant 53 = .ok (.aload_n 0, 1) := by decide +kernel
theorem dX3_plant_54 : decode cX3_plant 54 = .ok (.getfield 21, 3) := by decide +kernel
theorem dX3_plant_57 : decode cX3_plant 57 = .ok (.getfield 123, 3) := by decide +kernel
theorem dX3_plant_60 : decode cX3_plant 60 = .ok (.iload 4, 2) := by decide +kernel
theorem dX3_plant_62 : decode cX3_plant 62 = .ok (.iaload, 1) := by decide +kernel
theorem dX3_plant_63 : decode cX3_plant 63 = .ok (.ifCond .ne 18, 3) := by decide +kernel
theorem dX3_plant_66 : decode cX3_plant 66 = .ok (.aload_n 0, 1) := by decide +kernel
theorem dX3_plant_67 : decode cX3_plant 67 = .ok (.getfield 21, 3) := by decide +kernel
theorem dX3_plant_70 : decode cX3_plant 70 = .ok (.getfield 126, 3) := by decide +kernel
theorem dX3_plant_73 : decode cX3_plant 73 = .ok (.iload 4, 2) := by decide +kernel
theorem dX3_plant_75 : decode cX3_plant 75 = .ok (.iaload, 1) := by decide +kernel
theorem dX3_plant_76 : decode cX3_plant 76 = .ok (.bipush 40, 2) := by decide +kernel
theorem dX3_plant_78 : decode cX3_plant 78 = .ok (.if_icmp .le 13, 3) := by decide +kernel
theorem dX3_plant_81 : decode cX3_plant 81 = .ok (.new 129, 3) := by decide +kernel
theorem dX3_plant_84 : decode cX3_plant 84 = .ok (.dup, 1) := by decide +kernel
theorem dX3_plant_85 : decode cX3_plant 85 = .ok (.ldc 131, 2) := by decide +kernel
theorem dX3_plant_87 : decode cX3_plant 87 = .ok (.invokespecial 133, 3) := by decide +kernel
theorem dX3_plant_90 : decode cX3_plant 90 = .ok (.athrow, 1) := by decide +kernel
theorem dX3_plant_91 : decode cX3_plant 91 = .ok (.aload_n 0, 1) := by decide +kernel
theorem dX3_plant_92 : decode cX3_plant 92 = .ok (.getfield 21, 3) := by decide +kernel
theorem dX3_plant_95 : decode cX3_plant 95 = .ok (.getfield 123, 3) := by decide +kernel
theorem dX3_plant_98 : decode cX3_plant 98 = .ok (.iload 4, 2) := by decide +kernel
theorem dX3_plant_100 : decode cX3_plant 100 = .ok (.iconst 1, 1) := by decide +kernel
theorem dX3_plant_101 : decode cX3_plant 101 = .ok (.iastore, 1) := by decide +kernel
theorem dX3_plant_102 : decode cX3_plant 102 = .ok (.aload_n 0, 1) := by decide +kernel
theorem dX3_plant_103 : decode cX3_plant 103 = .ok (.getfield 21, 3) := by decide +kernel
theorem dX3_plant_106 : decode cX3_plant 106 = .ok (.getfield 134, 3) := by decide +kernel
theorem dX3_plant_109 : decode cX3_plant 109 = .ok (.iload 4, 2) := by decide +kernel
theorem dX3_plant_111 : decode cX3_plant 111 = .ok (.iload_n 3, 1) := by decide +kernel
theorem dX3_plant_112 : decode cX3_plant 112 = .ok (.iastore, 1) := by decide +kernel
theorem dX3_plant_113 : decode cX3_plant 113 = .ok (.aload_n 0, 1) := by decide +kernel
theorem dX3_plant_114 : decode cX3_plant 114 = .ok (.getfield 21, 3) := by decide +kernel
theorem dX3_plant_117 : decode cX3_plant 117 = .ok (.invokevirtual 137, 3) := by decide +kernel
theorem dX3_plant_120 : decode cX3_plant 120 = .ok (.ireturn, 1) := by decide +kernel
set_option maxRecDepth 20000 in
theorem ggX3_reap_X2_hasField : GoodIn wsX3_reap wsX2_hasField := goodIn_r _ [15, 16, 17, 37, 38, 39, 40, 41, 42, 43, 44, 45, 46, 47, 48, 49, 50, 51, 52, 53, 54] (by decide +kernel) (by decide +kernel)
set_option maxRecDepth 20000 in
theorem gX3_reap_X2_hasField : GoodIn wsX3_reap (wsV RX3 60 RX2 yX2_hasField wsX2_hasField) := goodIn_app (goodIn_of _ (by decide +kernel)) ggX3_reap_X2_hasField
set_option maxRecDepth 20000 in
theorem ggX3_reap_X2_cellOf : GoodIn wsX3_reap wsX2_cellOf := goodIn_r _ [21, 17, 37, 38, 39, 40, 41, 42, 43, 44, 45, 46, 47, 48, 49, 50, 51, 52, 53, 54] (by decide +kernel) (by decide +kernel)
set_option maxRecDepth 20000 in
theorem gX3_reap_X2_cellOf : GoodIn wsX3_reap (wsV RX3 71 RX2 yX2_cellOf wsX2_cellOf) := goodIn_app (goodIn_of _ (by decide +kernel)) ggX3_reap_X2_cellOf
set_option maxRecDepth 20000 in
theorem ggX3_reap_X2_clearCrop : GoodIn wsX3_reap wsX2_clearCrop := goodIn_r _ [25, 26, 27, 28, 29, 30, 37, 38, 39, 40, 41, 42, 43, 44, 45, 46, 47, 48, 49, 50, 51, 52, 53, 54] (by decide +kernel) (by decide +kernel)
set_option maxRecDepth 20000 in
theorem gX3_reap_X2_clearCrop : GoodIn wsX3_reap (wsV RX3 145 RX2 yX2_clearCrop wsX2_clearCrop) := goodIn_app (goodIn_of _ (by decide +kernel)) ggX3_reap_X2_clearCrop
theorem dX3_reap_0 : decode cX3_reap 0 = .ok (.aload_n 0, 1) := by decide +kernel
theorem dX3_reap_1 : decode cX3_reap 1 = .ok (.getfield 21, 3) := by decide +kernel
theorem dX3_reap_4 : decode cX3_reap 4 = .ok (.iload_n 1, 1) := by decide +kernel
theorem dX3_reap_5 : decode cX3_reap 5 = .ok (.iload_n 2, 1) := by decide +kernel
theorem dX3_reap_6 : decode cX3_reap 6 = .ok (.invokevirtual 60, 3) := by decide +kernel
theorem dX3_reap_9 : decode cX3_reap 9 = .ok (.ifCond .ne 13, 3) := by decide +kernel
theorem dX3_reap_12 : decode cX3_reap 12 = .ok (.new 64, 3) := by decide +kernel
theorem dX3_reap_15 : decode cX3_reap 15 = .ok (.dup, 1) := by decide +kernel
theorem dX3_reap_16 : decode cX3_reap 16 = .ok (.ldc 66, 2) := by decide +kernel
theorem dX3_reap_18 : decode cX3_reap 18 = .ok (.invokespecial 68, 3) := by decide +kernel
theorem dX3_reap_21 : decode cX3_reap 21 = .ok (.athrow, 1) := by decide +kernel
theorem dX3_reap_22 : decode cX3_reap 22 = .ok (.aload_n 0, 1) := by decide +kernel
theorem dX3_reap_23 : decode cX3_reap 23 = .ok (.getfield 21, 3) := by decide +kernel
theorem dX3_reap_26 : decode cX3_reap 26 = .ok (.iload_n 1, 1) := by decide +kernel
theorem dX3_reap_27 : decode cX3_reap 27 = .ok (.iload_n 2, 1) := by decide +kernel
theorem dX3_reap_28 : decode cX3_reap 28 = .ok (.invokevirtual 71, 3) := by decide +kernel
theorem dX3_reap_31 : decode cX3_reap 31 = .ok (.istore_n 3, 1) := by decide +kernel
theorem dX3_reap_32 : decode cX3_reap 32 = .ok (.aload_n 0, 1) := by decide +kernel
theorem dX3_reap_33 : decode cX3_reap 33 = .ok (.getfield 21, 3) := by decide +kernel
theorem dX3_reap_36 : decode cX3_reap 36 = .ok (.getfield 123, 3) := by decide +kernel
theorem dX3_reap_39 : decode cX3_reap 39 = .ok (.iload_n 3, 1) := by decide +kernel
theorem dX3_reap_40 : decode cX3_reap 40 = .ok (.iaload, 1) := by decide +kernel
theorem dX3_reap_41 : decode cX3_reap 41 = .ok (.ifCond .eq 17, 3) := by decide +kernel
theorem dX3_reap_44 : decode cX3_reap 44 = .ok (.aload_n 0, 1) := by decide +kernel
theorem dX3_reap_45 : decode cX3_reap 45 = .ok (.getfield 21, 3) := by decide +kernel
theorem dX3_reap_48 : decode cX3_reap 48 = .ok (.getfield 134, 3) := by decide +kernel
theorem dX3_reap_51 : decode cX3_reap 51 = .ok (.iload_n 3, 1) := by decide +kernel
theorem dX3_reap_52 : decode cX3_reap 52 = .ok (.iaload, 1) := by decide +kernel
theorem dX3_reap_53 : decode cX3_reap 53 = .ok (.bipush 40, 2) := by decide +kernel
theorem dX3_reap_55 : decode cX3_reap 55 = .ok (.if_icmp .ge 13, 3) := by decide +kernel
theorem dX3_reap_58 : decode cX3_reap 58 = .ok (.new 129, 3) := by decide +kernel
theorem dX3_reap_61 : decode cX3_reap 61 = .ok (.dup, 1) := by decide +kernel
theorem dX3_reap_62 : decode cX3_reap 62 = .ok (.ldc 140, 2) := by decide +kernel
theorem dX3_reap_64 : decode cX3_reap 64 = .ok (.invokespecial 133, 3) := by decide +kernel
theorem dX3_reap_67 : decode cX3_reap 67 = .ok (.athrow, 1) := by decide +kernel
theorem dX3_reap_68 : decode cX3_reap 68 = .ok (.aload_n 0, 1) := by decide +kernel
theorem dX3_reap_69 : decode cX3_reap 69 = .ok (.getfield 21, 3) := by decide +kernel
theorem dX3_reap_72 : decode cX3_reap 72 = .ok (.getfield 134, 3) := by decide +kernel
theorem dX3_reap_75 : decode cX3_reap 75 = .ok (.iload_n 3, 1) := by decide +kernel
theorem dX3_reap_76 : decode cX3_reap 76 = .ok (.iaload, 1) := by decide +kernel
theorem dX3_reap_77 : decode cX3_reap 77 = .ok (.aload_n 0, 1) := by decide +kernel
theorem dX3_reap_78 : decode cX3_reap 78 = .ok (.getfield 21, 3) := by decide +kernel
end
section
theorem dX3_reap_81 : decode cX3_reap 81 = .ok (.getfield 142, 3) := by decide +kernel
theorem dX3_reap_84 : decode cX3_reap 84 = .ok (.iload_n 3, 1) := by decide +kernel
theorem dX3_reap_85 : decode cX3_reap 85 = .ok (.iaload, 1) := by decide +kernel
theorem dX3_reap_86 : decode cX3_reap 86 = .ok (.imul, 1) := by decide +kernel
theorem dX3_reap_87 : decode cX3_reap 87 = .ok (.bipush 100, 2) := by decide +kernel
theorem dX3_reap_89 : decode cX3_reap 89 = .ok (.idiv, 1) := by decide +kernel
theorem dX3_reap_90 : decode cX3_reap 90 = .ok (.istore 4, 2) := by decide +kernel
theorem dX3_reap_92 : decode cX3_reap 92 = .ok (.aload_n 0, 1) := by decide +kernel
theorem dX3_reap_93 : decode cX3_reap 93 = .ok (.getfield 21, 3) := by decide +kernel
theorem dX3_reap_96 : decode cX3_reap 96 = .ok (.getfield 126, 3) := by decide +kernel
theorem dX3_reap_99 : decode cX3_reap 99 = .ok (.iload_n 3, 1) := by decide +kernel
theorem dX3_reap_100 : decode cX3_reap 100 = .ok (.iaload, 1) := by decide +kernel
theorem dX3_reap_101 : decode cX3_reap 101 = .ok (.ifCond .ne 12, 3) := by decide +kernel
theorem dX3_reap_104 : decode cX3_reap 104 = .ok (.iload 4, 2) := by decide +kernel
theorem dX3_reap_106 : decode cX3_reap 106 = .ok (.iload 4, 2) := by decide +kernel
theorem dX3_reap_108 : decode cX3_reap 108 = .ok (.iconst 2, 1) := by decide +kernel
theorem dX3_reap_109 : decode cX3_reap 109 = .ok (.idiv, 1) := by decide +kernel
theorem dX3_reap_110 : decode cX3_reap 110 = .ok (.iadd, 1) := by decide +kernel
theorem dX3_reap_111 : decode cX3_reap 111 = .ok (.istore 4, 2) := by decide +kernel
theorem dX3_reap_113 : decode cX3_reap 113 = .ok (.aload_n 0, 1) := by decide +kernel
theorem dX3_reap_114 : decode cX3_reap 114 = .ok (.getfield 21, 3) := by decide +kernel
theorem dX3_reap_117 : decode cX3_reap 117 = .ok (.iload_n 3, 1) := by decide +kernel
theorem dX3_reap_118 : decode cX3_reap 118 = .ok (.invokevirtual 145, 3) := by decide +kernel
theorem dX3_reap_121 : decode cX3_reap 121 = .ok (.aload_n 0, 1) := by decide +kernel
theorem dX3_reap_122 : decode cX3_reap 122 = .ok (.dup, 1) := by decide +kernel
theorem dX3_reap_123 : decode cX3_reap 123 = .ok (.getfield 49, 3) := by decide +kernel
theorem dX3_reap_126 : decode cX3_reap 126 = .ok (.iload 4, 2) := by decide +kernel
theorem dX3_reap_128 : decode cX3_reap 128 = .ok (.iadd, 1) := by decide +kernel
theorem dX3_reap_129 : decode cX3_reap 129 = .ok (.putfield 49, 3) := by decide +kernel
theorem dX3_reap_132 : decode cX3_reap 132 = .ok (.iload 4, 2) := by decide +kernel
theorem dX3_reap_134 : decode cX3_reap 134 = .ok (.ireturn, 1) := by decide +kernel
set_option maxRecDepth 20000 in
theorem ggX3_pass_X3_isWithin : GoodIn wsX3_pass wsX3_isWithin := goodIn_r _ [11] (by decide +kernel) (by decide +kernel)
set_option maxRecDepth 20000 in
theorem gX3_pass_X3_isWithin : GoodIn wsX3_pass (va_wsS RX3 35 yX3_isWithin wsX3_isWithin) := goodIn_app (goodIn_of _ (by decide +kernel)) ggX3_pass_X3_isWithin
set_option maxRecDepth 20000 in
theorem ggX3_pass_X2_letDaysGoBy : GoodIn wsX3_pass wsX2_letDaysGoBy := goodIn_r _ [16, 17, 18, 19, 20, 21, 22, 23, 15, 24, 25, 26, 27, 28, 29, 30, 31, 32, 33, 34, 35, 36, 37, 38, 39, 40, 41, 42, 43, 44, 45, 46, 47, 48, 49, 50, 51, 52, 53, 54, 55, 56, 57, 58, 59, 60, 61, 62, 63, 64, 65, 66, 67, 68, 69, 70, 71, 72, 73, 74, 75, 76, 77, 78, 79, 80, 81, 82, 83, 84, 85, 86, 87, 88, 89, 90, 91, 92, 93, 94, 95, 96, 9, 10, 11, 111, 112, 113, 114, 115, 116, 117, 118, 119, 120, 121, 122, 123, 124, 125, 126, 127, 128, 129, 130, 131] (by decide +kernel) (by decide +kernel)
set_option maxRecDepth 20000 in
theorem gX3_pass_X2_letDaysGoBy : GoodIn wsX3_pass (wsV RX3 156 RX2 yX2_letDaysGoBy wsX2_letDaysGoBy) := goodIn_app (goodIn_of _ (by decide +kernel)) ggX3_pass_X2_letDaysGoBy
set_option maxRecDepth 20000 in
theorem ggX3_pass_X2_crops : GoodIn wsX3_pass wsX2_crops := goodIn_r _ [100, 79, 101, 102, 103, 15, 104, 26, 27, 28, 29, 30, 31, 111, 112, 113, 114, 115, 116, 117, 118, 119, 120, 121, 122, 123, 124, 125, 126, 127, 128] (by decide +kernel) (by decide +kernel)
set_option maxRecDepth 20000 in
theorem gX3_pass_X2_crops : GoodIn wsX3_pass (wsV RX3 137 RX2 yX2_crops wsX2_crops) := goodIn_app (goodIn_of _ (by decide +kernel)) ggX3_pass_X2_crops
theorem dX3_pass_0 : decode cX3_pass 0 = .ok (.iload_n 1, 1) := by decide +kernel
theorem dX3_pass_1 : decode cX3_pass 1 = .ok (.iconst 1, 1) := by decide +kernel
theorem dX3_pass_2 : decode cX3_pass 2 = .ok (.bipush 60, 2) := by decide +kernel
theorem dX3_pass_4 : decode cX3_pass 4 = .ok (.invokestatic 35, 3) := by decide +kernel
theorem dX3_pass_7 : decode cX3_pass 7 = .ok (.ifCond .ne 13, 3) := by decide +kernel
theorem dX3_pass_10 : decode cX3_pass 10 = .ok (.new 39, 3) := by decide +kernel
theorem dX3_pass_13 : decode cX3_pass 13 = .ok (.dup, 1) := by decide +kernel
theorem dX3_pass_14 : decode cX3_pass 14 = .ok (.ldc 149, 2) := by decide +kernel
theorem dX3_pass_16 : decode cX3_pass 16 = .ok (.invokespecial 43, 3) := by decide +kernel
theorem dX3_pass_19 : decode cX3_pass 19 = .ok (.athrow, 1) := by decide +kernel
theorem dX3_pass_20 : decode cX3_pass 20 = .ok (.aload_n 0, 1) := by decide +kernel
theorem dX3_pass_21 : decode cX3_pass 21 = .ok (.getfield 21, 3) := by decide +kernel
theorem dX3_pass_24 : decode cX3_pass 24 = .ok (.getfield 151, 3) := by decide +kernel
theorem dX3_pass_27 : decode cX3_pass 27 = .ok (.iload_n 1, 1) := by decide +kernel
theorem dX3_pass_28 : decode cX3_pass 28 = .ok (.iadd, 1) := by decide +kernel
theorem dX3_pass_29 : decode cX3_pass 29 = .ok (.sipush 2000, 3) := by decide +kernel
theorem dX3_pass_32 : decode cX3_pass 32 = .ok (.if_icmp .le 13, 3) := by decide +kernel
theorem dX3_pass_35 : decode cX3_pass 35 = .ok (.new 129, 3) := by decide +kernel
theorem dX3_pass_38 : decode cX3_pass 38 = .ok (.dup, 1) := by decide +kernel
theorem dX3_pass_39 : decode cX3_pass 39 = .ok (.ldc 154, 2) := by decide +kernel
theorem dX3_pass_41 : decode cX3_pass 41 = .ok (.invokespecial 133, 3) := by decide +kernel
theorem dX3_pass_44 : decode cX3_pass 44 = .ok (.athrow, 1) := by decide +kernel
theorem dX3_pass_45 : decode cX3_pass 45 = .ok (.aload_n 0, 1) := by decide +kernel
theorem dX3_pass_46 : decode cX3_pass 46 = .ok (.getfield 21, 3) := by decide +kernel
theorem dX3_pass_49 : decode cX3_pass 49 = .ok (.iload_n 1, 1) := by decide +kernel
theorem dX3_pass_50 : decode cX3_pass 50 = .ok (.aload_n 0, 1) := by decide +kernel
theorem dX3_pass_51 : decode cX3_pass 51 = .ok (.getfield 10, 3) := by decide +kernel
theorem dX3_pass_54 : decode cX3_pass 54 = .ok (.invokevirtual 156, 3) := by decide +kernel
theorem dX3_pass_57 : decode cX3_pass 57 = .ok (.aload_n 0, 1) := by decide +kernel
theorem dX3_pass_58 : decode cX3_pass 58 = .ok (.getfield 21, 3) := by decide +kernel
theorem dX3_pass_61 : decode cX3_pass 61 = .ok (.invokevirtual 137, 3) := by decide +kernel
theorem dX3_pass_64 : decode cX3_pass 64 = .ok (.ireturn, 1) := by decide +kernel
set_option maxRecDepth 20000 in
theorem ggX3_field_X2_hasField : GoodIn wsX3_field wsX2_hasField := goodIn_r _ [8, 9, 10, 41, 42, 43, 44, 45, 46, 47, 48, 49, 50, 51, 52, 53, 54, 55, 56, 57, 58] (by decide +kernel) (by decide +kernel)
set_option maxRecDepth 20000 in
theorem gX3_field_X2_hasField : GoodIn wsX3_field (wsV RX3 60 RX2 yX2_hasField wsX2_hasField) := goodIn_app (goodIn_of _ (by decide +kernel)) ggX3_field_X2_hasField
set_option maxRecDepth 20000 in
theorem ggX3_field_X3_isWithin : GoodIn wsX3_field wsX3_isWithin := goodIn_r _ [14] (by decide +kernel) (by decide +kernel)
set_option maxRecDepth 20000 in
theorem gX3_field_X3_isWithin : GoodIn wsX3_field (va_wsS RX3 35 yX3_isWithin wsX3_isWithin) := goodIn_app (goodIn_of _ (by decide +kernel)) ggX3_field_X3_isWithin
set_option maxRecDepth 20000 in
theorem ggX3_field_X2_cellOf : GoodIn wsX3_field wsX2_cellOf := goodIn_r _ [18, 10, 41, 42, 43, 44, 45, 46, 47, 48, 49, 50, 51, 52, 53, 54, 55, 56, 57, 58] (by decide +kernel) (by decide +kernel)
set_option maxRecDepth 20000 in
theorem gX3_field_X2_cellOf : GoodIn wsX3_field (wsV RX3 71 RX2 yX2_cellOf wsX2_cellOf) := goodIn_app (goodIn_of _ (by decide +kernel)) ggX3_field_X2_cellOf
set_option maxRecDepth 20000 in
theorem ggX3_field_X2_fieldNumber : GoodIn wsX3_field wsX2_fieldNumber := goodIn_r _ [22, 23, 24, 25, 26, 27, 28, 29, 30, 31, 32, 33, 34, 41, 42, 43, 44, 45, 46, 47, 48, 49, 50, 51, 52, 53, 54, 55, 56, 57, 58] (by decide +kernel) (by decide +kernel)
set_option maxRecDepth 20000 in
theorem gX3_field_X2_fieldNumber : GoodIn wsX3_field (wsV RX3 162 RX2 yX2_fieldNumber wsX2_fieldNumber) := goodIn_app (goodIn_of _ (by decide +kernel)) ggX3_field_X2_fieldNumber
theorem dX3_field_0 : decode cX3_field 0 = .ok (.aload_n 0, 1) := by decide +kernel
theorem dX3_field_1 : decode cX3_field 1 = .ok (.getfield 21, 3) := by decide +kernel
theorem dX3_field_4 : decode cX3_field 4 = .ok (.iload_n 1, 1) := by decide +kernel
theorem dX3_field_5 : decode cX3_field 5 = .ok (.iload_n 2, 1) := by decide +kernel
theorem dX3_field_6 : decode cX3_field 6 = .ok (.invokevirtual 60, 3) := by decide +kernel
theorem dX3_field_9 : decode cX3_field 9 = .ok (.ifCond .eq 13, 3) := by decide +kernel
theorem dX3_field_12 : decode cX3_field 12 = .ok (.iload_n 3, 1) := by decide +kernel
theorem dX3_field_13 : decode cX3_field 13 = .ok (.iconst 0, 1) := by decide +kernel
theorem dX3_field_14 : decode cX3_field 14 = .ok (.bipush 11, 2) := by decide +kernel
theorem dX3_field_16 : decode cX3_field 16 = .ok (.invokestatic 35, 3) := by decide +kernel
theorem dX3_field_19 : decode cX3_field 19 = .ok (.ifCond .ne 13, 3) := by decide +kernel
theorem dX3_field_22 : decode cX3_field 22 = .ok (.new 64, 3) := by decide +kernel
theorem dX3_field_25 : decode cX3_field 25 = .ok (.dup, 1) := by decide +kernel
theorem dX3_field_26 : decode cX3_field 26 = .ok (.ldc 160, 2) := by decide +kernel
theorem dX3_field_28 : decode cX3_field 28 = .ok (.invokespecial 68, 3) := by decide +kernel
theorem dX3_field_31 : decode cX3_field 31 = .ok (.athrow, 1) := by decide +kernel
theorem dX3_field_32 : decode cX3_field 32 = .ok (.aload_n 0, 1) := by decide +kernel
theorem dX3_field_33 : decode cX3_field 33 = .ok (.getfield 21, 3) := by decide +kernel
theorem dX3_field_36 : decode cX3_field 36 = .ok (.aload_n 0, 1) := by decide +kernel
theorem dX3_field_37 : decode cX3_field 37 = .ok (.getfield 21, 3) := by decide +kernel
theorem dX3_field_40 : decode cX3_field 40 = .ok (.iload_n 1, 1) := by decide +kernel
theorem dX3_field_41 : decode cX3_field 41 = .ok (.iload_n 2, 1) := by decide +kernel
theorem dX3_field_42 : decode cX3_field 42 = .ok (.invokevirtual 71, 3) := by decide +kernel
theorem dX3_field_45 : decode cX3_field 45 = .ok (.iload_n 3, 1) := by decide +kernel
theorem dX3_field_46 : decode cX3_field 46 = .ok (.invokevirtual 162, 3) := by decide +kernel
theorem dX3_field_49 : decode cX3_field 49 = .ok (.ireturn, 1) := by decide +kernel
set_option maxRecDepth 20000 in
theorem ggX3_count_X3_isWithin : GoodIn wsX3_count wsX3_isWithin := goodIn_r _ [6] (by decide +kernel) (by decide +kernel)
set_option maxRecDepth 20000 in
theorem gX3_count_X3_isWithin : GoodIn wsX3_count (va_wsS RX3 35 yX3_isWithin wsX3_isWithin) := goodIn_app (goodIn_of _ (by decide +kernel)) ggX3_count_X3_isWithin
set_option maxRecDepth 20000 in
theorem ggX3_count_X3_countNumber : GoodIn wsX3_count wsX3_countNumber := goodIn_r _ [10, 11, 12, 13, 14, 15, 16, 17, 18, 19, 20, 21, 22, 23, 24, 25, 26, 27, 28, 29, 30, 31, 32, 33, 34, 35, 36, 37, 38, 39, 40, 41, 42, 43, 44, 45, 46, 47, 48, 49, 50, 51, 52, 53, 54, 55, 56, 57, 58, 59, 60, 61, 62, 63] (by decide +kernel) (by decide +kernel)
set_option maxRecDepth 20000 in
theorem gX3_count_X3_countNumber : GoodIn wsX3_count (wsV RX3 167 RX3 yX3_countNumber wsX3_countNumber) := goodIn_app (goodIn_of _ (by decide +kernel)) ggX3_count_X3_countNumber
theorem dX3_count_0 : decode cX3_count 0 = .ok (.iload_n 1, 1) := by decide +kernel
theorem dX3_count_1 : decode cX3_count 1 = .ok (.iconst 0, 1) := by decide +kernel
theorem dX3_count_2 : decode cX3_count 2 = .ok (.bipush 8, 2) := by decide +kernel
theorem dX3_count_4 : decode cX3_count 4 = .ok (.invokestatic 35, 3) := by decide +kernel
theorem dX3_count_7 : decode cX3_count 7 = .ok (.ifCond .ne 13, 3) := by decide +kernel
theorem dX3_count_10 : decode cX3_count 10 = .ok (.new 64, 3) := by decide +kernel
theorem dX3_count_13 : decode cX3_count 13 = .ok (.dup, 1) := by decide +kernel
theorem dX3_count_14 : decode cX3_count 14 = .ok (.ldc 165, 2) := by decide +kernel
theorem dX3_count_16 : decode cX3_count 16 = .ok (.invokespecial 68, 3) := by decide +kernel
theorem dX3_count_19 : decode cX3_count 19 = .ok (.athrow, 1) := by decide +kernel
theorem dX3_count_20 : decode cX3_count 20 = .ok (.aload_n 0, 1) := by decide +kernel
theorem dX3_count_21 : decode cX3_count 21 = .ok (.iload_n 1, 1) := by decide +kernel
theorem dX3_count_22 : decode cX3_count 22 = .ok (.invokevirtual 167, 3) := by decide +kernel
theorem dX3_count_25 : decode cX3_count 25 = .ok (.ireturn, 1) := by decide +kernel
set_option maxRecDepth 20000 in
theorem ggX3_weather_X3_isWithin : GoodIn wsX3_weather wsX3_isWithin := goodIn_r _ [7] (by decide +kernel) (by decide +kernel)
set_option maxRecDepth 20000 in
theorem gX3_weather_X3_isWithin : GoodIn wsX3_weather (va_wsS RX3 35 yX3_isWithin wsX3_isWithin) := goodIn_app (goodIn_of _ (by decide +kernel)) ggX3_weather_X3_isWithin
set_option maxRecDepth 20000 in
theorem ggX3_weather_X0_dayNumber : GoodIn wsX3_weather wsX0_dayNumber := goodIn_r _ [12, 13, 14, 15, 22, 23, 24] (by decide +kernel) (by decide +kernel)
set_option maxRecDepth 20000 in
theorem gX3_weather_X0_dayNumber : GoodIn wsX3_weather (wsV RX3 172 RX0 yX0_dayNumber wsX0_dayNumber) := goodIn_app (goodIn_of _ (by decide +kernel)) ggX3_weather_X0_dayNumber
theorem dX3_weather_0 : decode cX3_weather 0 = .ok (.iload_n 1, 1) := by decide +kernel
theorem dX3_weather_1 : decode cX3_weather 1 = .ok (.iconst 0, 1) := by decide +kernel
theorem dX3_weather_2 : decode cX3_weather 2 = .ok (.bipush 29, 2) := by decide +kernel
theorem dX3_weather_4 : decode cX3_weather 4 = .ok (.invokestatic 35, 3) := by decide +kernel
theorem dX3_weather_7 : decode cX3_weather 7 = .ok (.ifCond .eq 12, 3) := by decide +kernel
theorem dX3_weather_10 : decode cX3_weather 10 = .ok (.iload_n 2, 1) := by decide +kernel
theorem dX3_weather_11 : decode cX3_weather 11 = .ok (.iconst 0, 1) := by decide +kernel
theorem dX3_weather_12 : decode cX3_weather 12 = .ok (.iconst 2, 1) := by decide +kernel
theorem dX3_weather_13 : decode cX3_weather 13 = .ok (.invokestatic 35, 3) := by decide +kernel
theorem dX3_weather_16 : decode cX3_weather 16 = .ok (.ifCond .ne 13, 3) := by decide +kernel
theorem dX3_weather_19 : decode cX3_weather 19 = .ok (.new 64, 3) := by decide +kernel
theorem dX3_weather_22 : decode cX3_weather 22 = .ok (.dup, 1) := by decide +kernel
theorem dX3_weather_23 : decode cX3_weather 23 = .ok (.ldc 170, 2) := by decide +kernel
theorem dX3_weather_25 : decode cX3_weather 25 = .ok (.invokespecial 68, 3) := by decide +kernel
theorem dX3_weather_28 : decode cX3_weather 28 = .ok (.athrow, 1) := by decide +kernel
theorem dX3_weather_29 : decode cX3_weather 29 = .ok (.aload_n 0, 1) := by decide +kernel
theorem dX3_weather_30 : decode cX3_weather 30 = .ok (.getfield 10, 3) := by decide +kernel
theorem dX3_weather_33 : decode cX3_weather 33 = .ok (.iload_n 1, 1) := by decide +kernel
theorem dX3_weather_34 : decode cX3_weather 34 = .ok (.iload_n 2, 1) := by decide +kernel
theorem dX3_weather_35 : decode cX3_weather 35 = .ok (.invokevirtual 172, 3) := by decide +kernel
theorem dX3_weather_38 : decode cX3_weather 38 = .ok (.ireturn, 1) := by decide +kernel
set_option maxRecDepth 20000 in
theorem ggX3_foresee_X3_isWithin : GoodIn wsX3_foresee wsX3_isWithin := goodIn_r _ [14] (by decide +kernel) (by decide +kernel)
set_option maxRecDepth 20000 in
theorem gX3_foresee_X3_isWithin : GoodIn wsX3_foresee (va_wsS RX3 35 yX3_isWithin wsX3_isWithin) := goodIn_app (goodIn_of _ (by decide +kernel)) ggX3_foresee_X3_isWithin
set_option maxRecDepth 20000 in
theorem ggX3_foresee_X2_copyFrom : GoodIn wsX3_foresee wsX2_copyFrom := goodIn_r _ [19, 20, 21, 22, 23, 24, 25, 26, 27, 28, 29, 30, 31, 32, 33, 34, 35, 36, 37, 38, 39, 40, 41, 42, 43, 18, 44, 138, 139, 140, 141, 142, 143, 144, 145, 146, 147, 148, 149, 150, 151, 152, 153, 154, 155] (by decide +kernel) (by decide +kernel)
set_option maxRecDepth 20000 in
theorem gX3_foresee_X2_copyFrom : GoodIn wsX3_foresee (wsV RX3 179 RX2 yX2_copyFrom wsX2_copyFrom) := goodIn_app (goodIn_of _ (by decide +kernel)) ggX3_foresee_X2_copyFrom
set_option maxRecDepth 20000 in
theorem ggX3_foresee_X2_letDaysGoBy : GoodIn wsX3_foresee wsX2_letDaysGoBy := goodIn_r _ [48, 22, 49, 50, 51, 52, 53, 54, 18, 55, 30, 56, 57, 58, 59, 20, 21, 60, 61, 62, 63, 25, 64, 65, 66, 67, 68, 69, 70, 71, 33, 72, 73, 74, 75, 76, 77, 78, 40, 34, 31, 41, 79, 80, 81, 82, 83, 84, 85, 86, 23, 87, 88, 89, 90, 91, 92, 93, 94, 32, 95, 96, 97, 98, 35, 99, 100, 101, 102, 36, 38, 39, 24, 37, 103, 104, 105, 106, 107, 108, 109, 110, 12, 13, 14, 138, 139, 140, 141, 142, 143, 144, 145, 146, 147, 148, 149, 150, 151, 152, 153, 154, 155, 156, 157, 158] (by decide +kernel) (by decide +kernel)
set_option maxRecDepth 20000 in
theorem gX3_foresee_X2_letDaysGoBy : GoodIn wsX3_foresee (wsV RX3 156 RX2 yX2_letDaysGoBy wsX2_letDaysGoBy) := goodIn_app (goodIn_of _ (by decide +kernel)) ggX3_foresee_X2_letDaysGoBy
set_option maxRecDepth 20000 in
theorem ggX3_foresee_X3_foreseenNumber : GoodIn wsX3_foresee wsX3_foreseenNumber := goodIn_r _ [114, 9, 115, 7, 116, 117, 118, 18, 119, 35, 120, 121, 122, 123, 56, 57, 58, 59, 20, 21, 124, 125, 126, 127, 37, 128, 129, 130, 131, 30, 132, 133, 134, 135, 136, 137, 138, 139, 140, 141, 142, 143, 144, 145, 146, 147, 148, 149, 150, 151, 152, 153, 154, 155] (by decide +kernel) (by decide +kernel)
set_option maxRecDepth 20000 in
theorem gX3_foresee_X3_foreseenNumber : GoodIn wsX3_foresee (wsV RX3 183 RX3 yX3_foreseenNumber wsX3_foreseenNumber) := goodIn_app (goodIn_of _ (by decide +kernel)) ggX3_foresee_X3_foreseenNumber
theorem dX3_foresee_0 : decode cX3_foresee 0 = .ok (.iload_n 1, 1) := by decide +kernel
theorem dX3_foresee_1 : decode cX3_foresee 1 = .ok (.iconst 1, 1) := by decide +kernel
theorem dX3_foresee_2 : decode cX3_foresee 2 = .ok (.bipush 20, 2) := by decide +kernel
theorem dX3_foresee_4 : decode cX3_foresee 4 = .ok (.invokestatic 35, 3) := by decide +kernel
theorem dX3_foresee_7 : decode cX3_foresee 7 = .ok (.ifCond .ne 13, 3) := by decide +kernel
theorem dX3_foresee_10 : decode cX3_foresee 10 = .ok (.new 39, 3) := by decide +kernel
theorem dX3_foresee_13 : decode cX3_foresee 13 = .ok (.dup, 1) := by decide +kernel
theorem dX3_foresee_14 : decode cX3_foresee 14 = .ok (.ldc 175, 2) := by decide +kernel
theorem dX3_foresee_16 : decode cX3_foresee 16 = .ok (.invokespecial 43, 3) := by decide +kernel
theorem dX3_foresee_19 : decode cX3_foresee 19 = .ok (.athrow, 1) := by decide +kernel
theorem dX3_foresee_20 : decode cX3_foresee 20 = .ok (.iload_n 2, 1) := by decide +kernel
theorem dX3_foresee_21 : decode cX3_foresee 21 = .ok (.iconst 0, 1) := by decide +kernel
theorem dX3_foresee_22 : decode cX3_foresee 22 = .ok (.iconst 3, 1) := by decide +kernel
theorem dX3_foresee_23 : decode cX3_foresee 23 = .ok (.invokestatic 35, 3) := by decide +kernel
theorem dX3_foresee_26 : decode cX3_foresee 26 = .ok (.ifCond .ne 13, 3) := by decide +kernel
theorem dX3_foresee_29 : decode cX3_foresee 29 = .ok (.new 64, 3) := by decide +kernel
theorem dX3_foresee_32 : decode cX3_foresee 32 = .ok (.dup, 1) := by decide +kernel
theorem dX3_foresee_33 : decode cX3_foresee 33 = .ok (.ldc 177, 2) := by decide +kernel
theorem dX3_foresee_35 : decode cX3_foresee 35 = .ok (.invokespecial 68, 3) := by decide +kernel
theorem dX3_foresee_38 : decode cX3_foresee 38 = .ok (.athrow, 1) := by decide +kernel
theorem dX3_foresee_39 : decode cX3_foresee 39 = .ok (.aload_n 0, 1) := by decide +kernel
theorem dX3_foresee_40 : decode cX3_foresee 40 = .ok (.getfield 21, 3) := by decide +kernel
theorem dX3_foresee_43 : decode cX3_foresee 43 = .ok (.getfield 151, 3) := by decide +kernel
theorem dX3_foresee_46 : decode cX3_foresee 46 = .ok (.iload_n 1, 1) := by decide +kernel
theorem dX3_foresee_47 : decode cX3_foresee 47 = .ok (.iadd, 1) := by decide +kernel
theorem dX3_foresee_48 : decode cX3_foresee 48 = .ok (.sipush 2000, 3) := by decide +kernel
theorem dX3_foresee_51 : decode cX3_foresee 51 = .ok (.if_icmp .le 13, 3) := by decide +kernel
theorem dX3_foresee_54 : decode cX3_foresee 54 = .ok (.new 129, 3) := by decide +kernel
theorem dX3_foresee_57 : decode cX3_foresee 57 = .ok (.dup, 1) := by decide +kernel
theorem dX3_foresee_58 : decode cX3_foresee 58 = .ok (.ldc 154, 2) := by decide +kernel
theorem dX3_foresee_60 : decode cX3_foresee 60 = .ok (.invokespecial 133, 3) := by decide +kernel
theorem dX3_foresee_63 : decode cX3_foresee 63 = .ok (.athrow, 1) := by decide +kernel
theorem dX3_foresee_64 : decode cX3_foresee 64 = .ok (.aload_n 0, 1) := by decide +kernel
theorem dX3_foresee_65 : decode cX3_foresee 65 = .ok (.getfield 25, 3) := by decide +kernel
theorem dX3_foresee_68 : decode cX3_foresee 68 = .ok (.aload_n 0, 1) := by decide +kernel
theorem dX3_foresee_69 : decode cX3_foresee 69 = .ok (.getfield 21, 3) := by decide +kernel
theorem dX3_foresee_72 : decode cX3_foresee 72 = .ok (.invokevirtual 179, 3) := by decide +kernel
theorem dX3_foresee_75 : decode cX3_foresee 75 = .ok (.aload_n 0, 1) := by decide +kernel
theorem dX3_foresee_76 : decode cX3_foresee 76 = .ok (.getfield 25, 3) := by decide +kernel
theorem dX3_foresee_79 : decode cX3_foresee 79 = .ok (.iload_n 1, 1) := by decide +kernel
theorem dX3_foresee_80 : decode cX3_foresee 80 = .ok (.aload_n 0, 1) := by decide +kernel
theorem dX3_foresee_81 : decode cX3_foresee 81 = .ok (.getfield 10, 3) := by decide +kernel
theorem dX3_foresee_84 : decode cX3_foresee 84 = .ok (.invokevirtual 156, 3) := by decide +kernel
theorem dX3_foresee_87 : decode cX3_foresee 87 = .ok (.aload_n 0, 1) := by decide +kernel
theorem dX3_foresee_88 : decode cX3_foresee 88 = .ok (.iload_n 2, 1) := by decide +kernel
theorem dX3_foresee_89 : decode cX3_foresee 89 = .ok (.invokevirtual 183, 3) := by decide +kernel
theorem dX3_foresee_92 : decode cX3_foresee 92 = .ok (.ireturn, 1) := by decide +kernel
set_option maxRecDepth 20000 in
theorem ggX3_advise_X3_isWithin : GoodIn wsX3_advise wsX3_isWithin := goodIn_r _ [13] (by decide +kernel) (by decide +kernel)
set_option maxRecDepth 20000 in
theorem gX3_advise_X3_isWithin : GoodIn wsX3_advise (va_wsS RX3 35 yX3_isWithin wsX3_isWithin) := goodIn_app (goodIn_of _ (by decide +kernel)) ggX3_advise_X3_isWithin
set_option maxRecDepth 20000 in
theorem ggX3_advise_X3_findBestMove : GoodIn wsX3_advise wsX3_findBestMove := goodIn_r _ [17, 18, 7, 19, 9, 20, 21, 22, 23, 24, 25, 26, 27, 28, 29, 30, 31, 32, 33, 34, 35, 36, 37, 38, 39, 40, 41, 42, 43, 44, 45, 46, 47, 48, 49, 50, 51, 52, 53, 54, 55, 56, 57, 58, 59, 60, 61, 62, 63, 64, 65, 66, 67, 68, 69, 70, 71, 72, 73, 74, 75, 76, 77, 78, 79, 80, 81, 82, 83, 84, 85, 86, 87, 88, 89, 90, 91, 92, 93, 94, 95, 96, 97, 98, 99, 100, 101, 102, 103, 104, 105, 106, 107, 108, 109, 110, 111, 112, 113, 114, 115, 116, 117, 118, 119, 11, 12, 13, 120, 121, 122, 123, 124, 125, 126, 127, 128, 129, 130, 131, 132, 133, 134, 135, 136, 137, 138, 139, 140, 141, 142, 143, 144, 145, 146, 147, 148, 149, 150, 155, 156, 157, 158, 159, 160, 161, 162, 163, 164, 165, 166, 167, 168, 169, 170, 171, 172, 173, 174, 175, 176, 177, 178, 179, 180, 181, 182, 183, 184, 185, 186] (by decide +kernel) (by decide +kernel)
set_option maxRecDepth 20000 in
theorem gX3_advise_X3_findBestMove : GoodIn wsX3_advise (wsV RX3 190 RX3 yX3_findBestMove wsX3_findBestMove) := goodIn_app (goodIn_of _ (by decide +kernel)) ggX3_advise_X3_findBestMove
set_option maxRecDepth 20000 in
theorem ggX3_advise_X1_moveNumber : GoodIn wsX3_advise wsX1_moveNumber := goodIn_r _ [154, 141, 142, 143, 182, 183, 184, 185, 186] (by decide +kernel) (by decide +kernel)
set_option maxRecDepth 20000 in
theorem gX3_advise_X1_moveNumber : GoodIn wsX3_advise (wsV RX3 193 RX1 yX1_moveNumber wsX1_moveNumber) := goodIn_app (goodIn_of _ (by decide +kernel)) ggX3_advise_X1_moveNumber
theorem dX3_advise_0 : decode cX3_advise 0 = .ok (.iload_n 1, 1) := by decide +kernel
theorem dX3_advise_1 : decode cX3_advise 1 = .ok (.iconst 1, 1) := by decide +kernel
theorem dX3_advise_2 : decode cX3_advise 2 = .ok (.bipush 10, 2) := by decide +kernel
theorem dX3_advise_4 : decode cX3_advise 4 = .ok (.invokestatic 35, 3) := by decide +kernel
theorem dX3_advise_7 : decode cX3_advise 7 = .ok (.ifCond .ne 13, 3) := by decide +kernel
theorem dX3_advise_10 : decode cX3_advise 10 = .ok (.new 39, 3) := by decide +kernel
theorem dX3_advise_13 : decode cX3_advise 13 = .ok (.dup, 1) := by decide +kernel
theorem dX3_advise_14 : decode cX3_advise 14 = .ok (.ldc 186, 2) := by decide +kernel
theorem dX3_advise_16 : decode cX3_advise 16 = .ok (.invokespecial 43, 3) := by decide +kernel
theorem dX3_advise_19 : decode cX3_advise 19 = .ok (.athrow, 1) := by decide +kernel
theorem dX3_advise_20 : decode cX3_advise 20 = .ok (.iload_n 2, 1) := by decide +kernel
theorem dX3_advise_21 : decode cX3_advise 21 = .ok (.iconst 0, 1) := by decide +kernel
theorem dX3_advise_22 : decode cX3_advise 22 = .ok (.iconst 2, 1) := by decide +kernel
theorem dX3_advise_23 : decode cX3_advise 23 = .ok (.invokestatic 35, 3) := by decide +kernel
theorem dX3_advise_26 : decode cX3_advise 26 = .ok (.ifCond .ne 13, 3) := by decide +kernel
theorem dX3_advise_29 : decode cX3_advise 29 = .ok (.new 64, 3) := by decide +kernel
theorem dX3_advise_32 : decode cX3_advise 32 = .ok (.dup, 1) := by decide +kernel
theorem dX3_advise_33 : decode cX3_advise 33 = .ok (.ldc 188, 2) := by decide +kernel
theorem dX3_advise_35 : decode cX3_advise 35 = .ok (.invokespecial 68, 3) := by decide +kernel
theorem dX3_advise_38 : decode cX3_advise 38 = .ok (.athrow, 1) := by decide +kernel
theorem dX3_advise_39 : decode cX3_advise 39 = .ok (.aload_n 0, 1) := by decide +kernel
theorem dX3_advise_40 : decode cX3_advise 40 = .ok (.getfield 21, 3) := by decide +kernel
theorem dX3_advise_43 : decode cX3_advise 43 = .ok (.getfield 151, 3) := by decide +kernel
theorem dX3_advise_46 : decode cX3_advise 46 = .ok (.iload_n 1, 1) := by decide +kernel
theorem dX3_advise_47 : decode cX3_advise 47 = .ok (.iadd, 1) := by decide +kernel
theorem dX3_advise_48 : decode cX3_advise 48 = .ok (.sipush 2000, 3) := by decide +kernel
theorem dX3_advise_51 : decode cX3_advise 51 = .ok (.if_icmp .le 13, 3) := by decide +kernel
theorem dX3_advise_54 : decode cX3_advise 54 = .ok (.new 129, 3) := by decide +kernel
theorem dX3_advise_57 : decode cX3_advise 57 = .ok (.dup, 1) := by decide +kernel
theorem dX3_advise_58 : decode cX3_advise 58 = .ok (.ldc 154, 2) := by decide +kernel
theorem dX3_advise_60 : decode cX3_advise 60 = .ok (.invokespecial 133, 3) := by decide +kernel
theorem dX3_advise_63 : decode cX3_advise 63 = .ok (.athrow, 1) := by decide +kernel
theorem dX3_advise_64 : decode cX3_advise 64 = .ok (.aload_n 0, 1) := by decide +kernel
theorem dX3_advise_65 : decode cX3_advise 65 = .ok (.iload_n 1, 1) := by decide +kernel
theorem dX3_advise_66 : decode cX3_advise 66 = .ok (.invokevirtual 190, 3) := by decide +kernel
theorem dX3_advise_69 : decode cX3_advise 69 = .ok (.aload_n 0, 1) := by decide +kernel
theorem dX3_advise_70 : decode cX3_advise 70 = .ok (.getfield 31, 3) := by decide +kernel
theorem dX3_advise_73 : decode cX3_advise 73 = .ok (.iload_n 2, 1) := by decide +kernel
theorem dX3_advise_74 : decode cX3_advise 74 = .ok (.invokevirtual 193, 3) := by decide +kernel
theorem dX3_advise_77 : decode cX3_advise 77 = .ok (.ireturn, 1) := by decide +kernel
set_option maxRecDepth 20000 in
theorem ggX3_depth_X2_cells : GoodIn wsX3_depth wsX2_cells := goodIn_r _ [6, 7, 8, 25, 26, 27, 28, 29, 30, 31, 32, 33, 34, 35, 36, 37, 38, 39, 40, 41, 42] (by decide +kernel) (by decide +kernel)
set_option maxRecDepth 20000 in
theorem gX3_depth_X2_cells : GoodIn wsX3_depth (wsV RX3 56 RX2 yX2_cells wsX2_cells) := goodIn_app (goodIn_of _ (by decide +kernel)) ggX3_depth_X2_cells
set_option maxRecDepth 20000 in
theorem ggX3_depth_X2_allDepths : GoodIn wsX3_depth wsX2_allDepths := goodIn_r _ [12, 13, 14, 15, 16, 5, 17, 18, 3, 4, 6, 7, 8, 25, 26, 27, 28, 29, 30, 31, 32, 33, 34, 35, 36, 37, 38, 39, 40, 41, 42] (by decide +kernel) (by decide +kernel)
set_option maxRecDepth 20000 in
theorem gX3_depth_X2_allDepths : GoodIn wsX3_depth (wsV RX3 196 RX2 yX2_allDepths wsX2_allDepths) := goodIn_app (goodIn_of _ (by decide +kernel)) ggX3_depth_X2_allDepths
theorem dX3_depth_0 : decode cX3_depth 0 = .ok (.aload_n 0, 1) := by decide +kernel
theorem dX3_depth_1 : decode cX3_depth 1 = .ok (.getfield 21, 3) := by decide +kernel
theorem dX3_depth_4 : decode cX3_depth 4 = .ok (.invokevirtual 56, 3) := by decide +kernel
theorem dX3_depth_7 : decode cX3_depth 7 = .ok (.istore_n 1, 1) := by decide +kernel
theorem dX3_depth_8 : decode cX3_depth 8 = .ok (.iload_n 1, 1) := by decide +kernel
theorem dX3_depth_9 : decode cX3_depth 9 = .ok (.iconst 1, 1) := by decide +kernel
theorem dX3_depth_10 : decode cX3_depth 10 = .ok (.if_icmp .ge 7, 3) := by decide +kernel
theorem dX3_depth_13 : decode cX3_depth 13 = .ok (.dconst 0, 1) := by decide +kernel
theorem dX3_depth_14 : decode cX3_depth 14 = .ok (.goto 14, 3) := by decide +kernel
theorem dX3_depth_17 : decode cX3_depth 17 = .ok (.aload_n 0, 1) := by decide +kernel
theorem dX3_depth_18 : decode cX3_depth 18 = .ok (.getfield 21, 3) := by decide +kernel
theorem dX3_depth_21 : decode cX3_depth 21 = .ok (.invokevirtual 196, 3) := by decide +kernel
theorem dX3_depth_24 : decode cX3_depth 24 = .ok (.i2d, 1) := by decide +kernel
theorem dX3_depth_25 : decode cX3_depth 25 = .ok (.iload_n 1, 1) := by decide +kernel
theorem dX3_depth_26 : decode cX3_depth 26 = .ok (.i2d, 1) := by decide +kernel
theorem dX3_depth_27 : decode cX3_depth 27 = .ok (.ddiv, 1) := by decide +kernel
theorem dX3_depth_28 : decode cX3_depth 28 = .ok (.dreturn, 1) := by decide +kernel
set_option maxRecDepth 20000 in
theorem ggX3_digest_X3_countNumber : GoodIn wsX3_digest wsX3_countNumber := goodIn_r _ [11, 3, 12, 4, 13, 14, 15, 16, 17, 18, 19, 20, 21, 22, 23, 24, 25, 26, 27, 28, 29, 30, 31, 32, 33, 34, 35, 36, 37, 38, 62, 63, 64, 65, 66, 67, 68, 69, 70, 71, 72, 73, 74, 75, 76, 77, 78, 79, 80, 81, 82, 83, 84, 85] (by decide +kernel) (by decide +kernel)
set_option maxRecDepth 20000 in
theorem gX3_digest_X3_countNumber : GoodIn wsX3_digest (wsV RX3 167 RX3 yX3_countNumber wsX3_countNumber) := goodIn_app (goodIn_of _ (by decide +kernel)) ggX3_digest_X3_countNumber
set_option maxRecDepth 20000 in
theorem ggX3_digest_X2_cells : GoodIn wsX3_digest wsX2_cells := goodIn_r _ [31, 32, 33, 68, 69, 70, 71, 72, 73, 74, 75, 76, 77, 78, 79, 80, 81, 82, 83, 84, 85] (by decide +kernel) (by decide +kernel)
set_option maxRecDepth 20000 in
theorem gX3_digest_X2_cells : GoodIn wsX3_digest (wsV RX3 56 RX2 yX2_cells wsX2_cells) := goodIn_app (goodIn_of _ (by decide +kernel)) ggX3_digest_X2_cells
set_option maxRecDepth 20000 in
theorem ggX3_digest_X2_fieldNumber : GoodIn wsX3_digest wsX2_fieldNumber := goodIn_r _ [43, 38, 44, 45, 46, 47, 23, 48, 49, 50, 51, 52, 53, 68, 69, 70, 71, 72, 73, 74, 75, 76, 77, 78, 79, 80, 81, 82, 83, 84, 85] (by decide +kernel) (by decide +kernel)
set_option maxRecDepth 20000 in
theorem gX3_digest_X2_fieldNumber : GoodIn wsX3_digest (wsV RX3 162 RX2 yX2_fieldNumber wsX2_fieldNumber) := goodIn_app (goodIn_of _ (by decide +kernel)) ggX3_digest_X2_fieldNumber
set_option maxRecDepth 20000 in
theorem ggX3_digest_X0_dayNumber : GoodIn wsX3_digest wsX0_dayNumber := goodIn_r _ [58, 59, 60, 61, 86, 87, 88] (by decide +kernel) (by decide +kernel)
set_option maxRecDepth 20000 in
theorem gX3_digest_X0_dayNumber : GoodIn wsX3_digest (wsV RX3 172 RX0 yX0_dayNumber wsX0_dayNumber) := goodIn_app (goodIn_of _ (by decide +kernel)) ggX3_digest_X0_dayNumber
theorem dX3_digest_0 : decode cX3_digest 0 = .ok (.ldc2_w 199, 3) := by decide +kernel
theorem dX3_digest_3 : decode cX3_digest 3 = .ok (.lstore_n 1, 1) := by decide +kernel
theorem dX3_digest_4 : decode cX3_digest 4 = .ok (.iconst 0, 1) := by decide +kernel
theorem dX3_digest_5 : decode cX3_digest 5 = .ok (.istore_n 3, 1) := by decide +kernel
theorem dX3_digest_6 : decode cX3_digest 6 = .ok (.iload_n 3, 1) := by decide +kernel
theorem dX3_digest_7 : decode cX3_digest 7 = .ok (.bipush 9, 2) := by decide +kernel
theorem dX3_digest_9 : decode cX3_digest 9 = .ok (.if_icmp .ge 22, 3) := by decide +kernel
theorem dX3_digest_12 : decode cX3_digest 12 = .ok (.lload_n 1, 1) := by decide +kernel
theorem dX3_digest_13 : decode cX3_digest 13 = .ok (.ldc2_w 201, 3) := by decide +kernel
theorem dX3_digest_16 : decode cX3_digest 16 = .ok (.lmul, 1) := by decide +kernel
theorem dX3_digest_17 : decode cX3_digest 17 = .ok (.aload_n 0, 1) := by decide +kernel
theorem dX3_digest_18 : decode cX3_digest 18 = .ok (.iload_n 3, 1) := by decide +kernel
theorem dX3_digest_19 : decode cX3_digest 19 = .ok (.invokevirtual 167, 3) := by decide +kernel
theorem dX3_digest_22 : decode cX3_digest 22 = .ok (.i2l, 1) := by decide +kernel
theorem dX3_digest_23 : decode cX3_digest 23 = .ok (.ladd, 1) := by decide +kernel
theorem dX3_digest_24 : decode cX3_digest 24 = .ok (.lstore_n 1, 1) := by decide +kernel
theorem dX3_digest_25 : decode cX3_digest 25 = .ok (.iinc 3 1, 3) := by decide +kernel
theorem dX3_digest_28 : decode cX3_digest 28 = .ok (.goto (-22), 3) := by decide +kernel
theorem dX3_digest_31 : decode cX3_digest 31 = .ok (.iconst 0, 1) := by decide +kernel
theorem dX3_digest_32 : decode cX3_digest 32 = .ok (.istore_n 3, 1) := by decide +kernel
theorem dX3_digest_33 : decode cX3_digest 33 = .ok (.iload_n 3, 1) := by decide +kernel
theorem dX3_digest_34 : decode cX3_digest 34 = .ok (.aload_n 0, 1) := by decide +kernel
theorem dX3_digest_35 : decode cX3_digest 35 = .ok (.getfield 21, 3) := by decide +kernel
theorem dX3_digest_38 : decode cX3_digest 38 = .ok (.getfield 203, 3) := by decide +kernel
theorem dX3_digest_41 : decode cX3_digest 41 = .ok (.if_icmp .ge 26, 3) := by decide +kernel
theorem dX3_digest_44 : decode cX3_digest 44 = .ok (.lload_n 1, 1) := by decide +kernel
theorem dX3_digest_45 : decode cX3_digest 45 = .ok (.ldc2_w 201, 3) := by decide +kernel
theorem dX3_digest_48 : decode cX3_digest 48 = .ok (.lmul, 1) := by decide +kernel
theorem dX3_digest_49 : decode cX3_digest 49 = .ok (.aload_n 0, 1) := by decide +kernel
theorem dX3_digest_50 : decode cX3_digest 50 = .ok (.getfield 21, 3) := by decide +kernel
theorem dX3_digest_53 : decode cX3_digest 53 = .ok (.getfield 105, 3) := by decide +kernel
theorem dX3_digest_56 : decode cX3_digest 56 = .ok (.iload_n 3, 1) := by decide +kernel
theorem dX3_digest_57 : decode cX3_digest 57 = .ok (.iaload, 1) := by decide +kernel
theorem dX3_digest_58 : decode cX3_digest 58 = .ok (.i2l, 1) := by decide +kernel
theorem dX3_digest_59 : decode cX3_digest 59 = .ok (.ladd, 1) := by decide +kernel
theorem dX3_digest_60 : decode cX3_digest 60 = .ok (.lstore_n 1, 1) := by decide +kernel
theorem dX3_digest_61 : decode cX3_digest 61 = .ok (.iinc 3 1, 3) := by decide +kernel
theorem dX3_digest_64 : decode cX3_digest 64 = .ok (.goto (-31), 3) := by decide +kernel
theorem dX3_digest_67 : decode cX3_digest 67 = .ok (.iconst 0, 1) := by decide +kernel
theorem dX3_digest_68 : decode cX3_digest 68 = .ok (.istore_n 3, 1) := by decide +kernel
theorem dX3_digest_69 : decode cX3_digest 69 = .ok (.iload_n 3, 1) := by decide +kernel
theorem dX3_digest_70 : decode cX3_digest 70 = .ok (.aload_n 0, 1) := by decide +kernel
theorem dX3_digest_71 : decode cX3_digest 71 = .ok (.getfield 21, 3) := by decide +kernel
theorem dX3_digest_74 : decode cX3_digest 74 = .ok (.invokevirtual 56, 3) := by decide +kernel
theorem dX3_digest_77 : decode cX3_digest 77 = .ok (.if_icmp .ge 43, 3) := by decide +kernel
theorem dX3_digest_80 : decode cX3_digest 80 = .ok (.iconst 0, 1) := by decide +kernel
theorem dX3_digest_81 : decode cX3_digest 81 = .ok (.istore 4, 2) := by decide +kernel
theorem dX3_digest_83 : decode cX3_digest 83 = .ok (.iload 4, 2) := by decide +kernel
theorem dX3_digest_85 : decode cX3_digest 85 = .ok (.bipush 12, 2) := by decide +kernel
theorem dX3_digest_87 : decode cX3_digest 87 = .ok (.if_icmp .ge 27, 3) := by decide +kernel
theorem dX3_digest_90 : decode cX3_digest 90 = .ok (.lload_n 1, 1) := by decide +kernel
theorem dX3_digest_91 : decode cX3_digest 91 = .ok (.ldc2_w 201, 3) := by decide +kernel
theorem dX3_digest_94 : decode cX3_digest 94 = .ok (.lmul, 1) := by decide +kernel
theorem dX3_digest_95 : decode cX3_digest 95 = .ok (.aload_n 0, 1) := by decide +kernel
theorem dX3_digest_96 : decode cX3_digest 96 = .ok (.getfield 21, 3) := by decide +kernel
theorem dX3_digest_99 : decode cX3_digest 99 = .ok (.iload_n 3, 1) := by decide +kernel
theorem dX3_digest_100 : decode cX3_digest 100 = .ok (.iload 4, 2) := by decide +kernel
theorem dX3_digest_102 : decode cX3_digest 102 = .ok (.invokevirtual 162, 3) := by decide +kernel
theorem dX3_digest_105 : decode cX3_digest 105 = .ok (.i2l, 1) := by decide +kernel
theorem dX3_digest_106 : decode cX3_digest 106 = .ok (.ladd, 1) := by decide +kernel
theorem dX3_digest_107 : decode cX3_digest 107 = .ok (.lstore_n 1, 1) := by decide +kernel
theorem dX3_digest_108 : decode cX3_digest 108 = .ok (.iinc 4 1, 3) := by decide +kernel
theorem dX3_digest_111 : decode cX3_digest 111 = .ok (.goto (-28), 3) := by decide +kernel
theorem dX3_digest_114 : decode cX3_digest 114 = .ok (.iinc 3 1, 3) := by decide +kernel
theorem dX3_digest_117 : decode cX3_digest 117 = .ok (.goto (-48), 3) := by decide +kernel
theorem dX3_digest_120 : decode cX3_digest 120 = .ok (.iconst 0, 1) := by decide +kernel
theorem dX3_digest_121 : decode cX3_digest 121 = .ok (.istore_n 3, 1) := by decide +kernel
theorem dX3_digest_122 : decode cX3_digest 122 = .ok (.iload_n 3, 1) := by decide +kernel
theorem dX3_digest_123 : decode cX3_digest 123 = .ok (.bipush 30, 2) := by decide +kernel
theorem dX3_digest_125 : decode cX3_digest 125 = .ok (.if_icmp .ge 42, 3) := by decide +kernel
theorem dX3_digest_128 : decode cX3_digest 128 = .ok (.iconst 0, 1) := by decide +kernel
theorem dX3_digest_129 : decode cX3_digest 129 = .ok (.istore 4, 2) := by decide +kernel
theorem dX3_digest_131 : decode cX3_digest 131 = .ok (.iload 4, 2) := by decide +kernel
theorem dX3_digest_133 : decode cX3_digest 133 = .ok (.iconst 3, 1) := by decide +kernel
theorem dX3_digest_134 : decode cX3_digest 134 = .ok (.if_icmp .ge 27, 3) := by decide +kernel
theorem dX3_digest_137 : decode cX3_digest 137 = .ok (.lload_n 1, 1) := by decide +kernel
theorem dX3_digest_138 : decode cX3_digest 138 = .ok (.ldc2_w 201, 3) := by decide +kernel
theorem dX3_digest_141 : decode cX3_digest 141 = .ok (.lmul, 1) := by decide +kernel
theorem dX3_digest_142 : decode cX3_digest 142 = .ok (.aload_n 0, 1) := by decide +kernel
theorem dX3_digest_143 : decode cX3_digest 143 = .ok (.getfield 10, 3) := by decide +kernel
theorem dX3_digest_146 : decode cX3_digest 146 = .ok (.iload_n 3, 1) := by decide +kernel
theorem dX3_digest_147 : decode cX3_digest 147 = .ok (.iload 4, 2) := by decide +kernel
theorem dX3_digest_149 : decode cX3_digest 149 = .ok (.invokevirtual 172, 3) := by decide +kernel
theorem dX3_digest_152 : decode cX3_digest 152 = .ok (.i2l, 1) := by decide +kernel
theorem dX3_digest_153 : decode cX3_digest 153 = .ok (.ladd, 1) := by decide +kernel
theorem dX3_digest_154 : decode cX3_digest 154 = .ok (.lstore_n 1, 1) := by decide +kernel
theorem dX3_digest_155 : decode cX3_digest 155 = .ok (.iinc 4 1, 3) := by decide +kernel
theorem dX3_digest_158 : decode cX3_digest 158 = .ok (.goto (-27), 3) := by decide +kernel
theorem dX3_digest_161 : decode cX3_digest 161 = .ok (.iinc 3 1, 3) := by decide +kernel
theorem dX3_digest_164 : decode cX3_digest 164 = .ok (.goto (-42), 3) := by decide +kernel
theorem dX3_digest_167 : decode cX3_digest 167 = .ok (.lload_n 1, 1) := by decide +kernel
theorem dX3_digest_168 : decode cX3_digest 168 = .ok (.lreturn, 1) := by decide +kernel
theorem dX3_isWithin_0 : decode cX3_isWithin 0 = .ok (.iload_n 0, 1) := by decide +kernel
theorem dX3_isWithin_1 : decode cX3_isWithin 1 = .ok (.iload_n 1, 1) := by decide +kernel
theorem dX3_isWithin_2 : decode cX3_isWithin 2 = .ok (.if_icmp .lt 12, 3) := by decide +kernel
theorem dX3_isWithin_5 : decode cX3_isWithin 5 = .ok (.iload_n 0, 1) := by decide +kernel
theorem dX3_isWithin_6 : decode cX3_isWithin 6 = .ok (.iload_n 2, 1) := by decide +kernel
theorem dX3_isWithin_7 : decode cX3_isWithin 7 = .ok (.if_icmp .gt 7, 3) := by decide +kernel
theorem dX3_isWithin_10 : decode cX3_isWithin 10 = .ok (.iconst 1, 1) := by decide +kernel
theorem dX3_isWithin_11 : decode cX3_isWithin 11 = .ok (.goto 4, 3) := by decide +kernel
theorem dX3_isWithin_14 : decode cX3_isWithin 14 = .ok (.iconst 0, 1) := by decide +kernel
theorem dX3_isWithin_15 : decode cX3_isWithin 15 = .ok (.ireturn, 1) := by decide +kernel
set_option maxRecDepth 20000 in
theorem ggX3_countNumber_X2_crops : GoodIn wsX3_countNumber wsX2_crops := goodIn_r _ [13, 14, 15, 16, 17, 12, 18, 19, 20, 21, 22, 23, 24, 36, 37, 38, 39, 40, 41, 42, 43, 44, 45, 46, 47, 48, 49, 50, 51, 52, 53] (by decide +kernel) (by decide +kernel)
set_option maxRecDepth 20000 in
theorem gX3_countNumber_X2_crops : GoodIn wsX3_countNumber (wsV RX3 137 RX2 yX2_crops wsX2_crops) := goodIn_app (goodIn_of _ (by decide +kernel)) ggX3_countNumber_X2_crops
set_option maxRecDepth 20000 in
theorem ggX3_countNumber_X2_allDepths : GoodIn wsX3_countNumber wsX2_allDepths := goodIn_r _ [28, 29, 15, 16, 17, 12, 18, 19, 20, 21, 22, 23, 24, 36, 37, 38, 39, 40, 41, 42, 43, 44, 45, 46, 47, 48, 49, 50, 51, 52, 53] (by decide +kernel) (by decide +kernel)
set_option maxRecDepth 20000 in
theorem gX3_countNumber_X2_allDepths : GoodIn wsX3_countNumber (wsV RX3 196 RX2 yX2_allDepths wsX2_allDepths) := goodIn_app (goodIn_of _ (by decide +kernel)) ggX3_countNumber_X2_allDepths
theorem dX3_countNumber_0 : decode cX3_countNumber 0 = .ok (.iload_n 1, 1) := by decide +kernel
theorem dX3_countNumber_1 : decode cX3_countNumber 1 = .ok (.tableswitch 108 0 7 #[47, 55, 63, 71, 79, 87, 95, 100], 47) := by decide +kernel
theorem dX3_countNumber_48 : decode cX3_countNumber 48 = .ok (.aload_n 0, 1) := by decide +kernel
theorem dX3_countNumber_49 : decode cX3_countNumber 49 = .ok (.getfield 21, 3) := by decide +kernel
theorem dX3_countNumber_52 : decode cX3_countNumber 52 = .ok (.getfield 206, 3) := by decide +kernel
theorem dX3_countNumber_55 : decode cX3_countNumber 55 = .ok (.ireturn, 1) := by decide +kernel
theorem dX3_countNumber_56 : decode cX3_countNumber 56 = .ok (.aload_n 0, 1) := by decide +kernel
theorem dX3_countNumber_57 : decode cX3_countNumber 57 = .ok (.getfield 21, 3) := by decide +kernel
theorem dX3_countNumber_60 : decode cX3_countNumber 60 = .ok (.getfield 203, 3) := by decide +kernel
theorem dX3_countNumber_63 : decode cX3_countNumber 63 = .ok (.ireturn, 1) := by decide +kernel
theorem dX3_countNumber_64 : decode cX3_countNumber 64 = .ok (.aload_n 0, 1) := by decide +kernel
theorem dX3_countNumber_65 : decode cX3_countNumber 65 = .ok (.getfield 21, 3) := by decide +kernel
theorem dX3_countNumber_68 : decode cX3_countNumber 68 = .ok (.getfield 151, 3) := by decide +kernel
theorem dX3_countNumber_71 : decode cX3_countNumber 71 = .ok (.ireturn, 1) := by decide +kernel
theorem dX3_countNumber_72 : decode cX3_countNumber 72 = .ok (.aload_n 0, 1) := by decide +kernel
theorem dX3_countNumber_73 : decode cX3_countNumber 73 = .ok (.getfield 21, 3) := by decide +kernel
theorem dX3_countNumber_76 : decode cX3_countNumber 76 = .ok (.invokevirtual 137, 3) := by decide +kernel
theorem dX3_countNumber_79 : decode cX3_countNumber 79 = .ok (.ireturn, 1) := by decide +kernel
theorem dX3_countNumber_80 : decode cX3_countNumber 80 = .ok (.aload_n 0, 1) := by decide +kernel
theorem dX3_countNumber_81 : decode cX3_countNumber 81 = .ok (.getfield 21, 3) := by decide +kernel
theorem dX3_countNumber_84 : decode cX3_countNumber 84 = .ok (.invokevirtual 196, 3) := by decide +kernel
theorem dX3_countNumber_87 : decode cX3_countNumber 87 = .ok (.ireturn, 1) := by decide +kernel
theorem dX3_countNumber_88 : decode cX3_countNumber 88 = .ok (.aload_n 0, 1) := by decide +kernel
theorem dX3_countNumber_89 : decode cX3_countNumber 89 = .ok (.getfield 21, 3) := by decide +kernel
theorem dX3_countNumber_92 : decode cX3_countNumber 92 = .ok (.getfield 209, 3) := by decide +kernel
theorem dX3_countNumber_95 : decode cX3_countNumber 95 = .ok (.ireturn, 1) := by decide +kernel
theorem dX3_countNumber_96 : decode cX3_countNumber 96 = .ok (.aload_n 0, 1) := by decide +kernel
theorem dX3_countNumber_97 : decode cX3_countNumber 97 = .ok (.getfield 49, 3) := by decide +kernel
theorem dX3_countNumber_100 : decode cX3_countNumber 100 = .ok (.ireturn, 1) := by decide +kernel
theorem dX3_countNumber_101 : decode cX3_countNumber 101 = .ok (.aload_n 0, 1) := by decide +kernel
theorem dX3_countNumber_102 : decode cX3_countNumber 102 = .ok (.getfield 21, 3) := by decide +kernel
theorem dX3_countNumber_105 : decode cX3_countNumber 105 = .ok (.getfield 212, 3) := by decide +kernel
theorem dX3_countNumber_108 : decode cX3_countNumber 108 = .ok (.ireturn, 1) := by decide +kernel
theorem dX3_countNumber_109 : decode cX3_countNumber 109 = .ok (.aload_n 0, 1) := by decide +kernel
theorem dX3_countNumber_110 : decode cX3_countNumber 110 = .ok (.getfield 53, 3) := by decide +kernel
theorem dX3_countNumber_113 : decode cX3_countNumber 113 = .ok (.ireturn, 1) := by decide +kernel
set_option maxRecDepth 20000 in
theorem ggX3_foreseenNumber_X2_crops : GoodIn wsX3_foreseenNumber wsX2_crops := goodIn_r _ [8, 9, 10, 11, 12, 7, 13, 14, 15, 16, 17, 18, 19, 36, 37, 38, 39, 40, 41, 42, 43, 44, 45, 46, 47, 48, 49, 50, 51, 52, 53] (by decide +kernel) (by decide +kernel)
set_option maxRecDepth 20000 in
theorem gX3_foreseenNumber_X2_crops : GoodIn wsX3_foreseenNumber (wsV RX3 137 RX2 yX2_crops wsX2_crops) := goodIn_app (goodIn_of _ (by decide +kernel)) ggX3_foreseenNumber_X2_crops
set_option maxRecDepth 20000 in
theorem ggX3_foreseenNumber_X2_allHardness : GoodIn wsX3_foreseenNumber wsX2_allHardness := goodIn_r _ [23, 24, 10, 11, 12, 7, 13, 14, 15, 16, 17, 18, 19, 36, 37, 38, 39, 40, 41, 42, 43, 44, 45, 46, 47, 48, 49, 50, 51, 52, 53] (by decide +kernel) (by decide +kernel)
set_option maxRecDepth 20000 in
theorem gX3_foreseenNumber_X2_allHardness : GoodIn wsX3_foreseenNumber (wsV RX3 215 RX2 yX2_allHardness wsX2_allHardness) := goodIn_app (goodIn_of _ (by decide +kernel)) ggX3_foreseenNumber_X2_allHardness
set_option maxRecDepth 20000 in
theorem ggX3_foreseenNumber_X2_allDepths : GoodIn wsX3_foreseenNumber wsX2_allDepths := goodIn_r _ [28, 29, 10, 11, 12, 7, 13, 14, 15, 16, 17, 18, 19, 36, 37, 38, 39, 40, 41, 42, 43, 44, 45, 46, 47, 48, 49, 50, 51, 52, 53] (by decide +kernel) (by decide +kernel)
set_option maxRecDepth 20000 in
theorem gX3_foreseenNumber_X2_allDepths : GoodIn wsX3_foreseenNumber (wsV RX3 196 RX2 yX2_allDepths wsX2_allDepths) := goodIn_app (goodIn_of _ (by decide +kernel)) ggX3_foreseenNumber_X2_allDepths
theorem dX3_foreseenNumber_0 : decode cX3_foreseenNumber 0 = .ok (.iload_n 1, 1) := by decide +kernel
theorem dX3_foreseenNumber_1 : decode cX3_foreseenNumber 1 = .ok (.tableswitch 59 0 2 #[27, 35, 43], 27) := by decide +kernel
theorem dX3_foreseenNumber_28 : decode cX3_foreseenNumber 28 = .ok (.aload_n 0, 1) := by decide +kernel
theorem dX3_foreseenNumber_29 : decode cX3_foreseenNumber 29 = .ok (.getfield 25, 3) := by decide +kernel
theorem dX3_foreseenNumber_32 : decode cX3_foreseenNumber 32 = .ok (.invokevirtual 137, 3) := by decide +kernel
theorem dX3_foreseenNumber_35 : decode cX3_foreseenNumber 35 = .ok (.ireturn, 1) := by decide +kernel
theorem dX3_foreseenNumber_36 : decode cX3_foreseenNumber 36 = .ok (.aload_n 0, 1) := by decide +kernel
theorem dX3_foreseenNumber_37 : decode cX3_foreseenNumber 37 = .ok (.getfield 25, 3) := by decide +kernel
theorem dX3_foreseenNumber_40 : decode cX3_foreseenNumber 40 = .ok (.invokevirtual 215, 3) := by decide +kernel
theorem dX3_foreseenNumber_43 : decode cX3_foreseenNumber 43 = .ok (.ireturn, 1) := by decide +kernel
theorem dX3_foreseenNumber_44 : decode cX3_foreseenNumber 44 = .ok (.aload_n 0, 1) := by decide +kernel
theorem dX3_foreseenNumber_45 : decode cX3_foreseenNumber 45 = .ok (.getfield 25, 3) := by decide +kernel
theorem dX3_foreseenNumber_48 : decode cX3_foreseenNumber 48 = .ok (.getfield 209, 3) := by decide +kernel
theorem dX3_foreseenNumber_51 : decode cX3_foreseenNumber 51 = .ok (.aload_n 0, 1) := by decide +kernel
theorem dX3_foreseenNumber_52 : decode cX3_foreseenNumber 52 = .ok (.getfield 21, 3) := by decide +kernel
theorem dX3_foreseenNumber_55 : decode cX3_foreseenNumber 55 = .ok (.getfield 209, 3) := by decide +kernel
theorem dX3_foreseenNumber_58 : decode cX3_foreseenNumber 58 = .ok (.isub, 1) := by decide +kernel
theorem dX3_foreseenNumber_59 : decode cX3_foreseenNumber 59 = .ok (.ireturn, 1) := by decide +kernel
theorem dX3_foreseenNumber_60 : decode cX3_foreseenNumber 60 = .ok (.aload_n 0, 1) := by decide +kernel
theorem dX3_foreseenNumber_61 : decode cX3_foreseenNumber 61 = .ok (.getfield 25, 3) := by decide +kernel
theorem dX3_foreseenNumber_64 : decode cX3_foreseenNumber 64 = .ok (.invokevirtual 196, 3) := by decide +kernel
theorem dX3_foreseenNumber_67 : decode cX3_foreseenNumber 67 = .ok (.ireturn, 1) := by decide +kernel
set_option maxRecDepth 20000 in
theorem ggX3_findBestMove_X2_copyFrom : GoodIn wsX3_findBestMove wsX2_copyFrom := goodIn_r _ [13, 14, 15, 16, 17, 18, 19, 20, 21, 22, 23, 24, 25, 26, 27, 28, 29, 30, 31, 32, 33, 34, 35, 36, 37, 12, 38, 145, 146, 147, 148, 149, 150, 151, 152, 153, 154, 155, 156, 157, 158, 159, 160, 161, 162] (by decide +kernel) (by decide +kernel)
set_option maxRecDepth 20000 in
theorem gX3_findBestMove_X2_copyFrom : GoodIn wsX3_findBestMove (wsV RX3 179 RX2 yX2_copyFrom wsX2_copyFrom) := goodIn_app (goodIn_of _ (by decide +kernel)) ggX3_findBestMove_X2_copyFrom
set_option maxRecDepth 20000 in
theorem ggX3_findBestMove_X2_letDaysGoBy : GoodIn wsX3_findBestMove wsX2_letDaysGoBy := goodIn_r _ [42, 16, 43, 44, 45, 46, 47, 48, 12, 49, 24, 50, 51, 52, 53, 14, 15, 54, 55, 56, 57, 19, 58, 59, 60, 61, 62, 63, 64, 65, 27, 66, 67, 68, 69, 70, 71, 72, 34, 28, 25, 35, 73, 74, 75, 76, 77, 78, 79, 80, 17, 81, 82, 83, 84, 85, 86, 87, 88, 26, 89, 90, 91, 92, 29, 93, 94, 95, 96, 30, 32, 33, 18, 31, 97, 98, 99, 100, 101, 102, 103, 104, 105, 106, 107, 145, 146, 147, 148, 149, 150, 151, 152, 153, 154, 155, 156, 157, 158, 159, 160, 161, 162, 163, 164, 165] (by decide +kernel) (by decide +kernel)
set_option maxRecDepth 20000 in
theorem gX3_findBestMove_X2_letDaysGoBy : GoodIn wsX3_findBestMove (wsV RX3 156 RX2 yX2_letDaysGoBy wsX2_letDaysGoBy) := goodIn_app (goodIn_of _ (by decide +kernel)) ggX3_findBestMove_X2_letDaysGoBy
set_option maxRecDepth 20000 in
theorem ggX3_findBestMove_X2_crops : GoodIn wsX3_findBestMove wsX2_crops := goodIn_r _ [111, 29, 112, 113, 114, 12, 115, 50, 51, 52, 53, 14, 15, 145, 146, 147, 148, 149, 150, 151, 152, 153, 154, 155, 156, 157, 158, 159, 160, 161, 162] (by decide +kernel) (by decide +kernel)
set_option maxRecDepth 20000 in
theorem gX3_findBestMove_X2_crops : GoodIn wsX3_findBestMove (wsV RX3 137 RX2 yX2_crops wsX2_crops) := goodIn_app (goodIn_of _ (by decide +kernel)) ggX3_findBestMove_X2_crops
set_option maxRecDepth 20000 in
theorem ggX3_findBestMove_X2_allHardness : GoodIn wsX3_findBestMove wsX2_allHardness := goodIn_r _ [119, 31, 112, 113, 114, 12, 115, 50, 51, 52, 53, 14, 15, 145, 146, 147, 148, 149, 150, 151, 152, 153, 154, 155, 156, 157, 158, 159, 160, 161, 162] (by decide +kernel) (by decide +kernel)
set_option maxRecDepth 20000 in
theorem gX3_findBestMove_X2_allHardness : GoodIn wsX3_findBestMove (wsV RX3 215 RX2 yX2_allHardness wsX2_allHardness) := goodIn_app (goodIn_of _ (by decide +kernel)) ggX3_findBestMove_X2_allHardness
set_option maxRecDepth 20000 in
theorem ggX3_findBestMove_X1_becomeLeaving : GoodIn wsX3_findBestMove wsX1_becomeLeaving := goodIn_r _ [124, 125, 126, 127, 123, 128, 129, 130, 131, 132, 133, 166, 167, 168, 169, 170] (by decide +kernel) (by decide +kernel)
set_option maxRecDepth 20000 in
theorem gX3_findBestMove_X1_becomeLeaving : GoodIn wsX3_findBestMove (wsV RX3 218 RX1 yX1_becomeLeaving wsX1_becomeLeaving) := goodIn_app (goodIn_of _ (by decide +kernel)) ggX3_findBestMove_X1_becomeLeaving
set_option maxRecDepth 20000 in
theorem ggX3_findBestMove_X2_cellOf : GoodIn wsX3_findBestMove wsX2_cellOf := goodIn_r _ [76, 15, 145, 146, 147, 148, 149, 150, 151, 152, 153, 154, 155, 156, 157, 158, 159, 160, 161, 162] (by decide +kernel) (by decide +kernel)
set_option maxRecDepth 20000 in
theorem gX3_findBestMove_X2_cellOf : GoodIn wsX3_findBestMove (wsV RX3 71 RX2 yX2_cellOf wsX2_cellOf) := goodIn_app (goodIn_of _ (by decide +kernel)) ggX3_findBestMove_X2_cellOf
set_option maxRecDepth 20000 in
theorem ggX3_findBestMove_X1_becomeIfBetter : GoodIn wsX3_findBestMove wsX1_becomeIfBetter := goodIn_r _ [138, 132, 133, 125, 126, 127, 123, 128, 129, 130, 131, 166, 167, 168, 169, 170] (by decide +kernel) (by decide +kernel)
set_option maxRecDepth 20000 in
theorem gX3_findBestMove_X1_becomeIfBetter : GoodIn wsX3_findBestMove (wsV RX3 221 RX1 yX1_becomeIfBetter wsX1_becomeIfBetter) := goodIn_app (goodIn_of _ (by decide +kernel)) ggX3_findBestMove_X1_becomeIfBetter
end
section
theorem dX3_findBestMove_0 : decode cX3_findBestMove 0 = .ok (.aload_n 0, 1) := by decide +kernel
theorem dX3_findBestMove_1 : decode cX3_findBestMove 1 = .ok (.getfield 25, 3) := by decide +kernel
theorem dX3_findBestMove_4 : decode cX3_findBestMove 4 = .ok (.aload_n 0, 1) := by decide +kernel
theorem dX3_findBestMove_5 : decode cX3_findBestMove 5 = .ok (.getfield 21, 3) := by decide +kernel
theorem dX3_findBestMove_8 : decode cX3_findBestMove 8 = .ok (.invokevirtual 179, 3) := by decide +kernel
theorem dX3_findBestMove_11 : decode cX3_findBestMove 11 = .ok (.aload_n 0, 1) := by decide +kernel
theorem dX3_findBestMove_12 : decode cX3_findBestMove 12 = .ok (.getfield 25, 3) := by decide +kernel
theorem dX3_findBestMove_15 : decode cX3_findBestMove 15 = .ok (.iload_n 1, 1) := by decide +kernel
theorem dX3_findBestMove_16 : decode cX3_findBestMove 16 = .ok (.aload_n 0, 1) := by decide +kernel
theorem dX3_findBestMove_17 : decode cX3_findBestMove 17 = .ok (.getfield 10, 3) := by decide +kernel
theorem dX3_findBestMove_20 : decode cX3_findBestMove 20 = .ok (.invokevirtual 156, 3) := by decide +kernel
theorem dX3_findBestMove_23 : decode cX3_findBestMove 23 = .ok (.aload_n 0, 1) := by decide +kernel
theorem dX3_findBestMove_24 : decode cX3_findBestMove 24 = .ok (.getfield 31, 3) := by decide +kernel
theorem dX3_findBestMove_27 : decode cX3_findBestMove 27 = .ok (.aload_n 0, 1) := by decide +kernel
theorem dX3_findBestMove_28 : decode cX3_findBestMove 28 = .ok (.getfield 25, 3) := by decide +kernel
theorem dX3_findBestMove_31 : decode cX3_findBestMove 31 = .ok (.invokevirtual 137, 3) := by decide +kernel
theorem dX3_findBestMove_34 : decode cX3_findBestMove 34 = .ok (.aload_n 0, 1) := by decide +kernel
theorem dX3_findBestMove_35 : decode cX3_findBestMove 35 = .ok (.getfield 25, 3) := by decide +kernel
theorem dX3_findBestMove_38 : decode cX3_findBestMove 38 = .ok (.invokevirtual 215, 3) := by decide +kernel
theorem dX3_findBestMove_41 : decode cX3_findBestMove 41 = .ok (.invokevirtual 218, 3) := by decide +kernel
theorem dX3_findBestMove_44 : decode cX3_findBestMove 44 = .ok (.iconst 0, 1) := by decide +kernel
theorem dX3_findBestMove_45 : decode cX3_findBestMove 45 = .ok (.istore_n 2, 1) := by decide +kernel
theorem dX3_findBestMove_46 : decode cX3_findBestMove 46 = .ok (.iload_n 2, 1) := by decide +kernel
theorem dX3_findBestMove_47 : decode cX3_findBestMove 47 = .ok (.aload_n 0, 1) := by decide +kernel
theorem dX3_findBestMove_48 : decode cX3_findBestMove 48 = .ok (.getfield 21, 3) := by decide +kernel
theorem dX3_findBestMove_51 : decode cX3_findBestMove 51 = .ok (.getfield 206, 3) := by decide +kernel
theorem dX3_findBestMove_54 : decode cX3_findBestMove 54 = .ok (.if_icmp .ge 123, 3) := by decide +kernel
theorem dX3_findBestMove_57 : decode cX3_findBestMove 57 = .ok (.iconst 0, 1) := by decide +kernel
theorem dX3_findBestMove_58 : decode cX3_findBestMove 58 = .ok (.istore_n 3, 1) := by decide +kernel
theorem dX3_findBestMove_59 : decode cX3_findBestMove 59 = .ok (.iload_n 3, 1) := by decide +kernel
theorem dX3_findBestMove_60 : decode cX3_findBestMove 60 = .ok (.aload_n 0, 1) := by decide +kernel
theorem dX3_findBestMove_61 : decode cX3_findBestMove 61 = .ok (.getfield 21, 3) := by decide +kernel
theorem dX3_findBestMove_64 : decode cX3_findBestMove 64 = .ok (.getfield 203, 3) := by decide +kernel
theorem dX3_findBestMove_67 : decode cX3_findBestMove 67 = .ok (.if_icmp .ge 104, 3) := by decide +kernel
theorem dX3_findBestMove_70 : decode cX3_findBestMove 70 = .ok (.aload_n 0, 1) := by decide +kernel
theorem dX3_findBestMove_71 : decode cX3_findBestMove 71 = .ok (.getfield 21, 3) := by decide +kernel
theorem dX3_findBestMove_74 : decode cX3_findBestMove 74 = .ok (.iload_n 2, 1) := by decide +kernel
theorem dX3_findBestMove_75 : decode cX3_findBestMove 75 = .ok (.iload_n 3, 1) := by decide +kernel
theorem dX3_findBestMove_76 : decode cX3_findBestMove 76 = .ok (.invokevirtual 71, 3) := by decide +kernel
theorem dX3_findBestMove_79 : decode cX3_findBestMove 79 = .ok (.istore 4, 2) := by decide +kernel
theorem dX3_findBestMove_81 : decode cX3_findBestMove 81 = .ok (.iconst 0, 1) := by decide +kernel
theorem dX3_findBestMove_82 : decode cX3_findBestMove 82 = .ok (.istore 5, 2) := by decide +kernel
theorem dX3_findBestMove_84 : decode cX3_findBestMove 84 = .ok (.iload 5, 2) := by decide +kernel
theorem dX3_findBestMove_86 : decode cX3_findBestMove 86 = .ok (.aload_n 0, 1) := by decide +kernel
theorem dX3_findBestMove_87 : decode cX3_findBestMove 87 = .ok (.getfield 21, 3) := by decide +kernel
theorem dX3_findBestMove_90 : decode cX3_findBestMove 90 = .ok (.getfield 75, 3) := by decide +kernel
theorem dX3_findBestMove_93 : decode cX3_findBestMove 93 = .ok (.iload 4, 2) := by decide +kernel
theorem dX3_findBestMove_95 : decode cX3_findBestMove 95 = .ok (.iaload, 1) := by decide +kernel
theorem dX3_findBestMove_96 : decode cX3_findBestMove 96 = .ok (.if_icmp .gt 69, 3) := by decide +kernel
theorem dX3_findBestMove_99 : decode cX3_findBestMove 99 = .ok (.aload_n 0, 1) := by decide +kernel
theorem dX3_findBestMove_100 : decode cX3_findBestMove 100 = .ok (.getfield 25, 3) := by decide +kernel
theorem dX3_findBestMove_103 : decode cX3_findBestMove 103 = .ok (.aload_n 0, 1) := by decide +kernel
theorem dX3_findBestMove_104 : decode cX3_findBestMove 104 = .ok (.getfield 21, 3) := by decide +kernel
theorem dX3_findBestMove_107 : decode cX3_findBestMove 107 = .ok (.invokevirtual 179, 3) := by decide +kernel
theorem dX3_findBestMove_110 : decode cX3_findBestMove 110 = .ok (.aload_n 0, 1) := by decide +kernel
theorem dX3_findBestMove_111 : decode cX3_findBestMove 111 = .ok (.getfield 25, 3) := by decide +kernel
theorem dX3_findBestMove_114 : decode cX3_findBestMove 114 = .ok (.getfield 82, 3) := by decide +kernel
theorem dX3_findBestMove_117 : decode cX3_findBestMove 117 = .ok (.iload 4, 2) := by decide +kernel
theorem dX3_findBestMove_119 : decode cX3_findBestMove 119 = .ok (.iload 5, 2) := by decide +kernel
theorem dX3_findBestMove_121 : decode cX3_findBestMove 121 = .ok (.iastore, 1) := by decide +kernel
theorem dX3_findBestMove_122 : decode cX3_findBestMove 122 = .ok (.aload_n 0, 1) := by decide +kernel
theorem dX3_findBestMove_123 : decode cX3_findBestMove 123 = .ok (.getfield 25, 3) := by decide +kernel
theorem dX3_findBestMove_126 : decode cX3_findBestMove 126 = .ok (.iload_n 1, 1) := by decide +kernel
theorem dX3_findBestMove_127 : decode cX3_findBestMove 127 = .ok (.aload_n 0, 1) := by decide +kernel
theorem dX3_findBestMove_128 : decode cX3_findBestMove 128 = .ok (.getfield 10, 3) := by decide +kernel
theorem dX3_findBestMove_131 : decode cX3_findBestMove 131 = .ok (.invokevirtual 156, 3) := by decide +kernel
theorem dX3_findBestMove_134 : decode cX3_findBestMove 134 = .ok (.aload_n 0, 1) := by decide +kernel
theorem dX3_findBestMove_135 : decode cX3_findBestMove 135 = .ok (.getfield 31, 3) := by decide +kernel
theorem dX3_findBestMove_138 : decode cX3_findBestMove 138 = .ok (.iload_n 2, 1) := by decide +kernel
theorem dX3_findBestMove_139 : decode cX3_findBestMove 139 = .ok (.iload_n 3, 1) := by decide +kernel
theorem dX3_findBestMove_140 : decode cX3_findBestMove 140 = .ok (.iload 5, 2) := by decide +kernel
theorem dX3_findBestMove_142 : decode cX3_findBestMove 142 = .ok (.aload_n 0, 1) := by decide +kernel
theorem dX3_findBestMove_143 : decode cX3_findBestMove 143 = .ok (.getfield 25, 3) := by decide +kernel
theorem dX3_findBestMove_146 : decode cX3_findBestMove 146 = .ok (.invokevirtual 137, 3) := by decide +kernel
theorem dX3_findBestMove_149 : decode cX3_findBestMove 149 = .ok (.aload_n 0, 1) := by decide +kernel
theorem dX3_findBestMove_150 : decode cX3_findBestMove 150 = .ok (.getfield 25, 3) := by decide +kernel
theorem dX3_findBestMove_153 : decode cX3_findBestMove 153 = .ok (.invokevirtual 215, 3) := by decide +kernel
theorem dX3_findBestMove_156 : decode cX3_findBestMove 156 = .ok (.invokevirtual 221, 3) := by decide +kernel
theorem dX3_findBestMove_159 : decode cX3_findBestMove 159 = .ok (.iinc 5 10, 3) := by decide +kernel
theorem dX3_findBestMove_162 : decode cX3_findBestMove 162 = .ok (.goto (-78), 3) := by decide +kernel
theorem dX3_findBestMove_165 : decode cX3_findBestMove 165 = .ok (.iinc 3 1, 3) := by decide +kernel
theorem dX3_findBestMove_168 : decode cX3_findBestMove 168 = .ok (.goto (-109), 3) := by decide +kernel
theorem dX3_findBestMove_171 : decode cX3_findBestMove 171 = .ok (.iinc 2 1, 3) := by decide +kernel
theorem dX3_findBestMove_174 : decode cX3_findBestMove 174 = .ok (.goto (-128), 3) := by decide +kernel
theorem dX3_findBestMove_177 : decode cX3_findBestMove 177 = .ok (.return_, 1) := by decide +kernel
end
section
set_option maxRecDepth 20000 in
theorem ggX4_init_X4_clear : GoodIn wsX4_init wsX4_clear := goodIn_r _ [15, 5, 6, 4, 7, 16, 17, 18, 19, 20, 21, 22, 23, 24, 25, 26] (by decide +kernel) (by decide +kernel)
set_option maxRecDepth 20000 in
theorem gX4_init_X4_clear : GoodIn wsX4_init (wsV RX4 28 RX4 yX4_clear wsX4_clear) := goodIn_app (goodIn_of _ (by decide +kernel)) ggX4_init_X4_clear
theorem dX4_init_0 : decode cX4_init 0 = .ok (.aload_n 0, 1) := by decide +kernel
theorem dX4_init_1 : decode cX4_init 1 = .ok (.invokespecial 1, 3) := by decide +kernel
theorem dX4_init_4 : decode cX4_init 4 = .ok (.aload_n 0, 1) := by decide +kernel
theorem dX4_init_5 : decode cX4_init 5 = .ok (.bipush 7, 2) := by decide +kernel
theorem dX4_init_7 : decode cX4_init 7 = .ok (.newarray .int, 2) := by decide +kernel
theorem dX4_init_9 : decode cX4_init 9 = .ok (.putfield 9, 3) := by decide +kernel
theorem dX4_init_12 : decode cX4_init 12 = .ok (.aload_n 0, 1) := by decide +kernel
theorem dX4_init_13 : decode cX4_init 13 = .ok (.bipush 8, 2) := by decide +kernel
theorem dX4_init_15 : decode cX4_init 15 = .ok (.newarray .int, 2) := by decide +kernel
theorem dX4_init_17 : decode cX4_init 17 = .ok (.putfield 13, 3) := by decide +kernel
theorem dX4_init_20 : decode cX4_init 20 = .ok (.aload_n 0, 1) := by decide +kernel
theorem dX4_init_21 : decode cX4_init 21 = .ok (.sipush 768, 3) := by decide +kernel
theorem dX4_init_24 : decode cX4_init 24 = .ok (.newarray .int, 2) := by decide +kernel
theorem dX4_init_26 : decode cX4_init 26 = .ok (.putfield 16, 3) := by decide +kernel
theorem dX4_init_29 : decode cX4_init 29 = .ok (.aload_n 0, 1) := by decide +kernel
theorem dX4_init_30 : decode cX4_init 30 = .ok (.bipush 90, 2) := by decide +kernel
theorem dX4_init_32 : decode cX4_init 32 = .ok (.newarray .int, 2) := by decide +kernel
theorem dX4_init_34 : decode cX4_init 34 = .ok (.putfield 19, 3) := by decide +kernel
theorem dX4_init_37 : decode cX4_init 37 = .ok (.aload_n 0, 1) := by decide +kernel
theorem dX4_init_38 : decode cX4_init 38 = .ok (.bipush 7, 2) := by decide +kernel
theorem dX4_init_40 : decode cX4_init 40 = .ok (.newarray .int, 2) := by decide +kernel
theorem dX4_init_42 : decode cX4_init 42 = .ok (.putfield 22, 3) := by decide +kernel
theorem dX4_init_45 : decode cX4_init 45 = .ok (.aload_n 0, 1) := by decide +kernel
theorem dX4_init_46 : decode cX4_init 46 = .ok (.sipush 768, 3) := by decide +kernel
theorem dX4_init_49 : decode cX4_init 49 = .ok (.newarray .int, 2) := by decide +kernel
theorem dX4_init_51 : decode cX4_init 51 = .ok (.putfield 25, 3) := by decide +kernel
theorem dX4_init_54 : decode cX4_init 54 = .ok (.iconst 0, 1) := by decide +kernel
theorem dX4_init_55 : decode cX4_init 55 = .ok (.istore_n 1, 1) := by decide +kernel
theorem dX4_init_56 : decode cX4_init 56 = .ok (.iload_n 1, 1) := by decide +kernel
theorem dX4_init_57 : decode cX4_init 57 = .ok (.bipush 30, 2) := by decide +kernel
theorem dX4_init_59 : decode cX4_init 59 = .ok (.if_icmp .ge 32, 3) := by decide +kernel
theorem dX4_init_62 : decode cX4_init 62 = .ok (.aload_n 0, 1) := by decide +kernel
theorem dX4_init_63 : decode cX4_init 63 = .ok (.getfield 19, 3) := by decide +kernel
theorem dX4_init_66 : decode cX4_init 66 = .ok (.iconst 3, 1) := by decide +kernel
theorem dX4_init_67 : decode cX4_init 67 = .ok (.iload_n 1, 1) := by decide +kernel
theorem dX4_init_68 : decode cX4_init 68 = .ok (.imul, 1) := by decide +kernel
theorem dX4_init_69 : decode cX4_init 69 = .ok (.iconst 1, 1) := by decide +kernel
theorem dX4_init_70 : decode cX4_init 70 = .ok (.iadd, 1) := by decide +kernel
theorem dX4_init_71 : decode cX4_init 71 = .ok (.bipush 60, 2) := by decide +kernel
theorem dX4_init_73 : decode cX4_init 73 = .ok (.iastore, 1) := by decide +kernel
theorem dX4_init_74 : decode cX4_init 74 = .ok (.aload_n 0, 1) := by decide +kernel
theorem dX4_init_75 : decode cX4_init 75 = .ok (.getfield 19, 3) := by decide +kernel
theorem dX4_init_78 : decode cX4_init 78 = .ok (.iconst 3, 1) := by decide +kernel
theorem dX4_init_79 : decode cX4_init 79 = .ok (.iload_n 1, 1) := by decide +kernel
theorem dX4_init_80 : decode cX4_init 80 = .ok (.imul, 1) := by decide +kernel
theorem dX4_init_81 : decode cX4_init 81 = .ok (.iconst 2, 1) := by decide +kernel
theorem dX4_init_82 : decode cX4_init 82 = .ok (.iadd, 1) := by decide +kernel
theorem dX4_init_83 : decode cX4_init 83 = .ok (.iconst 3, 1) := by decide +kernel
theorem dX4_init_84 : decode cX4_init 84 = .ok (.iastore, 1) := by decide +kernel
theorem dX4_init_85 : decode cX4_init 85 = .ok (.iinc 1 1, 3) := by decide +kernel
theorem dX4_init_88 : decode cX4_init 88 = .ok (.goto (-32), 3) := by decide +kernel
theorem dX4_init_91 : decode cX4_init 91 = .ok (.aload_n 0, 1) := by decide +kernel
theorem dX4_init_92 : decode cX4_init 92 = .ok (.iconst 4, 1) := by decide +kernel
theorem dX4_init_93 : decode cX4_init 93 = .ok (.iconst 4, 1) := by decide +kernel
theorem dX4_init_94 : decode cX4_init 94 = .ok (.invokevirtual 28, 3) := by decide +kernel
theorem dX4_init_97 : decode cX4_init 97 = .ok (.return_, 1) := by decide +kernel
theorem dX4_clear_0 : decode cX4_clear 0 = .ok (.iconst 0, 1) := by decide +kernel
theorem dX4_clear_1 : decode cX4_clear 1 = .ok (.istore_n 3, 1) := by decide +kernel
theorem dX4_clear_2 : decode cX4_clear 2 = .ok (.iload_n 3, 1) := by decide +kernel
theorem dX4_clear_3 : decode cX4_clear 3 = .ok (.bipush 7, 2) := by decide +kernel
theorem dX4_clear_5 : decode cX4_clear 5 = .ok (.if_icmp .ge 16, 3) := by decide +kernel
theorem dX4_clear_8 : decode cX4_clear 8 = .ok (.aload_n 0, 1) := by decide +kernel
theorem dX4_clear_9 : decode cX4_clear 9 = .ok (.getfield 9, 3) := by decide +kernel
theorem dX4_clear_12 : decode cX4_clear 12 = .ok (.iload_n 3, 1) := by decide +kernel
theorem dX4_clear_13 : decode cX4_clear 13 = .ok (.iconst 0, 1) := by decide +kernel
theorem dX4_clear_14 : decode cX4_clear 14 = .ok (.iastore, 1) := by decide +kernel
theorem dX4_clear_15 : decode cX4_clear 15 = .ok (.iinc 3 1, 3) := by decide +kernel
theorem dX4_clear_18 : decode cX4_clear 18 = .ok (.goto (-16), 3) := by decide +kernel
theorem dX4_clear_21 : decode cX4_clear 21 = .ok (.aload_n 0, 1) := by decide +kernel
theorem dX4_clear_22 : decode cX4_clear 22 = .ok (.getfield 9, 3) := by decide +kernel
theorem dX4_clear_25 : decode cX4_clear 25 = .ok (.iconst 0, 1) := by decide +kernel
theorem dX4_clear_26 : decode cX4_clear 26 = .ok (.iload_n 1, 1) := by decide +kernel
theorem dX4_clear_27 : decode cX4_clear 27 = .ok (.iastore, 1) := by decide +kernel
theorem dX4_clear_28 : decode cX4_clear 28 = .ok (.aload_n 0, 1) := by decide +kernel
theorem dX4_clear_29 : decode cX4_clear 29 = .ok (.getfield 9, 3) := by decide +kernel
theorem dX4_clear_32 : decode cX4_clear 32 = .ok (.iconst 1, 1) := by decide +kernel
theorem dX4_clear_33 : decode cX4_clear 33 = .ok (.iload_n 2, 1) := by decide +kernel
theorem dX4_clear_34 : decode cX4_clear 34 = .ok (.iastore, 1) := by decide +kernel
theorem dX4_clear_35 : decode cX4_clear 35 = .ok (.iconst 0, 1) := by decide +kernel
theorem dX4_clear_36 : decode cX4_clear 36 = .ok (.istore_n 3, 1) := by decide +kernel
theorem dX4_clear_37 : decode cX4_clear 37 = .ok (.iload_n 3, 1) := by decide +kernel
theorem dX4_clear_38 : decode cX4_clear 38 = .ok (.bipush 8, 2) := by decide +kernel
theorem dX4_clear_40 : decode cX4_clear 40 = .ok (.if_icmp .ge 16, 3) := by decide +kernel
theorem dX4_clear_43 : decode cX4_clear 43 = .ok (.aload_n 0, 1) := by decide +kernel
theorem dX4_clear_44 : decode cX4_clear 44 = .ok (.getfield 13, 3) := by decide +kernel
theorem dX4_clear_47 : decode cX4_clear 47 = .ok (.iload_n 3, 1) := by decide +kernel
theorem dX4_clear_48 : decode cX4_clear 48 = .ok (.iconst 1, 1) := by decide +kernel
theorem dX4_clear_49 : decode cX4_clear 49 = .ok (.iastore, 1) := by decide +kernel
theorem dX4_clear_50 : decode cX4_clear 50 = .ok (.iinc 3 1, 3) := by decide +kernel
theorem dX4_clear_53 : decode cX4_clear 53 = .ok (.goto (-16), 3) := by decide +kernel
theorem dX4_clear_56 : decode cX4_clear 56 = .ok (.bipush 12, 2) := by decide +kernel
theorem dX4_clear_58 : decode cX4_clear 58 = .ok (.newarray .int, 2) := by decide +kernel
theorem dX4_clear_60 : decode cX4_clear 60 = .ok (.dup, 1) := by decide +kernel
theorem dX4_clear_61 : decode cX4_clear 61 = .ok (.iconst 0, 1) := by decide +kernel
theorem dX4_clear_62 : decode cX4_clear 62 = .ok (.iconst 0, 1) := by decide +kernel
theorem dX4_clear_63 : decode cX4_clear 63 = .ok (.iastore, 1) := by decide +kernel
theorem dX4_clear_64 : decode cX4_clear 64 = .ok (.dup, 1) := by decide +kernel
theorem dX4_clear_65 : decode cX4_clear 65 = .ok (.iconst 1, 1) := by decide +kernel
theorem dX4_clear_66 : decode cX4_clear 66 = .ok (.bipush 60, 2) := by decide +kernel
theorem dX4_clear_68 : decode cX4_clear 68 = .ok (.iastore, 1) := by decide +kernel
theorem dX4_clear_69 : decode cX4_clear 69 = .ok (.dup, 1) := by decide +kernel
theorem dX4_clear_70 : decode cX4_clear 70 = .ok (.iconst 2, 1) := by decide +kernel
theorem dX4_clear_71 : decode cX4_clear 71 = .ok (.iconst 2, 1) := by decide +kernel
theorem dX4_clear_72 : decode cX4_clear 72 = .ok (.iastore, 1) := by decide +kernel
theorem dX4_clear_73 : decode cX4_clear 73 = .ok (.dup, 1) := by decide +kernel
theorem dX4_clear_74 : decode cX4_clear 74 = .ok (.iconst 3, 1) := by decide +kernel
theorem dX4_clear_75 : decode cX4_clear 75 = .ok (.bipush 30, 2) := by decide +kernel
theorem dX4_clear_77 : decode cX4_clear 77 = .ok (.iastore, 1) := by decide +kernel
theorem dX4_clear_78 : decode cX4_clear 78 = .ok (.dup, 1) := by decide +kernel
theorem dX4_clear_79 : decode cX4_clear 79 = .ok (.iconst 4, 1) := by decide +kernel
theorem dX4_clear_80 : decode cX4_clear 80 = .ok (.iconst 0, 1) := by decide +kernel
theorem dX4_clear_81 : decode cX4_clear 81 = .ok (.iastore, 1) := by decide +kernel
theorem dX4_clear_82 : decode cX4_clear 82 = .ok (.dup, 1) := by decide +kernel
theorem dX4_clear_83 : decode cX4_clear 83 = .ok (.iconst 5, 1) := by decide +kernel
theorem dX4_clear_84 : decode cX4_clear 84 = .ok (.iconst 0, 1) := by decide +kernel
theorem dX4_clear_85 : decode cX4_clear 85 = .ok (.iastore, 1) := by decide +kernel
theorem dX4_clear_86 : decode cX4_clear 86 = .ok (.dup, 1) := by decide +kernel
theorem dX4_clear_87 : decode cX4_clear 87 = .ok (.bipush 6, 2) := by decide +kernel
theorem dX4_clear_89 : decode cX4_clear 89 = .ok (.iconst 0, 1) := by decide +kernel
theorem dX4_clear_90 : decode cX4_clear 90 = .ok (.iastore, 1) := by decide +kernel
theorem dX4_clear_91 : decode cX4_clear 91 = .ok (.dup, 1) := by decide +kernel
theorem dX4_clear_92 : decode cX4_clear 92 = .ok (.bipush 7, 2) := by decide +kernel
theorem dX4_clear_94 : decode cX4_clear 94 = .ok (.iconst 0, 1) := by decide +kernel
theorem dX4_clear_95 : decode cX4_clear 95 = .ok (.iastore, 1) := by decide +kernel
theorem dX4_clear_96 : decode cX4_clear 96 = .ok (.dup, 1) := by decide +kernel
theorem dX4_clear_97 : decode cX4_clear 97 = .ok (.bipush 8, 2) := by decide +kernel
theorem dX4_clear_99 : decode cX4_clear 99 = .ok (.iconst 0, 1) := by decide +kernel
theorem dX4_clear_100 : decode cX4_clear 100 = .ok (.iastore, 1) := by decide +kernel
theorem dX4_clear_101 : decode cX4_clear 101 = .ok (.dup, 1) := by decide +kernel
theorem dX4_clear_102 : decode cX4_clear 102 = .ok (.bipush 9, 2) := by decide +kernel
theorem dX4_clear_104 : decode cX4_clear 104 = .ok (.iconst 0, 1) := by decide +kernel
theorem dX4_clear_105 : decode cX4_clear 105 = .ok (.iastore, 1) := by decide +kernel
theorem dX4_clear_106 : decode cX4_clear 106 = .ok (.dup, 1) := by decide +kernel
theorem dX4_clear_107 : decode cX4_clear 107 = .ok (.bipush 10, 2) := by decide +kernel
theorem dX4_clear_109 : decode cX4_clear 109 = .ok (.iconst 0, 1) := by decide +kernel
theorem dX4_clear_110 : decode cX4_clear 110 = .ok (.iastore, 1) := by decide +kernel
theorem dX4_clear_111 : decode cX4_clear 111 = .ok (.dup, 1) := by decide +kernel
theorem dX4_clear_112 : decode cX4_clear 112 = .ok (.bipush 11, 2) := by decide +kernel
theorem dX4_clear_114 : decode cX4_clear 114 = .ok (.iconst 0, 1) := by decide +kernel
theorem dX4_clear_115 : decode cX4_clear 115 = .ok (.iastore, 1) := by decide +kernel
theorem dX4_clear_116 : decode cX4_clear 116 = .ok (.astore_n 3, 1) := by decide +kernel
theorem dX4_clear_117 : decode cX4_clear 117 = .ok (.iconst 0, 1) := by decide +kernel
theorem dX4_clear_118 : decode cX4_clear 118 = .ok (.istore 4, 2) := by decide +kernel
theorem dX4_clear_120 : decode cX4_clear 120 = .ok (.iload 4, 2) := by decide +kernel
theorem dX4_clear_122 : decode cX4_clear 122 = .ok (.bipush 64, 2) := by decide +kernel
theorem dX4_clear_124 : decode cX4_clear 124 = .ok (.if_icmp .ge 25, 3) := by decide +kernel
theorem dX4_clear_127 : decode cX4_clear 127 = .ok (.aload_n 3, 1) := by decide +kernel
theorem dX4_clear_128 : decode cX4_clear 128 = .ok (.iconst 0, 1) := by decide +kernel
theorem dX4_clear_129 : decode cX4_clear 129 = .ok (.aload_n 0, 1) := by decide +kernel
theorem dX4_clear_130 : decode cX4_clear 130 = .ok (.getfield 16, 3) := by decide +kernel
theorem dX4_clear_133 : decode cX4_clear 133 = .ok (.bipush 12, 2) := by decide +kernel
theorem dX4_clear_135 : decode cX4_clear 135 = .ok (.iload 4, 2) := by decide +kernel
theorem dX4_clear_137 : decode cX4_clear 137 = .ok (.imul, 1) := by decide +kernel
theorem dX4_clear_138 : decode cX4_clear 138 = .ok (.bipush 12, 2) := by decide +kernel
theorem dX4_clear_140 : decode cX4_clear 140 = .ok (.invokestatic 32, 3) := by decide +kernel
theorem dX4_clear_143 : decode cX4_clear 143 = .ok (.iinc 4 1, 3) := by decide +kernel
theorem dX4_clear_146 : decode cX4_clear 146 = .ok (.goto (-26), 3) := by decide +kernel
theorem dX4_clear_149 : decode cX4_clear 149 = .ok (.return_, 1) := by decide +kernel
theorem dX4_thrown_0 : decode cX4_thrown 0 = .ok (.aload_n 0, 1) := by decide +kernel
theorem dX4_thrown_1 : decode cX4_thrown 1 = .ok (.getfield 38, 3) := by decide +kernel
theorem dX4_thrown_4 : decode cX4_thrown 4 = .ok (.ireturn, 1) := by decide +kernel
theorem dX4_fail_0 : decode cX4_fail 0 = .ok (.aload_n 0, 1) := by decide +kernel
theorem dX4_fail_1 : decode cX4_fail 1 = .ok (.iload_n 1, 1) := by decide +kernel
theorem dX4_fail_2 : decode cX4_fail 2 = .ok (.putfield 38, 3) := by decide +kernel
theorem dX4_fail_5 : decode cX4_fail 5 = .ok (.iconst 0, 1) := by decide +kernel
theorem dX4_fail_6 : decode cX4_fail 6 = .ok (.ireturn, 1) := by decide +kernel
theorem dX4_isIn_0 : decode cX4_isIn 0 = .ok (.iload_n 0, 1) := by decide +kernel
theorem dX4_isIn_1 : decode cX4_isIn 1 = .ok (.iload_n 1, 1) := by decide +kernel
theorem dX4_isIn_2 : decode cX4_isIn 2 = .ok (.if_icmp .lt 12, 3) := by decide +kernel
theorem dX4_isIn_5 : decode cX4_isIn 5 = .ok (.iload_n 0, 1) := by decide +kernel
theorem dX4_isIn_6 : decode cX4_isIn 6 = .ok (.iload_n 2, 1) := by decide +kernel
theorem dX4_isIn_7 : decode cX4_isIn 7 = .ok (.if_icmp .gt 7, 3) := by decide +kernel
theorem dX4_isIn_10 : decode cX4_isIn 10 = .ok (.iconst 1, 1) := by decide +kernel
theorem dX4_isIn_11 : decode cX4_isIn 11 = .ok (.goto 4, 3) := by decide +kernel
theorem dX4_isIn_14 : decode cX4_isIn 14 = .ok (.iconst 0, 1) := by decide +kernel
theorem dX4_isIn_15 : decode cX4_isIn 15 = .ok (.ireturn, 1) := by decide +kernel
set_option maxRecDepth 20000 in
theorem ggX4_isField_X4_isIn : GoodIn wsX4_isField wsX4_isIn := goodIn_r _ [5] (by decide +kernel) (by decide +kernel)
set_option maxRecDepth 20000 in
theorem gX4_isField_X4_isIn : GoodIn wsX4_isField (va_wsS RX4 42 yX4_isIn wsX4_isIn) := goodIn_app (goodIn_of _ (by decide +kernel)) ggX4_isField_X4_isIn
theorem dX4_isField_0 : decode cX4_isField 0 = .ok (.iload_n 1, 1) := by decide +kernel
theorem dX4_isField_1 : decode cX4_isField 1 = .ok (.iconst 0, 1) := by decide +kernel
theorem dX4_isField_2 : decode cX4_isField 2 = .ok (.aload_n 0, 1) := by decide +kernel
theorem dX4_isField_3 : decode cX4_isField 3 = .ok (.getfield 9, 3) := by decide +kernel
theorem dX4_isField_6 : decode cX4_isField 6 = .ok (.iconst 0, 1) := by decide +kernel
theorem dX4_isField_7 : decode cX4_isField 7 = .ok (.iaload, 1) := by decide +kernel
theorem dX4_isField_8 : decode cX4_isField 8 = .ok (.iconst 1, 1) := by decide +kernel
theorem dX4_isField_9 : decode cX4_isField 9 = .ok (.isub, 1) := by decide +kernel
theorem dX4_isField_10 : decode cX4_isField 10 = .ok (.invokestatic 42, 3) := by decide +kernel
theorem dX4_isField_13 : decode cX4_isField 13 = .ok (.ifCond .eq 23, 3) := by decide +kernel
theorem dX4_isField_16 : decode cX4_isField 16 = .ok (.iload_n 2, 1) := by decide +kernel
theorem dX4_isField_17 : decode cX4_isField 17 = .ok (.iconst 0, 1) := by decide +kernel
theorem dX4_isField_18 : decode cX4_isField 18 = .ok (.aload_n 0, 1) := by decide +kernel
theorem dX4_isField_19 : decode cX4_isField 19 = .ok (.getfield 9, 3) := by decide +kernel
theorem dX4_isField_22 : decode cX4_isField 22 = .ok (.iconst 1, 1) := by decide +kernel
theorem dX4_isField_23 : decode cX4_isField 23 = .ok (.iaload, 1) := by decide +kernel
theorem dX4_isField_24 : decode cX4_isField 24 = .ok (.iconst 1, 1) := by decide +kernel
theorem dX4_isField_25 : decode cX4_isField 25 = .ok (.isub, 1) := by decide +kernel
theorem dX4_isField_26 : decode cX4_isField 26 = .ok (.invokestatic 42, 3) := by decide +kernel
theorem dX4_isField_29 : decode cX4_isField 29 = .ok (.ifCond .eq 7, 3) := by decide +kernel
theorem dX4_isField_32 : decode cX4_isField 32 = .ok (.iconst 1, 1) := by decide +kernel
theorem dX4_isField_33 : decode cX4_isField 33 = .ok (.goto 4, 3) := by decide +kernel
theorem dX4_isField_36 : decode cX4_isField 36 = .ok (.iconst 0, 1) := by decide +kernel
theorem dX4_isField_37 : decode cX4_isField 37 = .ok (.ireturn, 1) := by decide +kernel
theorem dX4_at_0 : decode cX4_at 0 = .ok (.bipush 12, 2) := by decide +kernel
theorem dX4_at_2 : decode cX4_at 2 = .ok (.aload_n 0, 1) := by decide +kernel
theorem dX4_at_3 : decode cX4_at 3 = .ok (.getfield 9, 3) := by decide +kernel
theorem dX4_at_6 : decode cX4_at 6 = .ok (.iconst 1, 1) := by decide +kernel
theorem dX4_at_7 : decode cX4_at 7 = .ok (.iaload, 1) := by decide +kernel
theorem dX4_at_8 : decode cX4_at 8 = .ok (.iload_n 1, 1) := by decide +kernel
theorem dX4_at_9 : decode cX4_at 9 = .ok (.imul, 1) := by decide +kernel
theorem dX4_at_10 : decode cX4_at 10 = .ok (.iload_n 2, 1) := by decide +kernel
theorem dX4_at_11 : decode cX4_at 11 = .ok (.iadd, 1) := by decide +kernel
theorem dX4_at_12 : decode cX4_at 12 = .ok (.imul, 1) := by decide +kernel
theorem dX4_at_13 : decode cX4_at 13 = .ok (.ireturn, 1) := by decide +kernel
theorem dX4_many_0 : decode cX4_many 0 = .ok (.aload_n 0, 1) := by decide +kernel
theorem dX4_many_1 : decode cX4_many 1 = .ok (.getfield 9, 3) := by decide +kernel
theorem dX4_many_4 : decode cX4_many 4 = .ok (.iconst 0, 1) := by decide +kernel
theorem dX4_many_5 : decode cX4_many 5 = .ok (.iaload, 1) := by decide +kernel
theorem dX4_many_6 : decode cX4_many 6 = .ok (.aload_n 0, 1) := by decide +kernel
theorem dX4_many_7 : decode cX4_many 7 = .ok (.getfield 9, 3) := by decide +kernel
theorem dX4_many_10 : decode cX4_many 10 = .ok (.iconst 1, 1) := by decide +kernel
theorem dX4_many_11 : decode cX4_many 11 = .ok (.iaload, 1) := by decide +kernel
theorem dX4_many_12 : decode cX4_many 12 = .ok (.imul, 1) := by decide +kernel
theorem dX4_many_13 : decode cX4_many 13 = .ok (.ireturn, 1) := by decide +kernel
set_option maxRecDepth 20000 in
theorem ggX4_lay_X4_isIn : GoodIn wsX4_lay wsX4_isIn := goodIn_r _ [5] (by decide +kernel) (by decide +kernel)
set_option maxRecDepth 20000 in
theorem gX4_lay_X4_isIn : GoodIn wsX4_lay (va_wsS RX4 42 yX4_isIn wsX4_isIn) := goodIn_app (goodIn_of _ (by decide +kernel)) ggX4_lay_X4_isIn
set_option maxRecDepth 20000 in
theorem ggX4_lay_X4_fail : GoodIn wsX4_lay wsX4_fail := goodIn_r _ [9, 1, 22, 23, 24, 25, 26, 27, 28] (by decide +kernel) (by decide +kernel)
set_option maxRecDepth 20000 in
theorem gX4_lay_X4_fail : GoodIn wsX4_lay (wsV RX4 46 RX4 yX4_fail wsX4_fail) := goodIn_app (goodIn_of _ (by decide +kernel)) ggX4_lay_X4_fail
set_option maxRecDepth 20000 in
theorem ggX4_lay_X4_clear : GoodIn wsX4_lay wsX4_clear := goodIn_r _ [13, 14, 15, 16, 17, 18, 19, 20, 21, 22, 23, 24, 25, 26, 27, 28] (by decide +kernel) (by decide +kernel)
set_option maxRecDepth 20000 in
theorem gX4_lay_X4_clear : GoodIn wsX4_lay (wsV RX4 28 RX4 yX4_clear wsX4_clear) := goodIn_app (goodIn_of _ (by decide +kernel)) ggX4_lay_X4_clear
theorem dX4_lay_0 : decode cX4_lay 0 = .ok (.aload_n 0, 1) := by decide +kernel
theorem dX4_lay_1 : decode cX4_lay 1 = .ok (.iconst 0, 1) := by decide +kernel
theorem dX4_lay_2 : decode cX4_lay 2 = .ok (.putfield 38, 3) := by decide +kernel
theorem dX4_lay_5 : decode cX4_lay 5 = .ok (.iload_n 1, 1) := by decide +kernel
theorem dX4_lay_6 : decode cX4_lay 6 = .ok (.iconst 2, 1) := by decide +kernel
theorem dX4_lay_7 : decode cX4_lay 7 = .ok (.bipush 8, 2) := by decide +kernel
theorem dX4_lay_9 : decode cX4_lay 9 = .ok (.invokestatic 42, 3) := by decide +kernel
theorem dX4_lay_12 : decode cX4_lay 12 = .ok (.ifCond .eq 13, 3) := by decide +kernel
theorem dX4_lay_15 : decode cX4_lay 15 = .ok (.iload_n 2, 1) := by decide +kernel
theorem dX4_lay_16 : decode cX4_lay 16 = .ok (.iconst 2, 1) := by decide +kernel
theorem dX4_lay_17 : decode cX4_lay 17 = .ok (.bipush 8, 2) := by decide +kernel
theorem dX4_lay_19 : decode cX4_lay 19 = .ok (.invokestatic 42, 3) := by decide +kernel
theorem dX4_lay_22 : decode cX4_lay 22 = .ok (.ifCond .ne 9, 3) := by decide +kernel
theorem dX4_lay_25 : decode cX4_lay 25 = .ok (.aload_n 0, 1) := by decide +kernel
theorem dX4_lay_26 : decode cX4_lay 26 = .ok (.iconst 1, 1) := by decide +kernel
theorem dX4_lay_27 : decode cX4_lay 27 = .ok (.invokevirtual 46, 3) := by decide +kernel
theorem dX4_lay_30 : decode cX4_lay 30 = .ok (.ireturn, 1) := by decide +kernel
theorem dX4_lay_31 : decode cX4_lay 31 = .ok (.aload_n 0, 1) := by decide +kernel
theorem dX4_lay_32 : decode cX4_lay 32 = .ok (.iload_n 1, 1) := by decide +kernel
theorem dX4_lay_33 : decode cX4_lay 33 = .ok (.iload_n 2, 1) := by decide +kernel
theorem dX4_lay_34 : decode cX4_lay 34 = .ok (.invokevirtual 28, 3) := by decide +kernel
theorem dX4_lay_37 : decode cX4_lay 37 = .ok (.iload_n 1, 1) := by decide +kernel
theorem dX4_lay_38 : decode cX4_lay 38 = .ok (.iload_n 2, 1) := by decide +kernel
theorem dX4_lay_39 : decode cX4_lay 39 = .ok (.imul, 1) := by decide +kernel
theorem dX4_lay_40 : decode cX4_lay 40 = .ok (.ireturn, 1) := by decide +kernel
theorem dX4_set_0 : decode cX4_set 0 = .ok (.aload_n 0, 1) := by decide +kernel
theorem dX4_set_1 : decode cX4_set 1 = .ok (.getfield 16, 3) := by decide +kernel
theorem dX4_set_4 : decode cX4_set 4 = .ok (.iload_n 1, 1) := by decide +kernel
theorem dX4_set_5 : decode cX4_set 5 = .ok (.iaload, 1) := by decide +kernel
theorem dX4_set_6 : decode cX4_set 6 = .ok (.istore_n 3, 1) := by decide +kernel
theorem dX4_set_7 : decode cX4_set 7 = .ok (.aload_n 0, 1) := by decide +kernel
theorem dX4_set_8 : decode cX4_set 8 = .ok (.getfield 16, 3) := by decide +kernel
theorem dX4_set_11 : decode cX4_set 11 = .ok (.iload_n 1, 1) := by decide +kernel
theorem dX4_set_12 : decode cX4_set 12 = .ok (.iload_n 2, 1) := by decide +kernel
theorem dX4_set_13 : decode cX4_set 13 = .ok (.iastore, 1) := by decide +kernel
theorem dX4_set_14 : decode cX4_set 14 = .ok (.iload_n 3, 1) := by decide +kernel
theorem dX4_set_15 : decode cX4_set 15 = .ok (.ireturn, 1) := by decide +kernel
set_option maxRecDepth 20000 in
theorem ggX4_setField_X4_isField : GoodIn wsX4_setField wsX4_isField := goodIn_r _ [11, 12, 13, 14, 10, 15, 28, 29, 30, 31, 32, 33, 34] (by decide +kernel) (by decide +kernel)
set_option maxRecDepth 20000 in
theorem gX4_setField_X4_isField : GoodIn wsX4_setField (wsV RX4 50 RX4 yX4_isField wsX4_isField) := goodIn_app (goodIn_of _ (by decide +kernel)) ggX4_setField_X4_isField
set_option maxRecDepth 20000 in
theorem ggX4_setField_X4_fail : GoodIn wsX4_setField wsX4_fail := goodIn_r _ [19, 1, 28, 29, 30, 31, 32, 33, 34] (by decide +kernel) (by decide +kernel)
set_option maxRecDepth 20000 in
theorem gX4_setField_X4_fail : GoodIn wsX4_setField (wsV RX4 46 RX4 yX4_fail wsX4_fail) := goodIn_app (goodIn_of _ (by decide +kernel)) ggX4_setField_X4_fail
set_option maxRecDepth 20000 in
theorem ggX4_setField_X4_isIn : GoodIn wsX4_setField wsX4_isIn := goodIn_r _ [15] (by decide +kernel) (by decide +kernel)
set_option maxRecDepth 20000 in
theorem gX4_setField_X4_isIn : GoodIn wsX4_setField (va_wsS RX4 42 yX4_isIn wsX4_isIn) := goodIn_app (goodIn_of _ (by decide +kernel)) ggX4_setField_X4_isIn
set_option maxRecDepth 20000 in
theorem ggX4_setField_X4_at : GoodIn wsX4_setField wsX4_at := goodIn_r _ [23, 12, 28, 29, 30, 31, 32, 33, 34] (by decide +kernel) (by decide +kernel)
set_option maxRecDepth 20000 in
theorem gX4_setField_X4_at : GoodIn wsX4_setField (wsV RX4 54 RX4 yX4_at wsX4_at) := goodIn_app (goodIn_of _ (by decide +kernel)) ggX4_setField_X4_at
set_option maxRecDepth 20000 in
theorem ggX4_setField_X4_set : GoodIn wsX4_setField wsX4_set := goodIn_r _ [27, 2, 28, 29, 30, 31, 32, 33, 34] (by decide +kernel) (by decide +kernel)
set_option maxRecDepth 20000 in
theorem gX4_setField_X4_set : GoodIn wsX4_setField (wsV RX4 63 RX4 yX4_set wsX4_set) := goodIn_app (goodIn_of _ (by decide +kernel)) ggX4_setField_X4_set
theorem dX4_setField_0 : decode cX4_setField 0 = .ok (.aload_n 0, 1) := by decide +kernel
theorem dX4_setField_1 : decode cX4_setField 1 = .ok (.iconst 0, 1) := by decide +kernel
theorem dX4_setField_2 : decode cX4_setField 2 = .ok (.putfield 38, 3) := by decide +kernel
theorem dX4_setField_5 : decode cX4_setField 5 = .ok (.aload_n 0, 1) := by decide +kernel
theorem dX4_setField_6 : decode cX4_setField 6 = .ok (.iload_n 1, 1) := by decide +kernel
theorem dX4_setField_7 : decode cX4_setField 7 = .ok (.iload_n 2, 1) := by decide +kernel
theorem dX4_setField_8 : decode cX4_setField 8 = .ok (.invokevirtual 50, 3) := by decide +kernel
theorem dX4_setField_11 : decode cX4_setField 11 = .ok (.ifCond .ne 9, 3) := by decide +kernel
theorem dX4_setField_14 : decode cX4_setField 14 = .ok (.aload_n 0, 1) := by decide +kernel
theorem dX4_setField_15 : decode cX4_setField 15 = .ok (.iconst 1, 1) := by decide +kernel
theorem dX4_setField_16 : decode cX4_setField 16 = .ok (.invokevirtual 46, 3) := by decide +kernel
theorem dX4_setField_19 : decode cX4_setField 19 = .ok (.ireturn, 1) := by decide +kernel
theorem dX4_setField_20 : decode cX4_setField 20 = .ok (.iload_n 3, 1) := by decide +kernel
theorem dX4_setField_21 : decode cX4_setField 21 = .ok (.bipush 20, 2) := by decide +kernel
theorem dX4_setField_23 : decode cX4_setField 23 = .ok (.bipush 120, 2) := by decide +kernel
theorem dX4_setField_25 : decode cX4_setField 25 = .ok (.invokestatic 42, 3) := by decide +kernel
theorem dX4_setField_28 : decode cX4_setField 28 = .ok (.ifCond .eq 14, 3) := by decide +kernel
theorem dX4_setField_31 : decode cX4_setField 31 = .ok (.iload 4, 2) := by decide +kernel
theorem dX4_setField_33 : decode cX4_setField 33 = .ok (.iconst 0, 1) := by decide +kernel
theorem dX4_setField_34 : decode cX4_setField 34 = .ok (.bipush 9, 2) := by decide +kernel
theorem dX4_setField_36 : decode cX4_setField 36 = .ok (.invokestatic 42, 3) := by decide +kernel
theorem dX4_setField_39 : decode cX4_setField 39 = .ok (.ifCond .ne 9, 3) := by decide +kernel
theorem dX4_setField_42 : decode cX4_setField 42 = .ok (.aload_n 0, 1) := by decide +kernel
theorem dX4_setField_43 : decode cX4_setField 43 = .ok (.iconst 2, 1) := by decide +kernel
theorem dX4_setField_44 : decode cX4_setField 44 = .ok (.invokevirtual 46, 3) := by decide +kernel
theorem dX4_setField_47 : decode cX4_setField 47 = .ok (.ireturn, 1) := by decide +kernel
theorem dX4_setField_48 : decode cX4_setField 48 = .ok (.aload_n 0, 1) := by decide +kernel
theorem dX4_setField_49 : decode cX4_setField 49 = .ok (.iload_n 1, 1) := by decide +kernel
theorem dX4_setField_50 : decode cX4_setField 50 = .ok (.iload_n 2, 1) := by decide +kernel
theorem dX4_setField_51 : decode cX4_setField 51 = .ok (.invokevirtual 54, 3) := by decide +kernel
theorem dX4_setField_54 : decode cX4_setField 54 = .ok (.istore 5, 2) := by decide +kernel
theorem dX4_setField_56 : decode cX4_setField 56 = .ok (.aload_n 0, 1) := by decide +kernel
theorem dX4_setField_57 : decode cX4_setField 57 = .ok (.getfield 16, 3) := by decide +kernel
theorem dX4_setField_60 : decode cX4_setField 60 = .ok (.iload 5, 2) := by decide +kernel
theorem dX4_setField_62 : decode cX4_setField 62 = .ok (.iconst 2, 1) := by decide +kernel
theorem dX4_setField_63 : decode cX4_setField 63 = .ok (.iadd, 1) := by decide +kernel
theorem dX4_setField_64 : decode cX4_setField 64 = .ok (.iload 4, 2) := by decide +kernel
theorem dX4_setField_66 : decode cX4_setField 66 = .ok (.iastore, 1) := by decide +kernel
theorem dX4_setField_67 : decode cX4_setField 67 = .ok (.aload_n 0, 1) := by decide +kernel
theorem dX4_setField_68 : decode cX4_setField 68 = .ok (.getfield 16, 3) := by decide +kernel
theorem dX4_setField_71 : decode cX4_setField 71 = .ok (.iload 5, 2) := by decide +kernel
theorem dX4_setField_73 : decode cX4_setField 73 = .ok (.iconst 3, 1) := by decide +kernel
theorem dX4_setField_74 : decode cX4_setField 74 = .ok (.iadd, 1) := by decide +kernel
theorem dX4_setField_75 : decode cX4_setField 75 = .ok (.iload_n 3, 1) := by decide +kernel
theorem dX4_setField_76 : decode cX4_setField 76 = .ok (.aload_n 0, 1) := by decide +kernel
theorem dX4_setField_77 : decode cX4_setField 77 = .ok (.getfield 16, 3) := by decide +kernel
theorem dX4_setField_80 : decode cX4_setField 80 = .ok (.iload 5, 2) := by decide +kernel
theorem dX4_setField_82 : decode cX4_setField 82 = .ok (.iconst 3, 1) := by decide +kernel
theorem dX4_setField_83 : decode cX4_setField 83 = .ok (.iadd, 1) := by decide +kernel
theorem dX4_setField_84 : decode cX4_setField 84 = .ok (.iaload, 1) := by decide +kernel
theorem dX4_setField_85 : decode cX4_setField 85 = .ok (.invokestatic 58, 3) := by decide +kernel
theorem dX4_setField_88 : decode cX4_setField 88 = .ok (.iastore, 1) := by decide +kernel
theorem dX4_setField_89 : decode cX4_setField 89 = .ok (.aload_n 0, 1) := by decide +kernel
theorem dX4_setField_90 : decode cX4_setField 90 = .ok (.iload 5, 2) := by decide +kernel
theorem dX4_setField_92 : decode cX4_setField 92 = .ok (.iconst 1, 1) := by decide +kernel
theorem dX4_setField_93 : decode cX4_setField 93 = .ok (.iadd, 1) := by decide +kernel
theorem dX4_setField_94 : decode cX4_setField 94 = .ok (.iload_n 3, 1) := by decide +kernel
theorem dX4_setField_95 : decode cX4_setField 95 = .ok (.invokevirtual 63, 3) := by decide +kernel
theorem dX4_setField_98 : decode cX4_setField 98 = .ok (.ireturn, 1) := by decide +kernel
set_option maxRecDepth 20000 in
theorem ggX4_moveStone_X4_isField : GoodIn wsX4_moveStone wsX4_isField := goodIn_r _ [12, 3, 13, 14, 11, 15, 28, 29, 30, 31, 32, 33, 34] (by decide +kernel) (by decide +kernel)
set_option maxRecDepth 20000 in
theorem gX4_moveStone_X4_isField : GoodIn wsX4_moveStone (wsV RX4 50 RX4 yX4_isField wsX4_isField) := goodIn_app (goodIn_of _ (by decide +kernel)) ggX4_moveStone_X4_isField
set_option maxRecDepth 20000 in
theorem ggX4_moveStone_X4_fail : GoodIn wsX4_moveStone wsX4_fail := goodIn_r _ [19, 1, 28, 29, 30, 31, 32, 33, 34] (by decide +kernel) (by decide +kernel)
set_option maxRecDepth 20000 in
theorem gX4_moveStone_X4_fail : GoodIn wsX4_moveStone (wsV RX4 46 RX4 yX4_fail wsX4_fail) := goodIn_app (goodIn_of _ (by decide +kernel)) ggX4_moveStone_X4_fail
set_option maxRecDepth 20000 in
theorem ggX4_moveStone_X4_at : GoodIn wsX4_moveStone wsX4_at := goodIn_r _ [23, 3, 28, 29, 30, 31, 32, 33, 34] (by decide +kernel) (by decide +kernel)
set_option maxRecDepth 20000 in
theorem gX4_moveStone_X4_at : GoodIn wsX4_moveStone (wsV RX4 54 RX4 yX4_at wsX4_at) := goodIn_app (goodIn_of _ (by decide +kernel)) ggX4_moveStone_X4_at
set_option maxRecDepth 20000 in
theorem ggX4_moveStone_X4_isIn : GoodIn wsX4_moveStone wsX4_isIn := goodIn_r _ [15] (by decide +kernel) (by decide +kernel)
set_option maxRecDepth 20000 in
theorem gX4_moveStone_X4_isIn : GoodIn wsX4_moveStone (va_wsS RX4 42 yX4_isIn wsX4_isIn) := goodIn_app (goodIn_of _ (by decide +kernel)) ggX4_moveStone_X4_isIn
set_option maxRecDepth 20000 in
theorem ggX4_moveStone_X4_set : GoodIn wsX4_moveStone wsX4_set := goodIn_r _ [27, 2, 28, 29, 30, 31, 32, 33, 34] (by decide +kernel) (by decide +kernel)
set_option maxRecDepth 20000 in
theorem gX4_moveStone_X4_set : GoodIn wsX4_moveStone (wsV RX4 63 RX4 yX4_set wsX4_set) := goodIn_app (goodIn_of _ (by decide +kernel)) ggX4_moveStone_X4_set
theorem dX4_moveStone_0 : decode cX4_moveStone 0 = .ok (.aload_n 0, 1) := by decide +kernel
theorem dX4_moveStone_1 : decode cX4_moveStone 1 = .ok (.iconst 0, 1) := by decide +kernel
theorem dX4_moveStone_2 : decode cX4_moveStone 2 = .ok (.putfield 38, 3) := by decide +kernel
theorem dX4_moveStone_5 : decode cX4_moveStone 5 = .ok (.aload_n 0, 1) := by decide +kernel
theorem dX4_moveStone_6 : decode cX4_moveStone 6 = .ok (.iload_n 1, 1) := by decide +kernel
theorem dX4_moveStone_7 : decode cX4_moveStone 7 = .ok (.iload_n 2, 1) := by decide +kernel
theorem dX4_moveStone_8 : decode cX4_moveStone 8 = .ok (.invokevirtual 50, 3) := by decide +kernel
theorem dX4_moveStone_11 : decode cX4_moveStone 11 = .ok (.ifCond .ne 9, 3) := by decide +kernel
theorem dX4_moveStone_14 : decode cX4_moveStone 14 = .ok (.aload_n 0, 1) := by decide +kernel
theorem dX4_moveStone_15 : decode cX4_moveStone 15 = .ok (.iconst 1, 1) := by decide +kernel
theorem dX4_moveStone_16 : decode cX4_moveStone 16 = .ok (.invokevirtual 46, 3) := by decide +kernel
theorem dX4_moveStone_19 : decode cX4_moveStone 19 = .ok (.ireturn, 1) := by decide +kernel
theorem dX4_moveStone_20 : decode cX4_moveStone 20 = .ok (.iload_n 3, 1) := by decide +kernel
theorem dX4_moveStone_21 : decode cX4_moveStone 21 = .ok (.iconst 0, 1) := by decide +kernel
theorem dX4_moveStone_22 : decode cX4_moveStone 22 = .ok (.aload_n 0, 1) := by decide +kernel
theorem dX4_moveStone_23 : decode cX4_moveStone 23 = .ok (.getfield 16, 3) := by decide +kernel
theorem dX4_moveStone_26 : decode cX4_moveStone 26 = .ok (.aload_n 0, 1) := by decide +kernel
theorem dX4_moveStone_27 : decode cX4_moveStone 27 = .ok (.iload_n 1, 1) := by decide +kernel
theorem dX4_moveStone_28 : decode cX4_moveStone 28 = .ok (.iload_n 2, 1) := by decide +kernel
theorem dX4_moveStone_29 : decode cX4_moveStone 29 = .ok (.invokevirtual 54, 3) := by decide +kernel
theorem dX4_moveStone_32 : decode cX4_moveStone 32 = .ok (.iconst 1, 1) := by decide +kernel
theorem dX4_moveStone_33 : decode cX4_moveStone 33 = .ok (.iadd, 1) := by decide +kernel
theorem dX4_moveStone_34 : decode cX4_moveStone 34 = .ok (.iaload, 1) := by decide +kernel
theorem dX4_moveStone_35 : decode cX4_moveStone 35 = .ok (.invokestatic 42, 3) := by decide +kernel
theorem dX4_moveStone_38 : decode cX4_moveStone 38 = .ok (.ifCond .ne 9, 3) := by decide +kernel
theorem dX4_moveStone_41 : decode cX4_moveStone 41 = .ok (.aload_n 0, 1) := by decide +kernel
theorem dX4_moveStone_42 : decode cX4_moveStone 42 = .ok (.iconst 2, 1) := by decide +kernel
theorem dX4_moveStone_43 : decode cX4_moveStone 43 = .ok (.invokevirtual 46, 3) := by decide +kernel
theorem dX4_moveStone_46 : decode cX4_moveStone 46 = .ok (.ireturn, 1) := by decide +kernel
theorem dX4_moveStone_47 : decode cX4_moveStone 47 = .ok (.iload_n 3, 1) := by decide +kernel
theorem dX4_moveStone_48 : decode cX4_moveStone 48 = .ok (.aload_n 0, 1) := by decide +kernel
theorem dX4_moveStone_49 : decode cX4_moveStone 49 = .ok (.aload_n 0, 1) := by decide +kernel
theorem dX4_moveStone_50 : decode cX4_moveStone 50 = .ok (.iload_n 1, 1) := by decide +kernel
theorem dX4_moveStone_51 : decode cX4_moveStone 51 = .ok (.iload_n 2, 1) := by decide +kernel
theorem dX4_moveStone_52 : decode cX4_moveStone 52 = .ok (.invokevirtual 54, 3) := by decide +kernel
theorem dX4_moveStone_55 : decode cX4_moveStone 55 = .ok (.iconst 3, 1) := by decide +kernel
theorem dX4_moveStone_56 : decode cX4_moveStone 56 = .ok (.iadd, 1) := by decide +kernel
theorem dX4_moveStone_57 : decode cX4_moveStone 57 = .ok (.iload_n 3, 1) := by decide +kernel
theorem dX4_moveStone_58 : decode cX4_moveStone 58 = .ok (.invokevirtual 63, 3) := by decide +kernel
theorem dX4_moveStone_61 : decode cX4_moveStone 61 = .ok (.isub, 1) := by decide +kernel
theorem dX4_moveStone_62 : decode cX4_moveStone 62 = .ok (.istore 4, 2) := by decide +kernel
theorem dX4_moveStone_64 : decode cX4_moveStone 64 = .ok (.aload_n 0, 1) := by decide +kernel
theorem dX4_moveStone_65 : decode cX4_moveStone 65 = .ok (.getfield 9, 3) := by decide +kernel
theorem dX4_moveStone_68 : decode cX4_moveStone 68 = .ok (.bipush 6, 2) := by decide +kernel
theorem dX4_moveStone_70 : decode cX4_moveStone 70 = .ok (.dup2, 1) := by decide +kernel
theorem dX4_moveStone_71 : decode cX4_moveStone 71 = .ok (.iaload, 1) := by decide +kernel
theorem dX4_moveStone_72 : decode cX4_moveStone 72 = .ok (.iload 4, 2) := by decide +kernel
theorem dX4_moveStone_74 : decode cX4_moveStone 74 = .ok (.invokestatic 66, 3) := by decide +kernel
theorem dX4_moveStone_77 : decode cX4_moveStone 77 = .ok (.iadd, 1) := by decide +kernel
theorem dX4_moveStone_78 : decode cX4_moveStone 78 = .ok (.iastore, 1) := by decide +kernel
theorem dX4_moveStone_79 : decode cX4_moveStone 79 = .ok (.iload 4, 2) := by decide +kernel
theorem dX4_moveStone_81 : decode cX4_moveStone 81 = .ok (.ireturn, 1) := by decide +kernel
set_option maxRecDepth 20000 in
theorem ggX4_turn_X4_isField : GoodIn wsX4_turn wsX4_isField := goodIn_r _ [6, 7, 8, 9, 5, 10, 24, 25, 26, 27, 28, 29, 30] (by decide +kernel) (by decide +kernel)
set_option maxRecDepth 20000 in
theorem gX4_turn_X4_isField : GoodIn wsX4_turn (wsV RX4 50 RX4 yX4_isField wsX4_isField) := goodIn_app (goodIn_of _ (by decide +kernel)) ggX4_turn_X4_isField
set_option maxRecDepth 20000 in
theorem ggX4_turn_X4_fail : GoodIn wsX4_turn wsX4_fail := goodIn_r _ [14, 1, 24, 25, 26, 27, 28, 29, 30] (by decide +kernel) (by decide +kernel)
set_option maxRecDepth 20000 in
theorem gX4_turn_X4_fail : GoodIn wsX4_turn (wsV RX4 46 RX4 yX4_fail wsX4_fail) := goodIn_app (goodIn_of _ (by decide +kernel)) ggX4_turn_X4_fail
set_option maxRecDepth 20000 in
theorem ggX4_turn_X4_isIn : GoodIn wsX4_turn wsX4_isIn := goodIn_r _ [10] (by decide +kernel) (by decide +kernel)
set_option maxRecDepth 20000 in
theorem gX4_turn_X4_isIn : GoodIn wsX4_turn (va_wsS RX4 42 yX4_isIn wsX4_isIn) := goodIn_app (goodIn_of _ (by decide +kernel)) ggX4_turn_X4_isIn
set_option maxRecDepth 20000 in
theorem ggX4_turn_X4_at : GoodIn wsX4_turn wsX4_at := goodIn_r _ [18, 7, 24, 25, 26, 27, 28, 29, 30] (by decide +kernel) (by decide +kernel)
set_option maxRecDepth 20000 in
theorem gX4_turn_X4_at : GoodIn wsX4_turn (wsV RX4 54 RX4 yX4_at wsX4_at) := goodIn_app (goodIn_of _ (by decide +kernel)) ggX4_turn_X4_at
set_option maxRecDepth 20000 in
theorem ggX4_turn_X4_set : GoodIn wsX4_turn wsX4_set := goodIn_r _ [22, 23, 24, 25, 26, 27, 28, 29, 30] (by decide +kernel) (by decide +kernel)
set_option maxRecDepth 20000 in
theorem gX4_turn_X4_set : GoodIn wsX4_turn (wsV RX4 63 RX4 yX4_set wsX4_set) := goodIn_app (goodIn_of _ (by decide +kernel)) ggX4_turn_X4_set
theorem dX4_turn_0 : decode cX4_turn 0 = .ok (.aload_n 0, 1) := by decide +kernel
theorem dX4_turn_1 : decode cX4_turn 1 = .ok (.iconst 0, 1) := by decide +kernel
theorem dX4_turn_2 : decode cX4_turn 2 = .ok (.putfield 38, 3) := by decide +kernel
theorem dX4_turn_5 : decode cX4_turn 5 = .ok (.aload_n 0, 1) := by decide +kernel
theorem dX4_turn_6 : decode cX4_turn 6 = .ok (.iload_n 1, 1) := by decide +kernel
theorem dX4_turn_7 : decode cX4_turn 7 = .ok (.iload_n 2, 1) := by decide +kernel
theorem dX4_turn_8 : decode cX4_turn 8 = .ok (.invokevirtual 50, 3) := by decide +kernel
theorem dX4_turn_11 : decode cX4_turn 11 = .ok (.ifCond .ne 9, 3) := by decide +kernel
theorem dX4_turn_14 : decode cX4_turn 14 = .ok (.aload_n 0, 1) := by decide +kernel
theorem dX4_turn_15 : decode cX4_turn 15 = .ok (.iconst 1, 1) := by decide +kernel
theorem dX4_turn_16 : decode cX4_turn 16 = .ok (.invokevirtual 46, 3) := by decide +kernel
end
section
theorem dX4_turn_19 : decode cX4_turn 19 = .ok (.ireturn, 1) := by decide +kernel
theorem dX4_turn_20 : decode cX4_turn 20 = .ok (.iload_n 3, 1) := by decide +kernel
theorem dX4_turn_21 : decode cX4_turn 21 = .ok (.iconst (-1), 1) := by decide +kernel
theorem dX4_turn_22 : decode cX4_turn 22 = .ok (.iconst 1, 1) := by decide +kernel
theorem dX4_turn_23 : decode cX4_turn 23 = .ok (.invokestatic 42, 3) := by decide +kernel
theorem dX4_turn_26 : decode cX4_turn 26 = .ok (.ifCond .eq 19, 3) := by decide +kernel
theorem dX4_turn_29 : decode cX4_turn 29 = .ok (.aload_n 0, 1) := by decide +kernel
theorem dX4_turn_30 : decode cX4_turn 30 = .ok (.aload_n 0, 1) := by decide +kernel
theorem dX4_turn_31 : decode cX4_turn 31 = .ok (.iload_n 1, 1) := by decide +kernel
theorem dX4_turn_32 : decode cX4_turn 32 = .ok (.iload_n 2, 1) := by decide +kernel
theorem dX4_turn_33 : decode cX4_turn 33 = .ok (.invokevirtual 54, 3) := by decide +kernel
theorem dX4_turn_36 : decode cX4_turn 36 = .ok (.iconst 4, 1) := by decide +kernel
theorem dX4_turn_37 : decode cX4_turn 37 = .ok (.iadd, 1) := by decide +kernel
theorem dX4_turn_38 : decode cX4_turn 38 = .ok (.iload_n 3, 1) := by decide +kernel
theorem dX4_turn_39 : decode cX4_turn 39 = .ok (.invokevirtual 63, 3) := by decide +kernel
theorem dX4_turn_42 : decode cX4_turn 42 = .ok (.goto 8, 3) := by decide +kernel
theorem dX4_turn_45 : decode cX4_turn 45 = .ok (.aload_n 0, 1) := by decide +kernel
theorem dX4_turn_46 : decode cX4_turn 46 = .ok (.iconst 2, 1) := by decide +kernel
theorem dX4_turn_47 : decode cX4_turn 47 = .ok (.invokevirtual 46, 3) := by decide +kernel
theorem dX4_turn_50 : decode cX4_turn 50 = .ok (.ireturn, 1) := by decide +kernel
set_option maxRecDepth 20000 in
theorem ggX4_setShare_X4_isIn : GoodIn wsX4_setShare wsX4_isIn := goodIn_r _ [7] (by decide +kernel) (by decide +kernel)
set_option maxRecDepth 20000 in
theorem gX4_setShare_X4_isIn : GoodIn wsX4_setShare (va_wsS RX4 42 yX4_isIn wsX4_isIn) := goodIn_app (goodIn_of _ (by decide +kernel)) ggX4_setShare_X4_isIn
set_option maxRecDepth 20000 in
theorem ggX4_setShare_X4_fail : GoodIn wsX4_setShare wsX4_fail := goodIn_r _ [11, 1, 12, 13, 14, 15, 16, 17, 18] (by decide +kernel) (by decide +kernel)
set_option maxRecDepth 20000 in
theorem gX4_setShare_X4_fail : GoodIn wsX4_setShare (wsV RX4 46 RX4 yX4_fail wsX4_fail) := goodIn_app (goodIn_of _ (by decide +kernel)) ggX4_setShare_X4_fail
theorem dX4_setShare_0 : decode cX4_setShare 0 = .ok (.aload_n 0, 1) := by decide +kernel
theorem dX4_setShare_1 : decode cX4_setShare 1 = .ok (.iconst 0, 1) := by decide +kernel
theorem dX4_setShare_2 : decode cX4_setShare 2 = .ok (.putfield 38, 3) := by decide +kernel
theorem dX4_setShare_5 : decode cX4_setShare 5 = .ok (.iload_n 1, 1) := by decide +kernel
theorem dX4_setShare_6 : decode cX4_setShare 6 = .ok (.iconst 0, 1) := by decide +kernel
theorem dX4_setShare_7 : decode cX4_setShare 7 = .ok (.aload_n 0, 1) := by decide +kernel
theorem dX4_setShare_8 : decode cX4_setShare 8 = .ok (.getfield 9, 3) := by decide +kernel
theorem dX4_setShare_11 : decode cX4_setShare 11 = .ok (.iconst 1, 1) := by decide +kernel
theorem dX4_setShare_12 : decode cX4_setShare 12 = .ok (.iaload, 1) := by decide +kernel
theorem dX4_setShare_13 : decode cX4_setShare 13 = .ok (.iconst 1, 1) := by decide +kernel
theorem dX4_setShare_14 : decode cX4_setShare 14 = .ok (.isub, 1) := by decide +kernel
theorem dX4_setShare_15 : decode cX4_setShare 15 = .ok (.invokestatic 42, 3) := by decide +kernel
theorem dX4_setShare_18 : decode cX4_setShare 18 = .ok (.ifCond .ne 9, 3) := by decide +kernel
theorem dX4_setShare_21 : decode cX4_setShare 21 = .ok (.aload_n 0, 1) := by decide +kernel
theorem dX4_setShare_22 : decode cX4_setShare 22 = .ok (.iconst 1, 1) := by decide +kernel
theorem dX4_setShare_23 : decode cX4_setShare 23 = .ok (.invokevirtual 46, 3) := by decide +kernel
theorem dX4_setShare_26 : decode cX4_setShare 26 = .ok (.ireturn, 1) := by decide +kernel
theorem dX4_setShare_27 : decode cX4_setShare 27 = .ok (.iload_n 2, 1) := by decide +kernel
theorem dX4_setShare_28 : decode cX4_setShare 28 = .ok (.iconst 0, 1) := by decide +kernel
theorem dX4_setShare_29 : decode cX4_setShare 29 = .ok (.bipush 9, 2) := by decide +kernel
theorem dX4_setShare_31 : decode cX4_setShare 31 = .ok (.invokestatic 42, 3) := by decide +kernel
theorem dX4_setShare_34 : decode cX4_setShare 34 = .ok (.ifCond .ne 9, 3) := by decide +kernel
theorem dX4_setShare_37 : decode cX4_setShare 37 = .ok (.aload_n 0, 1) := by decide +kernel
theorem dX4_setShare_38 : decode cX4_setShare 38 = .ok (.iconst 2, 1) := by decide +kernel
theorem dX4_setShare_39 : decode cX4_setShare 39 = .ok (.invokevirtual 46, 3) := by decide +kernel
theorem dX4_setShare_42 : decode cX4_setShare 42 = .ok (.ireturn, 1) := by decide +kernel
theorem dX4_setShare_43 : decode cX4_setShare 43 = .ok (.aload_n 0, 1) := by decide +kernel
theorem dX4_setShare_44 : decode cX4_setShare 44 = .ok (.getfield 13, 3) := by decide +kernel
theorem dX4_setShare_47 : decode cX4_setShare 47 = .ok (.iload_n 1, 1) := by decide +kernel
theorem dX4_setShare_48 : decode cX4_setShare 48 = .ok (.iaload, 1) := by decide +kernel
theorem dX4_setShare_49 : decode cX4_setShare 49 = .ok (.istore_n 3, 1) := by decide +kernel
theorem dX4_setShare_50 : decode cX4_setShare 50 = .ok (.aload_n 0, 1) := by decide +kernel
theorem dX4_setShare_51 : decode cX4_setShare 51 = .ok (.getfield 13, 3) := by decide +kernel
theorem dX4_setShare_54 : decode cX4_setShare 54 = .ok (.iload_n 1, 1) := by decide +kernel
theorem dX4_setShare_55 : decode cX4_setShare 55 = .ok (.iload_n 2, 1) := by decide +kernel
theorem dX4_setShare_56 : decode cX4_setShare 56 = .ok (.iastore, 1) := by decide +kernel
theorem dX4_setShare_57 : decode cX4_setShare 57 = .ok (.iload_n 3, 1) := by decide +kernel
theorem dX4_setShare_58 : decode cX4_setShare 58 = .ok (.ireturn, 1) := by decide +kernel
set_option maxRecDepth 20000 in
theorem ggX4_setDay_X4_isIn : GoodIn wsX4_setDay wsX4_isIn := goodIn_r _ [11] (by decide +kernel) (by decide +kernel)
set_option maxRecDepth 20000 in
theorem gX4_setDay_X4_isIn : GoodIn wsX4_setDay (va_wsS RX4 42 yX4_isIn wsX4_isIn) := goodIn_app (goodIn_of _ (by decide +kernel)) ggX4_setDay_X4_isIn
set_option maxRecDepth 20000 in
theorem ggX4_setDay_X4_fail : GoodIn wsX4_setDay wsX4_fail := goodIn_r _ [15, 1, 16, 17, 18, 19, 20, 21, 22] (by decide +kernel) (by decide +kernel)
set_option maxRecDepth 20000 in
theorem gX4_setDay_X4_fail : GoodIn wsX4_setDay (wsV RX4 46 RX4 yX4_fail wsX4_fail) := goodIn_app (goodIn_of _ (by decide +kernel)) ggX4_setDay_X4_fail
theorem dX4_setDay_0 : decode cX4_setDay 0 = .ok (.aload_n 0, 1) := by decide +kernel
theorem dX4_setDay_1 : decode cX4_setDay 1 = .ok (.iconst 0, 1) := by decide +kernel
theorem dX4_setDay_2 : decode cX4_setDay 2 = .ok (.putfield 38, 3) := by decide +kernel
theorem dX4_setDay_5 : decode cX4_setDay 5 = .ok (.iload_n 1, 1) := by decide +kernel
theorem dX4_setDay_6 : decode cX4_setDay 6 = .ok (.iconst 0, 1) := by decide +kernel
theorem dX4_setDay_7 : decode cX4_setDay 7 = .ok (.bipush 29, 2) := by decide +kernel
theorem dX4_setDay_9 : decode cX4_setDay 9 = .ok (.invokestatic 42, 3) := by decide +kernel
theorem dX4_setDay_12 : decode cX4_setDay 12 = .ok (.ifCond .ne 9, 3) := by decide +kernel
theorem dX4_setDay_15 : decode cX4_setDay 15 = .ok (.aload_n 0, 1) := by decide +kernel
theorem dX4_setDay_16 : decode cX4_setDay 16 = .ok (.iconst 1, 1) := by decide +kernel
theorem dX4_setDay_17 : decode cX4_setDay 17 = .ok (.invokevirtual 46, 3) := by decide +kernel
theorem dX4_setDay_20 : decode cX4_setDay 20 = .ok (.ireturn, 1) := by decide +kernel
theorem dX4_setDay_21 : decode cX4_setDay 21 = .ok (.iload_n 2, 1) := by decide +kernel
theorem dX4_setDay_22 : decode cX4_setDay 22 = .ok (.iconst 0, 1) := by decide +kernel
theorem dX4_setDay_23 : decode cX4_setDay 23 = .ok (.bipush 60, 2) := by decide +kernel
theorem dX4_setDay_25 : decode cX4_setDay 25 = .ok (.invokestatic 42, 3) := by decide +kernel
theorem dX4_setDay_28 : decode cX4_setDay 28 = .ok (.ifCond .eq 25, 3) := by decide +kernel
theorem dX4_setDay_31 : decode cX4_setDay 31 = .ok (.iload_n 3, 1) := by decide +kernel
theorem dX4_setDay_32 : decode cX4_setDay 32 = .ok (.iconst 0, 1) := by decide +kernel
theorem dX4_setDay_33 : decode cX4_setDay 33 = .ok (.sipush 400, 3) := by decide +kernel
theorem dX4_setDay_36 : decode cX4_setDay 36 = .ok (.invokestatic 42, 3) := by decide +kernel
theorem dX4_setDay_39 : decode cX4_setDay 39 = .ok (.ifCond .eq 14, 3) := by decide +kernel
theorem dX4_setDay_42 : decode cX4_setDay 42 = .ok (.iload 4, 2) := by decide +kernel
theorem dX4_setDay_44 : decode cX4_setDay 44 = .ok (.iconst 0, 1) := by decide +kernel
theorem dX4_setDay_45 : decode cX4_setDay 45 = .ok (.bipush 20, 2) := by decide +kernel
theorem dX4_setDay_47 : decode cX4_setDay 47 = .ok (.invokestatic 42, 3) := by decide +kernel
theorem dX4_setDay_50 : decode cX4_setDay 50 = .ok (.ifCond .ne 9, 3) := by decide +kernel
theorem dX4_setDay_53 : decode cX4_setDay 53 = .ok (.aload_n 0, 1) := by decide +kernel
theorem dX4_setDay_54 : decode cX4_setDay 54 = .ok (.iconst 2, 1) := by decide +kernel
theorem dX4_setDay_55 : decode cX4_setDay 55 = .ok (.invokevirtual 46, 3) := by decide +kernel
theorem dX4_setDay_58 : decode cX4_setDay 58 = .ok (.ireturn, 1) := by decide +kernel
theorem dX4_setDay_59 : decode cX4_setDay 59 = .ok (.aload_n 0, 1) := by decide +kernel
theorem dX4_setDay_60 : decode cX4_setDay 60 = .ok (.getfield 19, 3) := by decide +kernel
theorem dX4_setDay_63 : decode cX4_setDay 63 = .ok (.iconst 3, 1) := by decide +kernel
theorem dX4_setDay_64 : decode cX4_setDay 64 = .ok (.iload_n 1, 1) := by decide +kernel
theorem dX4_setDay_65 : decode cX4_setDay 65 = .ok (.imul, 1) := by decide +kernel
theorem dX4_setDay_66 : decode cX4_setDay 66 = .ok (.iconst 1, 1) := by decide +kernel
theorem dX4_setDay_67 : decode cX4_setDay 67 = .ok (.iadd, 1) := by decide +kernel
theorem dX4_setDay_68 : decode cX4_setDay 68 = .ok (.iaload, 1) := by decide +kernel
theorem dX4_setDay_69 : decode cX4_setDay 69 = .ok (.istore 5, 2) := by decide +kernel
theorem dX4_setDay_71 : decode cX4_setDay 71 = .ok (.iconst 3, 1) := by decide +kernel
theorem dX4_setDay_72 : decode cX4_setDay 72 = .ok (.newarray .int, 2) := by decide +kernel
theorem dX4_setDay_74 : decode cX4_setDay 74 = .ok (.dup, 1) := by decide +kernel
theorem dX4_setDay_75 : decode cX4_setDay 75 = .ok (.iconst 0, 1) := by decide +kernel
theorem dX4_setDay_76 : decode cX4_setDay 76 = .ok (.iload_n 2, 1) := by decide +kernel
theorem dX4_setDay_77 : decode cX4_setDay 77 = .ok (.iastore, 1) := by decide +kernel
theorem dX4_setDay_78 : decode cX4_setDay 78 = .ok (.dup, 1) := by decide +kernel
theorem dX4_setDay_79 : decode cX4_setDay 79 = .ok (.iconst 1, 1) := by decide +kernel
theorem dX4_setDay_80 : decode cX4_setDay 80 = .ok (.iload_n 3, 1) := by decide +kernel
theorem dX4_setDay_81 : decode cX4_setDay 81 = .ok (.iastore, 1) := by decide +kernel
theorem dX4_setDay_82 : decode cX4_setDay 82 = .ok (.dup, 1) := by decide +kernel
theorem dX4_setDay_83 : decode cX4_setDay 83 = .ok (.iconst 2, 1) := by decide +kernel
theorem dX4_setDay_84 : decode cX4_setDay 84 = .ok (.iload 4, 2) := by decide +kernel
theorem dX4_setDay_86 : decode cX4_setDay 86 = .ok (.iastore, 1) := by decide +kernel
theorem dX4_setDay_87 : decode cX4_setDay 87 = .ok (.astore 6, 2) := by decide +kernel
theorem dX4_setDay_89 : decode cX4_setDay 89 = .ok (.aload 6, 2) := by decide +kernel
theorem dX4_setDay_91 : decode cX4_setDay 91 = .ok (.iconst 0, 1) := by decide +kernel
theorem dX4_setDay_92 : decode cX4_setDay 92 = .ok (.aload_n 0, 1) := by decide +kernel
theorem dX4_setDay_93 : decode cX4_setDay 93 = .ok (.getfield 19, 3) := by decide +kernel
theorem dX4_setDay_96 : decode cX4_setDay 96 = .ok (.iconst 3, 1) := by decide +kernel
theorem dX4_setDay_97 : decode cX4_setDay 97 = .ok (.iload_n 1, 1) := by decide +kernel
theorem dX4_setDay_98 : decode cX4_setDay 98 = .ok (.imul, 1) := by decide +kernel
theorem dX4_setDay_99 : decode cX4_setDay 99 = .ok (.iconst 3, 1) := by decide +kernel
theorem dX4_setDay_100 : decode cX4_setDay 100 = .ok (.invokestatic 32, 3) := by decide +kernel
theorem dX4_setDay_103 : decode cX4_setDay 103 = .ok (.iload 5, 2) := by decide +kernel
theorem dX4_setDay_105 : decode cX4_setDay 105 = .ok (.ireturn, 1) := by decide +kernel
set_option maxRecDepth 20000 in
theorem ggX4_sum_X4_many : GoodIn wsX4_sum wsX4_many := goodIn_r _ [6, 7, 8, 9, 10, 11, 12, 13, 14] (by decide +kernel) (by decide +kernel)
set_option maxRecDepth 20000 in
theorem gX4_sum_X4_many : GoodIn wsX4_sum (wsV RX4 69 RX4 yX4_many wsX4_many) := goodIn_app (goodIn_of _ (by decide +kernel)) ggX4_sum_X4_many
theorem dX4_sum_0 : decode cX4_sum 0 = .ok (.iconst 0, 1) := by decide +kernel
theorem dX4_sum_1 : decode cX4_sum 1 = .ok (.istore_n 2, 1) := by decide +kernel
theorem dX4_sum_2 : decode cX4_sum 2 = .ok (.iconst 0, 1) := by decide +kernel
theorem dX4_sum_3 : decode cX4_sum 3 = .ok (.istore_n 3, 1) := by decide +kernel
theorem dX4_sum_4 : decode cX4_sum 4 = .ok (.iload_n 3, 1) := by decide +kernel
theorem dX4_sum_5 : decode cX4_sum 5 = .ok (.aload_n 0, 1) := by decide +kernel
theorem dX4_sum_6 : decode cX4_sum 6 = .ok (.invokevirtual 69, 3) := by decide +kernel
theorem dX4_sum_9 : decode cX4_sum 9 = .ok (.if_icmp .ge 23, 3) := by decide +kernel
theorem dX4_sum_12 : decode cX4_sum 12 = .ok (.iload_n 2, 1) := by decide +kernel
theorem dX4_sum_13 : decode cX4_sum 13 = .ok (.aload_n 0, 1) := by decide +kernel
theorem dX4_sum_14 : decode cX4_sum 14 = .ok (.getfield 16, 3) := by decide +kernel
theorem dX4_sum_17 : decode cX4_sum 17 = .ok (.bipush 12, 2) := by decide +kernel
theorem dX4_sum_19 : decode cX4_sum 19 = .ok (.iload_n 3, 1) := by decide +kernel
theorem dX4_sum_20 : decode cX4_sum 20 = .ok (.imul, 1) := by decide +kernel
theorem dX4_sum_21 : decode cX4_sum 21 = .ok (.iload_n 1, 1) := by decide +kernel
theorem dX4_sum_22 : decode cX4_sum 22 = .ok (.iadd, 1) := by decide +kernel
theorem dX4_sum_23 : decode cX4_sum 23 = .ok (.iaload, 1) := by decide +kernel
theorem dX4_sum_24 : decode cX4_sum 24 = .ok (.iadd, 1) := by decide +kernel
theorem dX4_sum_25 : decode cX4_sum 25 = .ok (.istore_n 2, 1) := by decide +kernel
theorem dX4_sum_26 : decode cX4_sum 26 = .ok (.iinc 3 1, 3) := by decide +kernel
theorem dX4_sum_29 : decode cX4_sum 29 = .ok (.goto (-25), 3) := by decide +kernel
theorem dX4_sum_32 : decode cX4_sum 32 = .ok (.iload_n 2, 1) := by decide +kernel
theorem dX4_sum_33 : decode cX4_sum 33 = .ok (.ireturn, 1) := by decide +kernel
theorem dX4_fallow_0 : decode cX4_fallow 0 = .ok (.iconst 5, 1) := by decide +kernel
theorem dX4_fallow_1 : decode cX4_fallow 1 = .ok (.istore_n 2, 1) := by decide +kernel
theorem dX4_fallow_2 : decode cX4_fallow 2 = .ok (.iload_n 2, 1) := by decide +kernel
theorem dX4_fallow_3 : decode cX4_fallow 3 = .ok (.bipush 9, 2) := by decide +kernel
theorem dX4_fallow_5 : decode cX4_fallow 5 = .ok (.if_icmp .gt 18, 3) := by decide +kernel
theorem dX4_fallow_8 : decode cX4_fallow 8 = .ok (.aload_n 0, 1) := by decide +kernel
theorem dX4_fallow_9 : decode cX4_fallow 9 = .ok (.getfield 16, 3) := by decide +kernel
theorem dX4_fallow_12 : decode cX4_fallow 12 = .ok (.iload_n 1, 1) := by decide +kernel
theorem dX4_fallow_13 : decode cX4_fallow 13 = .ok (.iload_n 2, 1) := by decide +kernel
theorem dX4_fallow_14 : decode cX4_fallow 14 = .ok (.iadd, 1) := by decide +kernel
theorem dX4_fallow_15 : decode cX4_fallow 15 = .ok (.iconst 0, 1) := by decide +kernel
theorem dX4_fallow_16 : decode cX4_fallow 16 = .ok (.iastore, 1) := by decide +kernel
theorem dX4_fallow_17 : decode cX4_fallow 17 = .ok (.iinc 2 1, 3) := by decide +kernel
theorem dX4_fallow_20 : decode cX4_fallow 20 = .ok (.goto (-18), 3) := by decide +kernel
theorem dX4_fallow_23 : decode cX4_fallow 23 = .ok (.return_, 1) := by decide +kernel
set_option maxRecDepth 20000 in
theorem ggX4_plant_X4_isField : GoodIn wsX4_plant wsX4_isField := goodIn_r _ [7, 8, 9, 10, 6, 11, 28, 29, 30, 31, 32, 33, 34] (by decide +kernel) (by decide +kernel)
set_option maxRecDepth 20000 in
theorem gX4_plant_X4_isField : GoodIn wsX4_plant (wsV RX4 50 RX4 yX4_isField wsX4_isField) := goodIn_app (goodIn_of _ (by decide +kernel)) ggX4_plant_X4_isField
set_option maxRecDepth 20000 in
theorem ggX4_plant_X4_fail : GoodIn wsX4_plant wsX4_fail := goodIn_r _ [15, 1, 28, 29, 30, 31, 32, 33, 34] (by decide +kernel) (by decide +kernel)
set_option maxRecDepth 20000 in
theorem gX4_plant_X4_fail : GoodIn wsX4_plant (wsV RX4 46 RX4 yX4_fail wsX4_fail) := goodIn_app (goodIn_of _ (by decide +kernel)) ggX4_plant_X4_fail
set_option maxRecDepth 20000 in
theorem ggX4_plant_X4_isIn : GoodIn wsX4_plant wsX4_isIn := goodIn_r _ [11] (by decide +kernel) (by decide +kernel)
set_option maxRecDepth 20000 in
theorem gX4_plant_X4_isIn : GoodIn wsX4_plant (va_wsS RX4 42 yX4_isIn wsX4_isIn) := goodIn_app (goodIn_of _ (by decide +kernel)) ggX4_plant_X4_isIn
set_option maxRecDepth 20000 in
theorem ggX4_plant_X4_at : GoodIn wsX4_plant wsX4_at := goodIn_r _ [19, 8, 28, 29, 30, 31, 32, 33, 34] (by decide +kernel) (by decide +kernel)
set_option maxRecDepth 20000 in
theorem gX4_plant_X4_at : GoodIn wsX4_plant (wsV RX4 54 RX4 yX4_at wsX4_at) := goodIn_app (goodIn_of _ (by decide +kernel)) ggX4_plant_X4_at
set_option maxRecDepth 20000 in
theorem ggX4_plant_X4_sum : GoodIn wsX4_plant wsX4_sum := goodIn_r _ [23, 2, 24, 25, 26, 6, 27, 8, 28, 29, 30, 31, 32, 33, 34] (by decide +kernel) (by decide +kernel)
set_option maxRecDepth 20000 in
theorem gX4_plant_X4_sum : GoodIn wsX4_plant (wsV RX4 73 RX4 yX4_sum wsX4_sum) := goodIn_app (goodIn_of _ (by decide +kernel)) ggX4_plant_X4_sum
theorem dX4_plant_0 : decode cX4_plant 0 = .ok (.aload_n 0, 1) := by decide +kernel
theorem dX4_plant_1 : decode cX4_plant 1 = .ok (.iconst 0, 1) := by decide +kernel
theorem dX4_plant_2 : decode cX4_plant 2 = .ok (.putfield 38, 3) := by decide +kernel
theorem dX4_plant_5 : decode cX4_plant 5 = .ok (.aload_n 0, 1) := by decide +kernel
theorem dX4_plant_6 : decode cX4_plant 6 = .ok (.iload_n 1, 1) := by decide +kernel
theorem dX4_plant_7 : decode cX4_plant 7 = .ok (.iload_n 2, 1) := by decide +kernel
theorem dX4_plant_8 : decode cX4_plant 8 = .ok (.invokevirtual 50, 3) := by decide +kernel
theorem dX4_plant_11 : decode cX4_plant 11 = .ok (.ifCond .ne 9, 3) := by decide +kernel
theorem dX4_plant_14 : decode cX4_plant 14 = .ok (.aload_n 0, 1) := by decide +kernel
theorem dX4_plant_15 : decode cX4_plant 15 = .ok (.iconst 1, 1) := by decide +kernel
theorem dX4_plant_16 : decode cX4_plant 16 = .ok (.invokevirtual 46, 3) := by decide +kernel
theorem dX4_plant_19 : decode cX4_plant 19 = .ok (.ireturn, 1) := by decide +kernel
theorem dX4_plant_20 : decode cX4_plant 20 = .ok (.iload_n 3, 1) := by decide +kernel
theorem dX4_plant_21 : decode cX4_plant 21 = .ok (.iconst 0, 1) := by decide +kernel
theorem dX4_plant_22 : decode cX4_plant 22 = .ok (.bipush 20, 2) := by decide +kernel
theorem dX4_plant_24 : decode cX4_plant 24 = .ok (.invokestatic 42, 3) := by decide +kernel
theorem dX4_plant_27 : decode cX4_plant 27 = .ok (.ifCond .ne 9, 3) := by decide +kernel
theorem dX4_plant_30 : decode cX4_plant 30 = .ok (.aload_n 0, 1) := by decide +kernel
theorem dX4_plant_31 : decode cX4_plant 31 = .ok (.iconst 2, 1) := by decide +kernel
theorem dX4_plant_32 : decode cX4_plant 32 = .ok (.invokevirtual 46, 3) := by decide +kernel
theorem dX4_plant_35 : decode cX4_plant 35 = .ok (.ireturn, 1) := by decide +kernel
theorem dX4_plant_36 : decode cX4_plant 36 = .ok (.aload_n 0, 1) := by decide +kernel
theorem dX4_plant_37 : decode cX4_plant 37 = .ok (.iload_n 1, 1) := by decide +kernel
theorem dX4_plant_38 : decode cX4_plant 38 = .ok (.iload_n 2, 1) := by decide +kernel
theorem dX4_plant_39 : decode cX4_plant 39 = .ok (.invokevirtual 54, 3) := by decide +kernel
theorem dX4_plant_42 : decode cX4_plant 42 = .ok (.istore 4, 2) := by decide +kernel
theorem dX4_plant_44 : decode cX4_plant 44 = .ok (.aload_n 0, 1) := by decide +kernel
theorem dX4_plant_45 : decode cX4_plant 45 = .ok (.getfield 16, 3) := by decide +kernel
theorem dX4_plant_48 : decode cX4_plant 48 = .ok (.iload 4, 2) := by decide +kernel
theorem dX4_plant_50 : decode cX4_plant 50 = .ok (.iconst 5, 1) := by decide +kernel
theorem dX4_plant_51 : decode cX4_plant 51 = .ok (.iadd, 1) := by decide +kernel
theorem dX4_plant_52 : decode cX4_plant 52 = .ok (.iaload, 1) := by decide +kernel
theorem dX4_plant_53 : decode cX4_plant 53 = .ok (.iconst 1, 1) := by decide +kernel
theorem dX4_plant_54 : decode cX4_plant 54 = .ok (.if_icmp .eq 17, 3) := by decide +kernel
theorem dX4_plant_57 : decode cX4_plant 57 = .ok (.aload_n 0, 1) := by decide +kernel
theorem dX4_plant_58 : decode cX4_plant 58 = .ok (.getfield 16, 3) := by decide +kernel
theorem dX4_plant_61 : decode cX4_plant 61 = .ok (.iload 4, 2) := by decide +kernel
theorem dX4_plant_63 : decode cX4_plant 63 = .ok (.iconst 0, 1) := by decide +kernel
theorem dX4_plant_64 : decode cX4_plant 64 = .ok (.iadd, 1) := by decide +kernel
theorem dX4_plant_65 : decode cX4_plant 65 = .ok (.iaload, 1) := by decide +kernel
theorem dX4_plant_66 : decode cX4_plant 66 = .ok (.bipush 40, 2) := by decide +kernel
theorem dX4_plant_68 : decode cX4_plant 68 = .ok (.if_icmp .le 9, 3) := by decide +kernel
theorem dX4_plant_71 : decode cX4_plant 71 = .ok (.aload_n 0, 1) := by decide +kernel
theorem dX4_plant_72 : decode cX4_plant 72 = .ok (.iconst 3, 1) := by decide +kernel
theorem dX4_plant_73 : decode cX4_plant 73 = .ok (.invokevirtual 46, 3) := by decide +kernel
theorem dX4_plant_76 : decode cX4_plant 76 = .ok (.ireturn, 1) := by decide +kernel
theorem dX4_plant_77 : decode cX4_plant 77 = .ok (.aload_n 0, 1) := by decide +kernel
theorem dX4_plant_78 : decode cX4_plant 78 = .ok (.getfield 16, 3) := by decide +kernel
theorem dX4_plant_81 : decode cX4_plant 81 = .ok (.iload 4, 2) := by decide +kernel
theorem dX4_plant_83 : decode cX4_plant 83 = .ok (.iconst 5, 1) := by decide +kernel
theorem dX4_plant_84 : decode cX4_plant 84 = .ok (.iadd, 1) := by decide +kernel
theorem dX4_plant_85 : decode cX4_plant 85 = .ok (.iconst 1, 1) := by decide +kernel
theorem dX4_plant_86 : decode cX4_plant 86 = .ok (.iastore, 1) := by decide +kernel
theorem dX4_plant_87 : decode cX4_plant 87 = .ok (.aload_n 0, 1) := by decide +kernel
theorem dX4_plant_88 : decode cX4_plant 88 = .ok (.getfield 16, 3) := by decide +kernel
theorem dX4_plant_91 : decode cX4_plant 91 = .ok (.iload 4, 2) := by decide +kernel
theorem dX4_plant_93 : decode cX4_plant 93 = .ok (.bipush 6, 2) := by decide +kernel
theorem dX4_plant_95 : decode cX4_plant 95 = .ok (.iadd, 1) := by decide +kernel
theorem dX4_plant_96 : decode cX4_plant 96 = .ok (.iload_n 3, 1) := by decide +kernel
theorem dX4_plant_97 : decode cX4_plant 97 = .ok (.iastore, 1) := by decide +kernel
theorem dX4_plant_98 : decode cX4_plant 98 = .ok (.aload_n 0, 1) := by decide +kernel
theorem dX4_plant_99 : decode cX4_plant 99 = .ok (.iconst 5, 1) := by decide +kernel
theorem dX4_plant_100 : decode cX4_plant 100 = .ok (.invokevirtual 73, 3) := by decide +kernel
theorem dX4_plant_103 : decode cX4_plant 103 = .ok (.ireturn, 1) := by decide +kernel
set_option maxRecDepth 20000 in
theorem ggX4_reap_X4_isField : GoodIn wsX4_reap wsX4_isField := goodIn_r _ [8, 3, 9, 10, 7, 11, 24, 25, 26, 27, 28, 29, 30] (by decide +kernel) (by decide +kernel)
set_option maxRecDepth 20000 in
theorem gX4_reap_X4_isField : GoodIn wsX4_reap (wsV RX4 50 RX4 yX4_isField wsX4_isField) := goodIn_app (goodIn_of _ (by decide +kernel)) ggX4_reap_X4_isField
set_option maxRecDepth 20000 in
theorem ggX4_reap_X4_fail : GoodIn wsX4_reap wsX4_fail := goodIn_r _ [15, 1, 24, 25, 26, 27, 28, 29, 30] (by decide +kernel) (by decide +kernel)
set_option maxRecDepth 20000 in
theorem gX4_reap_X4_fail : GoodIn wsX4_reap (wsV RX4 46 RX4 yX4_fail wsX4_fail) := goodIn_app (goodIn_of _ (by decide +kernel)) ggX4_reap_X4_fail
set_option maxRecDepth 20000 in
theorem ggX4_reap_X4_at : GoodIn wsX4_reap wsX4_at := goodIn_r _ [19, 3, 24, 25, 26, 27, 28, 29, 30] (by decide +kernel) (by decide +kernel)
set_option maxRecDepth 20000 in
theorem gX4_reap_X4_at : GoodIn wsX4_reap (wsV RX4 54 RX4 yX4_at wsX4_at) := goodIn_app (goodIn_of _ (by decide +kernel)) ggX4_reap_X4_at
set_option maxRecDepth 20000 in
theorem ggX4_reap_X4_fallow : GoodIn wsX4_reap wsX4_fallow := goodIn_r _ [23, 2, 24, 25, 26, 27, 28, 29, 30] (by decide +kernel) (by decide +kernel)
set_option maxRecDepth 20000 in
theorem gX4_reap_X4_fallow : GoodIn wsX4_reap (wsV RX4 76 RX4 yX4_fallow wsX4_fallow) := goodIn_app (goodIn_of _ (by decide +kernel)) ggX4_reap_X4_fallow
theorem dX4_reap_0 : decode cX4_reap 0 = .ok (.aload_n 0, 1) := by decide +kernel
theorem dX4_reap_1 : decode cX4_reap 1 = .ok (.iconst 0, 1) := by decide +kernel
theorem dX4_reap_2 : decode cX4_reap 2 = .ok (.putfield 38, 3) := by decide +kernel
theorem dX4_reap_5 : decode cX4_reap 5 = .ok (.aload_n 0, 1) := by decide +kernel
theorem dX4_reap_6 : decode cX4_reap 6 = .ok (.iload_n 1, 1) := by decide +kernel
theorem dX4_reap_7 : decode cX4_reap 7 = .ok (.iload_n 2, 1) := by decide +kernel
theorem dX4_reap_8 : decode cX4_reap 8 = .ok (.invokevirtual 50, 3) := by decide +kernel
theorem dX4_reap_11 : decode cX4_reap 11 = .ok (.ifCond .ne 9, 3) := by decide +kernel
theorem dX4_reap_14 : decode cX4_reap 14 = .ok (.aload_n 0, 1) := by decide +kernel
theorem dX4_reap_15 : decode cX4_reap 15 = .ok (.iconst 1, 1) := by decide +kernel
theorem dX4_reap_16 : decode cX4_reap 16 = .ok (.invokevirtual 46, 3) := by decide +kernel
theorem dX4_reap_19 : decode cX4_reap 19 = .ok (.ireturn, 1) := by decide +kernel
theorem dX4_reap_20 : decode cX4_reap 20 = .ok (.aload_n 0, 1) := by decide +kernel
theorem dX4_reap_21 : decode cX4_reap 21 = .ok (.iload_n 1, 1) := by decide +kernel
theorem dX4_reap_22 : decode cX4_reap 22 = .ok (.iload_n 2, 1) := by decide +kernel
theorem dX4_reap_23 : decode cX4_reap 23 = .ok (.invokevirtual 54, 3) := by decide +kernel
theorem dX4_reap_26 : decode cX4_reap 26 = .ok (.istore_n 3, 1) := by decide +kernel
theorem dX4_reap_27 : decode cX4_reap 27 = .ok (.aload_n 0, 1) := by decide +kernel
theorem dX4_reap_28 : decode cX4_reap 28 = .ok (.getfield 16, 3) := by decide +kernel
theorem dX4_reap_31 : decode cX4_reap 31 = .ok (.iload_n 3, 1) := by decide +kernel
theorem dX4_reap_32 : decode cX4_reap 32 = .ok (.iconst 5, 1) := by decide +kernel
theorem dX4_reap_33 : decode cX4_reap 33 = .ok (.iadd, 1) := by decide +kernel
theorem dX4_reap_34 : decode cX4_reap 34 = .ok (.iaload, 1) := by decide +kernel
theorem dX4_reap_35 : decode cX4_reap 35 = .ok (.ifCond .eq 17, 3) := by decide +kernel
theorem dX4_reap_38 : decode cX4_reap 38 = .ok (.aload_n 0, 1) := by decide +kernel
theorem dX4_reap_39 : decode cX4_reap 39 = .ok (.getfield 16, 3) := by decide +kernel
theorem dX4_reap_42 : decode cX4_reap 42 = .ok (.iload_n 3, 1) := by decide +kernel
theorem dX4_reap_43 : decode cX4_reap 43 = .ok (.bipush 6, 2) := by decide +kernel
theorem dX4_reap_45 : decode cX4_reap 45 = .ok (.iadd, 1) := by decide +kernel
theorem dX4_reap_46 : decode cX4_reap 46 = .ok (.iaload, 1) := by decide +kernel
theorem dX4_reap_47 : decode cX4_reap 47 = .ok (.bipush 40, 2) := by decide +kernel
theorem dX4_reap_49 : decode cX4_reap 49 = .ok (.if_icmp .ge 9, 3) := by decide +kernel
theorem dX4_reap_52 : decode cX4_reap 52 = .ok (.aload_n 0, 1) := by decide +kernel
theorem dX4_reap_53 : decode cX4_reap 53 = .ok (.iconst 2, 1) := by decide +kernel
theorem dX4_reap_54 : decode cX4_reap 54 = .ok (.invokevirtual 46, 3) := by decide +kernel
theorem dX4_reap_57 : decode cX4_reap 57 = .ok (.ireturn, 1) := by decide +kernel
theorem dX4_reap_58 : decode cX4_reap 58 = .ok (.aload_n 0, 1) := by decide +kernel
theorem dX4_reap_59 : decode cX4_reap 59 = .ok (.getfield 16, 3) := by decide +kernel
theorem dX4_reap_62 : decode cX4_reap 62 = .ok (.iload_n 3, 1) := by decide +kernel
theorem dX4_reap_63 : decode cX4_reap 63 = .ok (.bipush 6, 2) := by decide +kernel
theorem dX4_reap_65 : decode cX4_reap 65 = .ok (.iadd, 1) := by decide +kernel
theorem dX4_reap_66 : decode cX4_reap 66 = .ok (.iaload, 1) := by decide +kernel
theorem dX4_reap_67 : decode cX4_reap 67 = .ok (.aload_n 0, 1) := by decide +kernel
theorem dX4_reap_68 : decode cX4_reap 68 = .ok (.getfield 16, 3) := by decide +kernel
theorem dX4_reap_71 : decode cX4_reap 71 = .ok (.iload_n 3, 1) := by decide +kernel
theorem dX4_reap_72 : decode cX4_reap 72 = .ok (.bipush 7, 2) := by decide +kernel
theorem dX4_reap_74 : decode cX4_reap 74 = .ok (.iadd, 1) := by decide +kernel
theorem dX4_reap_75 : decode cX4_reap 75 = .ok (.iaload, 1) := by decide +kernel
theorem dX4_reap_76 : decode cX4_reap 76 = .ok (.imul, 1) := by decide +kernel
theorem dX4_reap_77 : decode cX4_reap 77 = .ok (.bipush 100, 2) := by decide +kernel
theorem dX4_reap_79 : decode cX4_reap 79 = .ok (.idiv, 1) := by decide +kernel
theorem dX4_reap_80 : decode cX4_reap 80 = .ok (.istore 4, 2) := by decide +kernel
theorem dX4_reap_82 : decode cX4_reap 82 = .ok (.aload_n 0, 1) := by decide +kernel
theorem dX4_reap_83 : decode cX4_reap 83 = .ok (.getfield 16, 3) := by decide +kernel
theorem dX4_reap_86 : decode cX4_reap 86 = .ok (.iload_n 3, 1) := by decide +kernel
theorem dX4_reap_87 : decode cX4_reap 87 = .ok (.iconst 0, 1) := by decide +kernel
theorem dX4_reap_88 : decode cX4_reap 88 = .ok (.iadd, 1) := by decide +kernel
theorem dX4_reap_89 : decode cX4_reap 89 = .ok (.iaload, 1) := by decide +kernel
theorem dX4_reap_90 : decode cX4_reap 90 = .ok (.ifCond .ne 12, 3) := by decide +kernel
theorem dX4_reap_93 : decode cX4_reap 93 = .ok (.iload 4, 2) := by decide +kernel
theorem dX4_reap_95 : decode cX4_reap 95 = .ok (.iload 4, 2) := by decide +kernel
theorem dX4_reap_97 : decode cX4_reap 97 = .ok (.iconst 2, 1) := by decide +kernel
theorem dX4_reap_98 : decode cX4_reap 98 = .ok (.idiv, 1) := by decide +kernel
theorem dX4_reap_99 : decode cX4_reap 99 = .ok (.iadd, 1) := by decide +kernel
theorem dX4_reap_100 : decode cX4_reap 100 = .ok (.istore 4, 2) := by decide +kernel
theorem dX4_reap_102 : decode cX4_reap 102 = .ok (.aload_n 0, 1) := by decide +kernel
theorem dX4_reap_103 : decode cX4_reap 103 = .ok (.iload_n 3, 1) := by decide +kernel
theorem dX4_reap_104 : decode cX4_reap 104 = .ok (.invokevirtual 76, 3) := by decide +kernel
theorem dX4_reap_107 : decode cX4_reap 107 = .ok (.aload_n 0, 1) := by decide +kernel
theorem dX4_reap_108 : decode cX4_reap 108 = .ok (.getfield 9, 3) := by decide +kernel
theorem dX4_reap_111 : decode cX4_reap 111 = .ok (.iconst 4, 1) := by decide +kernel
theorem dX4_reap_112 : decode cX4_reap 112 = .ok (.dup2, 1) := by decide +kernel
theorem dX4_reap_113 : decode cX4_reap 113 = .ok (.iaload, 1) := by decide +kernel
theorem dX4_reap_114 : decode cX4_reap 114 = .ok (.iload 4, 2) := by decide +kernel
theorem dX4_reap_116 : decode cX4_reap 116 = .ok (.iadd, 1) := by decide +kernel
theorem dX4_reap_117 : decode cX4_reap 117 = .ok (.iastore, 1) := by decide +kernel
theorem dX4_reap_118 : decode cX4_reap 118 = .ok (.iload 4, 2) := by decide +kernel
theorem dX4_reap_120 : decode cX4_reap 120 = .ok (.ireturn, 1) := by decide +kernel
set_option maxRecDepth 20000 in
theorem ggX4_come_X4_isField : GoodIn wsX4_come wsX4_isField := goodIn_r _ [7, 2, 8, 9, 6, 10, 15, 16, 17, 18, 19, 20, 21] (by decide +kernel) (by decide +kernel)
set_option maxRecDepth 20000 in
theorem gX4_come_X4_isField : GoodIn wsX4_come (wsV RX4 50 RX4 yX4_isField wsX4_isField) := goodIn_app (goodIn_of _ (by decide +kernel)) ggX4_come_X4_isField
set_option maxRecDepth 20000 in
theorem ggX4_come_X4_at : GoodIn wsX4_come wsX4_at := goodIn_r _ [14, 2, 15, 16, 17, 18, 19, 20, 21] (by decide +kernel) (by decide +kernel)
set_option maxRecDepth 20000 in
theorem gX4_come_X4_at : GoodIn wsX4_come (wsV RX4 54 RX4 yX4_at wsX4_at) := goodIn_app (goodIn_of _ (by decide +kernel)) ggX4_come_X4_at
theorem dX4_come_0 : decode cX4_come 0 = .ok (.aload_n 0, 1) := by decide +kernel
theorem dX4_come_1 : decode cX4_come 1 = .ok (.iload_n 1, 1) := by decide +kernel
theorem dX4_come_2 : decode cX4_come 2 = .ok (.iload_n 2, 1) := by decide +kernel
theorem dX4_come_3 : decode cX4_come 3 = .ok (.invokevirtual 50, 3) := by decide +kernel
theorem dX4_come_6 : decode cX4_come 6 = .ok (.ifCond .eq 23, 3) := by decide +kernel
theorem dX4_come_9 : decode cX4_come 9 = .ok (.aload_n 0, 1) := by decide +kernel
theorem dX4_come_10 : decode cX4_come 10 = .ok (.getfield 16, 3) := by decide +kernel
theorem dX4_come_13 : decode cX4_come 13 = .ok (.aload_n 0, 1) := by decide +kernel
theorem dX4_come_14 : decode cX4_come 14 = .ok (.iload_n 1, 1) := by decide +kernel
theorem dX4_come_15 : decode cX4_come 15 = .ok (.iload_n 2, 1) := by decide +kernel
theorem dX4_come_16 : decode cX4_come 16 = .ok (.invokevirtual 54, 3) := by decide +kernel
theorem dX4_come_19 : decode cX4_come 19 = .ok (.iconst 0, 1) := by decide +kernel
theorem dX4_come_20 : decode cX4_come 20 = .ok (.iadd, 1) := by decide +kernel
theorem dX4_come_21 : decode cX4_come 21 = .ok (.dup2, 1) := by decide +kernel
theorem dX4_come_22 : decode cX4_come 22 = .ok (.iaload, 1) := by decide +kernel
theorem dX4_come_23 : decode cX4_come 23 = .ok (.iload_n 3, 1) := by decide +kernel
theorem dX4_come_24 : decode cX4_come 24 = .ok (.iadd, 1) := by decide +kernel
theorem dX4_come_25 : decode cX4_come 25 = .ok (.iastore, 1) := by decide +kernel
theorem dX4_come_26 : decode cX4_come 26 = .ok (.goto 13, 3) := by decide +kernel
theorem dX4_come_29 : decode cX4_come 29 = .ok (.aload_n 0, 1) := by decide +kernel
theorem dX4_come_30 : decode cX4_come 30 = .ok (.getfield 9, 3) := by decide +kernel
theorem dX4_come_33 : decode cX4_come 33 = .ok (.iconst 3, 1) := by decide +kernel
theorem dX4_come_34 : decode cX4_come 34 = .ok (.dup2, 1) := by decide +kernel
theorem dX4_come_35 : decode cX4_come 35 = .ok (.iaload, 1) := by decide +kernel
theorem dX4_come_36 : decode cX4_come 36 = .ok (.iload_n 3, 1) := by decide +kernel
theorem dX4_come_37 : decode cX4_come 37 = .ok (.iadd, 1) := by decide +kernel
theorem dX4_come_38 : decode cX4_come 38 = .ok (.iastore, 1) := by decide +kernel
theorem dX4_come_39 : decode cX4_come 39 = .ok (.return_, 1) := by decide +kernel
set_option maxRecDepth 20000 in
theorem ggX4_flow_X4_at : GoodIn wsX4_flow wsX4_at := goodIn_r _ [13, 14, 26, 27, 28, 29, 30, 31, 32] (by decide +kernel) (by decide +kernel)
set_option maxRecDepth 20000 in
theorem gX4_flow_X4_at : GoodIn wsX4_flow (wsV RX4 54 RX4 yX4_at wsX4_at) := goodIn_app (goodIn_of _ (by decide +kernel)) ggX4_flow_X4_at
set_option maxRecDepth 20000 in
theorem ggX4_flow_X4_come : GoodIn wsX4_flow wsX4_come := goodIn_r _ [18, 1, 14, 19, 20, 21, 12, 22, 23, 24, 25, 9, 10, 11, 13, 26, 27, 28, 29, 30, 31, 32] (by decide +kernel) (by decide +kernel)
set_option maxRecDepth 20000 in
theorem gX4_flow_X4_come : GoodIn wsX4_flow (wsV RX4 83 RX4 yX4_come wsX4_come) := goodIn_app (goodIn_of _ (by decide +kernel)) ggX4_flow_X4_come
theorem dX4_flow_0 : decode cX4_flow 0 = .ok (.aload_n 0, 1) := by decide +kernel
theorem dX4_flow_1 : decode cX4_flow 1 = .ok (.iload_n 1, 1) := by decide +kernel
theorem dX4_flow_2 : decode cX4_flow 2 = .ok (.iload_n 2, 1) := by decide +kernel
theorem dX4_flow_3 : decode cX4_flow 3 = .ok (.invokevirtual 54, 3) := by decide +kernel
theorem dX4_flow_6 : decode cX4_flow 6 = .ok (.istore_n 3, 1) := by decide +kernel
theorem dX4_flow_7 : decode cX4_flow 7 = .ok (.iconst 0, 1) := by decide +kernel
theorem dX4_flow_8 : decode cX4_flow 8 = .ok (.bipush 40, 2) := by decide +kernel
theorem dX4_flow_10 : decode cX4_flow 10 = .ok (.aload_n 0, 1) := by decide +kernel
theorem dX4_flow_11 : decode cX4_flow 11 = .ok (.getfield 16, 3) := by decide +kernel
theorem dX4_flow_14 : decode cX4_flow 14 = .ok (.iload_n 3, 1) := by decide +kernel
theorem dX4_flow_15 : decode cX4_flow 15 = .ok (.iconst 0, 1) := by decide +kernel
theorem dX4_flow_16 : decode cX4_flow 16 = .ok (.iadd, 1) := by decide +kernel
theorem dX4_flow_17 : decode cX4_flow 17 = .ok (.iaload, 1) := by decide +kernel
theorem dX4_flow_18 : decode cX4_flow 18 = .ok (.aload_n 0, 1) := by decide +kernel
theorem dX4_flow_19 : decode cX4_flow 19 = .ok (.getfield 16, 3) := by decide +kernel
theorem dX4_flow_22 : decode cX4_flow 22 = .ok (.iload_n 3, 1) := by decide +kernel
theorem dX4_flow_23 : decode cX4_flow 23 = .ok (.iconst 3, 1) := by decide +kernel
theorem dX4_flow_24 : decode cX4_flow 24 = .ok (.iadd, 1) := by decide +kernel
theorem dX4_flow_25 : decode cX4_flow 25 = .ok (.iaload, 1) := by decide +kernel
theorem dX4_flow_26 : decode cX4_flow 26 = .ok (.isub, 1) := by decide +kernel
theorem dX4_flow_27 : decode cX4_flow 27 = .ok (.invokestatic 58, 3) := by decide +kernel
theorem dX4_flow_30 : decode cX4_flow 30 = .ok (.invokestatic 80, 3) := by decide +kernel
theorem dX4_flow_33 : decode cX4_flow 33 = .ok (.istore 4, 2) := by decide +kernel
theorem dX4_flow_35 : decode cX4_flow 35 = .ok (.aload_n 0, 1) := by decide +kernel
theorem dX4_flow_36 : decode cX4_flow 36 = .ok (.getfield 16, 3) := by decide +kernel
theorem dX4_flow_39 : decode cX4_flow 39 = .ok (.iload_n 3, 1) := by decide +kernel
theorem dX4_flow_40 : decode cX4_flow 40 = .ok (.iconst 0, 1) := by decide +kernel
theorem dX4_flow_41 : decode cX4_flow 41 = .ok (.iadd, 1) := by decide +kernel
theorem dX4_flow_42 : decode cX4_flow 42 = .ok (.dup2, 1) := by decide +kernel
theorem dX4_flow_43 : decode cX4_flow 43 = .ok (.iaload, 1) := by decide +kernel
theorem dX4_flow_44 : decode cX4_flow 44 = .ok (.iload 4, 2) := by decide +kernel
theorem dX4_flow_46 : decode cX4_flow 46 = .ok (.isub, 1) := by decide +kernel
theorem dX4_flow_47 : decode cX4_flow 47 = .ok (.iastore, 1) := by decide +kernel
theorem dX4_flow_48 : decode cX4_flow 48 = .ok (.aload_n 0, 1) := by decide +kernel
theorem dX4_flow_49 : decode cX4_flow 49 = .ok (.getfield 16, 3) := by decide +kernel
theorem dX4_flow_52 : decode cX4_flow 52 = .ok (.iload_n 3, 1) := by decide +kernel
theorem dX4_flow_53 : decode cX4_flow 53 = .ok (.bipush 10, 2) := by decide +kernel
theorem dX4_flow_55 : decode cX4_flow 55 = .ok (.iadd, 1) := by decide +kernel
theorem dX4_flow_56 : decode cX4_flow 56 = .ok (.iload 4, 2) := by decide +kernel
theorem dX4_flow_58 : decode cX4_flow 58 = .ok (.iastore, 1) := by decide +kernel
theorem dX4_flow_59 : decode cX4_flow 59 = .ok (.aload_n 0, 1) := by decide +kernel
theorem dX4_flow_60 : decode cX4_flow 60 = .ok (.iload_n 1, 1) := by decide +kernel
theorem dX4_flow_61 : decode cX4_flow 61 = .ok (.iconst 1, 1) := by decide +kernel
theorem dX4_flow_62 : decode cX4_flow 62 = .ok (.iadd, 1) := by decide +kernel
theorem dX4_flow_63 : decode cX4_flow 63 = .ok (.iload_n 2, 1) := by decide +kernel
theorem dX4_flow_64 : decode cX4_flow 64 = .ok (.aload_n 0, 1) := by decide +kernel
theorem dX4_flow_65 : decode cX4_flow 65 = .ok (.getfield 16, 3) := by decide +kernel
theorem dX4_flow_68 : decode cX4_flow 68 = .ok (.iload_n 3, 1) := by decide +kernel
theorem dX4_flow_69 : decode cX4_flow 69 = .ok (.iconst 4, 1) := by decide +kernel
theorem dX4_flow_70 : decode cX4_flow 70 = .ok (.iadd, 1) := by decide +kernel
theorem dX4_flow_71 : decode cX4_flow 71 = .ok (.iaload, 1) := by decide +kernel
theorem dX4_flow_72 : decode cX4_flow 72 = .ok (.iadd, 1) := by decide +kernel
end
section
theorem dX4_flow_73 : decode cX4_flow 73 = .ok (.iload 4, 2) := by decide +kernel
theorem dX4_flow_75 : decode cX4_flow 75 = .ok (.invokevirtual 83, 3) := by decide +kernel
theorem dX4_flow_78 : decode cX4_flow 78 = .ok (.iconst 0, 1) := by decide +kernel
theorem dX4_flow_79 : decode cX4_flow 79 = .ok (.aload_n 0, 1) := by decide +kernel
theorem dX4_flow_80 : decode cX4_flow 80 = .ok (.getfield 16, 3) := by decide +kernel
theorem dX4_flow_83 : decode cX4_flow 83 = .ok (.iload_n 3, 1) := by decide +kernel
theorem dX4_flow_84 : decode cX4_flow 84 = .ok (.iconst 0, 1) := by decide +kernel
theorem dX4_flow_85 : decode cX4_flow 85 = .ok (.iadd, 1) := by decide +kernel
theorem dX4_flow_86 : decode cX4_flow 86 = .ok (.iaload, 1) := by decide +kernel
theorem dX4_flow_87 : decode cX4_flow 87 = .ok (.aload_n 0, 1) := by decide +kernel
theorem dX4_flow_88 : decode cX4_flow 88 = .ok (.getfield 16, 3) := by decide +kernel
theorem dX4_flow_91 : decode cX4_flow 91 = .ok (.iload_n 3, 1) := by decide +kernel
theorem dX4_flow_92 : decode cX4_flow 92 = .ok (.iconst 1, 1) := by decide +kernel
theorem dX4_flow_93 : decode cX4_flow 93 = .ok (.iadd, 1) := by decide +kernel
theorem dX4_flow_94 : decode cX4_flow 94 = .ok (.iaload, 1) := by decide +kernel
theorem dX4_flow_95 : decode cX4_flow 95 = .ok (.isub, 1) := by decide +kernel
theorem dX4_flow_96 : decode cX4_flow 96 = .ok (.invokestatic 80, 3) := by decide +kernel
theorem dX4_flow_99 : decode cX4_flow 99 = .ok (.istore 5, 2) := by decide +kernel
theorem dX4_flow_101 : decode cX4_flow 101 = .ok (.aload_n 0, 1) := by decide +kernel
theorem dX4_flow_102 : decode cX4_flow 102 = .ok (.getfield 16, 3) := by decide +kernel
theorem dX4_flow_105 : decode cX4_flow 105 = .ok (.iload_n 3, 1) := by decide +kernel
theorem dX4_flow_106 : decode cX4_flow 106 = .ok (.iconst 0, 1) := by decide +kernel
theorem dX4_flow_107 : decode cX4_flow 107 = .ok (.iadd, 1) := by decide +kernel
theorem dX4_flow_108 : decode cX4_flow 108 = .ok (.dup2, 1) := by decide +kernel
theorem dX4_flow_109 : decode cX4_flow 109 = .ok (.iaload, 1) := by decide +kernel
theorem dX4_flow_110 : decode cX4_flow 110 = .ok (.iload 5, 2) := by decide +kernel
theorem dX4_flow_112 : decode cX4_flow 112 = .ok (.isub, 1) := by decide +kernel
theorem dX4_flow_113 : decode cX4_flow 113 = .ok (.iastore, 1) := by decide +kernel
theorem dX4_flow_114 : decode cX4_flow 114 = .ok (.aload_n 0, 1) := by decide +kernel
theorem dX4_flow_115 : decode cX4_flow 115 = .ok (.getfield 16, 3) := by decide +kernel
theorem dX4_flow_118 : decode cX4_flow 118 = .ok (.iload_n 3, 1) := by decide +kernel
theorem dX4_flow_119 : decode cX4_flow 119 = .ok (.bipush 11, 2) := by decide +kernel
theorem dX4_flow_121 : decode cX4_flow 121 = .ok (.iadd, 1) := by decide +kernel
theorem dX4_flow_122 : decode cX4_flow 122 = .ok (.iload 5, 2) := by decide +kernel
theorem dX4_flow_124 : decode cX4_flow 124 = .ok (.iastore, 1) := by decide +kernel
theorem dX4_flow_125 : decode cX4_flow 125 = .ok (.aload_n 0, 1) := by decide +kernel
theorem dX4_flow_126 : decode cX4_flow 126 = .ok (.iload_n 1, 1) := by decide +kernel
theorem dX4_flow_127 : decode cX4_flow 127 = .ok (.iload_n 2, 1) := by decide +kernel
theorem dX4_flow_128 : decode cX4_flow 128 = .ok (.iconst 1, 1) := by decide +kernel
theorem dX4_flow_129 : decode cX4_flow 129 = .ok (.isub, 1) := by decide +kernel
theorem dX4_flow_130 : decode cX4_flow 130 = .ok (.iload 5, 2) := by decide +kernel
theorem dX4_flow_132 : decode cX4_flow 132 = .ok (.iconst 2, 1) := by decide +kernel
theorem dX4_flow_133 : decode cX4_flow 133 = .ok (.idiv, 1) := by decide +kernel
theorem dX4_flow_134 : decode cX4_flow 134 = .ok (.invokevirtual 83, 3) := by decide +kernel
theorem dX4_flow_137 : decode cX4_flow 137 = .ok (.aload_n 0, 1) := by decide +kernel
theorem dX4_flow_138 : decode cX4_flow 138 = .ok (.iload_n 1, 1) := by decide +kernel
theorem dX4_flow_139 : decode cX4_flow 139 = .ok (.iload_n 2, 1) := by decide +kernel
theorem dX4_flow_140 : decode cX4_flow 140 = .ok (.iconst 1, 1) := by decide +kernel
theorem dX4_flow_141 : decode cX4_flow 141 = .ok (.iadd, 1) := by decide +kernel
theorem dX4_flow_142 : decode cX4_flow 142 = .ok (.iload 5, 2) := by decide +kernel
theorem dX4_flow_144 : decode cX4_flow 144 = .ok (.iload 5, 2) := by decide +kernel
theorem dX4_flow_146 : decode cX4_flow 146 = .ok (.iconst 2, 1) := by decide +kernel
theorem dX4_flow_147 : decode cX4_flow 147 = .ok (.idiv, 1) := by decide +kernel
theorem dX4_flow_148 : decode cX4_flow 148 = .ok (.isub, 1) := by decide +kernel
theorem dX4_flow_149 : decode cX4_flow 149 = .ok (.invokevirtual 83, 3) := by decide +kernel
theorem dX4_flow_152 : decode cX4_flow 152 = .ok (.return_, 1) := by decide +kernel
set_option maxRecDepth 20000 in
theorem ggX4_growRice_X4_isIn : GoodIn wsX4_growRice wsX4_isIn := goodIn_r _ [13] (by decide +kernel) (by decide +kernel)
set_option maxRecDepth 20000 in
theorem gX4_growRice_X4_isIn : GoodIn wsX4_growRice (va_wsS RX4 42 yX4_isIn wsX4_isIn) := goodIn_app (goodIn_of _ (by decide +kernel)) ggX4_growRice_X4_isIn
set_option maxRecDepth 20000 in
theorem ggX4_growRice_X4_fallow : GoodIn wsX4_growRice wsX4_fallow := goodIn_r _ [17, 1, 18, 19, 20, 21, 22, 23, 24] (by decide +kernel) (by decide +kernel)
set_option maxRecDepth 20000 in
theorem gX4_growRice_X4_fallow : GoodIn wsX4_growRice (wsV RX4 76 RX4 yX4_fallow wsX4_fallow) := goodIn_app (goodIn_of _ (by decide +kernel)) ggX4_growRice_X4_fallow
theorem dX4_growRice_0 : decode cX4_growRice 0 = .ok (.aload_n 0, 1) := by decide +kernel
theorem dX4_growRice_1 : decode cX4_growRice 1 = .ok (.getfield 16, 3) := by decide +kernel
theorem dX4_growRice_4 : decode cX4_growRice 4 = .ok (.iload_n 1, 1) := by decide +kernel
theorem dX4_growRice_5 : decode cX4_growRice 5 = .ok (.bipush 6, 2) := by decide +kernel
theorem dX4_growRice_7 : decode cX4_growRice 7 = .ok (.iadd, 1) := by decide +kernel
theorem dX4_growRice_8 : decode cX4_growRice 8 = .ok (.dup2, 1) := by decide +kernel
theorem dX4_growRice_9 : decode cX4_growRice 9 = .ok (.iaload, 1) := by decide +kernel
theorem dX4_growRice_10 : decode cX4_growRice 10 = .ok (.iconst 1, 1) := by decide +kernel
theorem dX4_growRice_11 : decode cX4_growRice 11 = .ok (.iadd, 1) := by decide +kernel
theorem dX4_growRice_12 : decode cX4_growRice 12 = .ok (.iastore, 1) := by decide +kernel
theorem dX4_growRice_13 : decode cX4_growRice 13 = .ok (.aload_n 0, 1) := by decide +kernel
theorem dX4_growRice_14 : decode cX4_growRice 14 = .ok (.getfield 16, 3) := by decide +kernel
theorem dX4_growRice_17 : decode cX4_growRice 17 = .ok (.iload_n 1, 1) := by decide +kernel
theorem dX4_growRice_18 : decode cX4_growRice 18 = .ok (.iconst 0, 1) := by decide +kernel
theorem dX4_growRice_19 : decode cX4_growRice 19 = .ok (.iadd, 1) := by decide +kernel
theorem dX4_growRice_20 : decode cX4_growRice 20 = .ok (.iaload, 1) := by decide +kernel
theorem dX4_growRice_21 : decode cX4_growRice 21 = .ok (.istore_n 2, 1) := by decide +kernel
theorem dX4_growRice_22 : decode cX4_growRice 22 = .ok (.iload_n 2, 1) := by decide +kernel
theorem dX4_growRice_23 : decode cX4_growRice 23 = .ok (.bipush 45, 2) := by decide +kernel
theorem dX4_growRice_25 : decode cX4_growRice 25 = .ok (.iconst 5, 1) := by decide +kernel
theorem dX4_growRice_26 : decode cX4_growRice 26 = .ok (.aload_n 0, 1) := by decide +kernel
theorem dX4_growRice_27 : decode cX4_growRice 27 = .ok (.getfield 16, 3) := by decide +kernel
theorem dX4_growRice_30 : decode cX4_growRice 30 = .ok (.iload_n 1, 1) := by decide +kernel
theorem dX4_growRice_31 : decode cX4_growRice 31 = .ok (.bipush 6, 2) := by decide +kernel
theorem dX4_growRice_33 : decode cX4_growRice 33 = .ok (.iadd, 1) := by decide +kernel
theorem dX4_growRice_34 : decode cX4_growRice 34 = .ok (.iaload, 1) := by decide +kernel
theorem dX4_growRice_35 : decode cX4_growRice 35 = .ok (.iconst 2, 1) := by decide +kernel
theorem dX4_growRice_36 : decode cX4_growRice 36 = .ok (.imul, 1) := by decide +kernel
theorem dX4_growRice_37 : decode cX4_growRice 37 = .ok (.iconst 3, 1) := by decide +kernel
theorem dX4_growRice_38 : decode cX4_growRice 38 = .ok (.idiv, 1) := by decide +kernel
theorem dX4_growRice_39 : decode cX4_growRice 39 = .ok (.iadd, 1) := by decide +kernel
theorem dX4_growRice_40 : decode cX4_growRice 40 = .ok (.invokestatic 58, 3) := by decide +kernel
theorem dX4_growRice_43 : decode cX4_growRice 43 = .ok (.if_icmp .le 7, 3) := by decide +kernel
theorem dX4_growRice_46 : decode cX4_growRice 46 = .ok (.iconst 1, 1) := by decide +kernel
theorem dX4_growRice_47 : decode cX4_growRice 47 = .ok (.goto 4, 3) := by decide +kernel
theorem dX4_growRice_50 : decode cX4_growRice 50 = .ok (.iconst 0, 1) := by decide +kernel
theorem dX4_growRice_51 : decode cX4_growRice 51 = .ok (.istore_n 3, 1) := by decide +kernel
theorem dX4_growRice_52 : decode cX4_growRice 52 = .ok (.iload_n 2, 1) := by decide +kernel
theorem dX4_growRice_53 : decode cX4_growRice 53 = .ok (.ifCond .ne 7, 3) := by decide +kernel
theorem dX4_growRice_56 : decode cX4_growRice 56 = .ok (.iconst 1, 1) := by decide +kernel
theorem dX4_growRice_57 : decode cX4_growRice 57 = .ok (.goto 4, 3) := by decide +kernel
theorem dX4_growRice_60 : decode cX4_growRice 60 = .ok (.iconst 0, 1) := by decide +kernel
theorem dX4_growRice_61 : decode cX4_growRice 61 = .ok (.istore 4, 2) := by decide +kernel
theorem dX4_growRice_63 : decode cX4_growRice 63 = .ok (.aload_n 0, 1) := by decide +kernel
theorem dX4_growRice_64 : decode cX4_growRice 64 = .ok (.getfield 16, 3) := by decide +kernel
theorem dX4_growRice_67 : decode cX4_growRice 67 = .ok (.iload_n 1, 1) := by decide +kernel
theorem dX4_growRice_68 : decode cX4_growRice 68 = .ok (.bipush 8, 2) := by decide +kernel
theorem dX4_growRice_70 : decode cX4_growRice 70 = .ok (.iadd, 1) := by decide +kernel
theorem dX4_growRice_71 : decode cX4_growRice 71 = .ok (.iload_n 3, 1) := by decide +kernel
theorem dX4_growRice_72 : decode cX4_growRice 72 = .ok (.ifCond .eq 17, 3) := by decide +kernel
theorem dX4_growRice_75 : decode cX4_growRice 75 = .ok (.aload_n 0, 1) := by decide +kernel
theorem dX4_growRice_76 : decode cX4_growRice 76 = .ok (.getfield 16, 3) := by decide +kernel
theorem dX4_growRice_79 : decode cX4_growRice 79 = .ok (.iload_n 1, 1) := by decide +kernel
theorem dX4_growRice_80 : decode cX4_growRice 80 = .ok (.bipush 8, 2) := by decide +kernel
theorem dX4_growRice_82 : decode cX4_growRice 82 = .ok (.iadd, 1) := by decide +kernel
theorem dX4_growRice_83 : decode cX4_growRice 83 = .ok (.iaload, 1) := by decide +kernel
theorem dX4_growRice_84 : decode cX4_growRice 84 = .ok (.iconst 1, 1) := by decide +kernel
theorem dX4_growRice_85 : decode cX4_growRice 85 = .ok (.iadd, 1) := by decide +kernel
theorem dX4_growRice_86 : decode cX4_growRice 86 = .ok (.goto 4, 3) := by decide +kernel
theorem dX4_growRice_89 : decode cX4_growRice 89 = .ok (.iconst 0, 1) := by decide +kernel
theorem dX4_growRice_90 : decode cX4_growRice 90 = .ok (.iastore, 1) := by decide +kernel
theorem dX4_growRice_91 : decode cX4_growRice 91 = .ok (.aload_n 0, 1) := by decide +kernel
theorem dX4_growRice_92 : decode cX4_growRice 92 = .ok (.getfield 16, 3) := by decide +kernel
theorem dX4_growRice_95 : decode cX4_growRice 95 = .ok (.iload_n 1, 1) := by decide +kernel
theorem dX4_growRice_96 : decode cX4_growRice 96 = .ok (.bipush 9, 2) := by decide +kernel
theorem dX4_growRice_98 : decode cX4_growRice 98 = .ok (.iadd, 1) := by decide +kernel
theorem dX4_growRice_99 : decode cX4_growRice 99 = .ok (.iload 4, 2) := by decide +kernel
theorem dX4_growRice_101 : decode cX4_growRice 101 = .ok (.ifCond .eq 17, 3) := by decide +kernel
theorem dX4_growRice_104 : decode cX4_growRice 104 = .ok (.aload_n 0, 1) := by decide +kernel
theorem dX4_growRice_105 : decode cX4_growRice 105 = .ok (.getfield 16, 3) := by decide +kernel
theorem dX4_growRice_108 : decode cX4_growRice 108 = .ok (.iload_n 1, 1) := by decide +kernel
theorem dX4_growRice_109 : decode cX4_growRice 109 = .ok (.bipush 9, 2) := by decide +kernel
theorem dX4_growRice_111 : decode cX4_growRice 111 = .ok (.iadd, 1) := by decide +kernel
theorem dX4_growRice_112 : decode cX4_growRice 112 = .ok (.iaload, 1) := by decide +kernel
theorem dX4_growRice_113 : decode cX4_growRice 113 = .ok (.iconst 1, 1) := by decide +kernel
theorem dX4_growRice_114 : decode cX4_growRice 114 = .ok (.iadd, 1) := by decide +kernel
theorem dX4_growRice_115 : decode cX4_growRice 115 = .ok (.goto 4, 3) := by decide +kernel
theorem dX4_growRice_118 : decode cX4_growRice 118 = .ok (.iconst 0, 1) := by decide +kernel
theorem dX4_growRice_119 : decode cX4_growRice 119 = .ok (.iastore, 1) := by decide +kernel
theorem dX4_growRice_120 : decode cX4_growRice 120 = .ok (.iload_n 3, 1) := by decide +kernel
theorem dX4_growRice_121 : decode cX4_growRice 121 = .ok (.ifCond .ne 8, 3) := by decide +kernel
theorem dX4_growRice_124 : decode cX4_growRice 124 = .ok (.iload 4, 2) := by decide +kernel
theorem dX4_growRice_126 : decode cX4_growRice 126 = .ok (.ifCond .eq 8, 3) := by decide +kernel
theorem dX4_growRice_129 : decode cX4_growRice 129 = .ok (.bipush (-3), 2) := by decide +kernel
theorem dX4_growRice_131 : decode cX4_growRice 131 = .ok (.goto 18, 3) := by decide +kernel
theorem dX4_growRice_134 : decode cX4_growRice 134 = .ok (.iload_n 2, 1) := by decide +kernel
theorem dX4_growRice_135 : decode cX4_growRice 135 = .ok (.iconst 5, 1) := by decide +kernel
theorem dX4_growRice_136 : decode cX4_growRice 136 = .ok (.bipush 25, 2) := by decide +kernel
theorem dX4_growRice_138 : decode cX4_growRice 138 = .ok (.invokestatic 42, 3) := by decide +kernel
theorem dX4_growRice_141 : decode cX4_growRice 141 = .ok (.ifCond .eq 7, 3) := by decide +kernel
theorem dX4_growRice_144 : decode cX4_growRice 144 = .ok (.iconst 2, 1) := by decide +kernel
theorem dX4_growRice_145 : decode cX4_growRice 145 = .ok (.goto 4, 3) := by decide +kernel
theorem dX4_growRice_148 : decode cX4_growRice 148 = .ok (.iconst 1, 1) := by decide +kernel
theorem dX4_growRice_149 : decode cX4_growRice 149 = .ok (.istore 5, 2) := by decide +kernel
theorem dX4_growRice_151 : decode cX4_growRice 151 = .ok (.aload_n 0, 1) := by decide +kernel
theorem dX4_growRice_152 : decode cX4_growRice 152 = .ok (.getfield 16, 3) := by decide +kernel
theorem dX4_growRice_155 : decode cX4_growRice 155 = .ok (.iload_n 1, 1) := by decide +kernel
theorem dX4_growRice_156 : decode cX4_growRice 156 = .ok (.bipush 7, 2) := by decide +kernel
theorem dX4_growRice_158 : decode cX4_growRice 158 = .ok (.iadd, 1) := by decide +kernel
theorem dX4_growRice_159 : decode cX4_growRice 159 = .ok (.iconst 0, 1) := by decide +kernel
theorem dX4_growRice_160 : decode cX4_growRice 160 = .ok (.bipush 100, 2) := by decide +kernel
theorem dX4_growRice_162 : decode cX4_growRice 162 = .ok (.aload_n 0, 1) := by decide +kernel
theorem dX4_growRice_163 : decode cX4_growRice 163 = .ok (.getfield 16, 3) := by decide +kernel
theorem dX4_growRice_166 : decode cX4_growRice 166 = .ok (.iload_n 1, 1) := by decide +kernel
theorem dX4_growRice_167 : decode cX4_growRice 167 = .ok (.bipush 7, 2) := by decide +kernel
theorem dX4_growRice_169 : decode cX4_growRice 169 = .ok (.iadd, 1) := by decide +kernel
theorem dX4_growRice_170 : decode cX4_growRice 170 = .ok (.iaload, 1) := by decide +kernel
theorem dX4_growRice_171 : decode cX4_growRice 171 = .ok (.iload 5, 2) := by decide +kernel
theorem dX4_growRice_173 : decode cX4_growRice 173 = .ok (.iadd, 1) := by decide +kernel
theorem dX4_growRice_174 : decode cX4_growRice 174 = .ok (.invokestatic 58, 3) := by decide +kernel
theorem dX4_growRice_177 : decode cX4_growRice 177 = .ok (.invokestatic 80, 3) := by decide +kernel
theorem dX4_growRice_180 : decode cX4_growRice 180 = .ok (.iastore, 1) := by decide +kernel
theorem dX4_growRice_181 : decode cX4_growRice 181 = .ok (.aload_n 0, 1) := by decide +kernel
theorem dX4_growRice_182 : decode cX4_growRice 182 = .ok (.getfield 16, 3) := by decide +kernel
theorem dX4_growRice_185 : decode cX4_growRice 185 = .ok (.iload_n 1, 1) := by decide +kernel
theorem dX4_growRice_186 : decode cX4_growRice 186 = .ok (.bipush 8, 2) := by decide +kernel
theorem dX4_growRice_188 : decode cX4_growRice 188 = .ok (.iadd, 1) := by decide +kernel
theorem dX4_growRice_189 : decode cX4_growRice 189 = .ok (.iaload, 1) := by decide +kernel
theorem dX4_growRice_190 : decode cX4_growRice 190 = .ok (.iconst 4, 1) := by decide +kernel
theorem dX4_growRice_191 : decode cX4_growRice 191 = .ok (.if_icmp .ge 17, 3) := by decide +kernel
theorem dX4_growRice_194 : decode cX4_growRice 194 = .ok (.aload_n 0, 1) := by decide +kernel
theorem dX4_growRice_195 : decode cX4_growRice 195 = .ok (.getfield 16, 3) := by decide +kernel
theorem dX4_growRice_198 : decode cX4_growRice 198 = .ok (.iload_n 1, 1) := by decide +kernel
theorem dX4_growRice_199 : decode cX4_growRice 199 = .ok (.bipush 9, 2) := by decide +kernel
theorem dX4_growRice_201 : decode cX4_growRice 201 = .ok (.iadd, 1) := by decide +kernel
theorem dX4_growRice_202 : decode cX4_growRice 202 = .ok (.iaload, 1) := by decide +kernel
theorem dX4_growRice_203 : decode cX4_growRice 203 = .ok (.iconst 5, 1) := by decide +kernel
theorem dX4_growRice_204 : decode cX4_growRice 204 = .ok (.if_icmp .ge 4, 3) := by decide +kernel
theorem dX4_growRice_207 : decode cX4_growRice 207 = .ok (.return_, 1) := by decide +kernel
theorem dX4_growRice_208 : decode cX4_growRice 208 = .ok (.aload_n 0, 1) := by decide +kernel
theorem dX4_growRice_209 : decode cX4_growRice 209 = .ok (.iload_n 1, 1) := by decide +kernel
theorem dX4_growRice_210 : decode cX4_growRice 210 = .ok (.invokevirtual 76, 3) := by decide +kernel
theorem dX4_growRice_213 : decode cX4_growRice 213 = .ok (.aload_n 0, 1) := by decide +kernel
theorem dX4_growRice_214 : decode cX4_growRice 214 = .ok (.getfield 9, 3) := by decide +kernel
theorem dX4_growRice_217 : decode cX4_growRice 217 = .ok (.iconst 5, 1) := by decide +kernel
theorem dX4_growRice_218 : decode cX4_growRice 218 = .ok (.dup2, 1) := by decide +kernel
theorem dX4_growRice_219 : decode cX4_growRice 219 = .ok (.iaload, 1) := by decide +kernel
theorem dX4_growRice_220 : decode cX4_growRice 220 = .ok (.iconst 1, 1) := by decide +kernel
theorem dX4_growRice_221 : decode cX4_growRice 221 = .ok (.iadd, 1) := by decide +kernel
theorem dX4_growRice_222 : decode cX4_growRice 222 = .ok (.iastore, 1) := by decide +kernel
theorem dX4_growRice_223 : decode cX4_growRice 223 = .ok (.return_, 1) := by decide +kernel
set_option maxRecDepth 20000 in
theorem ggX4_dayOn_X4_many : GoodIn wsX4_dayOn wsX4_many := goodIn_r _ [16, 1, 44, 45, 46, 47, 48, 49, 50] (by decide +kernel) (by decide +kernel)
set_option maxRecDepth 20000 in
theorem gX4_dayOn_X4_many : GoodIn wsX4_dayOn (wsV RX4 69 RX4 yX4_many wsX4_many) := goodIn_app (goodIn_of _ (by decide +kernel)) ggX4_dayOn_X4_many
set_option maxRecDepth 20000 in
theorem ggX4_dayOn_X4_flow : GoodIn wsX4_dayOn wsX4_flow := goodIn_r _ [20, 3, 9, 10, 7, 11, 5, 6, 8, 21, 22, 23, 15, 24, 1, 25, 26, 27, 28, 29, 30, 31, 32, 33, 34, 35, 44, 45, 46, 47, 48, 49, 50] (by decide +kernel) (by decide +kernel)
set_option maxRecDepth 20000 in
theorem gX4_dayOn_X4_flow : GoodIn wsX4_dayOn (wsV RX4 87 RX4 yX4_flow wsX4_flow) := goodIn_app (goodIn_of _ (by decide +kernel)) ggX4_dayOn_X4_flow
set_option maxRecDepth 20000 in
theorem ggX4_dayOn_X4_growRice : GoodIn wsX4_dayOn wsX4_growRice := goodIn_r _ [39, 3, 9, 10, 7, 11, 5, 6, 8, 1, 33, 34, 15, 35, 40, 41, 42, 43, 44, 45, 46, 47, 48, 49, 50] (by decide +kernel) (by decide +kernel)
set_option maxRecDepth 20000 in
theorem gX4_dayOn_X4_growRice : GoodIn wsX4_dayOn (wsV RX4 90 RX4 yX4_growRice wsX4_growRice) := goodIn_app (goodIn_of _ (by decide +kernel)) ggX4_dayOn_X4_growRice
theorem dX4_dayOn_0 : decode cX4_dayOn 0 = .ok (.iconst 3, 1) := by decide +kernel
theorem dX4_dayOn_1 : decode cX4_dayOn 1 = .ok (.aload_n 0, 1) := by decide +kernel
theorem dX4_dayOn_2 : decode cX4_dayOn 2 = .ok (.getfield 9, 3) := by decide +kernel
theorem dX4_dayOn_5 : decode cX4_dayOn 5 = .ok (.iconst 2, 1) := by decide +kernel
theorem dX4_dayOn_6 : decode cX4_dayOn 6 = .ok (.iaload, 1) := by decide +kernel
theorem dX4_dayOn_7 : decode cX4_dayOn 7 = .ok (.bipush 30, 2) := by decide +kernel
theorem dX4_dayOn_9 : decode cX4_dayOn 9 = .ok (.irem, 1) := by decide +kernel
theorem dX4_dayOn_10 : decode cX4_dayOn 10 = .ok (.imul, 1) := by decide +kernel
theorem dX4_dayOn_11 : decode cX4_dayOn 11 = .ok (.istore_n 1, 1) := by decide +kernel
theorem dX4_dayOn_12 : decode cX4_dayOn 12 = .ok (.aload_n 0, 1) := by decide +kernel
theorem dX4_dayOn_13 : decode cX4_dayOn 13 = .ok (.getfield 9, 3) := by decide +kernel
theorem dX4_dayOn_16 : decode cX4_dayOn 16 = .ok (.iconst 2, 1) := by decide +kernel
theorem dX4_dayOn_17 : decode cX4_dayOn 17 = .ok (.dup2, 1) := by decide +kernel
theorem dX4_dayOn_18 : decode cX4_dayOn 18 = .ok (.iaload, 1) := by decide +kernel
theorem dX4_dayOn_19 : decode cX4_dayOn 19 = .ok (.iconst 1, 1) := by decide +kernel
theorem dX4_dayOn_20 : decode cX4_dayOn 20 = .ok (.iadd, 1) := by decide +kernel
theorem dX4_dayOn_21 : decode cX4_dayOn 21 = .ok (.iastore, 1) := by decide +kernel
theorem dX4_dayOn_22 : decode cX4_dayOn 22 = .ok (.iconst 0, 1) := by decide +kernel
theorem dX4_dayOn_23 : decode cX4_dayOn 23 = .ok (.istore_n 2, 1) := by decide +kernel
theorem dX4_dayOn_24 : decode cX4_dayOn 24 = .ok (.iconst 0, 1) := by decide +kernel
theorem dX4_dayOn_25 : decode cX4_dayOn 25 = .ok (.istore_n 3, 1) := by decide +kernel
theorem dX4_dayOn_26 : decode cX4_dayOn 26 = .ok (.iload_n 3, 1) := by decide +kernel
theorem dX4_dayOn_27 : decode cX4_dayOn 27 = .ok (.aload_n 0, 1) := by decide +kernel
theorem dX4_dayOn_28 : decode cX4_dayOn 28 = .ok (.getfield 9, 3) := by decide +kernel
theorem dX4_dayOn_31 : decode cX4_dayOn 31 = .ok (.iconst 1, 1) := by decide +kernel
theorem dX4_dayOn_32 : decode cX4_dayOn 32 = .ok (.iaload, 1) := by decide +kernel
theorem dX4_dayOn_33 : decode cX4_dayOn 33 = .ok (.if_icmp .ge 18, 3) := by decide +kernel
theorem dX4_dayOn_36 : decode cX4_dayOn 36 = .ok (.iload_n 2, 1) := by decide +kernel
theorem dX4_dayOn_37 : decode cX4_dayOn 37 = .ok (.aload_n 0, 1) := by decide +kernel
theorem dX4_dayOn_38 : decode cX4_dayOn 38 = .ok (.getfield 13, 3) := by decide +kernel
theorem dX4_dayOn_41 : decode cX4_dayOn 41 = .ok (.iload_n 3, 1) := by decide +kernel
theorem dX4_dayOn_42 : decode cX4_dayOn 42 = .ok (.iaload, 1) := by decide +kernel
theorem dX4_dayOn_43 : decode cX4_dayOn 43 = .ok (.iadd, 1) := by decide +kernel
theorem dX4_dayOn_44 : decode cX4_dayOn 44 = .ok (.istore_n 2, 1) := by decide +kernel
theorem dX4_dayOn_45 : decode cX4_dayOn 45 = .ok (.iinc 3 1, 3) := by decide +kernel
theorem dX4_dayOn_48 : decode cX4_dayOn 48 = .ok (.goto (-22), 3) := by decide +kernel
theorem dX4_dayOn_51 : decode cX4_dayOn 51 = .ok (.iconst 0, 1) := by decide +kernel
theorem dX4_dayOn_52 : decode cX4_dayOn 52 = .ok (.istore_n 3, 1) := by decide +kernel
theorem dX4_dayOn_53 : decode cX4_dayOn 53 = .ok (.iload_n 3, 1) := by decide +kernel
theorem dX4_dayOn_54 : decode cX4_dayOn 54 = .ok (.aload_n 0, 1) := by decide +kernel
theorem dX4_dayOn_55 : decode cX4_dayOn 55 = .ok (.invokevirtual 69, 3) := by decide +kernel
theorem dX4_dayOn_58 : decode cX4_dayOn 58 = .ok (.if_icmp .ge 65, 3) := by decide +kernel
theorem dX4_dayOn_61 : decode cX4_dayOn 61 = .ok (.aload_n 0, 1) := by decide +kernel
theorem dX4_dayOn_62 : decode cX4_dayOn 62 = .ok (.getfield 16, 3) := by decide +kernel
theorem dX4_dayOn_65 : decode cX4_dayOn 65 = .ok (.bipush 12, 2) := by decide +kernel
theorem dX4_dayOn_67 : decode cX4_dayOn 67 = .ok (.iload_n 3, 1) := by decide +kernel
theorem dX4_dayOn_68 : decode cX4_dayOn 68 = .ok (.imul, 1) := by decide +kernel
theorem dX4_dayOn_69 : decode cX4_dayOn 69 = .ok (.iconst 0, 1) := by decide +kernel
theorem dX4_dayOn_70 : decode cX4_dayOn 70 = .ok (.iadd, 1) := by decide +kernel
theorem dX4_dayOn_71 : decode cX4_dayOn 71 = .ok (.dup2, 1) := by decide +kernel
theorem dX4_dayOn_72 : decode cX4_dayOn 72 = .ok (.iaload, 1) := by decide +kernel
theorem dX4_dayOn_73 : decode cX4_dayOn 73 = .ok (.aload_n 0, 1) := by decide +kernel
theorem dX4_dayOn_74 : decode cX4_dayOn 74 = .ok (.getfield 19, 3) := by decide +kernel
theorem dX4_dayOn_77 : decode cX4_dayOn 77 = .ok (.iload_n 1, 1) := by decide +kernel
theorem dX4_dayOn_78 : decode cX4_dayOn 78 = .ok (.iaload, 1) := by decide +kernel
theorem dX4_dayOn_79 : decode cX4_dayOn 79 = .ok (.iload_n 3, 1) := by decide +kernel
theorem dX4_dayOn_80 : decode cX4_dayOn 80 = .ok (.aload_n 0, 1) := by decide +kernel
theorem dX4_dayOn_81 : decode cX4_dayOn 81 = .ok (.getfield 9, 3) := by decide +kernel
theorem dX4_dayOn_84 : decode cX4_dayOn 84 = .ok (.iconst 1, 1) := by decide +kernel
theorem dX4_dayOn_85 : decode cX4_dayOn 85 = .ok (.iaload, 1) := by decide +kernel
theorem dX4_dayOn_86 : decode cX4_dayOn 86 = .ok (.if_icmp .ge 27, 3) := by decide +kernel
theorem dX4_dayOn_89 : decode cX4_dayOn 89 = .ok (.iload_n 2, 1) := by decide +kernel
theorem dX4_dayOn_90 : decode cX4_dayOn 90 = .ok (.ifCond .le 23, 3) := by decide +kernel
theorem dX4_dayOn_93 : decode cX4_dayOn 93 = .ok (.aload_n 0, 1) := by decide +kernel
theorem dX4_dayOn_94 : decode cX4_dayOn 94 = .ok (.getfield 19, 3) := by decide +kernel
theorem dX4_dayOn_97 : decode cX4_dayOn 97 = .ok (.iload_n 1, 1) := by decide +kernel
theorem dX4_dayOn_98 : decode cX4_dayOn 98 = .ok (.iconst 1, 1) := by decide +kernel
theorem dX4_dayOn_99 : decode cX4_dayOn 99 = .ok (.iadd, 1) := by decide +kernel
theorem dX4_dayOn_100 : decode cX4_dayOn 100 = .ok (.iaload, 1) := by decide +kernel
theorem dX4_dayOn_101 : decode cX4_dayOn 101 = .ok (.aload_n 0, 1) := by decide +kernel
theorem dX4_dayOn_102 : decode cX4_dayOn 102 = .ok (.getfield 13, 3) := by decide +kernel
theorem dX4_dayOn_105 : decode cX4_dayOn 105 = .ok (.iload_n 3, 1) := by decide +kernel
theorem dX4_dayOn_106 : decode cX4_dayOn 106 = .ok (.iaload, 1) := by decide +kernel
theorem dX4_dayOn_107 : decode cX4_dayOn 107 = .ok (.imul, 1) := by decide +kernel
theorem dX4_dayOn_108 : decode cX4_dayOn 108 = .ok (.iload_n 2, 1) := by decide +kernel
theorem dX4_dayOn_109 : decode cX4_dayOn 109 = .ok (.idiv, 1) := by decide +kernel
theorem dX4_dayOn_110 : decode cX4_dayOn 110 = .ok (.goto 4, 3) := by decide +kernel
theorem dX4_dayOn_113 : decode cX4_dayOn 113 = .ok (.iconst 0, 1) := by decide +kernel
theorem dX4_dayOn_114 : decode cX4_dayOn 114 = .ok (.iadd, 1) := by decide +kernel
theorem dX4_dayOn_115 : decode cX4_dayOn 115 = .ok (.iadd, 1) := by decide +kernel
theorem dX4_dayOn_116 : decode cX4_dayOn 116 = .ok (.iastore, 1) := by decide +kernel
theorem dX4_dayOn_117 : decode cX4_dayOn 117 = .ok (.iinc 3 1, 3) := by decide +kernel
theorem dX4_dayOn_120 : decode cX4_dayOn 120 = .ok (.goto (-67), 3) := by decide +kernel
theorem dX4_dayOn_123 : decode cX4_dayOn 123 = .ok (.iconst 0, 1) := by decide +kernel
theorem dX4_dayOn_124 : decode cX4_dayOn 124 = .ok (.istore_n 3, 1) := by decide +kernel
theorem dX4_dayOn_125 : decode cX4_dayOn 125 = .ok (.iload_n 3, 1) := by decide +kernel
theorem dX4_dayOn_126 : decode cX4_dayOn 126 = .ok (.aload_n 0, 1) := by decide +kernel
theorem dX4_dayOn_127 : decode cX4_dayOn 127 = .ok (.getfield 9, 3) := by decide +kernel
theorem dX4_dayOn_130 : decode cX4_dayOn 130 = .ok (.iconst 0, 1) := by decide +kernel
theorem dX4_dayOn_131 : decode cX4_dayOn 131 = .ok (.iaload, 1) := by decide +kernel
theorem dX4_dayOn_132 : decode cX4_dayOn 132 = .ok (.if_icmp .ge 36, 3) := by decide +kernel
theorem dX4_dayOn_135 : decode cX4_dayOn 135 = .ok (.iconst 0, 1) := by decide +kernel
theorem dX4_dayOn_136 : decode cX4_dayOn 136 = .ok (.istore 4, 2) := by decide +kernel
theorem dX4_dayOn_138 : decode cX4_dayOn 138 = .ok (.iload 4, 2) := by decide +kernel
theorem dX4_dayOn_140 : decode cX4_dayOn 140 = .ok (.aload_n 0, 1) := by decide +kernel
theorem dX4_dayOn_141 : decode cX4_dayOn 141 = .ok (.getfield 9, 3) := by decide +kernel
theorem dX4_dayOn_144 : decode cX4_dayOn 144 = .ok (.iconst 1, 1) := by decide +kernel
theorem dX4_dayOn_145 : decode cX4_dayOn 145 = .ok (.iaload, 1) := by decide +kernel
theorem dX4_dayOn_146 : decode cX4_dayOn 146 = .ok (.if_icmp .ge 16, 3) := by decide +kernel
theorem dX4_dayOn_149 : decode cX4_dayOn 149 = .ok (.aload_n 0, 1) := by decide +kernel
theorem dX4_dayOn_150 : decode cX4_dayOn 150 = .ok (.iload_n 3, 1) := by decide +kernel
theorem dX4_dayOn_151 : decode cX4_dayOn 151 = .ok (.iload 4, 2) := by decide +kernel
theorem dX4_dayOn_153 : decode cX4_dayOn 153 = .ok (.invokevirtual 87, 3) := by decide +kernel
theorem dX4_dayOn_156 : decode cX4_dayOn 156 = .ok (.iinc 4 1, 3) := by decide +kernel
theorem dX4_dayOn_159 : decode cX4_dayOn 159 = .ok (.goto (-21), 3) := by decide +kernel
theorem dX4_dayOn_162 : decode cX4_dayOn 162 = .ok (.iinc 3 1, 3) := by decide +kernel
theorem dX4_dayOn_165 : decode cX4_dayOn 165 = .ok (.goto (-40), 3) := by decide +kernel
theorem dX4_dayOn_168 : decode cX4_dayOn 168 = .ok (.iconst 0, 1) := by decide +kernel
theorem dX4_dayOn_169 : decode cX4_dayOn 169 = .ok (.istore_n 3, 1) := by decide +kernel
theorem dX4_dayOn_170 : decode cX4_dayOn 170 = .ok (.iload_n 3, 1) := by decide +kernel
theorem dX4_dayOn_171 : decode cX4_dayOn 171 = .ok (.aload_n 0, 1) := by decide +kernel
theorem dX4_dayOn_172 : decode cX4_dayOn 172 = .ok (.invokevirtual 69, 3) := by decide +kernel
theorem dX4_dayOn_175 : decode cX4_dayOn 175 = .ok (.if_icmp .ge 104, 3) := by decide +kernel
theorem dX4_dayOn_178 : decode cX4_dayOn 178 = .ok (.bipush 12, 2) := by decide +kernel
theorem dX4_dayOn_180 : decode cX4_dayOn 180 = .ok (.iload_n 3, 1) := by decide +kernel
theorem dX4_dayOn_181 : decode cX4_dayOn 181 = .ok (.imul, 1) := by decide +kernel
theorem dX4_dayOn_182 : decode cX4_dayOn 182 = .ok (.istore 4, 2) := by decide +kernel
theorem dX4_dayOn_184 : decode cX4_dayOn 184 = .ok (.iconst 0, 1) := by decide +kernel
theorem dX4_dayOn_185 : decode cX4_dayOn 185 = .ok (.aload_n 0, 1) := by decide +kernel
theorem dX4_dayOn_186 : decode cX4_dayOn 186 = .ok (.getfield 16, 3) := by decide +kernel
theorem dX4_dayOn_189 : decode cX4_dayOn 189 = .ok (.iload 4, 2) := by decide +kernel
theorem dX4_dayOn_191 : decode cX4_dayOn 191 = .ok (.iconst 0, 1) := by decide +kernel
theorem dX4_dayOn_192 : decode cX4_dayOn 192 = .ok (.iadd, 1) := by decide +kernel
theorem dX4_dayOn_193 : decode cX4_dayOn 193 = .ok (.iaload, 1) := by decide +kernel
theorem dX4_dayOn_194 : decode cX4_dayOn 194 = .ok (.aload_n 0, 1) := by decide +kernel
theorem dX4_dayOn_195 : decode cX4_dayOn 195 = .ok (.getfield 16, 3) := by decide +kernel
theorem dX4_dayOn_198 : decode cX4_dayOn 198 = .ok (.iload 4, 2) := by decide +kernel
theorem dX4_dayOn_200 : decode cX4_dayOn 200 = .ok (.iconst 2, 1) := by decide +kernel
theorem dX4_dayOn_201 : decode cX4_dayOn 201 = .ok (.iadd, 1) := by decide +kernel
theorem dX4_dayOn_202 : decode cX4_dayOn 202 = .ok (.iaload, 1) := by decide +kernel
theorem dX4_dayOn_203 : decode cX4_dayOn 203 = .ok (.isub, 1) := by decide +kernel
theorem dX4_dayOn_204 : decode cX4_dayOn 204 = .ok (.aload_n 0, 1) := by decide +kernel
theorem dX4_dayOn_205 : decode cX4_dayOn 205 = .ok (.getfield 19, 3) := by decide +kernel
theorem dX4_dayOn_208 : decode cX4_dayOn 208 = .ok (.iload_n 1, 1) := by decide +kernel
theorem dX4_dayOn_209 : decode cX4_dayOn 209 = .ok (.iconst 2, 1) := by decide +kernel
theorem dX4_dayOn_210 : decode cX4_dayOn 210 = .ok (.iadd, 1) := by decide +kernel
theorem dX4_dayOn_211 : decode cX4_dayOn 211 = .ok (.iaload, 1) := by decide +kernel
theorem dX4_dayOn_212 : decode cX4_dayOn 212 = .ok (.isub, 1) := by decide +kernel
theorem dX4_dayOn_213 : decode cX4_dayOn 213 = .ok (.invokestatic 80, 3) := by decide +kernel
theorem dX4_dayOn_216 : decode cX4_dayOn 216 = .ok (.istore 5, 2) := by decide +kernel
theorem dX4_dayOn_218 : decode cX4_dayOn 218 = .ok (.aload_n 0, 1) := by decide +kernel
theorem dX4_dayOn_219 : decode cX4_dayOn 219 = .ok (.getfield 9, 3) := by decide +kernel
theorem dX4_dayOn_222 : decode cX4_dayOn 222 = .ok (.iconst 3, 1) := by decide +kernel
theorem dX4_dayOn_223 : decode cX4_dayOn 223 = .ok (.dup2, 1) := by decide +kernel
theorem dX4_dayOn_224 : decode cX4_dayOn 224 = .ok (.iaload, 1) := by decide +kernel
theorem dX4_dayOn_225 : decode cX4_dayOn 225 = .ok (.iconst 0, 1) := by decide +kernel
theorem dX4_dayOn_226 : decode cX4_dayOn 226 = .ok (.iload 5, 2) := by decide +kernel
theorem dX4_dayOn_228 : decode cX4_dayOn 228 = .ok (.sipush 200, 3) := by decide +kernel
theorem dX4_dayOn_231 : decode cX4_dayOn 231 = .ok (.isub, 1) := by decide +kernel
theorem dX4_dayOn_232 : decode cX4_dayOn 232 = .ok (.invokestatic 80, 3) := by decide +kernel
theorem dX4_dayOn_235 : decode cX4_dayOn 235 = .ok (.iadd, 1) := by decide +kernel
theorem dX4_dayOn_236 : decode cX4_dayOn 236 = .ok (.iastore, 1) := by decide +kernel
theorem dX4_dayOn_237 : decode cX4_dayOn 237 = .ok (.aload_n 0, 1) := by decide +kernel
theorem dX4_dayOn_238 : decode cX4_dayOn 238 = .ok (.getfield 16, 3) := by decide +kernel
theorem dX4_dayOn_241 : decode cX4_dayOn 241 = .ok (.iload 4, 2) := by decide +kernel
theorem dX4_dayOn_243 : decode cX4_dayOn 243 = .ok (.iconst 0, 1) := by decide +kernel
theorem dX4_dayOn_244 : decode cX4_dayOn 244 = .ok (.iadd, 1) := by decide +kernel
theorem dX4_dayOn_245 : decode cX4_dayOn 245 = .ok (.sipush 200, 3) := by decide +kernel
theorem dX4_dayOn_248 : decode cX4_dayOn 248 = .ok (.iload 5, 2) := by decide +kernel
theorem dX4_dayOn_250 : decode cX4_dayOn 250 = .ok (.invokestatic 58, 3) := by decide +kernel
theorem dX4_dayOn_253 : decode cX4_dayOn 253 = .ok (.iastore, 1) := by decide +kernel
theorem dX4_dayOn_254 : decode cX4_dayOn 254 = .ok (.aload_n 0, 1) := by decide +kernel
theorem dX4_dayOn_255 : decode cX4_dayOn 255 = .ok (.getfield 16, 3) := by decide +kernel
theorem dX4_dayOn_258 : decode cX4_dayOn 258 = .ok (.iload 4, 2) := by decide +kernel
theorem dX4_dayOn_260 : decode cX4_dayOn 260 = .ok (.iconst 5, 1) := by decide +kernel
theorem dX4_dayOn_261 : decode cX4_dayOn 261 = .ok (.iadd, 1) := by decide +kernel
theorem dX4_dayOn_262 : decode cX4_dayOn 262 = .ok (.iaload, 1) := by decide +kernel
theorem dX4_dayOn_263 : decode cX4_dayOn 263 = .ok (.iconst 1, 1) := by decide +kernel
theorem dX4_dayOn_264 : decode cX4_dayOn 264 = .ok (.if_icmp .ne 9, 3) := by decide +kernel
theorem dX4_dayOn_267 : decode cX4_dayOn 267 = .ok (.aload_n 0, 1) := by decide +kernel
theorem dX4_dayOn_268 : decode cX4_dayOn 268 = .ok (.iload 4, 2) := by decide +kernel
theorem dX4_dayOn_270 : decode cX4_dayOn 270 = .ok (.invokevirtual 90, 3) := by decide +kernel
theorem dX4_dayOn_273 : decode cX4_dayOn 273 = .ok (.iinc 3 1, 3) := by decide +kernel
theorem dX4_dayOn_276 : decode cX4_dayOn 276 = .ok (.goto (-106), 3) := by decide +kernel
theorem dX4_dayOn_279 : decode cX4_dayOn 279 = .ok (.return_, 1) := by decide +kernel
set_option maxRecDepth 20000 in
theorem ggX4_pass_X4_isIn : GoodIn wsX4_pass wsX4_isIn := goodIn_r _ [6] (by decide +kernel) (by decide +kernel)
set_option maxRecDepth 20000 in
theorem gX4_pass_X4_isIn : GoodIn wsX4_pass (va_wsS RX4 42 yX4_isIn wsX4_isIn) := goodIn_app (goodIn_of _ (by decide +kernel)) ggX4_pass_X4_isIn
set_option maxRecDepth 20000 in
theorem ggX4_pass_X4_fail : GoodIn wsX4_pass wsX4_fail := goodIn_r _ [10, 1, 57, 58, 59, 60, 61, 62, 63] (by decide +kernel) (by decide +kernel)
set_option maxRecDepth 20000 in
theorem gX4_pass_X4_fail : GoodIn wsX4_pass (wsV RX4 46 RX4 yX4_fail wsX4_fail) := goodIn_app (goodIn_of _ (by decide +kernel)) ggX4_pass_X4_fail
set_option maxRecDepth 20000 in
theorem ggX4_pass_X4_dayOn : GoodIn wsX4_pass wsX4_dayOn := goodIn_r _ [14, 2, 15, 16, 17, 18, 19, 20, 21, 22, 23, 24, 25, 26, 27, 5, 28, 29, 30, 31, 32, 33, 34, 35, 36, 37, 38, 39, 40, 41, 42, 43, 44, 3, 4, 6, 45, 46, 47, 48, 49, 50, 51, 52, 57, 58, 59, 60, 61, 62, 63] (by decide +kernel) (by decide +kernel)
set_option maxRecDepth 20000 in
theorem gX4_pass_X4_dayOn : GoodIn wsX4_pass (wsV RX4 93 RX4 yX4_dayOn wsX4_dayOn) := goodIn_app (goodIn_of _ (by decide +kernel)) ggX4_pass_X4_dayOn
set_option maxRecDepth 20000 in
theorem ggX4_pass_X4_sum : GoodIn wsX4_pass wsX4_sum := goodIn_r _ [56, 16, 25, 26, 27, 5, 28, 2, 57, 58, 59, 60, 61, 62, 63] (by decide +kernel) (by decide +kernel)
set_option maxRecDepth 20000 in
theorem gX4_pass_X4_sum : GoodIn wsX4_pass (wsV RX4 73 RX4 yX4_sum wsX4_sum) := goodIn_app (goodIn_of _ (by decide +kernel)) ggX4_pass_X4_sum
theorem dX4_pass_0 : decode cX4_pass 0 = .ok (.aload_n 0, 1) := by decide +kernel
theorem dX4_pass_1 : decode cX4_pass 1 = .ok (.iconst 0, 1) := by decide +kernel
theorem dX4_pass_2 : decode cX4_pass 2 = .ok (.putfield 38, 3) := by decide +kernel
theorem dX4_pass_5 : decode cX4_pass 5 = .ok (.iload_n 1, 1) := by decide +kernel
theorem dX4_pass_6 : decode cX4_pass 6 = .ok (.iconst 1, 1) := by decide +kernel
theorem dX4_pass_7 : decode cX4_pass 7 = .ok (.bipush 60, 2) := by decide +kernel
theorem dX4_pass_9 : decode cX4_pass 9 = .ok (.invokestatic 42, 3) := by decide +kernel
theorem dX4_pass_12 : decode cX4_pass 12 = .ok (.ifCond .ne 9, 3) := by decide +kernel
theorem dX4_pass_15 : decode cX4_pass 15 = .ok (.aload_n 0, 1) := by decide +kernel
theorem dX4_pass_16 : decode cX4_pass 16 = .ok (.iconst 1, 1) := by decide +kernel
theorem dX4_pass_17 : decode cX4_pass 17 = .ok (.invokevirtual 46, 3) := by decide +kernel
theorem dX4_pass_20 : decode cX4_pass 20 = .ok (.ireturn, 1) := by decide +kernel
theorem dX4_pass_21 : decode cX4_pass 21 = .ok (.aload_n 0, 1) := by decide +kernel
theorem dX4_pass_22 : decode cX4_pass 22 = .ok (.getfield 9, 3) := by decide +kernel
theorem dX4_pass_25 : decode cX4_pass 25 = .ok (.iconst 2, 1) := by decide +kernel
theorem dX4_pass_26 : decode cX4_pass 26 = .ok (.iaload, 1) := by decide +kernel
theorem dX4_pass_27 : decode cX4_pass 27 = .ok (.iload_n 1, 1) := by decide +kernel
theorem dX4_pass_28 : decode cX4_pass 28 = .ok (.iadd, 1) := by decide +kernel
theorem dX4_pass_29 : decode cX4_pass 29 = .ok (.sipush 2000, 3) := by decide +kernel
theorem dX4_pass_32 : decode cX4_pass 32 = .ok (.if_icmp .le 9, 3) := by decide +kernel
theorem dX4_pass_35 : decode cX4_pass 35 = .ok (.aload_n 0, 1) := by decide +kernel
theorem dX4_pass_36 : decode cX4_pass 36 = .ok (.iconst 2, 1) := by decide +kernel
theorem dX4_pass_37 : decode cX4_pass 37 = .ok (.invokevirtual 46, 3) := by decide +kernel
theorem dX4_pass_40 : decode cX4_pass 40 = .ok (.ireturn, 1) := by decide +kernel
theorem dX4_pass_41 : decode cX4_pass 41 = .ok (.iconst 0, 1) := by decide +kernel
theorem dX4_pass_42 : decode cX4_pass 42 = .ok (.istore_n 2, 1) := by decide +kernel
theorem dX4_pass_43 : decode cX4_pass 43 = .ok (.iload_n 2, 1) := by decide +kernel
theorem dX4_pass_44 : decode cX4_pass 44 = .ok (.iload_n 1, 1) := by decide +kernel
theorem dX4_pass_45 : decode cX4_pass 45 = .ok (.if_icmp .ge 13, 3) := by decide +kernel
theorem dX4_pass_48 : decode cX4_pass 48 = .ok (.aload_n 0, 1) := by decide +kernel
end
section
theorem dX4_pass_49 : decode cX4_pass 49 = .ok (.invokevirtual 93, 3) := by decide +kernel
theorem dX4_pass_52 : decode cX4_pass 52 = .ok (.iinc 2 1, 3) := by decide +kernel
theorem dX4_pass_55 : decode cX4_pass 55 = .ok (.goto (-12), 3) := by decide +kernel
theorem dX4_pass_58 : decode cX4_pass 58 = .ok (.aload_n 0, 1) := by decide +kernel
theorem dX4_pass_59 : decode cX4_pass 59 = .ok (.iconst 5, 1) := by decide +kernel
theorem dX4_pass_60 : decode cX4_pass 60 = .ok (.invokevirtual 73, 3) := by decide +kernel
theorem dX4_pass_63 : decode cX4_pass 63 = .ok (.ireturn, 1) := by decide +kernel
set_option maxRecDepth 20000 in
theorem ggX4_field_X4_isField : GoodIn wsX4_field wsX4_isField := goodIn_r _ [7, 8, 9, 10, 6, 11, 20, 21, 22, 23, 24, 25, 26] (by decide +kernel) (by decide +kernel)
set_option maxRecDepth 20000 in
theorem gX4_field_X4_isField : GoodIn wsX4_field (wsV RX4 50 RX4 yX4_isField wsX4_isField) := goodIn_app (goodIn_of _ (by decide +kernel)) ggX4_field_X4_isField
set_option maxRecDepth 20000 in
theorem ggX4_field_X4_isIn : GoodIn wsX4_field wsX4_isIn := goodIn_r _ [11] (by decide +kernel) (by decide +kernel)
set_option maxRecDepth 20000 in
theorem gX4_field_X4_isIn : GoodIn wsX4_field (va_wsS RX4 42 yX4_isIn wsX4_isIn) := goodIn_app (goodIn_of _ (by decide +kernel)) ggX4_field_X4_isIn
set_option maxRecDepth 20000 in
theorem ggX4_field_X4_at : GoodIn wsX4_field wsX4_at := goodIn_r _ [15, 8, 20, 21, 22, 23, 24, 25, 26] (by decide +kernel) (by decide +kernel)
set_option maxRecDepth 20000 in
theorem gX4_field_X4_at : GoodIn wsX4_field (wsV RX4 54 RX4 yX4_at wsX4_at) := goodIn_app (goodIn_of _ (by decide +kernel)) ggX4_field_X4_at
set_option maxRecDepth 20000 in
theorem ggX4_field_X4_fail : GoodIn wsX4_field wsX4_fail := goodIn_r _ [19, 1, 20, 21, 22, 23, 24, 25, 26] (by decide +kernel) (by decide +kernel)
set_option maxRecDepth 20000 in
theorem gX4_field_X4_fail : GoodIn wsX4_field (wsV RX4 46 RX4 yX4_fail wsX4_fail) := goodIn_app (goodIn_of _ (by decide +kernel)) ggX4_field_X4_fail
theorem dX4_field_0 : decode cX4_field 0 = .ok (.aload_n 0, 1) := by decide +kernel
theorem dX4_field_1 : decode cX4_field 1 = .ok (.iconst 0, 1) := by decide +kernel
theorem dX4_field_2 : decode cX4_field 2 = .ok (.putfield 38, 3) := by decide +kernel
theorem dX4_field_5 : decode cX4_field 5 = .ok (.aload_n 0, 1) := by decide +kernel
theorem dX4_field_6 : decode cX4_field 6 = .ok (.iload_n 1, 1) := by decide +kernel
theorem dX4_field_7 : decode cX4_field 7 = .ok (.iload_n 2, 1) := by decide +kernel
theorem dX4_field_8 : decode cX4_field 8 = .ok (.invokevirtual 50, 3) := by decide +kernel
theorem dX4_field_11 : decode cX4_field 11 = .ok (.ifCond .eq 29, 3) := by decide +kernel
theorem dX4_field_14 : decode cX4_field 14 = .ok (.iload_n 3, 1) := by decide +kernel
theorem dX4_field_15 : decode cX4_field 15 = .ok (.iconst 0, 1) := by decide +kernel
theorem dX4_field_16 : decode cX4_field 16 = .ok (.bipush 11, 2) := by decide +kernel
theorem dX4_field_18 : decode cX4_field 18 = .ok (.invokestatic 42, 3) := by decide +kernel
theorem dX4_field_21 : decode cX4_field 21 = .ok (.ifCond .eq 19, 3) := by decide +kernel
theorem dX4_field_24 : decode cX4_field 24 = .ok (.aload_n 0, 1) := by decide +kernel
theorem dX4_field_25 : decode cX4_field 25 = .ok (.getfield 16, 3) := by decide +kernel
theorem dX4_field_28 : decode cX4_field 28 = .ok (.aload_n 0, 1) := by decide +kernel
theorem dX4_field_29 : decode cX4_field 29 = .ok (.iload_n 1, 1) := by decide +kernel
theorem dX4_field_30 : decode cX4_field 30 = .ok (.iload_n 2, 1) := by decide +kernel
theorem dX4_field_31 : decode cX4_field 31 = .ok (.invokevirtual 54, 3) := by decide +kernel
theorem dX4_field_34 : decode cX4_field 34 = .ok (.iload_n 3, 1) := by decide +kernel
theorem dX4_field_35 : decode cX4_field 35 = .ok (.iadd, 1) := by decide +kernel
theorem dX4_field_36 : decode cX4_field 36 = .ok (.iaload, 1) := by decide +kernel
theorem dX4_field_37 : decode cX4_field 37 = .ok (.goto 8, 3) := by decide +kernel
theorem dX4_field_40 : decode cX4_field 40 = .ok (.aload_n 0, 1) := by decide +kernel
theorem dX4_field_41 : decode cX4_field 41 = .ok (.iconst 1, 1) := by decide +kernel
theorem dX4_field_42 : decode cX4_field 42 = .ok (.invokevirtual 46, 3) := by decide +kernel
theorem dX4_field_45 : decode cX4_field 45 = .ok (.ireturn, 1) := by decide +kernel
set_option maxRecDepth 20000 in
theorem ggX4_counted_X4_sum : GoodIn wsX4_counted wsX4_sum := goodIn_r _ [6, 7, 8, 9, 10, 5, 11, 1, 12, 13, 14, 15, 16, 17, 18] (by decide +kernel) (by decide +kernel)
set_option maxRecDepth 20000 in
theorem gX4_counted_X4_sum : GoodIn wsX4_counted (wsV RX4 73 RX4 yX4_sum wsX4_sum) := goodIn_app (goodIn_of _ (by decide +kernel)) ggX4_counted_X4_sum
theorem dX4_counted_0 : decode cX4_counted 0 = .ok (.iload_n 1, 1) := by decide +kernel
theorem dX4_counted_1 : decode cX4_counted 1 = .ok (.iconst 3, 1) := by decide +kernel
theorem dX4_counted_2 : decode cX4_counted 2 = .ok (.if_icmp .ge 10, 3) := by decide +kernel
theorem dX4_counted_5 : decode cX4_counted 5 = .ok (.aload_n 0, 1) := by decide +kernel
theorem dX4_counted_6 : decode cX4_counted 6 = .ok (.getfield 9, 3) := by decide +kernel
theorem dX4_counted_9 : decode cX4_counted 9 = .ok (.iload_n 1, 1) := by decide +kernel
theorem dX4_counted_10 : decode cX4_counted 10 = .ok (.iaload, 1) := by decide +kernel
theorem dX4_counted_11 : decode cX4_counted 11 = .ok (.ireturn, 1) := by decide +kernel
theorem dX4_counted_12 : decode cX4_counted 12 = .ok (.iload_n 1, 1) := by decide +kernel
theorem dX4_counted_13 : decode cX4_counted 13 = .ok (.iconst 3, 1) := by decide +kernel
theorem dX4_counted_14 : decode cX4_counted 14 = .ok (.if_icmp .ne 11, 3) := by decide +kernel
theorem dX4_counted_17 : decode cX4_counted 17 = .ok (.aload_n 0, 1) := by decide +kernel
theorem dX4_counted_18 : decode cX4_counted 18 = .ok (.iconst 5, 1) := by decide +kernel
theorem dX4_counted_19 : decode cX4_counted 19 = .ok (.invokevirtual 73, 3) := by decide +kernel
theorem dX4_counted_22 : decode cX4_counted 22 = .ok (.goto 24, 3) := by decide +kernel
theorem dX4_counted_25 : decode cX4_counted 25 = .ok (.iload_n 1, 1) := by decide +kernel
theorem dX4_counted_26 : decode cX4_counted 26 = .ok (.iconst 4, 1) := by decide +kernel
theorem dX4_counted_27 : decode cX4_counted 27 = .ok (.if_icmp .ne 11, 3) := by decide +kernel
theorem dX4_counted_30 : decode cX4_counted 30 = .ok (.aload_n 0, 1) := by decide +kernel
theorem dX4_counted_31 : decode cX4_counted 31 = .ok (.iconst 0, 1) := by decide +kernel
theorem dX4_counted_32 : decode cX4_counted 32 = .ok (.invokevirtual 73, 3) := by decide +kernel
theorem dX4_counted_35 : decode cX4_counted 35 = .ok (.goto 11, 3) := by decide +kernel
theorem dX4_counted_38 : decode cX4_counted 38 = .ok (.aload_n 0, 1) := by decide +kernel
theorem dX4_counted_39 : decode cX4_counted 39 = .ok (.getfield 9, 3) := by decide +kernel
theorem dX4_counted_42 : decode cX4_counted 42 = .ok (.iload_n 1, 1) := by decide +kernel
theorem dX4_counted_43 : decode cX4_counted 43 = .ok (.iconst 2, 1) := by decide +kernel
theorem dX4_counted_44 : decode cX4_counted 44 = .ok (.isub, 1) := by decide +kernel
theorem dX4_counted_45 : decode cX4_counted 45 = .ok (.iaload, 1) := by decide +kernel
theorem dX4_counted_46 : decode cX4_counted 46 = .ok (.ireturn, 1) := by decide +kernel
set_option maxRecDepth 20000 in
theorem ggX4_count_X4_isIn : GoodIn wsX4_count wsX4_isIn := goodIn_r _ [5] (by decide +kernel) (by decide +kernel)
set_option maxRecDepth 20000 in
theorem gX4_count_X4_isIn : GoodIn wsX4_count (va_wsS RX4 42 yX4_isIn wsX4_isIn) := goodIn_app (goodIn_of _ (by decide +kernel)) ggX4_count_X4_isIn
set_option maxRecDepth 20000 in
theorem ggX4_count_X4_counted : GoodIn wsX4_count wsX4_counted := goodIn_r _ [9, 10, 11, 12, 13, 4, 14, 15, 16, 17, 18, 19, 24, 25, 26, 27, 28, 29, 30] (by decide +kernel) (by decide +kernel)
set_option maxRecDepth 20000 in
theorem gX4_count_X4_counted : GoodIn wsX4_count (wsV RX4 96 RX4 yX4_counted wsX4_counted) := goodIn_app (goodIn_of _ (by decide +kernel)) ggX4_count_X4_counted
set_option maxRecDepth 20000 in
theorem ggX4_count_X4_fail : GoodIn wsX4_count wsX4_fail := goodIn_r _ [23, 1, 24, 25, 26, 27, 28, 29, 30] (by decide +kernel) (by decide +kernel)
set_option maxRecDepth 20000 in
theorem gX4_count_X4_fail : GoodIn wsX4_count (wsV RX4 46 RX4 yX4_fail wsX4_fail) := goodIn_app (goodIn_of _ (by decide +kernel)) ggX4_count_X4_fail
theorem dX4_count_0 : decode cX4_count 0 = .ok (.aload_n 0, 1) := by decide +kernel
theorem dX4_count_1 : decode cX4_count 1 = .ok (.iconst 0, 1) := by decide +kernel
theorem dX4_count_2 : decode cX4_count 2 = .ok (.putfield 38, 3) := by decide +kernel
theorem dX4_count_5 : decode cX4_count 5 = .ok (.iload_n 1, 1) := by decide +kernel
theorem dX4_count_6 : decode cX4_count 6 = .ok (.iconst 0, 1) := by decide +kernel
theorem dX4_count_7 : decode cX4_count 7 = .ok (.bipush 8, 2) := by decide +kernel
theorem dX4_count_9 : decode cX4_count 9 = .ok (.invokestatic 42, 3) := by decide +kernel
theorem dX4_count_12 : decode cX4_count 12 = .ok (.ifCond .eq 11, 3) := by decide +kernel
theorem dX4_count_15 : decode cX4_count 15 = .ok (.aload_n 0, 1) := by decide +kernel
theorem dX4_count_16 : decode cX4_count 16 = .ok (.iload_n 1, 1) := by decide +kernel
theorem dX4_count_17 : decode cX4_count 17 = .ok (.invokevirtual 96, 3) := by decide +kernel
theorem dX4_count_20 : decode cX4_count 20 = .ok (.goto 8, 3) := by decide +kernel
theorem dX4_count_23 : decode cX4_count 23 = .ok (.aload_n 0, 1) := by decide +kernel
theorem dX4_count_24 : decode cX4_count 24 = .ok (.iconst 1, 1) := by decide +kernel
theorem dX4_count_25 : decode cX4_count 25 = .ok (.invokevirtual 46, 3) := by decide +kernel
theorem dX4_count_28 : decode cX4_count 28 = .ok (.ireturn, 1) := by decide +kernel
set_option maxRecDepth 20000 in
theorem ggX4_weather_X4_isIn : GoodIn wsX4_weather wsX4_isIn := goodIn_r _ [6] (by decide +kernel) (by decide +kernel)
set_option maxRecDepth 20000 in
theorem gX4_weather_X4_isIn : GoodIn wsX4_weather (va_wsS RX4 42 yX4_isIn wsX4_isIn) := goodIn_app (goodIn_of _ (by decide +kernel)) ggX4_weather_X4_isIn
set_option maxRecDepth 20000 in
theorem ggX4_weather_X4_fail : GoodIn wsX4_weather wsX4_fail := goodIn_r _ [10, 1, 11, 12, 13, 14, 15, 16, 17] (by decide +kernel) (by decide +kernel)
set_option maxRecDepth 20000 in
theorem gX4_weather_X4_fail : GoodIn wsX4_weather (wsV RX4 46 RX4 yX4_fail wsX4_fail) := goodIn_app (goodIn_of _ (by decide +kernel)) ggX4_weather_X4_fail
theorem dX4_weather_0 : decode cX4_weather 0 = .ok (.aload_n 0, 1) := by decide +kernel
theorem dX4_weather_1 : decode cX4_weather 1 = .ok (.iconst 0, 1) := by decide +kernel
theorem dX4_weather_2 : decode cX4_weather 2 = .ok (.putfield 38, 3) := by decide +kernel
theorem dX4_weather_5 : decode cX4_weather 5 = .ok (.iload_n 1, 1) := by decide +kernel
theorem dX4_weather_6 : decode cX4_weather 6 = .ok (.iconst 0, 1) := by decide +kernel
theorem dX4_weather_7 : decode cX4_weather 7 = .ok (.bipush 29, 2) := by decide +kernel
theorem dX4_weather_9 : decode cX4_weather 9 = .ok (.invokestatic 42, 3) := by decide +kernel
theorem dX4_weather_12 : decode cX4_weather 12 = .ok (.ifCond .eq 25, 3) := by decide +kernel
theorem dX4_weather_15 : decode cX4_weather 15 = .ok (.iload_n 2, 1) := by decide +kernel
theorem dX4_weather_16 : decode cX4_weather 16 = .ok (.iconst 0, 1) := by decide +kernel
theorem dX4_weather_17 : decode cX4_weather 17 = .ok (.iconst 2, 1) := by decide +kernel
theorem dX4_weather_18 : decode cX4_weather 18 = .ok (.invokestatic 42, 3) := by decide +kernel
theorem dX4_weather_21 : decode cX4_weather 21 = .ok (.ifCond .eq 16, 3) := by decide +kernel
theorem dX4_weather_24 : decode cX4_weather 24 = .ok (.aload_n 0, 1) := by decide +kernel
theorem dX4_weather_25 : decode cX4_weather 25 = .ok (.getfield 19, 3) := by decide +kernel
theorem dX4_weather_28 : decode cX4_weather 28 = .ok (.iconst 3, 1) := by decide +kernel
theorem dX4_weather_29 : decode cX4_weather 29 = .ok (.iload_n 1, 1) := by decide +kernel
theorem dX4_weather_30 : decode cX4_weather 30 = .ok (.imul, 1) := by decide +kernel
theorem dX4_weather_31 : decode cX4_weather 31 = .ok (.iload_n 2, 1) := by decide +kernel
theorem dX4_weather_32 : decode cX4_weather 32 = .ok (.iadd, 1) := by decide +kernel
theorem dX4_weather_33 : decode cX4_weather 33 = .ok (.iaload, 1) := by decide +kernel
theorem dX4_weather_34 : decode cX4_weather 34 = .ok (.goto 8, 3) := by decide +kernel
theorem dX4_weather_37 : decode cX4_weather 37 = .ok (.aload_n 0, 1) := by decide +kernel
theorem dX4_weather_38 : decode cX4_weather 38 = .ok (.iconst 1, 1) := by decide +kernel
theorem dX4_weather_39 : decode cX4_weather 39 = .ok (.invokevirtual 46, 3) := by decide +kernel
theorem dX4_weather_42 : decode cX4_weather 42 = .ok (.ireturn, 1) := by decide +kernel
set_option maxRecDepth 20000 in
theorem ggX4_keep_X4_many : GoodIn wsX4_keep wsX4_many := goodIn_r _ [13, 1, 14, 15, 16, 17, 18, 19, 20] (by decide +kernel) (by decide +kernel)
set_option maxRecDepth 20000 in
theorem gX4_keep_X4_many : GoodIn wsX4_keep (wsV RX4 69 RX4 yX4_many wsX4_many) := goodIn_app (goodIn_of _ (by decide +kernel)) ggX4_keep_X4_many
theorem dX4_keep_0 : decode cX4_keep 0 = .ok (.aload_n 0, 1) := by decide +kernel
theorem dX4_keep_1 : decode cX4_keep 1 = .ok (.getfield 9, 3) := by decide +kernel
theorem dX4_keep_4 : decode cX4_keep 4 = .ok (.iconst 0, 1) := by decide +kernel
theorem dX4_keep_5 : decode cX4_keep 5 = .ok (.aload_n 0, 1) := by decide +kernel
theorem dX4_keep_6 : decode cX4_keep 6 = .ok (.getfield 22, 3) := by decide +kernel
theorem dX4_keep_9 : decode cX4_keep 9 = .ok (.iconst 0, 1) := by decide +kernel
theorem dX4_keep_10 : decode cX4_keep 10 = .ok (.bipush 7, 2) := by decide +kernel
theorem dX4_keep_12 : decode cX4_keep 12 = .ok (.invokestatic 32, 3) := by decide +kernel
theorem dX4_keep_15 : decode cX4_keep 15 = .ok (.aload_n 0, 1) := by decide +kernel
theorem dX4_keep_16 : decode cX4_keep 16 = .ok (.getfield 16, 3) := by decide +kernel
theorem dX4_keep_19 : decode cX4_keep 19 = .ok (.iconst 0, 1) := by decide +kernel
theorem dX4_keep_20 : decode cX4_keep 20 = .ok (.aload_n 0, 1) := by decide +kernel
theorem dX4_keep_21 : decode cX4_keep 21 = .ok (.getfield 25, 3) := by decide +kernel
theorem dX4_keep_24 : decode cX4_keep 24 = .ok (.iconst 0, 1) := by decide +kernel
theorem dX4_keep_25 : decode cX4_keep 25 = .ok (.bipush 12, 2) := by decide +kernel
theorem dX4_keep_27 : decode cX4_keep 27 = .ok (.aload_n 0, 1) := by decide +kernel
theorem dX4_keep_28 : decode cX4_keep 28 = .ok (.invokevirtual 69, 3) := by decide +kernel
theorem dX4_keep_31 : decode cX4_keep 31 = .ok (.imul, 1) := by decide +kernel
theorem dX4_keep_32 : decode cX4_keep 32 = .ok (.invokestatic 32, 3) := by decide +kernel
theorem dX4_keep_35 : decode cX4_keep 35 = .ok (.return_, 1) := by decide +kernel
set_option maxRecDepth 20000 in
theorem ggX4_bringBack_X4_many : GoodIn wsX4_bringBack wsX4_many := goodIn_r _ [13, 2, 14, 15, 16, 17, 18, 19, 20] (by decide +kernel) (by decide +kernel)
set_option maxRecDepth 20000 in
theorem gX4_bringBack_X4_many : GoodIn wsX4_bringBack (wsV RX4 69 RX4 yX4_many wsX4_many) := goodIn_app (goodIn_of _ (by decide +kernel)) ggX4_bringBack_X4_many
theorem dX4_bringBack_0 : decode cX4_bringBack 0 = .ok (.aload_n 0, 1) := by decide +kernel
theorem dX4_bringBack_1 : decode cX4_bringBack 1 = .ok (.getfield 22, 3) := by decide +kernel
theorem dX4_bringBack_4 : decode cX4_bringBack 4 = .ok (.iconst 0, 1) := by decide +kernel
theorem dX4_bringBack_5 : decode cX4_bringBack 5 = .ok (.aload_n 0, 1) := by decide +kernel
theorem dX4_bringBack_6 : decode cX4_bringBack 6 = .ok (.getfield 9, 3) := by decide +kernel
theorem dX4_bringBack_9 : decode cX4_bringBack 9 = .ok (.iconst 0, 1) := by decide +kernel
theorem dX4_bringBack_10 : decode cX4_bringBack 10 = .ok (.bipush 7, 2) := by decide +kernel
theorem dX4_bringBack_12 : decode cX4_bringBack 12 = .ok (.invokestatic 32, 3) := by decide +kernel
theorem dX4_bringBack_15 : decode cX4_bringBack 15 = .ok (.aload_n 0, 1) := by decide +kernel
theorem dX4_bringBack_16 : decode cX4_bringBack 16 = .ok (.getfield 25, 3) := by decide +kernel
theorem dX4_bringBack_19 : decode cX4_bringBack 19 = .ok (.iconst 0, 1) := by decide +kernel
theorem dX4_bringBack_20 : decode cX4_bringBack 20 = .ok (.aload_n 0, 1) := by decide +kernel
theorem dX4_bringBack_21 : decode cX4_bringBack 21 = .ok (.getfield 16, 3) := by decide +kernel
theorem dX4_bringBack_24 : decode cX4_bringBack 24 = .ok (.iconst 0, 1) := by decide +kernel
theorem dX4_bringBack_25 : decode cX4_bringBack 25 = .ok (.bipush 12, 2) := by decide +kernel
theorem dX4_bringBack_27 : decode cX4_bringBack 27 = .ok (.aload_n 0, 1) := by decide +kernel
theorem dX4_bringBack_28 : decode cX4_bringBack 28 = .ok (.invokevirtual 69, 3) := by decide +kernel
theorem dX4_bringBack_31 : decode cX4_bringBack 31 = .ok (.imul, 1) := by decide +kernel
theorem dX4_bringBack_32 : decode cX4_bringBack 32 = .ok (.invokestatic 32, 3) := by decide +kernel
theorem dX4_bringBack_35 : decode cX4_bringBack 35 = .ok (.return_, 1) := by decide +kernel
set_option maxRecDepth 20000 in
theorem ggX4_foresee_X4_isIn : GoodIn wsX4_foresee wsX4_isIn := goodIn_r _ [7] (by decide +kernel) (by decide +kernel)
set_option maxRecDepth 20000 in
theorem gX4_foresee_X4_isIn : GoodIn wsX4_foresee (va_wsS RX4 42 yX4_isIn wsX4_isIn) := goodIn_app (goodIn_of _ (by decide +kernel)) ggX4_foresee_X4_isIn
set_option maxRecDepth 20000 in
theorem ggX4_foresee_X4_fail : GoodIn wsX4_foresee wsX4_fail := goodIn_r _ [11, 1, 71, 72, 73, 74, 75, 76, 77] (by decide +kernel) (by decide +kernel)
set_option maxRecDepth 20000 in
theorem gX4_foresee_X4_fail : GoodIn wsX4_foresee (wsV RX4 46 RX4 yX4_fail wsX4_fail) := goodIn_app (goodIn_of _ (by decide +kernel)) ggX4_foresee_X4_fail
set_option maxRecDepth 20000 in
theorem ggX4_foresee_X4_keep : GoodIn wsX4_foresee wsX4_keep := goodIn_r _ [15, 2, 3, 16, 17, 18, 19, 20, 21, 22, 23, 24, 6, 25, 71, 72, 73, 74, 75, 76, 77] (by decide +kernel) (by decide +kernel)
set_option maxRecDepth 20000 in
theorem gX4_foresee_X4_keep : GoodIn wsX4_foresee (wsV RX4 99 RX4 yX4_keep wsX4_keep) := goodIn_app (goodIn_of _ (by decide +kernel)) ggX4_foresee_X4_keep
set_option maxRecDepth 20000 in
theorem ggX4_foresee_X4_dayOn : GoodIn wsX4_foresee wsX4_dayOn := goodIn_r _ [29, 2, 30, 20, 31, 32, 33, 34, 35, 36, 37, 38, 22, 23, 24, 6, 25, 39, 40, 41, 42, 43, 44, 45, 46, 47, 48, 49, 50, 51, 52, 53, 54, 4, 5, 7, 55, 56, 57, 58, 59, 60, 61, 62, 71, 72, 73, 74, 75, 76, 77] (by decide +kernel) (by decide +kernel)
set_option maxRecDepth 20000 in
theorem gX4_foresee_X4_dayOn : GoodIn wsX4_foresee (wsV RX4 93 RX4 yX4_dayOn wsX4_dayOn) := goodIn_app (goodIn_of _ (by decide +kernel)) ggX4_foresee_X4_dayOn
set_option maxRecDepth 20000 in
theorem ggX4_foresee_X4_sum : GoodIn wsX4_foresee wsX4_sum := goodIn_r _ [66, 20, 22, 23, 24, 6, 25, 2, 71, 72, 73, 74, 75, 76, 77] (by decide +kernel) (by decide +kernel)
set_option maxRecDepth 20000 in
theorem gX4_foresee_X4_sum : GoodIn wsX4_foresee (wsV RX4 73 RX4 yX4_sum wsX4_sum) := goodIn_app (goodIn_of _ (by decide +kernel)) ggX4_foresee_X4_sum
set_option maxRecDepth 20000 in
theorem ggX4_foresee_X4_bringBack : GoodIn wsX4_foresee wsX4_bringBack := goodIn_r _ [70, 3, 2, 16, 17, 18, 19, 21, 20, 22, 23, 24, 6, 25, 71, 72, 73, 74, 75, 76, 77] (by decide +kernel) (by decide +kernel)
set_option maxRecDepth 20000 in
theorem gX4_foresee_X4_bringBack : GoodIn wsX4_foresee (wsV RX4 102 RX4 yX4_bringBack wsX4_bringBack) := goodIn_app (goodIn_of _ (by decide +kernel)) ggX4_foresee_X4_bringBack
theorem dX4_foresee_0 : decode cX4_foresee 0 = .ok (.aload_n 0, 1) := by decide +kernel
theorem dX4_foresee_1 : decode cX4_foresee 1 = .ok (.iconst 0, 1) := by decide +kernel
theorem dX4_foresee_2 : decode cX4_foresee 2 = .ok (.putfield 38, 3) := by decide +kernel
theorem dX4_foresee_5 : decode cX4_foresee 5 = .ok (.iload_n 1, 1) := by decide +kernel
theorem dX4_foresee_6 : decode cX4_foresee 6 = .ok (.iconst 1, 1) := by decide +kernel
theorem dX4_foresee_7 : decode cX4_foresee 7 = .ok (.bipush 20, 2) := by decide +kernel
theorem dX4_foresee_9 : decode cX4_foresee 9 = .ok (.invokestatic 42, 3) := by decide +kernel
theorem dX4_foresee_12 : decode cX4_foresee 12 = .ok (.ifCond .ne 9, 3) := by decide +kernel
theorem dX4_foresee_15 : decode cX4_foresee 15 = .ok (.aload_n 0, 1) := by decide +kernel
theorem dX4_foresee_16 : decode cX4_foresee 16 = .ok (.iconst 1, 1) := by decide +kernel
theorem dX4_foresee_17 : decode cX4_foresee 17 = .ok (.invokevirtual 46, 3) := by decide +kernel
theorem dX4_foresee_20 : decode cX4_foresee 20 = .ok (.ireturn, 1) := by decide +kernel
theorem dX4_foresee_21 : decode cX4_foresee 21 = .ok (.iload_n 2, 1) := by decide +kernel
theorem dX4_foresee_22 : decode cX4_foresee 22 = .ok (.iconst 0, 1) := by decide +kernel
theorem dX4_foresee_23 : decode cX4_foresee 23 = .ok (.iconst 3, 1) := by decide +kernel
theorem dX4_foresee_24 : decode cX4_foresee 24 = .ok (.invokestatic 42, 3) := by decide +kernel
theorem dX4_foresee_27 : decode cX4_foresee 27 = .ok (.ifCond .ne 9, 3) := by decide +kernel
theorem dX4_foresee_30 : decode cX4_foresee 30 = .ok (.aload_n 0, 1) := by decide +kernel
theorem dX4_foresee_31 : decode cX4_foresee 31 = .ok (.iconst 2, 1) := by decide +kernel
theorem dX4_foresee_32 : decode cX4_foresee 32 = .ok (.invokevirtual 46, 3) := by decide +kernel
theorem dX4_foresee_35 : decode cX4_foresee 35 = .ok (.ireturn, 1) := by decide +kernel
theorem dX4_foresee_36 : decode cX4_foresee 36 = .ok (.aload_n 0, 1) := by decide +kernel
theorem dX4_foresee_37 : decode cX4_foresee 37 = .ok (.getfield 9, 3) := by decide +kernel
theorem dX4_foresee_40 : decode cX4_foresee 40 = .ok (.iconst 2, 1) := by decide +kernel
theorem dX4_foresee_41 : decode cX4_foresee 41 = .ok (.iaload, 1) := by decide +kernel
theorem dX4_foresee_42 : decode cX4_foresee 42 = .ok (.iload_n 1, 1) := by decide +kernel
theorem dX4_foresee_43 : decode cX4_foresee 43 = .ok (.iadd, 1) := by decide +kernel
theorem dX4_foresee_44 : decode cX4_foresee 44 = .ok (.sipush 2000, 3) := by decide +kernel
theorem dX4_foresee_47 : decode cX4_foresee 47 = .ok (.if_icmp .le 9, 3) := by decide +kernel
theorem dX4_foresee_50 : decode cX4_foresee 50 = .ok (.aload_n 0, 1) := by decide +kernel
theorem dX4_foresee_51 : decode cX4_foresee 51 = .ok (.iconst 3, 1) := by decide +kernel
theorem dX4_foresee_52 : decode cX4_foresee 52 = .ok (.invokevirtual 46, 3) := by decide +kernel
theorem dX4_foresee_55 : decode cX4_foresee 55 = .ok (.ireturn, 1) := by decide +kernel
theorem dX4_foresee_56 : decode cX4_foresee 56 = .ok (.aload_n 0, 1) := by decide +kernel
theorem dX4_foresee_57 : decode cX4_foresee 57 = .ok (.invokevirtual 99, 3) := by decide +kernel
theorem dX4_foresee_60 : decode cX4_foresee 60 = .ok (.iconst 0, 1) := by decide +kernel
theorem dX4_foresee_61 : decode cX4_foresee 61 = .ok (.istore_n 3, 1) := by decide +kernel
theorem dX4_foresee_62 : decode cX4_foresee 62 = .ok (.iload_n 3, 1) := by decide +kernel
theorem dX4_foresee_63 : decode cX4_foresee 63 = .ok (.iload_n 1, 1) := by decide +kernel
theorem dX4_foresee_64 : decode cX4_foresee 64 = .ok (.if_icmp .ge 13, 3) := by decide +kernel
theorem dX4_foresee_67 : decode cX4_foresee 67 = .ok (.aload_n 0, 1) := by decide +kernel
theorem dX4_foresee_68 : decode cX4_foresee 68 = .ok (.invokevirtual 93, 3) := by decide +kernel
theorem dX4_foresee_71 : decode cX4_foresee 71 = .ok (.iinc 3 1, 3) := by decide +kernel
theorem dX4_foresee_74 : decode cX4_foresee 74 = .ok (.goto (-12), 3) := by decide +kernel
theorem dX4_foresee_77 : decode cX4_foresee 77 = .ok (.iload_n 2, 1) := by decide +kernel
theorem dX4_foresee_78 : decode cX4_foresee 78 = .ok (.ifCond .ne 11, 3) := by decide +kernel
theorem dX4_foresee_81 : decode cX4_foresee 81 = .ok (.aload_n 0, 1) := by decide +kernel
theorem dX4_foresee_82 : decode cX4_foresee 82 = .ok (.iconst 5, 1) := by decide +kernel
theorem dX4_foresee_83 : decode cX4_foresee 83 = .ok (.invokevirtual 73, 3) := by decide +kernel
theorem dX4_foresee_86 : decode cX4_foresee 86 = .ok (.goto 43, 3) := by decide +kernel
theorem dX4_foresee_89 : decode cX4_foresee 89 = .ok (.iload_n 2, 1) := by decide +kernel
theorem dX4_foresee_90 : decode cX4_foresee 90 = .ok (.iconst 1, 1) := by decide +kernel
theorem dX4_foresee_91 : decode cX4_foresee 91 = .ok (.if_icmp .ne 12, 3) := by decide +kernel
theorem dX4_foresee_94 : decode cX4_foresee 94 = .ok (.aload_n 0, 1) := by decide +kernel
theorem dX4_foresee_95 : decode cX4_foresee 95 = .ok (.bipush 7, 2) := by decide +kernel
theorem dX4_foresee_97 : decode cX4_foresee 97 = .ok (.invokevirtual 73, 3) := by decide +kernel
theorem dX4_foresee_100 : decode cX4_foresee 100 = .ok (.goto 29, 3) := by decide +kernel
theorem dX4_foresee_103 : decode cX4_foresee 103 = .ok (.iload_n 2, 1) := by decide +kernel
theorem dX4_foresee_104 : decode cX4_foresee 104 = .ok (.iconst 2, 1) := by decide +kernel
theorem dX4_foresee_105 : decode cX4_foresee 105 = .ok (.if_icmp .ne 19, 3) := by decide +kernel
theorem dX4_foresee_108 : decode cX4_foresee 108 = .ok (.aload_n 0, 1) := by decide +kernel
theorem dX4_foresee_109 : decode cX4_foresee 109 = .ok (.getfield 9, 3) := by decide +kernel
theorem dX4_foresee_112 : decode cX4_foresee 112 = .ok (.iconst 3, 1) := by decide +kernel
theorem dX4_foresee_113 : decode cX4_foresee 113 = .ok (.iaload, 1) := by decide +kernel
theorem dX4_foresee_114 : decode cX4_foresee 114 = .ok (.aload_n 0, 1) := by decide +kernel
theorem dX4_foresee_115 : decode cX4_foresee 115 = .ok (.getfield 22, 3) := by decide +kernel
theorem dX4_foresee_118 : decode cX4_foresee 118 = .ok (.iconst 3, 1) := by decide +kernel
theorem dX4_foresee_119 : decode cX4_foresee 119 = .ok (.iaload, 1) := by decide +kernel
theorem dX4_foresee_120 : decode cX4_foresee 120 = .ok (.isub, 1) := by decide +kernel
theorem dX4_foresee_121 : decode cX4_foresee 121 = .ok (.goto 8, 3) := by decide +kernel
theorem dX4_foresee_124 : decode cX4_foresee 124 = .ok (.aload_n 0, 1) := by decide +kernel
theorem dX4_foresee_125 : decode cX4_foresee 125 = .ok (.iconst 0, 1) := by decide +kernel
theorem dX4_foresee_126 : decode cX4_foresee 126 = .ok (.invokevirtual 73, 3) := by decide +kernel
theorem dX4_foresee_129 : decode cX4_foresee 129 = .ok (.istore_n 3, 1) := by decide +kernel
theorem dX4_foresee_130 : decode cX4_foresee 130 = .ok (.aload_n 0, 1) := by decide +kernel
theorem dX4_foresee_131 : decode cX4_foresee 131 = .ok (.invokevirtual 102, 3) := by decide +kernel
theorem dX4_foresee_134 : decode cX4_foresee 134 = .ok (.iload_n 3, 1) := by decide +kernel
theorem dX4_foresee_135 : decode cX4_foresee 135 = .ok (.ireturn, 1) := by decide +kernel
set_option maxRecDepth 20000 in
theorem ggX4_worth_X4_dayOn : GoodIn wsX4_worth wsX4_dayOn := goodIn_r _ [5, 6, 7, 8, 9, 10, 11, 12, 13, 14, 15, 16, 17, 18, 19, 4, 20, 21, 22, 23, 24, 25, 26, 27, 28, 29, 30, 31, 32, 33, 34, 35, 36, 37, 38, 39, 40, 41, 42, 43, 44, 45, 46, 47, 62, 63, 64, 65, 66, 67, 68] (by decide +kernel) (by decide +kernel)
set_option maxRecDepth 20000 in
theorem gX4_worth_X4_dayOn : GoodIn wsX4_worth (wsV RX4 93 RX4 yX4_dayOn wsX4_dayOn) := goodIn_app (goodIn_of _ (by decide +kernel)) ggX4_worth_X4_dayOn
set_option maxRecDepth 20000 in
theorem ggX4_worth_X4_sum : GoodIn wsX4_worth wsX4_sum := goodIn_r _ [51, 8, 17, 18, 19, 4, 20, 6, 62, 63, 64, 65, 66, 67, 68] (by decide +kernel) (by decide +kernel)
set_option maxRecDepth 20000 in
theorem gX4_worth_X4_sum : GoodIn wsX4_worth (wsV RX4 73 RX4 yX4_sum wsX4_sum) := goodIn_app (goodIn_of _ (by decide +kernel)) ggX4_worth_X4_sum
set_option maxRecDepth 20000 in
theorem ggX4_worth_X4_bringBack : GoodIn wsX4_worth wsX4_bringBack := goodIn_r _ [55, 56, 6, 57, 58, 59, 60, 61, 8, 17, 18, 19, 4, 20, 62, 63, 64, 65, 66, 67, 68] (by decide +kernel) (by decide +kernel)
set_option maxRecDepth 20000 in
theorem gX4_worth_X4_bringBack : GoodIn wsX4_worth (wsV RX4 102 RX4 yX4_bringBack wsX4_bringBack) := goodIn_app (goodIn_of _ (by decide +kernel)) ggX4_worth_X4_bringBack
theorem dX4_worth_0 : decode cX4_worth 0 = .ok (.iconst 0, 1) := by decide +kernel
theorem dX4_worth_1 : decode cX4_worth 1 = .ok (.istore_n 2, 1) := by decide +kernel
theorem dX4_worth_2 : decode cX4_worth 2 = .ok (.iload_n 2, 1) := by decide +kernel
theorem dX4_worth_3 : decode cX4_worth 3 = .ok (.iload_n 1, 1) := by decide +kernel
theorem dX4_worth_4 : decode cX4_worth 4 = .ok (.if_icmp .ge 13, 3) := by decide +kernel
theorem dX4_worth_7 : decode cX4_worth 7 = .ok (.aload_n 0, 1) := by decide +kernel
theorem dX4_worth_8 : decode cX4_worth 8 = .ok (.invokevirtual 93, 3) := by decide +kernel
theorem dX4_worth_11 : decode cX4_worth 11 = .ok (.iinc 2 1, 3) := by decide +kernel
theorem dX4_worth_14 : decode cX4_worth 14 = .ok (.goto (-12), 3) := by decide +kernel
theorem dX4_worth_17 : decode cX4_worth 17 = .ok (.sipush 10000, 3) := by decide +kernel
theorem dX4_worth_20 : decode cX4_worth 20 = .ok (.aload_n 0, 1) := by decide +kernel
theorem dX4_worth_21 : decode cX4_worth 21 = .ok (.iconst 5, 1) := by decide +kernel
theorem dX4_worth_22 : decode cX4_worth 22 = .ok (.invokevirtual 73, 3) := by decide +kernel
theorem dX4_worth_25 : decode cX4_worth 25 = .ok (.imul, 1) := by decide +kernel
theorem dX4_worth_26 : decode cX4_worth 26 = .ok (.aload_n 0, 1) := by decide +kernel
theorem dX4_worth_27 : decode cX4_worth 27 = .ok (.bipush 7, 2) := by decide +kernel
theorem dX4_worth_29 : decode cX4_worth 29 = .ok (.invokevirtual 73, 3) := by decide +kernel
theorem dX4_worth_32 : decode cX4_worth 32 = .ok (.iadd, 1) := by decide +kernel
theorem dX4_worth_33 : decode cX4_worth 33 = .ok (.istore_n 2, 1) := by decide +kernel
theorem dX4_worth_34 : decode cX4_worth 34 = .ok (.aload_n 0, 1) := by decide +kernel
theorem dX4_worth_35 : decode cX4_worth 35 = .ok (.invokevirtual 102, 3) := by decide +kernel
theorem dX4_worth_38 : decode cX4_worth 38 = .ok (.iload_n 2, 1) := by decide +kernel
theorem dX4_worth_39 : decode cX4_worth 39 = .ok (.ireturn, 1) := by decide +kernel
set_option maxRecDepth 20000 in
theorem ggX4_advise_X4_isIn : GoodIn wsX4_advise wsX4_isIn := goodIn_r _ [7] (by decide +kernel) (by decide +kernel)
set_option maxRecDepth 20000 in
theorem gX4_advise_X4_isIn : GoodIn wsX4_advise (va_wsS RX4 42 yX4_isIn wsX4_isIn) := goodIn_app (goodIn_of _ (by decide +kernel)) ggX4_advise_X4_isIn
set_option maxRecDepth 20000 in
theorem ggX4_advise_X4_fail : GoodIn wsX4_advise wsX4_fail := goodIn_r _ [11, 1, 75, 76, 77, 78, 79, 80, 81] (by decide +kernel) (by decide +kernel)
set_option maxRecDepth 20000 in
theorem gX4_advise_X4_fail : GoodIn wsX4_advise (wsV RX4 46 RX4 yX4_fail wsX4_fail) := goodIn_app (goodIn_of _ (by decide +kernel)) ggX4_advise_X4_fail
set_option maxRecDepth 20000 in
theorem ggX4_advise_X4_keep : GoodIn wsX4_advise wsX4_keep := goodIn_r _ [15, 2, 16, 17, 18, 19, 20, 3, 21, 22, 23, 24, 6, 25, 75, 76, 77, 78, 79, 80, 81] (by decide +kernel) (by decide +kernel)
set_option maxRecDepth 20000 in
theorem gX4_advise_X4_keep : GoodIn wsX4_advise (wsV RX4 99 RX4 yX4_keep wsX4_keep) := goodIn_app (goodIn_of _ (by decide +kernel)) ggX4_advise_X4_keep
set_option maxRecDepth 20000 in
theorem ggX4_advise_X4_worth : GoodIn wsX4_advise wsX4_worth := goodIn_r _ [29, 30, 31, 32, 6, 33, 2, 34, 3, 35, 36, 37, 38, 39, 40, 41, 42, 22, 23, 24, 25, 43, 44, 45, 46, 47, 48, 49, 50, 51, 52, 53, 54, 55, 56, 57, 58, 4, 5, 7, 59, 60, 61, 62, 63, 64, 65, 66, 67, 68, 69, 70, 71, 72, 73, 74, 16, 17, 18, 19, 20, 21, 75, 76, 77, 78, 79, 80, 81] (by decide +kernel) (by decide +kernel)
set_option maxRecDepth 20000 in
theorem gX4_advise_X4_worth : GoodIn wsX4_advise (wsV RX4 105 RX4 yX4_worth wsX4_worth) := goodIn_app (goodIn_of _ (by decide +kernel)) ggX4_advise_X4_worth
set_option maxRecDepth 20000 in
theorem ggX4_advise_X4_many : GoodIn wsX4_advise wsX4_many := goodIn_r _ [25, 2, 75, 76, 77, 78, 79, 80, 81] (by decide +kernel) (by decide +kernel)
set_option maxRecDepth 20000 in
theorem gX4_advise_X4_many : GoodIn wsX4_advise (wsV RX4 69 RX4 yX4_many wsX4_many) := goodIn_app (goodIn_of _ (by decide +kernel)) ggX4_advise_X4_many
theorem dX4_advise_0 : decode cX4_advise 0 = .ok (.aload_n 0, 1) := by decide +kernel
theorem dX4_advise_1 : decode cX4_advise 1 = .ok (.iconst 0, 1) := by decide +kernel
theorem dX4_advise_2 : decode cX4_advise 2 = .ok (.putfield 38, 3) := by decide +kernel
theorem dX4_advise_5 : decode cX4_advise 5 = .ok (.iload_n 1, 1) := by decide +kernel
theorem dX4_advise_6 : decode cX4_advise 6 = .ok (.iconst 1, 1) := by decide +kernel
theorem dX4_advise_7 : decode cX4_advise 7 = .ok (.bipush 10, 2) := by decide +kernel
theorem dX4_advise_9 : decode cX4_advise 9 = .ok (.invokestatic 42, 3) := by decide +kernel
theorem dX4_advise_12 : decode cX4_advise 12 = .ok (.ifCond .ne 9, 3) := by decide +kernel
theorem dX4_advise_15 : decode cX4_advise 15 = .ok (.aload_n 0, 1) := by decide +kernel
theorem dX4_advise_16 : decode cX4_advise 16 = .ok (.iconst 1, 1) := by decide +kernel
theorem dX4_advise_17 : decode cX4_advise 17 = .ok (.invokevirtual 46, 3) := by decide +kernel
theorem dX4_advise_20 : decode cX4_advise 20 = .ok (.ireturn, 1) := by decide +kernel
theorem dX4_advise_21 : decode cX4_advise 21 = .ok (.iload_n 2, 1) := by decide +kernel
theorem dX4_advise_22 : decode cX4_advise 22 = .ok (.iconst 0, 1) := by decide +kernel
theorem dX4_advise_23 : decode cX4_advise 23 = .ok (.iconst 2, 1) := by decide +kernel
theorem dX4_advise_24 : decode cX4_advise 24 = .ok (.invokestatic 42, 3) := by decide +kernel
theorem dX4_advise_27 : decode cX4_advise 27 = .ok (.ifCond .ne 9, 3) := by decide +kernel
theorem dX4_advise_30 : decode cX4_advise 30 = .ok (.aload_n 0, 1) := by decide +kernel
theorem dX4_advise_31 : decode cX4_advise 31 = .ok (.iconst 2, 1) := by decide +kernel
theorem dX4_advise_32 : decode cX4_advise 32 = .ok (.invokevirtual 46, 3) := by decide +kernel
theorem dX4_advise_35 : decode cX4_advise 35 = .ok (.ireturn, 1) := by decide +kernel
theorem dX4_advise_36 : decode cX4_advise 36 = .ok (.aload_n 0, 1) := by decide +kernel
theorem dX4_advise_37 : decode cX4_advise 37 = .ok (.getfield 9, 3) := by decide +kernel
theorem dX4_advise_40 : decode cX4_advise 40 = .ok (.iconst 2, 1) := by decide +kernel
theorem dX4_advise_41 : decode cX4_advise 41 = .ok (.iaload, 1) := by decide +kernel
theorem dX4_advise_42 : decode cX4_advise 42 = .ok (.iload_n 1, 1) := by decide +kernel
theorem dX4_advise_43 : decode cX4_advise 43 = .ok (.iadd, 1) := by decide +kernel
theorem dX4_advise_44 : decode cX4_advise 44 = .ok (.sipush 2000, 3) := by decide +kernel
theorem dX4_advise_47 : decode cX4_advise 47 = .ok (.if_icmp .le 9, 3) := by decide +kernel
theorem dX4_advise_50 : decode cX4_advise 50 = .ok (.aload_n 0, 1) := by decide +kernel
theorem dX4_advise_51 : decode cX4_advise 51 = .ok (.iconst 3, 1) := by decide +kernel
theorem dX4_advise_52 : decode cX4_advise 52 = .ok (.invokevirtual 46, 3) := by decide +kernel
theorem dX4_advise_55 : decode cX4_advise 55 = .ok (.ireturn, 1) := by decide +kernel
theorem dX4_advise_56 : decode cX4_advise 56 = .ok (.aload_n 0, 1) := by decide +kernel
theorem dX4_advise_57 : decode cX4_advise 57 = .ok (.invokevirtual 99, 3) := by decide +kernel
theorem dX4_advise_60 : decode cX4_advise 60 = .ok (.aload_n 0, 1) := by decide +kernel
theorem dX4_advise_61 : decode cX4_advise 61 = .ok (.iload_n 1, 1) := by decide +kernel
theorem dX4_advise_62 : decode cX4_advise 62 = .ok (.invokevirtual 105, 3) := by decide +kernel
theorem dX4_advise_65 : decode cX4_advise 65 = .ok (.istore_n 3, 1) := by decide +kernel
theorem dX4_advise_66 : decode cX4_advise 66 = .ok (.iconst (-1), 1) := by decide +kernel
theorem dX4_advise_67 : decode cX4_advise 67 = .ok (.istore 4, 2) := by decide +kernel
theorem dX4_advise_69 : decode cX4_advise 69 = .ok (.iconst (-1), 1) := by decide +kernel
theorem dX4_advise_70 : decode cX4_advise 70 = .ok (.istore 5, 2) := by decide +kernel
theorem dX4_advise_72 : decode cX4_advise 72 = .ok (.iconst 0, 1) := by decide +kernel
theorem dX4_advise_73 : decode cX4_advise 73 = .ok (.istore 6, 2) := by decide +kernel
theorem dX4_advise_75 : decode cX4_advise 75 = .ok (.iload 6, 2) := by decide +kernel
theorem dX4_advise_77 : decode cX4_advise 77 = .ok (.aload_n 0, 1) := by decide +kernel
theorem dX4_advise_78 : decode cX4_advise 78 = .ok (.invokevirtual 69, 3) := by decide +kernel
theorem dX4_advise_81 : decode cX4_advise 81 = .ok (.if_icmp .ge 76, 3) := by decide +kernel
theorem dX4_advise_84 : decode cX4_advise 84 = .ok (.iconst 0, 1) := by decide +kernel
theorem dX4_advise_85 : decode cX4_advise 85 = .ok (.istore 7, 2) := by decide +kernel
theorem dX4_advise_87 : decode cX4_advise 87 = .ok (.iload 7, 2) := by decide +kernel
theorem dX4_advise_89 : decode cX4_advise 89 = .ok (.aload_n 0, 1) := by decide +kernel
theorem dX4_advise_90 : decode cX4_advise 90 = .ok (.getfield 16, 3) := by decide +kernel
theorem dX4_advise_93 : decode cX4_advise 93 = .ok (.bipush 12, 2) := by decide +kernel
theorem dX4_advise_95 : decode cX4_advise 95 = .ok (.iload 6, 2) := by decide +kernel
theorem dX4_advise_97 : decode cX4_advise 97 = .ok (.imul, 1) := by decide +kernel
theorem dX4_advise_98 : decode cX4_advise 98 = .ok (.iconst 1, 1) := by decide +kernel
theorem dX4_advise_99 : decode cX4_advise 99 = .ok (.iadd, 1) := by decide +kernel
theorem dX4_advise_100 : decode cX4_advise 100 = .ok (.iaload, 1) := by decide +kernel
theorem dX4_advise_101 : decode cX4_advise 101 = .ok (.if_icmp .gt 50, 3) := by decide +kernel
theorem dX4_advise_104 : decode cX4_advise 104 = .ok (.aload_n 0, 1) := by decide +kernel
theorem dX4_advise_105 : decode cX4_advise 105 = .ok (.getfield 16, 3) := by decide +kernel
theorem dX4_advise_108 : decode cX4_advise 108 = .ok (.bipush 12, 2) := by decide +kernel
theorem dX4_advise_110 : decode cX4_advise 110 = .ok (.iload 6, 2) := by decide +kernel
theorem dX4_advise_112 : decode cX4_advise 112 = .ok (.imul, 1) := by decide +kernel
theorem dX4_advise_113 : decode cX4_advise 113 = .ok (.iconst 3, 1) := by decide +kernel
theorem dX4_advise_114 : decode cX4_advise 114 = .ok (.iadd, 1) := by decide +kernel
theorem dX4_advise_115 : decode cX4_advise 115 = .ok (.iload 7, 2) := by decide +kernel
theorem dX4_advise_117 : decode cX4_advise 117 = .ok (.iastore, 1) := by decide +kernel
theorem dX4_advise_118 : decode cX4_advise 118 = .ok (.aload_n 0, 1) := by decide +kernel
theorem dX4_advise_119 : decode cX4_advise 119 = .ok (.iload_n 1, 1) := by decide +kernel
theorem dX4_advise_120 : decode cX4_advise 120 = .ok (.invokevirtual 105, 3) := by decide +kernel
theorem dX4_advise_123 : decode cX4_advise 123 = .ok (.istore 8, 2) := by decide +kernel
theorem dX4_advise_125 : decode cX4_advise 125 = .ok (.iload 8, 2) := by decide +kernel
theorem dX4_advise_127 : decode cX4_advise 127 = .ok (.iload_n 3, 1) := by decide +kernel
theorem dX4_advise_128 : decode cX4_advise 128 = .ok (.if_icmp .gt 6, 3) := by decide +kernel
theorem dX4_advise_131 : decode cX4_advise 131 = .ok (.goto 14, 3) := by decide +kernel
theorem dX4_advise_134 : decode cX4_advise 134 = .ok (.iload 8, 2) := by decide +kernel
theorem dX4_advise_136 : decode cX4_advise 136 = .ok (.istore_n 3, 1) := by decide +kernel
theorem dX4_advise_137 : decode cX4_advise 137 = .ok (.iload 6, 2) := by decide +kernel
theorem dX4_advise_139 : decode cX4_advise 139 = .ok (.istore 4, 2) := by decide +kernel
theorem dX4_advise_141 : decode cX4_advise 141 = .ok (.iload 7, 2) := by decide +kernel
theorem dX4_advise_143 : decode cX4_advise 143 = .ok (.istore 5, 2) := by decide +kernel
theorem dX4_advise_145 : decode cX4_advise 145 = .ok (.iinc 7 10, 3) := by decide +kernel
theorem dX4_advise_148 : decode cX4_advise 148 = .ok (.goto (-61), 3) := by decide +kernel
theorem dX4_advise_151 : decode cX4_advise 151 = .ok (.iinc 6 1, 3) := by decide +kernel
theorem dX4_advise_154 : decode cX4_advise 154 = .ok (.goto (-79), 3) := by decide +kernel
theorem dX4_advise_157 : decode cX4_advise 157 = .ok (.iload 4, 2) := by decide +kernel
theorem dX4_advise_159 : decode cX4_advise 159 = .ok (.iconst (-1), 1) := by decide +kernel
theorem dX4_advise_160 : decode cX4_advise 160 = .ok (.if_icmp .ne 7, 3) := by decide +kernel
theorem dX4_advise_163 : decode cX4_advise 163 = .ok (.iconst (-1), 1) := by decide +kernel
theorem dX4_advise_164 : decode cX4_advise 164 = .ok (.goto 38, 3) := by decide +kernel
theorem dX4_advise_167 : decode cX4_advise 167 = .ok (.iload_n 2, 1) := by decide +kernel
theorem dX4_advise_168 : decode cX4_advise 168 = .ok (.ifCond .ne 15, 3) := by decide +kernel
theorem dX4_advise_171 : decode cX4_advise 171 = .ok (.iload 4, 2) := by decide +kernel
theorem dX4_advise_173 : decode cX4_advise 173 = .ok (.aload_n 0, 1) := by decide +kernel
theorem dX4_advise_174 : decode cX4_advise 174 = .ok (.getfield 9, 3) := by decide +kernel
theorem dX4_advise_177 : decode cX4_advise 177 = .ok (.iconst 1, 1) := by decide +kernel
theorem dX4_advise_178 : decode cX4_advise 178 = .ok (.iaload, 1) := by decide +kernel
theorem dX4_advise_179 : decode cX4_advise 179 = .ok (.idiv, 1) := by decide +kernel
theorem dX4_advise_180 : decode cX4_advise 180 = .ok (.goto 22, 3) := by decide +kernel
theorem dX4_advise_183 : decode cX4_advise 183 = .ok (.iload_n 2, 1) := by decide +kernel
theorem dX4_advise_184 : decode cX4_advise 184 = .ok (.iconst 1, 1) := by decide +kernel
theorem dX4_advise_185 : decode cX4_advise 185 = .ok (.if_icmp .ne 15, 3) := by decide +kernel
theorem dX4_advise_188 : decode cX4_advise 188 = .ok (.iload 4, 2) := by decide +kernel
theorem dX4_advise_190 : decode cX4_advise 190 = .ok (.aload_n 0, 1) := by decide +kernel
theorem dX4_advise_191 : decode cX4_advise 191 = .ok (.getfield 9, 3) := by decide +kernel
theorem dX4_advise_194 : decode cX4_advise 194 = .ok (.iconst 1, 1) := by decide +kernel
theorem dX4_advise_195 : decode cX4_advise 195 = .ok (.iaload, 1) := by decide +kernel
theorem dX4_advise_196 : decode cX4_advise 196 = .ok (.irem, 1) := by decide +kernel
theorem dX4_advise_197 : decode cX4_advise 197 = .ok (.goto 5, 3) := by decide +kernel
theorem dX4_advise_200 : decode cX4_advise 200 = .ok (.iload 5, 2) := by decide +kernel
theorem dX4_advise_202 : decode cX4_advise 202 = .ok (.ireturn, 1) := by decide +kernel
set_option maxRecDepth 20000 in
theorem ggX4_depth_X4_sum : GoodIn wsX4_depth wsX4_sum := goodIn_r _ [6, 7, 8, 9, 10, 5, 11, 12, 13, 14, 15, 16, 17, 18, 19] (by decide +kernel) (by decide +kernel)
set_option maxRecDepth 20000 in
theorem gX4_depth_X4_sum : GoodIn wsX4_depth (wsV RX4 73 RX4 yX4_sum wsX4_sum) := goodIn_app (goodIn_of _ (by decide +kernel)) ggX4_depth_X4_sum
set_option maxRecDepth 20000 in
theorem ggX4_depth_X4_many : GoodIn wsX4_depth wsX4_many := goodIn_r _ [11, 12, 13, 14, 15, 16, 17, 18, 19] (by decide +kernel) (by decide +kernel)
set_option maxRecDepth 20000 in
theorem gX4_depth_X4_many : GoodIn wsX4_depth (wsV RX4 69 RX4 yX4_many wsX4_many) := goodIn_app (goodIn_of _ (by decide +kernel)) ggX4_depth_X4_many
theorem dX4_depth_0 : decode cX4_depth 0 = .ok (.aload_n 0, 1) := by decide +kernel
theorem dX4_depth_1 : decode cX4_depth 1 = .ok (.iconst 0, 1) := by decide +kernel
theorem dX4_depth_2 : decode cX4_depth 2 = .ok (.putfield 38, 3) := by decide +kernel
theorem dX4_depth_5 : decode cX4_depth 5 = .ok (.aload_n 0, 1) := by decide +kernel
end
section
theorem dX4_depth_6 : decode cX4_depth 6 = .ok (.iconst 0, 1) := by decide +kernel
theorem dX4_depth_7 : decode cX4_depth 7 = .ok (.invokevirtual 73, 3) := by decide +kernel
theorem dX4_depth_10 : decode cX4_depth 10 = .ok (.i2d, 1) := by decide +kernel
theorem dX4_depth_11 : decode cX4_depth 11 = .ok (.aload_n 0, 1) := by decide +kernel
theorem dX4_depth_12 : decode cX4_depth 12 = .ok (.invokevirtual 69, 3) := by decide +kernel
theorem dX4_depth_15 : decode cX4_depth 15 = .ok (.i2d, 1) := by decide +kernel
theorem dX4_depth_16 : decode cX4_depth 16 = .ok (.ddiv, 1) := by decide +kernel
theorem dX4_depth_17 : decode cX4_depth 17 = .ok (.dreturn, 1) := by decide +kernel
set_option maxRecDepth 20000 in
theorem ggX4_digest_X4_counted : GoodIn wsX4_digest wsX4_counted := goodIn_r _ [12, 4, 13, 14, 15, 11, 16, 6, 17, 18, 19, 20, 21, 22, 23, 24, 25, 26, 27] (by decide +kernel) (by decide +kernel)
set_option maxRecDepth 20000 in
theorem gX4_digest_X4_counted : GoodIn wsX4_digest (wsV RX4 96 RX4 yX4_counted wsX4_counted) := goodIn_app (goodIn_of _ (by decide +kernel)) ggX4_digest_X4_counted
set_option maxRecDepth 20000 in
theorem ggX4_digest_X4_many : GoodIn wsX4_digest wsX4_many := goodIn_r _ [20, 4, 21, 22, 23, 24, 25, 26, 27] (by decide +kernel) (by decide +kernel)
set_option maxRecDepth 20000 in
theorem gX4_digest_X4_many : GoodIn wsX4_digest (wsV RX4 69 RX4 yX4_many wsX4_many) := goodIn_app (goodIn_of _ (by decide +kernel)) ggX4_digest_X4_many
theorem dX4_digest_0 : decode cX4_digest 0 = .ok (.aload_n 0, 1) := by decide +kernel
theorem dX4_digest_1 : decode cX4_digest 1 = .ok (.iconst 0, 1) := by decide +kernel
theorem dX4_digest_2 : decode cX4_digest 2 = .ok (.putfield 38, 3) := by decide +kernel
theorem dX4_digest_5 : decode cX4_digest 5 = .ok (.ldc2_w 108, 3) := by decide +kernel
theorem dX4_digest_8 : decode cX4_digest 8 = .ok (.lstore_n 1, 1) := by decide +kernel
theorem dX4_digest_9 : decode cX4_digest 9 = .ok (.iconst 0, 1) := by decide +kernel
theorem dX4_digest_10 : decode cX4_digest 10 = .ok (.istore_n 3, 1) := by decide +kernel
theorem dX4_digest_11 : decode cX4_digest 11 = .ok (.iload_n 3, 1) := by decide +kernel
theorem dX4_digest_12 : decode cX4_digest 12 = .ok (.bipush 9, 2) := by decide +kernel
theorem dX4_digest_14 : decode cX4_digest 14 = .ok (.if_icmp .ge 22, 3) := by decide +kernel
theorem dX4_digest_17 : decode cX4_digest 17 = .ok (.lload_n 1, 1) := by decide +kernel
theorem dX4_digest_18 : decode cX4_digest 18 = .ok (.ldc2_w 110, 3) := by decide +kernel
theorem dX4_digest_21 : decode cX4_digest 21 = .ok (.lmul, 1) := by decide +kernel
theorem dX4_digest_22 : decode cX4_digest 22 = .ok (.aload_n 0, 1) := by decide +kernel
theorem dX4_digest_23 : decode cX4_digest 23 = .ok (.iload_n 3, 1) := by decide +kernel
theorem dX4_digest_24 : decode cX4_digest 24 = .ok (.invokevirtual 96, 3) := by decide +kernel
theorem dX4_digest_27 : decode cX4_digest 27 = .ok (.i2l, 1) := by decide +kernel
theorem dX4_digest_28 : decode cX4_digest 28 = .ok (.ladd, 1) := by decide +kernel
theorem dX4_digest_29 : decode cX4_digest 29 = .ok (.lstore_n 1, 1) := by decide +kernel
theorem dX4_digest_30 : decode cX4_digest 30 = .ok (.iinc 3 1, 3) := by decide +kernel
theorem dX4_digest_33 : decode cX4_digest 33 = .ok (.goto (-22), 3) := by decide +kernel
theorem dX4_digest_36 : decode cX4_digest 36 = .ok (.iconst 0, 1) := by decide +kernel
theorem dX4_digest_37 : decode cX4_digest 37 = .ok (.istore_n 3, 1) := by decide +kernel
theorem dX4_digest_38 : decode cX4_digest 38 = .ok (.iload_n 3, 1) := by decide +kernel
theorem dX4_digest_39 : decode cX4_digest 39 = .ok (.aload_n 0, 1) := by decide +kernel
theorem dX4_digest_40 : decode cX4_digest 40 = .ok (.getfield 9, 3) := by decide +kernel
theorem dX4_digest_43 : decode cX4_digest 43 = .ok (.iconst 1, 1) := by decide +kernel
theorem dX4_digest_44 : decode cX4_digest 44 = .ok (.iaload, 1) := by decide +kernel
theorem dX4_digest_45 : decode cX4_digest 45 = .ok (.if_icmp .ge 23, 3) := by decide +kernel
theorem dX4_digest_48 : decode cX4_digest 48 = .ok (.lload_n 1, 1) := by decide +kernel
theorem dX4_digest_49 : decode cX4_digest 49 = .ok (.ldc2_w 110, 3) := by decide +kernel
theorem dX4_digest_52 : decode cX4_digest 52 = .ok (.lmul, 1) := by decide +kernel
theorem dX4_digest_53 : decode cX4_digest 53 = .ok (.aload_n 0, 1) := by decide +kernel
theorem dX4_digest_54 : decode cX4_digest 54 = .ok (.getfield 13, 3) := by decide +kernel
theorem dX4_digest_57 : decode cX4_digest 57 = .ok (.iload_n 3, 1) := by decide +kernel
theorem dX4_digest_58 : decode cX4_digest 58 = .ok (.iaload, 1) := by decide +kernel
theorem dX4_digest_59 : decode cX4_digest 59 = .ok (.i2l, 1) := by decide +kernel
theorem dX4_digest_60 : decode cX4_digest 60 = .ok (.ladd, 1) := by decide +kernel
theorem dX4_digest_61 : decode cX4_digest 61 = .ok (.lstore_n 1, 1) := by decide +kernel
theorem dX4_digest_62 : decode cX4_digest 62 = .ok (.iinc 3 1, 3) := by decide +kernel
theorem dX4_digest_65 : decode cX4_digest 65 = .ok (.goto (-27), 3) := by decide +kernel
theorem dX4_digest_68 : decode cX4_digest 68 = .ok (.iconst 0, 1) := by decide +kernel
theorem dX4_digest_69 : decode cX4_digest 69 = .ok (.istore_n 3, 1) := by decide +kernel
theorem dX4_digest_70 : decode cX4_digest 70 = .ok (.iload_n 3, 1) := by decide +kernel
theorem dX4_digest_71 : decode cX4_digest 71 = .ok (.bipush 12, 2) := by decide +kernel
theorem dX4_digest_73 : decode cX4_digest 73 = .ok (.aload_n 0, 1) := by decide +kernel
theorem dX4_digest_74 : decode cX4_digest 74 = .ok (.invokevirtual 69, 3) := by decide +kernel
theorem dX4_digest_77 : decode cX4_digest 77 = .ok (.imul, 1) := by decide +kernel
theorem dX4_digest_78 : decode cX4_digest 78 = .ok (.if_icmp .ge 23, 3) := by decide +kernel
theorem dX4_digest_81 : decode cX4_digest 81 = .ok (.lload_n 1, 1) := by decide +kernel
theorem dX4_digest_82 : decode cX4_digest 82 = .ok (.ldc2_w 110, 3) := by decide +kernel
theorem dX4_digest_85 : decode cX4_digest 85 = .ok (.lmul, 1) := by decide +kernel
theorem dX4_digest_86 : decode cX4_digest 86 = .ok (.aload_n 0, 1) := by decide +kernel
theorem dX4_digest_87 : decode cX4_digest 87 = .ok (.getfield 16, 3) := by decide +kernel
theorem dX4_digest_90 : decode cX4_digest 90 = .ok (.iload_n 3, 1) := by decide +kernel
theorem dX4_digest_91 : decode cX4_digest 91 = .ok (.iaload, 1) := by decide +kernel
theorem dX4_digest_92 : decode cX4_digest 92 = .ok (.i2l, 1) := by decide +kernel
theorem dX4_digest_93 : decode cX4_digest 93 = .ok (.ladd, 1) := by decide +kernel
theorem dX4_digest_94 : decode cX4_digest 94 = .ok (.lstore_n 1, 1) := by decide +kernel
theorem dX4_digest_95 : decode cX4_digest 95 = .ok (.iinc 3 1, 3) := by decide +kernel
theorem dX4_digest_98 : decode cX4_digest 98 = .ok (.goto (-28), 3) := by decide +kernel
theorem dX4_digest_101 : decode cX4_digest 101 = .ok (.iconst 0, 1) := by decide +kernel
theorem dX4_digest_102 : decode cX4_digest 102 = .ok (.istore_n 3, 1) := by decide +kernel
theorem dX4_digest_103 : decode cX4_digest 103 = .ok (.iload_n 3, 1) := by decide +kernel
theorem dX4_digest_104 : decode cX4_digest 104 = .ok (.bipush 90, 2) := by decide +kernel
theorem dX4_digest_106 : decode cX4_digest 106 = .ok (.if_icmp .ge 23, 3) := by decide +kernel
theorem dX4_digest_109 : decode cX4_digest 109 = .ok (.lload_n 1, 1) := by decide +kernel
theorem dX4_digest_110 : decode cX4_digest 110 = .ok (.ldc2_w 110, 3) := by decide +kernel
theorem dX4_digest_113 : decode cX4_digest 113 = .ok (.lmul, 1) := by decide +kernel
theorem dX4_digest_114 : decode cX4_digest 114 = .ok (.aload_n 0, 1) := by decide +kernel
theorem dX4_digest_115 : decode cX4_digest 115 = .ok (.getfield 19, 3) := by decide +kernel
theorem dX4_digest_118 : decode cX4_digest 118 = .ok (.iload_n 3, 1) := by decide +kernel
theorem dX4_digest_119 : decode cX4_digest 119 = .ok (.iaload, 1) := by decide +kernel
theorem dX4_digest_120 : decode cX4_digest 120 = .ok (.i2l, 1) := by decide +kernel
theorem dX4_digest_121 : decode cX4_digest 121 = .ok (.ladd, 1) := by decide +kernel
theorem dX4_digest_122 : decode cX4_digest 122 = .ok (.lstore_n 1, 1) := by decide +kernel
theorem dX4_digest_123 : decode cX4_digest 123 = .ok (.iinc 3 1, 3) := by decide +kernel
theorem dX4_digest_126 : decode cX4_digest 126 = .ok (.goto (-23), 3) := by decide +kernel
theorem dX4_digest_129 : decode cX4_digest 129 = .ok (.lload_n 1, 1) := by decide +kernel
theorem dX4_digest_130 : decode cX4_digest 130 = .ok (.lreturn, 1) := by decide +kernel
end
section
set_option maxRecDepth 20000 in
theorem ggL_lay_X3_lay : GoodIn wsL_lay wsX3_lay := goodIn_ca (goodIn_r _ [6, 7, 8, 9, 10, 11, 12, 13, 5, 14, 15, 16, 17, 18, 19, 20, 21, 22, 23, 24, 25, 26, 27, 28, 29, 30, 31, 32, 33, 34, 35, 36, 37, 38, 39, 40, 41, 42, 43, 44, 45, 46, 47, 48, 49, 50, 51, 52, 53, 54, 55, 56, 57, 58, 59, 60, 61, 62, 63, 64, 65, 66, 67, 68, 69, 70, 71, 72, 73] (by decide +kernel) (by decide +kernel)) (goodIn_sub (fun _ h => List.mem_cons_of_mem _ (List.mem_append_right _ h)) (by decide +kernel))
set_option maxRecDepth 20000 in
theorem gL_lay_X3_lay : GoodIn wsL_lay (wsV RL 7 RX3 yX3_lay wsX3_lay) := goodIn_app (goodIn_of _ (by decide +kernel)) ggL_lay_X3_lay
theorem dL_lay_0 : decode cL_lay 0 = .ok (.aload_n 3, 1) := by decide +kernel
theorem dL_lay_1 : decode cL_lay 1 = .ok (.iconst 0, 1) := by decide +kernel
theorem dL_lay_2 : decode cL_lay 2 = .ok (.aload_n 0, 1) := by decide +kernel
theorem dL_lay_3 : decode cL_lay 3 = .ok (.iload_n 1, 1) := by decide +kernel
theorem dL_lay_4 : decode cL_lay 4 = .ok (.iload_n 2, 1) := by decide +kernel
theorem dL_lay_5 : decode cL_lay 5 = .ok (.invokevirtual 7, 3) := by decide +kernel
theorem dL_lay_8 : decode cL_lay 8 = .ok (.i2l, 1) := by decide +kernel
theorem dL_lay_9 : decode cL_lay 9 = .ok (.lastore, 1) := by decide +kernel
theorem dL_lay_10 : decode cL_lay 10 = .ok (.goto 7, 3) := by decide +kernel
theorem dL_lay_13 : decode cL_lay 13 = .ok (.astore 4, 2) := by decide +kernel
theorem dL_lay_15 : decode cL_lay 15 = .ok (.iconst 1, 1) := by decide +kernel
theorem dL_lay_16 : decode cL_lay 16 = .ok (.ireturn, 1) := by decide +kernel
theorem dL_lay_17 : decode cL_lay 17 = .ok (.iconst 0, 1) := by decide +kernel
theorem dL_lay_18 : decode cL_lay 18 = .ok (.ireturn, 1) := by decide +kernel
set_option maxRecDepth 20000 in
theorem ggL_setField_X3_setField : GoodIn wsL_setField wsX3_setField := goodIn_ca (goodIn_ca (goodIn_r _ [7, 8, 9, 10, 11, 12, 13, 14, 15, 16, 17, 18, 19, 20, 21, 22, 23, 24, 25, 26, 27, 28, 6, 29, 30, 31, 32, 33, 34, 35, 36, 37, 38, 39, 40, 41, 42, 43, 44, 45, 46, 47, 48, 49, 50, 51, 52, 53, 54, 55, 56, 57] (by decide +kernel) (by decide +kernel)) (goodIn_sub (fun _ h => List.mem_cons_of_mem _ (List.mem_append_left _ (List.mem_append_right _ h))) (by decide +kernel))) (goodIn_sub (fun _ h => List.mem_cons_of_mem _ (List.mem_append_right _ h)) (by decide +kernel))
set_option maxRecDepth 20000 in
theorem gL_setField_X3_setField : GoodIn wsL_setField (wsV RL 15 RX3 yX3_setField wsX3_setField) := goodIn_app (goodIn_of _ (by decide +kernel)) ggL_setField_X3_setField
theorem dL_setField_0 : decode cL_setField 0 = .ok (.aload 5, 2) := by decide +kernel
theorem dL_setField_2 : decode cL_setField 2 = .ok (.iconst 0, 1) := by decide +kernel
theorem dL_setField_3 : decode cL_setField 3 = .ok (.aload_n 0, 1) := by decide +kernel
theorem dL_setField_4 : decode cL_setField 4 = .ok (.iload_n 1, 1) := by decide +kernel
theorem dL_setField_5 : decode cL_setField 5 = .ok (.iload_n 2, 1) := by decide +kernel
theorem dL_setField_6 : decode cL_setField 6 = .ok (.iload_n 3, 1) := by decide +kernel
theorem dL_setField_7 : decode cL_setField 7 = .ok (.iload 4, 2) := by decide +kernel
theorem dL_setField_9 : decode cL_setField 9 = .ok (.invokevirtual 15, 3) := by decide +kernel
theorem dL_setField_12 : decode cL_setField 12 = .ok (.i2l, 1) := by decide +kernel
theorem dL_setField_13 : decode cL_setField 13 = .ok (.lastore, 1) := by decide +kernel
theorem dL_setField_14 : decode cL_setField 14 = .ok (.goto 11, 3) := by decide +kernel
theorem dL_setField_17 : decode cL_setField 17 = .ok (.astore 6, 2) := by decide +kernel
theorem dL_setField_19 : decode cL_setField 19 = .ok (.iconst 1, 1) := by decide +kernel
theorem dL_setField_20 : decode cL_setField 20 = .ok (.ireturn, 1) := by decide +kernel
theorem dL_setField_21 : decode cL_setField 21 = .ok (.astore 6, 2) := by decide +kernel
theorem dL_setField_23 : decode cL_setField 23 = .ok (.iconst 2, 1) := by decide +kernel
theorem dL_setField_24 : decode cL_setField 24 = .ok (.ireturn, 1) := by decide +kernel
theorem dL_setField_25 : decode cL_setField 25 = .ok (.iconst 0, 1) := by decide +kernel
theorem dL_setField_26 : decode cL_setField 26 = .ok (.ireturn, 1) := by decide +kernel
set_option maxRecDepth 20000 in
theorem ggL_moveStone_X3_moveStone : GoodIn wsL_moveStone wsX3_moveStone := goodIn_ca (goodIn_ca (goodIn_r _ [7, 8, 9, 10, 11, 12, 13, 14, 15, 16, 17, 18, 19, 20, 21, 22, 23, 24, 25, 26, 27, 28, 29, 30, 31, 32, 6, 33, 34, 35, 36, 37, 38, 39, 40, 41, 42, 43, 44, 45, 46, 47, 48, 49, 50, 51, 52, 53, 54, 55, 56, 57] (by decide +kernel) (by decide +kernel)) (goodIn_sub (fun _ h => List.mem_cons_of_mem _ (List.mem_append_left _ (List.mem_append_right _ h))) (by decide +kernel))) (goodIn_sub (fun _ h => List.mem_cons_of_mem _ (List.mem_append_right _ h)) (by decide +kernel))
set_option maxRecDepth 20000 in
theorem gL_moveStone_X3_moveStone : GoodIn wsL_moveStone (wsV RL 21 RX3 yX3_moveStone wsX3_moveStone) := goodIn_app (goodIn_of _ (by decide +kernel)) ggL_moveStone_X3_moveStone
theorem dL_moveStone_0 : decode cL_moveStone 0 = .ok (.aload 4, 2) := by decide +kernel
theorem dL_moveStone_2 : decode cL_moveStone 2 = .ok (.iconst 0, 1) := by decide +kernel
theorem dL_moveStone_3 : decode cL_moveStone 3 = .ok (.aload_n 0, 1) := by decide +kernel
theorem dL_moveStone_4 : decode cL_moveStone 4 = .ok (.iload_n 1, 1) := by decide +kernel
theorem dL_moveStone_5 : decode cL_moveStone 5 = .ok (.iload_n 2, 1) := by decide +kernel
theorem dL_moveStone_6 : decode cL_moveStone 6 = .ok (.iload_n 3, 1) := by decide +kernel
theorem dL_moveStone_7 : decode cL_moveStone 7 = .ok (.invokevirtual 21, 3) := by decide +kernel
theorem dL_moveStone_10 : decode cL_moveStone 10 = .ok (.i2l, 1) := by decide +kernel
theorem dL_moveStone_11 : decode cL_moveStone 11 = .ok (.lastore, 1) := by decide +kernel
theorem dL_moveStone_12 : decode cL_moveStone 12 = .ok (.goto 11, 3) := by decide +kernel
theorem dL_moveStone_15 : decode cL_moveStone 15 = .ok (.astore 5, 2) := by decide +kernel
theorem dL_moveStone_17 : decode cL_moveStone 17 = .ok (.iconst 1, 1) := by decide +kernel
theorem dL_moveStone_18 : decode cL_moveStone 18 = .ok (.ireturn, 1) := by decide +kernel
theorem dL_moveStone_19 : decode cL_moveStone 19 = .ok (.astore 5, 2) := by decide +kernel
theorem dL_moveStone_21 : decode cL_moveStone 21 = .ok (.iconst 2, 1) := by decide +kernel
theorem dL_moveStone_22 : decode cL_moveStone 22 = .ok (.ireturn, 1) := by decide +kernel
theorem dL_moveStone_23 : decode cL_moveStone 23 = .ok (.iconst 0, 1) := by decide +kernel
theorem dL_moveStone_24 : decode cL_moveStone 24 = .ok (.ireturn, 1) := by decide +kernel
set_option maxRecDepth 20000 in
theorem ggL_turn_X3_turn : GoodIn wsL_turn wsX3_turn := goodIn_ca (goodIn_ca (goodIn_r _ [7, 8, 9, 10, 11, 12, 13, 14, 15, 16, 17, 18, 19, 20, 21, 22, 6, 23, 24, 25, 26, 27, 28, 29, 30, 31, 32, 33, 34, 35, 36, 37, 38, 39, 40, 41, 42, 43, 44, 45, 46, 47, 48, 49, 50, 51] (by decide +kernel) (by decide +kernel)) (goodIn_sub (fun _ h => List.mem_cons_of_mem _ (List.mem_append_left _ (List.mem_append_right _ h))) (by decide +kernel))) (goodIn_sub (fun _ h => List.mem_cons_of_mem _ (List.mem_append_right _ h)) (by decide +kernel))
set_option maxRecDepth 20000 in
theorem gL_turn_X3_turn : GoodIn wsL_turn (wsV RL 25 RX3 yX3_turn wsX3_turn) := goodIn_app (goodIn_of _ (by decide +kernel)) ggL_turn_X3_turn
theorem dL_turn_0 : decode cL_turn 0 = .ok (.aload 4, 2) := by decide +kernel
theorem dL_turn_2 : decode cL_turn 2 = .ok (.iconst 0, 1) := by decide +kernel
theorem dL_turn_3 : decode cL_turn 3 = .ok (.aload_n 0, 1) := by decide +kernel
theorem dL_turn_4 : decode cL_turn 4 = .ok (.iload_n 1, 1) := by decide +kernel
theorem dL_turn_5 : decode cL_turn 5 = .ok (.iload_n 2, 1) := by decide +kernel
theorem dL_turn_6 : decode cL_turn 6 = .ok (.iload_n 3, 1) := by decide +kernel
theorem dL_turn_7 : decode cL_turn 7 = .ok (.invokevirtual 25, 3) := by decide +kernel
theorem dL_turn_10 : decode cL_turn 10 = .ok (.i2l, 1) := by decide +kernel
theorem dL_turn_11 : decode cL_turn 11 = .ok (.lastore, 1) := by decide +kernel
theorem dL_turn_12 : decode cL_turn 12 = .ok (.goto 11, 3) := by decide +kernel
theorem dL_turn_15 : decode cL_turn 15 = .ok (.astore 5, 2) := by decide +kernel
theorem dL_turn_17 : decode cL_turn 17 = .ok (.iconst 1, 1) := by decide +kernel
theorem dL_turn_18 : decode cL_turn 18 = .ok (.ireturn, 1) := by decide +kernel
theorem dL_turn_19 : decode cL_turn 19 = .ok (.astore 5, 2) := by decide +kernel
theorem dL_turn_21 : decode cL_turn 21 = .ok (.iconst 2, 1) := by decide +kernel
theorem dL_turn_22 : decode cL_turn 22 = .ok (.ireturn, 1) := by decide +kernel
theorem dL_turn_23 : decode cL_turn 23 = .ok (.iconst 0, 1) := by decide +kernel
theorem dL_turn_24 : decode cL_turn 24 = .ok (.ireturn, 1) := by decide +kernel
set_option maxRecDepth 20000 in
theorem ggL_setShare_X3_setShare : GoodIn wsL_setShare wsX3_setShare := goodIn_ca (goodIn_ca (goodIn_r _ [7, 8, 9, 10, 11, 12, 13, 14, 15, 16, 17, 18, 19, 20, 21, 22, 6, 23, 24, 25, 26, 27, 28, 29, 30, 31, 32, 33, 34, 35, 36, 37, 38, 39, 40, 41, 42, 43, 44, 45, 46, 47] (by decide +kernel) (by decide +kernel)) (goodIn_sub (fun _ h => List.mem_cons_of_mem _ (List.mem_append_left _ (List.mem_append_right _ h))) (by decide +kernel))) (goodIn_sub (fun _ h => List.mem_cons_of_mem _ (List.mem_append_right _ h)) (by decide +kernel))
set_option maxRecDepth 20000 in
theorem gL_setShare_X3_setShare : GoodIn wsL_setShare (wsV RL 28 RX3 yX3_setShare wsX3_setShare) := goodIn_app (goodIn_of _ (by decide +kernel)) ggL_setShare_X3_setShare
theorem dL_setShare_0 : decode cL_setShare 0 = .ok (.aload_n 3, 1) := by decide +kernel
theorem dL_setShare_1 : decode cL_setShare 1 = .ok (.iconst 0, 1) := by decide +kernel
theorem dL_setShare_2 : decode cL_setShare 2 = .ok (.aload_n 0, 1) := by decide +kernel
theorem dL_setShare_3 : decode cL_setShare 3 = .ok (.iload_n 1, 1) := by decide +kernel
theorem dL_setShare_4 : decode cL_setShare 4 = .ok (.iload_n 2, 1) := by decide +kernel
theorem dL_setShare_5 : decode cL_setShare 5 = .ok (.invokevirtual 28, 3) := by decide +kernel
theorem dL_setShare_8 : decode cL_setShare 8 = .ok (.i2l, 1) := by decide +kernel
theorem dL_setShare_9 : decode cL_setShare 9 = .ok (.lastore, 1) := by decide +kernel
theorem dL_setShare_10 : decode cL_setShare 10 = .ok (.goto 11, 3) := by decide +kernel
theorem dL_setShare_13 : decode cL_setShare 13 = .ok (.astore 4, 2) := by decide +kernel
theorem dL_setShare_15 : decode cL_setShare 15 = .ok (.iconst 1, 1) := by decide +kernel
theorem dL_setShare_16 : decode cL_setShare 16 = .ok (.ireturn, 1) := by decide +kernel
theorem dL_setShare_17 : decode cL_setShare 17 = .ok (.astore 4, 2) := by decide +kernel
theorem dL_setShare_19 : decode cL_setShare 19 = .ok (.iconst 2, 1) := by decide +kernel
theorem dL_setShare_20 : decode cL_setShare 20 = .ok (.ireturn, 1) := by decide +kernel
theorem dL_setShare_21 : decode cL_setShare 21 = .ok (.iconst 0, 1) := by decide +kernel
theorem dL_setShare_22 : decode cL_setShare 22 = .ok (.ireturn, 1) := by decide +kernel
set_option maxRecDepth 20000 in
theorem ggL_setDay_X3_setDay : GoodIn wsL_setDay wsX3_setDay := goodIn_ca (goodIn_ca (goodIn_r _ [7, 8, 9, 10, 11, 12, 13, 14, 15, 16, 17, 6, 18, 19, 20, 21, 22, 23, 24, 25, 26, 27] (by decide +kernel) (by decide +kernel)) (goodIn_sub (fun _ h => List.mem_cons_of_mem _ (List.mem_append_left _ (List.mem_append_right _ h))) (by decide +kernel))) (goodIn_sub (fun _ h => List.mem_cons_of_mem _ (List.mem_append_right _ h)) (by decide +kernel))
set_option maxRecDepth 20000 in
theorem gL_setDay_X3_setDay : GoodIn wsL_setDay (wsV RL 31 RX3 yX3_setDay wsX3_setDay) := goodIn_app (goodIn_of _ (by decide +kernel)) ggL_setDay_X3_setDay
theorem dL_setDay_0 : decode cL_setDay 0 = .ok (.aload 5, 2) := by decide +kernel
theorem dL_setDay_2 : decode cL_setDay 2 = .ok (.iconst 0, 1) := by decide +kernel
theorem dL_setDay_3 : decode cL_setDay 3 = .ok (.aload_n 0, 1) := by decide +kernel
theorem dL_setDay_4 : decode cL_setDay 4 = .ok (.iload_n 1, 1) := by decide +kernel
theorem dL_setDay_5 : decode cL_setDay 5 = .ok (.iload_n 2, 1) := by decide +kernel
theorem dL_setDay_6 : decode cL_setDay 6 = .ok (.iload_n 3, 1) := by decide +kernel
theorem dL_setDay_7 : decode cL_setDay 7 = .ok (.iload 4, 2) := by decide +kernel
theorem dL_setDay_9 : decode cL_setDay 9 = .ok (.invokevirtual 31, 3) := by decide +kernel
theorem dL_setDay_12 : decode cL_setDay 12 = .ok (.i2l, 1) := by decide +kernel
theorem dL_setDay_13 : decode cL_setDay 13 = .ok (.lastore, 1) := by decide +kernel
theorem dL_setDay_14 : decode cL_setDay 14 = .ok (.goto 11, 3) := by decide +kernel
theorem dL_setDay_17 : decode cL_setDay 17 = .ok (.astore 6, 2) := by decide +kernel
theorem dL_setDay_19 : decode cL_setDay 19 = .ok (.iconst 1, 1) := by decide +kernel
theorem dL_setDay_20 : decode cL_setDay 20 = .ok (.ireturn, 1) := by decide +kernel
theorem dL_setDay_21 : decode cL_setDay 21 = .ok (.astore 6, 2) := by decide +kernel
theorem dL_setDay_23 : decode cL_setDay 23 = .ok (.iconst 2, 1) := by decide +kernel
theorem dL_setDay_24 : decode cL_setDay 24 = .ok (.ireturn, 1) := by decide +kernel
theorem dL_setDay_25 : decode cL_setDay 25 = .ok (.iconst 0, 1) := by decide +kernel
theorem dL_setDay_26 : decode cL_setDay 26 = .ok (.ireturn, 1) := by decide +kernel
set_option maxRecDepth 20000 in
theorem ggL_plant_X3_plant : GoodIn wsL_plant wsX3_plant := goodIn_ca (goodIn_ca (goodIn_ca (goodIn_r _ [8, 9, 10, 11, 12, 13, 14, 15, 16, 17, 18, 19, 20, 21, 22, 23, 24, 25, 26, 27, 7, 28, 29, 30, 31, 32, 33, 34, 35, 36, 37, 38, 39, 40, 41, 42, 43, 44, 45, 46, 47, 48, 49, 50, 51, 52, 53, 54, 55, 56, 57, 58, 59, 60, 61, 62, 63, 64, 65, 66, 67, 68, 69] (by decide +kernel) (by decide +kernel)) (goodIn_sub (fun _ h => List.mem_cons_of_mem _ (List.mem_append_left _ (List.mem_append_left _ (List.mem_append_right _ h)))) (by decide +kernel))) (goodIn_sub (fun _ h => List.mem_cons_of_mem _ (List.mem_append_left _ (List.mem_append_right _ h))) (by decide +kernel))) (goodIn_sub (fun _ h => List.mem_cons_of_mem _ (List.mem_append_right _ h)) (by decide +kernel))
set_option maxRecDepth 20000 in
theorem gL_plant_X3_plant : GoodIn wsL_plant (wsV RL 34 RX3 yX3_plant wsX3_plant) := goodIn_app (goodIn_of _ (by decide +kernel)) ggL_plant_X3_plant
theorem dL_plant_0 : decode cL_plant 0 = .ok (.aload 4, 2) := by decide +kernel
theorem dL_plant_2 : decode cL_plant 2 = .ok (.iconst 0, 1) := by decide +kernel
theorem dL_plant_3 : decode cL_plant 3 = .ok (.aload_n 0, 1) := by decide +kernel
theorem dL_plant_4 : decode cL_plant 4 = .ok (.iload_n 1, 1) := by decide +kernel
theorem dL_plant_5 : decode cL_plant 5 = .ok (.iload_n 2, 1) := by decide +kernel
theorem dL_plant_6 : decode cL_plant 6 = .ok (.iload_n 3, 1) := by decide +kernel
theorem dL_plant_7 : decode cL_plant 7 = .ok (.invokevirtual 34, 3) := by decide +kernel
theorem dL_plant_10 : decode cL_plant 10 = .ok (.i2l, 1) := by decide +kernel
theorem dL_plant_11 : decode cL_plant 11 = .ok (.lastore, 1) := by decide +kernel
theorem dL_plant_12 : decode cL_plant 12 = .ok (.goto 15, 3) := by decide +kernel
theorem dL_plant_15 : decode cL_plant 15 = .ok (.astore 5, 2) := by decide +kernel
theorem dL_plant_17 : decode cL_plant 17 = .ok (.iconst 1, 1) := by decide +kernel
theorem dL_plant_18 : decode cL_plant 18 = .ok (.ireturn, 1) := by decide +kernel
theorem dL_plant_19 : decode cL_plant 19 = .ok (.astore 5, 2) := by decide +kernel
theorem dL_plant_21 : decode cL_plant 21 = .ok (.iconst 2, 1) := by decide +kernel
theorem dL_plant_22 : decode cL_plant 22 = .ok (.ireturn, 1) := by decide +kernel
theorem dL_plant_23 : decode cL_plant 23 = .ok (.astore 5, 2) := by decide +kernel
theorem dL_plant_25 : decode cL_plant 25 = .ok (.iconst 3, 1) := by decide +kernel
theorem dL_plant_26 : decode cL_plant 26 = .ok (.ireturn, 1) := by decide +kernel
theorem dL_plant_27 : decode cL_plant 27 = .ok (.iconst 0, 1) := by decide +kernel
theorem dL_plant_28 : decode cL_plant 28 = .ok (.ireturn, 1) := by decide +kernel
set_option maxRecDepth 20000 in
theorem ggL_reap_X3_reap : GoodIn wsL_reap wsX3_reap := goodIn_ca (goodIn_ca (goodIn_r _ [7, 8, 9, 10, 11, 12, 13, 14, 15, 16, 17, 18, 19, 20, 21, 22, 23, 24, 25, 26, 27, 28, 29, 30, 31, 32, 33, 34, 35, 36, 37, 38, 39, 40, 41, 42, 43, 44, 45, 46, 47, 48, 49, 50, 51, 52, 53, 54, 55, 56, 57, 58, 59, 60, 61] (by decide +kernel) (by decide +kernel)) (goodIn_sub (fun _ h => List.mem_cons_of_mem _ (List.mem_append_left _ (List.mem_append_right _ h))) (by decide +kernel))) (goodIn_sub (fun _ h => List.mem_cons_of_mem _ (List.mem_append_right _ h)) (by decide +kernel))
set_option maxRecDepth 20000 in
theorem gL_reap_X3_reap : GoodIn wsL_reap (wsV RL 39 RX3 yX3_reap wsX3_reap) := goodIn_app (goodIn_of _ (by decide +kernel)) ggL_reap_X3_reap
theorem dL_reap_0 : decode cL_reap 0 = .ok (.aload_n 3, 1) := by decide +kernel
theorem dL_reap_1 : decode cL_reap 1 = .ok (.iconst 0, 1) := by decide +kernel
theorem dL_reap_2 : decode cL_reap 2 = .ok (.aload_n 0, 1) := by decide +kernel
theorem dL_reap_3 : decode cL_reap 3 = .ok (.iload_n 1, 1) := by decide +kernel
theorem dL_reap_4 : decode cL_reap 4 = .ok (.iload_n 2, 1) := by decide +kernel
theorem dL_reap_5 : decode cL_reap 5 = .ok (.invokevirtual 39, 3) := by decide +kernel
theorem dL_reap_8 : decode cL_reap 8 = .ok (.i2l, 1) := by decide +kernel
theorem dL_reap_9 : decode cL_reap 9 = .ok (.lastore, 1) := by decide +kernel
theorem dL_reap_10 : decode cL_reap 10 = .ok (.goto 11, 3) := by decide +kernel
theorem dL_reap_13 : decode cL_reap 13 = .ok (.astore 4, 2) := by decide +kernel
theorem dL_reap_15 : decode cL_reap 15 = .ok (.iconst 1, 1) := by decide +kernel
theorem dL_reap_16 : decode cL_reap 16 = .ok (.ireturn, 1) := by decide +kernel
theorem dL_reap_17 : decode cL_reap 17 = .ok (.astore 4, 2) := by decide +kernel
theorem dL_reap_19 : decode cL_reap 19 = .ok (.iconst 2, 1) := by decide +kernel
theorem dL_reap_20 : decode cL_reap 20 = .ok (.ireturn, 1) := by decide +kernel
theorem dL_reap_21 : decode cL_reap 21 = .ok (.iconst 0, 1) := by decide +kernel
theorem dL_reap_22 : decode cL_reap 22 = .ok (.ireturn, 1) := by decide +kernel
set_option maxRecDepth 20000 in
theorem ggL_pass_X3_pass : GoodIn wsL_pass wsX3_pass := goodIn_ca (goodIn_ca (goodIn_r _ [7, 8, 9, 10, 11, 12, 13, 14, 15, 16, 6, 17, 18, 19, 20, 21, 22, 23, 24, 25, 26, 27, 28, 29, 30, 31, 32, 33, 34, 35, 36, 37, 38, 39, 40, 41, 42, 43, 44, 45, 46, 47, 48, 49, 50, 51, 52, 53, 54, 55, 56, 57, 58, 59, 60, 61, 62, 63, 64, 65, 66, 67, 68, 69, 70, 71, 72, 73, 74, 75, 76, 77, 78, 79, 80, 81, 82, 83, 84, 85, 86, 87, 88, 89, 90, 91, 92, 93, 94, 95, 96, 97, 98, 99, 100, 101, 102, 103, 104, 105, 106, 107, 108, 109, 110, 111, 112, 113, 114, 115, 116, 117, 118, 119, 120, 121, 122, 123, 124, 125, 126, 127, 128, 129, 130, 131, 132, 133, 134, 135, 136, 137] (by decide +kernel) (by decide +kernel)) (goodIn_sub (fun _ h => List.mem_cons_of_mem _ (List.mem_append_left _ (List.mem_append_right _ h))) (by decide +kernel))) (goodIn_sub (fun _ h => List.mem_cons_of_mem _ (List.mem_append_right _ h)) (by decide +kernel))
set_option maxRecDepth 20000 in
theorem gL_pass_X3_pass : GoodIn wsL_pass (wsV RL 42 RX3 yX3_pass wsX3_pass) := goodIn_app (goodIn_of _ (by decide +kernel)) ggL_pass_X3_pass
theorem dL_pass_0 : decode cL_pass 0 = .ok (.aload_n 2, 1) := by decide +kernel
theorem dL_pass_1 : decode cL_pass 1 = .ok (.iconst 0, 1) := by decide +kernel
theorem dL_pass_2 : decode cL_pass 2 = .ok (.aload_n 0, 1) := by decide +kernel
theorem dL_pass_3 : decode cL_pass 3 = .ok (.iload_n 1, 1) := by decide +kernel
theorem dL_pass_4 : decode cL_pass 4 = .ok (.invokevirtual 42, 3) := by decide +kernel
theorem dL_pass_7 : decode cL_pass 7 = .ok (.i2l, 1) := by decide +kernel
theorem dL_pass_8 : decode cL_pass 8 = .ok (.lastore, 1) := by decide +kernel
theorem dL_pass_9 : decode cL_pass 9 = .ok (.goto 9, 3) := by decide +kernel
theorem dL_pass_12 : decode cL_pass 12 = .ok (.astore_n 3, 1) := by decide +kernel
theorem dL_pass_13 : decode cL_pass 13 = .ok (.iconst 1, 1) := by decide +kernel
theorem dL_pass_14 : decode cL_pass 14 = .ok (.ireturn, 1) := by decide +kernel
theorem dL_pass_15 : decode cL_pass 15 = .ok (.astore_n 3, 1) := by decide +kernel
theorem dL_pass_16 : decode cL_pass 16 = .ok (.iconst 2, 1) := by decide +kernel
theorem dL_pass_17 : decode cL_pass 17 = .ok (.ireturn, 1) := by decide +kernel
theorem dL_pass_18 : decode cL_pass 18 = .ok (.iconst 0, 1) := by decide +kernel
theorem dL_pass_19 : decode cL_pass 19 = .ok (.ireturn, 1) := by decide +kernel
set_option maxRecDepth 20000 in
theorem ggL_field_X3_field : GoodIn wsL_field wsX3_field := goodIn_ca (goodIn_r _ [6, 7, 8, 9, 10, 11, 12, 13, 14, 15, 16, 17, 18, 5, 19, 20, 21, 22, 23, 24, 25, 26, 27, 28, 29, 30, 31, 32, 33, 34, 35, 36, 37, 38, 39, 40, 41, 42, 43, 44, 45, 46, 47, 48, 49, 50, 51, 52, 53, 54, 55, 56, 57, 58, 59, 60, 61, 62, 63] (by decide +kernel) (by decide +kernel)) (goodIn_sub (fun _ h => List.mem_cons_of_mem _ (List.mem_append_right _ h)) (by decide +kernel))
set_option maxRecDepth 20000 in
theorem gL_field_X3_field : GoodIn wsL_field (wsV RL 46 RX3 yX3_field wsX3_field) := goodIn_app (goodIn_of _ (by decide +kernel)) ggL_field_X3_field
theorem dL_field_0 : decode cL_field 0 = .ok (.aload 4, 2) := by decide +kernel
theorem dL_field_2 : decode cL_field 2 = .ok (.iconst 0, 1) := by decide +kernel
theorem dL_field_3 : decode cL_field 3 = .ok (.aload_n 0, 1) := by decide +kernel
theorem dL_field_4 : decode cL_field 4 = .ok (.iload_n 1, 1) := by decide +kernel
theorem dL_field_5 : decode cL_field 5 = .ok (.iload_n 2, 1) := by decide +kernel
theorem dL_field_6 : decode cL_field 6 = .ok (.iload_n 3, 1) := by decide +kernel
theorem dL_field_7 : decode cL_field 7 = .ok (.invokevirtual 46, 3) := by decide +kernel
theorem dL_field_10 : decode cL_field 10 = .ok (.i2l, 1) := by decide +kernel
theorem dL_field_11 : decode cL_field 11 = .ok (.lastore, 1) := by decide +kernel
theorem dL_field_12 : decode cL_field 12 = .ok (.goto 7, 3) := by decide +kernel
theorem dL_field_15 : decode cL_field 15 = .ok (.astore 5, 2) := by decide +kernel
theorem dL_field_17 : decode cL_field 17 = .ok (.iconst 1, 1) := by decide +kernel
theorem dL_field_18 : decode cL_field 18 = .ok (.ireturn, 1) := by decide +kernel
theorem dL_field_19 : decode cL_field 19 = .ok (.iconst 0, 1) := by decide +kernel
theorem dL_field_20 : decode cL_field 20 = .ok (.ireturn, 1) := by decide +kernel
set_option maxRecDepth 20000 in
theorem ggL_count_X3_count : GoodIn wsL_count wsX3_count := goodIn_ca (goodIn_r _ [6, 7, 8, 9, 10, 5, 11, 12, 13, 14, 15, 16, 17, 18, 19, 20, 21, 22, 23, 24, 25, 26, 27, 28, 29, 30, 31, 32, 33, 34, 35, 36, 37, 38, 39, 40, 41, 42, 43, 44, 45, 46, 47, 48, 49, 50, 51, 52, 53, 54, 55, 56, 57, 58, 59, 60, 61, 62, 63, 64, 65, 66, 67, 68] (by decide +kernel) (by decide +kernel)) (goodIn_sub (fun _ h => List.mem_cons_of_mem _ (List.mem_append_right _ h)) (by decide +kernel))
set_option maxRecDepth 20000 in
theorem gL_count_X3_count : GoodIn wsL_count (wsV RL 49 RX3 yX3_count wsX3_count) := goodIn_app (goodIn_of _ (by decide +kernel)) ggL_count_X3_count
theorem dL_count_0 : decode cL_count 0 = .ok (.aload_n 2, 1) := by decide +kernel
theorem dL_count_1 : decode cL_count 1 = .ok (.iconst 0, 1) := by decide +kernel
theorem dL_count_2 : decode cL_count 2 = .ok (.aload_n 0, 1) := by decide +kernel
theorem dL_count_3 : decode cL_count 3 = .ok (.iload_n 1, 1) := by decide +kernel
theorem dL_count_4 : decode cL_count 4 = .ok (.invokevirtual 49, 3) := by decide +kernel
theorem dL_count_7 : decode cL_count 7 = .ok (.i2l, 1) := by decide +kernel
theorem dL_count_8 : decode cL_count 8 = .ok (.lastore, 1) := by decide +kernel
theorem dL_count_9 : decode cL_count 9 = .ok (.goto 6, 3) := by decide +kernel
theorem dL_count_12 : decode cL_count 12 = .ok (.astore_n 3, 1) := by decide +kernel
theorem dL_count_13 : decode cL_count 13 = .ok (.iconst 1, 1) := by decide +kernel
theorem dL_count_14 : decode cL_count 14 = .ok (.ireturn, 1) := by decide +kernel
theorem dL_count_15 : decode cL_count 15 = .ok (.iconst 0, 1) := by decide +kernel
theorem dL_count_16 : decode cL_count 16 = .ok (.ireturn, 1) := by decide +kernel
set_option maxRecDepth 20000 in
theorem ggL_weather_X3_weather : GoodIn wsL_weather wsX3_weather := goodIn_ca (goodIn_r _ [6, 7, 8, 9, 10, 11, 5, 12, 13, 14, 15, 16, 17, 18, 19, 20, 21, 22, 23, 24, 25, 26, 27, 28, 29] (by decide +kernel) (by decide +kernel)) (goodIn_sub (fun _ h => List.mem_cons_of_mem _ (List.mem_append_right _ h)) (by decide +kernel))
set_option maxRecDepth 20000 in
theorem gL_weather_X3_weather : GoodIn wsL_weather (wsV RL 52 RX3 yX3_weather wsX3_weather) := goodIn_app (goodIn_of _ (by decide +kernel)) ggL_weather_X3_weather
theorem dL_weather_0 : decode cL_weather 0 = .ok (.aload_n 3, 1) := by decide +kernel
theorem dL_weather_1 : decode cL_weather 1 = .ok (.iconst 0, 1) := by decide +kernel
theorem dL_weather_2 : decode cL_weather 2 = .ok (.aload_n 0, 1) := by decide +kernel
theorem dL_weather_3 : decode cL_weather 3 = .ok (.iload_n 1, 1) := by decide +kernel
theorem dL_weather_4 : decode cL_weather 4 = .ok (.iload_n 2, 1) := by decide +kernel
theorem dL_weather_5 : decode cL_weather 5 = .ok (.invokevirtual 52, 3) := by decide +kernel
theorem dL_weather_8 : decode cL_weather 8 = .ok (.i2l, 1) := by decide +kernel
theorem dL_weather_9 : decode cL_weather 9 = .ok (.lastore, 1) := by decide +kernel
theorem dL_weather_10 : decode cL_weather 10 = .ok (.goto 7, 3) := by decide +kernel
theorem dL_weather_13 : decode cL_weather 13 = .ok (.astore 4, 2) := by decide +kernel
theorem dL_weather_15 : decode cL_weather 15 = .ok (.iconst 1, 1) := by decide +kernel
theorem dL_weather_16 : decode cL_weather 16 = .ok (.ireturn, 1) := by decide +kernel
theorem dL_weather_17 : decode cL_weather 17 = .ok (.iconst 0, 1) := by decide +kernel
theorem dL_weather_18 : decode cL_weather 18 = .ok (.ireturn, 1) := by decide +kernel
set_option maxRecDepth 20000 in
theorem ggL_foresee_X3_foresee : GoodIn wsL_foresee wsX3_foresee := goodIn_ca (goodIn_ca (goodIn_ca (goodIn_r _ [8, 9, 10, 11, 12, 13, 14, 15, 16, 17, 18, 19, 20, 7, 21, 22, 23, 24, 25, 26, 27, 28, 29, 30, 31, 32, 33, 34, 35, 36, 37, 38, 39, 40, 41, 42, 43, 44, 45, 46, 47, 48, 49, 50, 51, 52, 53, 54, 55, 56, 57, 58, 59, 60, 61, 62, 63, 64, 65, 66, 67, 68, 69, 70, 71, 72, 73, 74, 75, 76, 77, 78, 79, 80, 81, 82, 83, 84, 85, 86, 87, 88, 89, 90, 91, 92, 93, 94, 95, 96, 97, 98, 99, 100, 101, 102, 103, 104, 105, 106, 107, 108, 109, 110, 111, 112, 113, 114, 115, 116, 117, 118, 119, 120, 121, 122, 123, 124, 125, 126, 127, 128, 129, 130, 131, 132, 133, 134, 135, 136, 137, 138, 139, 140, 141, 142, 143, 144, 145, 146, 147, 148, 149, 150, 151, 152, 153, 154, 155, 156, 157, 158, 159, 160, 161, 162, 163, 164, 165] (by decide +kernel) (by decide +kernel)) (goodIn_sub (fun _ h => List.mem_cons_of_mem _ (List.mem_append_left _ (List.mem_append_left _ (List.mem_append_right _ h)))) (by decide +kernel))) (goodIn_sub (fun _ h => List.mem_cons_of_mem _ (List.mem_append_left _ (List.mem_append_right _ h))) (by decide +kernel))) (goodIn_sub (fun _ h => List.mem_cons_of_mem _ (List.mem_append_right _ h)) (by decide +kernel))
set_option maxRecDepth 20000 in
theorem gL_foresee_X3_foresee : GoodIn wsL_foresee (wsV RL 55 RX3 yX3_foresee wsX3_foresee) := goodIn_app (goodIn_of _ (by decide +kernel)) ggL_foresee_X3_foresee
theorem dL_foresee_0 : decode cL_foresee 0 = .ok (.aload_n 3, 1) := by decide +kernel
theorem dL_foresee_1 : decode cL_foresee 1 = .ok (.iconst 0, 1) := by decide +kernel
theorem dL_foresee_2 : decode cL_foresee 2 = .ok (.aload_n 0, 1) := by decide +kernel
theorem dL_foresee_3 : decode cL_foresee 3 = .ok (.iload_n 1, 1) := by decide +kernel
theorem dL_foresee_4 : decode cL_foresee 4 = .ok (.iload_n 2, 1) := by decide +kernel
theorem dL_foresee_5 : decode cL_foresee 5 = .ok (.invokevirtual 55, 3) := by decide +kernel
theorem dL_foresee_8 : decode cL_foresee 8 = .ok (.i2l, 1) := by decide +kernel
theorem dL_foresee_9 : decode cL_foresee 9 = .ok (.lastore, 1) := by decide +kernel
theorem dL_foresee_10 : decode cL_foresee 10 = .ok (.goto 15, 3) := by decide +kernel
theorem dL_foresee_13 : decode cL_foresee 13 = .ok (.astore 4, 2) := by decide +kernel
theorem dL_foresee_15 : decode cL_foresee 15 = .ok (.iconst 1, 1) := by decide +kernel
theorem dL_foresee_16 : decode cL_foresee 16 = .ok (.ireturn, 1) := by decide +kernel
theorem dL_foresee_17 : decode cL_foresee 17 = .ok (.astore 4, 2) := by decide +kernel
theorem dL_foresee_19 : decode cL_foresee 19 = .ok (.iconst 2, 1) := by decide +kernel
theorem dL_foresee_20 : decode cL_foresee 20 = .ok (.ireturn, 1) := by decide +kernel
theorem dL_foresee_21 : decode cL_foresee 21 = .ok (.astore 4, 2) := by decide +kernel
theorem dL_foresee_23 : decode cL_foresee 23 = .ok (.iconst 3, 1) := by decide +kernel
theorem dL_foresee_24 : decode cL_foresee 24 = .ok (.ireturn, 1) := by decide +kernel
theorem dL_foresee_25 : decode cL_foresee 25 = .ok (.iconst 0, 1) := by decide +kernel
theorem dL_foresee_26 : decode cL_foresee 26 = .ok (.ireturn, 1) := by decide +kernel
set_option maxRecDepth 20000 in
theorem ggL_advise_X3_advise : GoodIn wsL_advise wsX3_advise := goodIn_ca (goodIn_ca (goodIn_ca (goodIn_r _ [8, 9, 10, 11, 12, 13, 14, 15, 16, 17, 18, 19, 7, 20, 21, 22, 23, 24, 25, 26, 27, 28, 29, 30, 31, 32, 33, 34, 35, 36, 37, 38, 39, 40, 41, 42, 43, 44, 45, 46, 47, 48, 49, 50, 51, 52, 53, 54, 55, 56, 57, 58, 59, 60, 61, 62, 63, 64, 65, 66, 67, 68, 69, 70, 71, 72, 73, 74, 75, 76, 77, 78, 79, 80, 81, 82, 83, 84, 85, 86, 87, 88, 89, 90, 91, 92, 93, 94, 95, 96, 97, 98, 99, 100, 101, 102, 103, 104, 105, 106, 107, 108, 109, 110, 111, 112, 113, 114, 115, 116, 117, 118, 119, 120, 121, 122, 123, 124, 125, 126, 127, 128, 129, 130, 131, 132, 133, 134, 135, 136, 137, 138, 139, 140, 141, 142, 143, 144, 145, 146, 147, 148, 149, 150, 151, 152, 153, 154, 155, 156, 157, 158, 159, 160, 161, 162, 163, 164, 165, 166, 167, 168, 169, 170, 171, 172, 173, 174, 175, 176, 177, 178, 179, 180, 181, 182, 183, 184, 185, 186, 187, 188, 189, 190, 191, 192, 193] (by decide +kernel) (by decide +kernel)) (goodIn_sub (fun _ h => List.mem_cons_of_mem _ (List.mem_append_left _ (List.mem_append_left _ (List.mem_append_right _ h)))) (by decide +kernel))) (goodIn_sub (fun _ h => List.mem_cons_of_mem _ (List.mem_append_left _ (List.mem_append_right _ h))) (by decide +kernel))) (goodIn_sub (fun _ h => List.mem_cons_of_mem _ (List.mem_append_right _ h)) (by decide +kernel))
set_option maxRecDepth 20000 in
theorem gL_advise_X3_advise : GoodIn wsL_advise (wsV RL 58 RX3 yX3_advise wsX3_advise) := goodIn_app (goodIn_of _ (by decide +kernel)) ggL_advise_X3_advise
theorem dL_advise_0 : decode cL_advise 0 = .ok (.aload_n 3, 1) := by decide +kernel
theorem dL_advise_1 : decode cL_advise 1 = .ok (.iconst 0, 1) := by decide +kernel
theorem dL_advise_2 : decode cL_advise 2 = .ok (.aload_n 0, 1) := by decide +kernel
theorem dL_advise_3 : decode cL_advise 3 = .ok (.iload_n 1, 1) := by decide +kernel
theorem dL_advise_4 : decode cL_advise 4 = .ok (.iload_n 2, 1) := by decide +kernel
theorem dL_advise_5 : decode cL_advise 5 = .ok (.invokevirtual 58, 3) := by decide +kernel
theorem dL_advise_8 : decode cL_advise 8 = .ok (.i2l, 1) := by decide +kernel
theorem dL_advise_9 : decode cL_advise 9 = .ok (.lastore, 1) := by decide +kernel
theorem dL_advise_10 : decode cL_advise 10 = .ok (.goto 15, 3) := by decide +kernel
theorem dL_advise_13 : decode cL_advise 13 = .ok (.astore 4, 2) := by decide +kernel
theorem dL_advise_15 : decode cL_advise 15 = .ok (.iconst 1, 1) := by decide +kernel
theorem dL_advise_16 : decode cL_advise 16 = .ok (.ireturn, 1) := by decide +kernel
theorem dL_advise_17 : decode cL_advise 17 = .ok (.astore 4, 2) := by decide +kernel
theorem dL_advise_19 : decode cL_advise 19 = .ok (.iconst 2, 1) := by decide +kernel
theorem dL_advise_20 : decode cL_advise 20 = .ok (.ireturn, 1) := by decide +kernel
theorem dL_advise_21 : decode cL_advise 21 = .ok (.astore 4, 2) := by decide +kernel
theorem dL_advise_23 : decode cL_advise 23 = .ok (.iconst 3, 1) := by decide +kernel
theorem dL_advise_24 : decode cL_advise 24 = .ok (.ireturn, 1) := by decide +kernel
theorem dL_advise_25 : decode cL_advise 25 = .ok (.iconst 0, 1) := by decide +kernel
theorem dL_advise_26 : decode cL_advise 26 = .ok (.ireturn, 1) := by decide +kernel
end
section
set_option maxRecDepth 20000 in
theorem ggL_law_X3_init : GoodIn wsL_law wsX3_init := goodIn_r _ [9, 10, 11, 12, 13, 14, 15, 16, 17, 18, 19, 20, 21, 22, 23, 24, 25, 26, 27, 28, 29, 30, 31, 32, 33, 34, 35, 36, 37, 38, 39, 40, 41, 42, 43, 44, 45, 46, 47, 48, 49, 50, 51, 52, 53, 54, 55, 56, 57, 58, 59, 60, 61, 62, 63, 64, 65, 66, 67, 68, 69, 70, 71, 516, 517, 518, 503, 504, 505, 506, 507, 508, 519, 520, 521, 522, 523, 524, 525, 526, 527, 528, 529, 530, 531, 532, 533, 534, 535, 536, 537, 538, 539, 540, 541] (by decide +kernel) (by decide +kernel)
set_option maxRecDepth 20000 in
theorem gL_law_X3_init : GoodIn wsL_law (wsX3_init) := ggL_law_X3_init
set_option maxRecDepth 20000 in
theorem ggL_law_X4_init : GoodIn wsL_law wsX4_init := goodIn_r _ [74, 75, 11, 12, 30, 76, 77, 78, 79, 80, 81, 82, 83, 84, 5, 85, 86, 87, 88, 89, 509, 510, 511, 512, 513, 514, 515] (by decide +kernel) (by decide +kernel)
set_option maxRecDepth 20000 in
theorem gL_law_X4_init : GoodIn wsL_law (wsX4_init) := ggL_law_X4_init
set_option maxRecDepth 20000 in
theorem ggL_law_L_lay : GoodIn wsL_law wsL_lay := goodIn_ca (goodIn_r _ [93, 94, 95, 96, 97, 2, 98, 99, 100, 20, 101, 102, 103, 104, 105, 106, 56, 57, 19, 58, 59, 60, 61, 62, 63, 42, 43, 44, 45, 46, 47, 53, 54, 64, 35, 36, 37, 65, 66, 67, 68, 48, 49, 50, 51, 52, 107, 108, 109, 110, 503, 504, 505, 506, 507, 508, 519, 520, 521, 522, 523, 524, 525, 526, 527, 528, 529, 530, 531, 532, 533, 534, 535, 536] (by decide +kernel) (by decide +kernel)) (goodIn_sub (fun _ h => List.mem_append_left _ (List.mem_append_left _ (List.mem_append_right _ h))) (by decide +kernel))
set_option maxRecDepth 20000 in
theorem gL_law_L_lay : GoodIn wsL_law (va_wsS RL 65 yL_lay wsL_lay) := goodIn_app (goodIn_of _ (by decide +kernel)) ggL_law_L_lay
set_option maxRecDepth 20000 in
theorem ggL_law_X4_lay : GoodIn wsL_law wsX4_lay := goodIn_r _ [114, 115, 116, 117, 5, 118, 119, 120, 121, 122, 82, 83, 84, 85, 76, 77, 30, 78, 86, 87, 88, 89, 509, 510, 511, 512, 513, 514, 515] (by decide +kernel) (by decide +kernel)
set_option maxRecDepth 20000 in
theorem gL_law_X4_lay : GoodIn wsL_law (wsV RL 70 RX4 yX4_lay wsX4_lay) := goodIn_app (goodIn_of _ (by decide +kernel)) ggL_law_X4_lay
set_option maxRecDepth 20000 in
theorem ggL_law_X4_thrown : GoodIn wsL_law wsX4_thrown := goodIn_r _ [126, 115, 509, 510, 511, 512, 513, 514, 515] (by decide +kernel) (by decide +kernel)
set_option maxRecDepth 20000 in
theorem gL_law_X4_thrown : GoodIn wsL_law (wsV RL 71 RX4 yX4_thrown wsX4_thrown) := goodIn_app (goodIn_of _ (by decide +kernel)) ggL_law_X4_thrown
set_option maxRecDepth 20000 in
theorem ggL_law_L_setField : GoodIn wsL_law wsL_setField := goodIn_ca (goodIn_ca (goodIn_r _ [129, 130, 94, 131, 132, 133, 2, 134, 135, 136, 99, 100, 20, 137, 138, 139, 140, 141, 142, 143, 144, 145, 146, 19, 147, 59, 60, 103, 104, 105, 148, 149, 150, 151, 503, 504, 505, 506, 507, 508, 519, 520, 521, 522, 523, 524, 525, 526, 527, 528, 529, 530, 531, 532, 533, 534, 535, 536] (by decide +kernel) (by decide +kernel)) (goodIn_sub (fun _ h => List.mem_append_left _ (List.mem_append_right _ h)) (by decide +kernel))) (goodIn_sub (fun _ h => List.mem_append_left _ (List.mem_append_left _ (List.mem_append_right _ h))) (by decide +kernel))
set_option maxRecDepth 20000 in
theorem gL_law_L_setField : GoodIn wsL_law (va_wsS RL 75 yL_setField wsL_setField) := goodIn_app (goodIn_of _ (by decide +kernel)) ggL_law_L_setField
set_option maxRecDepth 20000 in
theorem ggL_law_X4_setField : GoodIn wsL_law wsX4_setField := goodIn_r _ [155, 115, 78, 156, 141, 142, 143, 157, 158, 159, 5, 160, 76, 116, 117, 118, 119, 120, 121, 122, 161, 162, 163, 164, 165, 166, 167, 168, 509, 510, 511, 512, 513, 514, 515] (by decide +kernel) (by decide +kernel)
set_option maxRecDepth 20000 in
theorem gL_law_X4_setField : GoodIn wsL_law (wsV RL 78 RX4 yX4_setField wsX4_setField) := goodIn_app (goodIn_of _ (by decide +kernel)) ggL_law_X4_setField
set_option maxRecDepth 20000 in
theorem ggL_law_L_moveStone : GoodIn wsL_law wsL_moveStone := goodIn_ca (goodIn_ca (goodIn_r _ [171, 130, 94, 172, 173, 174, 2, 175, 135, 136, 99, 100, 20, 137, 139, 102, 176, 177, 142, 178, 144, 145, 146, 19, 147, 59, 60, 148, 149, 150, 151, 103, 104, 105, 503, 504, 505, 506, 507, 508, 519, 520, 521, 522, 523, 524, 525, 526, 527, 528, 529, 530, 531, 532, 533, 534, 535, 536] (by decide +kernel) (by decide +kernel)) (goodIn_sub (fun _ h => List.mem_append_left _ (List.mem_append_right _ h)) (by decide +kernel))) (goodIn_sub (fun _ h => List.mem_append_left _ (List.mem_append_left _ (List.mem_append_right _ h))) (by decide +kernel))
set_option maxRecDepth 20000 in
theorem gL_law_L_moveStone : GoodIn wsL_law (va_wsS RL 79 yL_moveStone wsL_moveStone) := goodIn_app (goodIn_of _ (by decide +kernel)) ggL_law_L_moveStone
set_option maxRecDepth 20000 in
theorem ggL_law_X4_moveStone : GoodIn wsL_law wsX4_moveStone := goodIn_r _ [182, 115, 78, 76, 183, 177, 142, 178, 157, 158, 159, 5, 160, 116, 117, 118, 119, 120, 121, 122, 161, 162, 163, 164, 165, 166, 167, 168, 509, 510, 511, 512, 513, 514, 515] (by decide +kernel) (by decide +kernel)
set_option maxRecDepth 20000 in
theorem gL_law_X4_moveStone : GoodIn wsL_law (wsV RL 82 RX4 yX4_moveStone wsX4_moveStone) := goodIn_app (goodIn_of _ (by decide +kernel)) ggL_law_X4_moveStone
set_option maxRecDepth 20000 in
theorem ggL_law_L_turn : GoodIn wsL_law wsL_turn := goodIn_ca (goodIn_ca (goodIn_r _ [186, 130, 94, 187, 188, 189, 2, 190, 135, 136, 99, 100, 20, 191, 144, 145, 146, 19, 147, 59, 60, 103, 104, 105, 148, 149, 150, 151, 503, 504, 505, 506, 507, 508, 519, 520, 521, 522, 523, 524, 525, 526, 527, 528, 529, 530, 531, 532, 533, 534, 535, 536] (by decide +kernel) (by decide +kernel)) (goodIn_sub (fun _ h => List.mem_append_left _ (List.mem_append_right _ h)) (by decide +kernel))) (goodIn_sub (fun _ h => List.mem_append_left _ (List.mem_append_left _ (List.mem_append_right _ h))) (by decide +kernel))
set_option maxRecDepth 20000 in
theorem gL_law_L_turn : GoodIn wsL_law (va_wsS RL 83 yL_turn wsL_turn) := goodIn_app (goodIn_of _ (by decide +kernel)) ggL_law_L_turn
set_option maxRecDepth 20000 in
theorem ggL_law_X4_turn : GoodIn wsL_law wsX4_turn := goodIn_r _ [195, 115, 157, 158, 159, 5, 160, 76, 116, 117, 118, 119, 120, 121, 122, 161, 162, 163, 164, 165, 166, 167, 168, 78, 509, 510, 511, 512, 513, 514, 515] (by decide +kernel) (by decide +kernel)
set_option maxRecDepth 20000 in
theorem gL_law_X4_turn : GoodIn wsL_law (wsV RL 85 RX4 yX4_turn wsX4_turn) := goodIn_app (goodIn_of _ (by decide +kernel)) ggL_law_X4_turn
set_option maxRecDepth 20000 in
theorem ggL_law_L_setShare : GoodIn wsL_law wsL_setShare := goodIn_ca (goodIn_ca (goodIn_r _ [198, 130, 94, 199, 200, 201, 2, 202, 135, 136, 99, 100, 20, 203, 144, 145, 146, 19, 147, 59, 60, 103, 104, 105, 503, 504, 505, 506, 507, 508, 519, 520, 521, 522, 523, 524, 525, 526, 527, 528, 529, 530, 531, 532, 533, 534, 535, 536] (by decide +kernel) (by decide +kernel)) (goodIn_sub (fun _ h => List.mem_append_left _ (List.mem_append_right _ h)) (by decide +kernel))) (goodIn_sub (fun _ h => List.mem_append_left _ (List.mem_append_left _ (List.mem_append_right _ h))) (by decide +kernel))
set_option maxRecDepth 20000 in
theorem gL_law_L_setShare : GoodIn wsL_law (va_wsS RL 86 yL_setShare wsL_setShare) := goodIn_app (goodIn_of _ (by decide +kernel)) ggL_law_L_setShare
end
section
set_option maxRecDepth 20000 in
theorem ggL_law_X4_setShare : GoodIn wsL_law wsX4_setShare := goodIn_r _ [207, 115, 76, 77, 116, 117, 5, 118, 119, 120, 121, 122, 509, 510, 511, 512, 513, 514, 515] (by decide +kernel) (by decide +kernel)
set_option maxRecDepth 20000 in
theorem gL_law_X4_setShare : GoodIn wsL_law (wsV RL 88 RX4 yX4_setShare wsX4_setShare) := goodIn_app (goodIn_of _ (by decide +kernel)) ggL_law_X4_setShare
set_option maxRecDepth 20000 in
theorem ggL_law_L_setDay : GoodIn wsL_law wsL_setDay := goodIn_ca (goodIn_ca (goodIn_r _ [210, 130, 94, 211, 212, 213, 2, 214, 135, 136, 99, 100, 16, 215, 216, 217, 103, 104, 105, 503, 504, 505, 506, 507, 508, 516, 517, 518] (by decide +kernel) (by decide +kernel)) (goodIn_sub (fun _ h => List.mem_append_left _ (List.mem_append_right _ h)) (by decide +kernel))) (goodIn_sub (fun _ h => List.mem_append_left _ (List.mem_append_left _ (List.mem_append_right _ h))) (by decide +kernel))
set_option maxRecDepth 20000 in
theorem gL_law_L_setDay : GoodIn wsL_law (va_wsS RL 89 yL_setDay wsL_setDay) := goodIn_app (goodIn_of _ (by decide +kernel)) ggL_law_L_setDay
set_option maxRecDepth 20000 in
theorem ggL_law_X4_setDay : GoodIn wsL_law wsX4_setDay := goodIn_r _ [221, 115, 79, 30, 86, 87, 88, 89, 116, 117, 5, 118, 119, 120, 121, 122, 509, 510, 511, 512, 513, 514, 515] (by decide +kernel) (by decide +kernel)
set_option maxRecDepth 20000 in
theorem gL_law_X4_setDay : GoodIn wsL_law (wsV RL 91 RX4 yX4_setDay wsX4_setDay) := goodIn_app (goodIn_of _ (by decide +kernel)) ggL_law_X4_setDay
set_option maxRecDepth 20000 in
theorem ggL_law_L_plant : GoodIn wsL_law wsL_plant := goodIn_ca (goodIn_ca (goodIn_ca (goodIn_r _ [224, 130, 94, 225, 226, 227, 228, 2, 229, 135, 136, 99, 100, 230, 231, 20, 232, 233, 234, 144, 145, 146, 19, 147, 59, 60, 103, 104, 105, 148, 149, 150, 151, 235, 236, 237, 238, 48, 239, 240, 241, 242, 243, 108, 109, 110, 503, 504, 505, 506, 507, 508, 519, 520, 521, 522, 523, 524, 525, 526, 527, 528, 529, 530, 531, 532, 533, 534, 535, 536] (by decide +kernel) (by decide +kernel)) (goodIn_sub (fun _ h => List.mem_append_left _ (List.mem_append_right _ h)) (by decide +kernel))) (goodIn_sub (fun _ h => List.mem_append_left _ (List.mem_append_left _ (List.mem_append_right _ h))) (by decide +kernel))) (goodIn_sub (fun _ h => List.mem_append_right _ h) (by decide +kernel))
set_option maxRecDepth 20000 in
theorem gL_law_L_plant : GoodIn wsL_law (va_wsS RL 92 yL_plant wsL_plant) := goodIn_app (goodIn_of _ (by decide +kernel)) ggL_law_L_plant
set_option maxRecDepth 20000 in
theorem ggL_law_X4_plant : GoodIn wsL_law wsX4_plant := goodIn_r _ [247, 115, 78, 157, 158, 159, 5, 160, 76, 116, 117, 118, 119, 120, 121, 122, 161, 162, 163, 164, 248, 249, 250, 251, 252, 253, 254, 255, 509, 510, 511, 512, 513, 514, 515] (by decide +kernel) (by decide +kernel)
set_option maxRecDepth 20000 in
theorem gL_law_X4_plant : GoodIn wsL_law (wsV RL 94 RX4 yX4_plant wsX4_plant) := goodIn_app (goodIn_of _ (by decide +kernel)) ggL_law_X4_plant
set_option maxRecDepth 20000 in
theorem ggL_law_L_reap : GoodIn wsL_law wsL_reap := goodIn_ca (goodIn_ca (goodIn_r _ [258, 130, 225, 259, 260, 261, 2, 262, 135, 136, 230, 231, 20, 232, 234, 263, 233, 101, 144, 145, 146, 19, 147, 59, 60, 148, 149, 150, 151, 264, 66, 67, 68, 48, 49, 50, 51, 52, 503, 504, 505, 506, 507, 508, 519, 520, 521, 522, 523, 524, 525, 526, 527, 528, 529, 530, 531, 532, 533, 534, 535, 536] (by decide +kernel) (by decide +kernel)) (goodIn_sub (fun _ h => List.mem_append_left _ (List.mem_append_right _ h)) (by decide +kernel))) (goodIn_sub (fun _ h => List.mem_append_right _ h) (by decide +kernel))
set_option maxRecDepth 20000 in
theorem gL_law_L_reap : GoodIn wsL_law (va_wsS RL 95 yL_reap wsL_reap) := goodIn_app (goodIn_of _ (by decide +kernel)) ggL_law_L_reap
set_option maxRecDepth 20000 in
theorem ggL_law_X4_reap : GoodIn wsL_law wsX4_reap := goodIn_r _ [268, 115, 78, 76, 157, 158, 159, 5, 160, 116, 117, 118, 119, 120, 121, 122, 161, 162, 163, 164, 269, 270, 271, 272, 509, 510, 511, 512, 513, 514, 515] (by decide +kernel) (by decide +kernel)
set_option maxRecDepth 20000 in
theorem gL_law_X4_reap : GoodIn wsL_law (wsV RL 97 RX4 yX4_reap wsX4_reap) := goodIn_app (goodIn_of _ (by decide +kernel)) ggL_law_X4_reap
set_option maxRecDepth 20000 in
theorem ggL_law_L_pass : GoodIn wsL_law wsL_pass := goodIn_ca (goodIn_ca (goodIn_r _ [275, 94, 225, 276, 277, 278, 2, 279, 99, 100, 230, 231, 20, 280, 16, 103, 104, 105, 281, 282, 283, 19, 284, 61, 285, 286, 287, 288, 289, 290, 291, 43, 243, 108, 109, 110, 59, 60, 292, 293, 294, 295, 42, 296, 297, 298, 299, 300, 301, 302, 303, 46, 304, 305, 142, 306, 307, 141, 143, 53, 47, 44, 54, 308, 149, 150, 151, 309, 310, 311, 312, 62, 313, 145, 146, 147, 314, 315, 316, 317, 45, 318, 319, 320, 321, 48, 322, 323, 324, 325, 49, 51, 52, 63, 50, 65, 66, 67, 68, 326, 327, 328, 329, 235, 236, 237, 238, 239, 240, 241, 242, 503, 504, 505, 506, 507, 508, 519, 520, 521, 522, 523, 524, 525, 526, 527, 528, 529, 530, 531, 532, 533, 534, 535, 536, 516, 517, 518] (by decide +kernel) (by decide +kernel)) (goodIn_sub (fun _ h => List.mem_append_left _ (List.mem_append_left _ (List.mem_append_right _ h))) (by decide +kernel))) (goodIn_sub (fun _ h => List.mem_append_right _ h) (by decide +kernel))
set_option maxRecDepth 20000 in
theorem gL_law_L_pass : GoodIn wsL_law (va_wsS RL 98 yL_pass wsL_pass) := goodIn_app (goodIn_of _ (by decide +kernel)) ggL_law_L_pass
set_option maxRecDepth 20000 in
theorem ggL_law_X4_pass : GoodIn wsL_law wsX4_pass := goodIn_r _ [333, 115, 76, 116, 117, 5, 118, 119, 120, 121, 122, 334, 335, 336, 337, 77, 78, 79, 338, 305, 142, 306, 156, 141, 143, 252, 253, 254, 255, 339, 340, 341, 342, 161, 162, 163, 164, 343, 344, 345, 346, 157, 158, 159, 160, 347, 348, 349, 350, 269, 270, 271, 272, 248, 249, 250, 251, 509, 510, 511, 512, 513, 514, 515] (by decide +kernel) (by decide +kernel)
set_option maxRecDepth 20000 in
theorem gL_law_X4_pass : GoodIn wsL_law (wsV RL 101 RX4 yX4_pass wsX4_pass) := goodIn_app (goodIn_of _ (by decide +kernel)) ggL_law_X4_pass
set_option maxRecDepth 20000 in
theorem ggL_law_L_field : GoodIn wsL_law wsL_field := goodIn_ca (goodIn_r _ [353, 130, 354, 355, 356, 2, 357, 135, 136, 20, 144, 145, 146, 19, 147, 59, 60, 103, 104, 105, 148, 149, 150, 151, 358, 359, 360, 361, 43, 44, 45, 46, 47, 48, 49, 50, 51, 52, 53, 54, 503, 504, 505, 506, 507, 508, 519, 520, 521, 522, 523, 524, 525, 526, 527, 528, 529, 530, 531, 532, 533, 534, 535, 536] (by decide +kernel) (by decide +kernel)) (goodIn_sub (fun _ h => List.mem_append_left _ (List.mem_append_right _ h)) (by decide +kernel))
set_option maxRecDepth 20000 in
theorem gL_law_L_field : GoodIn wsL_law (va_wsS RL 102 yL_field wsL_field) := goodIn_app (goodIn_of _ (by decide +kernel)) ggL_law_L_field
set_option maxRecDepth 20000 in
theorem ggL_law_X4_field : GoodIn wsL_law wsX4_field := goodIn_r _ [365, 115, 78, 157, 158, 159, 5, 160, 76, 116, 117, 118, 161, 162, 163, 164, 119, 120, 121, 122, 509, 510, 511, 512, 513, 514, 515] (by decide +kernel) (by decide +kernel)
set_option maxRecDepth 20000 in
theorem gL_law_X4_field : GoodIn wsL_law (wsV RL 104 RX4 yX4_field wsX4_field) := goodIn_app (goodIn_of _ (by decide +kernel)) ggL_law_X4_field
set_option maxRecDepth 20000 in
theorem ggL_law_L_count : GoodIn wsL_law wsL_count := goodIn_ca (goodIn_r _ [368, 130, 369, 370, 371, 2, 372, 135, 136, 103, 104, 105, 373, 374, 375, 376, 20, 377, 378, 280, 379, 101, 380, 102, 235, 236, 237, 19, 238, 48, 239, 240, 241, 242, 243, 108, 109, 110, 59, 60, 381, 382, 383, 384, 43, 503, 504, 505, 506, 507, 508, 519, 520, 521, 522, 523, 524, 525, 526, 527, 528, 529, 530, 531, 532, 533, 534, 535, 536] (by decide +kernel) (by decide +kernel)) (goodIn_sub (fun _ h => List.mem_append_left _ (List.mem_append_right _ h)) (by decide +kernel))
set_option maxRecDepth 20000 in
theorem gL_law_L_count : GoodIn wsL_law (va_wsS RL 105 yL_count wsL_count) := goodIn_app (goodIn_of _ (by decide +kernel)) ggL_law_L_count
end
section
set_option maxRecDepth 20000 in
theorem ggL_law_X4_count : GoodIn wsL_law wsX4_count := goodIn_r _ [388, 115, 116, 117, 5, 118, 389, 390, 391, 392, 76, 248, 249, 250, 251, 78, 252, 253, 254, 255, 119, 120, 121, 122, 509, 510, 511, 512, 513, 514, 515] (by decide +kernel) (by decide +kernel)
set_option maxRecDepth 20000 in
theorem gL_law_X4_count : GoodIn wsL_law (wsV RL 107 RX4 yX4_count wsX4_count) := goodIn_app (goodIn_of _ (by decide +kernel)) ggL_law_X4_count
set_option maxRecDepth 20000 in
theorem ggL_law_L_weather : GoodIn wsL_law wsL_weather := goodIn_ca (goodIn_r _ [395, 130, 396, 397, 398, 2, 399, 135, 136, 16, 103, 104, 105, 400, 401, 402, 15, 403, 31, 32, 33, 503, 504, 505, 506, 507, 508, 516, 517, 518] (by decide +kernel) (by decide +kernel)) (goodIn_sub (fun _ h => List.mem_append_left _ (List.mem_append_right _ h)) (by decide +kernel))
set_option maxRecDepth 20000 in
theorem gL_law_L_weather : GoodIn wsL_law (va_wsS RL 108 yL_weather wsL_weather) := goodIn_app (goodIn_of _ (by decide +kernel)) ggL_law_L_weather
set_option maxRecDepth 20000 in
theorem ggL_law_X4_weather : GoodIn wsL_law wsX4_weather := goodIn_r _ [407, 115, 79, 116, 117, 5, 118, 119, 120, 121, 122, 509, 510, 511, 512, 513, 514, 515] (by decide +kernel) (by decide +kernel)
set_option maxRecDepth 20000 in
theorem gL_law_X4_weather : GoodIn wsL_law (wsV RL 110 RX4 yX4_weather wsX4_weather) := goodIn_app (goodIn_of _ (by decide +kernel)) ggL_law_X4_weather
set_option maxRecDepth 20000 in
theorem ggL_law_L_foresee : GoodIn wsL_law wsL_foresee := goodIn_ca (goodIn_ca (goodIn_ca (goodIn_r _ [410, 94, 130, 225, 411, 412, 413, 2, 414, 99, 100, 135, 136, 230, 231, 20, 280, 21, 16, 103, 104, 105, 415, 416, 417, 19, 418, 59, 60, 61, 62, 63, 42, 419, 87, 88, 89, 43, 44, 45, 46, 47, 48, 49, 50, 51, 52, 53, 54, 420, 421, 422, 281, 282, 283, 284, 285, 286, 287, 288, 289, 290, 291, 243, 108, 109, 110, 292, 293, 294, 295, 296, 297, 298, 299, 300, 301, 302, 303, 304, 305, 142, 306, 307, 141, 143, 308, 149, 150, 151, 309, 310, 311, 312, 313, 145, 146, 147, 314, 315, 316, 317, 318, 319, 320, 321, 322, 323, 324, 325, 65, 66, 67, 68, 326, 327, 328, 329, 423, 424, 425, 426, 379, 235, 236, 237, 238, 239, 240, 241, 242, 427, 428, 429, 430, 381, 382, 383, 384, 503, 504, 505, 506, 507, 508, 519, 520, 521, 522, 523, 524, 525, 526, 527, 528, 529, 530, 531, 532, 533, 534, 535, 536, 516, 517, 518] (by decide +kernel) (by decide +kernel)) (goodIn_sub (fun _ h => List.mem_append_left _ (List.mem_append_left _ (List.mem_append_right _ h))) (by decide +kernel))) (goodIn_sub (fun _ h => List.mem_append_left _ (List.mem_append_right _ h)) (by decide +kernel))) (goodIn_sub (fun _ h => List.mem_append_right _ h) (by decide +kernel))
set_option maxRecDepth 20000 in
theorem gL_law_L_foresee : GoodIn wsL_law (va_wsS RL 111 yL_foresee wsL_foresee) := goodIn_app (goodIn_of _ (by decide +kernel)) ggL_law_L_foresee
set_option maxRecDepth 20000 in
theorem ggL_law_X4_foresee : GoodIn wsL_law wsX4_foresee := goodIn_r _ [434, 115, 76, 80, 116, 117, 5, 118, 119, 120, 121, 122, 435, 436, 437, 438, 86, 87, 88, 89, 78, 81, 252, 253, 254, 255, 334, 335, 336, 337, 77, 79, 338, 305, 142, 306, 156, 141, 143, 339, 340, 341, 342, 161, 162, 163, 164, 343, 344, 345, 346, 157, 158, 159, 160, 347, 348, 349, 350, 269, 270, 271, 272, 248, 249, 250, 251, 439, 440, 441, 442, 509, 510, 511, 512, 513, 514, 515] (by decide +kernel) (by decide +kernel)
set_option maxRecDepth 20000 in
theorem gL_law_X4_foresee : GoodIn wsL_law (wsV RL 113 RX4 yX4_foresee wsX4_foresee) := goodIn_app (goodIn_of _ (by decide +kernel)) ggL_law_X4_foresee
set_option maxRecDepth 20000 in
theorem ggL_law_L_advise : GoodIn wsL_law wsL_advise := goodIn_ca (goodIn_ca (goodIn_ca (goodIn_r _ [445, 94, 130, 225, 446, 447, 448, 2, 449, 99, 100, 135, 136, 230, 231, 20, 280, 25, 103, 104, 105, 450, 451, 452, 453, 21, 16, 377, 378, 137, 139, 415, 416, 417, 19, 418, 59, 60, 61, 62, 63, 42, 419, 87, 88, 89, 43, 44, 45, 46, 47, 48, 49, 50, 51, 52, 53, 54, 420, 421, 422, 281, 282, 283, 284, 285, 286, 287, 288, 289, 290, 291, 243, 108, 109, 110, 292, 293, 294, 295, 296, 297, 298, 299, 300, 301, 302, 303, 304, 305, 142, 306, 307, 141, 143, 308, 149, 150, 151, 309, 310, 311, 312, 313, 145, 146, 147, 314, 315, 316, 317, 318, 319, 320, 321, 322, 323, 324, 325, 65, 66, 67, 68, 326, 327, 328, 329, 235, 236, 237, 238, 239, 240, 241, 242, 427, 428, 429, 430, 454, 455, 456, 24, 457, 458, 459, 460, 461, 462, 463, 464, 465, 466, 148, 467, 468, 469, 470, 471, 472, 473, 474, 503, 504, 505, 506, 507, 508, 519, 520, 521, 522, 523, 524, 525, 526, 527, 528, 529, 530, 531, 532, 533, 534, 535, 536, 516, 517, 518, 537, 538, 539, 540, 541] (by decide +kernel) (by decide +kernel)) (goodIn_sub (fun _ h => List.mem_append_left _ (List.mem_append_left _ (List.mem_append_right _ h))) (by decide +kernel))) (goodIn_sub (fun _ h => List.mem_append_left _ (List.mem_append_right _ h)) (by decide +kernel))) (goodIn_sub (fun _ h => List.mem_append_right _ h) (by decide +kernel))
set_option maxRecDepth 20000 in
theorem gL_law_L_advise : GoodIn wsL_law (va_wsS RL 114 yL_advise wsL_advise) := goodIn_app (goodIn_of _ (by decide +kernel)) ggL_law_L_advise
set_option maxRecDepth 20000 in
theorem ggL_law_X4_advise : GoodIn wsL_law wsX4_advise := goodIn_r _ [478, 115, 76, 78, 116, 117, 5, 118, 119, 120, 121, 122, 435, 436, 437, 438, 80, 86, 87, 88, 89, 81, 252, 253, 254, 255, 479, 480, 481, 482, 334, 335, 336, 337, 77, 79, 338, 305, 142, 306, 156, 141, 143, 339, 340, 341, 342, 161, 162, 163, 164, 343, 344, 345, 346, 157, 158, 159, 160, 347, 348, 349, 350, 269, 270, 271, 272, 248, 249, 250, 251, 439, 440, 441, 442, 509, 510, 511, 512, 513, 514, 515] (by decide +kernel) (by decide +kernel)
set_option maxRecDepth 20000 in
theorem gL_law_X4_advise : GoodIn wsL_law (wsV RL 116 RX4 yX4_advise wsX4_advise) := goodIn_app (goodIn_of _ (by decide +kernel)) ggL_law_X4_advise
set_option maxRecDepth 20000 in
theorem ggL_law_X3_depth : GoodIn wsL_law wsX3_depth := goodIn_r _ [486, 20, 107, 108, 109, 19, 110, 59, 60, 381, 382, 383, 384, 43, 239, 240, 241, 242, 243, 503, 504, 505, 506, 507, 508, 519, 520, 521, 522, 523, 524, 525, 526, 527, 528, 529, 530, 531, 532, 533, 534, 535, 536] (by decide +kernel) (by decide +kernel)
set_option maxRecDepth 20000 in
theorem gL_law_X3_depth : GoodIn wsL_law (wsV RL 117 RX3 yX3_depth wsX3_depth) := goodIn_app (goodIn_of _ (by decide +kernel)) ggL_law_X3_depth
set_option maxRecDepth 20000 in
theorem ggL_law_X4_depth : GoodIn wsL_law wsX4_depth := goodIn_r _ [490, 115, 248, 249, 250, 5, 251, 78, 252, 253, 254, 255, 76, 509, 510, 511, 512, 513, 514, 515] (by decide +kernel) (by decide +kernel)
set_option maxRecDepth 20000 in
theorem gL_law_X4_depth : GoodIn wsL_law (wsV RL 121 RX4 yX4_depth wsX4_depth) := goodIn_app (goodIn_of _ (by decide +kernel)) ggL_law_X4_depth
set_option maxRecDepth 20000 in
theorem ggL_law_X3_digest : GoodIn wsL_law wsX3_digest := goodIn_r _ [494, 495, 496, 20, 378, 203, 16, 373, 374, 375, 2, 376, 377, 280, 379, 101, 380, 102, 235, 236, 237, 19, 238, 48, 239, 240, 241, 242, 243, 108, 109, 110, 59, 60, 381, 382, 383, 384, 43, 107, 358, 359, 360, 361, 44, 45, 46, 47, 49, 50, 51, 52, 53, 54, 400, 401, 402, 15, 403, 31, 32, 33, 503, 504, 505, 506, 507, 508, 519, 520, 521, 522, 523, 524, 525, 526, 527, 528, 529, 530, 531, 532, 533, 534, 535, 536, 516, 517, 518] (by decide +kernel) (by decide +kernel)
set_option maxRecDepth 20000 in
theorem gL_law_X3_digest : GoodIn wsL_law (wsV RL 122 RX3 yX3_digest wsX3_digest) := goodIn_app (goodIn_of _ (by decide +kernel)) ggL_law_X3_digest
set_option maxRecDepth 20000 in
theorem ggL_law_X4_digest : GoodIn wsL_law wsX4_digest := goodIn_r _ [500, 115, 501, 502, 76, 77, 78, 79, 389, 390, 391, 5, 392, 248, 249, 250, 251, 252, 253, 254, 255, 509, 510, 511, 512, 513, 514, 515] (by decide +kernel) (by decide +kernel)
set_option maxRecDepth 20000 in
theorem gL_law_X4_digest : GoodIn wsL_law (wsV RL 126 RX4 yX4_digest wsX4_digest) := goodIn_app (goodIn_of _ (by decide +kernel)) ggL_law_X4_digest
end
section
theorem dL_law_0 : decode cL_law 0 = .ok (.new 8, 3) := by decide +kernel
theorem dL_law_3 : decode cL_law 3 = .ok (.dup, 1) := by decide +kernel
theorem dL_law_4 : decode cL_law 4 = .ok (.invokespecial 61, 3) := by decide +kernel
theorem dL_law_7 : decode cL_law 7 = .ok (.astore_n 1, 1) := by decide +kernel
theorem dL_law_8 : decode cL_law 8 = .ok (.new 62, 3) := by decide +kernel
theorem dL_law_11 : decode cL_law 11 = .ok (.dup, 1) := by decide +kernel
theorem dL_law_12 : decode cL_law 12 = .ok (.invokespecial 64, 3) := by decide +kernel
theorem dL_law_15 : decode cL_law 15 = .ok (.astore_n 2, 1) := by decide +kernel
theorem dL_law_16 : decode cL_law 16 = .ok (.iconst 1, 1) := by decide +kernel
theorem dL_law_17 : decode cL_law 17 = .ok (.newarray .long, 2) := by decide +kernel
theorem dL_law_19 : decode cL_law 19 = .ok (.astore_n 3, 1) := by decide +kernel
theorem dL_law_20 : decode cL_law 20 = .ok (.iconst 0, 1) := by decide +kernel
theorem dL_law_21 : decode cL_law 21 = .ok (.istore 4, 2) := by decide +kernel
theorem dL_law_23 : decode cL_law 23 = .ok (.iload 4, 2) := by decide +kernel
theorem dL_law_25 : decode cL_law 25 = .ok (.aload_n 0, 1) := by decide +kernel
theorem dL_law_26 : decode cL_law 26 = .ok (.arraylength, 1) := by decide +kernel
theorem dL_law_27 : decode cL_law 27 = .ok (.iconst 5, 1) := by decide +kernel
theorem dL_law_28 : decode cL_law 28 = .ok (.isub, 1) := by decide +kernel
theorem dL_law_29 : decode cL_law 29 = .ok (.if_icmp .gt 1172, 3) := by decide +kernel
theorem dL_law_32 : decode cL_law 32 = .ok (.aload_n 0, 1) := by decide +kernel
theorem dL_law_33 : decode cL_law 33 = .ok (.iload 4, 2) := by decide +kernel
theorem dL_law_35 : decode cL_law 35 = .ok (.iaload, 1) := by decide +kernel
theorem dL_law_36 : decode cL_law 36 = .ok (.bipush 15, 2) := by decide +kernel
theorem dL_law_38 : decode cL_law 38 = .ok (.iand, 1) := by decide +kernel
theorem dL_law_39 : decode cL_law 39 = .ok (.tableswitch 1156 0 15 #[77, 145, 237, 317, 397, 465, 557, 637, 705, 761, 841, 897, 965, 1033, 1101, 1142], 77) := by decide +kernel
theorem dL_law_116 : decode cL_law 116 = .ok (.aload_n 1, 1) := by decide +kernel
theorem dL_law_117 : decode cL_law 117 = .ok (.aload_n 0, 1) := by decide +kernel
theorem dL_law_118 : decode cL_law 118 = .ok (.iload 4, 2) := by decide +kernel
theorem dL_law_120 : decode cL_law 120 = .ok (.iconst 1, 1) := by decide +kernel
theorem dL_law_121 : decode cL_law 121 = .ok (.iadd, 1) := by decide +kernel
theorem dL_law_122 : decode cL_law 122 = .ok (.iaload, 1) := by decide +kernel
theorem dL_law_123 : decode cL_law 123 = .ok (.aload_n 0, 1) := by decide +kernel
theorem dL_law_124 : decode cL_law 124 = .ok (.iload 4, 2) := by decide +kernel
theorem dL_law_126 : decode cL_law 126 = .ok (.iconst 2, 1) := by decide +kernel
theorem dL_law_127 : decode cL_law 127 = .ok (.iadd, 1) := by decide +kernel
theorem dL_law_128 : decode cL_law 128 = .ok (.iaload, 1) := by decide +kernel
theorem dL_law_129 : decode cL_law 129 = .ok (.aload_n 3, 1) := by decide +kernel
theorem dL_law_130 : decode cL_law 130 = .ok (.invokestatic 65, 3) := by decide +kernel
theorem dL_law_133 : decode cL_law 133 = .ok (.istore 5, 2) := by decide +kernel
theorem dL_law_135 : decode cL_law 135 = .ok (.aload_n 2, 1) := by decide +kernel
theorem dL_law_136 : decode cL_law 136 = .ok (.aload_n 0, 1) := by decide +kernel
theorem dL_law_137 : decode cL_law 137 = .ok (.iload 4, 2) := by decide +kernel
theorem dL_law_139 : decode cL_law 139 = .ok (.iconst 1, 1) := by decide +kernel
theorem dL_law_140 : decode cL_law 140 = .ok (.iadd, 1) := by decide +kernel
theorem dL_law_141 : decode cL_law 141 = .ok (.iaload, 1) := by decide +kernel
theorem dL_law_142 : decode cL_law 142 = .ok (.aload_n 0, 1) := by decide +kernel
theorem dL_law_143 : decode cL_law 143 = .ok (.iload 4, 2) := by decide +kernel
theorem dL_law_145 : decode cL_law 145 = .ok (.iconst 2, 1) := by decide +kernel
theorem dL_law_146 : decode cL_law 146 = .ok (.iadd, 1) := by decide +kernel
theorem dL_law_147 : decode cL_law 147 = .ok (.iaload, 1) := by decide +kernel
theorem dL_law_148 : decode cL_law 148 = .ok (.invokevirtual 70, 3) := by decide +kernel
theorem dL_law_151 : decode cL_law 151 = .ok (.istore 6, 2) := by decide +kernel
theorem dL_law_153 : decode cL_law 153 = .ok (.aload_n 2, 1) := by decide +kernel
theorem dL_law_154 : decode cL_law 154 = .ok (.invokevirtual 71, 3) := by decide +kernel
theorem dL_law_157 : decode cL_law 157 = .ok (.iload 5, 2) := by decide +kernel
theorem dL_law_159 : decode cL_law 159 = .ok (.if_icmp .eq 5, 3) := by decide +kernel
theorem dL_law_162 : decode cL_law 162 = .ok (.iconst 0, 1) := by decide +kernel
theorem dL_law_163 : decode cL_law 163 = .ok (.ireturn, 1) := by decide +kernel
theorem dL_law_164 : decode cL_law 164 = .ok (.iload 5, 2) := by decide +kernel
theorem dL_law_166 : decode cL_law 166 = .ok (.ifCond .ne 15, 3) := by decide +kernel
theorem dL_law_169 : decode cL_law 169 = .ok (.aload_n 3, 1) := by decide +kernel
theorem dL_law_170 : decode cL_law 170 = .ok (.iconst 0, 1) := by decide +kernel
theorem dL_law_171 : decode cL_law 171 = .ok (.laload, 1) := by decide +kernel
theorem dL_law_172 : decode cL_law 172 = .ok (.iload 6, 2) := by decide +kernel
theorem dL_law_174 : decode cL_law 174 = .ok (.i2l, 1) := by decide +kernel
theorem dL_law_175 : decode cL_law 175 = .ok (.lcmp, 1) := by decide +kernel
theorem dL_law_176 : decode cL_law 176 = .ok (.ifCond .eq 5, 3) := by decide +kernel
theorem dL_law_179 : decode cL_law 179 = .ok (.iconst 0, 1) := by decide +kernel
theorem dL_law_180 : decode cL_law 180 = .ok (.ireturn, 1) := by decide +kernel
theorem dL_law_181 : decode cL_law 181 = .ok (.goto 1014, 3) := by decide +kernel
theorem dL_law_184 : decode cL_law 184 = .ok (.aload_n 1, 1) := by decide +kernel
theorem dL_law_185 : decode cL_law 185 = .ok (.aload_n 0, 1) := by decide +kernel
theorem dL_law_186 : decode cL_law 186 = .ok (.iload 4, 2) := by decide +kernel
theorem dL_law_188 : decode cL_law 188 = .ok (.iconst 1, 1) := by decide +kernel
theorem dL_law_189 : decode cL_law 189 = .ok (.iadd, 1) := by decide +kernel
theorem dL_law_190 : decode cL_law 190 = .ok (.iaload, 1) := by decide +kernel
theorem dL_law_191 : decode cL_law 191 = .ok (.aload_n 0, 1) := by decide +kernel
theorem dL_law_192 : decode cL_law 192 = .ok (.iload 4, 2) := by decide +kernel
theorem dL_law_194 : decode cL_law 194 = .ok (.iconst 2, 1) := by decide +kernel
theorem dL_law_195 : decode cL_law 195 = .ok (.iadd, 1) := by decide +kernel
theorem dL_law_196 : decode cL_law 196 = .ok (.iaload, 1) := by decide +kernel
theorem dL_law_197 : decode cL_law 197 = .ok (.aload_n 0, 1) := by decide +kernel
theorem dL_law_198 : decode cL_law 198 = .ok (.iload 4, 2) := by decide +kernel
theorem dL_law_200 : decode cL_law 200 = .ok (.iconst 3, 1) := by decide +kernel
theorem dL_law_201 : decode cL_law 201 = .ok (.iadd, 1) := by decide +kernel
theorem dL_law_202 : decode cL_law 202 = .ok (.iaload, 1) := by decide +kernel
theorem dL_law_203 : decode cL_law 203 = .ok (.aload_n 0, 1) := by decide +kernel
theorem dL_law_204 : decode cL_law 204 = .ok (.iload 4, 2) := by decide +kernel
theorem dL_law_206 : decode cL_law 206 = .ok (.iconst 4, 1) := by decide +kernel
theorem dL_law_207 : decode cL_law 207 = .ok (.iadd, 1) := by decide +kernel
theorem dL_law_208 : decode cL_law 208 = .ok (.iaload, 1) := by decide +kernel
theorem dL_law_209 : decode cL_law 209 = .ok (.aload_n 3, 1) := by decide +kernel
theorem dL_law_210 : decode cL_law 210 = .ok (.invokestatic 75, 3) := by decide +kernel
theorem dL_law_213 : decode cL_law 213 = .ok (.istore 5, 2) := by decide +kernel
theorem dL_law_215 : decode cL_law 215 = .ok (.aload_n 2, 1) := by decide +kernel
theorem dL_law_216 : decode cL_law 216 = .ok (.aload_n 0, 1) := by decide +kernel
theorem dL_law_217 : decode cL_law 217 = .ok (.iload 4, 2) := by decide +kernel
theorem dL_law_219 : decode cL_law 219 = .ok (.iconst 1, 1) := by decide +kernel
theorem dL_law_220 : decode cL_law 220 = .ok (.iadd, 1) := by decide +kernel
theorem dL_law_221 : decode cL_law 221 = .ok (.iaload, 1) := by decide +kernel
theorem dL_law_222 : decode cL_law 222 = .ok (.aload_n 0, 1) := by decide +kernel
theorem dL_law_223 : decode cL_law 223 = .ok (.iload 4, 2) := by decide +kernel
theorem dL_law_225 : decode cL_law 225 = .ok (.iconst 2, 1) := by decide +kernel
theorem dL_law_226 : decode cL_law 226 = .ok (.iadd, 1) := by decide +kernel
theorem dL_law_227 : decode cL_law 227 = .ok (.iaload, 1) := by decide +kernel
theorem dL_law_228 : decode cL_law 228 = .ok (.aload_n 0, 1) := by decide +kernel
theorem dL_law_229 : decode cL_law 229 = .ok (.iload 4, 2) := by decide +kernel
theorem dL_law_231 : decode cL_law 231 = .ok (.iconst 3, 1) := by decide +kernel
theorem dL_law_232 : decode cL_law 232 = .ok (.iadd, 1) := by decide +kernel
theorem dL_law_233 : decode cL_law 233 = .ok (.iaload, 1) := by decide +kernel
theorem dL_law_234 : decode cL_law 234 = .ok (.aload_n 0, 1) := by decide +kernel
theorem dL_law_235 : decode cL_law 235 = .ok (.iload 4, 2) := by decide +kernel
theorem dL_law_237 : decode cL_law 237 = .ok (.iconst 4, 1) := by decide +kernel
theorem dL_law_238 : decode cL_law 238 = .ok (.iadd, 1) := by decide +kernel
theorem dL_law_239 : decode cL_law 239 = .ok (.iaload, 1) := by decide +kernel
theorem dL_law_240 : decode cL_law 240 = .ok (.invokevirtual 78, 3) := by decide +kernel
theorem dL_law_243 : decode cL_law 243 = .ok (.istore 6, 2) := by decide +kernel
theorem dL_law_245 : decode cL_law 245 = .ok (.aload_n 2, 1) := by decide +kernel
theorem dL_law_246 : decode cL_law 246 = .ok (.invokevirtual 71, 3) := by decide +kernel
theorem dL_law_249 : decode cL_law 249 = .ok (.iload 5, 2) := by decide +kernel
theorem dL_law_251 : decode cL_law 251 = .ok (.if_icmp .eq 5, 3) := by decide +kernel
theorem dL_law_254 : decode cL_law 254 = .ok (.iconst 0, 1) := by decide +kernel
theorem dL_law_255 : decode cL_law 255 = .ok (.ireturn, 1) := by decide +kernel
theorem dL_law_256 : decode cL_law 256 = .ok (.iload 5, 2) := by decide +kernel
theorem dL_law_258 : decode cL_law 258 = .ok (.ifCond .ne 15, 3) := by decide +kernel
theorem dL_law_261 : decode cL_law 261 = .ok (.aload_n 3, 1) := by decide +kernel
theorem dL_law_262 : decode cL_law 262 = .ok (.iconst 0, 1) := by decide +kernel
theorem dL_law_263 : decode cL_law 263 = .ok (.laload, 1) := by decide +kernel
theorem dL_law_264 : decode cL_law 264 = .ok (.iload 6, 2) := by decide +kernel
theorem dL_law_266 : decode cL_law 266 = .ok (.i2l, 1) := by decide +kernel
theorem dL_law_267 : decode cL_law 267 = .ok (.lcmp, 1) := by decide +kernel
theorem dL_law_268 : decode cL_law 268 = .ok (.ifCond .eq 5, 3) := by decide +kernel
theorem dL_law_271 : decode cL_law 271 = .ok (.iconst 0, 1) := by decide +kernel
theorem dL_law_272 : decode cL_law 272 = .ok (.ireturn, 1) := by decide +kernel
theorem dL_law_273 : decode cL_law 273 = .ok (.goto 922, 3) := by decide +kernel
theorem dL_law_276 : decode cL_law 276 = .ok (.aload_n 1, 1) := by decide +kernel
theorem dL_law_277 : decode cL_law 277 = .ok (.aload_n 0, 1) := by decide +kernel
theorem dL_law_278 : decode cL_law 278 = .ok (.iload 4, 2) := by decide +kernel
theorem dL_law_280 : decode cL_law 280 = .ok (.iconst 1, 1) := by decide +kernel
theorem dL_law_281 : decode cL_law 281 = .ok (.iadd, 1) := by decide +kernel
theorem dL_law_282 : decode cL_law 282 = .ok (.iaload, 1) := by decide +kernel
theorem dL_law_283 : decode cL_law 283 = .ok (.aload_n 0, 1) := by decide +kernel
theorem dL_law_284 : decode cL_law 284 = .ok (.iload 4, 2) := by decide +kernel
theorem dL_law_286 : decode cL_law 286 = .ok (.iconst 2, 1) := by decide +kernel
theorem dL_law_287 : decode cL_law 287 = .ok (.iadd, 1) := by decide +kernel
theorem dL_law_288 : decode cL_law 288 = .ok (.iaload, 1) := by decide +kernel
theorem dL_law_289 : decode cL_law 289 = .ok (.aload_n 0, 1) := by decide +kernel
theorem dL_law_290 : decode cL_law 290 = .ok (.iload 4, 2) := by decide +kernel
theorem dL_law_292 : decode cL_law 292 = .ok (.iconst 3, 1) := by decide +kernel
theorem dL_law_293 : decode cL_law 293 = .ok (.iadd, 1) := by decide +kernel
theorem dL_law_294 : decode cL_law 294 = .ok (.iaload, 1) := by decide +kernel
theorem dL_law_295 : decode cL_law 295 = .ok (.aload_n 3, 1) := by decide +kernel
theorem dL_law_296 : decode cL_law 296 = .ok (.invokestatic 79, 3) := by decide +kernel
theorem dL_law_299 : decode cL_law 299 = .ok (.istore 5, 2) := by decide +kernel
theorem dL_law_301 : decode cL_law 301 = .ok (.aload_n 2, 1) := by decide +kernel
theorem dL_law_302 : decode cL_law 302 = .ok (.aload_n 0, 1) := by decide +kernel
theorem dL_law_303 : decode cL_law 303 = .ok (.iload 4, 2) := by decide +kernel
theorem dL_law_305 : decode cL_law 305 = .ok (.iconst 1, 1) := by decide +kernel
theorem dL_law_306 : decode cL_law 306 = .ok (.iadd, 1) := by decide +kernel
theorem dL_law_307 : decode cL_law 307 = .ok (.iaload, 1) := by decide +kernel
theorem dL_law_308 : decode cL_law 308 = .ok (.aload_n 0, 1) := by decide +kernel
theorem dL_law_309 : decode cL_law 309 = .ok (.iload 4, 2) := by decide +kernel
theorem dL_law_311 : decode cL_law 311 = .ok (.iconst 2, 1) := by decide +kernel
theorem dL_law_312 : decode cL_law 312 = .ok (.iadd, 1) := by decide +kernel
theorem dL_law_313 : decode cL_law 313 = .ok (.iaload, 1) := by decide +kernel
theorem dL_law_314 : decode cL_law 314 = .ok (.aload_n 0, 1) := by decide +kernel
theorem dL_law_315 : decode cL_law 315 = .ok (.iload 4, 2) := by decide +kernel
theorem dL_law_317 : decode cL_law 317 = .ok (.iconst 3, 1) := by decide +kernel
theorem dL_law_318 : decode cL_law 318 = .ok (.iadd, 1) := by decide +kernel
theorem dL_law_319 : decode cL_law 319 = .ok (.iaload, 1) := by decide +kernel
theorem dL_law_320 : decode cL_law 320 = .ok (.invokevirtual 82, 3) := by decide +kernel
theorem dL_law_323 : decode cL_law 323 = .ok (.istore 6, 2) := by decide +kernel
theorem dL_law_325 : decode cL_law 325 = .ok (.aload_n 2, 1) := by decide +kernel
theorem dL_law_326 : decode cL_law 326 = .ok (.invokevirtual 71, 3) := by decide +kernel
theorem dL_law_329 : decode cL_law 329 = .ok (.iload 5, 2) := by decide +kernel
theorem dL_law_331 : decode cL_law 331 = .ok (.if_icmp .eq 5, 3) := by decide +kernel
theorem dL_law_334 : decode cL_law 334 = .ok (.iconst 0, 1) := by decide +kernel
theorem dL_law_335 : decode cL_law 335 = .ok (.ireturn, 1) := by decide +kernel
theorem dL_law_336 : decode cL_law 336 = .ok (.iload 5, 2) := by decide +kernel
theorem dL_law_338 : decode cL_law 338 = .ok (.ifCond .ne 15, 3) := by decide +kernel
theorem dL_law_341 : decode cL_law 341 = .ok (.aload_n 3, 1) := by decide +kernel
theorem dL_law_342 : decode cL_law 342 = .ok (.iconst 0, 1) := by decide +kernel
theorem dL_law_343 : decode cL_law 343 = .ok (.laload, 1) := by decide +kernel
theorem dL_law_344 : decode cL_law 344 = .ok (.iload 6, 2) := by decide +kernel
theorem dL_law_346 : decode cL_law 346 = .ok (.i2l, 1) := by decide +kernel
theorem dL_law_347 : decode cL_law 347 = .ok (.lcmp, 1) := by decide +kernel
theorem dL_law_348 : decode cL_law 348 = .ok (.ifCond .eq 5, 3) := by decide +kernel
theorem dL_law_351 : decode cL_law 351 = .ok (.iconst 0, 1) := by decide +kernel
theorem dL_law_352 : decode cL_law 352 = .ok (.ireturn, 1) := by decide +kernel
theorem dL_law_353 : decode cL_law 353 = .ok (.goto 842, 3) := by decide +kernel
end
section
theorem dL_law_356 : decode cL_law 356 = .ok (.aload_n 1, 1) := by decide +kernel
theorem dL_law_357 : decode cL_law 357 = .ok (.aload_n 0, 1) := by decide +kernel
theorem dL_law_358 : decode cL_law 358 = .ok (.iload 4, 2) := by decide +kernel
theorem dL_law_360 : decode cL_law 360 = .ok (.iconst 1, 1) := by decide +kernel
theorem dL_law_361 : decode cL_law 361 = .ok (.iadd, 1) := by decide +kernel
theorem dL_law_362 : decode cL_law 362 = .ok (.iaload, 1) := by decide +kernel
theorem dL_law_363 : decode cL_law 363 = .ok (.aload_n 0, 1) := by decide +kernel
theorem dL_law_364 : decode cL_law 364 = .ok (.iload 4, 2) := by decide +kernel
theorem dL_law_366 : decode cL_law 366 = .ok (.iconst 2, 1) := by decide +kernel
theorem dL_law_367 : decode cL_law 367 = .ok (.iadd, 1) := by decide +kernel
theorem dL_law_368 : decode cL_law 368 = .ok (.iaload, 1) := by decide +kernel
theorem dL_law_369 : decode cL_law 369 = .ok (.aload_n 0, 1) := by decide +kernel
theorem dL_law_370 : decode cL_law 370 = .ok (.iload 4, 2) := by decide +kernel
theorem dL_law_372 : decode cL_law 372 = .ok (.iconst 3, 1) := by decide +kernel
theorem dL_law_373 : decode cL_law 373 = .ok (.iadd, 1) := by decide +kernel
theorem dL_law_374 : decode cL_law 374 = .ok (.iaload, 1) := by decide +kernel
theorem dL_law_375 : decode cL_law 375 = .ok (.aload_n 3, 1) := by decide +kernel
theorem dL_law_376 : decode cL_law 376 = .ok (.invokestatic 83, 3) := by decide +kernel
theorem dL_law_379 : decode cL_law 379 = .ok (.istore 5, 2) := by decide +kernel
theorem dL_law_381 : decode cL_law 381 = .ok (.aload_n 2, 1) := by decide +kernel
theorem dL_law_382 : decode cL_law 382 = .ok (.aload_n 0, 1) := by decide +kernel
theorem dL_law_383 : decode cL_law 383 = .ok (.iload 4, 2) := by decide +kernel
theorem dL_law_385 : decode cL_law 385 = .ok (.iconst 1, 1) := by decide +kernel
theorem dL_law_386 : decode cL_law 386 = .ok (.iadd, 1) := by decide +kernel
theorem dL_law_387 : decode cL_law 387 = .ok (.iaload, 1) := by decide +kernel
theorem dL_law_388 : decode cL_law 388 = .ok (.aload_n 0, 1) := by decide +kernel
theorem dL_law_389 : decode cL_law 389 = .ok (.iload 4, 2) := by decide +kernel
theorem dL_law_391 : decode cL_law 391 = .ok (.iconst 2, 1) := by decide +kernel
theorem dL_law_392 : decode cL_law 392 = .ok (.iadd, 1) := by decide +kernel
theorem dL_law_393 : decode cL_law 393 = .ok (.iaload, 1) := by decide +kernel
theorem dL_law_394 : decode cL_law 394 = .ok (.aload_n 0, 1) := by decide +kernel
theorem dL_law_395 : decode cL_law 395 = .ok (.iload 4, 2) := by decide +kernel
theorem dL_law_397 : decode cL_law 397 = .ok (.iconst 3, 1) := by decide +kernel
theorem dL_law_398 : decode cL_law 398 = .ok (.iadd, 1) := by decide +kernel
theorem dL_law_399 : decode cL_law 399 = .ok (.iaload, 1) := by decide +kernel
theorem dL_law_400 : decode cL_law 400 = .ok (.invokevirtual 85, 3) := by decide +kernel
theorem dL_law_403 : decode cL_law 403 = .ok (.istore 6, 2) := by decide +kernel
theorem dL_law_405 : decode cL_law 405 = .ok (.aload_n 2, 1) := by decide +kernel
theorem dL_law_406 : decode cL_law 406 = .ok (.invokevirtual 71, 3) := by decide +kernel
theorem dL_law_409 : decode cL_law 409 = .ok (.iload 5, 2) := by decide +kernel
theorem dL_law_411 : decode cL_law 411 = .ok (.if_icmp .eq 5, 3) := by decide +kernel
theorem dL_law_414 : decode cL_law 414 = .ok (.iconst 0, 1) := by decide +kernel
theorem dL_law_415 : decode cL_law 415 = .ok (.ireturn, 1) := by decide +kernel
theorem dL_law_416 : decode cL_law 416 = .ok (.iload 5, 2) := by decide +kernel
theorem dL_law_418 : decode cL_law 418 = .ok (.ifCond .ne 15, 3) := by decide +kernel
theorem dL_law_421 : decode cL_law 421 = .ok (.aload_n 3, 1) := by decide +kernel
theorem dL_law_422 : decode cL_law 422 = .ok (.iconst 0, 1) := by decide +kernel
theorem dL_law_423 : decode cL_law 423 = .ok (.laload, 1) := by decide +kernel
theorem dL_law_424 : decode cL_law 424 = .ok (.iload 6, 2) := by decide +kernel
theorem dL_law_426 : decode cL_law 426 = .ok (.i2l, 1) := by decide +kernel
theorem dL_law_427 : decode cL_law 427 = .ok (.lcmp, 1) := by decide +kernel
theorem dL_law_428 : decode cL_law 428 = .ok (.ifCond .eq 5, 3) := by decide +kernel
theorem dL_law_431 : decode cL_law 431 = .ok (.iconst 0, 1) := by decide +kernel
theorem dL_law_432 : decode cL_law 432 = .ok (.ireturn, 1) := by decide +kernel
theorem dL_law_433 : decode cL_law 433 = .ok (.goto 762, 3) := by decide +kernel
theorem dL_law_436 : decode cL_law 436 = .ok (.aload_n 1, 1) := by decide +kernel
theorem dL_law_437 : decode cL_law 437 = .ok (.aload_n 0, 1) := by decide +kernel
theorem dL_law_438 : decode cL_law 438 = .ok (.iload 4, 2) := by decide +kernel
theorem dL_law_440 : decode cL_law 440 = .ok (.iconst 1, 1) := by decide +kernel
theorem dL_law_441 : decode cL_law 441 = .ok (.iadd, 1) := by decide +kernel
theorem dL_law_442 : decode cL_law 442 = .ok (.iaload, 1) := by decide +kernel
theorem dL_law_443 : decode cL_law 443 = .ok (.aload_n 0, 1) := by decide +kernel
theorem dL_law_444 : decode cL_law 444 = .ok (.iload 4, 2) := by decide +kernel
theorem dL_law_446 : decode cL_law 446 = .ok (.iconst 2, 1) := by decide +kernel
theorem dL_law_447 : decode cL_law 447 = .ok (.iadd, 1) := by decide +kernel
theorem dL_law_448 : decode cL_law 448 = .ok (.iaload, 1) := by decide +kernel
theorem dL_law_449 : decode cL_law 449 = .ok (.aload_n 3, 1) := by decide +kernel
theorem dL_law_450 : decode cL_law 450 = .ok (.invokestatic 86, 3) := by decide +kernel
theorem dL_law_453 : decode cL_law 453 = .ok (.istore 5, 2) := by decide +kernel
theorem dL_law_455 : decode cL_law 455 = .ok (.aload_n 2, 1) := by decide +kernel
theorem dL_law_456 : decode cL_law 456 = .ok (.aload_n 0, 1) := by decide +kernel
theorem dL_law_457 : decode cL_law 457 = .ok (.iload 4, 2) := by decide +kernel
theorem dL_law_459 : decode cL_law 459 = .ok (.iconst 1, 1) := by decide +kernel
theorem dL_law_460 : decode cL_law 460 = .ok (.iadd, 1) := by decide +kernel
theorem dL_law_461 : decode cL_law 461 = .ok (.iaload, 1) := by decide +kernel
theorem dL_law_462 : decode cL_law 462 = .ok (.aload_n 0, 1) := by decide +kernel
theorem dL_law_463 : decode cL_law 463 = .ok (.iload 4, 2) := by decide +kernel
theorem dL_law_465 : decode cL_law 465 = .ok (.iconst 2, 1) := by decide +kernel
theorem dL_law_466 : decode cL_law 466 = .ok (.iadd, 1) := by decide +kernel
theorem dL_law_467 : decode cL_law 467 = .ok (.iaload, 1) := by decide +kernel
theorem dL_law_468 : decode cL_law 468 = .ok (.invokevirtual 88, 3) := by decide +kernel
theorem dL_law_471 : decode cL_law 471 = .ok (.istore 6, 2) := by decide +kernel
theorem dL_law_473 : decode cL_law 473 = .ok (.aload_n 2, 1) := by decide +kernel
theorem dL_law_474 : decode cL_law 474 = .ok (.invokevirtual 71, 3) := by decide +kernel
theorem dL_law_477 : decode cL_law 477 = .ok (.iload 5, 2) := by decide +kernel
theorem dL_law_479 : decode cL_law 479 = .ok (.if_icmp .eq 5, 3) := by decide +kernel
theorem dL_law_482 : decode cL_law 482 = .ok (.iconst 0, 1) := by decide +kernel
theorem dL_law_483 : decode cL_law 483 = .ok (.ireturn, 1) := by decide +kernel
theorem dL_law_484 : decode cL_law 484 = .ok (.iload 5, 2) := by decide +kernel
theorem dL_law_486 : decode cL_law 486 = .ok (.ifCond .ne 15, 3) := by decide +kernel
theorem dL_law_489 : decode cL_law 489 = .ok (.aload_n 3, 1) := by decide +kernel
theorem dL_law_490 : decode cL_law 490 = .ok (.iconst 0, 1) := by decide +kernel
theorem dL_law_491 : decode cL_law 491 = .ok (.laload, 1) := by decide +kernel
theorem dL_law_492 : decode cL_law 492 = .ok (.iload 6, 2) := by decide +kernel
theorem dL_law_494 : decode cL_law 494 = .ok (.i2l, 1) := by decide +kernel
theorem dL_law_495 : decode cL_law 495 = .ok (.lcmp, 1) := by decide +kernel
theorem dL_law_496 : decode cL_law 496 = .ok (.ifCond .eq 5, 3) := by decide +kernel
theorem dL_law_499 : decode cL_law 499 = .ok (.iconst 0, 1) := by decide +kernel
theorem dL_law_500 : decode cL_law 500 = .ok (.ireturn, 1) := by decide +kernel
theorem dL_law_501 : decode cL_law 501 = .ok (.goto 694, 3) := by decide +kernel
theorem dL_law_504 : decode cL_law 504 = .ok (.aload_n 1, 1) := by decide +kernel
theorem dL_law_505 : decode cL_law 505 = .ok (.aload_n 0, 1) := by decide +kernel
theorem dL_law_506 : decode cL_law 506 = .ok (.iload 4, 2) := by decide +kernel
theorem dL_law_508 : decode cL_law 508 = .ok (.iconst 1, 1) := by decide +kernel
theorem dL_law_509 : decode cL_law 509 = .ok (.iadd, 1) := by decide +kernel
theorem dL_law_510 : decode cL_law 510 = .ok (.iaload, 1) := by decide +kernel
theorem dL_law_511 : decode cL_law 511 = .ok (.aload_n 0, 1) := by decide +kernel
theorem dL_law_512 : decode cL_law 512 = .ok (.iload 4, 2) := by decide +kernel
theorem dL_law_514 : decode cL_law 514 = .ok (.iconst 2, 1) := by decide +kernel
theorem dL_law_515 : decode cL_law 515 = .ok (.iadd, 1) := by decide +kernel
theorem dL_law_516 : decode cL_law 516 = .ok (.iaload, 1) := by decide +kernel
theorem dL_law_517 : decode cL_law 517 = .ok (.aload_n 0, 1) := by decide +kernel
theorem dL_law_518 : decode cL_law 518 = .ok (.iload 4, 2) := by decide +kernel
theorem dL_law_520 : decode cL_law 520 = .ok (.iconst 3, 1) := by decide +kernel
theorem dL_law_521 : decode cL_law 521 = .ok (.iadd, 1) := by decide +kernel
theorem dL_law_522 : decode cL_law 522 = .ok (.iaload, 1) := by decide +kernel
theorem dL_law_523 : decode cL_law 523 = .ok (.aload_n 0, 1) := by decide +kernel
theorem dL_law_524 : decode cL_law 524 = .ok (.iload 4, 2) := by decide +kernel
theorem dL_law_526 : decode cL_law 526 = .ok (.iconst 4, 1) := by decide +kernel
theorem dL_law_527 : decode cL_law 527 = .ok (.iadd, 1) := by decide +kernel
theorem dL_law_528 : decode cL_law 528 = .ok (.iaload, 1) := by decide +kernel
theorem dL_law_529 : decode cL_law 529 = .ok (.aload_n 3, 1) := by decide +kernel
theorem dL_law_530 : decode cL_law 530 = .ok (.invokestatic 89, 3) := by decide +kernel
theorem dL_law_533 : decode cL_law 533 = .ok (.istore 5, 2) := by decide +kernel
theorem dL_law_535 : decode cL_law 535 = .ok (.aload_n 2, 1) := by decide +kernel
theorem dL_law_536 : decode cL_law 536 = .ok (.aload_n 0, 1) := by decide +kernel
theorem dL_law_537 : decode cL_law 537 = .ok (.iload 4, 2) := by decide +kernel
theorem dL_law_539 : decode cL_law 539 = .ok (.iconst 1, 1) := by decide +kernel
theorem dL_law_540 : decode cL_law 540 = .ok (.iadd, 1) := by decide +kernel
theorem dL_law_541 : decode cL_law 541 = .ok (.iaload, 1) := by decide +kernel
theorem dL_law_542 : decode cL_law 542 = .ok (.aload_n 0, 1) := by decide +kernel
theorem dL_law_543 : decode cL_law 543 = .ok (.iload 4, 2) := by decide +kernel
theorem dL_law_545 : decode cL_law 545 = .ok (.iconst 2, 1) := by decide +kernel
theorem dL_law_546 : decode cL_law 546 = .ok (.iadd, 1) := by decide +kernel
theorem dL_law_547 : decode cL_law 547 = .ok (.iaload, 1) := by decide +kernel
theorem dL_law_548 : decode cL_law 548 = .ok (.aload_n 0, 1) := by decide +kernel
theorem dL_law_549 : decode cL_law 549 = .ok (.iload 4, 2) := by decide +kernel
theorem dL_law_551 : decode cL_law 551 = .ok (.iconst 3, 1) := by decide +kernel
theorem dL_law_552 : decode cL_law 552 = .ok (.iadd, 1) := by decide +kernel
theorem dL_law_553 : decode cL_law 553 = .ok (.iaload, 1) := by decide +kernel
theorem dL_law_554 : decode cL_law 554 = .ok (.aload_n 0, 1) := by decide +kernel
theorem dL_law_555 : decode cL_law 555 = .ok (.iload 4, 2) := by decide +kernel
theorem dL_law_557 : decode cL_law 557 = .ok (.iconst 4, 1) := by decide +kernel
theorem dL_law_558 : decode cL_law 558 = .ok (.iadd, 1) := by decide +kernel
theorem dL_law_559 : decode cL_law 559 = .ok (.iaload, 1) := by decide +kernel
theorem dL_law_560 : decode cL_law 560 = .ok (.invokevirtual 91, 3) := by decide +kernel
theorem dL_law_563 : decode cL_law 563 = .ok (.istore 6, 2) := by decide +kernel
theorem dL_law_565 : decode cL_law 565 = .ok (.aload_n 2, 1) := by decide +kernel
theorem dL_law_566 : decode cL_law 566 = .ok (.invokevirtual 71, 3) := by decide +kernel
theorem dL_law_569 : decode cL_law 569 = .ok (.iload 5, 2) := by decide +kernel
theorem dL_law_571 : decode cL_law 571 = .ok (.if_icmp .eq 5, 3) := by decide +kernel
theorem dL_law_574 : decode cL_law 574 = .ok (.iconst 0, 1) := by decide +kernel
theorem dL_law_575 : decode cL_law 575 = .ok (.ireturn, 1) := by decide +kernel
theorem dL_law_576 : decode cL_law 576 = .ok (.iload 5, 2) := by decide +kernel
theorem dL_law_578 : decode cL_law 578 = .ok (.ifCond .ne 15, 3) := by decide +kernel
theorem dL_law_581 : decode cL_law 581 = .ok (.aload_n 3, 1) := by decide +kernel
theorem dL_law_582 : decode cL_law 582 = .ok (.iconst 0, 1) := by decide +kernel
theorem dL_law_583 : decode cL_law 583 = .ok (.laload, 1) := by decide +kernel
theorem dL_law_584 : decode cL_law 584 = .ok (.iload 6, 2) := by decide +kernel
theorem dL_law_586 : decode cL_law 586 = .ok (.i2l, 1) := by decide +kernel
theorem dL_law_587 : decode cL_law 587 = .ok (.lcmp, 1) := by decide +kernel
theorem dL_law_588 : decode cL_law 588 = .ok (.ifCond .eq 5, 3) := by decide +kernel
theorem dL_law_591 : decode cL_law 591 = .ok (.iconst 0, 1) := by decide +kernel
theorem dL_law_592 : decode cL_law 592 = .ok (.ireturn, 1) := by decide +kernel
theorem dL_law_593 : decode cL_law 593 = .ok (.goto 602, 3) := by decide +kernel
theorem dL_law_596 : decode cL_law 596 = .ok (.aload_n 1, 1) := by decide +kernel
theorem dL_law_597 : decode cL_law 597 = .ok (.aload_n 0, 1) := by decide +kernel
theorem dL_law_598 : decode cL_law 598 = .ok (.iload 4, 2) := by decide +kernel
theorem dL_law_600 : decode cL_law 600 = .ok (.iconst 1, 1) := by decide +kernel
theorem dL_law_601 : decode cL_law 601 = .ok (.iadd, 1) := by decide +kernel
theorem dL_law_602 : decode cL_law 602 = .ok (.iaload, 1) := by decide +kernel
theorem dL_law_603 : decode cL_law 603 = .ok (.aload_n 0, 1) := by decide +kernel
theorem dL_law_604 : decode cL_law 604 = .ok (.iload 4, 2) := by decide +kernel
theorem dL_law_606 : decode cL_law 606 = .ok (.iconst 2, 1) := by decide +kernel
theorem dL_law_607 : decode cL_law 607 = .ok (.iadd, 1) := by decide +kernel
theorem dL_law_608 : decode cL_law 608 = .ok (.iaload, 1) := by decide +kernel
theorem dL_law_609 : decode cL_law 609 = .ok (.aload_n 0, 1) := by decide +kernel
theorem dL_law_610 : decode cL_law 610 = .ok (.iload 4, 2) := by decide +kernel
theorem dL_law_612 : decode cL_law 612 = .ok (.iconst 3, 1) := by decide +kernel
theorem dL_law_613 : decode cL_law 613 = .ok (.iadd, 1) := by decide +kernel
theorem dL_law_614 : decode cL_law 614 = .ok (.iaload, 1) := by decide +kernel
theorem dL_law_615 : decode cL_law 615 = .ok (.aload_n 3, 1) := by decide +kernel
theorem dL_law_616 : decode cL_law 616 = .ok (.invokestatic 92, 3) := by decide +kernel
theorem dL_law_619 : decode cL_law 619 = .ok (.istore 5, 2) := by decide +kernel
theorem dL_law_621 : decode cL_law 621 = .ok (.aload_n 2, 1) := by decide +kernel
theorem dL_law_622 : decode cL_law 622 = .ok (.aload_n 0, 1) := by decide +kernel
theorem dL_law_623 : decode cL_law 623 = .ok (.iload 4, 2) := by decide +kernel
theorem dL_law_625 : decode cL_law 625 = .ok (.iconst 1, 1) := by decide +kernel
theorem dL_law_626 : decode cL_law 626 = .ok (.iadd, 1) := by decide +kernel
theorem dL_law_627 : decode cL_law 627 = .ok (.iaload, 1) := by decide +kernel
end
section
theorem dL_law_628 : decode cL_law 628 = .ok (.aload_n 0, 1) := by decide +kernel
theorem dL_law_629 : decode cL_law 629 = .ok (.iload 4, 2) := by decide +kernel
theorem dL_law_631 : decode cL_law 631 = .ok (.iconst 2, 1) := by decide +kernel
theorem dL_law_632 : decode cL_law 632 = .ok (.iadd, 1) := by decide +kernel
theorem dL_law_633 : decode cL_law 633 = .ok (.iaload, 1) := by decide +kernel
theorem dL_law_634 : decode cL_law 634 = .ok (.aload_n 0, 1) := by decide +kernel
theorem dL_law_635 : decode cL_law 635 = .ok (.iload 4, 2) := by decide +kernel
theorem dL_law_637 : decode cL_law 637 = .ok (.iconst 3, 1) := by decide +kernel
theorem dL_law_638 : decode cL_law 638 = .ok (.iadd, 1) := by decide +kernel
theorem dL_law_639 : decode cL_law 639 = .ok (.iaload, 1) := by decide +kernel
theorem dL_law_640 : decode cL_law 640 = .ok (.invokevirtual 94, 3) := by decide +kernel
theorem dL_law_643 : decode cL_law 643 = .ok (.istore 6, 2) := by decide +kernel
theorem dL_law_645 : decode cL_law 645 = .ok (.aload_n 2, 1) := by decide +kernel
theorem dL_law_646 : decode cL_law 646 = .ok (.invokevirtual 71, 3) := by decide +kernel
theorem dL_law_649 : decode cL_law 649 = .ok (.iload 5, 2) := by decide +kernel
theorem dL_law_651 : decode cL_law 651 = .ok (.if_icmp .eq 5, 3) := by decide +kernel
theorem dL_law_654 : decode cL_law 654 = .ok (.iconst 0, 1) := by decide +kernel
theorem dL_law_655 : decode cL_law 655 = .ok (.ireturn, 1) := by decide +kernel
theorem dL_law_656 : decode cL_law 656 = .ok (.iload 5, 2) := by decide +kernel
theorem dL_law_658 : decode cL_law 658 = .ok (.ifCond .ne 15, 3) := by decide +kernel
theorem dL_law_661 : decode cL_law 661 = .ok (.aload_n 3, 1) := by decide +kernel
theorem dL_law_662 : decode cL_law 662 = .ok (.iconst 0, 1) := by decide +kernel
theorem dL_law_663 : decode cL_law 663 = .ok (.laload, 1) := by decide +kernel
theorem dL_law_664 : decode cL_law 664 = .ok (.iload 6, 2) := by decide +kernel
theorem dL_law_666 : decode cL_law 666 = .ok (.i2l, 1) := by decide +kernel
theorem dL_law_667 : decode cL_law 667 = .ok (.lcmp, 1) := by decide +kernel
theorem dL_law_668 : decode cL_law 668 = .ok (.ifCond .eq 5, 3) := by decide +kernel
theorem dL_law_671 : decode cL_law 671 = .ok (.iconst 0, 1) := by decide +kernel
theorem dL_law_672 : decode cL_law 672 = .ok (.ireturn, 1) := by decide +kernel
theorem dL_law_673 : decode cL_law 673 = .ok (.goto 522, 3) := by decide +kernel
theorem dL_law_676 : decode cL_law 676 = .ok (.aload_n 1, 1) := by decide +kernel
theorem dL_law_677 : decode cL_law 677 = .ok (.aload_n 0, 1) := by decide +kernel
theorem dL_law_678 : decode cL_law 678 = .ok (.iload 4, 2) := by decide +kernel
theorem dL_law_680 : decode cL_law 680 = .ok (.iconst 1, 1) := by decide +kernel
theorem dL_law_681 : decode cL_law 681 = .ok (.iadd, 1) := by decide +kernel
theorem dL_law_682 : decode cL_law 682 = .ok (.iaload, 1) := by decide +kernel
theorem dL_law_683 : decode cL_law 683 = .ok (.aload_n 0, 1) := by decide +kernel
theorem dL_law_684 : decode cL_law 684 = .ok (.iload 4, 2) := by decide +kernel
theorem dL_law_686 : decode cL_law 686 = .ok (.iconst 2, 1) := by decide +kernel
theorem dL_law_687 : decode cL_law 687 = .ok (.iadd, 1) := by decide +kernel
theorem dL_law_688 : decode cL_law 688 = .ok (.iaload, 1) := by decide +kernel
theorem dL_law_689 : decode cL_law 689 = .ok (.aload_n 3, 1) := by decide +kernel
theorem dL_law_690 : decode cL_law 690 = .ok (.invokestatic 95, 3) := by decide +kernel
theorem dL_law_693 : decode cL_law 693 = .ok (.istore 5, 2) := by decide +kernel
theorem dL_law_695 : decode cL_law 695 = .ok (.aload_n 2, 1) := by decide +kernel
theorem dL_law_696 : decode cL_law 696 = .ok (.aload_n 0, 1) := by decide +kernel
theorem dL_law_697 : decode cL_law 697 = .ok (.iload 4, 2) := by decide +kernel
theorem dL_law_699 : decode cL_law 699 = .ok (.iconst 1, 1) := by decide +kernel
theorem dL_law_700 : decode cL_law 700 = .ok (.iadd, 1) := by decide +kernel
theorem dL_law_701 : decode cL_law 701 = .ok (.iaload, 1) := by decide +kernel
theorem dL_law_702 : decode cL_law 702 = .ok (.aload_n 0, 1) := by decide +kernel
theorem dL_law_703 : decode cL_law 703 = .ok (.iload 4, 2) := by decide +kernel
theorem dL_law_705 : decode cL_law 705 = .ok (.iconst 2, 1) := by decide +kernel
theorem dL_law_706 : decode cL_law 706 = .ok (.iadd, 1) := by decide +kernel
theorem dL_law_707 : decode cL_law 707 = .ok (.iaload, 1) := by decide +kernel
theorem dL_law_708 : decode cL_law 708 = .ok (.invokevirtual 97, 3) := by decide +kernel
theorem dL_law_711 : decode cL_law 711 = .ok (.istore 6, 2) := by decide +kernel
theorem dL_law_713 : decode cL_law 713 = .ok (.aload_n 2, 1) := by decide +kernel
theorem dL_law_714 : decode cL_law 714 = .ok (.invokevirtual 71, 3) := by decide +kernel
theorem dL_law_717 : decode cL_law 717 = .ok (.iload 5, 2) := by decide +kernel
theorem dL_law_719 : decode cL_law 719 = .ok (.if_icmp .eq 5, 3) := by decide +kernel
theorem dL_law_722 : decode cL_law 722 = .ok (.iconst 0, 1) := by decide +kernel
theorem dL_law_723 : decode cL_law 723 = .ok (.ireturn, 1) := by decide +kernel
theorem dL_law_724 : decode cL_law 724 = .ok (.iload 5, 2) := by decide +kernel
theorem dL_law_726 : decode cL_law 726 = .ok (.ifCond .ne 15, 3) := by decide +kernel
theorem dL_law_729 : decode cL_law 729 = .ok (.aload_n 3, 1) := by decide +kernel
theorem dL_law_730 : decode cL_law 730 = .ok (.iconst 0, 1) := by decide +kernel
theorem dL_law_731 : decode cL_law 731 = .ok (.laload, 1) := by decide +kernel
theorem dL_law_732 : decode cL_law 732 = .ok (.iload 6, 2) := by decide +kernel
theorem dL_law_734 : decode cL_law 734 = .ok (.i2l, 1) := by decide +kernel
theorem dL_law_735 : decode cL_law 735 = .ok (.lcmp, 1) := by decide +kernel
theorem dL_law_736 : decode cL_law 736 = .ok (.ifCond .eq 5, 3) := by decide +kernel
theorem dL_law_739 : decode cL_law 739 = .ok (.iconst 0, 1) := by decide +kernel
theorem dL_law_740 : decode cL_law 740 = .ok (.ireturn, 1) := by decide +kernel
theorem dL_law_741 : decode cL_law 741 = .ok (.goto 454, 3) := by decide +kernel
theorem dL_law_744 : decode cL_law 744 = .ok (.aload_n 1, 1) := by decide +kernel
theorem dL_law_745 : decode cL_law 745 = .ok (.aload_n 0, 1) := by decide +kernel
theorem dL_law_746 : decode cL_law 746 = .ok (.iload 4, 2) := by decide +kernel
theorem dL_law_748 : decode cL_law 748 = .ok (.iconst 1, 1) := by decide +kernel
theorem dL_law_749 : decode cL_law 749 = .ok (.iadd, 1) := by decide +kernel
theorem dL_law_750 : decode cL_law 750 = .ok (.iaload, 1) := by decide +kernel
theorem dL_law_751 : decode cL_law 751 = .ok (.aload_n 3, 1) := by decide +kernel
theorem dL_law_752 : decode cL_law 752 = .ok (.invokestatic 98, 3) := by decide +kernel
theorem dL_law_755 : decode cL_law 755 = .ok (.istore 5, 2) := by decide +kernel
theorem dL_law_757 : decode cL_law 757 = .ok (.aload_n 2, 1) := by decide +kernel
theorem dL_law_758 : decode cL_law 758 = .ok (.aload_n 0, 1) := by decide +kernel
theorem dL_law_759 : decode cL_law 759 = .ok (.iload 4, 2) := by decide +kernel
theorem dL_law_761 : decode cL_law 761 = .ok (.iconst 1, 1) := by decide +kernel
theorem dL_law_762 : decode cL_law 762 = .ok (.iadd, 1) := by decide +kernel
theorem dL_law_763 : decode cL_law 763 = .ok (.iaload, 1) := by decide +kernel
theorem dL_law_764 : decode cL_law 764 = .ok (.invokevirtual 101, 3) := by decide +kernel
theorem dL_law_767 : decode cL_law 767 = .ok (.istore 6, 2) := by decide +kernel
theorem dL_law_769 : decode cL_law 769 = .ok (.aload_n 2, 1) := by decide +kernel
theorem dL_law_770 : decode cL_law 770 = .ok (.invokevirtual 71, 3) := by decide +kernel
theorem dL_law_773 : decode cL_law 773 = .ok (.iload 5, 2) := by decide +kernel
theorem dL_law_775 : decode cL_law 775 = .ok (.if_icmp .eq 5, 3) := by decide +kernel
theorem dL_law_778 : decode cL_law 778 = .ok (.iconst 0, 1) := by decide +kernel
theorem dL_law_779 : decode cL_law 779 = .ok (.ireturn, 1) := by decide +kernel
theorem dL_law_780 : decode cL_law 780 = .ok (.iload 5, 2) := by decide +kernel
theorem dL_law_782 : decode cL_law 782 = .ok (.ifCond .ne 15, 3) := by decide +kernel
theorem dL_law_785 : decode cL_law 785 = .ok (.aload_n 3, 1) := by decide +kernel
theorem dL_law_786 : decode cL_law 786 = .ok (.iconst 0, 1) := by decide +kernel
theorem dL_law_787 : decode cL_law 787 = .ok (.laload, 1) := by decide +kernel
theorem dL_law_788 : decode cL_law 788 = .ok (.iload 6, 2) := by decide +kernel
theorem dL_law_790 : decode cL_law 790 = .ok (.i2l, 1) := by decide +kernel
theorem dL_law_791 : decode cL_law 791 = .ok (.lcmp, 1) := by decide +kernel
theorem dL_law_792 : decode cL_law 792 = .ok (.ifCond .eq 5, 3) := by decide +kernel
theorem dL_law_795 : decode cL_law 795 = .ok (.iconst 0, 1) := by decide +kernel
theorem dL_law_796 : decode cL_law 796 = .ok (.ireturn, 1) := by decide +kernel
theorem dL_law_797 : decode cL_law 797 = .ok (.goto 398, 3) := by decide +kernel
theorem dL_law_800 : decode cL_law 800 = .ok (.aload_n 1, 1) := by decide +kernel
theorem dL_law_801 : decode cL_law 801 = .ok (.aload_n 0, 1) := by decide +kernel
theorem dL_law_802 : decode cL_law 802 = .ok (.iload 4, 2) := by decide +kernel
theorem dL_law_804 : decode cL_law 804 = .ok (.iconst 1, 1) := by decide +kernel
theorem dL_law_805 : decode cL_law 805 = .ok (.iadd, 1) := by decide +kernel
theorem dL_law_806 : decode cL_law 806 = .ok (.iaload, 1) := by decide +kernel
theorem dL_law_807 : decode cL_law 807 = .ok (.aload_n 0, 1) := by decide +kernel
theorem dL_law_808 : decode cL_law 808 = .ok (.iload 4, 2) := by decide +kernel
theorem dL_law_810 : decode cL_law 810 = .ok (.iconst 2, 1) := by decide +kernel
theorem dL_law_811 : decode cL_law 811 = .ok (.iadd, 1) := by decide +kernel
theorem dL_law_812 : decode cL_law 812 = .ok (.iaload, 1) := by decide +kernel
theorem dL_law_813 : decode cL_law 813 = .ok (.aload_n 0, 1) := by decide +kernel
theorem dL_law_814 : decode cL_law 814 = .ok (.iload 4, 2) := by decide +kernel
theorem dL_law_816 : decode cL_law 816 = .ok (.iconst 3, 1) := by decide +kernel
theorem dL_law_817 : decode cL_law 817 = .ok (.iadd, 1) := by decide +kernel
theorem dL_law_818 : decode cL_law 818 = .ok (.iaload, 1) := by decide +kernel
theorem dL_law_819 : decode cL_law 819 = .ok (.aload_n 3, 1) := by decide +kernel
theorem dL_law_820 : decode cL_law 820 = .ok (.invokestatic 102, 3) := by decide +kernel
theorem dL_law_823 : decode cL_law 823 = .ok (.istore 5, 2) := by decide +kernel
theorem dL_law_825 : decode cL_law 825 = .ok (.aload_n 2, 1) := by decide +kernel
theorem dL_law_826 : decode cL_law 826 = .ok (.aload_n 0, 1) := by decide +kernel
theorem dL_law_827 : decode cL_law 827 = .ok (.iload 4, 2) := by decide +kernel
theorem dL_law_829 : decode cL_law 829 = .ok (.iconst 1, 1) := by decide +kernel
theorem dL_law_830 : decode cL_law 830 = .ok (.iadd, 1) := by decide +kernel
theorem dL_law_831 : decode cL_law 831 = .ok (.iaload, 1) := by decide +kernel
theorem dL_law_832 : decode cL_law 832 = .ok (.aload_n 0, 1) := by decide +kernel
theorem dL_law_833 : decode cL_law 833 = .ok (.iload 4, 2) := by decide +kernel
theorem dL_law_835 : decode cL_law 835 = .ok (.iconst 2, 1) := by decide +kernel
theorem dL_law_836 : decode cL_law 836 = .ok (.iadd, 1) := by decide +kernel
theorem dL_law_837 : decode cL_law 837 = .ok (.iaload, 1) := by decide +kernel
theorem dL_law_838 : decode cL_law 838 = .ok (.aload_n 0, 1) := by decide +kernel
theorem dL_law_839 : decode cL_law 839 = .ok (.iload 4, 2) := by decide +kernel
theorem dL_law_841 : decode cL_law 841 = .ok (.iconst 3, 1) := by decide +kernel
theorem dL_law_842 : decode cL_law 842 = .ok (.iadd, 1) := by decide +kernel
theorem dL_law_843 : decode cL_law 843 = .ok (.iaload, 1) := by decide +kernel
theorem dL_law_844 : decode cL_law 844 = .ok (.invokevirtual 104, 3) := by decide +kernel
theorem dL_law_847 : decode cL_law 847 = .ok (.istore 6, 2) := by decide +kernel
theorem dL_law_849 : decode cL_law 849 = .ok (.aload_n 2, 1) := by decide +kernel
theorem dL_law_850 : decode cL_law 850 = .ok (.invokevirtual 71, 3) := by decide +kernel
theorem dL_law_853 : decode cL_law 853 = .ok (.iload 5, 2) := by decide +kernel
theorem dL_law_855 : decode cL_law 855 = .ok (.if_icmp .eq 5, 3) := by decide +kernel
theorem dL_law_858 : decode cL_law 858 = .ok (.iconst 0, 1) := by decide +kernel
theorem dL_law_859 : decode cL_law 859 = .ok (.ireturn, 1) := by decide +kernel
theorem dL_law_860 : decode cL_law 860 = .ok (.iload 5, 2) := by decide +kernel
theorem dL_law_862 : decode cL_law 862 = .ok (.ifCond .ne 15, 3) := by decide +kernel
theorem dL_law_865 : decode cL_law 865 = .ok (.aload_n 3, 1) := by decide +kernel
theorem dL_law_866 : decode cL_law 866 = .ok (.iconst 0, 1) := by decide +kernel
theorem dL_law_867 : decode cL_law 867 = .ok (.laload, 1) := by decide +kernel
theorem dL_law_868 : decode cL_law 868 = .ok (.iload 6, 2) := by decide +kernel
theorem dL_law_870 : decode cL_law 870 = .ok (.i2l, 1) := by decide +kernel
theorem dL_law_871 : decode cL_law 871 = .ok (.lcmp, 1) := by decide +kernel
theorem dL_law_872 : decode cL_law 872 = .ok (.ifCond .eq 5, 3) := by decide +kernel
theorem dL_law_875 : decode cL_law 875 = .ok (.iconst 0, 1) := by decide +kernel
theorem dL_law_876 : decode cL_law 876 = .ok (.ireturn, 1) := by decide +kernel
theorem dL_law_877 : decode cL_law 877 = .ok (.goto 318, 3) := by decide +kernel
theorem dL_law_880 : decode cL_law 880 = .ok (.aload_n 1, 1) := by decide +kernel
theorem dL_law_881 : decode cL_law 881 = .ok (.aload_n 0, 1) := by decide +kernel
theorem dL_law_882 : decode cL_law 882 = .ok (.iload 4, 2) := by decide +kernel
theorem dL_law_884 : decode cL_law 884 = .ok (.iconst 1, 1) := by decide +kernel
theorem dL_law_885 : decode cL_law 885 = .ok (.iadd, 1) := by decide +kernel
theorem dL_law_886 : decode cL_law 886 = .ok (.iaload, 1) := by decide +kernel
theorem dL_law_887 : decode cL_law 887 = .ok (.aload_n 3, 1) := by decide +kernel
theorem dL_law_888 : decode cL_law 888 = .ok (.invokestatic 105, 3) := by decide +kernel
theorem dL_law_891 : decode cL_law 891 = .ok (.istore 5, 2) := by decide +kernel
theorem dL_law_893 : decode cL_law 893 = .ok (.aload_n 2, 1) := by decide +kernel
theorem dL_law_894 : decode cL_law 894 = .ok (.aload_n 0, 1) := by decide +kernel
theorem dL_law_895 : decode cL_law 895 = .ok (.iload 4, 2) := by decide +kernel
theorem dL_law_897 : decode cL_law 897 = .ok (.iconst 1, 1) := by decide +kernel
theorem dL_law_898 : decode cL_law 898 = .ok (.iadd, 1) := by decide +kernel
theorem dL_law_899 : decode cL_law 899 = .ok (.iaload, 1) := by decide +kernel
theorem dL_law_900 : decode cL_law 900 = .ok (.invokevirtual 107, 3) := by decide +kernel
theorem dL_law_903 : decode cL_law 903 = .ok (.istore 6, 2) := by decide +kernel
theorem dL_law_905 : decode cL_law 905 = .ok (.aload_n 2, 1) := by decide +kernel
theorem dL_law_906 : decode cL_law 906 = .ok (.invokevirtual 71, 3) := by decide +kernel
theorem dL_law_909 : decode cL_law 909 = .ok (.iload 5, 2) := by decide +kernel
theorem dL_law_911 : decode cL_law 911 = .ok (.if_icmp .eq 5, 3) := by decide +kernel
theorem dL_law_914 : decode cL_law 914 = .ok (.iconst 0, 1) := by decide +kernel
theorem dL_law_915 : decode cL_law 915 = .ok (.ireturn, 1) := by decide +kernel
theorem dL_law_916 : decode cL_law 916 = .ok (.iload 5, 2) := by decide +kernel
theorem dL_law_918 : decode cL_law 918 = .ok (.ifCond .ne 15, 3) := by decide +kernel
end
section
theorem dL_law_921 : decode cL_law 921 = .ok (.aload_n 3, 1) := by decide +kernel
theorem dL_law_922 : decode cL_law 922 = .ok (.iconst 0, 1) := by decide +kernel
theorem dL_law_923 : decode cL_law 923 = .ok (.laload, 1) := by decide +kernel
theorem dL_law_924 : decode cL_law 924 = .ok (.iload 6, 2) := by decide +kernel
theorem dL_law_926 : decode cL_law 926 = .ok (.i2l, 1) := by decide +kernel
theorem dL_law_927 : decode cL_law 927 = .ok (.lcmp, 1) := by decide +kernel
theorem dL_law_928 : decode cL_law 928 = .ok (.ifCond .eq 5, 3) := by decide +kernel
theorem dL_law_931 : decode cL_law 931 = .ok (.iconst 0, 1) := by decide +kernel
theorem dL_law_932 : decode cL_law 932 = .ok (.ireturn, 1) := by decide +kernel
theorem dL_law_933 : decode cL_law 933 = .ok (.goto 262, 3) := by decide +kernel
theorem dL_law_936 : decode cL_law 936 = .ok (.aload_n 1, 1) := by decide +kernel
theorem dL_law_937 : decode cL_law 937 = .ok (.aload_n 0, 1) := by decide +kernel
theorem dL_law_938 : decode cL_law 938 = .ok (.iload 4, 2) := by decide +kernel
theorem dL_law_940 : decode cL_law 940 = .ok (.iconst 1, 1) := by decide +kernel
theorem dL_law_941 : decode cL_law 941 = .ok (.iadd, 1) := by decide +kernel
theorem dL_law_942 : decode cL_law 942 = .ok (.iaload, 1) := by decide +kernel
theorem dL_law_943 : decode cL_law 943 = .ok (.aload_n 0, 1) := by decide +kernel
theorem dL_law_944 : decode cL_law 944 = .ok (.iload 4, 2) := by decide +kernel
theorem dL_law_946 : decode cL_law 946 = .ok (.iconst 2, 1) := by decide +kernel
theorem dL_law_947 : decode cL_law 947 = .ok (.iadd, 1) := by decide +kernel
theorem dL_law_948 : decode cL_law 948 = .ok (.iaload, 1) := by decide +kernel
theorem dL_law_949 : decode cL_law 949 = .ok (.aload_n 3, 1) := by decide +kernel
theorem dL_law_950 : decode cL_law 950 = .ok (.invokestatic 108, 3) := by decide +kernel
theorem dL_law_953 : decode cL_law 953 = .ok (.istore 5, 2) := by decide +kernel
theorem dL_law_955 : decode cL_law 955 = .ok (.aload_n 2, 1) := by decide +kernel
theorem dL_law_956 : decode cL_law 956 = .ok (.aload_n 0, 1) := by decide +kernel
theorem dL_law_957 : decode cL_law 957 = .ok (.iload 4, 2) := by decide +kernel
theorem dL_law_959 : decode cL_law 959 = .ok (.iconst 1, 1) := by decide +kernel
theorem dL_law_960 : decode cL_law 960 = .ok (.iadd, 1) := by decide +kernel
theorem dL_law_961 : decode cL_law 961 = .ok (.iaload, 1) := by decide +kernel
theorem dL_law_962 : decode cL_law 962 = .ok (.aload_n 0, 1) := by decide +kernel
theorem dL_law_963 : decode cL_law 963 = .ok (.iload 4, 2) := by decide +kernel
theorem dL_law_965 : decode cL_law 965 = .ok (.iconst 2, 1) := by decide +kernel
theorem dL_law_966 : decode cL_law 966 = .ok (.iadd, 1) := by decide +kernel
theorem dL_law_967 : decode cL_law 967 = .ok (.iaload, 1) := by decide +kernel
theorem dL_law_968 : decode cL_law 968 = .ok (.invokevirtual 110, 3) := by decide +kernel
theorem dL_law_971 : decode cL_law 971 = .ok (.istore 6, 2) := by decide +kernel
theorem dL_law_973 : decode cL_law 973 = .ok (.aload_n 2, 1) := by decide +kernel
theorem dL_law_974 : decode cL_law 974 = .ok (.invokevirtual 71, 3) := by decide +kernel
theorem dL_law_977 : decode cL_law 977 = .ok (.iload 5, 2) := by decide +kernel
theorem dL_law_979 : decode cL_law 979 = .ok (.if_icmp .eq 5, 3) := by decide +kernel
theorem dL_law_982 : decode cL_law 982 = .ok (.iconst 0, 1) := by decide +kernel
theorem dL_law_983 : decode cL_law 983 = .ok (.ireturn, 1) := by decide +kernel
theorem dL_law_984 : decode cL_law 984 = .ok (.iload 5, 2) := by decide +kernel
theorem dL_law_986 : decode cL_law 986 = .ok (.ifCond .ne 15, 3) := by decide +kernel
theorem dL_law_989 : decode cL_law 989 = .ok (.aload_n 3, 1) := by decide +kernel
theorem dL_law_990 : decode cL_law 990 = .ok (.iconst 0, 1) := by decide +kernel
theorem dL_law_991 : decode cL_law 991 = .ok (.laload, 1) := by decide +kernel
theorem dL_law_992 : decode cL_law 992 = .ok (.iload 6, 2) := by decide +kernel
theorem dL_law_994 : decode cL_law 994 = .ok (.i2l, 1) := by decide +kernel
theorem dL_law_995 : decode cL_law 995 = .ok (.lcmp, 1) := by decide +kernel
theorem dL_law_996 : decode cL_law 996 = .ok (.ifCond .eq 5, 3) := by decide +kernel
theorem dL_law_999 : decode cL_law 999 = .ok (.iconst 0, 1) := by decide +kernel
theorem dL_law_1000 : decode cL_law 1000 = .ok (.ireturn, 1) := by decide +kernel
theorem dL_law_1001 : decode cL_law 1001 = .ok (.goto 194, 3) := by decide +kernel
theorem dL_law_1004 : decode cL_law 1004 = .ok (.aload_n 1, 1) := by decide +kernel
theorem dL_law_1005 : decode cL_law 1005 = .ok (.aload_n 0, 1) := by decide +kernel
theorem dL_law_1006 : decode cL_law 1006 = .ok (.iload 4, 2) := by decide +kernel
theorem dL_law_1008 : decode cL_law 1008 = .ok (.iconst 1, 1) := by decide +kernel
theorem dL_law_1009 : decode cL_law 1009 = .ok (.iadd, 1) := by decide +kernel
theorem dL_law_1010 : decode cL_law 1010 = .ok (.iaload, 1) := by decide +kernel
theorem dL_law_1011 : decode cL_law 1011 = .ok (.aload_n 0, 1) := by decide +kernel
theorem dL_law_1012 : decode cL_law 1012 = .ok (.iload 4, 2) := by decide +kernel
theorem dL_law_1014 : decode cL_law 1014 = .ok (.iconst 2, 1) := by decide +kernel
theorem dL_law_1015 : decode cL_law 1015 = .ok (.iadd, 1) := by decide +kernel
theorem dL_law_1016 : decode cL_law 1016 = .ok (.iaload, 1) := by decide +kernel
theorem dL_law_1017 : decode cL_law 1017 = .ok (.aload_n 3, 1) := by decide +kernel
theorem dL_law_1018 : decode cL_law 1018 = .ok (.invokestatic 111, 3) := by decide +kernel
theorem dL_law_1021 : decode cL_law 1021 = .ok (.istore 5, 2) := by decide +kernel
theorem dL_law_1023 : decode cL_law 1023 = .ok (.aload_n 2, 1) := by decide +kernel
theorem dL_law_1024 : decode cL_law 1024 = .ok (.aload_n 0, 1) := by decide +kernel
theorem dL_law_1025 : decode cL_law 1025 = .ok (.iload 4, 2) := by decide +kernel
theorem dL_law_1027 : decode cL_law 1027 = .ok (.iconst 1, 1) := by decide +kernel
theorem dL_law_1028 : decode cL_law 1028 = .ok (.iadd, 1) := by decide +kernel
theorem dL_law_1029 : decode cL_law 1029 = .ok (.iaload, 1) := by decide +kernel
theorem dL_law_1030 : decode cL_law 1030 = .ok (.aload_n 0, 1) := by decide +kernel
theorem dL_law_1031 : decode cL_law 1031 = .ok (.iload 4, 2) := by decide +kernel
theorem dL_law_1033 : decode cL_law 1033 = .ok (.iconst 2, 1) := by decide +kernel
theorem dL_law_1034 : decode cL_law 1034 = .ok (.iadd, 1) := by decide +kernel
theorem dL_law_1035 : decode cL_law 1035 = .ok (.iaload, 1) := by decide +kernel
theorem dL_law_1036 : decode cL_law 1036 = .ok (.invokevirtual 113, 3) := by decide +kernel
theorem dL_law_1039 : decode cL_law 1039 = .ok (.istore 6, 2) := by decide +kernel
theorem dL_law_1041 : decode cL_law 1041 = .ok (.aload_n 2, 1) := by decide +kernel
theorem dL_law_1042 : decode cL_law 1042 = .ok (.invokevirtual 71, 3) := by decide +kernel
theorem dL_law_1045 : decode cL_law 1045 = .ok (.iload 5, 2) := by decide +kernel
theorem dL_law_1047 : decode cL_law 1047 = .ok (.if_icmp .eq 5, 3) := by decide +kernel
theorem dL_law_1050 : decode cL_law 1050 = .ok (.iconst 0, 1) := by decide +kernel
theorem dL_law_1051 : decode cL_law 1051 = .ok (.ireturn, 1) := by decide +kernel
theorem dL_law_1052 : decode cL_law 1052 = .ok (.iload 5, 2) := by decide +kernel
theorem dL_law_1054 : decode cL_law 1054 = .ok (.ifCond .ne 15, 3) := by decide +kernel
theorem dL_law_1057 : decode cL_law 1057 = .ok (.aload_n 3, 1) := by decide +kernel
theorem dL_law_1058 : decode cL_law 1058 = .ok (.iconst 0, 1) := by decide +kernel
theorem dL_law_1059 : decode cL_law 1059 = .ok (.laload, 1) := by decide +kernel
theorem dL_law_1060 : decode cL_law 1060 = .ok (.iload 6, 2) := by decide +kernel
theorem dL_law_1062 : decode cL_law 1062 = .ok (.i2l, 1) := by decide +kernel
theorem dL_law_1063 : decode cL_law 1063 = .ok (.lcmp, 1) := by decide +kernel
theorem dL_law_1064 : decode cL_law 1064 = .ok (.ifCond .eq 5, 3) := by decide +kernel
theorem dL_law_1067 : decode cL_law 1067 = .ok (.iconst 0, 1) := by decide +kernel
theorem dL_law_1068 : decode cL_law 1068 = .ok (.ireturn, 1) := by decide +kernel
theorem dL_law_1069 : decode cL_law 1069 = .ok (.goto 126, 3) := by decide +kernel
theorem dL_law_1072 : decode cL_law 1072 = .ok (.aload_n 1, 1) := by decide +kernel
theorem dL_law_1073 : decode cL_law 1073 = .ok (.aload_n 0, 1) := by decide +kernel
theorem dL_law_1074 : decode cL_law 1074 = .ok (.iload 4, 2) := by decide +kernel
theorem dL_law_1076 : decode cL_law 1076 = .ok (.iconst 1, 1) := by decide +kernel
theorem dL_law_1077 : decode cL_law 1077 = .ok (.iadd, 1) := by decide +kernel
theorem dL_law_1078 : decode cL_law 1078 = .ok (.iaload, 1) := by decide +kernel
theorem dL_law_1079 : decode cL_law 1079 = .ok (.aload_n 0, 1) := by decide +kernel
theorem dL_law_1080 : decode cL_law 1080 = .ok (.iload 4, 2) := by decide +kernel
theorem dL_law_1082 : decode cL_law 1082 = .ok (.iconst 2, 1) := by decide +kernel
theorem dL_law_1083 : decode cL_law 1083 = .ok (.iadd, 1) := by decide +kernel
theorem dL_law_1084 : decode cL_law 1084 = .ok (.iaload, 1) := by decide +kernel
theorem dL_law_1085 : decode cL_law 1085 = .ok (.aload_n 3, 1) := by decide +kernel
theorem dL_law_1086 : decode cL_law 1086 = .ok (.invokestatic 114, 3) := by decide +kernel
theorem dL_law_1089 : decode cL_law 1089 = .ok (.istore 5, 2) := by decide +kernel
theorem dL_law_1091 : decode cL_law 1091 = .ok (.aload_n 2, 1) := by decide +kernel
theorem dL_law_1092 : decode cL_law 1092 = .ok (.aload_n 0, 1) := by decide +kernel
theorem dL_law_1093 : decode cL_law 1093 = .ok (.iload 4, 2) := by decide +kernel
theorem dL_law_1095 : decode cL_law 1095 = .ok (.iconst 1, 1) := by decide +kernel
theorem dL_law_1096 : decode cL_law 1096 = .ok (.iadd, 1) := by decide +kernel
theorem dL_law_1097 : decode cL_law 1097 = .ok (.iaload, 1) := by decide +kernel
theorem dL_law_1098 : decode cL_law 1098 = .ok (.aload_n 0, 1) := by decide +kernel
theorem dL_law_1099 : decode cL_law 1099 = .ok (.iload 4, 2) := by decide +kernel
theorem dL_law_1101 : decode cL_law 1101 = .ok (.iconst 2, 1) := by decide +kernel
theorem dL_law_1102 : decode cL_law 1102 = .ok (.iadd, 1) := by decide +kernel
theorem dL_law_1103 : decode cL_law 1103 = .ok (.iaload, 1) := by decide +kernel
theorem dL_law_1104 : decode cL_law 1104 = .ok (.invokevirtual 116, 3) := by decide +kernel
theorem dL_law_1107 : decode cL_law 1107 = .ok (.istore 6, 2) := by decide +kernel
theorem dL_law_1109 : decode cL_law 1109 = .ok (.aload_n 2, 1) := by decide +kernel
theorem dL_law_1110 : decode cL_law 1110 = .ok (.invokevirtual 71, 3) := by decide +kernel
theorem dL_law_1113 : decode cL_law 1113 = .ok (.iload 5, 2) := by decide +kernel
theorem dL_law_1115 : decode cL_law 1115 = .ok (.if_icmp .eq 5, 3) := by decide +kernel
theorem dL_law_1118 : decode cL_law 1118 = .ok (.iconst 0, 1) := by decide +kernel
theorem dL_law_1119 : decode cL_law 1119 = .ok (.ireturn, 1) := by decide +kernel
theorem dL_law_1120 : decode cL_law 1120 = .ok (.iload 5, 2) := by decide +kernel
theorem dL_law_1122 : decode cL_law 1122 = .ok (.ifCond .ne 15, 3) := by decide +kernel
theorem dL_law_1125 : decode cL_law 1125 = .ok (.aload_n 3, 1) := by decide +kernel
theorem dL_law_1126 : decode cL_law 1126 = .ok (.iconst 0, 1) := by decide +kernel
theorem dL_law_1127 : decode cL_law 1127 = .ok (.laload, 1) := by decide +kernel
theorem dL_law_1128 : decode cL_law 1128 = .ok (.iload 6, 2) := by decide +kernel
theorem dL_law_1130 : decode cL_law 1130 = .ok (.i2l, 1) := by decide +kernel
theorem dL_law_1131 : decode cL_law 1131 = .ok (.lcmp, 1) := by decide +kernel
theorem dL_law_1132 : decode cL_law 1132 = .ok (.ifCond .eq 5, 3) := by decide +kernel
theorem dL_law_1135 : decode cL_law 1135 = .ok (.iconst 0, 1) := by decide +kernel
theorem dL_law_1136 : decode cL_law 1136 = .ok (.ireturn, 1) := by decide +kernel
theorem dL_law_1137 : decode cL_law 1137 = .ok (.goto 58, 3) := by decide +kernel
theorem dL_law_1140 : decode cL_law 1140 = .ok (.aload_n 1, 1) := by decide +kernel
theorem dL_law_1141 : decode cL_law 1141 = .ok (.invokevirtual 117, 3) := by decide +kernel
theorem dL_law_1144 : decode cL_law 1144 = .ok (.dstore 5, 2) := by decide +kernel
theorem dL_law_1146 : decode cL_law 1146 = .ok (.aload_n 2, 1) := by decide +kernel
theorem dL_law_1147 : decode cL_law 1147 = .ok (.invokevirtual 121, 3) := by decide +kernel
theorem dL_law_1150 : decode cL_law 1150 = .ok (.dstore 7, 2) := by decide +kernel
theorem dL_law_1152 : decode cL_law 1152 = .ok (.dload 5, 2) := by decide +kernel
theorem dL_law_1154 : decode cL_law 1154 = .ok (.dload 7, 2) := by decide +kernel
theorem dL_law_1156 : decode cL_law 1156 = .ok (.dcmp .l, 1) := by decide +kernel
theorem dL_law_1157 : decode cL_law 1157 = .ok (.ifCond .eq 21, 3) := by decide +kernel
theorem dL_law_1160 : decode cL_law 1160 = .ok (.dload 5, 2) := by decide +kernel
theorem dL_law_1162 : decode cL_law 1162 = .ok (.dload 5, 2) := by decide +kernel
theorem dL_law_1164 : decode cL_law 1164 = .ok (.dcmp .l, 1) := by decide +kernel
theorem dL_law_1165 : decode cL_law 1165 = .ok (.ifCond .eq 11, 3) := by decide +kernel
theorem dL_law_1168 : decode cL_law 1168 = .ok (.dload 7, 2) := by decide +kernel
theorem dL_law_1170 : decode cL_law 1170 = .ok (.dload 7, 2) := by decide +kernel
theorem dL_law_1172 : decode cL_law 1172 = .ok (.dcmp .l, 1) := by decide +kernel
theorem dL_law_1173 : decode cL_law 1173 = .ok (.ifCond .ne 5, 3) := by decide +kernel
theorem dL_law_1176 : decode cL_law 1176 = .ok (.iconst 0, 1) := by decide +kernel
theorem dL_law_1177 : decode cL_law 1177 = .ok (.ireturn, 1) := by decide +kernel
theorem dL_law_1178 : decode cL_law 1178 = .ok (.goto 17, 3) := by decide +kernel
theorem dL_law_1181 : decode cL_law 1181 = .ok (.aload_n 1, 1) := by decide +kernel
theorem dL_law_1182 : decode cL_law 1182 = .ok (.invokevirtual 122, 3) := by decide +kernel
theorem dL_law_1185 : decode cL_law 1185 = .ok (.aload_n 2, 1) := by decide +kernel
theorem dL_law_1186 : decode cL_law 1186 = .ok (.invokevirtual 126, 3) := by decide +kernel
theorem dL_law_1189 : decode cL_law 1189 = .ok (.lcmp, 1) := by decide +kernel
theorem dL_law_1190 : decode cL_law 1190 = .ok (.ifCond .eq 5, 3) := by decide +kernel
theorem dL_law_1193 : decode cL_law 1193 = .ok (.iconst 0, 1) := by decide +kernel
theorem dL_law_1194 : decode cL_law 1194 = .ok (.ireturn, 1) := by decide +kernel
theorem dL_law_1195 : decode cL_law 1195 = .ok (.iinc 4 5, 3) := by decide +kernel
theorem dL_law_1198 : decode cL_law 1198 = .ok (.goto (-1175), 3) := by decide +kernel
theorem dL_law_1201 : decode cL_law 1201 = .ok (.iconst 1, 1) := by decide +kernel
theorem dL_law_1202 : decode cL_law 1202 = .ok (.ireturn, 1) := by decide +kernel
end
section
abbrev vwCl : List vw_C := [(RX0, TX0, 3), (RX1, TX1, 5), (RX2, TX2, 18), (RX3, TX3, 6), (RX4, TX4, 7)]
end
section
/-! contracts whose end is one world and one answer: what they say, how they are begun, ended, called -/
theorem z_at {D : va_G} {cl : List vw_C} {q : Nat × va_E} {H H1 : Heap} (h : va_at D cl q H) (e : H1[q.1]? = H[q.1]?) : va_at D cl q H1 := by
  obtain ⟨a, x⟩ := q
  cases x with
  | inl x => exact e.trans h
  | inr o =>
    obtain ⟨r, h1, h2⟩ := h
    exact ⟨r, h1, h2.kept e⟩
/-- behind a call: what stands ahead of the callee's cells and behind them is as it was -/
theorem z_join {A0 : Nat → Prop} {D : va_G} {cl : List vw_C} {ws pre wc post w1 : va_W} {H H1 : Heap} (hw : ws = pre ++ wc ++ post) (hP : va_P D cl ws H) (hD : va_D A0 ws)
    (hk : ∀ q : Nat, q < H.size → ¬ va_A wc H.size q → H1[q]? = H[q]?) (hF : ∀ q, va_A wc H.size q → A0 q) (hP1 : va_P D cl w1 H1) (hD1 : va_D (va_A wc H.size) w1) : va_P D cl (pre ++ w1 ++ post) H1 ∧ va_D A0 (pre ++ w1 ++ post) := by
  subst hw
  have lt : ∀ {k : Nat} {q : Nat × va_E}, (pre ++ wc ++ post)[k]? = some q → q.1 < H.size := fun {k q} h => vx_lt hP h
  have hpre : ∀ {k : Nat}, k < pre.length → (pre ++ wc ++ post)[k]? = pre[k]? := fun {k} h => by
    rw [List.getElem?_append_left (by rw [List.length_append]; omega), List.getElem?_append_left h]
  have hpost : ∀ (k : Nat), (pre ++ wc ++ post)[pre.length + wc.length + k]? = post[k]? := fun k => by
    rw [List.getElem?_append_right (by rw [List.length_append]; omega), List.length_append]
    congr 1
    omega
  have hmid : ∀ {k : Nat}, k < wc.length → (pre ++ wc ++ post)[pre.length + k]? = wc[k]? := fun {k} h => by
    rw [List.getElem?_append_left (by rw [List.length_append]; omega), List.getElem?_append_right (by omega)]
    congr 1
    omega
  have inwc : ∀ {a : Nat} {i : Nat} {p : Nat × va_E}, (pre ++ wc ++ post)[i]? = some p → p.1 = a → va_A wc H.size a → pre.length ≤ i ∧ i < pre.length + wc.length := by
    intro a i p hp e h
    rcases h with ⟨k, x, hk⟩ | h
    · have hkl : k < wc.length := (List.getElem?_eq_some_iff.mp hk).1
      have h2 := hD.1 i (pre.length + k) p (a, x) hp (by rw [hmid hkl]; exact hk) e
      omega
    · have := lt hp
      omega
  -- a place of the new list is a place of the old one outside wc, or a place of w1
  have new : ∀ {i : Nat} {p : Nat × va_E}, (pre ++ w1 ++ post)[i]? = some p → (∃ j, (pre ++ wc ++ post)[j]? = some p ∧ (j < pre.length ∨ pre.length + wc.length ≤ j) ∧ (i < pre.length → j = i) ∧ (pre.length ≤ i → j = pre.length + wc.length + (i - (pre.length + w1.length)) ∧ pre.length + w1.length ≤ i)) ∨ (pre.length ≤ i ∧ i < pre.length + w1.length ∧ w1[i - pre.length]? = some p) := by
    intro i p h
    rcases Nat.lt_or_ge i pre.length with q | q
    · refine Or.inl ⟨i, ?_, Or.inl q, fun _ => rfl, fun h => by omega⟩
      rw [hpre q]
      rwa [List.getElem?_append_left (by rw [List.length_append]; omega), List.getElem?_append_left q] at h
    · rcases Nat.lt_or_ge i (pre.length + w1.length) with q2 | q2
      · refine Or.inr ⟨q, q2, ?_⟩
        rwa [List.getElem?_append_left (by rw [List.length_append]; omega), List.getElem?_append_right q] at h
      · refine Or.inl ⟨pre.length + wc.length + (i - (pre.length + w1.length)), ?_, Or.inr (by omega), fun h => by omega, fun _ => ⟨rfl, q2⟩⟩
        rw [hpost]
        rwa [List.getElem?_append_right (by rw [List.length_append]; omega), List.length_append] at h
  constructor
  · intro i p h
    rcases new h with ⟨j, hj, hside, -, -⟩ | ⟨-, -, h1⟩
    · refine z_at (hP j p hj) (hk _ (lt hj) (fun h => ?_))
      have := inwc hj rfl h
      omega
    · exact hP1 _ p h1
  · refine ⟨fun i j p q hp hq e => ?_, fun i p h => ?_⟩
    · rcases new hp with ⟨i1, hi1, hs1, ha1, hb1⟩ | ⟨u1, u2, h1⟩ <;> rcases new hq with ⟨j1, hj1, hs2, ha2, hb2⟩ | ⟨v1, v2, h2⟩
      · have h3 := hD.1 i1 j1 p q hi1 hj1 e
        rcases Nat.lt_or_ge i pre.length with c1 | c1 <;> rcases Nat.lt_or_ge j pre.length with c2 | c2
        · have := ha1 c1; have := ha2 c2; omega
        · have := ha1 c1; have := hb2 c2; omega
        · have := hb1 c1; have := ha2 c2; omega
        · have := hb1 c1; have := hb2 c2; omega
      · have h3 := inwc hi1 e (hD1.2 _ q h2)
        omega
      · have h3 := inwc hj1 e.symm (hD1.2 _ p h1)
        omega
      · have h3 := hD1.1 _ _ p q h1 h2 e
        omega
    · rcases new h with ⟨j, hj, -, -, -⟩ | ⟨-, -, h1⟩
      · exact hD.2 j p hj
      · exact hF _ (hD1.2 _ p h1)
theorem z_F {A0 : Nat → Prop} {ws pre wc post : va_W} {H0 H : Heap} {locs : List Loc} (hw : ws = pre ++ wc ++ post) (hD : va_D A0 ws) (hS : va_S A0 H0 H locs) (hA : ∀ q, H0.size ≤ q → A0 q) : ∀ q, va_A wc H.size q → A0 q := by
  subst hw
  intro q h
  rcases h with ⟨k, e, h⟩ | h
  · have hkl : k < wc.length := (List.getElem?_eq_some_iff.mp h).1
    refine hD.2 (pre.length + k) (q, e) ?_
    rw [List.getElem?_append_left (by rw [List.length_append]; omega), List.getElem?_append_right (by omega)]
    rw [show pre.length + k - pre.length = k by omega]
    exact h
  · exact hA q (Nat.le_trans hS.1 h)
theorem z_P {D : va_G} {cl : List vw_C} {ws pre wc post : va_W} {H : Heap} (hw : ws = pre ++ wc ++ post) (hP : va_P D cl ws H) : va_P D cl wc H := by
  subst hw
  intro k q h
  have hkl : k < wc.length := (List.getElem?_eq_some_iff.mp h).1
  refine hP (pre.length + k) q ?_
  rw [List.getElem?_append_left (by rw [List.length_append]; omega), List.getElem?_append_right (by omega)]
  rw [show pre.length + k - pre.length = k by omega]
  exact h
theorem z_D {A : Nat → Prop} {ws pre wc post : va_W} (hw : ws = pre ++ wc ++ post) (hD : va_D A ws) : va_D (fun _ => True) wc := by
  subst hw
  have h : ∀ {k : Nat} {q : Nat × va_E}, wc[k]? = some q → (pre ++ wc ++ post)[pre.length + k]? = some q := by
    intro k q h
    have hkl : k < wc.length := (List.getElem?_eq_some_iff.mp h).1
    rw [List.getElem?_append_left (by rw [List.length_append]; omega), List.getElem?_append_right (by omega)]
    rw [show pre.length + k - pre.length = k by omega]
    exact h
  refine ⟨fun i j p q hp hq e => ?_, fun _ _ _ => trivial⟩
  have := hD.1 _ _ p q (h hp) (h hq) e
  omega
-- the contract's start: the callee's cells, apart, in a heap of sz cells
/-- what the tables say of the one private method that a nest mate calls -/
def zN (U : State) : Prop := va_Nw (.methodLinkNest RX2 155 yX3_isWithin "PaddyTerraces") U
def zPre (D : va_G) (cI : ClassId) (wc : va_W) (sz : Nat) (U : State) : Prop := U.heap.size = sz ∧ va_P D vwCl wc U.heap ∧ va_K D vwCl [(cI, .int)] U ∧ va_D (fun _ => True) wc ∧ zN U
-- its end: one world
def zEnd (D : va_G) (w1 : va_W) (A : Nat → Prop) (t : State) : Prop := va_P D vwCl w1 t.heap ∧ va_D A w1
theorem zPre_blind {D : va_G} {cI : ClassId} {wc : va_W} {sz : Nat} {As : List Value} : FrameBlind (va_Pc As (zPre D cI wc sz)) := by
  intro a U g mk q
  obtain ⟨q0, q1, qP, qK, qD, qN⟩ := q
  exact ⟨q0, q1, qP, va_K.moved (u := U) (U := U.calling g mk a) (Vm.Alike.refl U.vm) qK, qD, va_Nw.same (u := U) (U := U.calling g mk a) rfl rfl qN⟩
theorem zPre_at {D : va_G} {cI : ClassId} {wc : va_W} {s U : State} {H : Heap} (hU : U.heap = H) (hW : s.WarmedH U.vm) (hK : va_K D vwCl [(cI, .int)] s) (hN : zN s) (hP : va_P D vwCl wc H) (hD : va_D (fun _ => True) wc) : zPre D cI wc H.size U := ⟨by rw [hU], by rw [hU]; exact hP, va_K.moved hW.alike hK, hD, va_Nw.warmM hW hN⟩
def zI (l : Launch) (y : MethodName) (ws : List Cond) (rm : Room) (D : va_G) (cI : ClassId) (As : List Value) (wc w1 : va_W) (v : Int32) : Prop :=
  ∀ sz : Nat, Met l y ws rm (va_Pc As (zPre D cI wc sz)) (va_Qi (fun (r : Int32) (_ : Unit) => r = v) (fun _ t => zEnd D w1 (va_A wc sz) t) (va_A wc sz)) 0 0 (va_A wc sz)
def zV (l : Launch) (y : MethodName) (ws : List Cond) (rm : Room) (D : va_G) (cI : ClassId) (As : List Value) (wc w1 : va_W) : Prop :=
  ∀ sz : Nat, Met l y ws rm (va_Pc As (zPre D cI wc sz)) (va_Qv (fun (_ : Unit) => True) (fun _ t => zEnd D w1 (va_A wc sz) t) (va_A wc sz)) 0 0 (va_A wc sz)
def zL (l : Launch) (y : MethodName) (ws : List Cond) (rm : Room) (D : va_G) (cI : ClassId) (As : List Value) (wc w1 : va_W) (v : Int64) : Prop :=
  ∀ sz : Nat, Met l y ws rm (va_Pc As (zPre D cI wc sz)) (va_Ql (fun (r : Int64) (_ : Unit) => r = v) (fun _ t => zEnd D w1 (va_A wc sz) t) (va_A wc sz)) 0 0 (va_A wc sz)
def zIq (D : va_G) (A : Nat → Prop) (w1 : va_W) (v : Int32) (below : List Frame) (args : Array Value) (s : State) (mc ms : Nat) : State → Prop :=
  MQ below (va_Qi (fun (r : Int32) (_ : Unit) => r = v) (fun _ t => zEnd D w1 A t) A) args s mc ms A
def zVq (D : va_G) (A : Nat → Prop) (w1 : va_W) (below : List Frame) (args : Array Value) (s : State) (mc ms : Nat) : State → Prop :=
  MQ below (va_Qv (fun (_ : Unit) => True) (fun _ t => zEnd D w1 A t) A) args s mc ms A
def zLq (D : va_G) (A : Nat → Prop) (w1 : va_W) (v : Int64) (below : List Frame) (args : Array Value) (s : State) (mc ms : Nat) : State → Prop :=
  MQ below (va_Ql (fun (r : Int64) (_ : Unit) => r = v) (fun _ t => zEnd D w1 A t) A) args s mc ms A
/-- what holds at a method's entry -/
def zAt (p : Program) (s : State) (m : MethodId) (meth : Method) (c : Code) (D : va_G) (cI : ClassId) (y : MethodName) (cc : ByteArray) (maxL : Nat) (ret : Option FieldType) (ws : List Cond) (args : Array Value) (A : Nat → Prop) (wc : va_W) : Prop :=
  p.tables.exec = Jvm.exec ∧ c.code = cc ∧ meth.sig.returnType = ret ∧ c.maxLocals = maxL ∧ s.vm.findClass y.cls = some m.cls ∧ (∀ w ∈ ws, w.before args s = true) ∧ meth.locks = false ∧ va_K D vwCl [(cI, .int)] s ∧ zN s ∧ (∀ q, s.heap.size ≤ q → A q) ∧ va_P D vwCl wc s.heap ∧ va_D A wc ∧ va_S A s.heap s.heap []
section ZOF
variable {l : Launch} {y : MethodName} {ws ws' : List Cond} {rm : Room} {D : va_G} {cI : ClassId} {As : List Value} {wc w1 : va_W} {cc : ByteArray} {maxL : Nat} {ret : Option FieldType}
theorem zI_of {v : Int32} (hy : plainName y.cls = true) (hw : ws = Cond.code y cc maxL ret :: ws') (hlen : (lg_sl As).length ≤ maxL)
    (body : ∀ (p : Program) (e : Env) (s : State) (m : MethodId) (below : List Frame) (meth : Method) (c : Code) (A : Nat → Prop) (ls : Array Slot), zAt p s m meth c D cI y cc maxL ret ws As.toArray A wc → lv_has ls maxL (lv_args 0 As) → W p l e rm s m As.toArray below meth c s.heap [] 0 0 (zIq D A w1 v below As.toArray s 0 0) (F0 m 0 ls [])) : zI l y ws rm D cI As wc w1 v := by
  intro sz
  refine Met.ofW (cc := cc) (maxL := maxL) (ret := ret) hy hw ?_
  intro p e s m args below meth c s₁ B hml hv
  obtain ⟨rfl, hsz, hP, hK, hD0, hN⟩ := hv
  subst hsz
  rw [lg_entry_eq]
  exact body p e s m below meth c _ _ ⟨B.exec, B.bytes, B.returns, hml, findClass_of_methodNamed B.named, atoms_spec (ws := ws) B.pre, B.notSynchronized, hK, hN, fun q h => Or.inr h, hP, hD0.self (sz := s.heap.size), va_S.rf⟩ (lv_entry As hlen)
theorem zV_of (hy : plainName y.cls = true) (hw : ws = Cond.code y cc maxL ret :: ws') (hlen : (lg_sl As).length ≤ maxL)
    (body : ∀ (p : Program) (e : Env) (s : State) (m : MethodId) (below : List Frame) (meth : Method) (c : Code) (A : Nat → Prop) (ls : Array Slot), zAt p s m meth c D cI y cc maxL ret ws As.toArray A wc → lv_has ls maxL (lv_args 0 As) → W p l e rm s m As.toArray below meth c s.heap [] 0 0 (zVq D A w1 below As.toArray s 0 0) (F0 m 0 ls [])) : zV l y ws rm D cI As wc w1 := by
  intro sz
  refine Met.ofW (cc := cc) (maxL := maxL) (ret := ret) hy hw ?_
  intro p e s m args below meth c s₁ B hml hv
  obtain ⟨rfl, hsz, hP, hK, hD0, hN⟩ := hv
  subst hsz
  rw [lg_entry_eq]
  exact body p e s m below meth c _ _ ⟨B.exec, B.bytes, B.returns, hml, findClass_of_methodNamed B.named, atoms_spec (ws := ws) B.pre, B.notSynchronized, hK, hN, fun q h => Or.inr h, hP, hD0.self (sz := s.heap.size), va_S.rf⟩ (lv_entry As hlen)
theorem zL_of {v : Int64} (hy : plainName y.cls = true) (hw : ws = Cond.code y cc maxL ret :: ws') (hlen : (lg_sl As).length ≤ maxL)
    (body : ∀ (p : Program) (e : Env) (s : State) (m : MethodId) (below : List Frame) (meth : Method) (c : Code) (A : Nat → Prop) (ls : Array Slot), zAt p s m meth c D cI y cc maxL ret ws As.toArray A wc → lv_has ls maxL (lv_args 0 As) → W p l e rm s m As.toArray below meth c s.heap [] 0 0 (zLq D A w1 v below As.toArray s 0 0) (F0 m 0 ls [])) : zL l y ws rm D cI As wc w1 v := by
  intro sz
  refine Met.ofW (cc := cc) (maxL := maxL) (ret := ret) hy hw ?_
  intro p e s m args below meth c s₁ B hml hv
  obtain ⟨rfl, hsz, hP, hK, hD0, hN⟩ := hv
  subst hsz
  rw [lg_entry_eq]
  exact body p e s m below meth c _ _ ⟨B.exec, B.bytes, B.returns, hml, findClass_of_methodNamed B.named, atoms_spec (ws := ws) B.pre, B.notSynchronized, hK, hN, fun q h => Or.inr h, hP, hD0.self (sz := s.heap.size), va_S.rf⟩ (lv_entry As hlen)
end ZOF
section ZRET
variable {p : Program} {l : Launch} {e : Env} {R : Room} {s : State} {m : MethodId} {args : Array Value} {below : List Frame} {meth : Method} {c : Code} {H : Heap} {locs : List Loc} {cells slots : Nat}
variable {D : va_G} {A : Nat → Prop} {w1 : va_W} {cc : ByteArray} {pc : Nat} {ls : Array Slot}
theorem zI_ret {v x : Int32} {ty : FieldType} (hx : p.tables.exec = Jvm.exec) (hb : c.code = cc) (hr : meth.sig.returnType = some ty) (hlocks : meth.locks = false) (hP : va_P D vwCl w1 H) (hD : va_D A w1) (hS : va_S A s.heap H locs) (hn : narrow ty (.int x) = .int x) (hv : x = v) (hdg : decode cc pc = .ok (.ireturn, 1)) : W p l e R s m args below meth c H locs cells slots (zIq D A w1 v below args s cells slots) (F0 m pc ls [.int x]) :=
  W.zret (hlocks := hlocks) hx hb hr hn (fun t ht _ => ⟨⟨x, (), rfl, hv, by rw [ht]; exact hP, hD⟩, hS.F ht⟩) hS.2.2 hdg
theorem zV_ret (hx : p.tables.exec = Jvm.exec) (hb : c.code = cc) (hr : meth.sig.returnType = none) (hlocks : meth.locks = false) (hP : va_P D vwCl w1 H) (hD : va_D A w1) (hS : va_S A s.heap H locs) (hdg : decode cc pc = .ok (.return_, 1)) : W p l e R s m args below meth c H locs cells slots (zVq D A w1 below args s cells slots) (F0 m pc ls []) :=
  W.vret (hlocks := hlocks) hx hb hr (fun t ht _ => ⟨⟨(), rfl, trivial, by rw [ht]; exact hP, hD⟩, hS.F ht⟩) hS.2.2 hdg
theorem zL_ret {v x : Int64} (hx : p.tables.exec = Jvm.exec) (hb : c.code = cc) (hr : meth.sig.returnType = some .long) (hlocks : meth.locks = false) (hP : va_P D vwCl w1 H) (hD : va_D A w1) (hS : va_S A s.heap H locs) (hv : x = v) (hdg : decode cc pc = .ok (.lreturn, 1)) : W p l e R s m args below meth c H locs cells slots (zLq D A w1 v below args s cells slots) (F0 m pc ls [.long x]) :=
  W.lret (hlocks := hlocks) hx hb hr (fun t ht _ => ⟨⟨x, (), rfl, hv, by rw [ht]; exact hP, hD⟩, hS.F ht⟩) hS.2.2 hdg
end ZRET
section ZCALL
variable {p : Program} {l : Launch} {e : Env} {R : Room} {s : State} {m : MethodId} {args : Array Value} {below : List Frame} {meth : Method} {c : Code} {H : Heap} {locs : List Loc} {cells slots : Nat} {Q : State → Prop}
variable {D : va_G} {cI : ClassId} {A : Nat → Prop} {H0 : Heap} {pc : Nat} {ls : Array Slot} {st0 rest : List Value} {a : Array Value} {ww pre wc post w1 : va_W}
theorem zI_back {v : Int32} (hr : va_Run p l e R s m args below meth c H locs cells slots 0 0 (F0 m pc ls st0) rest (va_Qi (fun (r : Int32) (_ : Unit) => r = v) (fun _ t => zEnd D w1 (va_A wc H.size) t) (va_A wc H.size) a) (va_A wc H.size)) (hw : ww = pre ++ wc ++ post) (hP : va_P D vwCl ww H) (hD : va_D A ww) (hS : va_S A H0 H locs) (hA : ∀ q, H0.size ≤ q → A q)
    (kk : ∀ (H1 : Heap) (locs1 : List Loc), va_P D vwCl (pre ++ w1 ++ post) H1 → va_D A (pre ++ w1 ++ post) → va_S A H0 H1 locs1 → W p l e R s m args below meth c H1 locs1 cells slots Q (F0 m (pc + 3) ls (.int v :: rest))) : W p l e R s m args below meth c H locs cells slots Q (F0 m pc ls st0) := by
  have hF := z_F hw hD hS hA
  refine va_calli hr hS (fun q _ h => hF q h) hF (fun r u t H1 locs1 ht _ hp hB _ hk hS1 => ?_)
  obtain ⟨hP1, hD1⟩ := hB
  rw [ht] at hP1
  obtain ⟨hP2, hD2⟩ := z_join hw hP hD hk hF hP1 hD1
  rw [hp]
  exact kk H1 locs1 hP2 hD2 hS1
theorem zL_back {v : Int64} (hr : va_Run p l e R s m args below meth c H locs cells slots 0 0 (F0 m pc ls st0) rest (va_Ql (fun (r : Int64) (_ : Unit) => r = v) (fun _ t => zEnd D w1 (va_A wc H.size) t) (va_A wc H.size) a) (va_A wc H.size)) (hw : ww = pre ++ wc ++ post) (hP : va_P D vwCl ww H) (hD : va_D A ww) (hS : va_S A H0 H locs) (hA : ∀ q, H0.size ≤ q → A q)
    (kk : ∀ (H1 : Heap) (locs1 : List Loc), va_P D vwCl (pre ++ w1 ++ post) H1 → va_D A (pre ++ w1 ++ post) → va_S A H0 H1 locs1 → W p l e R s m args below meth c H1 locs1 cells slots Q (F0 m (pc + 3) ls (.long v :: rest))) : W p l e R s m args below meth c H locs cells slots Q (F0 m pc ls st0) := by
  have hF := z_F hw hD hS hA
  refine va_calll hr hS (fun q _ h => hF q h) hF (fun r u t H1 locs1 ht _ hp hB _ hk hS1 => ?_)
  obtain ⟨hP1, hD1⟩ := hB
  rw [ht] at hP1
  obtain ⟨hP2, hD2⟩ := z_join hw hP hD hk hF hP1 hD1
  rw [hp]
  exact kk H1 locs1 hP2 hD2 hS1
theorem zV_back (hr : va_Run p l e R s m args below meth c H locs cells slots 0 0 (F0 m pc ls st0) rest (va_Qv (fun (_ : Unit) => True) (fun _ t => zEnd D w1 (va_A wc H.size) t) (va_A wc H.size) a) (va_A wc H.size)) (hw : ww = pre ++ wc ++ post) (hP : va_P D vwCl ww H) (hD : va_D A ww) (hS : va_S A H0 H locs) (hA : ∀ q, H0.size ≤ q → A q)
    (kk : ∀ (H1 : Heap) (locs1 : List Loc), va_P D vwCl (pre ++ w1 ++ post) H1 → va_D A (pre ++ w1 ++ post) → va_S A H0 H1 locs1 → W p l e R s m args below meth c H1 locs1 cells slots Q (F0 m (pc + 3) ls rest)) : W p l e R s m args below meth c H locs cells slots Q (F0 m pc ls st0) := by
  have hF := z_F hw hD hS hA
  refine va_callv hr hS (fun q _ h => hF q h) hF (fun u t H1 locs1 ht _ _ hB _ hk hS1 => ?_)
  obtain ⟨hP1, hD1⟩ := hB
  rw [ht] at hP1
  obtain ⟨hP2, hD2⟩ := z_join hw hP hD hk hF hP1 hD1
  exact kk H1 locs1 hP2 hD2 hS1
variable {y : MethodName} {bytes cc : ByteArray} {maxL nL n index ci q0 : Nat} {ret : Option FieldType} {ws : List Cond} {rm : Room} {Ts : List Cond} {own C host : String} {b : Addr} {As : List Value} {q : vw_C} {fs : List Value}
/-- a virtual call of a method that answers an int -/
theorem zI_V {v : Int32} (S : CallFix p m c cc nL s args Ts own) (hM : zI l y ws rm D cI (.ref b :: As) wc w1 v) (cw : CallW R s args own C index y bytes maxL ret ws rm 0 0 n) (hw : ww = pre ++ wc ++ post) (hK : va_K D vwCl [(cI, .int)] s) (hN : zN s) (hc : vwCl[ci]? = some q) (hq : q.1 = C) (he : wc[q0]? = some (b, .inr (ci, fs)))
    (hP : va_P D vwCl ww H) (hD : va_D A ww) (hS : va_S A H0 H locs) (hA : ∀ q, H0.size ≤ q → A q) (hn : As.length = n) (hsize : ls.size = nL) (hst : st0 = As.reverse ++ .ref b :: rest) (hW : (rest.map fun v => v.category).sum ≤ 8) (hdg : decode cc pc = .ok (.invokevirtual index, 3)) (hcs : cells ≤ R.cells ∧ slots ≤ R.slots)
    (kk : ∀ (H1 : Heap) (locs1 : List Loc), va_P D vwCl (pre ++ w1 ++ post) H1 → va_D A (pre ++ w1 ++ post) → va_S A H0 H1 locs1 → W p l e R s m args below meth c H1 locs1 cells slots Q (F0 m (pc + 3) ls (.int v :: rest))) : W p l e R s m args below meth c H locs cells slots Q (F0 m pc ls st0) := by
  subst hst
  have hPc := z_P hw hP
  exact zI_back (va_runV (As := As) (rest := rest) S (hM H.size) cw ⟨zPre_blind, by rw [← hq]; exact va_recv hK hPc hc he, fun U hU hW => ⟨rfl, zPre_at hU hW hK hN hPc (z_D hw hD)⟩⟩ rfl hn hsize rfl (lv_room hW) hdg hcs) hw hP hD hS hA kk
theorem zV_V (S : CallFix p m c cc nL s args Ts own) (hM : zV l y ws rm D cI (.ref b :: As) wc w1) (cw : CallW R s args own C index y bytes maxL ret ws rm 0 0 n) (hw : ww = pre ++ wc ++ post) (hK : va_K D vwCl [(cI, .int)] s) (hN : zN s) (hc : vwCl[ci]? = some q) (hq : q.1 = C) (he : wc[q0]? = some (b, .inr (ci, fs)))
    (hP : va_P D vwCl ww H) (hD : va_D A ww) (hS : va_S A H0 H locs) (hA : ∀ q, H0.size ≤ q → A q) (hn : As.length = n) (hsize : ls.size = nL) (hst : st0 = As.reverse ++ .ref b :: rest) (hW : (rest.map fun v => v.category).sum ≤ 8) (hdg : decode cc pc = .ok (.invokevirtual index, 3)) (hcs : cells ≤ R.cells ∧ slots ≤ R.slots)
    (kk : ∀ (H1 : Heap) (locs1 : List Loc), va_P D vwCl (pre ++ w1 ++ post) H1 → va_D A (pre ++ w1 ++ post) → va_S A H0 H1 locs1 → W p l e R s m args below meth c H1 locs1 cells slots Q (F0 m (pc + 3) ls rest)) : W p l e R s m args below meth c H locs cells slots Q (F0 m pc ls st0) := by
  subst hst
  have hPc := z_P hw hP
  exact zV_back (va_runV (As := As) (rest := rest) S (hM H.size) cw ⟨zPre_blind, by rw [← hq]; exact va_recv hK hPc hc he, fun U hU hW => ⟨rfl, zPre_at hU hW hK hN hPc (z_D hw hD)⟩⟩ rfl hn hsize rfl (lv_room hW) hdg hcs) hw hP hD hS hA kk
theorem zL_V {v : Int64} (S : CallFix p m c cc nL s args Ts own) (hM : zL l y ws rm D cI (.ref b :: As) wc w1 v) (cw : CallW R s args own C index y bytes maxL ret ws rm 0 0 n) (hw : ww = pre ++ wc ++ post) (hK : va_K D vwCl [(cI, .int)] s) (hN : zN s) (hc : vwCl[ci]? = some q) (hq : q.1 = C) (he : wc[q0]? = some (b, .inr (ci, fs)))
    (hP : va_P D vwCl ww H) (hD : va_D A ww) (hS : va_S A H0 H locs) (hA : ∀ q, H0.size ≤ q → A q) (hn : As.length = n) (hsize : ls.size = nL) (hst : st0 = As.reverse ++ .ref b :: rest) (hW : (rest.map fun v => v.category).sum ≤ 8) (hdg : decode cc pc = .ok (.invokevirtual index, 3)) (hcs : cells ≤ R.cells ∧ slots ≤ R.slots)
    (kk : ∀ (H1 : Heap) (locs1 : List Loc), va_P D vwCl (pre ++ w1 ++ post) H1 → va_D A (pre ++ w1 ++ post) → va_S A H0 H1 locs1 → W p l e R s m args below meth c H1 locs1 cells slots Q (F0 m (pc + 3) ls (.long v :: rest))) : W p l e R s m args below meth c H locs cells slots Q (F0 m pc ls st0) := by
  subst hst
  have hPc := z_P hw hP
  exact zL_back (va_runV (As := As) (rest := rest) S (hM H.size) cw ⟨zPre_blind, by rw [← hq]; exact va_recv hK hPc hc he, fun U hU hW => ⟨rfl, zPre_at hU hW hK hN hPc (z_D hw hD)⟩⟩ rfl hn hsize rfl (lv_room hW) hdg hcs) hw hP hD hS hA kk
/-- a static call -/
theorem zI_S {v : Int32} (S : CallFix p m c cc nL s args Ts own) (hM : zI l y ws rm D cI As wc w1 v) (cw : CallB R s args own index y bytes maxL ret ws rm 0 0 n ∧ (Cond.static y).before args s = true) (hw : ww = pre ++ wc ++ post) (hK : va_K D vwCl [(cI, .int)] s) (hN : zN s)
    (hP : va_P D vwCl ww H) (hD : va_D A ww) (hS : va_S A H0 H locs) (hA : ∀ q, H0.size ≤ q → A q) (hn : As.length = n) (hsize : ls.size = nL) (hst : st0 = As.reverse ++ rest) (hW : (rest.map fun v => v.category).sum ≤ 8) (hdg : decode cc pc = .ok (.invokestatic index, 3)) (hcs : cells ≤ R.cells ∧ slots ≤ R.slots)
    (kk : ∀ (H1 : Heap) (locs1 : List Loc), va_P D vwCl (pre ++ w1 ++ post) H1 → va_D A (pre ++ w1 ++ post) → va_S A H0 H1 locs1 → W p l e R s m args below meth c H1 locs1 cells slots Q (F0 m (pc + 3) ls (.int v :: rest))) : W p l e R s m args below meth c H locs cells slots Q (F0 m pc ls st0) := by
  subst hst
  exact zI_back (va_runS (As := As) (rest := rest) S (hM H.size) cw ⟨zPre_blind, fun U hU hW => ⟨rfl, zPre_at hU hW hK hN (z_P hw hP) (z_D hw hD)⟩⟩ rfl hn hsize rfl (lv_room hW) hdg hcs) hw hP hD hS hA kk
theorem zV_S (S : CallFix p m c cc nL s args Ts own) (hM : zV l y ws rm D cI As wc w1) (cw : CallB R s args own index y bytes maxL ret ws rm 0 0 n ∧ (Cond.static y).before args s = true) (hw : ww = pre ++ wc ++ post) (hK : va_K D vwCl [(cI, .int)] s) (hN : zN s)
    (hP : va_P D vwCl ww H) (hD : va_D A ww) (hS : va_S A H0 H locs) (hA : ∀ q, H0.size ≤ q → A q) (hn : As.length = n) (hsize : ls.size = nL) (hst : st0 = As.reverse ++ rest) (hW : (rest.map fun v => v.category).sum ≤ 8) (hdg : decode cc pc = .ok (.invokestatic index, 3)) (hcs : cells ≤ R.cells ∧ slots ≤ R.slots)
    (kk : ∀ (H1 : Heap) (locs1 : List Loc), va_P D vwCl (pre ++ w1 ++ post) H1 → va_D A (pre ++ w1 ++ post) → va_S A H0 H1 locs1 → W p l e R s m args below meth c H1 locs1 cells slots Q (F0 m (pc + 3) ls rest)) : W p l e R s m args below meth c H locs cells slots Q (F0 m pc ls st0) := by
  subst hst
  exact zV_back (va_runS (As := As) (rest := rest) S (hM H.size) cw ⟨zPre_blind, fun U hU hW => ⟨rfl, zPre_at hU hW hK hN (z_P hw hP) (z_D hw hD)⟩⟩ rfl hn hsize rfl (lv_room hW) hdg hcs) hw hP hD hS hA kk
/-- a static call of a nest mate's private method, that has no world of its own -/
theorem zI_SN {v : Int32} (S : CallFix p m c cc nL s args Ts own) (hM : zI l y ws rm D cI As wc w1 v) (cw : va_CN R s args own index y host bytes maxL ret ws rm 0 0 n ∧ (Cond.static y).before args s = true ∧ True) (hw : ww = pre ++ wc ++ post) (hK : va_K D vwCl [(cI, .int)] s) (hN : zN s)
    (hP : va_P D vwCl ww H) (hD : va_D A ww) (hS : va_S A H0 H locs) (hA : ∀ q, H0.size ≤ q → A q) (hn : As.length = n) (hsize : ls.size = nL) (hst : st0 = As.reverse ++ rest) (hW : (rest.map fun v => v.category).sum ≤ 8) (hdg : decode cc pc = .ok (.invokestatic index, 3)) (hcs : cells ≤ R.cells ∧ slots ≤ R.slots)
    (kk : ∀ (H1 : Heap) (locs1 : List Loc), va_P D vwCl (pre ++ w1 ++ post) H1 → va_D A (pre ++ w1 ++ post) → va_S A H0 H1 locs1 → W p l e R s m args below meth c H1 locs1 cells slots Q (F0 m (pc + 3) ls (.int v :: rest))) : W p l e R s m args below meth c H locs cells slots Q (F0 m pc ls st0) := by
  subst hst
  exact zI_back (va_runSN (As := As) (rest := rest) S (hM H.size) cw ⟨zPre_blind, fun U hU hW => ⟨rfl, zPre_at hU hW hK hN (z_P hw hP) (z_D hw hD)⟩⟩ rfl hn hsize rfl (lv_room hW) hdg hcs) hw hP hD hS hA kk
end ZCALL
end
section
/-! the numbers of a slope, and what each method of the class makes of them -/
abbrev sS : Type := Nat → Nat → Int32
def s_row (S : sS) (r : Nat) (g : Nat → Int32) : sS := fun a b => cond (Nat.beq a r) (g b) (S a b)
/-- the number v at place j of row r -/
def s_put (S : sS) (r j : Nat) (v : Int32) : sS := s_row S r (upd (S r) j v)
/-- a loop of n rounds -/
def itr {α : Type} (f : Int32 → α → α) : Nat → α → α
  | 0, a => a
  | n + 1, a => f (nI n) (itr f n a)
theorem itr_0 {α : Type} (f : Int32 → α → α) (a : α) : itr f 0 a = a := rfl
theorem itr_s {α : Type} (f : Int32 → α → α) (n : Nat) (a : α) : itr f (n + 1) a = f (nI n) (itr f n a) := rfl
theorem s_row_same (S : sS) (r : Nat) (g : Nat → Int32) : s_row S r g r = g := by
  funext b
  simp [s_row]
theorem s_row_ne (S : sS) {r q : Nat} (h : q ≠ r) (g : Nat → Int32) : s_row S r g q = S q := by
  funext b
  have : Nat.beq q r = false := by
    cases hb : Nat.beq q r with
    | false => rfl
    | true => exact absurd (Nat.eq_of_beq_eq_true hb) h
  simp [s_row, this]
theorem s_put_same (S : sS) (r j : Nat) (v : Int32) : s_put S r j v r = upd (S r) j v := s_row_same _ _ _
theorem s_put_ne (S : sS) {r q : Nat} (h : q ≠ r) (j : Nat) (v : Int32) : s_put S r j v q = S q := s_row_ne _ h _
theorem s_put_col (S : sS) (r : Nat) {j k : Nat} (h : k ≠ j) (v : Int32) (q : Nat) : s_put S r j v q k = S q k := by
  by_cases hq : q = r
  · subst hq
    rw [s_put_same]
    simp [upd, h]
  · rw [s_put_ne S hq]
/-- a slope's cells: the object, its thirteen rows -/
def sW (cI : ClassId) (a : Nat → Nat) (S : sS) : va_W := [(a 0, .inr (2, [.int (S 0 0), .int (S 0 1), .int (S 0 2), .int (S 0 3), .int (S 0 4), .ref (a 1), .ref (a 2), .ref (a 3), .ref (a 4), .ref (a 5), .ref (a 6), .ref (a 7), .ref (a 8), .ref (a 9), .ref (a 10), .ref (a 11), .ref (a 12), .ref (a 13)])),
  (a 1, .inl (cI, 8, .inl (S 1))), (a 2, .inl (cI, 64, .inl (S 2))), (a 3, .inl (cI, 64, .inl (S 3))), (a 4, .inl (cI, 64, .inl (S 4))), (a 5, .inl (cI, 64, .inl (S 5))), (a 6, .inl (cI, 64, .inl (S 6))), (a 7, .inl (cI, 64, .inl (S 7))), (a 8, .inl (cI, 64, .inl (S 8))), (a 9, .inl (cI, 64, .inl (S 9))), (a 10, .inl (cI, 64, .inl (S 10))), (a 11, .inl (cI, 64, .inl (S 11))), (a 12, .inl (cI, 64, .inl (S 12))), (a 13, .inl (cI, 64, .inl (S 13)))]
/-- a calendar's cells -/
def kW (cI : ClassId) (k : Nat → Nat) (M : sS) : va_W := [(k 1, .inr (0, [.ref (k 2), .ref (k 3), .ref (k 4)])), (k 2, .inl (cI, 30, .inl (M 1))), (k 3, .inl (cI, 30, .inl (M 2))), (k 4, .inl (cI, 30, .inl (M 3)))]
/-- the best move's cell -/
def bW (k : Nat → Nat) (M : sS) : va_W := [(k 5, .inr (1, [.int (M 4 0), .int (M 4 1), .int (M 4 2), .int (M 4 3), .int (M 4 4)]))]
/-- the object's own cell; b, t: where its slope and its trial slope lie -/
def oW (k b t : Nat → Nat) (M : sS) : va_W := [(k 0, .inr (3, [.ref (k 1), .ref (b 0), .ref (t 0), .ref (k 5), .int (M 0 0), .int (M 0 1)]))]
/-- the reference's cells: thrown, n, shares, fields, weather, spareCounts, spareFields -/
def mW (cI : ClassId) (d : Nat → Nat) (m : sS) : va_W := [(d 0, .inr (4, [.int (m 0 0), .ref (d 1), .ref (d 2), .ref (d 3), .ref (d 4), .ref (d 5), .ref (d 6)])), (d 1, .inl (cI, 7, .inl (m 1))), (d 2, .inl (cI, 8, .inl (m 2))), (d 3, .inl (cI, 768, .inl (m 3))), (d 4, .inl (cI, 90, .inl (m 4))), (d 5, .inl (cI, 7, .inl (m 5))), (d 6, .inl (cI, 768, .inl (m 6)))]
/-- h terraces of w fields -/
def geo (h w : Nat) (S : sS) : Prop := S 0 0 = nI h ∧ S 0 1 = nI w ∧ 2 ≤ h ∧ h ≤ 8 ∧ 2 ≤ w ∧ w ≤ 8
theorem geo_hw {h w : Nat} {S : sS} (g : geo h w S) : h * w ≤ 64 := by
  obtain ⟨-, -, h1, h2, h3, h4⟩ := g
  exact Nat.mul_le_mul h2 h4
theorem geo_put {h w : Nat} {S : sS} (g : geo h w S) {r j : Nat} (hr : r ≠ 0 ∨ 2 ≤ j) (v : Int32) : geo h w (s_put S r j v) := by
  obtain ⟨h0, h1, h2⟩ := g
  refine ⟨?_, ?_, h2⟩
  · rcases hr with hr | hr
    · rw [s_put_ne S (Ne.symm hr)]; exact h0
    · rw [s_put_col S r (by omega)]; exact h0
  · rcases hr with hr | hr
    · rw [s_put_ne S (Ne.symm hr)]; exact h1
    · rw [s_put_col S r (by omega)]; exact h1
/-- h, w and the day stay -/
def sam (S T : sS) : Prop := T 0 0 = S 0 0 ∧ T 0 1 = S 0 1 ∧ T 0 2 = S 0 2
theorem sam_rf (S : sS) : sam S S := ⟨rfl, rfl, rfl⟩
theorem sam_tr {S T U : sS} (h : sam S T) (h2 : sam T U) : sam S U := ⟨h2.1.trans h.1, h2.2.1.trans h.2.1, h2.2.2.trans h.2.2⟩
theorem sam_put {S T : sS} (h : sam S T) {r j : Nat} (hr : r ≠ 0 ∨ 3 ≤ j) (v : Int32) : sam S (s_put T r j v) := by
  refine sam_tr h ?_
  rcases hr with hr | hr
  · exact ⟨by rw [s_put_ne T (Ne.symm hr)], by rw [s_put_ne T (Ne.symm hr)], by rw [s_put_ne T (Ne.symm hr)]⟩
  · exact ⟨s_put_col T r (by omega) v 0, s_put_col T r (by omega) v 0, s_put_col T r (by omega) v 0⟩
theorem sam_itr {f : Int32 → sS → sS} (hf : ∀ i T, sam T (f i T)) (n : Nat) (S : sS) : sam S (itr f n S) := by
  induction n with
  | zero => exact sam_rf S
  | succ n ih => exact sam_tr ih (hf _ _)
theorem geo_sam {h w : Nat} {S T : sS} (g : geo h w S) (e : sam S T) : geo h w T := ⟨e.1.trans g.1, e.2.1.trans g.2.1, g.2.2⟩
def zmax (x y : Int32) : Int32 := if x < y then y else x
def zmin (x y : Int32) : Int32 := if y < x then y else x
def zabs (x : Int32) : Int32 := if 0 ≤ x then x else 0 - x
def zrem (x y : Int32) : Int32 := x - x / y * y
def is_w (x a b : Int32) : Int32 := if x < a then 0 else if b < x then 0 else 1
def sl_cells (S : sS) : Int32 := S 0 0 * S 0 1
theorem geo_cells {h w : Nat} {S : sS} (g : geo h w S) : sl_cells S = nI (h * w) := by
  unfold sl_cells
  rw [g.1, g.2.1, pk_mul]
def sl_has (S : sS) (t f : Int32) : Int32 := if t < 0 then 0 else if S 0 0 ≤ t then 0 else if f < 0 then 0 else if S 0 1 ≤ f then 0 else 1
def sl_at (S : sS) (t f : Int32) : Int32 := t * S 0 1 + f
theorem sl_has_ok {S : sS} {t f : Int32} (hh : ¬ sl_has S t f = 0) : ¬ t < 0 ∧ ¬ S 0 0 ≤ t ∧ ¬ f < 0 ∧ ¬ S 0 1 ≤ f := by
  unfold sl_has at hh
  by_cases h1 : t < 0
  · rw [if_pos h1] at hh; exact absurd rfl hh
  · rw [if_neg h1] at hh
    by_cases h2 : S 0 0 ≤ t
    · rw [if_pos h2] at hh; exact absurd rfl hh
    · rw [if_neg h2] at hh
      by_cases h3 : f < 0
      · rw [if_pos h3] at hh; exact absurd rfl hh
      · rw [if_neg h3] at hh
        by_cases h4 : S 0 1 ≤ f
        · rw [if_pos h4] at hh; exact absurd rfl hh
        · exact ⟨h1, h2, h3, h4⟩
/-- a field's place as a number -/
theorem geo_tf {h w : Nat} {S : sS} (g : geo h w S) {t f : Int32} (hh : ¬ sl_has S t f = 0) : ∃ i j : Nat, i < h ∧ j < w ∧ t = nI i ∧ f = nI j ∧ sl_at S t f = nI (i * w + j) ∧ i * w + j < h * w := by
  obtain ⟨h1, h2, h3, h4⟩ := sl_has_ok hh
  obtain ⟨g0, g1, -, hh8, -, hw8⟩ := g
  obtain ⟨i, hi, rfl⟩ := nI_of h1
  obtain ⟨j, hj, rfl⟩ := nI_of h3
  have hi2 : i < h := by
    rcases Nat.lt_or_ge i h with q | q
    · exact q
    · exact absurd (by rw [g0]; exact nI_le q hi) h2
  have hj2 : j < w := by
    rcases Nat.lt_or_ge j w with q | q
    · exact q
    · exact absurd (by rw [g1]; exact nI_le q hj) h4
  refine ⟨i, j, hi2, hj2, rfl, rfl, ?_, ?_⟩
  · unfold sl_at
    rw [g1, pk_mul, nI_add]
  · have : (i + 1) * w ≤ h * w := Nat.mul_le_mul_right w hi2
    rw [Nat.succ_mul] at this
    omega
theorem geo_in {h w : Nat} {S : sS} (g : geo h w S) {t f : Int32} (hh : ¬ sl_has S t f = 0) : vp_in (sl_at S t f) 64 := by
  obtain ⟨i, j, -, -, -, -, e, hlt⟩ := geo_tf g hh
  have := geo_hw g
  rw [e]
  exact vp_in_nI (by omega) (by decide)
def sl_bring (S : sS) (t f x : Int32) : sS := if sl_has S t f = 0 then s_put S 0 3 (S 0 3 + x) else s_put S 2 (sl_at S t f).toNatClampNeg (S 2 (sl_at S t f).toNatClampNeg + x)
theorem sam_bring (S : sS) (t f x : Int32) : sam S (sl_bring S t f x) := by
  unfold sl_bring
  split
  · exact sam_put (sam_rf S) (Or.inr (by decide)) _
  · exact sam_put (sam_rf S) (Or.inl (by decide)) _
theorem geo_has {h w : Nat} {S : sS} (g : geo h w S) {i j : Nat} (hi : i < h) (hj : j < w) : ¬ sl_has S (nI i) (nI j) = 0 := by
  obtain ⟨g0, g1, -, h8, -, w8⟩ := g
  unfold sl_has
  rw [g0, g1, if_neg (nI_pos (by omega)), if_neg (nI_ge hi (by omega)), if_neg (nI_pos (by omega)), if_neg (nI_ge hj (by omega))]
  decide
theorem geo_w {h w : Nat} {S : sS} (g : geo h w S) : w ≤ h * w := by
  obtain ⟨-, -, h2, -⟩ := g
  exact Nat.le_mul_of_pos_left w (by omega)
/-- one field's water of a day -/
def sl_out (S : sS) (k : Nat) : Int32 := zmin (zmax (S 2 k - S 5 k) 0) 40
def sl_over (S : sS) (k : Nat) : Int32 := zmax (S 2 k - S 3 k) 0
def sl_flow1 (S : sS) (k : Nat) : sS := s_put (s_put S 12 k (sl_out S k)) 2 k (S 2 k - sl_out S k)
def sl_flow2 (S : sS) (k : Nat) : sS := s_put (s_put S 13 k (sl_over S k)) 2 k (S 2 k - sl_over S k)
def sl_flowA (S : sS) (t f : Int32) : sS := sl_bring (sl_flow1 S (sl_at S t f).toNatClampNeg) (t + 1) (f + S 6 (sl_at S t f).toNatClampNeg) (sl_out S (sl_at S t f).toNatClampNeg)
def sl_flowB (S : sS) (k : Nat) (t f : Int32) : sS := sl_bring (sl_bring (sl_flow2 S k) t (f - 1) (sl_over S k / 2)) t (f + 1) (sl_over S k - sl_over S k / 2)
def sl_flow (S : sS) (t f : Int32) : sS := sl_flowB (sl_flowA S t f) (sl_at S t f).toNatClampNeg t f
theorem sam_flow (S : sS) (t f : Int32) : sam S (sl_flow S t f) := by
  unfold sl_flow sl_flowB sl_flowA
  refine sam_tr ?_ (sam_bring _ _ _ _)
  refine sam_tr ?_ (sam_bring _ _ _ _)
  unfold sl_flow2
  refine sam_put (sam_put ?_ (Or.inl (by decide)) _) (Or.inl (by decide)) _
  refine sam_tr ?_ (sam_bring _ _ _ _)
  unfold sl_flow1
  exact sam_put (sam_put (sam_rf S) (Or.inl (by decide)) _) (Or.inl (by decide)) _
def sl_flowAll (h w : Nat) (S : sS) : sS := itr (fun t T => itr (fun f U => sl_flow U t f) w T) h S
theorem sam_flowAll (h w : Nat) (S : sS) : sam S (sl_flowAll h w S) := sam_itr (fun t T => sam_itr (fun f U => sam_flow U t f) w T) h S
def sl_sum (h w : Nat) (S : sS) (r : Nat) : Int32 := itr (fun i x => x + S r i.toNatClampNeg) (h * w) 0
def sl_clear (S : sS) (i : Int32) : sS := s_put (s_put (s_put (s_put (s_put S 7 i.toNatClampNeg 0) 8 i.toNatClampNeg 0) 9 i.toNatClampNeg 0) 10 i.toNatClampNeg 0) 11 i.toNatClampNeg 0
theorem sam_clear (S : sS) (i : Int32) : sam S (sl_clear S i) := sam_put (sam_put (sam_put (sam_put (sam_put (sam_rf S) (Or.inl (by decide)) _) (Or.inl (by decide)) _) (Or.inl (by decide)) _) (Or.inl (by decide)) _) (Or.inl (by decide)) _
def sl_hard (S : sS) (i : Int32) : Int32 := if 0 < S 10 i.toNatClampNeg then -3 else if S 11 i.toNatClampNeg ≤ 0 then (if is_w (S 2 i.toNatClampNeg) 5 25 = 0 then 1 else 2) else -3
def sl_height (S : sS) (k : Nat) : Int32 := zmin (5 + S 8 k * 2 / 3) 45
def sl_wet (S : sS) (k : Nat) : sS := s_put S 10 k (if S 2 k ≤ sl_height S k then 0 else S 10 k + 1)
def sl_dry (S : sS) (k : Nat) : sS := s_put S 11 k (if S 2 k = 0 then S 11 k + 1 else 0)
def sl_die (S : sS) (i : Int32) : sS := s_put (sl_clear S i) 0 4 (sl_clear S i 0 4 + 1)
def sl_live (S : sS) (i : Int32) : sS := s_put S 9 i.toNatClampNeg (zmin (zmax (S 9 i.toNatClampNeg + sl_hard S i) 0) 100)
def sl_end (S : sS) (i : Int32) : sS := if 4 ≤ S 10 i.toNatClampNeg then sl_die S i else if S 11 i.toNatClampNeg < 5 then sl_live S i else sl_die S i
def sl_grow (S : sS) (i : Int32) : sS := sl_end (sl_dry (sl_wet (s_put S 8 i.toNatClampNeg (S 8 i.toNatClampNeg + 1)) i.toNatClampNeg) i.toNatClampNeg) i
theorem sam_die (S : sS) (i : Int32) : sam S (sl_die S i) := sam_put (sam_clear S i) (Or.inr (by decide)) _
theorem sam_end (S : sS) (i : Int32) : sam S (sl_end S i) := by
  unfold sl_end
  split
  · exact sam_die S i
  · split
    · exact sam_put (sam_rf S) (Or.inl (by decide)) _
    · exact sam_die S i
theorem sam_grow (S : sS) (i : Int32) : sam S (sl_grow S i) := by
  unfold sl_grow
  refine sam_tr ?_ (sam_end _ i)
  unfold sl_dry sl_wet
  exact sam_put (sam_put (sam_put (sam_rf S) (Or.inl (by decide)) _) (Or.inl (by decide)) _) (Or.inl (by decide)) _
def sl_rice1 (S : sS) (i : Int32) : sS := if S 7 i.toNatClampNeg = 0 then S else sl_grow S i
def sl_rice (h w : Nat) (S : sS) : sS := itr (fun i T => sl_rice1 T i) (h * w) S
theorem sam_rice (h w : Nat) (S : sS) : sam S (sl_rice h w S) := sam_itr (fun i T => by
  unfold sl_rice1
  split
  · exact sam_rf T
  · exact sam_grow T i) _ S
def sl_rain1 (S : sS) (i x : Int32) : sS := s_put S 2 i.toNatClampNeg (S 2 i.toNatClampNeg + x)
def sl_rain (h w : Nat) (S : sS) (x : Int32) : sS := itr (fun i T => sl_rain1 T i x) (h * w) S
theorem sam_rain (h w : Nat) (S : sS) (x : Int32) : sam S (sl_rain h w S x) := sam_itr (fun i T => sam_put (sam_rf T) (Or.inl (by decide)) _) _ S
def sl_shares (w : Nat) (S : sS) : Int32 := itr (fun i x => x + S 1 i.toNatClampNeg) w 0
def sl_spring1 (S : sS) (i x a : Int32) : sS := s_put S 2 i.toNatClampNeg (S 2 i.toNatClampNeg + x * S 1 i.toNatClampNeg / a)
def sl_spring (w : Nat) (S : sS) (x : Int32) : sS := if sl_shares w S = 0 then S else itr (fun i T => sl_spring1 T i x (sl_shares w S)) w S
theorem sam_spring (w : Nat) (S : sS) (x : Int32) : sam S (sl_spring w S x) := by
  unfold sl_spring
  split
  · exact sam_rf S
  · exact sam_itr (fun i T => sam_put (sam_rf T) (Or.inl (by decide)) _) _ S
def sl_left (S : sS) (k : Nat) (x : Int32) : Int32 := zmax (S 2 k - S 4 k - x) 0
def sl_loseA (S : sS) (k : Nat) (x : Int32) : sS := s_put S 2 k (zmin (sl_left S k x) 200)
def sl_lose1 (S : sS) (i x : Int32) : sS := s_put (sl_loseA S i.toNatClampNeg x) 0 3 (sl_loseA S i.toNatClampNeg x 0 3 + (sl_left S i.toNatClampNeg x - sl_loseA S i.toNatClampNeg x 2 i.toNatClampNeg))
def sl_lose (h w : Nat) (S : sS) (x : Int32) : sS := itr (fun i T => sl_lose1 T i x) (h * w) S
theorem sam_lose (h w : Nat) (S : sS) (x : Int32) : sam S (sl_lose h w S x) := sam_itr (fun i T => sam_put (sam_put (sam_rf T) (Or.inl (by decide)) _) (Or.inr (by decide)) _) _ S
def sl_date (S : sS) : Int32 := S 0 2 - S 0 2 / 30 * 30
def sl_dayA (h w : Nat) (S : sS) (r v u : Int32) : sS := sl_rice h w (sl_lose h w (sl_flowAll h w (sl_spring w (sl_rain h w S r) v)) u)
def sl_day (h w : Nat) (M S : sS) : sS := sl_dayA h w (s_put S 0 2 (S 0 2 + 1)) (M 1 (sl_date S).toNatClampNeg) (M 2 (sl_date S).toNatClampNeg) (M 3 (sl_date S).toNatClampNeg)
def sl_days (h w : Nat) (M S : sS) (n : Nat) : sS := itr (fun _ T => sl_day h w M T) n S
theorem sam_dayA (h w : Nat) (S : sS) (r v u : Int32) : sam S (sl_dayA h w S r v u) := sam_tr (sam_tr (sam_tr (sam_tr (sam_rain h w S r) (sam_spring w _ v)) (sam_flowAll h w _)) (sam_lose h w _ u)) (sam_rice h w _)
theorem geo_day {h w : Nat} {S : sS} (g : geo h w S) (M : sS) : geo h w (sl_day h w M S) := geo_sam (geo_put g (Or.inr (by decide)) _) (sam_dayA h w _ _ _ _)
theorem day_day {h w d : Nat} {S : sS} (hd : S 0 2 = nI d) (M : sS) : sl_day h w M S 0 2 = nI (d + 1) := by
  unfold sl_day
  rw [(sam_dayA h w _ _ _ _).2.2, s_put_same]
  simp only [upd, if_true]
  rw [hd, nI_1]
theorem date_in {d : Nat} {S : sS} (hd : S 0 2 = nI d) (h : d < 2 ^ 31) : vp_in (S 0 2 - S 0 2 / 30 * 30) 30 := by
  have e : S 0 2 - S 0 2 / 30 * 30 = nI (d % 30) := by
    rw [hd]
    exact pk_rem (d := 30) h (by decide) (by decide)
  rw [e]
  exact vp_in_nI (Nat.mod_lt _ (by decide)) (by decide)
theorem geo_days {h w : Nat} {S : sS} (g : geo h w S) (M : sS) (n : Nat) : geo h w (sl_days h w M S n) := by
  unfold sl_days
  induction n with
  | zero => exact g
  | succ n ih => exact geo_day ih M
theorem days_day {h w d : Nat} {S : sS} (hd : S 0 2 = nI d) (M : sS) (n : Nat) : sl_days h w M S n 0 2 = nI (d + n) := by
  unfold sl_days
  induction n with
  | zero => exact hd
  | succ n ih => exact day_day ih M
end
section
set_option maxHeartbeats 4000000 in
set_option maxRecDepth 100000 in
theorem c_X3_isWithin (l : Launch) (dC : Nat → ClassId) (dI : Nat → Nat → Nat) (cI : ClassId) (x u v : Int32) : zI l yX3_isWithin wsX3_isWithin { frames := 0, cells := 0, slots := 0, locals := 0 } (dC, dI) cI [.int x, .int u, .int v] (([] : va_W)) (([] : va_W)) (is_w x u v) := by
  refine zI_of (cc := cX3_isWithin) (maxL := 3) (ret := (some .boolean)) (by decide) rfl (Nat.le_of_ble_eq_true rfl) ?_
  intro p e s m below meth c A ls C0 hl
  obtain ⟨hx, hb, hr, hml, hown, hts, hlocks, hK, hN, hA, hP, hD, hS⟩ := C0
  have hown : s.vm.findClass RX3 = some m.cls := hown
  have hl : lv_has ls 3 [(0, .int x), (1, .int u), (2, .int v)] := hl
  have hS0 := hS
  refine lv_iload_n hx hb dX3_isWithin_0 rfl (lv_at hl 0 rfl) ?_
  refine lv_iload_n hx hb dX3_isWithin_1 rfl (lv_at hl 1 rfl) ?_
  refine lv_icmp_lt (tgt := 14) hx hb dX3_isWithin_2 (by decide) (fun c_1 => ?_) (fun c_1 => ?_)
  · refine lv_iconst (v := 0) hx hb dX3_isWithin_14 (by decide) ?_
    exact zI_ret hx hb hr hlocks hP hD hS rfl (by first | rfl | (simp only [is_w, if_pos c_1]; done)) dX3_isWithin_15
  · refine lv_iload_n hx hb dX3_isWithin_5 rfl (lv_at hl 0 rfl) ?_
    refine lv_iload_n hx hb dX3_isWithin_6 rfl (lv_at hl 2 rfl) ?_
    refine lv_icmp_gt (tgt := 14) hx hb dX3_isWithin_7 (by decide) (fun c_2 => ?_) (fun c_2 => ?_)
    · refine lv_iconst (v := 0) hx hb dX3_isWithin_14 (by decide) ?_
      exact zI_ret hx hb hr hlocks hP hD hS rfl (by first | rfl | (simp only [is_w, if_neg c_1, if_pos c_2]; done)) dX3_isWithin_15
    · refine lv_iconst (v := 1) hx hb dX3_isWithin_10 (by decide) ?_
      refine lv_goto (tgt := 15) hx hb dX3_isWithin_11 (by decide) ?_
      exact zI_ret hx hb hr hlocks hP hD hS rfl (by first | rfl | (simp only [is_w, if_neg c_1, if_neg c_2]; done)) dX3_isWithin_15
set_option maxHeartbeats 4000000 in
set_option maxRecDepth 100000 in
theorem c_X2_cells (l : Launch) (dC : Nat → ClassId) (dI : Nat → Nat → Nat) (cI : ClassId) (a : Nat → Nat) (S : sS) : zI l yX2_cells wsX2_cells { frames := 0, cells := 0, slots := 0, locals := 0 } (dC, dI) cI [.ref (a 0)] (sW cI a S) (sW cI a S) (sl_cells S) := by
  refine zI_of (cc := cX2_cells) (maxL := 1) (ret := (some .int)) (by decide) rfl (Nat.le_of_ble_eq_true rfl) ?_
  intro p e s m below meth c A ls C0 hl
  obtain ⟨hx, hb, hr, hml, hown, hts, hlocks, hK, hN, hA, hP, hD, hS⟩ := C0
  have hown : s.vm.findClass RX2 = some m.cls := hown
  have hl : lv_has ls 1 [(0, .ref (a 0))] := hl
  have hf55 := hts (.fieldLink RX2 55 "PaddyTerraces$Slope" "h" "I") (by decide +kernel)
  have hf59 := hts (.fieldLink RX2 59 "PaddyTerraces$Slope" "w" "I") (by decide +kernel)
  have hinX2 : ∀ w ∈ wsX20, w ∈ wsX2_cells := by decide +kernel
  have hS0 := hS
  refine lv_aload_n hx hb dX2_cells_0 rfl (lv_at hl 0 rfl) ?_
  refine va_get (D := (dC, dI)) (ci := 2) (v := .int (S 0 0)) (C := RX2) (T := TX2) (N := 18) hx hb hts hinX2 hown hK hP 0 rfl rfl 0 (by decide) hf55 (fun _ h9 => h9) rfl dX2_cells_1 ?_
  refine lv_aload_n hx hb dX2_cells_4 rfl (lv_at hl 0 rfl) ?_
  refine va_get (D := (dC, dI)) (ci := 2) (v := .int (S 0 1)) (C := RX2) (T := TX2) (N := 18) hx hb hts hinX2 hown hK hP 0 rfl rfl 1 (by decide) hf59 (fun _ h9 => h9) rfl dX2_cells_5 ?_
  refine lv_imul hx hb dX2_cells_8 ?_
  exact zI_ret hx hb hr hlocks hP hD hS rfl (by first | rfl) dX2_cells_9
set_option maxHeartbeats 4000000 in
set_option maxRecDepth 100000 in
theorem c_X2_hasField (l : Launch) (dC : Nat → ClassId) (dI : Nat → Nat → Nat) (cI : ClassId) (a : Nat → Nat) (S : sS) (t f : Int32) : zI l yX2_hasField wsX2_hasField { frames := 0, cells := 0, slots := 0, locals := 0 } (dC, dI) cI [.ref (a 0), .int t, .int f] (sW cI a S) (sW cI a S) (sl_has S t f) := by
  refine zI_of (cc := cX2_hasField) (maxL := 3) (ret := (some .boolean)) (by decide) rfl (Nat.le_of_ble_eq_true rfl) ?_
  intro p e s m below meth c A ls C0 hl
  obtain ⟨hx, hb, hr, hml, hown, hts, hlocks, hK, hN, hA, hP, hD, hS⟩ := C0
  have hown : s.vm.findClass RX2 = some m.cls := hown
  have hl : lv_has ls 3 [(0, .ref (a 0)), (1, .int t), (2, .int f)] := hl
  have hf55 := hts (.fieldLink RX2 55 "PaddyTerraces$Slope" "h" "I") (by decide +kernel)
  have hf59 := hts (.fieldLink RX2 59 "PaddyTerraces$Slope" "w" "I") (by decide +kernel)
  have hinX2 : ∀ w ∈ wsX20, w ∈ wsX2_hasField := by decide +kernel
  have hS0 := hS
  refine lv_iload_n hx hb dX2_hasField_0 rfl (lv_at hl 1 rfl) ?_
  refine lv_if_lt (tgt := 28) hx hb dX2_hasField_1 (by decide) (fun c_1 => ?_) (fun c_1 => ?_)
  · refine lv_iconst (v := 0) hx hb dX2_hasField_28 (by decide) ?_
    exact zI_ret hx hb hr hlocks hP hD hS rfl (by first | rfl | (simp only [sl_has, if_pos c_1]; done)) dX2_hasField_29
  · refine lv_iload_n hx hb dX2_hasField_4 rfl (lv_at hl 1 rfl) ?_
    refine lv_aload_n hx hb dX2_hasField_5 rfl (lv_at hl 0 rfl) ?_
    refine va_get (D := (dC, dI)) (ci := 2) (v := .int (S 0 0)) (C := RX2) (T := TX2) (N := 18) hx hb hts hinX2 hown hK hP 0 rfl rfl 0 (by decide) hf55 (fun _ h9 => h9) rfl dX2_hasField_6 ?_
    refine lv_icmp_ge (tgt := 28) hx hb dX2_hasField_9 (by decide) (fun c_2 => ?_) (fun c_2 => ?_)
    · refine lv_iconst (v := 0) hx hb dX2_hasField_28 (by decide) ?_
      exact zI_ret hx hb hr hlocks hP hD hS rfl (by first | rfl | (simp only [sl_has, if_neg c_1, if_pos c_2]; done)) dX2_hasField_29
    · refine lv_iload_n hx hb dX2_hasField_12 rfl (lv_at hl 2 rfl) ?_
      refine lv_if_lt (tgt := 28) hx hb dX2_hasField_13 (by decide) (fun c_3 => ?_) (fun c_3 => ?_)
      · refine lv_iconst (v := 0) hx hb dX2_hasField_28 (by decide) ?_
        exact zI_ret hx hb hr hlocks hP hD hS rfl (by first | rfl | (simp only [sl_has, if_neg c_1, if_neg c_2, if_pos c_3]; done)) dX2_hasField_29
      · refine lv_iload_n hx hb dX2_hasField_16 rfl (lv_at hl 2 rfl) ?_
        refine lv_aload_n hx hb dX2_hasField_17 rfl (lv_at hl 0 rfl) ?_
        refine va_get (D := (dC, dI)) (ci := 2) (v := .int (S 0 1)) (C := RX2) (T := TX2) (N := 18) hx hb hts hinX2 hown hK hP 0 rfl rfl 1 (by decide) hf59 (fun _ h9 => h9) rfl dX2_hasField_18 ?_
        refine lv_icmp_ge (tgt := 28) hx hb dX2_hasField_21 (by decide) (fun c_4 => ?_) (fun c_4 => ?_)
        · refine lv_iconst (v := 0) hx hb dX2_hasField_28 (by decide) ?_
          exact zI_ret hx hb hr hlocks hP hD hS rfl (by first | rfl | (simp only [sl_has, if_neg c_1, if_neg c_2, if_neg c_3, if_pos c_4]; done)) dX2_hasField_29
        · refine lv_iconst (v := 1) hx hb dX2_hasField_24 (by decide) ?_
          refine lv_goto (tgt := 29) hx hb dX2_hasField_25 (by decide) ?_
          exact zI_ret hx hb hr hlocks hP hD hS rfl (by first | rfl | (simp only [sl_has, if_neg c_1, if_neg c_2, if_neg c_3, if_neg c_4]; done)) dX2_hasField_29
set_option maxHeartbeats 4000000 in
set_option maxRecDepth 100000 in
theorem c_X2_cellOf (l : Launch) (dC : Nat → ClassId) (dI : Nat → Nat → Nat) (cI : ClassId) (a : Nat → Nat) (S : sS) (t f : Int32) : zI l yX2_cellOf wsX2_cellOf { frames := 0, cells := 0, slots := 0, locals := 0 } (dC, dI) cI [.ref (a 0), .int t, .int f] (sW cI a S) (sW cI a S) (sl_at S t f) := by
  refine zI_of (cc := cX2_cellOf) (maxL := 3) (ret := (some .int)) (by decide) rfl (Nat.le_of_ble_eq_true rfl) ?_
  intro p e s m below meth c A ls C0 hl
  obtain ⟨hx, hb, hr, hml, hown, hts, hlocks, hK, hN, hA, hP, hD, hS⟩ := C0
  have hown : s.vm.findClass RX2 = some m.cls := hown
  have hl : lv_has ls 3 [(0, .ref (a 0)), (1, .int t), (2, .int f)] := hl
  have hf59 := hts (.fieldLink RX2 59 "PaddyTerraces$Slope" "w" "I") (by decide +kernel)
  have hinX2 : ∀ w ∈ wsX20, w ∈ wsX2_cellOf := by decide +kernel
  have hS0 := hS
  refine lv_iload_n hx hb dX2_cellOf_0 rfl (lv_at hl 1 rfl) ?_
  refine lv_aload_n hx hb dX2_cellOf_1 rfl (lv_at hl 0 rfl) ?_
  refine va_get (D := (dC, dI)) (ci := 2) (v := .int (S 0 1)) (C := RX2) (T := TX2) (N := 18) hx hb hts hinX2 hown hK hP 0 rfl rfl 1 (by decide) hf59 (fun _ h9 => h9) rfl dX2_cellOf_2 ?_
  refine lv_imul hx hb dX2_cellOf_5 ?_
  refine lv_iload_n hx hb dX2_cellOf_6 rfl (lv_at hl 2 rfl) ?_
  refine lv_iadd hx hb dX2_cellOf_7 ?_
  exact zI_ret hx hb hr hlocks hP hD hS rfl (by first | rfl) dX2_cellOf_8
set_option maxHeartbeats 4000000 in
set_option maxRecDepth 100000 in
theorem c_X2_bringWater (l : Launch) (dC : Nat → ClassId) (dI : Nat → Nat → Nat) (cI : ClassId) (a : Nat → Nat) (h w : Nat) (S : sS) (t f x : Int32) (hG0 : geo h w S) : zV l yX2_bringWater wsX2_bringWater { frames := 1, cells := 0, slots := 0, locals := 22 } (dC, dI) cI [.ref (a 0), .int t, .int f, .int x] (sW cI a S) (sW cI a (sl_bring S t f x)) := by
  refine zV_of (cc := cX2_bringWater) (maxL := 4) (ret := none) (by decide) rfl (Nat.le_of_ble_eq_true rfl) ?_
  intro p e s m below meth c A ls C0 hl
  obtain ⟨hx, hb, hr, hml, hown, hts, hlocks, hK, hN, hA, hP, hD, hS⟩ := C0
  have hown : s.vm.findClass RX2 = some m.cls := hown
  have hl : lv_has ls 4 [(0, .ref (a 0)), (1, .int t), (2, .int f), (3, .int x)] := hl
  have hf15 := hts (.fieldLink RX2 15 "PaddyTerraces$Slope" "depth" "[I") (by decide +kernel)
  have hf65 := hts (.fieldLink RX2 65 "PaddyTerraces$Slope" "brook" "I") (by decide +kernel)
  have hinX2 : ∀ w ∈ wsX20, w ∈ wsX2_bringWater := by decide +kernel
  have hS0 := hS
  have hN64 := geo_hw hG0
  have hW9 := geo_w hG0
  obtain ⟨-, -, hh2, hh8, hw2, hw8⟩ := id hG0
  refine lv_aload_n hx hb dX2_bringWater_0 rfl (lv_at hl 0 rfl) ?_
  refine lv_iload_n hx hb dX2_bringWater_1 rfl (lv_at hl 1 rfl) ?_
  refine lv_iload_n hx hb dX2_bringWater_2 rfl (lv_at hl 2 rfl) ?_
  refine zI_V (pre := ([] : va_W)) (wc := sW cI a S) (post := ([] : va_W)) (w1 := sW cI a S) ⟨hx, hb, hml, hown, hts⟩ (c_X2_hasField l dC dI cI a S t f) (cwV 2 hts gX2_bringWater_X2_hasField rfl rfl rfl (by decide +kernel) ⟨Nat.le_of_ble_eq_true rfl, Nat.le_of_ble_eq_true rfl⟩) (by simp only [List.append_assoc, List.append_nil, List.nil_append]) hK hN (ci := 2) (q0 := 0) rfl rfl rfl hP hD hS hA rfl hl.1 rfl (Nat.le_of_ble_eq_true rfl) dX2_bringWater_3 ⟨Nat.zero_le _, Nat.zero_le _⟩ (fun H locs hP hD hS => ?_)
  have hP : va_P (dC, dI) vwCl (sW cI a S) H := by simpa only [List.append_assoc, List.append_nil, List.nil_append] using hP
  have hD : va_D A (sW cI a S) := by simpa only [List.append_assoc, List.append_nil, List.nil_append] using hD
  refine lv_if_eq (tgt := 27) hx hb dX2_bringWater_6 (by decide) (fun c_1 => ?_) (fun c_1 => ?_)
  · refine lv_aload_n hx hb dX2_bringWater_27 rfl (lv_at hl 0 rfl) ?_
    refine lv_dup hx hb dX2_bringWater_28 rfl ?_
    refine va_get (D := (dC, dI)) (ci := 2) (v := .int (S 0 3)) (C := RX2) (T := TX2) (N := 18) hx hb hts hinX2 hown hK hP 0 rfl rfl 3 (by decide) hf65 (fun _ h9 => h9) rfl dX2_bringWater_29 ?_
    refine lv_iload_n hx hb dX2_bringWater_32 rfl (lv_at hl 3 rfl) ?_
    refine lv_iadd hx hb dX2_bringWater_33 ?_
    obtain ⟨S2, eS2⟩ : ∃ z : sS, z = s_put S 0 3 ((S 0 3) + x) := ⟨_, rfl⟩
    refine va_put (D := (dC, dI)) (ci := 2) (v := .int ((S 0 3) + x)) (ty := .int) (C := RX2) (T := TX2) (N := 18) hx hb hts hinX2 tyX2 tyX2_ok nmX2 hown hK hP hD hS 0 rfl rfl 3 (by decide) hf65 (fun _ h9 => h9) rfl (by decide +kernel) rfl rfl (Nat.le_of_ble_eq_true rfl) dX2_bringWater_34 (fun H locs hP hD hS => ?_)
    have hP : va_P (dC, dI) vwCl (sW cI a S2) H := by rw [eS2]; exact hP
    have hD : va_D A (sW cI a S2) := by rw [eS2]; exact hD
    have hGS2 : geo h w S2 := by rw [eS2]; exact geo_put hG0 (Or.inr (by decide)) _
    have hZ : S2 = sl_bring S t f x := (by rw [eS2]; first | rfl | (simp only [sl_bring, if_pos c_1]; done) | (unfold sl_bring; simp only [if_pos c_1]; done))
    rw [hZ] at hP hD
    exact zV_ret hx hb hr hlocks hP hD hS dX2_bringWater_37
  · refine lv_aload_n hx hb dX2_bringWater_9 rfl (lv_at hl 0 rfl) ?_
    refine va_get (D := (dC, dI)) (ci := 2) (v := .ref (a 2)) (C := RX2) (T := TX2) (N := 18) hx hb hts hinX2 hown hK hP 0 rfl rfl 6 (by decide) hf15 (fun _ h9 => h9) rfl dX2_bringWater_10 ?_
    refine lv_aload_n hx hb dX2_bringWater_13 rfl (lv_at hl 0 rfl) ?_
    refine lv_iload_n hx hb dX2_bringWater_14 rfl (lv_at hl 1 rfl) ?_
    refine lv_iload_n hx hb dX2_bringWater_15 rfl (lv_at hl 2 rfl) ?_
    refine zI_V (pre := ([] : va_W)) (wc := sW cI a S) (post := ([] : va_W)) (w1 := sW cI a S) ⟨hx, hb, hml, hown, hts⟩ (c_X2_cellOf l dC dI cI a S t f) (cwV 2 hts gX2_bringWater_X2_cellOf rfl rfl rfl (by decide +kernel) ⟨Nat.le_of_ble_eq_true rfl, Nat.le_of_ble_eq_true rfl⟩) (by simp only [List.append_assoc, List.append_nil, List.nil_append]) hK hN (ci := 2) (q0 := 0) rfl rfl rfl hP hD hS hA rfl hl.1 rfl (Nat.le_of_ble_eq_true rfl) dX2_bringWater_16 ⟨Nat.zero_le _, Nat.zero_le _⟩ (fun H locs hP hD hS => ?_)
    have hP : va_P (dC, dI) vwCl (sW cI a S) H := by simpa only [List.append_assoc, List.append_nil, List.nil_append] using hP
    have hD : va_D A (sW cI a S) := by simpa only [List.append_assoc, List.append_nil, List.nil_append] using hD
    refine lv_dup2_11 hx hb dX2_bringWater_19 rfl rfl ?_
    refine va_iald (cA := cI) (n := 64) (f := S 2) hx hb hK hP 2 0 rfl rfl (geo_in hG0 c_1) dX2_bringWater_20 ?_
    refine lv_iload_n hx hb dX2_bringWater_21 rfl (lv_at hl 3 rfl) ?_
    refine lv_iadd hx hb dX2_bringWater_22 ?_
    obtain ⟨S3, eS3⟩ : ∃ z : sS, z = s_put S 2 ((sl_at S t f).toNatClampNeg) ((S 2 (sl_at S t f).toNatClampNeg) + x) := ⟨_, rfl⟩
    refine va_iast (cA := cI) (n := 64) (f := S 2) hx hb hK hP hD hS 2 0 rfl rfl (geo_in hG0 c_1) dX2_bringWater_23 (fun H locs hP hD hS => ?_)
    have hP : va_P (dC, dI) vwCl (sW cI a S3) H := by rw [eS3]; exact hP
    have hD : va_D A (sW cI a S3) := by rw [eS3]; exact hD
    have hGS3 : geo h w S3 := by rw [eS3]; exact geo_put hG0 (Or.inl (by decide)) _
    refine lv_goto (tgt := 37) hx hb dX2_bringWater_24 (by decide) ?_
    have hZ : S3 = sl_bring S t f x := (by rw [eS3]; first | rfl | (simp only [sl_bring, if_neg c_1]; done) | (unfold sl_bring; simp only [if_neg c_1]; done))
    rw [hZ] at hP hD
    exact zV_ret hx hb hr hlocks hP hD hS dX2_bringWater_37
end
section
set_option maxHeartbeats 4000000 in
set_option maxRecDepth 100000 in
theorem c_X2_letFieldFlow (l : Launch) (dC : Nat → ClassId) (dI : Nat → Nat → Nat) (cI : ClassId) (a : Nat → Nat) (h w : Nat) (S : sS) (t f : Int32) (hG0 : geo h w S) (hH : ¬ sl_has S t f = 0) : zV l yX2_letFieldFlow wsX2_letFieldFlow { frames := 2, cells := 0, slots := 0, locals := 45 } (dC, dI) cI [.ref (a 0), .int t, .int f] (sW cI a S) (sW cI a (sl_flow S t f)) := by
  refine zV_of (cc := cX2_letFieldFlow) (maxL := 6) (ret := none) (by decide) rfl (Nat.le_of_ble_eq_true rfl) ?_
  intro p e s m below meth c A ls C0 hl
  obtain ⟨hx, hb, hr, hml, hown, hts, hlocks, hK, hN, hA, hP, hD, hS⟩ := C0
  have hown : s.vm.findClass RX2 = some m.cls := hown
  have hl : lv_has ls 6 [(0, .ref (a 0)), (1, .int t), (2, .int f)] := hl
  have hf15 := hts (.fieldLink RX2 15 "PaddyTerraces$Slope" "depth" "[I") (by decide +kernel)
  have hf18 := hts (.fieldLink RX2 18 "PaddyTerraces$Slope" "bank" "[I") (by decide +kernel)
  have hf24 := hts (.fieldLink RX2 24 "PaddyTerraces$Slope" "stone" "[I") (by decide +kernel)
  have hf27 := hts (.fieldLink RX2 27 "PaddyTerraces$Slope" "side" "[I") (by decide +kernel)
  have hf45 := hts (.fieldLink RX2 45 "PaddyTerraces$Slope" "wentOut" "[I") (by decide +kernel)
  have hf48 := hts (.fieldLink RX2 48 "PaddyTerraces$Slope" "spilled" "[I") (by decide +kernel)
  have hc_max := hts (.code Lib.Math.max.name Lib.Math.max.code 2 (some .int)) (by decide +kernel)
  have hc_min := hts (.code Lib.Math.min.name Lib.Math.min.code 2 (some .int)) (by decide +kernel)
  have hi_Math := hts (.initialized "java/lang/Math") (by decide +kernel)
  have hm132 := hts (.methodLink RX2 132 Lib.Math.max.name) (by decide +kernel)
  have hm137 := hts (.methodLink RX2 137 Lib.Math.min.name) (by decide +kernel)
  have hs_max := hts (.static Lib.Math.max.name) (by decide +kernel)
  have hs_min := hts (.static Lib.Math.min.name) (by decide +kernel)
  have hinX2 : ∀ w ∈ wsX20, w ∈ wsX2_letFieldFlow := by decide +kernel
  have hS0 := hS
  have hN64 := geo_hw hG0
  have hW9 := geo_w hG0
  obtain ⟨-, -, hh2, hh8, hw2, hw8⟩ := id hG0
  refine lv_aload_n hx hb dX2_letFieldFlow_0 rfl (lv_at hl 0 rfl) ?_
  refine lv_iload_n hx hb dX2_letFieldFlow_1 rfl (lv_at hl 1 rfl) ?_
  refine lv_iload_n hx hb dX2_letFieldFlow_2 rfl (lv_at hl 2 rfl) ?_
  refine zI_V (pre := ([] : va_W)) (wc := sW cI a S) (post := ([] : va_W)) (w1 := sW cI a S) ⟨hx, hb, hml, hown, hts⟩ (c_X2_cellOf l dC dI cI a S t f) (cwV 2 hts gX2_letFieldFlow_X2_cellOf rfl rfl rfl (by decide +kernel) ⟨Nat.le_of_ble_eq_true rfl, Nat.le_of_ble_eq_true rfl⟩) (by simp only [List.append_assoc, List.append_nil, List.nil_append]) hK hN (ci := 2) (q0 := 0) rfl rfl rfl hP hD hS hA rfl hl.1 rfl (Nat.le_of_ble_eq_true rfl) dX2_letFieldFlow_3 ⟨Nat.zero_le _, Nat.zero_le _⟩ (fun H locs hP hD hS => ?_)
  have hP : va_P (dC, dI) vwCl (sW cI a S) H := by simpa only [List.append_assoc, List.append_nil, List.nil_append] using hP
  have hD : va_D A (sW cI a S) := by simpa only [List.append_assoc, List.append_nil, List.nil_append] using hD
  refine lv_istore_n (lv' := [(3, .int (sl_at S t f)), (0, .ref (a 0)), (1, .int t), (2, .int f)]) hx hb dX2_letFieldFlow_6 rfl hl (by decide) rfl (fun ls hl => ?_)
  refine lv_aload_n hx hb dX2_letFieldFlow_7 rfl (lv_at hl 1 rfl) ?_
  refine va_get (D := (dC, dI)) (ci := 2) (v := .ref (a 2)) (C := RX2) (T := TX2) (N := 18) hx hb hts hinX2 hown hK hP 0 rfl rfl 6 (by decide) hf15 (fun _ h9 => h9) rfl dX2_letFieldFlow_8 ?_
  refine lv_iload_n hx hb dX2_letFieldFlow_11 rfl (lv_at hl 0 rfl) ?_
  refine va_iald (cA := cI) (n := 64) (f := S 2) hx hb hK hP 2 0 rfl rfl (geo_in hG0 hH) dX2_letFieldFlow_12 ?_
  refine lv_aload_n hx hb dX2_letFieldFlow_13 rfl (lv_at hl 1 rfl) ?_
  refine va_get (D := (dC, dI)) (ci := 2) (v := .ref (a 5)) (C := RX2) (T := TX2) (N := 18) hx hb hts hinX2 hown hK hP 0 rfl rfl 9 (by decide) hf24 (fun _ h9 => h9) rfl dX2_letFieldFlow_14 ?_
  refine lv_iload_n hx hb dX2_letFieldFlow_17 rfl (lv_at hl 0 rfl) ?_
  refine va_iald (cA := cI) (n := 64) (f := S 5) hx hb hK hP 5 0 rfl rfl (geo_in hG0 hH) dX2_letFieldFlow_18 ?_
  refine lv_isub hx hb dX2_letFieldFlow_19 ?_
  refine lv_iconst (v := 0) hx hb dX2_letFieldFlow_20 (by decide) ?_
  refine va_mmax hx hb (hml.trans hl.1.symm) hown hm132 hs_max hi_Math hc_max (Nat.le_of_ble_eq_true rfl) (Nat.le_of_ble_eq_true rfl) (Nat.zero_le _) (Nat.zero_le _) dX2_letFieldFlow_21 ?_
  refine lv_bipush (v := 40) hx hb dX2_letFieldFlow_24 (by decide) ?_
  refine va_mmin hx hb (hml.trans hl.1.symm) hown hm137 hs_min hi_Math hc_min (Nat.le_of_ble_eq_true rfl) (Nat.le_of_ble_eq_true rfl) (Nat.zero_le _) (Nat.zero_le _) dX2_letFieldFlow_26 ?_
  refine lv_istore (lv' := [(4, .int (zmin (zmax ((S 2 (sl_at S t f).toNatClampNeg) - (S 5 (sl_at S t f).toNatClampNeg)) 0) 40)), (3, .int (sl_at S t f)), (0, .ref (a 0)), (1, .int t), (2, .int f)]) hx hb dX2_letFieldFlow_29 hl (by decide) rfl (fun ls hl => ?_)
  refine lv_aload_n hx hb dX2_letFieldFlow_31 rfl (lv_at hl 2 rfl) ?_
  refine va_get (D := (dC, dI)) (ci := 2) (v := .ref (a 12)) (C := RX2) (T := TX2) (N := 18) hx hb hts hinX2 hown hK hP 0 rfl rfl 16 (by decide) hf45 (fun _ h9 => h9) rfl dX2_letFieldFlow_32 ?_
  refine lv_iload_n hx hb dX2_letFieldFlow_35 rfl (lv_at hl 1 rfl) ?_
  refine lv_iload hx hb dX2_letFieldFlow_36 (lv_at hl 0 rfl) ?_
  obtain ⟨S1, eS1⟩ : ∃ z : sS, z = s_put S 12 ((sl_at S t f).toNatClampNeg) (zmin (zmax ((S 2 (sl_at S t f).toNatClampNeg) - (S 5 (sl_at S t f).toNatClampNeg)) 0) 40) := ⟨_, rfl⟩
  refine va_iast (cA := cI) (n := 64) (f := S 12) hx hb hK hP hD hS 12 0 rfl rfl (geo_in hG0 hH) dX2_letFieldFlow_38 (fun H locs hP hD hS => ?_)
  have hP : va_P (dC, dI) vwCl (sW cI a S1) H := by rw [eS1]; exact hP
  have hD : va_D A (sW cI a S1) := by rw [eS1]; exact hD
  have hGS1 : geo h w S1 := by rw [eS1]; exact geo_put hG0 (Or.inl (by decide)) _
  refine lv_aload_n hx hb dX2_letFieldFlow_39 rfl (lv_at hl 2 rfl) ?_
  refine va_get (D := (dC, dI)) (ci := 2) (v := .ref (a 2)) (C := RX2) (T := TX2) (N := 18) hx hb hts hinX2 hown hK hP 0 rfl rfl 6 (by decide) hf15 (fun _ h9 => h9) rfl dX2_letFieldFlow_40 ?_
  refine lv_iload_n hx hb dX2_letFieldFlow_43 rfl (lv_at hl 1 rfl) ?_
  refine lv_dup2_11 hx hb dX2_letFieldFlow_44 rfl rfl ?_
  refine va_iald (cA := cI) (n := 64) (f := S1 2) hx hb hK hP 2 0 rfl rfl (geo_in hG0 hH) dX2_letFieldFlow_45 ?_
  refine lv_iload hx hb dX2_letFieldFlow_46 (lv_at hl 0 rfl) ?_
  refine lv_isub hx hb dX2_letFieldFlow_48 ?_
  obtain ⟨S2, eS2⟩ : ∃ z : sS, z = s_put S1 2 ((sl_at S t f).toNatClampNeg) ((S1 2 (sl_at S t f).toNatClampNeg) - (zmin (zmax ((S 2 (sl_at S t f).toNatClampNeg) - (S 5 (sl_at S t f).toNatClampNeg)) 0) 40)) := ⟨_, rfl⟩
  refine va_iast (cA := cI) (n := 64) (f := S1 2) hx hb hK hP hD hS 2 0 rfl rfl (geo_in hG0 hH) dX2_letFieldFlow_49 (fun H locs hP hD hS => ?_)
  have hP : va_P (dC, dI) vwCl (sW cI a S2) H := by rw [eS2]; exact hP
  have hD : va_D A (sW cI a S2) := by rw [eS2]; exact hD
  have hGS2 : geo h w S2 := by rw [eS2]; exact geo_put hGS1 (Or.inl (by decide)) _
  refine lv_aload_n hx hb dX2_letFieldFlow_50 rfl (lv_at hl 2 rfl) ?_
  refine lv_iload_n hx hb dX2_letFieldFlow_51 rfl (lv_at hl 3 rfl) ?_
  refine lv_iconst (v := 1) hx hb dX2_letFieldFlow_52 (by decide) ?_
  refine lv_iadd hx hb dX2_letFieldFlow_53 ?_
  refine lv_iload_n hx hb dX2_letFieldFlow_54 rfl (lv_at hl 4 rfl) ?_
  refine lv_aload_n hx hb dX2_letFieldFlow_55 rfl (lv_at hl 2 rfl) ?_
  refine va_get (D := (dC, dI)) (ci := 2) (v := .ref (a 6)) (C := RX2) (T := TX2) (N := 18) hx hb hts hinX2 hown hK hP 0 rfl rfl 10 (by decide) hf27 (fun _ h9 => h9) rfl dX2_letFieldFlow_56 ?_
  refine lv_iload_n hx hb dX2_letFieldFlow_59 rfl (lv_at hl 1 rfl) ?_
  refine va_iald (cA := cI) (n := 64) (f := S2 6) hx hb hK hP 6 0 rfl rfl (geo_in hG0 hH) dX2_letFieldFlow_60 ?_
  refine lv_iadd hx hb dX2_letFieldFlow_61 ?_
  refine lv_iload hx hb dX2_letFieldFlow_62 (lv_at hl 0 rfl) ?_
  obtain ⟨S3, eS3⟩ : ∃ z : sS, z = sl_bring S2 (t + 1) (f + (S2 6 (sl_at S t f).toNatClampNeg)) (zmin (zmax ((S 2 (sl_at S t f).toNatClampNeg) - (S 5 (sl_at S t f).toNatClampNeg)) 0) 40) := ⟨_, rfl⟩
  refine zV_V (pre := ([] : va_W)) (wc := sW cI a S2) (post := ([] : va_W)) (w1 := sW cI a S3) ⟨hx, hb, hml, hown, hts⟩ (by rw [eS3]; exact c_X2_bringWater l dC dI cI a h w S2 (t + 1) (f + (S2 6 (sl_at S t f).toNatClampNeg)) (zmin (zmax ((S 2 (sl_at S t f).toNatClampNeg) - (S 5 (sl_at S t f).toNatClampNeg)) 0) 40) hGS2) (cwV 3 hts gX2_letFieldFlow_X2_bringWater rfl rfl rfl (by decide +kernel) ⟨Nat.le_of_ble_eq_true rfl, Nat.le_of_ble_eq_true rfl⟩) (by simp only [List.append_assoc, List.append_nil, List.nil_append]) hK hN (ci := 2) (q0 := 0) rfl rfl rfl hP hD hS hA rfl hl.1 rfl (Nat.le_of_ble_eq_true rfl) dX2_letFieldFlow_64 ⟨Nat.zero_le _, Nat.zero_le _⟩ (fun H locs hP hD hS => ?_)
  have hP : va_P (dC, dI) vwCl (sW cI a S3) H := by simpa only [List.append_assoc, List.append_nil, List.nil_append] using hP
  have hD : va_D A (sW cI a S3) := by simpa only [List.append_assoc, List.append_nil, List.nil_append] using hD
  have hGS3 : geo h w S3 := by rw [eS3]; exact geo_sam hGS2 (sam_bring S2 (t + 1) (f + (S2 6 (sl_at S t f).toNatClampNeg)) (zmin (zmax ((S 2 (sl_at S t f).toNatClampNeg) - (S 5 (sl_at S t f).toNatClampNeg)) 0) 40))
  refine lv_aload_n hx hb dX2_letFieldFlow_67 rfl (lv_at hl 2 rfl) ?_
  refine va_get (D := (dC, dI)) (ci := 2) (v := .ref (a 2)) (C := RX2) (T := TX2) (N := 18) hx hb hts hinX2 hown hK hP 0 rfl rfl 6 (by decide) hf15 (fun _ h9 => h9) rfl dX2_letFieldFlow_68 ?_
  refine lv_iload_n hx hb dX2_letFieldFlow_71 rfl (lv_at hl 1 rfl) ?_
  refine va_iald (cA := cI) (n := 64) (f := S3 2) hx hb hK hP 2 0 rfl rfl (geo_in hG0 hH) dX2_letFieldFlow_72 ?_
  refine lv_aload_n hx hb dX2_letFieldFlow_73 rfl (lv_at hl 2 rfl) ?_
  refine va_get (D := (dC, dI)) (ci := 2) (v := .ref (a 3)) (C := RX2) (T := TX2) (N := 18) hx hb hts hinX2 hown hK hP 0 rfl rfl 7 (by decide) hf18 (fun _ h9 => h9) rfl dX2_letFieldFlow_74 ?_
  refine lv_iload_n hx hb dX2_letFieldFlow_77 rfl (lv_at hl 1 rfl) ?_
  refine va_iald (cA := cI) (n := 64) (f := S3 3) hx hb hK hP 3 0 rfl rfl (geo_in hG0 hH) dX2_letFieldFlow_78 ?_
  refine lv_isub hx hb dX2_letFieldFlow_79 ?_
  refine lv_iconst (v := 0) hx hb dX2_letFieldFlow_80 (by decide) ?_
  refine va_mmax hx hb (hml.trans hl.1.symm) hown hm132 hs_max hi_Math hc_max (Nat.le_of_ble_eq_true rfl) (Nat.le_of_ble_eq_true rfl) (Nat.zero_le _) (Nat.zero_le _) dX2_letFieldFlow_81 ?_
  refine lv_istore (lv' := [(5, .int (zmax ((S3 2 (sl_at S t f).toNatClampNeg) - (S3 3 (sl_at S t f).toNatClampNeg)) 0)), (4, .int (zmin (zmax ((S 2 (sl_at S t f).toNatClampNeg) - (S 5 (sl_at S t f).toNatClampNeg)) 0) 40)), (3, .int (sl_at S t f)), (0, .ref (a 0)), (1, .int t), (2, .int f)]) hx hb dX2_letFieldFlow_84 hl (by decide) rfl (fun ls hl => ?_)
  refine lv_aload_n hx hb dX2_letFieldFlow_86 rfl (lv_at hl 3 rfl) ?_
  refine va_get (D := (dC, dI)) (ci := 2) (v := .ref (a 13)) (C := RX2) (T := TX2) (N := 18) hx hb hts hinX2 hown hK hP 0 rfl rfl 17 (by decide) hf48 (fun _ h9 => h9) rfl dX2_letFieldFlow_87 ?_
  refine lv_iload_n hx hb dX2_letFieldFlow_90 rfl (lv_at hl 2 rfl) ?_
  refine lv_iload hx hb dX2_letFieldFlow_91 (lv_at hl 0 rfl) ?_
  obtain ⟨S4, eS4⟩ : ∃ z : sS, z = s_put S3 13 ((sl_at S t f).toNatClampNeg) (zmax ((S3 2 (sl_at S t f).toNatClampNeg) - (S3 3 (sl_at S t f).toNatClampNeg)) 0) := ⟨_, rfl⟩
  refine va_iast (cA := cI) (n := 64) (f := S3 13) hx hb hK hP hD hS 13 0 rfl rfl (geo_in hG0 hH) dX2_letFieldFlow_93 (fun H locs hP hD hS => ?_)
  have hP : va_P (dC, dI) vwCl (sW cI a S4) H := by rw [eS4]; exact hP
  have hD : va_D A (sW cI a S4) := by rw [eS4]; exact hD
  have hGS4 : geo h w S4 := by rw [eS4]; exact geo_put hGS3 (Or.inl (by decide)) _
  refine lv_aload_n hx hb dX2_letFieldFlow_94 rfl (lv_at hl 3 rfl) ?_
  refine va_get (D := (dC, dI)) (ci := 2) (v := .ref (a 2)) (C := RX2) (T := TX2) (N := 18) hx hb hts hinX2 hown hK hP 0 rfl rfl 6 (by decide) hf15 (fun _ h9 => h9) rfl dX2_letFieldFlow_95 ?_
  refine lv_iload_n hx hb dX2_letFieldFlow_98 rfl (lv_at hl 2 rfl) ?_
  refine lv_dup2_11 hx hb dX2_letFieldFlow_99 rfl rfl ?_
  refine va_iald (cA := cI) (n := 64) (f := S4 2) hx hb hK hP 2 0 rfl rfl (geo_in hG0 hH) dX2_letFieldFlow_100 ?_
  refine lv_iload hx hb dX2_letFieldFlow_101 (lv_at hl 0 rfl) ?_
  refine lv_isub hx hb dX2_letFieldFlow_103 ?_
  obtain ⟨S5, eS5⟩ : ∃ z : sS, z = s_put S4 2 ((sl_at S t f).toNatClampNeg) ((S4 2 (sl_at S t f).toNatClampNeg) - (zmax ((S3 2 (sl_at S t f).toNatClampNeg) - (S3 3 (sl_at S t f).toNatClampNeg)) 0)) := ⟨_, rfl⟩
  refine va_iast (cA := cI) (n := 64) (f := S4 2) hx hb hK hP hD hS 2 0 rfl rfl (geo_in hG0 hH) dX2_letFieldFlow_104 (fun H locs hP hD hS => ?_)
  have hP : va_P (dC, dI) vwCl (sW cI a S5) H := by rw [eS5]; exact hP
  have hD : va_D A (sW cI a S5) := by rw [eS5]; exact hD
  have hGS5 : geo h w S5 := by rw [eS5]; exact geo_put hGS4 (Or.inl (by decide)) _
  refine lv_aload_n hx hb dX2_letFieldFlow_105 rfl (lv_at hl 3 rfl) ?_
  refine lv_iload_n hx hb dX2_letFieldFlow_106 rfl (lv_at hl 4 rfl) ?_
  refine lv_iload_n hx hb dX2_letFieldFlow_107 rfl (lv_at hl 5 rfl) ?_
  refine lv_iconst (v := 1) hx hb dX2_letFieldFlow_108 (by decide) ?_
  refine lv_isub hx hb dX2_letFieldFlow_109 ?_
  refine lv_iload hx hb dX2_letFieldFlow_110 (lv_at hl 0 rfl) ?_
  refine lv_iconst (v := 2) hx hb dX2_letFieldFlow_112 (by decide) ?_
  refine lv_idiv hx hb dX2_letFieldFlow_113 (by decide) ?_
  obtain ⟨S6, eS6⟩ : ∃ z : sS, z = sl_bring S5 t (f - 1) ((zmax ((S3 2 (sl_at S t f).toNatClampNeg) - (S3 3 (sl_at S t f).toNatClampNeg)) 0) / 2) := ⟨_, rfl⟩
  refine zV_V (pre := ([] : va_W)) (wc := sW cI a S5) (post := ([] : va_W)) (w1 := sW cI a S6) ⟨hx, hb, hml, hown, hts⟩ (by rw [eS6]; exact c_X2_bringWater l dC dI cI a h w S5 t (f - 1) ((zmax ((S3 2 (sl_at S t f).toNatClampNeg) - (S3 3 (sl_at S t f).toNatClampNeg)) 0) / 2) hGS5) (cwV 3 hts gX2_letFieldFlow_X2_bringWater rfl rfl rfl (by decide +kernel) ⟨Nat.le_of_ble_eq_true rfl, Nat.le_of_ble_eq_true rfl⟩) (by simp only [List.append_assoc, List.append_nil, List.nil_append]) hK hN (ci := 2) (q0 := 0) rfl rfl rfl hP hD hS hA rfl hl.1 rfl (Nat.le_of_ble_eq_true rfl) dX2_letFieldFlow_114 ⟨Nat.zero_le _, Nat.zero_le _⟩ (fun H locs hP hD hS => ?_)
  have hP : va_P (dC, dI) vwCl (sW cI a S6) H := by simpa only [List.append_assoc, List.append_nil, List.nil_append] using hP
  have hD : va_D A (sW cI a S6) := by simpa only [List.append_assoc, List.append_nil, List.nil_append] using hD
  have hGS6 : geo h w S6 := by rw [eS6]; exact geo_sam hGS5 (sam_bring S5 t (f - 1) ((zmax ((S3 2 (sl_at S t f).toNatClampNeg) - (S3 3 (sl_at S t f).toNatClampNeg)) 0) / 2))
  refine lv_aload_n hx hb dX2_letFieldFlow_117 rfl (lv_at hl 3 rfl) ?_
  refine lv_iload_n hx hb dX2_letFieldFlow_118 rfl (lv_at hl 4 rfl) ?_
  refine lv_iload_n hx hb dX2_letFieldFlow_119 rfl (lv_at hl 5 rfl) ?_
  refine lv_iconst (v := 1) hx hb dX2_letFieldFlow_120 (by decide) ?_
  refine lv_iadd hx hb dX2_letFieldFlow_121 ?_
  refine lv_iload hx hb dX2_letFieldFlow_122 (lv_at hl 0 rfl) ?_
  refine lv_iload hx hb dX2_letFieldFlow_124 (lv_at hl 0 rfl) ?_
  refine lv_iconst (v := 2) hx hb dX2_letFieldFlow_126 (by decide) ?_
  refine lv_idiv hx hb dX2_letFieldFlow_127 (by decide) ?_
  refine lv_isub hx hb dX2_letFieldFlow_128 ?_
  obtain ⟨S7, eS7⟩ : ∃ z : sS, z = sl_bring S6 t (f + 1) ((zmax ((S3 2 (sl_at S t f).toNatClampNeg) - (S3 3 (sl_at S t f).toNatClampNeg)) 0) - ((zmax ((S3 2 (sl_at S t f).toNatClampNeg) - (S3 3 (sl_at S t f).toNatClampNeg)) 0) / 2)) := ⟨_, rfl⟩
  refine zV_V (pre := ([] : va_W)) (wc := sW cI a S6) (post := ([] : va_W)) (w1 := sW cI a S7) ⟨hx, hb, hml, hown, hts⟩ (by rw [eS7]; exact c_X2_bringWater l dC dI cI a h w S6 t (f + 1) ((zmax ((S3 2 (sl_at S t f).toNatClampNeg) - (S3 3 (sl_at S t f).toNatClampNeg)) 0) - ((zmax ((S3 2 (sl_at S t f).toNatClampNeg) - (S3 3 (sl_at S t f).toNatClampNeg)) 0) / 2)) hGS6) (cwV 3 hts gX2_letFieldFlow_X2_bringWater rfl rfl rfl (by decide +kernel) ⟨Nat.le_of_ble_eq_true rfl, Nat.le_of_ble_eq_true rfl⟩) (by simp only [List.append_assoc, List.append_nil, List.nil_append]) hK hN (ci := 2) (q0 := 0) rfl rfl rfl hP hD hS hA rfl hl.1 rfl (Nat.le_of_ble_eq_true rfl) dX2_letFieldFlow_129 ⟨Nat.zero_le _, Nat.zero_le _⟩ (fun H locs hP hD hS => ?_)
  have hP : va_P (dC, dI) vwCl (sW cI a S7) H := by simpa only [List.append_assoc, List.append_nil, List.nil_append] using hP
  have hD : va_D A (sW cI a S7) := by simpa only [List.append_assoc, List.append_nil, List.nil_append] using hD
  have hGS7 : geo h w S7 := by rw [eS7]; exact geo_sam hGS6 (sam_bring S6 t (f + 1) ((zmax ((S3 2 (sl_at S t f).toNatClampNeg) - (S3 3 (sl_at S t f).toNatClampNeg)) 0) - ((zmax ((S3 2 (sl_at S t f).toNatClampNeg) - (S3 3 (sl_at S t f).toNatClampNeg)) 0) / 2)))
  have hZ : S7 = sl_flow S t f := (by rw [eS7, eS6, eS5, eS4, eS3, eS2, eS1]; first | rfl | (simp only [sl_flow, sl_flowA, sl_flowB, sl_flow1, sl_flow2, sl_out, sl_over]; done))
  rw [hZ] at hP hD
  exact zV_ret hx hb hr hlocks hP hD hS dX2_letFieldFlow_132
end
section
set_option maxHeartbeats 4000000 in
set_option maxRecDepth 100000 in
theorem c_X2_sumOf_7 (l : Launch) (dC : Nat → ClassId) (dI : Nat → Nat → Nat) (cI : ClassId) (a : Nat → Nat) (h w : Nat) (S : sS) (hG0 : geo h w S) : zI l yX2_sumOf wsX2_sumOf { frames := 1, cells := 0, slots := 0, locals := 20 } (dC, dI) cI [.ref (a 0), .ref (a 7)] (sW cI a S) (sW cI a S) (sl_sum h w S 7) := by
  refine zI_of (cc := cX2_sumOf) (maxL := 4) (ret := (some .int)) (by decide) rfl (Nat.le_of_ble_eq_true rfl) ?_
  intro p e s m below meth c A ls C0 hl
  obtain ⟨hx, hb, hr, hml, hown, hts, hlocks, hK, hN, hA, hP, hD, hS⟩ := C0
  have hown : s.vm.findClass RX2 = some m.cls := hown
  have hl : lv_has ls 4 [(0, .ref (a 0)), (1, .ref (a 7))] := hl
  have hS0 := hS
  have hN64 := geo_hw hG0
  have hW9 := geo_w hG0
  obtain ⟨-, -, hh2, hh8, hw2, hw8⟩ := id hG0
  refine lv_iconst (v := 0) hx hb dX2_sumOf_0 (by decide) ?_
  refine lv_istore_n (lv' := [(2, .int 0), (0, .ref (a 0)), (1, .ref (a 7))]) hx hb dX2_sumOf_1 rfl hl (by decide) rfl (fun ls hl => ?_)
  refine lv_iconst (v := 0) hx hb dX2_sumOf_2 (by decide) ?_
  refine lv_istore_n (lv' := [(3, .int 0), (2, .int 0), (0, .ref (a 0)), (1, .ref (a 7))]) hx hb dX2_sumOf_3 rfl hl (by decide) rfl (fun ls hl => ?_)
  have lp4 : ∀ (n4 i4 : Nat) (u4_2 : Int32) (H : Heap) (locs : List Loc) (ls : Array Slot), i4 + n4 = h * w → u4_2 = itr (fun i x => x + S 7 i.toNatClampNeg) i4 0 → va_P (dC, dI) vwCl (sW cI a S) H → va_D A (sW cI a S) → va_S A s.heap H locs → lv_has ls 4 [(0, .ref (a 0)), (1, .ref (a 7)), (2, .int u4_2), (3, .int (nI i4))] → W p l e ({ frames := 1, cells := 0, slots := 0, locals := 20 } : Room) s m [.ref (a 0), .ref (a 7)].toArray below meth c H locs 0 0 (zIq (dC, dI) A (sW cI a S) (sl_sum h w S 7) below [.ref (a 0), .ref (a 7)].toArray s 0 0) (F0 m 4 ls []) := by
    intro n4
    induction n4 with
    | zero =>
      intro i4 u4_2 H locs ls hi4 eu4_2 hP hD hS hl
      have hi4 : i4 = h * w := by omega
      rw [hi4] at eu4_2
      refine lv_iload_n hx hb dX2_sumOf_4 rfl (lv_at hl 3 rfl) ?_
      refine lv_aload_n hx hb dX2_sumOf_5 rfl (lv_at hl 0 rfl) ?_
      refine zI_V (pre := ([] : va_W)) (wc := sW cI a S) (post := ([] : va_W)) (w1 := sW cI a S) ⟨hx, hb, hml, hown, hts⟩ (c_X2_cells l dC dI cI a S) (cwV 0 hts gX2_sumOf_X2_cells rfl rfl rfl (by decide +kernel) ⟨Nat.le_of_ble_eq_true rfl, Nat.le_of_ble_eq_true rfl⟩) (by simp only [List.append_assoc, List.append_nil, List.nil_append]) hK hN (ci := 2) (q0 := 0) rfl rfl rfl hP hD hS hA rfl hl.1 rfl (Nat.le_of_ble_eq_true rfl) dX2_sumOf_6 ⟨Nat.zero_le _, Nat.zero_le _⟩ (fun H locs hP hD hS => ?_)
      have hP : va_P (dC, dI) vwCl (sW cI a S) H := by simpa only [List.append_assoc, List.append_nil, List.nil_append] using hP
      have hD : va_D A (sW cI a S) := by simpa only [List.append_assoc, List.append_nil, List.nil_append] using hD
      refine lv_icmp_ge (tgt := 24) hx hb dX2_sumOf_9 (by decide) (fun c_1 => ?_) (fun c_1 => ?_)
      · refine lv_iload_n hx hb dX2_sumOf_24 rfl (lv_at hl 2 rfl) ?_
        exact zI_ret hx hb hr hlocks hP hD hS rfl (by (try rw [eu4_2]); first | rfl | (simp only [sl_sum, if_pos c_1]; done)) dX2_sumOf_25
      · exact absurd (by rw [show _ = nI (h * w) from (geo_cells hG0)]; exact nI_le (by omega) (by omega)) c_1
    | succ n4 ih4 =>
      intro i4 u4_2 H locs ls hi4 eu4_2 hP hD hS hl
      refine lv_iload_n hx hb dX2_sumOf_4 rfl (lv_at hl 3 rfl) ?_
      refine lv_aload_n hx hb dX2_sumOf_5 rfl (lv_at hl 0 rfl) ?_
      refine zI_V (pre := ([] : va_W)) (wc := sW cI a S) (post := ([] : va_W)) (w1 := sW cI a S) ⟨hx, hb, hml, hown, hts⟩ (c_X2_cells l dC dI cI a S) (cwV 0 hts gX2_sumOf_X2_cells rfl rfl rfl (by decide +kernel) ⟨Nat.le_of_ble_eq_true rfl, Nat.le_of_ble_eq_true rfl⟩) (by simp only [List.append_assoc, List.append_nil, List.nil_append]) hK hN (ci := 2) (q0 := 0) rfl rfl rfl hP hD hS hA rfl hl.1 rfl (Nat.le_of_ble_eq_true rfl) dX2_sumOf_6 ⟨Nat.zero_le _, Nat.zero_le _⟩ (fun H locs hP hD hS => ?_)
      have hP : va_P (dC, dI) vwCl (sW cI a S) H := by simpa only [List.append_assoc, List.append_nil, List.nil_append] using hP
      have hD : va_D A (sW cI a S) := by simpa only [List.append_assoc, List.append_nil, List.nil_append] using hD
      refine lv_icmp_ge (tgt := 24) hx hb dX2_sumOf_9 (by decide) (fun c_2 => ?_) (fun c_2 => ?_)
      · exact absurd c_2 (by rw [show _ = nI (h * w) from (geo_cells hG0)]; exact nI_ge (by omega) (by omega))
      · refine lv_iload_n hx hb dX2_sumOf_12 rfl (lv_at hl 2 rfl) ?_
        refine lv_aload_n hx hb dX2_sumOf_13 rfl (lv_at hl 1 rfl) ?_
        refine lv_iload_n hx hb dX2_sumOf_14 rfl (lv_at hl 3 rfl) ?_
        refine va_iald (cA := cI) (n := 64) (f := S 7) hx hb hK hP 7 0 rfl rfl (vp_in_nI (by omega) (by decide)) dX2_sumOf_15 ?_
        refine lv_iadd hx hb dX2_sumOf_16 ?_
        refine lv_istore_n (lv' := [(2, .int (u4_2 + (S 7 (nI i4).toNatClampNeg))), (0, .ref (a 0)), (1, .ref (a 7)), (3, .int (nI i4))]) hx hb dX2_sumOf_17 rfl hl (by decide) rfl (fun ls hl => ?_)
        refine lv_iinc (v := nI (i4 + 1)) (lv' := [(3, .int (nI (i4 + 1))), (2, .int (u4_2 + (S 7 (nI i4).toNatClampNeg))), (0, .ref (a 0)), (1, .ref (a 7))]) hx hb dX2_sumOf_18 hl (k := 3) rfl (show nI i4 + Int32.ofInt 1 = nI (i4 + 1) from nI_1 i4) (by decide) rfl (fun ls hl => ?_)
        refine lv_goto (tgt := 4) hx hb dX2_sumOf_21 (by decide) ?_
        exact ih4 (i4 + 1) (u4_2 + (S 7 (nI i4).toNatClampNeg)) _ _ ls (by omega) (by (try rw [eu4_2]); rfl) hP hD hS (lv_sub hl [2, 3, 1, 0] rfl)
  exact lp4 (h * w) 0 0 _ _ ls (by omega) rfl hP hD hS (lv_sub hl [2, 3, 1, 0] rfl)
set_option maxHeartbeats 4000000 in
set_option maxRecDepth 100000 in
theorem c_X2_sumOf_9 (l : Launch) (dC : Nat → ClassId) (dI : Nat → Nat → Nat) (cI : ClassId) (a : Nat → Nat) (h w : Nat) (S : sS) (hG0 : geo h w S) : zI l yX2_sumOf wsX2_sumOf { frames := 1, cells := 0, slots := 0, locals := 20 } (dC, dI) cI [.ref (a 0), .ref (a 9)] (sW cI a S) (sW cI a S) (sl_sum h w S 9) := by
  refine zI_of (cc := cX2_sumOf) (maxL := 4) (ret := (some .int)) (by decide) rfl (Nat.le_of_ble_eq_true rfl) ?_
  intro p e s m below meth c A ls C0 hl
  obtain ⟨hx, hb, hr, hml, hown, hts, hlocks, hK, hN, hA, hP, hD, hS⟩ := C0
  have hown : s.vm.findClass RX2 = some m.cls := hown
  have hl : lv_has ls 4 [(0, .ref (a 0)), (1, .ref (a 9))] := hl
  have hS0 := hS
  have hN64 := geo_hw hG0
  have hW9 := geo_w hG0
  obtain ⟨-, -, hh2, hh8, hw2, hw8⟩ := id hG0
  refine lv_iconst (v := 0) hx hb dX2_sumOf_0 (by decide) ?_
  refine lv_istore_n (lv' := [(2, .int 0), (0, .ref (a 0)), (1, .ref (a 9))]) hx hb dX2_sumOf_1 rfl hl (by decide) rfl (fun ls hl => ?_)
  refine lv_iconst (v := 0) hx hb dX2_sumOf_2 (by decide) ?_
  refine lv_istore_n (lv' := [(3, .int 0), (2, .int 0), (0, .ref (a 0)), (1, .ref (a 9))]) hx hb dX2_sumOf_3 rfl hl (by decide) rfl (fun ls hl => ?_)
  have lp4 : ∀ (n4 i4 : Nat) (u4_2 : Int32) (H : Heap) (locs : List Loc) (ls : Array Slot), i4 + n4 = h * w → u4_2 = itr (fun i x => x + S 9 i.toNatClampNeg) i4 0 → va_P (dC, dI) vwCl (sW cI a S) H → va_D A (sW cI a S) → va_S A s.heap H locs → lv_has ls 4 [(0, .ref (a 0)), (1, .ref (a 9)), (2, .int u4_2), (3, .int (nI i4))] → W p l e ({ frames := 1, cells := 0, slots := 0, locals := 20 } : Room) s m [.ref (a 0), .ref (a 9)].toArray below meth c H locs 0 0 (zIq (dC, dI) A (sW cI a S) (sl_sum h w S 9) below [.ref (a 0), .ref (a 9)].toArray s 0 0) (F0 m 4 ls []) := by
    intro n4
    induction n4 with
    | zero =>
      intro i4 u4_2 H locs ls hi4 eu4_2 hP hD hS hl
      have hi4 : i4 = h * w := by omega
      rw [hi4] at eu4_2
      refine lv_iload_n hx hb dX2_sumOf_4 rfl (lv_at hl 3 rfl) ?_
      refine lv_aload_n hx hb dX2_sumOf_5 rfl (lv_at hl 0 rfl) ?_
      refine zI_V (pre := ([] : va_W)) (wc := sW cI a S) (post := ([] : va_W)) (w1 := sW cI a S) ⟨hx, hb, hml, hown, hts⟩ (c_X2_cells l dC dI cI a S) (cwV 0 hts gX2_sumOf_X2_cells rfl rfl rfl (by decide +kernel) ⟨Nat.le_of_ble_eq_true rfl, Nat.le_of_ble_eq_true rfl⟩) (by simp only [List.append_assoc, List.append_nil, List.nil_append]) hK hN (ci := 2) (q0 := 0) rfl rfl rfl hP hD hS hA rfl hl.1 rfl (Nat.le_of_ble_eq_true rfl) dX2_sumOf_6 ⟨Nat.zero_le _, Nat.zero_le _⟩ (fun H locs hP hD hS => ?_)
      have hP : va_P (dC, dI) vwCl (sW cI a S) H := by simpa only [List.append_assoc, List.append_nil, List.nil_append] using hP
      have hD : va_D A (sW cI a S) := by simpa only [List.append_assoc, List.append_nil, List.nil_append] using hD
      refine lv_icmp_ge (tgt := 24) hx hb dX2_sumOf_9 (by decide) (fun c_1 => ?_) (fun c_1 => ?_)
      · refine lv_iload_n hx hb dX2_sumOf_24 rfl (lv_at hl 2 rfl) ?_
        exact zI_ret hx hb hr hlocks hP hD hS rfl (by (try rw [eu4_2]); first | rfl | (simp only [sl_sum, if_pos c_1]; done)) dX2_sumOf_25
      · exact absurd (by rw [show _ = nI (h * w) from (geo_cells hG0)]; exact nI_le (by omega) (by omega)) c_1
    | succ n4 ih4 =>
      intro i4 u4_2 H locs ls hi4 eu4_2 hP hD hS hl
      refine lv_iload_n hx hb dX2_sumOf_4 rfl (lv_at hl 3 rfl) ?_
      refine lv_aload_n hx hb dX2_sumOf_5 rfl (lv_at hl 0 rfl) ?_
      refine zI_V (pre := ([] : va_W)) (wc := sW cI a S) (post := ([] : va_W)) (w1 := sW cI a S) ⟨hx, hb, hml, hown, hts⟩ (c_X2_cells l dC dI cI a S) (cwV 0 hts gX2_sumOf_X2_cells rfl rfl rfl (by decide +kernel) ⟨Nat.le_of_ble_eq_true rfl, Nat.le_of_ble_eq_true rfl⟩) (by simp only [List.append_assoc, List.append_nil, List.nil_append]) hK hN (ci := 2) (q0 := 0) rfl rfl rfl hP hD hS hA rfl hl.1 rfl (Nat.le_of_ble_eq_true rfl) dX2_sumOf_6 ⟨Nat.zero_le _, Nat.zero_le _⟩ (fun H locs hP hD hS => ?_)
      have hP : va_P (dC, dI) vwCl (sW cI a S) H := by simpa only [List.append_assoc, List.append_nil, List.nil_append] using hP
      have hD : va_D A (sW cI a S) := by simpa only [List.append_assoc, List.append_nil, List.nil_append] using hD
      refine lv_icmp_ge (tgt := 24) hx hb dX2_sumOf_9 (by decide) (fun c_2 => ?_) (fun c_2 => ?_)
      · exact absurd c_2 (by rw [show _ = nI (h * w) from (geo_cells hG0)]; exact nI_ge (by omega) (by omega))
      · refine lv_iload_n hx hb dX2_sumOf_12 rfl (lv_at hl 2 rfl) ?_
        refine lv_aload_n hx hb dX2_sumOf_13 rfl (lv_at hl 1 rfl) ?_
        refine lv_iload_n hx hb dX2_sumOf_14 rfl (lv_at hl 3 rfl) ?_
        refine va_iald (cA := cI) (n := 64) (f := S 9) hx hb hK hP 9 0 rfl rfl (vp_in_nI (by omega) (by decide)) dX2_sumOf_15 ?_
        refine lv_iadd hx hb dX2_sumOf_16 ?_
        refine lv_istore_n (lv' := [(2, .int (u4_2 + (S 9 (nI i4).toNatClampNeg))), (0, .ref (a 0)), (1, .ref (a 9)), (3, .int (nI i4))]) hx hb dX2_sumOf_17 rfl hl (by decide) rfl (fun ls hl => ?_)
        refine lv_iinc (v := nI (i4 + 1)) (lv' := [(3, .int (nI (i4 + 1))), (2, .int (u4_2 + (S 9 (nI i4).toNatClampNeg))), (0, .ref (a 0)), (1, .ref (a 9))]) hx hb dX2_sumOf_18 hl (k := 3) rfl (show nI i4 + Int32.ofInt 1 = nI (i4 + 1) from nI_1 i4) (by decide) rfl (fun ls hl => ?_)
        refine lv_goto (tgt := 4) hx hb dX2_sumOf_21 (by decide) ?_
        exact ih4 (i4 + 1) (u4_2 + (S 9 (nI i4).toNatClampNeg)) _ _ ls (by omega) (by (try rw [eu4_2]); rfl) hP hD hS (lv_sub hl [2, 3, 1, 0] rfl)
  exact lp4 (h * w) 0 0 _ _ ls (by omega) rfl hP hD hS (lv_sub hl [2, 3, 1, 0] rfl)
set_option maxHeartbeats 4000000 in
set_option maxRecDepth 100000 in
theorem c_X2_sumOf_2 (l : Launch) (dC : Nat → ClassId) (dI : Nat → Nat → Nat) (cI : ClassId) (a : Nat → Nat) (h w : Nat) (S : sS) (hG0 : geo h w S) : zI l yX2_sumOf wsX2_sumOf { frames := 1, cells := 0, slots := 0, locals := 20 } (dC, dI) cI [.ref (a 0), .ref (a 2)] (sW cI a S) (sW cI a S) (sl_sum h w S 2) := by
  refine zI_of (cc := cX2_sumOf) (maxL := 4) (ret := (some .int)) (by decide) rfl (Nat.le_of_ble_eq_true rfl) ?_
  intro p e s m below meth c A ls C0 hl
  obtain ⟨hx, hb, hr, hml, hown, hts, hlocks, hK, hN, hA, hP, hD, hS⟩ := C0
  have hown : s.vm.findClass RX2 = some m.cls := hown
  have hl : lv_has ls 4 [(0, .ref (a 0)), (1, .ref (a 2))] := hl
  have hS0 := hS
  have hN64 := geo_hw hG0
  have hW9 := geo_w hG0
  obtain ⟨-, -, hh2, hh8, hw2, hw8⟩ := id hG0
  refine lv_iconst (v := 0) hx hb dX2_sumOf_0 (by decide) ?_
  refine lv_istore_n (lv' := [(2, .int 0), (0, .ref (a 0)), (1, .ref (a 2))]) hx hb dX2_sumOf_1 rfl hl (by decide) rfl (fun ls hl => ?_)
  refine lv_iconst (v := 0) hx hb dX2_sumOf_2 (by decide) ?_
  refine lv_istore_n (lv' := [(3, .int 0), (2, .int 0), (0, .ref (a 0)), (1, .ref (a 2))]) hx hb dX2_sumOf_3 rfl hl (by decide) rfl (fun ls hl => ?_)
  have lp4 : ∀ (n4 i4 : Nat) (u4_2 : Int32) (H : Heap) (locs : List Loc) (ls : Array Slot), i4 + n4 = h * w → u4_2 = itr (fun i x => x + S 2 i.toNatClampNeg) i4 0 → va_P (dC, dI) vwCl (sW cI a S) H → va_D A (sW cI a S) → va_S A s.heap H locs → lv_has ls 4 [(0, .ref (a 0)), (1, .ref (a 2)), (2, .int u4_2), (3, .int (nI i4))] → W p l e ({ frames := 1, cells := 0, slots := 0, locals := 20 } : Room) s m [.ref (a 0), .ref (a 2)].toArray below meth c H locs 0 0 (zIq (dC, dI) A (sW cI a S) (sl_sum h w S 2) below [.ref (a 0), .ref (a 2)].toArray s 0 0) (F0 m 4 ls []) := by
    intro n4
    induction n4 with
    | zero =>
      intro i4 u4_2 H locs ls hi4 eu4_2 hP hD hS hl
      have hi4 : i4 = h * w := by omega
      rw [hi4] at eu4_2
      refine lv_iload_n hx hb dX2_sumOf_4 rfl (lv_at hl 3 rfl) ?_
      refine lv_aload_n hx hb dX2_sumOf_5 rfl (lv_at hl 0 rfl) ?_
      refine zI_V (pre := ([] : va_W)) (wc := sW cI a S) (post := ([] : va_W)) (w1 := sW cI a S) ⟨hx, hb, hml, hown, hts⟩ (c_X2_cells l dC dI cI a S) (cwV 0 hts gX2_sumOf_X2_cells rfl rfl rfl (by decide +kernel) ⟨Nat.le_of_ble_eq_true rfl, Nat.le_of_ble_eq_true rfl⟩) (by simp only [List.append_assoc, List.append_nil, List.nil_append]) hK hN (ci := 2) (q0 := 0) rfl rfl rfl hP hD hS hA rfl hl.1 rfl (Nat.le_of_ble_eq_true rfl) dX2_sumOf_6 ⟨Nat.zero_le _, Nat.zero_le _⟩ (fun H locs hP hD hS => ?_)
      have hP : va_P (dC, dI) vwCl (sW cI a S) H := by simpa only [List.append_assoc, List.append_nil, List.nil_append] using hP
      have hD : va_D A (sW cI a S) := by simpa only [List.append_assoc, List.append_nil, List.nil_append] using hD
      refine lv_icmp_ge (tgt := 24) hx hb dX2_sumOf_9 (by decide) (fun c_1 => ?_) (fun c_1 => ?_)
      · refine lv_iload_n hx hb dX2_sumOf_24 rfl (lv_at hl 2 rfl) ?_
        exact zI_ret hx hb hr hlocks hP hD hS rfl (by (try rw [eu4_2]); first | rfl | (simp only [sl_sum, if_pos c_1]; done)) dX2_sumOf_25
      · exact absurd (by rw [show _ = nI (h * w) from (geo_cells hG0)]; exact nI_le (by omega) (by omega)) c_1
    | succ n4 ih4 =>
      intro i4 u4_2 H locs ls hi4 eu4_2 hP hD hS hl
      refine lv_iload_n hx hb dX2_sumOf_4 rfl (lv_at hl 3 rfl) ?_
      refine lv_aload_n hx hb dX2_sumOf_5 rfl (lv_at hl 0 rfl) ?_
      refine zI_V (pre := ([] : va_W)) (wc := sW cI a S) (post := ([] : va_W)) (w1 := sW cI a S) ⟨hx, hb, hml, hown, hts⟩ (c_X2_cells l dC dI cI a S) (cwV 0 hts gX2_sumOf_X2_cells rfl rfl rfl (by decide +kernel) ⟨Nat.le_of_ble_eq_true rfl, Nat.le_of_ble_eq_true rfl⟩) (by simp only [List.append_assoc, List.append_nil, List.nil_append]) hK hN (ci := 2) (q0 := 0) rfl rfl rfl hP hD hS hA rfl hl.1 rfl (Nat.le_of_ble_eq_true rfl) dX2_sumOf_6 ⟨Nat.zero_le _, Nat.zero_le _⟩ (fun H locs hP hD hS => ?_)
      have hP : va_P (dC, dI) vwCl (sW cI a S) H := by simpa only [List.append_assoc, List.append_nil, List.nil_append] using hP
      have hD : va_D A (sW cI a S) := by simpa only [List.append_assoc, List.append_nil, List.nil_append] using hD
      refine lv_icmp_ge (tgt := 24) hx hb dX2_sumOf_9 (by decide) (fun c_2 => ?_) (fun c_2 => ?_)
      · exact absurd c_2 (by rw [show _ = nI (h * w) from (geo_cells hG0)]; exact nI_ge (by omega) (by omega))
      · refine lv_iload_n hx hb dX2_sumOf_12 rfl (lv_at hl 2 rfl) ?_
        refine lv_aload_n hx hb dX2_sumOf_13 rfl (lv_at hl 1 rfl) ?_
        refine lv_iload_n hx hb dX2_sumOf_14 rfl (lv_at hl 3 rfl) ?_
        refine va_iald (cA := cI) (n := 64) (f := S 2) hx hb hK hP 2 0 rfl rfl (vp_in_nI (by omega) (by decide)) dX2_sumOf_15 ?_
        refine lv_iadd hx hb dX2_sumOf_16 ?_
        refine lv_istore_n (lv' := [(2, .int (u4_2 + (S 2 (nI i4).toNatClampNeg))), (0, .ref (a 0)), (1, .ref (a 2)), (3, .int (nI i4))]) hx hb dX2_sumOf_17 rfl hl (by decide) rfl (fun ls hl => ?_)
        refine lv_iinc (v := nI (i4 + 1)) (lv' := [(3, .int (nI (i4 + 1))), (2, .int (u4_2 + (S 2 (nI i4).toNatClampNeg))), (0, .ref (a 0)), (1, .ref (a 2))]) hx hb dX2_sumOf_18 hl (k := 3) rfl (show nI i4 + Int32.ofInt 1 = nI (i4 + 1) from nI_1 i4) (by decide) rfl (fun ls hl => ?_)
        refine lv_goto (tgt := 4) hx hb dX2_sumOf_21 (by decide) ?_
        exact ih4 (i4 + 1) (u4_2 + (S 2 (nI i4).toNatClampNeg)) _ _ ls (by omega) (by (try rw [eu4_2]); rfl) hP hD hS (lv_sub hl [2, 3, 1, 0] rfl)
  exact lp4 (h * w) 0 0 _ _ ls (by omega) rfl hP hD hS (lv_sub hl [2, 3, 1, 0] rfl)
set_option maxHeartbeats 4000000 in
set_option maxRecDepth 100000 in
theorem c_X2_crops (l : Launch) (dC : Nat → ClassId) (dI : Nat → Nat → Nat) (cI : ClassId) (a : Nat → Nat) (h w : Nat) (S : sS) (hG0 : geo h w S) : zI l yX2_crops wsX2_crops { frames := 2, cells := 0, slots := 0, locals := 43 } (dC, dI) cI [.ref (a 0)] (sW cI a S) (sW cI a S) (sl_sum h w S 7) := by
  refine zI_of (cc := cX2_crops) (maxL := 1) (ret := (some .int)) (by decide) rfl (Nat.le_of_ble_eq_true rfl) ?_
  intro p e s m below meth c A ls C0 hl
  obtain ⟨hx, hb, hr, hml, hown, hts, hlocks, hK, hN, hA, hP, hD, hS⟩ := C0
  have hown : s.vm.findClass RX2 = some m.cls := hown
  have hl : lv_has ls 1 [(0, .ref (a 0))] := hl
  have hf30 := hts (.fieldLink RX2 30 "PaddyTerraces$Slope" "crop" "[I") (by decide +kernel)
  have hinX2 : ∀ w ∈ wsX20, w ∈ wsX2_crops := by decide +kernel
  have hS0 := hS
  have hN64 := geo_hw hG0
  have hW9 := geo_w hG0
  obtain ⟨-, -, hh2, hh8, hw2, hw8⟩ := id hG0
  refine lv_aload_n hx hb dX2_crops_0 rfl (lv_at hl 0 rfl) ?_
  refine lv_aload_n hx hb dX2_crops_1 rfl (lv_at hl 0 rfl) ?_
  refine va_get (D := (dC, dI)) (ci := 2) (v := .ref (a 7)) (C := RX2) (T := TX2) (N := 18) hx hb hts hinX2 hown hK hP 0 rfl rfl 11 (by decide) hf30 (fun _ h9 => h9) rfl dX2_crops_2 ?_
  refine zI_V (pre := ([] : va_W)) (wc := sW cI a S) (post := ([] : va_W)) (w1 := sW cI a S) ⟨hx, hb, hml, hown, hts⟩ (c_X2_sumOf_7 l dC dI cI a h w S hG0) (cwV 1 hts gX2_crops_X2_sumOf rfl rfl rfl (by decide +kernel) ⟨Nat.le_of_ble_eq_true rfl, Nat.le_of_ble_eq_true rfl⟩) (by simp only [List.append_assoc, List.append_nil, List.nil_append]) hK hN (ci := 2) (q0 := 0) rfl rfl rfl hP hD hS hA rfl hl.1 rfl (Nat.le_of_ble_eq_true rfl) dX2_crops_5 ⟨Nat.zero_le _, Nat.zero_le _⟩ (fun H locs hP hD hS => ?_)
  have hP : va_P (dC, dI) vwCl (sW cI a S) H := by simpa only [List.append_assoc, List.append_nil, List.nil_append] using hP
  have hD : va_D A (sW cI a S) := by simpa only [List.append_assoc, List.append_nil, List.nil_append] using hD
  exact zI_ret hx hb hr hlocks hP hD hS rfl rfl dX2_crops_8
set_option maxHeartbeats 4000000 in
set_option maxRecDepth 100000 in
theorem c_X2_allHardness (l : Launch) (dC : Nat → ClassId) (dI : Nat → Nat → Nat) (cI : ClassId) (a : Nat → Nat) (h w : Nat) (S : sS) (hG0 : geo h w S) : zI l yX2_allHardness wsX2_allHardness { frames := 2, cells := 0, slots := 0, locals := 43 } (dC, dI) cI [.ref (a 0)] (sW cI a S) (sW cI a S) (sl_sum h w S 9) := by
  refine zI_of (cc := cX2_allHardness) (maxL := 1) (ret := (some .int)) (by decide) rfl (Nat.le_of_ble_eq_true rfl) ?_
  intro p e s m below meth c A ls C0 hl
  obtain ⟨hx, hb, hr, hml, hown, hts, hlocks, hK, hN, hA, hP, hD, hS⟩ := C0
  have hown : s.vm.findClass RX2 = some m.cls := hown
  have hl : lv_has ls 1 [(0, .ref (a 0))] := hl
  have hf36 := hts (.fieldLink RX2 36 "PaddyTerraces$Slope" "hardness" "[I") (by decide +kernel)
  have hinX2 : ∀ w ∈ wsX20, w ∈ wsX2_allHardness := by decide +kernel
  have hS0 := hS
  have hN64 := geo_hw hG0
  have hW9 := geo_w hG0
  obtain ⟨-, -, hh2, hh8, hw2, hw8⟩ := id hG0
  refine lv_aload_n hx hb dX2_allHardness_0 rfl (lv_at hl 0 rfl) ?_
  refine lv_aload_n hx hb dX2_allHardness_1 rfl (lv_at hl 0 rfl) ?_
  refine va_get (D := (dC, dI)) (ci := 2) (v := .ref (a 9)) (C := RX2) (T := TX2) (N := 18) hx hb hts hinX2 hown hK hP 0 rfl rfl 13 (by decide) hf36 (fun _ h9 => h9) rfl dX2_allHardness_2 ?_
  refine zI_V (pre := ([] : va_W)) (wc := sW cI a S) (post := ([] : va_W)) (w1 := sW cI a S) ⟨hx, hb, hml, hown, hts⟩ (c_X2_sumOf_9 l dC dI cI a h w S hG0) (cwV 1 hts gX2_allHardness_X2_sumOf rfl rfl rfl (by decide +kernel) ⟨Nat.le_of_ble_eq_true rfl, Nat.le_of_ble_eq_true rfl⟩) (by simp only [List.append_assoc, List.append_nil, List.nil_append]) hK hN (ci := 2) (q0 := 0) rfl rfl rfl hP hD hS hA rfl hl.1 rfl (Nat.le_of_ble_eq_true rfl) dX2_allHardness_5 ⟨Nat.zero_le _, Nat.zero_le _⟩ (fun H locs hP hD hS => ?_)
  have hP : va_P (dC, dI) vwCl (sW cI a S) H := by simpa only [List.append_assoc, List.append_nil, List.nil_append] using hP
  have hD : va_D A (sW cI a S) := by simpa only [List.append_assoc, List.append_nil, List.nil_append] using hD
  exact zI_ret hx hb hr hlocks hP hD hS rfl rfl dX2_allHardness_8
set_option maxHeartbeats 4000000 in
set_option maxRecDepth 100000 in
theorem c_X2_allDepths (l : Launch) (dC : Nat → ClassId) (dI : Nat → Nat → Nat) (cI : ClassId) (a : Nat → Nat) (h w : Nat) (S : sS) (hG0 : geo h w S) : zI l yX2_allDepths wsX2_allDepths { frames := 2, cells := 0, slots := 0, locals := 43 } (dC, dI) cI [.ref (a 0)] (sW cI a S) (sW cI a S) (sl_sum h w S 2) := by
  refine zI_of (cc := cX2_allDepths) (maxL := 1) (ret := (some .int)) (by decide) rfl (Nat.le_of_ble_eq_true rfl) ?_
  intro p e s m below meth c A ls C0 hl
  obtain ⟨hx, hb, hr, hml, hown, hts, hlocks, hK, hN, hA, hP, hD, hS⟩ := C0
  have hown : s.vm.findClass RX2 = some m.cls := hown
  have hl : lv_has ls 1 [(0, .ref (a 0))] := hl
  have hf15 := hts (.fieldLink RX2 15 "PaddyTerraces$Slope" "depth" "[I") (by decide +kernel)
  have hinX2 : ∀ w ∈ wsX20, w ∈ wsX2_allDepths := by decide +kernel
  have hS0 := hS
  have hN64 := geo_hw hG0
  have hW9 := geo_w hG0
  obtain ⟨-, -, hh2, hh8, hw2, hw8⟩ := id hG0
  refine lv_aload_n hx hb dX2_allDepths_0 rfl (lv_at hl 0 rfl) ?_
  refine lv_aload_n hx hb dX2_allDepths_1 rfl (lv_at hl 0 rfl) ?_
  refine va_get (D := (dC, dI)) (ci := 2) (v := .ref (a 2)) (C := RX2) (T := TX2) (N := 18) hx hb hts hinX2 hown hK hP 0 rfl rfl 6 (by decide) hf15 (fun _ h9 => h9) rfl dX2_allDepths_2 ?_
  refine zI_V (pre := ([] : va_W)) (wc := sW cI a S) (post := ([] : va_W)) (w1 := sW cI a S) ⟨hx, hb, hml, hown, hts⟩ (c_X2_sumOf_2 l dC dI cI a h w S hG0) (cwV 1 hts gX2_allDepths_X2_sumOf rfl rfl rfl (by decide +kernel) ⟨Nat.le_of_ble_eq_true rfl, Nat.le_of_ble_eq_true rfl⟩) (by simp only [List.append_assoc, List.append_nil, List.nil_append]) hK hN (ci := 2) (q0 := 0) rfl rfl rfl hP hD hS hA rfl hl.1 rfl (Nat.le_of_ble_eq_true rfl) dX2_allDepths_5 ⟨Nat.zero_le _, Nat.zero_le _⟩ (fun H locs hP hD hS => ?_)
  have hP : va_P (dC, dI) vwCl (sW cI a S) H := by simpa only [List.append_assoc, List.append_nil, List.nil_append] using hP
  have hD : va_D A (sW cI a S) := by simpa only [List.append_assoc, List.append_nil, List.nil_append] using hD
  exact zI_ret hx hb hr hlocks hP hD hS rfl rfl dX2_allDepths_8
set_option maxHeartbeats 4000000 in
set_option maxRecDepth 100000 in
theorem c_X2_letWaterFlow (l : Launch) (dC : Nat → ClassId) (dI : Nat → Nat → Nat) (cI : ClassId) (a : Nat → Nat) (h w : Nat) (S : sS) (hG0 : geo h w S) : zV l yX2_letWaterFlow wsX2_letWaterFlow { frames := 3, cells := 0, slots := 0, locals := 70 } (dC, dI) cI [.ref (a 0)] (sW cI a S) (sW cI a (sl_flowAll h w S)) := by
  refine zV_of (cc := cX2_letWaterFlow) (maxL := 3) (ret := none) (by decide) rfl (Nat.le_of_ble_eq_true rfl) ?_
  intro p e s m below meth c A ls C0 hl
  obtain ⟨hx, hb, hr, hml, hown, hts, hlocks, hK, hN, hA, hP, hD, hS⟩ := C0
  have hown : s.vm.findClass RX2 = some m.cls := hown
  have hl : lv_has ls 3 [(0, .ref (a 0))] := hl
  have hf55 := hts (.fieldLink RX2 55 "PaddyTerraces$Slope" "h" "I") (by decide +kernel)
  have hf59 := hts (.fieldLink RX2 59 "PaddyTerraces$Slope" "w" "I") (by decide +kernel)
  have hinX2 : ∀ w ∈ wsX20, w ∈ wsX2_letWaterFlow := by decide +kernel
  have hS0 := hS
  have hN64 := geo_hw hG0
  have hW9 := geo_w hG0
  obtain ⟨-, -, hh2, hh8, hw2, hw8⟩ := id hG0
  refine lv_iconst (v := 0) hx hb dX2_letWaterFlow_0 (by decide) ?_
  refine lv_istore_n (lv' := [(1, .int 0), (0, .ref (a 0))]) hx hb dX2_letWaterFlow_1 rfl hl (by decide) rfl (fun ls hl => ?_)
  have lp2 : ∀ (n2 i2 : Nat) (T2_0 : sS) (H : Heap) (locs : List Loc) (ls : Array Slot), i2 + n2 = h → T2_0 = itr (fun t T => itr (fun f U => sl_flow U t f) w T) i2 S → geo h w T2_0 → va_P (dC, dI) vwCl (sW cI a T2_0) H → va_D A (sW cI a T2_0) → va_S A s.heap H locs → lv_has ls 3 [(0, .ref (a 0)), (1, .int (nI i2))] → W p l e ({ frames := 3, cells := 0, slots := 0, locals := 70 } : Room) s m [.ref (a 0)].toArray below meth c H locs 0 0 (zVq (dC, dI) A (sW cI a (sl_flowAll h w S)) below [.ref (a 0)].toArray s 0 0) (F0 m 2 ls []) := by
    intro n2
    induction n2 with
    | zero =>
      intro i2 T2_0 H locs ls hi2 eT2_0 hGT2_0 hP hD hS hl
      have hi2 : i2 = h := by omega
      rw [hi2] at eT2_0
      refine lv_iload_n hx hb dX2_letWaterFlow_2 rfl (lv_at hl 1 rfl) ?_
      refine lv_aload_n hx hb dX2_letWaterFlow_3 rfl (lv_at hl 0 rfl) ?_
      refine va_get (D := (dC, dI)) (ci := 2) (v := .int (T2_0 0 0)) (C := RX2) (T := TX2) (N := 18) hx hb hts hinX2 hown hK hP 0 rfl rfl 0 (by decide) hf55 (fun _ h9 => h9) rfl dX2_letWaterFlow_4 ?_
      refine lv_icmp_ge (tgt := 38) hx hb dX2_letWaterFlow_7 (by decide) (fun c_1 => ?_) (fun c_1 => ?_)
      · have hZ : T2_0 = sl_flowAll h w S := (by rw [eT2_0]; first | rfl | (simp only [sl_flowAll, if_pos c_1]; done) | (unfold sl_flowAll; simp only [if_pos c_1]; done))
        rw [hZ] at hP hD
        exact zV_ret hx hb hr hlocks hP hD hS dX2_letWaterFlow_38
      · exact absurd (by rw [show _ = nI (h) from hGT2_0.1]; exact nI_le (by omega) (by omega)) c_1
    | succ n2 ih2 =>
      intro i2 T2_0 H locs ls hi2 eT2_0 hGT2_0 hP hD hS hl
      refine lv_iload_n hx hb dX2_letWaterFlow_2 rfl (lv_at hl 1 rfl) ?_
      refine lv_aload_n hx hb dX2_letWaterFlow_3 rfl (lv_at hl 0 rfl) ?_
      refine va_get (D := (dC, dI)) (ci := 2) (v := .int (T2_0 0 0)) (C := RX2) (T := TX2) (N := 18) hx hb hts hinX2 hown hK hP 0 rfl rfl 0 (by decide) hf55 (fun _ h9 => h9) rfl dX2_letWaterFlow_4 ?_
      refine lv_icmp_ge (tgt := 38) hx hb dX2_letWaterFlow_7 (by decide) (fun c_2 => ?_) (fun c_2 => ?_)
      · exact absurd c_2 (by rw [show _ = nI (h) from hGT2_0.1]; exact nI_ge (by omega) (by omega))
      · refine lv_iconst (v := 0) hx hb dX2_letWaterFlow_10 (by decide) ?_
        refine lv_istore_n (lv' := [(2, .int 0), (0, .ref (a 0)), (1, .int (nI i2))]) hx hb dX2_letWaterFlow_11 rfl hl (by decide) rfl (fun ls hl => ?_)
        have lp12 : ∀ (n12 i12 : Nat) (T12_0 : sS) (H : Heap) (locs : List Loc) (ls : Array Slot), i12 + n12 = w → T12_0 = itr (fun f U => sl_flow U (nI i2) f) i12 T2_0 → geo h w T12_0 → va_P (dC, dI) vwCl (sW cI a T12_0) H → va_D A (sW cI a T12_0) → va_S A s.heap H locs → lv_has ls 3 [(0, .ref (a 0)), (1, .int (nI i2)), (2, .int (nI i12))] → W p l e ({ frames := 3, cells := 0, slots := 0, locals := 70 } : Room) s m [.ref (a 0)].toArray below meth c H locs 0 0 (zVq (dC, dI) A (sW cI a (sl_flowAll h w S)) below [.ref (a 0)].toArray s 0 0) (F0 m 12 ls []) := by
          intro n12
          induction n12 with
          | zero =>
            intro i12 T12_0 H locs ls hi12 eT12_0 hGT12_0 hP hD hS hl
            have hi12 : i12 = w := by omega
            rw [hi12] at eT12_0
            refine lv_iload_n hx hb dX2_letWaterFlow_12 rfl (lv_at hl 2 rfl) ?_
            refine lv_aload_n hx hb dX2_letWaterFlow_13 rfl (lv_at hl 0 rfl) ?_
            refine va_get (D := (dC, dI)) (ci := 2) (v := .int (T12_0 0 1)) (C := RX2) (T := TX2) (N := 18) hx hb hts hinX2 hown hK hP 0 rfl rfl 1 (by decide) hf59 (fun _ h9 => h9) rfl dX2_letWaterFlow_14 ?_
            refine lv_icmp_ge (tgt := 32) hx hb dX2_letWaterFlow_17 (by decide) (fun c_3 => ?_) (fun c_3 => ?_)
            · refine lv_iinc (v := nI (i2 + 1)) (lv' := [(1, .int (nI (i2 + 1))), (0, .ref (a 0)), (2, .int (nI i12))]) hx hb dX2_letWaterFlow_32 hl (k := 1) rfl (show nI i2 + Int32.ofInt 1 = nI (i2 + 1) from nI_1 i2) (by decide) rfl (fun ls hl => ?_)
              refine lv_goto (tgt := 2) hx hb dX2_letWaterFlow_35 (by decide) ?_
              exact ih2 (i2 + 1) T12_0 _ _ ls (by omega) (by (try rw [eT12_0]); (try rw [eT2_0]); rfl) (hGT12_0) hP hD hS (lv_sub hl [1, 0] rfl)
            · exact absurd (by rw [show _ = nI (w) from hGT12_0.2.1]; exact nI_le (by omega) (by omega)) c_3
          | succ n12 ih12 =>
            intro i12 T12_0 H locs ls hi12 eT12_0 hGT12_0 hP hD hS hl
            refine lv_iload_n hx hb dX2_letWaterFlow_12 rfl (lv_at hl 2 rfl) ?_
            refine lv_aload_n hx hb dX2_letWaterFlow_13 rfl (lv_at hl 0 rfl) ?_
            refine va_get (D := (dC, dI)) (ci := 2) (v := .int (T12_0 0 1)) (C := RX2) (T := TX2) (N := 18) hx hb hts hinX2 hown hK hP 0 rfl rfl 1 (by decide) hf59 (fun _ h9 => h9) rfl dX2_letWaterFlow_14 ?_
            refine lv_icmp_ge (tgt := 32) hx hb dX2_letWaterFlow_17 (by decide) (fun c_4 => ?_) (fun c_4 => ?_)
            · exact absurd c_4 (by rw [show _ = nI (w) from hGT12_0.2.1]; exact nI_ge (by omega) (by omega))
            · refine lv_aload_n hx hb dX2_letWaterFlow_20 rfl (lv_at hl 0 rfl) ?_
              refine lv_iload_n hx hb dX2_letWaterFlow_21 rfl (lv_at hl 1 rfl) ?_
              refine lv_iload_n hx hb dX2_letWaterFlow_22 rfl (lv_at hl 2 rfl) ?_
              obtain ⟨S5, eS5⟩ : ∃ z : sS, z = sl_flow T12_0 (nI i2) (nI i12) := ⟨_, rfl⟩
              refine zV_V (pre := ([] : va_W)) (wc := sW cI a T12_0) (post := ([] : va_W)) (w1 := sW cI a S5) ⟨hx, hb, hml, hown, hts⟩ (by rw [eS5]; exact c_X2_letFieldFlow l dC dI cI a h w T12_0 (nI i2) (nI i12) hGT12_0 (geo_has hGT12_0 (by omega) (by omega))) (cwV 2 hts gX2_letWaterFlow_X2_letFieldFlow rfl rfl rfl (by decide +kernel) ⟨Nat.le_of_ble_eq_true rfl, Nat.le_of_ble_eq_true rfl⟩) (by simp only [List.append_assoc, List.append_nil, List.nil_append]) hK hN (ci := 2) (q0 := 0) rfl rfl rfl hP hD hS hA rfl hl.1 rfl (Nat.le_of_ble_eq_true rfl) dX2_letWaterFlow_23 ⟨Nat.zero_le _, Nat.zero_le _⟩ (fun H locs hP hD hS => ?_)
              have hP : va_P (dC, dI) vwCl (sW cI a S5) H := by simpa only [List.append_assoc, List.append_nil, List.nil_append] using hP
              have hD : va_D A (sW cI a S5) := by simpa only [List.append_assoc, List.append_nil, List.nil_append] using hD
              have hGS5 : geo h w S5 := by rw [eS5]; exact geo_sam hGT12_0 (sam_flow T12_0 (nI i2) (nI i12))
              refine lv_iinc (v := nI (i12 + 1)) (lv' := [(2, .int (nI (i12 + 1))), (0, .ref (a 0)), (1, .int (nI i2))]) hx hb dX2_letWaterFlow_26 hl (k := 2) rfl (show nI i12 + Int32.ofInt 1 = nI (i12 + 1) from nI_1 i12) (by decide) rfl (fun ls hl => ?_)
              refine lv_goto (tgt := 12) hx hb dX2_letWaterFlow_29 (by decide) ?_
              exact ih12 (i12 + 1) S5 _ _ ls (by omega) (by (try rw [eS5]); (try rw [eT12_0]); rfl) (hGS5) hP hD hS (lv_sub hl [1, 2, 0] rfl)
        exact lp12 (w) 0 T2_0 _ _ ls (by omega) rfl (hGT2_0) hP hD hS (lv_sub hl [1, 2, 0] rfl)
  exact lp2 (h) 0 S _ _ ls (by omega) rfl (hG0) hP hD hS (lv_sub hl [1, 0] rfl)
set_option maxHeartbeats 4000000 in
set_option maxRecDepth 100000 in
theorem c_X2_takeRain (l : Launch) (dC : Nat → ClassId) (dI : Nat → Nat → Nat) (cI : ClassId) (a : Nat → Nat) (h w : Nat) (S : sS) (x : Int32) (hG0 : geo h w S) : zV l yX2_takeRain wsX2_takeRain { frames := 1, cells := 0, slots := 0, locals := 20 } (dC, dI) cI [.ref (a 0), .int x] (sW cI a S) (sW cI a (sl_rain h w S x)) := by
  refine zV_of (cc := cX2_takeRain) (maxL := 3) (ret := none) (by decide) rfl (Nat.le_of_ble_eq_true rfl) ?_
  intro p e s m below meth c A ls C0 hl
  obtain ⟨hx, hb, hr, hml, hown, hts, hlocks, hK, hN, hA, hP, hD, hS⟩ := C0
  have hown : s.vm.findClass RX2 = some m.cls := hown
  have hl : lv_has ls 3 [(0, .ref (a 0)), (1, .int x)] := hl
  have hf15 := hts (.fieldLink RX2 15 "PaddyTerraces$Slope" "depth" "[I") (by decide +kernel)
  have hinX2 : ∀ w ∈ wsX20, w ∈ wsX2_takeRain := by decide +kernel
  have hS0 := hS
  have hN64 := geo_hw hG0
  have hW9 := geo_w hG0
  obtain ⟨-, -, hh2, hh8, hw2, hw8⟩ := id hG0
  refine lv_iconst (v := 0) hx hb dX2_takeRain_0 (by decide) ?_
  refine lv_istore_n (lv' := [(2, .int 0), (0, .ref (a 0)), (1, .int x)]) hx hb dX2_takeRain_1 rfl hl (by decide) rfl (fun ls hl => ?_)
  have lp2 : ∀ (n2 i2 : Nat) (T2_0 : sS) (H : Heap) (locs : List Loc) (ls : Array Slot), i2 + n2 = h * w → T2_0 = itr (fun i T => sl_rain1 T i x) i2 S → geo h w T2_0 → va_P (dC, dI) vwCl (sW cI a T2_0) H → va_D A (sW cI a T2_0) → va_S A s.heap H locs → lv_has ls 3 [(0, .ref (a 0)), (1, .int x), (2, .int (nI i2))] → W p l e ({ frames := 1, cells := 0, slots := 0, locals := 20 } : Room) s m [.ref (a 0), .int x].toArray below meth c H locs 0 0 (zVq (dC, dI) A (sW cI a (sl_rain h w S x)) below [.ref (a 0), .int x].toArray s 0 0) (F0 m 2 ls []) := by
    intro n2
    induction n2 with
    | zero =>
      intro i2 T2_0 H locs ls hi2 eT2_0 hGT2_0 hP hD hS hl
      have hi2 : i2 = h * w := by omega
      rw [hi2] at eT2_0
      refine lv_iload_n hx hb dX2_takeRain_2 rfl (lv_at hl 2 rfl) ?_
      refine lv_aload_n hx hb dX2_takeRain_3 rfl (lv_at hl 0 rfl) ?_
      refine zI_V (pre := ([] : va_W)) (wc := sW cI a T2_0) (post := ([] : va_W)) (w1 := sW cI a T2_0) ⟨hx, hb, hml, hown, hts⟩ (c_X2_cells l dC dI cI a T2_0) (cwV 0 hts gX2_takeRain_X2_cells rfl rfl rfl (by decide +kernel) ⟨Nat.le_of_ble_eq_true rfl, Nat.le_of_ble_eq_true rfl⟩) (by simp only [List.append_assoc, List.append_nil, List.nil_append]) hK hN (ci := 2) (q0 := 0) rfl rfl rfl hP hD hS hA rfl hl.1 rfl (Nat.le_of_ble_eq_true rfl) dX2_takeRain_4 ⟨Nat.zero_le _, Nat.zero_le _⟩ (fun H locs hP hD hS => ?_)
      have hP : va_P (dC, dI) vwCl (sW cI a T2_0) H := by simpa only [List.append_assoc, List.append_nil, List.nil_append] using hP
      have hD : va_D A (sW cI a T2_0) := by simpa only [List.append_assoc, List.append_nil, List.nil_append] using hD
      refine lv_icmp_ge (tgt := 26) hx hb dX2_takeRain_7 (by decide) (fun c_1 => ?_) (fun c_1 => ?_)
      · have hZ : T2_0 = sl_rain h w S x := (by rw [eT2_0]; first | rfl | (simp only [sl_rain, if_pos c_1]; done) | (unfold sl_rain; simp only [if_pos c_1]; done))
        rw [hZ] at hP hD
        exact zV_ret hx hb hr hlocks hP hD hS dX2_takeRain_26
      · exact absurd (by rw [show _ = nI (h * w) from (geo_cells hGT2_0)]; exact nI_le (by omega) (by omega)) c_1
    | succ n2 ih2 =>
      intro i2 T2_0 H locs ls hi2 eT2_0 hGT2_0 hP hD hS hl
      refine lv_iload_n hx hb dX2_takeRain_2 rfl (lv_at hl 2 rfl) ?_
      refine lv_aload_n hx hb dX2_takeRain_3 rfl (lv_at hl 0 rfl) ?_
      refine zI_V (pre := ([] : va_W)) (wc := sW cI a T2_0) (post := ([] : va_W)) (w1 := sW cI a T2_0) ⟨hx, hb, hml, hown, hts⟩ (c_X2_cells l dC dI cI a T2_0) (cwV 0 hts gX2_takeRain_X2_cells rfl rfl rfl (by decide +kernel) ⟨Nat.le_of_ble_eq_true rfl, Nat.le_of_ble_eq_true rfl⟩) (by simp only [List.append_assoc, List.append_nil, List.nil_append]) hK hN (ci := 2) (q0 := 0) rfl rfl rfl hP hD hS hA rfl hl.1 rfl (Nat.le_of_ble_eq_true rfl) dX2_takeRain_4 ⟨Nat.zero_le _, Nat.zero_le _⟩ (fun H locs hP hD hS => ?_)
      have hP : va_P (dC, dI) vwCl (sW cI a T2_0) H := by simpa only [List.append_assoc, List.append_nil, List.nil_append] using hP
      have hD : va_D A (sW cI a T2_0) := by simpa only [List.append_assoc, List.append_nil, List.nil_append] using hD
      refine lv_icmp_ge (tgt := 26) hx hb dX2_takeRain_7 (by decide) (fun c_2 => ?_) (fun c_2 => ?_)
      · exact absurd c_2 (by rw [show _ = nI (h * w) from (geo_cells hGT2_0)]; exact nI_ge (by omega) (by omega))
      · refine lv_aload_n hx hb dX2_takeRain_10 rfl (lv_at hl 0 rfl) ?_
        refine va_get (D := (dC, dI)) (ci := 2) (v := .ref (a 2)) (C := RX2) (T := TX2) (N := 18) hx hb hts hinX2 hown hK hP 0 rfl rfl 6 (by decide) hf15 (fun _ h9 => h9) rfl dX2_takeRain_11 ?_
        refine lv_iload_n hx hb dX2_takeRain_14 rfl (lv_at hl 2 rfl) ?_
        refine lv_dup2_11 hx hb dX2_takeRain_15 rfl rfl ?_
        refine va_iald (cA := cI) (n := 64) (f := T2_0 2) hx hb hK hP 2 0 rfl rfl (vp_in_nI (by omega) (by decide)) dX2_takeRain_16 ?_
        refine lv_iload_n hx hb dX2_takeRain_17 rfl (lv_at hl 1 rfl) ?_
        refine lv_iadd hx hb dX2_takeRain_18 ?_
        obtain ⟨S3, eS3⟩ : ∃ z : sS, z = s_put T2_0 2 ((nI i2).toNatClampNeg) ((T2_0 2 (nI i2).toNatClampNeg) + x) := ⟨_, rfl⟩
        refine va_iast (cA := cI) (n := 64) (f := T2_0 2) hx hb hK hP hD hS 2 0 rfl rfl (vp_in_nI (by omega) (by decide)) dX2_takeRain_19 (fun H locs hP hD hS => ?_)
        have hP : va_P (dC, dI) vwCl (sW cI a S3) H := by rw [eS3]; exact hP
        have hD : va_D A (sW cI a S3) := by rw [eS3]; exact hD
        have hGS3 : geo h w S3 := by rw [eS3]; exact geo_put hGT2_0 (Or.inl (by decide)) _
        refine lv_iinc (v := nI (i2 + 1)) (lv' := [(2, .int (nI (i2 + 1))), (0, .ref (a 0)), (1, .int x)]) hx hb dX2_takeRain_20 hl (k := 2) rfl (show nI i2 + Int32.ofInt 1 = nI (i2 + 1) from nI_1 i2) (by decide) rfl (fun ls hl => ?_)
        refine lv_goto (tgt := 2) hx hb dX2_takeRain_23 (by decide) ?_
        exact ih2 (i2 + 1) S3 _ _ ls (by omega) (by (try rw [eS3]); (try rw [eT2_0]); rfl) (hGS3) hP hD hS (lv_sub hl [1, 2, 0] rfl)
  exact lp2 (h * w) 0 S _ _ ls (by omega) rfl (hG0) hP hD hS (lv_sub hl [1, 2, 0] rfl)
set_option maxHeartbeats 4000000 in
set_option maxRecDepth 100000 in
theorem c_X2_takeSpring (l : Launch) (dC : Nat → ClassId) (dI : Nat → Nat → Nat) (cI : ClassId) (a : Nat → Nat) (h w : Nat) (S : sS) (x : Int32) (hG0 : geo h w S) : zV l yX2_takeSpring wsX2_takeSpring { frames := 0, cells := 0, slots := 0, locals := 0 } (dC, dI) cI [.ref (a 0), .int x] (sW cI a S) (sW cI a (sl_spring w S x)) := by
  refine zV_of (cc := cX2_takeSpring) (maxL := 4) (ret := none) (by decide) rfl (Nat.le_of_ble_eq_true rfl) ?_
  intro p e s m below meth c A ls C0 hl
  obtain ⟨hx, hb, hr, hml, hown, hts, hlocks, hK, hN, hA, hP, hD, hS⟩ := C0
  have hown : s.vm.findClass RX2 = some m.cls := hown
  have hl : lv_has ls 4 [(0, .ref (a 0)), (1, .int x)] := hl
  have hf9 := hts (.fieldLink RX2 9 "PaddyTerraces$Slope" "share" "[I") (by decide +kernel)
  have hf15 := hts (.fieldLink RX2 15 "PaddyTerraces$Slope" "depth" "[I") (by decide +kernel)
  have hf59 := hts (.fieldLink RX2 59 "PaddyTerraces$Slope" "w" "I") (by decide +kernel)
  have hinX2 : ∀ w ∈ wsX20, w ∈ wsX2_takeSpring := by decide +kernel
  have hS0 := hS
  have hN64 := geo_hw hG0
  have hW9 := geo_w hG0
  obtain ⟨-, -, hh2, hh8, hw2, hw8⟩ := id hG0
  refine lv_iconst (v := 0) hx hb dX2_takeSpring_0 (by decide) ?_
  refine lv_istore_n (lv' := [(2, .int 0), (0, .ref (a 0)), (1, .int x)]) hx hb dX2_takeSpring_1 rfl hl (by decide) rfl (fun ls hl => ?_)
  refine lv_iconst (v := 0) hx hb dX2_takeSpring_2 (by decide) ?_
  refine lv_istore_n (lv' := [(3, .int 0), (2, .int 0), (0, .ref (a 0)), (1, .int x)]) hx hb dX2_takeSpring_3 rfl hl (by decide) rfl (fun ls hl => ?_)
  have lp4 : ∀ (n4 i4 : Nat) (u4_2 : Int32) (H : Heap) (locs : List Loc) (ls : Array Slot), i4 + n4 = w → u4_2 = itr (fun i x => x + S 1 i.toNatClampNeg) i4 0 → va_P (dC, dI) vwCl (sW cI a S) H → va_D A (sW cI a S) → va_S A s.heap H locs → lv_has ls 4 [(0, .ref (a 0)), (1, .int x), (2, .int u4_2), (3, .int (nI i4))] → W p l e ({ frames := 0, cells := 0, slots := 0, locals := 0 } : Room) s m [.ref (a 0), .int x].toArray below meth c H locs 0 0 (zVq (dC, dI) A (sW cI a (sl_spring w S x)) below [.ref (a 0), .int x].toArray s 0 0) (F0 m 4 ls []) := by
    intro n4
    induction n4 with
    | zero =>
      intro i4 u4_2 H locs ls hi4 eu4_2 hP hD hS hl
      have hi4 : i4 = w := by omega
      rw [hi4] at eu4_2
      refine lv_iload_n hx hb dX2_takeSpring_4 rfl (lv_at hl 3 rfl) ?_
      refine lv_aload_n hx hb dX2_takeSpring_5 rfl (lv_at hl 0 rfl) ?_
      refine va_get (D := (dC, dI)) (ci := 2) (v := .int (S 0 1)) (C := RX2) (T := TX2) (N := 18) hx hb hts hinX2 hown hK hP 0 rfl rfl 1 (by decide) hf59 (fun _ h9 => h9) rfl dX2_takeSpring_6 ?_
      refine lv_icmp_ge (tgt := 27) hx hb dX2_takeSpring_9 (by decide) (fun c_1 => ?_) (fun c_1 => ?_)
      · refine lv_iload_n hx hb dX2_takeSpring_27 rfl (lv_at hl 2 rfl) ?_
        refine lv_if_ne (tgt := 32) hx hb dX2_takeSpring_28 (by decide) (fun c_2 => ?_) (fun c_2 => ?_)
        · refine lv_iconst (v := 0) hx hb dX2_takeSpring_32 (by decide) ?_
          refine lv_istore_n (lv' := [(3, .int 0), (0, .ref (a 0)), (1, .int x), (2, .int u4_2)]) hx hb dX2_takeSpring_33 rfl hl (by decide) rfl (fun ls hl => ?_)
          have lp34 : ∀ (n34 i34 : Nat) (T34_0 : sS) (H : Heap) (locs : List Loc) (ls : Array Slot), i34 + n34 = w → T34_0 = itr (fun i T => sl_spring1 T i x u4_2) i34 S → geo h w T34_0 → va_P (dC, dI) vwCl (sW cI a T34_0) H → va_D A (sW cI a T34_0) → va_S A s.heap H locs → lv_has ls 4 [(0, .ref (a 0)), (1, .int x), (2, .int u4_2), (3, .int (nI i34))] → W p l e ({ frames := 0, cells := 0, slots := 0, locals := 0 } : Room) s m [.ref (a 0), .int x].toArray below meth c H locs 0 0 (zVq (dC, dI) A (sW cI a (sl_spring w S x)) below [.ref (a 0), .int x].toArray s 0 0) (F0 m 34 ls []) := by
            intro n34
            induction n34 with
            | zero =>
              intro i34 T34_0 H locs ls hi34 eT34_0 hGT34_0 hP hD hS hl
              have hi34 : i34 = w := by omega
              rw [hi34] at eT34_0
              refine lv_iload_n hx hb dX2_takeSpring_34 rfl (lv_at hl 3 rfl) ?_
              refine lv_aload_n hx hb dX2_takeSpring_35 rfl (lv_at hl 0 rfl) ?_
              refine va_get (D := (dC, dI)) (ci := 2) (v := .int (T34_0 0 1)) (C := RX2) (T := TX2) (N := 18) hx hb hts hinX2 hown hK hP 0 rfl rfl 1 (by decide) hf59 (fun _ h9 => h9) rfl dX2_takeSpring_36 ?_
              refine lv_icmp_ge (tgt := 67) hx hb dX2_takeSpring_39 (by decide) (fun c_3 => ?_) (fun c_3 => ?_)
              · have hZ : T34_0 = sl_spring w S x := (by unfold sl_spring; rw [show sl_shares w S = u4_2 from eu4_2.symm]; simp only [if_pos c_1, if_neg c_2, if_pos c_3]; first | done | exact eT34_0)
                rw [hZ] at hP hD
                exact zV_ret hx hb hr hlocks hP hD hS dX2_takeSpring_67
              · exact absurd (by rw [show _ = nI (w) from hGT34_0.2.1]; exact nI_le (by omega) (by omega)) c_3
            | succ n34 ih34 =>
              intro i34 T34_0 H locs ls hi34 eT34_0 hGT34_0 hP hD hS hl
              refine lv_iload_n hx hb dX2_takeSpring_34 rfl (lv_at hl 3 rfl) ?_
              refine lv_aload_n hx hb dX2_takeSpring_35 rfl (lv_at hl 0 rfl) ?_
              refine va_get (D := (dC, dI)) (ci := 2) (v := .int (T34_0 0 1)) (C := RX2) (T := TX2) (N := 18) hx hb hts hinX2 hown hK hP 0 rfl rfl 1 (by decide) hf59 (fun _ h9 => h9) rfl dX2_takeSpring_36 ?_
              refine lv_icmp_ge (tgt := 67) hx hb dX2_takeSpring_39 (by decide) (fun c_4 => ?_) (fun c_4 => ?_)
              · exact absurd c_4 (by rw [show _ = nI (w) from hGT34_0.2.1]; exact nI_ge (by omega) (by omega))
              · refine lv_aload_n hx hb dX2_takeSpring_42 rfl (lv_at hl 0 rfl) ?_
                refine va_get (D := (dC, dI)) (ci := 2) (v := .ref (a 2)) (C := RX2) (T := TX2) (N := 18) hx hb hts hinX2 hown hK hP 0 rfl rfl 6 (by decide) hf15 (fun _ h9 => h9) rfl dX2_takeSpring_43 ?_
                refine lv_iload_n hx hb dX2_takeSpring_46 rfl (lv_at hl 3 rfl) ?_
                refine lv_dup2_11 hx hb dX2_takeSpring_47 rfl rfl ?_
                refine va_iald (cA := cI) (n := 64) (f := T34_0 2) hx hb hK hP 2 0 rfl rfl (vp_in_nI (by omega) (by decide)) dX2_takeSpring_48 ?_
                refine lv_iload_n hx hb dX2_takeSpring_49 rfl (lv_at hl 1 rfl) ?_
                refine lv_aload_n hx hb dX2_takeSpring_50 rfl (lv_at hl 0 rfl) ?_
                refine va_get (D := (dC, dI)) (ci := 2) (v := .ref (a 1)) (C := RX2) (T := TX2) (N := 18) hx hb hts hinX2 hown hK hP 0 rfl rfl 5 (by decide) hf9 (fun _ h9 => h9) rfl dX2_takeSpring_51 ?_
                refine lv_iload_n hx hb dX2_takeSpring_54 rfl (lv_at hl 3 rfl) ?_
                refine va_iald (cA := cI) (n := 8) (f := T34_0 1) hx hb hK hP 1 0 rfl rfl (vp_in_nI (by omega) (by decide)) dX2_takeSpring_55 ?_
                refine lv_imul hx hb dX2_takeSpring_56 ?_
                refine lv_iload_n hx hb dX2_takeSpring_57 rfl (lv_at hl 2 rfl) ?_
                refine lv_idiv hx hb dX2_takeSpring_58 c_2 ?_
                refine lv_iadd hx hb dX2_takeSpring_59 ?_
                obtain ⟨S5, eS5⟩ : ∃ z : sS, z = s_put T34_0 2 ((nI i34).toNatClampNeg) ((T34_0 2 (nI i34).toNatClampNeg) + ((x * (T34_0 1 (nI i34).toNatClampNeg)) / u4_2)) := ⟨_, rfl⟩
                refine va_iast (cA := cI) (n := 64) (f := T34_0 2) hx hb hK hP hD hS 2 0 rfl rfl (vp_in_nI (by omega) (by decide)) dX2_takeSpring_60 (fun H locs hP hD hS => ?_)
                have hP : va_P (dC, dI) vwCl (sW cI a S5) H := by rw [eS5]; exact hP
                have hD : va_D A (sW cI a S5) := by rw [eS5]; exact hD
                have hGS5 : geo h w S5 := by rw [eS5]; exact geo_put hGT34_0 (Or.inl (by decide)) _
                refine lv_iinc (v := nI (i34 + 1)) (lv' := [(3, .int (nI (i34 + 1))), (0, .ref (a 0)), (1, .int x), (2, .int u4_2)]) hx hb dX2_takeSpring_61 hl (k := 3) rfl (show nI i34 + Int32.ofInt 1 = nI (i34 + 1) from nI_1 i34) (by decide) rfl (fun ls hl => ?_)
                refine lv_goto (tgt := 34) hx hb dX2_takeSpring_64 (by decide) ?_
                exact ih34 (i34 + 1) S5 _ _ ls (by omega) (by (try rw [eS5]); (try rw [eT34_0]); rfl) (hGS5) hP hD hS (lv_sub hl [1, 2, 3, 0] rfl)
          exact lp34 (w) 0 S _ _ ls (by omega) rfl (hG0) hP hD hS (lv_sub hl [1, 2, 3, 0] rfl)
        · have hZ : S = sl_spring w S x := (by unfold sl_spring; rw [show sl_shares w S = u4_2 from eu4_2.symm]; simp only [if_pos c_1, if_pos c_2]; first | done | exact eT34_0)
          rw [hZ] at hP hD
          exact zV_ret hx hb hr hlocks hP hD hS dX2_takeSpring_31
      · exact absurd (by rw [show _ = nI (w) from hG0.2.1]; exact nI_le (by omega) (by omega)) c_1
    | succ n4 ih4 =>
      intro i4 u4_2 H locs ls hi4 eu4_2 hP hD hS hl
      refine lv_iload_n hx hb dX2_takeSpring_4 rfl (lv_at hl 3 rfl) ?_
      refine lv_aload_n hx hb dX2_takeSpring_5 rfl (lv_at hl 0 rfl) ?_
      refine va_get (D := (dC, dI)) (ci := 2) (v := .int (S 0 1)) (C := RX2) (T := TX2) (N := 18) hx hb hts hinX2 hown hK hP 0 rfl rfl 1 (by decide) hf59 (fun _ h9 => h9) rfl dX2_takeSpring_6 ?_
      refine lv_icmp_ge (tgt := 27) hx hb dX2_takeSpring_9 (by decide) (fun c_6 => ?_) (fun c_6 => ?_)
      · exact absurd c_6 (by rw [show _ = nI (w) from hG0.2.1]; exact nI_ge (by omega) (by omega))
      · refine lv_iload_n hx hb dX2_takeSpring_12 rfl (lv_at hl 2 rfl) ?_
        refine lv_aload_n hx hb dX2_takeSpring_13 rfl (lv_at hl 0 rfl) ?_
        refine va_get (D := (dC, dI)) (ci := 2) (v := .ref (a 1)) (C := RX2) (T := TX2) (N := 18) hx hb hts hinX2 hown hK hP 0 rfl rfl 5 (by decide) hf9 (fun _ h9 => h9) rfl dX2_takeSpring_14 ?_
        refine lv_iload_n hx hb dX2_takeSpring_17 rfl (lv_at hl 3 rfl) ?_
        refine va_iald (cA := cI) (n := 8) (f := S 1) hx hb hK hP 1 0 rfl rfl (vp_in_nI (by omega) (by decide)) dX2_takeSpring_18 ?_
        refine lv_iadd hx hb dX2_takeSpring_19 ?_
        refine lv_istore_n (lv' := [(2, .int (u4_2 + (S 1 (nI i4).toNatClampNeg))), (0, .ref (a 0)), (1, .int x), (3, .int (nI i4))]) hx hb dX2_takeSpring_20 rfl hl (by decide) rfl (fun ls hl => ?_)
        refine lv_iinc (v := nI (i4 + 1)) (lv' := [(3, .int (nI (i4 + 1))), (2, .int (u4_2 + (S 1 (nI i4).toNatClampNeg))), (0, .ref (a 0)), (1, .int x)]) hx hb dX2_takeSpring_21 hl (k := 3) rfl (show nI i4 + Int32.ofInt 1 = nI (i4 + 1) from nI_1 i4) (by decide) rfl (fun ls hl => ?_)
        refine lv_goto (tgt := 4) hx hb dX2_takeSpring_24 (by decide) ?_
        exact ih4 (i4 + 1) (u4_2 + (S 1 (nI i4).toNatClampNeg)) _ _ ls (by omega) (by (try rw [eu4_2]); rfl) hP hD hS (lv_sub hl [2, 3, 1, 0] rfl)
  exact lp4 (w) 0 0 _ _ ls (by omega) rfl hP hD hS (lv_sub hl [2, 3, 1, 0] rfl)
set_option maxHeartbeats 4000000 in
set_option maxRecDepth 100000 in
theorem c_X2_loseWater (l : Launch) (dC : Nat → ClassId) (dI : Nat → Nat → Nat) (cI : ClassId) (a : Nat → Nat) (h w : Nat) (S : sS) (x : Int32) (hG0 : geo h w S) : zV l yX2_loseWater wsX2_loseWater { frames := 1, cells := 0, slots := 0, locals := 20 } (dC, dI) cI [.ref (a 0), .int x] (sW cI a S) (sW cI a (sl_lose h w S x)) := by
  refine zV_of (cc := cX2_loseWater) (maxL := 4) (ret := none) (by decide) rfl (Nat.le_of_ble_eq_true rfl) ?_
  intro p e s m below meth c A ls C0 hl
  obtain ⟨hx, hb, hr, hml, hown, hts, hlocks, hK, hN, hA, hP, hD, hS⟩ := C0
  have hown : s.vm.findClass RX2 = some m.cls := hown
  have hl : lv_has ls 4 [(0, .ref (a 0)), (1, .int x)] := hl
  have hf15 := hts (.fieldLink RX2 15 "PaddyTerraces$Slope" "depth" "[I") (by decide +kernel)
  have hf21 := hts (.fieldLink RX2 21 "PaddyTerraces$Slope" "seepage" "[I") (by decide +kernel)
  have hf65 := hts (.fieldLink RX2 65 "PaddyTerraces$Slope" "brook" "I") (by decide +kernel)
  have hc_max := hts (.code Lib.Math.max.name Lib.Math.max.code 2 (some .int)) (by decide +kernel)
  have hc_min := hts (.code Lib.Math.min.name Lib.Math.min.code 2 (some .int)) (by decide +kernel)
  have hi_Math := hts (.initialized "java/lang/Math") (by decide +kernel)
  have hm132 := hts (.methodLink RX2 132 Lib.Math.max.name) (by decide +kernel)
  have hm137 := hts (.methodLink RX2 137 Lib.Math.min.name) (by decide +kernel)
  have hs_max := hts (.static Lib.Math.max.name) (by decide +kernel)
  have hs_min := hts (.static Lib.Math.min.name) (by decide +kernel)
  have hinX2 : ∀ w ∈ wsX20, w ∈ wsX2_loseWater := by decide +kernel
  have hS0 := hS
  have hN64 := geo_hw hG0
  have hW9 := geo_w hG0
  obtain ⟨-, -, hh2, hh8, hw2, hw8⟩ := id hG0
  refine lv_iconst (v := 0) hx hb dX2_loseWater_0 (by decide) ?_
  refine lv_istore_n (lv' := [(2, .int 0), (0, .ref (a 0)), (1, .int x)]) hx hb dX2_loseWater_1 rfl hl (by decide) rfl (fun ls hl => ?_)
  have lp2 : ∀ (n2 i2 : Nat) (T2_0 : sS) (H : Heap) (locs : List Loc) (ls : Array Slot), i2 + n2 = h * w → T2_0 = itr (fun i T => sl_lose1 T i x) i2 S → geo h w T2_0 → va_P (dC, dI) vwCl (sW cI a T2_0) H → va_D A (sW cI a T2_0) → va_S A s.heap H locs → lv_has ls 4 [(0, .ref (a 0)), (1, .int x), (2, .int (nI i2))] → W p l e ({ frames := 1, cells := 0, slots := 0, locals := 20 } : Room) s m [.ref (a 0), .int x].toArray below meth c H locs 0 0 (zVq (dC, dI) A (sW cI a (sl_lose h w S x)) below [.ref (a 0), .int x].toArray s 0 0) (F0 m 2 ls []) := by
    intro n2
    induction n2 with
    | zero =>
      intro i2 T2_0 H locs ls hi2 eT2_0 hGT2_0 hP hD hS hl
      have hi2 : i2 = h * w := by omega
      rw [hi2] at eT2_0
      refine lv_iload_n hx hb dX2_loseWater_2 rfl (lv_at hl 2 rfl) ?_
      refine lv_aload_n hx hb dX2_loseWater_3 rfl (lv_at hl 0 rfl) ?_
      refine zI_V (pre := ([] : va_W)) (wc := sW cI a T2_0) (post := ([] : va_W)) (w1 := sW cI a T2_0) ⟨hx, hb, hml, hown, hts⟩ (c_X2_cells l dC dI cI a T2_0) (cwV 0 hts gX2_loseWater_X2_cells rfl rfl rfl (by decide +kernel) ⟨Nat.le_of_ble_eq_true rfl, Nat.le_of_ble_eq_true rfl⟩) (by simp only [List.append_assoc, List.append_nil, List.nil_append]) hK hN (ci := 2) (q0 := 0) rfl rfl rfl hP hD hS hA rfl hl.1 rfl (Nat.le_of_ble_eq_true rfl) dX2_loseWater_4 ⟨Nat.zero_le _, Nat.zero_le _⟩ (fun H locs hP hD hS => ?_)
      have hP : va_P (dC, dI) vwCl (sW cI a T2_0) H := by simpa only [List.append_assoc, List.append_nil, List.nil_append] using hP
      have hD : va_D A (sW cI a T2_0) := by simpa only [List.append_assoc, List.append_nil, List.nil_append] using hD
      refine lv_icmp_ge (tgt := 66) hx hb dX2_loseWater_7 (by decide) (fun c_1 => ?_) (fun c_1 => ?_)
      · have hZ : T2_0 = sl_lose h w S x := (by rw [eT2_0]; first | rfl | (simp only [sl_lose, if_pos c_1]; done) | (unfold sl_lose; simp only [if_pos c_1]; done))
        rw [hZ] at hP hD
        exact zV_ret hx hb hr hlocks hP hD hS dX2_loseWater_66
      · exact absurd (by rw [show _ = nI (h * w) from (geo_cells hGT2_0)]; exact nI_le (by omega) (by omega)) c_1
    | succ n2 ih2 =>
      intro i2 T2_0 H locs ls hi2 eT2_0 hGT2_0 hP hD hS hl
      refine lv_iload_n hx hb dX2_loseWater_2 rfl (lv_at hl 2 rfl) ?_
      refine lv_aload_n hx hb dX2_loseWater_3 rfl (lv_at hl 0 rfl) ?_
      refine zI_V (pre := ([] : va_W)) (wc := sW cI a T2_0) (post := ([] : va_W)) (w1 := sW cI a T2_0) ⟨hx, hb, hml, hown, hts⟩ (c_X2_cells l dC dI cI a T2_0) (cwV 0 hts gX2_loseWater_X2_cells rfl rfl rfl (by decide +kernel) ⟨Nat.le_of_ble_eq_true rfl, Nat.le_of_ble_eq_true rfl⟩) (by simp only [List.append_assoc, List.append_nil, List.nil_append]) hK hN (ci := 2) (q0 := 0) rfl rfl rfl hP hD hS hA rfl hl.1 rfl (Nat.le_of_ble_eq_true rfl) dX2_loseWater_4 ⟨Nat.zero_le _, Nat.zero_le _⟩ (fun H locs hP hD hS => ?_)
      have hP : va_P (dC, dI) vwCl (sW cI a T2_0) H := by simpa only [List.append_assoc, List.append_nil, List.nil_append] using hP
      have hD : va_D A (sW cI a T2_0) := by simpa only [List.append_assoc, List.append_nil, List.nil_append] using hD
      refine lv_icmp_ge (tgt := 66) hx hb dX2_loseWater_7 (by decide) (fun c_2 => ?_) (fun c_2 => ?_)
      · exact absurd c_2 (by rw [show _ = nI (h * w) from (geo_cells hGT2_0)]; exact nI_ge (by omega) (by omega))
      · refine lv_aload_n hx hb dX2_loseWater_10 rfl (lv_at hl 0 rfl) ?_
        refine va_get (D := (dC, dI)) (ci := 2) (v := .ref (a 2)) (C := RX2) (T := TX2) (N := 18) hx hb hts hinX2 hown hK hP 0 rfl rfl 6 (by decide) hf15 (fun _ h9 => h9) rfl dX2_loseWater_11 ?_
        refine lv_iload_n hx hb dX2_loseWater_14 rfl (lv_at hl 2 rfl) ?_
        refine va_iald (cA := cI) (n := 64) (f := T2_0 2) hx hb hK hP 2 0 rfl rfl (vp_in_nI (by omega) (by decide)) dX2_loseWater_15 ?_
        refine lv_aload_n hx hb dX2_loseWater_16 rfl (lv_at hl 0 rfl) ?_
        refine va_get (D := (dC, dI)) (ci := 2) (v := .ref (a 4)) (C := RX2) (T := TX2) (N := 18) hx hb hts hinX2 hown hK hP 0 rfl rfl 8 (by decide) hf21 (fun _ h9 => h9) rfl dX2_loseWater_17 ?_
        refine lv_iload_n hx hb dX2_loseWater_20 rfl (lv_at hl 2 rfl) ?_
        refine va_iald (cA := cI) (n := 64) (f := T2_0 4) hx hb hK hP 4 0 rfl rfl (vp_in_nI (by omega) (by decide)) dX2_loseWater_21 ?_
        refine lv_isub hx hb dX2_loseWater_22 ?_
        refine lv_iload_n hx hb dX2_loseWater_23 rfl (lv_at hl 1 rfl) ?_
        refine lv_isub hx hb dX2_loseWater_24 ?_
        refine lv_iconst (v := 0) hx hb dX2_loseWater_25 (by decide) ?_
        refine va_mmax hx hb (hml.trans hl.1.symm) hown hm132 hs_max hi_Math hc_max (Nat.le_of_ble_eq_true rfl) (Nat.le_of_ble_eq_true rfl) (Nat.zero_le _) (Nat.zero_le _) dX2_loseWater_26 ?_
        refine lv_istore_n (lv' := [(3, .int (zmax (((T2_0 2 (nI i2).toNatClampNeg) - (T2_0 4 (nI i2).toNatClampNeg)) - x) 0)), (0, .ref (a 0)), (1, .int x), (2, .int (nI i2))]) hx hb dX2_loseWater_29 rfl hl (by decide) rfl (fun ls hl => ?_)
        refine lv_aload_n hx hb dX2_loseWater_30 rfl (lv_at hl 1 rfl) ?_
        refine va_get (D := (dC, dI)) (ci := 2) (v := .ref (a 2)) (C := RX2) (T := TX2) (N := 18) hx hb hts hinX2 hown hK hP 0 rfl rfl 6 (by decide) hf15 (fun _ h9 => h9) rfl dX2_loseWater_31 ?_
        refine lv_iload_n hx hb dX2_loseWater_34 rfl (lv_at hl 3 rfl) ?_
        refine lv_iload_n hx hb dX2_loseWater_35 rfl (lv_at hl 0 rfl) ?_
        refine lv_sipush (v := 200) hx hb dX2_loseWater_36 (by decide) ?_
        refine va_mmin hx hb (hml.trans hl.1.symm) hown hm137 hs_min hi_Math hc_min (Nat.le_of_ble_eq_true rfl) (Nat.le_of_ble_eq_true rfl) (Nat.zero_le _) (Nat.zero_le _) dX2_loseWater_39 ?_
        obtain ⟨S3, eS3⟩ : ∃ z : sS, z = s_put T2_0 2 ((nI i2).toNatClampNeg) (zmin (zmax (((T2_0 2 (nI i2).toNatClampNeg) - (T2_0 4 (nI i2).toNatClampNeg)) - x) 0) 200) := ⟨_, rfl⟩
        refine va_iast (cA := cI) (n := 64) (f := T2_0 2) hx hb hK hP hD hS 2 0 rfl rfl (vp_in_nI (by omega) (by decide)) dX2_loseWater_42 (fun H locs hP hD hS => ?_)
        have hP : va_P (dC, dI) vwCl (sW cI a S3) H := by rw [eS3]; exact hP
        have hD : va_D A (sW cI a S3) := by rw [eS3]; exact hD
        have hGS3 : geo h w S3 := by rw [eS3]; exact geo_put hGT2_0 (Or.inl (by decide)) _
        refine lv_aload_n hx hb dX2_loseWater_43 rfl (lv_at hl 1 rfl) ?_
        refine lv_dup hx hb dX2_loseWater_44 rfl ?_
        refine va_get (D := (dC, dI)) (ci := 2) (v := .int (S3 0 3)) (C := RX2) (T := TX2) (N := 18) hx hb hts hinX2 hown hK hP 0 rfl rfl 3 (by decide) hf65 (fun _ h9 => h9) rfl dX2_loseWater_45 ?_
        refine lv_iload_n hx hb dX2_loseWater_48 rfl (lv_at hl 0 rfl) ?_
        refine lv_aload_n hx hb dX2_loseWater_49 rfl (lv_at hl 1 rfl) ?_
        refine va_get (D := (dC, dI)) (ci := 2) (v := .ref (a 2)) (C := RX2) (T := TX2) (N := 18) hx hb hts hinX2 hown hK hP 0 rfl rfl 6 (by decide) hf15 (fun _ h9 => h9) rfl dX2_loseWater_50 ?_
        refine lv_iload_n hx hb dX2_loseWater_53 rfl (lv_at hl 3 rfl) ?_
        refine va_iald (cA := cI) (n := 64) (f := S3 2) hx hb hK hP 2 0 rfl rfl (vp_in_nI (by omega) (by decide)) dX2_loseWater_54 ?_
        refine lv_isub hx hb dX2_loseWater_55 ?_
        refine lv_iadd hx hb dX2_loseWater_56 ?_
        obtain ⟨S4, eS4⟩ : ∃ z : sS, z = s_put S3 0 3 ((S3 0 3) + ((zmax (((T2_0 2 (nI i2).toNatClampNeg) - (T2_0 4 (nI i2).toNatClampNeg)) - x) 0) - (S3 2 (nI i2).toNatClampNeg))) := ⟨_, rfl⟩
        refine va_put (D := (dC, dI)) (ci := 2) (v := .int ((S3 0 3) + ((zmax (((T2_0 2 (nI i2).toNatClampNeg) - (T2_0 4 (nI i2).toNatClampNeg)) - x) 0) - (S3 2 (nI i2).toNatClampNeg)))) (ty := .int) (C := RX2) (T := TX2) (N := 18) hx hb hts hinX2 tyX2 tyX2_ok nmX2 hown hK hP hD hS 0 rfl rfl 3 (by decide) hf65 (fun _ h9 => h9) rfl (by decide +kernel) rfl rfl (Nat.le_of_ble_eq_true rfl) dX2_loseWater_57 (fun H locs hP hD hS => ?_)
        have hP : va_P (dC, dI) vwCl (sW cI a S4) H := by rw [eS4]; exact hP
        have hD : va_D A (sW cI a S4) := by rw [eS4]; exact hD
        have hGS4 : geo h w S4 := by rw [eS4]; exact geo_put hGS3 (Or.inr (by decide)) _
        refine lv_iinc (v := nI (i2 + 1)) (lv' := [(2, .int (nI (i2 + 1))), (3, .int (zmax (((T2_0 2 (nI i2).toNatClampNeg) - (T2_0 4 (nI i2).toNatClampNeg)) - x) 0)), (0, .ref (a 0)), (1, .int x)]) hx hb dX2_loseWater_60 hl (k := 3) rfl (show nI i2 + Int32.ofInt 1 = nI (i2 + 1) from nI_1 i2) (by decide) rfl (fun ls hl => ?_)
        refine lv_goto (tgt := 2) hx hb dX2_loseWater_63 (by decide) ?_
        exact ih2 (i2 + 1) S4 _ _ ls (by omega) (by (try rw [eS4]); (try rw [eS3]); (try rw [eT2_0]); rfl) (hGS4) hP hD hS (lv_sub hl [2, 3, 0] rfl)
  exact lp2 (h * w) 0 S _ _ ls (by omega) rfl (hG0) hP hD hS (lv_sub hl [1, 2, 0] rfl)
end
section
set_option maxHeartbeats 4000000 in
set_option maxRecDepth 100000 in
theorem c_X2_clearCrop (l : Launch) (dC : Nat → ClassId) (dI : Nat → Nat → Nat) (cI : ClassId) (a : Nat → Nat) (S : sS) (i : Int32) (hC : vp_in i 64) : zV l yX2_clearCrop wsX2_clearCrop { frames := 0, cells := 0, slots := 0, locals := 0 } (dC, dI) cI [.ref (a 0), .int i] (sW cI a S) (sW cI a (sl_clear S i)) := by
  refine zV_of (cc := cX2_clearCrop) (maxL := 2) (ret := none) (by decide) rfl (Nat.le_of_ble_eq_true rfl) ?_
  intro p e s m below meth c A ls C0 hl
  obtain ⟨hx, hb, hr, hml, hown, hts, hlocks, hK, hN, hA, hP, hD, hS⟩ := C0
  have hown : s.vm.findClass RX2 = some m.cls := hown
  have hl : lv_has ls 2 [(0, .ref (a 0)), (1, .int i)] := hl
  have hf30 := hts (.fieldLink RX2 30 "PaddyTerraces$Slope" "crop" "[I") (by decide +kernel)
  have hf33 := hts (.fieldLink RX2 33 "PaddyTerraces$Slope" "age" "[I") (by decide +kernel)
  have hf36 := hts (.fieldLink RX2 36 "PaddyTerraces$Slope" "hardness" "[I") (by decide +kernel)
  have hf39 := hts (.fieldLink RX2 39 "PaddyTerraces$Slope" "drowned" "[I") (by decide +kernel)
  have hf42 := hts (.fieldLink RX2 42 "PaddyTerraces$Slope" "dry" "[I") (by decide +kernel)
  have hinX2 : ∀ w ∈ wsX20, w ∈ wsX2_clearCrop := by decide +kernel
  have hS0 := hS
  refine lv_aload_n hx hb dX2_clearCrop_0 rfl (lv_at hl 0 rfl) ?_
  refine va_get (D := (dC, dI)) (ci := 2) (v := .ref (a 7)) (C := RX2) (T := TX2) (N := 18) hx hb hts hinX2 hown hK hP 0 rfl rfl 11 (by decide) hf30 (fun _ h9 => h9) rfl dX2_clearCrop_1 ?_
  refine lv_iload_n hx hb dX2_clearCrop_4 rfl (lv_at hl 1 rfl) ?_
  refine lv_iconst (v := 0) hx hb dX2_clearCrop_5 (by decide) ?_
  obtain ⟨S1, eS1⟩ : ∃ z : sS, z = s_put S 7 i.toNatClampNeg 0 := ⟨_, rfl⟩
  refine va_iast (cA := cI) (n := 64) (f := S 7) hx hb hK hP hD hS 7 0 rfl rfl hC dX2_clearCrop_6 (fun H locs hP hD hS => ?_)
  have hP : va_P (dC, dI) vwCl (sW cI a S1) H := by rw [eS1]; exact hP
  have hD : va_D A (sW cI a S1) := by rw [eS1]; exact hD
  refine lv_aload_n hx hb dX2_clearCrop_7 rfl (lv_at hl 0 rfl) ?_
  refine va_get (D := (dC, dI)) (ci := 2) (v := .ref (a 8)) (C := RX2) (T := TX2) (N := 18) hx hb hts hinX2 hown hK hP 0 rfl rfl 12 (by decide) hf33 (fun _ h9 => h9) rfl dX2_clearCrop_8 ?_
  refine lv_iload_n hx hb dX2_clearCrop_11 rfl (lv_at hl 1 rfl) ?_
  refine lv_iconst (v := 0) hx hb dX2_clearCrop_12 (by decide) ?_
  obtain ⟨S2, eS2⟩ : ∃ z : sS, z = s_put S1 8 i.toNatClampNeg 0 := ⟨_, rfl⟩
  refine va_iast (cA := cI) (n := 64) (f := S1 8) hx hb hK hP hD hS 8 0 rfl rfl hC dX2_clearCrop_13 (fun H locs hP hD hS => ?_)
  have hP : va_P (dC, dI) vwCl (sW cI a S2) H := by rw [eS2]; exact hP
  have hD : va_D A (sW cI a S2) := by rw [eS2]; exact hD
  refine lv_aload_n hx hb dX2_clearCrop_14 rfl (lv_at hl 0 rfl) ?_
  refine va_get (D := (dC, dI)) (ci := 2) (v := .ref (a 9)) (C := RX2) (T := TX2) (N := 18) hx hb hts hinX2 hown hK hP 0 rfl rfl 13 (by decide) hf36 (fun _ h9 => h9) rfl dX2_clearCrop_15 ?_
  refine lv_iload_n hx hb dX2_clearCrop_18 rfl (lv_at hl 1 rfl) ?_
  refine lv_iconst (v := 0) hx hb dX2_clearCrop_19 (by decide) ?_
  obtain ⟨S3, eS3⟩ : ∃ z : sS, z = s_put S2 9 i.toNatClampNeg 0 := ⟨_, rfl⟩
  refine va_iast (cA := cI) (n := 64) (f := S2 9) hx hb hK hP hD hS 9 0 rfl rfl hC dX2_clearCrop_20 (fun H locs hP hD hS => ?_)
  have hP : va_P (dC, dI) vwCl (sW cI a S3) H := by rw [eS3]; exact hP
  have hD : va_D A (sW cI a S3) := by rw [eS3]; exact hD
  refine lv_aload_n hx hb dX2_clearCrop_21 rfl (lv_at hl 0 rfl) ?_
  refine va_get (D := (dC, dI)) (ci := 2) (v := .ref (a 10)) (C := RX2) (T := TX2) (N := 18) hx hb hts hinX2 hown hK hP 0 rfl rfl 14 (by decide) hf39 (fun _ h9 => h9) rfl dX2_clearCrop_22 ?_
  refine lv_iload_n hx hb dX2_clearCrop_25 rfl (lv_at hl 1 rfl) ?_
  refine lv_iconst (v := 0) hx hb dX2_clearCrop_26 (by decide) ?_
  obtain ⟨S4, eS4⟩ : ∃ z : sS, z = s_put S3 10 i.toNatClampNeg 0 := ⟨_, rfl⟩
  refine va_iast (cA := cI) (n := 64) (f := S3 10) hx hb hK hP hD hS 10 0 rfl rfl hC dX2_clearCrop_27 (fun H locs hP hD hS => ?_)
  have hP : va_P (dC, dI) vwCl (sW cI a S4) H := by rw [eS4]; exact hP
  have hD : va_D A (sW cI a S4) := by rw [eS4]; exact hD
  refine lv_aload_n hx hb dX2_clearCrop_28 rfl (lv_at hl 0 rfl) ?_
  refine va_get (D := (dC, dI)) (ci := 2) (v := .ref (a 11)) (C := RX2) (T := TX2) (N := 18) hx hb hts hinX2 hown hK hP 0 rfl rfl 15 (by decide) hf42 (fun _ h9 => h9) rfl dX2_clearCrop_29 ?_
  refine lv_iload_n hx hb dX2_clearCrop_32 rfl (lv_at hl 1 rfl) ?_
  refine lv_iconst (v := 0) hx hb dX2_clearCrop_33 (by decide) ?_
  obtain ⟨S5, eS5⟩ : ∃ z : sS, z = s_put S4 11 i.toNatClampNeg 0 := ⟨_, rfl⟩
  refine va_iast (cA := cI) (n := 64) (f := S4 11) hx hb hK hP hD hS 11 0 rfl rfl hC dX2_clearCrop_34 (fun H locs hP hD hS => ?_)
  have hP : va_P (dC, dI) vwCl (sW cI a S5) H := by rw [eS5]; exact hP
  have hD : va_D A (sW cI a S5) := by rw [eS5]; exact hD
  have hZ : S5 = sl_clear S i := (by rw [eS5, eS4, eS3, eS2, eS1]; first | rfl | (simp only [sl_clear]; done))
  rw [hZ] at hP hD
  exact zV_ret hx hb hr hlocks hP hD hS dX2_clearCrop_35
set_option maxHeartbeats 4000000 in
set_option maxRecDepth 100000 in
theorem c_X2_hardening (l : Launch) (dC : Nat → ClassId) (dI : Nat → Nat → Nat) (cI : ClassId) (a : Nat → Nat) (S : sS) (i : Int32) (hC : vp_in i 64) : zI l yX2_hardening wsX2_hardening { frames := 1, cells := 0, slots := 0, locals := 22 } (dC, dI) cI [.ref (a 0), .int i] (sW cI a S) (sW cI a S) (sl_hard S i) := by
  refine zI_of (cc := cX2_hardening) (maxL := 2) (ret := (some .int)) (by decide) rfl (Nat.le_of_ble_eq_true rfl) ?_
  intro p e s m below meth c A ls C0 hl
  obtain ⟨hx, hb, hr, hml, hown, hts, hlocks, hK, hN, hA, hP, hD, hS⟩ := C0
  have hown : s.vm.findClass RX2 = some m.cls := hown
  have hl : lv_has ls 2 [(0, .ref (a 0)), (1, .int i)] := hl
  have hf15 := hts (.fieldLink RX2 15 "PaddyTerraces$Slope" "depth" "[I") (by decide +kernel)
  have hf39 := hts (.fieldLink RX2 39 "PaddyTerraces$Slope" "drowned" "[I") (by decide +kernel)
  have hf42 := hts (.fieldLink RX2 42 "PaddyTerraces$Slope" "dry" "[I") (by decide +kernel)
  have hi_X3 := hts (.initialized RX3) (by decide +kernel)
  have hst_isWithin := hts (.static yX3_isWithin) (by decide +kernel)
  have hinX2 : ∀ w ∈ wsX20, w ∈ wsX2_hardening := by decide +kernel
  have hS0 := hS
  refine lv_aload_n hx hb dX2_hardening_0 rfl (lv_at hl 0 rfl) ?_
  refine va_get (D := (dC, dI)) (ci := 2) (v := .ref (a 10)) (C := RX2) (T := TX2) (N := 18) hx hb hts hinX2 hown hK hP 0 rfl rfl 14 (by decide) hf39 (fun _ h9 => h9) rfl dX2_hardening_1 ?_
  refine lv_iload_n hx hb dX2_hardening_4 rfl (lv_at hl 1 rfl) ?_
  refine va_iald (cA := cI) (n := 64) (f := S 10) hx hb hK hP 10 0 rfl rfl hC dX2_hardening_5 ?_
  refine lv_if_gt (tgt := 18) hx hb dX2_hardening_6 (by decide) (fun c_1 => ?_) (fun c_1 => ?_)
  · refine lv_bipush (v := (-3)) hx hb dX2_hardening_18 (by decide) ?_
    exact zI_ret hx hb hr hlocks hP hD hS rfl (by first | rfl | (simp only [sl_hard, if_pos c_1]; done)) dX2_hardening_20
  · refine lv_aload_n hx hb dX2_hardening_9 rfl (lv_at hl 0 rfl) ?_
    refine va_get (D := (dC, dI)) (ci := 2) (v := .ref (a 11)) (C := RX2) (T := TX2) (N := 18) hx hb hts hinX2 hown hK hP 0 rfl rfl 15 (by decide) hf42 (fun _ h9 => h9) rfl dX2_hardening_10 ?_
    refine lv_iload_n hx hb dX2_hardening_13 rfl (lv_at hl 1 rfl) ?_
    refine va_iald (cA := cI) (n := 64) (f := S 11) hx hb hK hP 11 0 rfl rfl hC dX2_hardening_14 ?_
    refine lv_if_le (tgt := 21) hx hb dX2_hardening_15 (by decide) (fun c_2 => ?_) (fun c_2 => ?_)
    · refine lv_aload_n hx hb dX2_hardening_21 rfl (lv_at hl 0 rfl) ?_
      refine va_get (D := (dC, dI)) (ci := 2) (v := .ref (a 2)) (C := RX2) (T := TX2) (N := 18) hx hb hts hinX2 hown hK hP 0 rfl rfl 6 (by decide) hf15 (fun _ h9 => h9) rfl dX2_hardening_22 ?_
      refine lv_iload_n hx hb dX2_hardening_25 rfl (lv_at hl 1 rfl) ?_
      refine va_iald (cA := cI) (n := 64) (f := S 2) hx hb hK hP 2 0 rfl rfl hC dX2_hardening_26 ?_
      refine lv_iconst (v := 5) hx hb dX2_hardening_27 (by decide) ?_
      refine lv_bipush (v := 25) hx hb dX2_hardening_28 (by decide) ?_
      refine zI_SN (pre := (sW cI a S)) (wc := ([] : va_W)) (post := ([] : va_W)) (w1 := ([] : va_W)) ⟨hx, hb, hml, hown, hts⟩ (c_X3_isWithin l dC dI cI (S 2 i.toNatClampNeg) 5 25) ⟨va_cnB 3 hts gX2_hardening_X3_isWithin_n155 rfl rfl rfl hN hi_X3 (by decide +kernel) ⟨Nat.le_of_ble_eq_true rfl, Nat.le_of_ble_eq_true rfl⟩, hst_isWithin, trivial⟩ (by simp only [List.append_assoc, List.append_nil, List.nil_append]) hK hN hP hD hS hA rfl hl.1 rfl (Nat.le_of_ble_eq_true rfl) dX2_hardening_30 ⟨Nat.zero_le _, Nat.zero_le _⟩ (fun H locs hP hD hS => ?_)
      have hP : va_P (dC, dI) vwCl (sW cI a S) H := by simpa only [List.append_assoc, List.append_nil, List.nil_append] using hP
      have hD : va_D A (sW cI a S) := by simpa only [List.append_assoc, List.append_nil, List.nil_append] using hD
      refine lv_if_eq (tgt := 40) hx hb dX2_hardening_33 (by decide) (fun c_3 => ?_) (fun c_3 => ?_)
      · refine lv_iconst (v := 1) hx hb dX2_hardening_40 (by decide) ?_
        exact zI_ret hx hb hr hlocks hP hD hS rfl (by first | rfl | (simp only [sl_hard, if_neg c_1, if_pos c_2, if_pos c_3]; done)) dX2_hardening_41
      · refine lv_iconst (v := 2) hx hb dX2_hardening_36 (by decide) ?_
        refine lv_goto (tgt := 41) hx hb dX2_hardening_37 (by decide) ?_
        exact zI_ret hx hb hr hlocks hP hD hS rfl (by first | rfl | (simp only [sl_hard, if_neg c_1, if_pos c_2, if_neg c_3]; done)) dX2_hardening_41
    · refine lv_bipush (v := (-3)) hx hb dX2_hardening_18 (by decide) ?_
      exact zI_ret hx hb hr hlocks hP hD hS rfl (by first | rfl | (simp only [sl_hard, if_neg c_1, if_neg c_2]; done)) dX2_hardening_20
set_option maxHeartbeats 4000000 in
set_option maxRecDepth 100000 in
theorem c_X2_growCrop (l : Launch) (dC : Nat → ClassId) (dI : Nat → Nat → Nat) (cI : ClassId) (a : Nat → Nat) (h w : Nat) (S : sS) (i : Int32) (hG0 : geo h w S) (hC : vp_in i 64) : zV l yX2_growCrop wsX2_growCrop { frames := 2, cells := 0, slots := 0, locals := 43 } (dC, dI) cI [.ref (a 0), .int i] (sW cI a S) (sW cI a (sl_grow S i)) := by
  refine zV_of (cc := cX2_growCrop) (maxL := 4) (ret := none) (by decide) rfl (Nat.le_of_ble_eq_true rfl) ?_
  intro p e s m below meth c A ls C0 hl
  obtain ⟨hx, hb, hr, hml, hown, hts, hlocks, hK, hN, hA, hP, hD, hS⟩ := C0
  have hown : s.vm.findClass RX2 = some m.cls := hown
  have hl : lv_has ls 4 [(0, .ref (a 0)), (1, .int i)] := hl
  have hf15 := hts (.fieldLink RX2 15 "PaddyTerraces$Slope" "depth" "[I") (by decide +kernel)
  have hf33 := hts (.fieldLink RX2 33 "PaddyTerraces$Slope" "age" "[I") (by decide +kernel)
  have hf36 := hts (.fieldLink RX2 36 "PaddyTerraces$Slope" "hardness" "[I") (by decide +kernel)
  have hf39 := hts (.fieldLink RX2 39 "PaddyTerraces$Slope" "drowned" "[I") (by decide +kernel)
  have hf42 := hts (.fieldLink RX2 42 "PaddyTerraces$Slope" "dry" "[I") (by decide +kernel)
  have hf68 := hts (.fieldLink RX2 68 "PaddyTerraces$Slope" "died" "I") (by decide +kernel)
  have hc_max := hts (.code Lib.Math.max.name Lib.Math.max.code 2 (some .int)) (by decide +kernel)
  have hc_min := hts (.code Lib.Math.min.name Lib.Math.min.code 2 (some .int)) (by decide +kernel)
  have hi_Math := hts (.initialized "java/lang/Math") (by decide +kernel)
  have hm132 := hts (.methodLink RX2 132 Lib.Math.max.name) (by decide +kernel)
  have hm137 := hts (.methodLink RX2 137 Lib.Math.min.name) (by decide +kernel)
  have hs_max := hts (.static Lib.Math.max.name) (by decide +kernel)
  have hs_min := hts (.static Lib.Math.min.name) (by decide +kernel)
  have hinX2 : ∀ w ∈ wsX20, w ∈ wsX2_growCrop := by decide +kernel
  have hS0 := hS
  have hN64 := geo_hw hG0
  have hW9 := geo_w hG0
  obtain ⟨-, -, hh2, hh8, hw2, hw8⟩ := id hG0
  refine lv_aload_n hx hb dX2_growCrop_0 rfl (lv_at hl 0 rfl) ?_
  refine va_get (D := (dC, dI)) (ci := 2) (v := .ref (a 8)) (C := RX2) (T := TX2) (N := 18) hx hb hts hinX2 hown hK hP 0 rfl rfl 12 (by decide) hf33 (fun _ h9 => h9) rfl dX2_growCrop_1 ?_
  refine lv_iload_n hx hb dX2_growCrop_4 rfl (lv_at hl 1 rfl) ?_
  refine lv_dup2_11 hx hb dX2_growCrop_5 rfl rfl ?_
  refine va_iald (cA := cI) (n := 64) (f := S 8) hx hb hK hP 8 0 rfl rfl hC dX2_growCrop_6 ?_
  refine lv_iconst (v := 1) hx hb dX2_growCrop_7 (by decide) ?_
  refine lv_iadd hx hb dX2_growCrop_8 ?_
  obtain ⟨S1, eS1⟩ : ∃ z : sS, z = s_put S 8 i.toNatClampNeg ((S 8 i.toNatClampNeg) + 1) := ⟨_, rfl⟩
  refine va_iast (cA := cI) (n := 64) (f := S 8) hx hb hK hP hD hS 8 0 rfl rfl hC dX2_growCrop_9 (fun H locs hP hD hS => ?_)
  have hP : va_P (dC, dI) vwCl (sW cI a S1) H := by rw [eS1]; exact hP
  have hD : va_D A (sW cI a S1) := by rw [eS1]; exact hD
  have hGS1 : geo h w S1 := by rw [eS1]; exact geo_put hG0 (Or.inl (by decide)) _
  refine lv_iconst (v := 5) hx hb dX2_growCrop_10 (by decide) ?_
  refine lv_aload_n hx hb dX2_growCrop_11 rfl (lv_at hl 0 rfl) ?_
  refine va_get (D := (dC, dI)) (ci := 2) (v := .ref (a 8)) (C := RX2) (T := TX2) (N := 18) hx hb hts hinX2 hown hK hP 0 rfl rfl 12 (by decide) hf33 (fun _ h9 => h9) rfl dX2_growCrop_12 ?_
  refine lv_iload_n hx hb dX2_growCrop_15 rfl (lv_at hl 1 rfl) ?_
  refine va_iald (cA := cI) (n := 64) (f := S1 8) hx hb hK hP 8 0 rfl rfl hC dX2_growCrop_16 ?_
  refine lv_iconst (v := 2) hx hb dX2_growCrop_17 (by decide) ?_
  refine lv_imul hx hb dX2_growCrop_18 ?_
  refine lv_iconst (v := 3) hx hb dX2_growCrop_19 (by decide) ?_
  refine lv_idiv hx hb dX2_growCrop_20 (by decide) ?_
  refine lv_iadd hx hb dX2_growCrop_21 ?_
  refine lv_bipush (v := 45) hx hb dX2_growCrop_22 (by decide) ?_
  refine va_mmin hx hb (hml.trans hl.1.symm) hown hm137 hs_min hi_Math hc_min (Nat.le_of_ble_eq_true rfl) (Nat.le_of_ble_eq_true rfl) (Nat.zero_le _) (Nat.zero_le _) dX2_growCrop_24 ?_
  refine lv_istore_n (lv' := [(2, .int (zmin (5 + (((S1 8 i.toNatClampNeg) * 2) / 3)) 45)), (0, .ref (a 0)), (1, .int i)]) hx hb dX2_growCrop_27 rfl hl (by decide) rfl (fun ls hl => ?_)
  refine lv_aload_n hx hb dX2_growCrop_28 rfl (lv_at hl 1 rfl) ?_
  refine va_get (D := (dC, dI)) (ci := 2) (v := .ref (a 10)) (C := RX2) (T := TX2) (N := 18) hx hb hts hinX2 hown hK hP 0 rfl rfl 14 (by decide) hf39 (fun _ h9 => h9) rfl dX2_growCrop_29 ?_
  refine lv_iload_n hx hb dX2_growCrop_32 rfl (lv_at hl 2 rfl) ?_
  refine lv_aload_n hx hb dX2_growCrop_33 rfl (lv_at hl 1 rfl) ?_
  refine va_get (D := (dC, dI)) (ci := 2) (v := .ref (a 2)) (C := RX2) (T := TX2) (N := 18) hx hb hts hinX2 hown hK hP 0 rfl rfl 6 (by decide) hf15 (fun _ h9 => h9) rfl dX2_growCrop_34 ?_
  refine lv_iload_n hx hb dX2_growCrop_37 rfl (lv_at hl 2 rfl) ?_
  refine va_iald (cA := cI) (n := 64) (f := S1 2) hx hb hK hP 2 0 rfl rfl hC dX2_growCrop_38 ?_
  refine lv_iload_n hx hb dX2_growCrop_39 rfl (lv_at hl 0 rfl) ?_
  have hjv2 : ∀ v2 : Int32, v2 = (if (S1 2 i.toNatClampNeg) ≤ (zmin (5 + (((S1 8 i.toNatClampNeg) * 2) / 3)) 45) then 0 else ((S1 10 i.toNatClampNeg) + 1)) → W p l e ({ frames := 2, cells := 0, slots := 0, locals := 43 } : Room) s m [.ref (a 0), .int i].toArray below meth c H locs 0 0 (zVq (dC, dI) A (sW cI a (sl_grow S i)) below [.ref (a 0), .int i].toArray s 0 0) (F0 m 55 ls (.int v2 :: [.int i, .ref (a 10)])) := by
    intro v2 ev2
    obtain ⟨S3, eS3⟩ : ∃ z : sS, z = s_put S1 10 i.toNatClampNeg v2 := ⟨_, rfl⟩
    refine va_iast (cA := cI) (n := 64) (f := S1 10) hx hb hK hP hD hS 10 0 rfl rfl hC dX2_growCrop_55 (fun H locs hP hD hS => ?_)
    have hP : va_P (dC, dI) vwCl (sW cI a S3) H := by rw [eS3]; exact hP
    have hD : va_D A (sW cI a S3) := by rw [eS3]; exact hD
    have hGS3 : geo h w S3 := by rw [eS3]; exact geo_put hGS1 (Or.inl (by decide)) _
    refine lv_aload_n hx hb dX2_growCrop_56 rfl (lv_at hl 1 rfl) ?_
    refine va_get (D := (dC, dI)) (ci := 2) (v := .ref (a 11)) (C := RX2) (T := TX2) (N := 18) hx hb hts hinX2 hown hK hP 0 rfl rfl 15 (by decide) hf42 (fun _ h9 => h9) rfl dX2_growCrop_57 ?_
    refine lv_iload_n hx hb dX2_growCrop_60 rfl (lv_at hl 2 rfl) ?_
    refine lv_aload_n hx hb dX2_growCrop_61 rfl (lv_at hl 1 rfl) ?_
    refine va_get (D := (dC, dI)) (ci := 2) (v := .ref (a 2)) (C := RX2) (T := TX2) (N := 18) hx hb hts hinX2 hown hK hP 0 rfl rfl 6 (by decide) hf15 (fun _ h9 => h9) rfl dX2_growCrop_62 ?_
    refine lv_iload_n hx hb dX2_growCrop_65 rfl (lv_at hl 2 rfl) ?_
    refine va_iald (cA := cI) (n := 64) (f := S3 2) hx hb hK hP 2 0 rfl rfl hC dX2_growCrop_66 ?_
    have hjv4 : ∀ v4 : Int32, v4 = (if (S3 2 i.toNatClampNeg) = 0 then ((S3 11 i.toNatClampNeg) + 1) else 0) → W p l e ({ frames := 2, cells := 0, slots := 0, locals := 43 } : Room) s m [.ref (a 0), .int i].toArray below meth c H locs 0 0 (zVq (dC, dI) A (sW cI a (sl_grow S i)) below [.ref (a 0), .int i].toArray s 0 0) (F0 m 82 ls (.int v4 :: [.int i, .ref (a 11)])) := by
      intro v4 ev4
      obtain ⟨S5, eS5⟩ : ∃ z : sS, z = s_put S3 11 i.toNatClampNeg v4 := ⟨_, rfl⟩
      refine va_iast (cA := cI) (n := 64) (f := S3 11) hx hb hK hP hD hS 11 0 rfl rfl hC dX2_growCrop_82 (fun H locs hP hD hS => ?_)
      have hP : va_P (dC, dI) vwCl (sW cI a S5) H := by rw [eS5]; exact hP
      have hD : va_D A (sW cI a S5) := by rw [eS5]; exact hD
      have hGS5 : geo h w S5 := by rw [eS5]; exact geo_put hGS3 (Or.inl (by decide)) _
      refine lv_aload_n hx hb dX2_growCrop_83 rfl (lv_at hl 1 rfl) ?_
      refine va_get (D := (dC, dI)) (ci := 2) (v := .ref (a 10)) (C := RX2) (T := TX2) (N := 18) hx hb hts hinX2 hown hK hP 0 rfl rfl 14 (by decide) hf39 (fun _ h9 => h9) rfl dX2_growCrop_84 ?_
      refine lv_iload_n hx hb dX2_growCrop_87 rfl (lv_at hl 2 rfl) ?_
      refine va_iald (cA := cI) (n := 64) (f := S5 10) hx hb hK hP 10 0 rfl rfl hC dX2_growCrop_88 ?_
      refine lv_iconst (v := 4) hx hb dX2_growCrop_89 (by decide) ?_
      refine lv_icmp_ge (tgt := 103) hx hb dX2_growCrop_90 (by decide) (fun c_6 => ?_) (fun c_6 => ?_)
      · refine lv_aload_n hx hb dX2_growCrop_103 rfl (lv_at hl 1 rfl) ?_
        refine lv_iload_n hx hb dX2_growCrop_104 rfl (lv_at hl 2 rfl) ?_
        obtain ⟨S7, eS7⟩ : ∃ z : sS, z = sl_clear S5 i := ⟨_, rfl⟩
        refine zV_V (pre := ([] : va_W)) (wc := sW cI a S5) (post := ([] : va_W)) (w1 := sW cI a S7) ⟨hx, hb, hml, hown, hts⟩ (by rw [eS7]; exact c_X2_clearCrop l dC dI cI a S5 i hC) (cwV 1 hts gX2_growCrop_X2_clearCrop rfl rfl rfl (by decide +kernel) ⟨Nat.le_of_ble_eq_true rfl, Nat.le_of_ble_eq_true rfl⟩) (by simp only [List.append_assoc, List.append_nil, List.nil_append]) hK hN (ci := 2) (q0 := 0) rfl rfl rfl hP hD hS hA rfl hl.1 rfl (Nat.le_of_ble_eq_true rfl) dX2_growCrop_105 ⟨Nat.zero_le _, Nat.zero_le _⟩ (fun H locs hP hD hS => ?_)
        have hP : va_P (dC, dI) vwCl (sW cI a S7) H := by simpa only [List.append_assoc, List.append_nil, List.nil_append] using hP
        have hD : va_D A (sW cI a S7) := by simpa only [List.append_assoc, List.append_nil, List.nil_append] using hD
        have hGS7 : geo h w S7 := by rw [eS7]; exact geo_sam hGS5 (sam_clear S5 i)
        refine lv_aload_n hx hb dX2_growCrop_108 rfl (lv_at hl 1 rfl) ?_
        refine lv_dup hx hb dX2_growCrop_109 rfl ?_
        refine va_get (D := (dC, dI)) (ci := 2) (v := .int (S7 0 4)) (C := RX2) (T := TX2) (N := 18) hx hb hts hinX2 hown hK hP 0 rfl rfl 4 (by decide) hf68 (fun _ h9 => h9) rfl dX2_growCrop_110 ?_
        refine lv_iconst (v := 1) hx hb dX2_growCrop_113 (by decide) ?_
        refine lv_iadd hx hb dX2_growCrop_114 ?_
        obtain ⟨S8, eS8⟩ : ∃ z : sS, z = s_put S7 0 4 ((S7 0 4) + 1) := ⟨_, rfl⟩
        refine va_put (D := (dC, dI)) (ci := 2) (v := .int ((S7 0 4) + 1)) (ty := .int) (C := RX2) (T := TX2) (N := 18) hx hb hts hinX2 tyX2 tyX2_ok nmX2 hown hK hP hD hS 0 rfl rfl 4 (by decide) hf68 (fun _ h9 => h9) rfl (by decide +kernel) rfl rfl (Nat.le_of_ble_eq_true rfl) dX2_growCrop_115 (fun H locs hP hD hS => ?_)
        have hP : va_P (dC, dI) vwCl (sW cI a S8) H := by rw [eS8]; exact hP
        have hD : va_D A (sW cI a S8) := by rw [eS8]; exact hD
        have hGS8 : geo h w S8 := by rw [eS8]; exact geo_put hGS7 (Or.inr (by decide)) _
        refine lv_goto (tgt := 150) hx hb dX2_growCrop_118 (by decide) ?_
        have hZ : S8 = sl_grow S i := (by have e9 : S5 = sl_dry (sl_wet (s_put S 8 i.toNatClampNeg (S 8 i.toNatClampNeg + 1)) i.toNatClampNeg) i.toNatClampNeg := (by rw [eS5, ev4, eS3, ev2, eS1]; rfl); unfold sl_grow; rw [← e9]; unfold sl_end; simp only [if_pos c_6]; rw [eS8, eS7]; first | done | rfl)
        rw [hZ] at hP hD
        exact zV_ret hx hb hr hlocks hP hD hS dX2_growCrop_150
      · refine lv_aload_n hx hb dX2_growCrop_93 rfl (lv_at hl 1 rfl) ?_
        refine va_get (D := (dC, dI)) (ci := 2) (v := .ref (a 11)) (C := RX2) (T := TX2) (N := 18) hx hb hts hinX2 hown hK hP 0 rfl rfl 15 (by decide) hf42 (fun _ h9 => h9) rfl dX2_growCrop_94 ?_
        refine lv_iload_n hx hb dX2_growCrop_97 rfl (lv_at hl 2 rfl) ?_
        refine va_iald (cA := cI) (n := 64) (f := S5 11) hx hb hK hP 11 0 rfl rfl hC dX2_growCrop_98 ?_
        refine lv_iconst (v := 5) hx hb dX2_growCrop_99 (by decide) ?_
        refine lv_icmp_lt (tgt := 121) hx hb dX2_growCrop_100 (by decide) (fun c_9 => ?_) (fun c_9 => ?_)
        · refine lv_aload_n hx hb dX2_growCrop_121 rfl (lv_at hl 1 rfl) ?_
          refine va_get (D := (dC, dI)) (ci := 2) (v := .ref (a 9)) (C := RX2) (T := TX2) (N := 18) hx hb hts hinX2 hown hK hP 0 rfl rfl 13 (by decide) hf36 (fun _ h9 => h9) rfl dX2_growCrop_122 ?_
          refine lv_iload_n hx hb dX2_growCrop_125 rfl (lv_at hl 2 rfl) ?_
          refine va_iald (cA := cI) (n := 64) (f := S5 9) hx hb hK hP 9 0 rfl rfl hC dX2_growCrop_126 ?_
          refine lv_aload_n hx hb dX2_growCrop_127 rfl (lv_at hl 1 rfl) ?_
          refine lv_iload_n hx hb dX2_growCrop_128 rfl (lv_at hl 2 rfl) ?_
          refine zI_V (pre := ([] : va_W)) (wc := sW cI a S5) (post := ([] : va_W)) (w1 := sW cI a S5) ⟨hx, hb, hml, hown, hts⟩ (c_X2_hardening l dC dI cI a S5 i hC) (cwV 1 hts gX2_growCrop_X2_hardening rfl rfl rfl (by decide +kernel) ⟨Nat.le_of_ble_eq_true rfl, Nat.le_of_ble_eq_true rfl⟩) (by simp only [List.append_assoc, List.append_nil, List.nil_append]) hK hN (ci := 2) (q0 := 0) rfl rfl rfl hP hD hS hA rfl hl.1 rfl (Nat.le_of_ble_eq_true rfl) dX2_growCrop_129 ⟨Nat.zero_le _, Nat.zero_le _⟩ (fun H locs hP hD hS => ?_)
          have hP : va_P (dC, dI) vwCl (sW cI a S5) H := by simpa only [List.append_assoc, List.append_nil, List.nil_append] using hP
          have hD : va_D A (sW cI a S5) := by simpa only [List.append_assoc, List.append_nil, List.nil_append] using hD
          refine lv_iadd hx hb dX2_growCrop_132 ?_
          refine lv_istore_n (lv' := [(3, .int ((S5 9 i.toNatClampNeg) + (sl_hard S5 i))), (2, .int (zmin (5 + (((S1 8 i.toNatClampNeg) * 2) / 3)) 45)), (0, .ref (a 0)), (1, .int i)]) hx hb dX2_growCrop_133 rfl hl (by decide) rfl (fun ls hl => ?_)
          refine lv_aload_n hx hb dX2_growCrop_134 rfl (lv_at hl 2 rfl) ?_
          refine va_get (D := (dC, dI)) (ci := 2) (v := .ref (a 9)) (C := RX2) (T := TX2) (N := 18) hx hb hts hinX2 hown hK hP 0 rfl rfl 13 (by decide) hf36 (fun _ h9 => h9) rfl dX2_growCrop_135 ?_
          refine lv_iload_n hx hb dX2_growCrop_138 rfl (lv_at hl 3 rfl) ?_
          refine lv_iload_n hx hb dX2_growCrop_139 rfl (lv_at hl 0 rfl) ?_
          refine lv_iconst (v := 0) hx hb dX2_growCrop_140 (by decide) ?_
          refine va_mmax hx hb (hml.trans hl.1.symm) hown hm132 hs_max hi_Math hc_max (Nat.le_of_ble_eq_true rfl) (Nat.le_of_ble_eq_true rfl) (Nat.zero_le _) (Nat.zero_le _) dX2_growCrop_141 ?_
          refine lv_bipush (v := 100) hx hb dX2_growCrop_144 (by decide) ?_
          refine va_mmin hx hb (hml.trans hl.1.symm) hown hm137 hs_min hi_Math hc_min (Nat.le_of_ble_eq_true rfl) (Nat.le_of_ble_eq_true rfl) (Nat.zero_le _) (Nat.zero_le _) dX2_growCrop_146 ?_
          obtain ⟨S10, eS10⟩ : ∃ z : sS, z = s_put S5 9 i.toNatClampNeg (zmin (zmax ((S5 9 i.toNatClampNeg) + (sl_hard S5 i)) 0) 100) := ⟨_, rfl⟩
          refine va_iast (cA := cI) (n := 64) (f := S5 9) hx hb hK hP hD hS 9 0 rfl rfl hC dX2_growCrop_149 (fun H locs hP hD hS => ?_)
          have hP : va_P (dC, dI) vwCl (sW cI a S10) H := by rw [eS10]; exact hP
          have hD : va_D A (sW cI a S10) := by rw [eS10]; exact hD
          have hGS10 : geo h w S10 := by rw [eS10]; exact geo_put hGS5 (Or.inl (by decide)) _
          have hZ : S10 = sl_grow S i := (by have e9 : S5 = sl_dry (sl_wet (s_put S 8 i.toNatClampNeg (S 8 i.toNatClampNeg + 1)) i.toNatClampNeg) i.toNatClampNeg := (by rw [eS5, ev4, eS3, ev2, eS1]; rfl); unfold sl_grow; rw [← e9]; unfold sl_end; simp only [if_neg c_6, if_pos c_9]; rw [eS10]; first | done | rfl)
          rw [hZ] at hP hD
          exact zV_ret hx hb hr hlocks hP hD hS dX2_growCrop_150
        · refine lv_aload_n hx hb dX2_growCrop_103 rfl (lv_at hl 1 rfl) ?_
          refine lv_iload_n hx hb dX2_growCrop_104 rfl (lv_at hl 2 rfl) ?_
          obtain ⟨S11, eS11⟩ : ∃ z : sS, z = sl_clear S5 i := ⟨_, rfl⟩
          refine zV_V (pre := ([] : va_W)) (wc := sW cI a S5) (post := ([] : va_W)) (w1 := sW cI a S11) ⟨hx, hb, hml, hown, hts⟩ (by rw [eS11]; exact c_X2_clearCrop l dC dI cI a S5 i hC) (cwV 1 hts gX2_growCrop_X2_clearCrop rfl rfl rfl (by decide +kernel) ⟨Nat.le_of_ble_eq_true rfl, Nat.le_of_ble_eq_true rfl⟩) (by simp only [List.append_assoc, List.append_nil, List.nil_append]) hK hN (ci := 2) (q0 := 0) rfl rfl rfl hP hD hS hA rfl hl.1 rfl (Nat.le_of_ble_eq_true rfl) dX2_growCrop_105 ⟨Nat.zero_le _, Nat.zero_le _⟩ (fun H locs hP hD hS => ?_)
          have hP : va_P (dC, dI) vwCl (sW cI a S11) H := by simpa only [List.append_assoc, List.append_nil, List.nil_append] using hP
          have hD : va_D A (sW cI a S11) := by simpa only [List.append_assoc, List.append_nil, List.nil_append] using hD
          have hGS11 : geo h w S11 := by rw [eS11]; exact geo_sam hGS5 (sam_clear S5 i)
          refine lv_aload_n hx hb dX2_growCrop_108 rfl (lv_at hl 1 rfl) ?_
          refine lv_dup hx hb dX2_growCrop_109 rfl ?_
          refine va_get (D := (dC, dI)) (ci := 2) (v := .int (S11 0 4)) (C := RX2) (T := TX2) (N := 18) hx hb hts hinX2 hown hK hP 0 rfl rfl 4 (by decide) hf68 (fun _ h9 => h9) rfl dX2_growCrop_110 ?_
          refine lv_iconst (v := 1) hx hb dX2_growCrop_113 (by decide) ?_
          refine lv_iadd hx hb dX2_growCrop_114 ?_
          obtain ⟨S12, eS12⟩ : ∃ z : sS, z = s_put S11 0 4 ((S11 0 4) + 1) := ⟨_, rfl⟩
          refine va_put (D := (dC, dI)) (ci := 2) (v := .int ((S11 0 4) + 1)) (ty := .int) (C := RX2) (T := TX2) (N := 18) hx hb hts hinX2 tyX2 tyX2_ok nmX2 hown hK hP hD hS 0 rfl rfl 4 (by decide) hf68 (fun _ h9 => h9) rfl (by decide +kernel) rfl rfl (Nat.le_of_ble_eq_true rfl) dX2_growCrop_115 (fun H locs hP hD hS => ?_)
          have hP : va_P (dC, dI) vwCl (sW cI a S12) H := by rw [eS12]; exact hP
          have hD : va_D A (sW cI a S12) := by rw [eS12]; exact hD
          have hGS12 : geo h w S12 := by rw [eS12]; exact geo_put hGS11 (Or.inr (by decide)) _
          refine lv_goto (tgt := 150) hx hb dX2_growCrop_118 (by decide) ?_
          have hZ : S12 = sl_grow S i := (by have e9 : S5 = sl_dry (sl_wet (s_put S 8 i.toNatClampNeg (S 8 i.toNatClampNeg + 1)) i.toNatClampNeg) i.toNatClampNeg := (by rw [eS5, ev4, eS3, ev2, eS1]; rfl); unfold sl_grow; rw [← e9]; unfold sl_end; simp only [if_neg c_6, if_neg c_9]; rw [eS12, eS11]; first | done | rfl)
          rw [hZ] at hP hD
          exact zV_ret hx hb hr hlocks hP hD hS dX2_growCrop_150
    refine lv_if_ne (tgt := 81) hx hb dX2_growCrop_67 (by decide) (fun c_13 => ?_) (fun c_13 => ?_)
    · refine lv_iconst (v := 0) hx hb dX2_growCrop_81 (by decide) ?_
      exact hjv4 _ (by simp only [if_neg c_13])
    · refine lv_aload_n hx hb dX2_growCrop_70 rfl (lv_at hl 1 rfl) ?_
      refine va_get (D := (dC, dI)) (ci := 2) (v := .ref (a 11)) (C := RX2) (T := TX2) (N := 18) hx hb hts hinX2 hown hK hP 0 rfl rfl 15 (by decide) hf42 (fun _ h9 => h9) rfl dX2_growCrop_71 ?_
      refine lv_iload_n hx hb dX2_growCrop_74 rfl (lv_at hl 2 rfl) ?_
      refine va_iald (cA := cI) (n := 64) (f := S3 11) hx hb hK hP 11 0 rfl rfl hC dX2_growCrop_75 ?_
      refine lv_iconst (v := 1) hx hb dX2_growCrop_76 (by decide) ?_
      refine lv_iadd hx hb dX2_growCrop_77 ?_
      refine lv_goto (tgt := 82) hx hb dX2_growCrop_78 (by decide) ?_
      exact hjv4 _ (by simp only [if_pos c_13])
  refine lv_icmp_le (tgt := 54) hx hb dX2_growCrop_40 (by decide) (fun c_14 => ?_) (fun c_14 => ?_)
  · refine lv_iconst (v := 0) hx hb dX2_growCrop_54 (by decide) ?_
    exact hjv2 _ (by simp only [if_pos c_14])
  · refine lv_aload_n hx hb dX2_growCrop_43 rfl (lv_at hl 1 rfl) ?_
    refine va_get (D := (dC, dI)) (ci := 2) (v := .ref (a 10)) (C := RX2) (T := TX2) (N := 18) hx hb hts hinX2 hown hK hP 0 rfl rfl 14 (by decide) hf39 (fun _ h9 => h9) rfl dX2_growCrop_44 ?_
    refine lv_iload_n hx hb dX2_growCrop_47 rfl (lv_at hl 2 rfl) ?_
    refine va_iald (cA := cI) (n := 64) (f := S1 10) hx hb hK hP 10 0 rfl rfl hC dX2_growCrop_48 ?_
    refine lv_iconst (v := 1) hx hb dX2_growCrop_49 (by decide) ?_
    refine lv_iadd hx hb dX2_growCrop_50 ?_
    refine lv_goto (tgt := 55) hx hb dX2_growCrop_51 (by decide) ?_
    exact hjv2 _ (by simp only [if_neg c_14])
set_option maxHeartbeats 4000000 in
set_option maxRecDepth 100000 in
theorem c_X2_growRice (l : Launch) (dC : Nat → ClassId) (dI : Nat → Nat → Nat) (cI : ClassId) (a : Nat → Nat) (h w : Nat) (S : sS) (hG0 : geo h w S) : zV l yX2_growRice wsX2_growRice { frames := 3, cells := 0, slots := 0, locals := 66 } (dC, dI) cI [.ref (a 0)] (sW cI a S) (sW cI a (sl_rice h w S)) := by
  refine zV_of (cc := cX2_growRice) (maxL := 2) (ret := none) (by decide) rfl (Nat.le_of_ble_eq_true rfl) ?_
  intro p e s m below meth c A ls C0 hl
  obtain ⟨hx, hb, hr, hml, hown, hts, hlocks, hK, hN, hA, hP, hD, hS⟩ := C0
  have hown : s.vm.findClass RX2 = some m.cls := hown
  have hl : lv_has ls 2 [(0, .ref (a 0))] := hl
  have hf30 := hts (.fieldLink RX2 30 "PaddyTerraces$Slope" "crop" "[I") (by decide +kernel)
  have hinX2 : ∀ w ∈ wsX20, w ∈ wsX2_growRice := by decide +kernel
  have hS0 := hS
  have hN64 := geo_hw hG0
  have hW9 := geo_w hG0
  obtain ⟨-, -, hh2, hh8, hw2, hw8⟩ := id hG0
  refine lv_iconst (v := 0) hx hb dX2_growRice_0 (by decide) ?_
  refine lv_istore_n (lv' := [(1, .int 0), (0, .ref (a 0))]) hx hb dX2_growRice_1 rfl hl (by decide) rfl (fun ls hl => ?_)
  have lp2 : ∀ (n2 i2 : Nat) (T2_0 : sS) (H : Heap) (locs : List Loc) (ls : Array Slot), i2 + n2 = h * w → T2_0 = itr (fun i T => sl_rice1 T i) i2 S → geo h w T2_0 → va_P (dC, dI) vwCl (sW cI a T2_0) H → va_D A (sW cI a T2_0) → va_S A s.heap H locs → lv_has ls 2 [(0, .ref (a 0)), (1, .int (nI i2))] → W p l e ({ frames := 3, cells := 0, slots := 0, locals := 66 } : Room) s m [.ref (a 0)].toArray below meth c H locs 0 0 (zVq (dC, dI) A (sW cI a (sl_rice h w S)) below [.ref (a 0)].toArray s 0 0) (F0 m 2 ls []) := by
    intro n2
    induction n2 with
    | zero =>
      intro i2 T2_0 H locs ls hi2 eT2_0 hGT2_0 hP hD hS hl
      have hi2 : i2 = h * w := by omega
      rw [hi2] at eT2_0
      refine lv_iload_n hx hb dX2_growRice_2 rfl (lv_at hl 1 rfl) ?_
      refine lv_aload_n hx hb dX2_growRice_3 rfl (lv_at hl 0 rfl) ?_
      refine zI_V (pre := ([] : va_W)) (wc := sW cI a T2_0) (post := ([] : va_W)) (w1 := sW cI a T2_0) ⟨hx, hb, hml, hown, hts⟩ (c_X2_cells l dC dI cI a T2_0) (cwV 0 hts gX2_growRice_X2_cells rfl rfl rfl (by decide +kernel) ⟨Nat.le_of_ble_eq_true rfl, Nat.le_of_ble_eq_true rfl⟩) (by simp only [List.append_assoc, List.append_nil, List.nil_append]) hK hN (ci := 2) (q0 := 0) rfl rfl rfl hP hD hS hA rfl hl.1 rfl (Nat.le_of_ble_eq_true rfl) dX2_growRice_4 ⟨Nat.zero_le _, Nat.zero_le _⟩ (fun H locs hP hD hS => ?_)
      have hP : va_P (dC, dI) vwCl (sW cI a T2_0) H := by simpa only [List.append_assoc, List.append_nil, List.nil_append] using hP
      have hD : va_D A (sW cI a T2_0) := by simpa only [List.append_assoc, List.append_nil, List.nil_append] using hD
      refine lv_icmp_ge (tgt := 30) hx hb dX2_growRice_7 (by decide) (fun c_1 => ?_) (fun c_1 => ?_)
      · have hZ : T2_0 = sl_rice h w S := (by rw [eT2_0]; first | rfl | (simp only [sl_rice, if_pos c_1]; done) | (unfold sl_rice; simp only [if_pos c_1]; done))
        rw [hZ] at hP hD
        exact zV_ret hx hb hr hlocks hP hD hS dX2_growRice_30
      · exact absurd (by rw [show _ = nI (h * w) from (geo_cells hGT2_0)]; exact nI_le (by omega) (by omega)) c_1
    | succ n2 ih2 =>
      intro i2 T2_0 H locs ls hi2 eT2_0 hGT2_0 hP hD hS hl
      refine lv_iload_n hx hb dX2_growRice_2 rfl (lv_at hl 1 rfl) ?_
      refine lv_aload_n hx hb dX2_growRice_3 rfl (lv_at hl 0 rfl) ?_
      refine zI_V (pre := ([] : va_W)) (wc := sW cI a T2_0) (post := ([] : va_W)) (w1 := sW cI a T2_0) ⟨hx, hb, hml, hown, hts⟩ (c_X2_cells l dC dI cI a T2_0) (cwV 0 hts gX2_growRice_X2_cells rfl rfl rfl (by decide +kernel) ⟨Nat.le_of_ble_eq_true rfl, Nat.le_of_ble_eq_true rfl⟩) (by simp only [List.append_assoc, List.append_nil, List.nil_append]) hK hN (ci := 2) (q0 := 0) rfl rfl rfl hP hD hS hA rfl hl.1 rfl (Nat.le_of_ble_eq_true rfl) dX2_growRice_4 ⟨Nat.zero_le _, Nat.zero_le _⟩ (fun H locs hP hD hS => ?_)
      have hP : va_P (dC, dI) vwCl (sW cI a T2_0) H := by simpa only [List.append_assoc, List.append_nil, List.nil_append] using hP
      have hD : va_D A (sW cI a T2_0) := by simpa only [List.append_assoc, List.append_nil, List.nil_append] using hD
      refine lv_icmp_ge (tgt := 30) hx hb dX2_growRice_7 (by decide) (fun c_2 => ?_) (fun c_2 => ?_)
      · exact absurd c_2 (by rw [show _ = nI (h * w) from (geo_cells hGT2_0)]; exact nI_ge (by omega) (by omega))
      · refine lv_aload_n hx hb dX2_growRice_10 rfl (lv_at hl 0 rfl) ?_
        refine va_get (D := (dC, dI)) (ci := 2) (v := .ref (a 7)) (C := RX2) (T := TX2) (N := 18) hx hb hts hinX2 hown hK hP 0 rfl rfl 11 (by decide) hf30 (fun _ h9 => h9) rfl dX2_growRice_11 ?_
        refine lv_iload_n hx hb dX2_growRice_14 rfl (lv_at hl 1 rfl) ?_
        refine va_iald (cA := cI) (n := 64) (f := T2_0 7) hx hb hK hP 7 0 rfl rfl (vp_in_nI (by omega) (by decide)) dX2_growRice_15 ?_
        refine lv_if_eq (tgt := 24) hx hb dX2_growRice_16 (by decide) (fun c_3 => ?_) (fun c_3 => ?_)
        · refine lv_iinc (v := nI (i2 + 1)) (lv' := [(1, .int (nI (i2 + 1))), (0, .ref (a 0))]) hx hb dX2_growRice_24 hl (k := 1) rfl (show nI i2 + Int32.ofInt 1 = nI (i2 + 1) from nI_1 i2) (by decide) rfl (fun ls hl => ?_)
          refine lv_goto (tgt := 2) hx hb dX2_growRice_27 (by decide) ?_
          exact ih2 (i2 + 1) T2_0 _ _ ls (by omega) (by rw [itr_s, ← eT2_0]; simp only [sl_rice1, if_neg c_2, if_pos c_3]; first | done | rfl | ( first | done | rfl)) (hGT2_0) hP hD hS (lv_sub hl [1, 0] rfl)
        · refine lv_aload_n hx hb dX2_growRice_19 rfl (lv_at hl 0 rfl) ?_
          refine lv_iload_n hx hb dX2_growRice_20 rfl (lv_at hl 1 rfl) ?_
          obtain ⟨S4, eS4⟩ : ∃ z : sS, z = sl_grow T2_0 (nI i2) := ⟨_, rfl⟩
          refine zV_V (pre := ([] : va_W)) (wc := sW cI a T2_0) (post := ([] : va_W)) (w1 := sW cI a S4) ⟨hx, hb, hml, hown, hts⟩ (by rw [eS4]; exact c_X2_growCrop l dC dI cI a h w T2_0 (nI i2) hGT2_0 (vp_in_nI (by omega) (by decide))) (cwV 1 hts gX2_growRice_X2_growCrop rfl rfl rfl (by decide +kernel) ⟨Nat.le_of_ble_eq_true rfl, Nat.le_of_ble_eq_true rfl⟩) (by simp only [List.append_assoc, List.append_nil, List.nil_append]) hK hN (ci := 2) (q0 := 0) rfl rfl rfl hP hD hS hA rfl hl.1 rfl (Nat.le_of_ble_eq_true rfl) dX2_growRice_21 ⟨Nat.zero_le _, Nat.zero_le _⟩ (fun H locs hP hD hS => ?_)
          have hP : va_P (dC, dI) vwCl (sW cI a S4) H := by simpa only [List.append_assoc, List.append_nil, List.nil_append] using hP
          have hD : va_D A (sW cI a S4) := by simpa only [List.append_assoc, List.append_nil, List.nil_append] using hD
          have hGS4 : geo h w S4 := by rw [eS4]; exact geo_sam hGT2_0 (sam_grow T2_0 (nI i2))
          refine lv_iinc (v := nI (i2 + 1)) (lv' := [(1, .int (nI (i2 + 1))), (0, .ref (a 0))]) hx hb dX2_growRice_24 hl (k := 1) rfl (show nI i2 + Int32.ofInt 1 = nI (i2 + 1) from nI_1 i2) (by decide) rfl (fun ls hl => ?_)
          refine lv_goto (tgt := 2) hx hb dX2_growRice_27 (by decide) ?_
          exact ih2 (i2 + 1) S4 _ _ ls (by omega) (by rw [itr_s, ← eT2_0]; simp only [sl_rice1, if_neg c_2, if_neg c_3]; first | done | rfl | ((try rw [eS4]); first | done | rfl)) (hGS4) hP hD hS (lv_sub hl [1, 0] rfl)
  exact lp2 (h * w) 0 S _ _ ls (by omega) rfl (hG0) hP hD hS (lv_sub hl [1, 0] rfl)
end

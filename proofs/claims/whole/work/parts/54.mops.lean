/-! rows at a written place; what the reference's calls answer and leave (thrown is 0 at their begin) -/
section VK
variable {p : Program} {l : Launch} {e : Env} {R : Room} {s : State} {m : MethodId} {args : Array Value} {below : List Frame} {meth : Method} {c : Code} {H : Heap} {locs : List Loc} {cells slots : Nat} {Q : State → Prop}
variable {cc : ByteArray} {D : va_G} {cl : List vw_C} {tys : List (ClassId × FieldType)} {ws : va_W} {A : Nat → Prop} {H0 : Heap} {a pc : Nat} {ls : Array Slot} {rest : List Value}
theorem va_ialdk (k : Nat) (hexec : p.tables.exec = Jvm.exec) (hb : c.code = cc) (hK : va_K D cl tys s) (hP : va_P D cl ws H) (q0 t0 : Nat) {cA : ClassId} {n : Nat} {f : Nat → Int32} (ha : ws[q0]? = some (a, .inl (cA, n, .inl f))) (ht : tys[t0]? = some (cA, .int)) {i : Int32} (hi : i = nI k) (hk : k < n) (hn : n < 2 ^ 31) (hdg : decode cc pc = .ok (.iaload, 1)) (kk : W p l e R s m args below meth c H locs cells slots Q (F0 m (pc + 1) ls (.int (f k) :: rest))) : W p l e R s m args below meth c H locs cells slots Q (F0 m pc ls (.int i :: .ref a :: rest)) := by
  refine va_iald hexec hb hK hP q0 t0 ha ht (i := i) (by rw [hi]; exact vp_in_nI hk hn) hdg ?_
  rw [hi, nI_clamp (by omega)]
  exact kk
theorem va_iastk (k : Nat) (hexec : p.tables.exec = Jvm.exec) (hb : c.code = cc) (hK : va_K D cl tys s) (hP : va_P D cl ws H) (hD : va_D A ws) (hS : va_S A H0 H locs) (q0 t0 : Nat) {cA : ClassId} {n : Nat} {f : Nat → Int32} (ha : ws[q0]? = some (a, .inl (cA, n, .inl f))) (ht : tys[t0]? = some (cA, .int)) {i x : Int32} (hi : i = nI k) (hk : k < n) (hn : n < 2 ^ 31) (hdg : decode cc pc = .ok (.iastore, 1))
    (kk : ∀ (H1 : Heap) (locs1 : List Loc), va_P D cl (ws.set q0 (a, .inl (cA, n, .inl (upd f k x)))) H1 → va_D A (ws.set q0 (a, .inl (cA, n, .inl (upd f k x)))) → va_S A H0 H1 locs1 → W p l e R s m args below meth c H1 locs1 cells slots Q (F0 m (pc + 1) ls rest)) : W p l e R s m args below meth c H locs cells slots Q (F0 m pc ls (.int x :: .int i :: .ref a :: rest)) := by
  have e9 : i.toNatClampNeg = k := by rw [hi, nI_clamp (by omega)]
  refine va_iast hexec hb hK hP hD hS q0 t0 ha ht (i := i) (x := x) (by rw [hi]; exact vp_in_nI hk hn) hdg ?_
  rw [e9]
  exact kk
theorem va_mmaxz (hexec : p.tables.exec = Jvm.exec) (hb : c.code = cc) (hml : c.maxLocals = ls.size) {own : String} {index : Nat} (hown : s.vm.findClass own = some m.cls) (hlink : (Cond.methodLink own index Lib.Math.max.name).before args s = true) (hstat : (Cond.static Lib.Math.max.name).before args s = true) (hini : (Cond.initialized "java/lang/Math").before args s = true) (hcode : (Cond.code Lib.Math.max.name Lib.Math.max.code 2 (some .int)).before args s = true) (hframes : 1 ≤ R.frames) (hlocals : (rest.map fun v => v.category).sum + 13 ≤ R.locals) (hc : cells ≤ R.cells) (hs : slots ≤ R.slots) {x y : Int32} (hdg : decode cc pc = .ok (.invokestatic index, 3)) (kk : W p l e R s m args below meth c H locs cells slots Q (F0 m (pc + 3) ls (.int (zmax x y) :: rest))) : W p l e R s m args below meth c H locs cells slots Q (F0 m pc ls (.int y :: .int x :: rest)) := va_mmax hexec hb hml hown hlink hstat hini hcode hframes hlocals hc hs hdg kk
theorem va_mminz (hexec : p.tables.exec = Jvm.exec) (hb : c.code = cc) (hml : c.maxLocals = ls.size) {own : String} {index : Nat} (hown : s.vm.findClass own = some m.cls) (hlink : (Cond.methodLink own index Lib.Math.min.name).before args s = true) (hstat : (Cond.static Lib.Math.min.name).before args s = true) (hini : (Cond.initialized "java/lang/Math").before args s = true) (hcode : (Cond.code Lib.Math.min.name Lib.Math.min.code 2 (some .int)).before args s = true) (hframes : 1 ≤ R.frames) (hlocals : (rest.map fun v => v.category).sum + 13 ≤ R.locals) (hc : cells ≤ R.cells) (hs : slots ≤ R.slots) {x y : Int32} (hdg : decode cc pc = .ok (.invokestatic index, 3)) (kk : W p l e R s m args below meth c H locs cells slots Q (F0 m (pc + 3) ls (.int (zmin x y) :: rest))) : W p l e R s m args below meth c H locs cells slots Q (F0 m pc ls (.int y :: .int x :: rest)) := va_mmin hexec hb hml hown hlink hstat hini hcode hframes hlocals hc hs hdg kk
end VK
def xok (x : Int32) : Prop := ∃ j : Nat, j < 12 ∧ x = nI j
theorem frm_inx {y x : Int32} (h : frm y) (hx : xok x) : vp_in (y + x) 768 := by
  obtain ⟨j, hj, rfl⟩ := hx
  exact frm_in h hj
theorem xok_w {x : Int32} (h : ¬ is_w x 0 11 = 0) : xok x := by
  obtain ⟨e, h1, -⟩ := isw_n h (by decide)
  have h9 : (x.toNatClampNeg : Int) ≤ 11 := h1
  exact ⟨x.toNatClampNeg, by omega, e⟩
theorem cnt_1 {x : Int32} (h : vp_in x 9) (h3 : x < 3) : vp_in x 7 := by
  obtain ⟨j, hj, rfl⟩ := vp_in_of h (by decide)
  have e : (3 : Int32) = nI 3 := rfl
  rw [e, Int32.lt_iff_toInt_lt, nI_toInt (by omega), nI_toInt (by decide)] at h3
  exact vp_in_nI (by omega) (by decide)
theorem cnt_2 {x : Int32} (h : vp_in x 9) (h3 : 3 ≤ x) (n3 : ¬ x = 3) (n4 : ¬ x = 4) : vp_in (x - 2) 7 := by
  obtain ⟨j, hj, rfl⟩ := vp_in_of h (by decide)
  have e : (3 : Int32) = nI 3 := rfl
  have e4 : (4 : Int32) = nI 4 := rfl
  have e2 : (2 : Int32) = nI 2 := rfl
  rw [e, Int32.le_iff_toInt_le, nI_toInt (by decide), nI_toInt (by omega)] at h3
  rw [e, nI_eq (by omega) (by decide)] at n3
  rw [e4, nI_eq (by omega) (by decide)] at n4
  rw [e2, pk_sub (by omega)]
  exact vp_in_nI (by omega) (by decide)
theorem wea_in {i x : Int32} (hi : ¬ is_w i 0 29 = 0) (hx : ¬ is_w x 0 2 = 0) : vp_in (3 * i + x) 90 := by
  obtain ⟨e, h1, -⟩ := isw_n hi (by decide)
  obtain ⟨e2, h2, -⟩ := isw_n hx (by decide)
  have h9 : (i.toNatClampNeg : Int) ≤ 29 := h1
  have h8 : (x.toNatClampNeg : Int) ≤ 2 := h2
  have e3 : (3 : Int32) = nI 3 := rfl
  rw [e, e2, e3, pk_mul, nI_add]
  exact vp_in_nI (by omega) (by decide)
theorem shr_in {h w : Nat} {m : sS} (g : gem h w m) {f : Int32} (hf : ¬ is_w f 0 (m 1 1 - 1) = 0) : vp_in f 8 := by
  have e1 : (1 : Int32) = nI 1 := rfl
  have h2 := g.2.2.2.2.1
  have h8 := g.2.2.2.2.2
  rw [g.2.1, e1, pk_sub (by omega)] at hf
  exact isw_in hf (by rw [nI_toInt (by omega)]; omega) (by decide)
def mfail (m : sS) (x : Int32) : sS := s_put m 0 0 x
def mset_a (m : sS) (t f v : Int32) : sS := s_put m 3 (mi_at m t f + 2).toNatClampNeg v
def mset_b (m : sS) (t f u v : Int32) : sS := s_put (mset_a m t f v) 3 (mi_at m t f + 3).toNatClampNeg (zmin u (mset_a m t f v 3 (mi_at m t f + 3).toNatClampNeg))
def mset_S (m : sS) (t f u v : Int32) : sS := if mi_isField m t f = 0 then mfail m 1 else if is_w u 20 120 = 0 then mfail m 2 else if is_w v 0 9 = 0 then mfail m 2 else mi_set (mset_b m t f u v) (mi_at m t f + 1) u
def mset_V (m : sS) (t f u v : Int32) : Int32 := if mi_isField m t f = 0 then 0 else if is_w u 20 120 = 0 then 0 else if is_w v 0 9 = 0 then 0 else mset_b m t f u v 3 (mi_at m t f + 1).toNatClampNeg
def mmov_V (m : sS) (t f x : Int32) : Int32 := if mi_isField m t f = 0 then 0 else if is_w x 0 (m 3 (mi_at m t f + 1).toNatClampNeg) = 0 then 0 else x - m 3 (mi_at m t f + 3).toNatClampNeg
def mmov_a (m : sS) (t f x : Int32) : sS := mi_set m (mi_at m t f + 3) x
def mmov_S (m : sS) (t f x : Int32) : sS := if mi_isField m t f = 0 then mfail m 1 else if is_w x 0 (m 3 (mi_at m t f + 1).toNatClampNeg) = 0 then mfail m 2 else s_put (mmov_a m t f x) 1 6 (mmov_a m t f x 1 6 + zabs (x - m 3 (mi_at m t f + 3).toNatClampNeg))
def mtrn_V (m : sS) (t f x : Int32) : Int32 := if mi_isField m t f = 0 then 0 else if is_w x (-1) 1 = 0 then 0 else m 3 (mi_at m t f + 4).toNatClampNeg
def mtrn_S (m : sS) (t f x : Int32) : sS := if mi_isField m t f = 0 then mfail m 1 else if is_w x (-1) 1 = 0 then mfail m 2 else mi_set m (mi_at m t f + 4) x
def mshr_V (m : sS) (f x : Int32) : Int32 := if is_w f 0 (m 1 1 - 1) = 0 then 0 else if is_w x 0 9 = 0 then 0 else m 2 f.toNatClampNeg
def mshr_S (m : sS) (f x : Int32) : sS := if is_w f 0 (m 1 1 - 1) = 0 then mfail m 1 else if is_w x 0 9 = 0 then mfail m 2 else s_put m 2 f.toNatClampNeg x
def mpla_a (m : sS) (t f x : Int32) : sS := s_put (s_put m 3 (mi_at m t f + 5).toNatClampNeg 1) 3 (mi_at m t f + 6).toNatClampNeg x
def mpla_S (m : sS) (t f x : Int32) : sS := if mi_isField m t f = 0 then mfail m 1 else if is_w x 0 20 = 0 then mfail m 2 else if m 3 (mi_at m t f + 5).toNatClampNeg = 1 then mfail m 3 else if m 3 (mi_at m t f + 0).toNatClampNeg ≤ 40 then mpla_a m t f x else mfail m 3
def mpla_V (h w : Nat) (m : sS) (t f x : Int32) : Int32 := if mi_isField m t f = 0 then 0 else if is_w x 0 20 = 0 then 0 else if m 3 (mi_at m t f + 5).toNatClampNeg = 1 then 0 else if m 3 (mi_at m t f + 0).toNatClampNeg ≤ 40 then mi_sum h w (mpla_a m t f x) 5 else 0
def mrea_b (m : sS) (t f : Int32) : Int32 := m 3 (mi_at m t f + 6).toNatClampNeg * m 3 (mi_at m t f + 7).toNatClampNeg / 100
def mrea_v (m : sS) (t f : Int32) : Int32 := if m 3 (mi_at m t f + 0).toNatClampNeg = 0 then mrea_b m t f + mrea_b m t f / 2 else mrea_b m t f
def mrea_a (m : sS) (t f : Int32) : sS := mi_fallow m (mi_at m t f)
def mrea_S (m : sS) (t f : Int32) : sS := if mi_isField m t f = 0 then mfail m 1 else if m 3 (mi_at m t f + 5).toNatClampNeg = 0 then mfail m 2 else if 40 ≤ m 3 (mi_at m t f + 6).toNatClampNeg then s_put (mrea_a m t f) 1 4 (mrea_a m t f 1 4 + mrea_v m t f) else mfail m 2
def mrea_V (m : sS) (t f : Int32) : Int32 := if mi_isField m t f = 0 then 0 else if m 3 (mi_at m t f + 5).toNatClampNeg = 0 then 0 else if 40 ≤ m 3 (mi_at m t f + 6).toNatClampNeg then mrea_v m t f else 0
def mpas_S (h w : Nat) (m : sS) (x : Int32) : sS := if is_w x 1 60 = 0 then mfail m 1 else if m 1 2 + x ≤ 2000 then mi_days h w m x.toNatClampNeg else mfail m 2
def mpas_V (h w : Nat) (m : sS) (x : Int32) : Int32 := if is_w x 1 60 = 0 then 0 else if m 1 2 + x ≤ 2000 then mi_sum h w (mi_days h w m x.toNatClampNeg) 5 else 0
def mfld_S (m : sS) (t f x : Int32) : sS := if mi_isField m t f = 0 then mfail m 1 else if is_w x 0 11 = 0 then mfail m 1 else m
def mfld_V (m : sS) (t f x : Int32) : Int32 := if mi_isField m t f = 0 then 0 else if is_w x 0 11 = 0 then 0 else m 3 (mi_at m t f + x).toNatClampNeg
def mi_count (h w : Nat) (m : sS) (x : Int32) : Int32 := if 3 ≤ x then (if x = 3 then mi_sum h w m 5 else if x = 4 then mi_sum h w m 0 else m 1 (x - 2).toNatClampNeg) else m 1 x.toNatClampNeg
def mcnt_S (m : sS) (x : Int32) : sS := if is_w x 0 8 = 0 then mfail m 1 else m
def mcnt_V (h w : Nat) (m : sS) (x : Int32) : Int32 := if is_w x 0 8 = 0 then 0 else mi_count h w m x
def mwea_S (m : sS) (i x : Int32) : sS := if is_w i 0 29 = 0 then mfail m 1 else if is_w x 0 2 = 0 then mfail m 1 else m
def mwea_V (m : sS) (i x : Int32) : Int32 := if is_w i 0 29 = 0 then 0 else if is_w x 0 2 = 0 then 0 else m 4 (3 * i + x).toNatClampNeg
def mfor_u (h w : Nat) (m : sS) (i : Int32) : sS := mi_days h w (mi_keep m) i.toNatClampNeg
def mfor_S (h w : Nat) (m : sS) (i x : Int32) : sS := if is_w i 1 20 = 0 then mfail m 1 else if is_w x 0 3 = 0 then mfail m 2 else if m 1 2 + i ≤ 2000 then mi_back (mfor_u h w m i) else mfail m 3
def mfor_v (h w : Nat) (u : sS) (x : Int32) : Int32 := if x = 0 then mi_sum h w u 5 else if x = 1 then mi_sum h w u 7 else if x = 2 then u 1 3 - u 5 3 else mi_sum h w u 0
def mfor_V (h w : Nat) (m : sS) (i x : Int32) : Int32 := if is_w i 1 20 = 0 then 0 else if is_w x 0 3 = 0 then 0 else if m 1 2 + i ≤ 2000 then mfor_v h w (mfor_u h w m i) x else 0

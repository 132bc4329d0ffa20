/-! the law's body: what holds in it -/
theorem nan_64 {x : UInt64} (h : isNaN64 x = true) : FP.Core.val64 x = .nan := by
  rw [isNaN64_iff] at h
  refine (FP.Core.dIsNaN_iff x).mp ((FP.Core.isNaN_bits x).mpr ?_)
  have e : x.toNat &&& 0x7fffffffffffffff = x.toNat % 2 ^ 63 := Nat.and_two_pow_sub_one_eq_mod x.toNat 63
  rw [e] at h
  exact h
theorem dep_nan {r q : UInt64} (h : FP.Core.val64 r = .nan ∨ FP.Core.val64 q = .nan) : ¬ Op.cmpValue (FP.dcmp r q) .l = 0 := by
  have e : FP.dcmp r q = none := (FP.Core.dcmp_none r q).mpr h
  rw [e]
  decide
theorem dep_same {r q v : UInt64} (h1 : alike64 r v = true) (h2 : alike64 q v = true) (n : FP.Core.val64 v ≠ .nan) : Op.cmpValue (FP.dcmp r q) .l = 0 := by
  unfold alike64 at h1 h2
  rw [Bool.or_eq_true, decide_eq_true_iff, Bool.and_eq_true] at h1 h2
  have e1 : r = v := by
    rcases h1 with h | ⟨-, h⟩
    · exact h
    · exact absurd (nan_64 h) n
  have e2 : q = v := by
    rcases h2 with h | ⟨-, h⟩
    · exact h
    · exact absurd (nan_64 h) n
  subst e1
  subst e2
  have e : FP.dcmp q q = some .eq := FP.Core.dcmp_self n
  rw [e]
  rfl
theorem dep_ok {a b : Int32} (hb : b ≠ 0) : FP.Core.val64 (FP.ddiv (FP.i2d a) (FP.i2d b)) ≠ .nan := by
  intro h
  have h1 : FP.Core.dIsNaN (FP.Core.ddiv (FP.Core.i2d a) (FP.Core.i2d b)) = true := (FP.Core.dIsNaN_iff _).mpr h
  have h2 : FP.Core.dIsNaN (FP.Core.i2d a) = false := by
    cases hq : FP.Core.dIsNaN (FP.Core.i2d a) with
    | false => rfl
    | true =>
      obtain ⟨s, c, q, e⟩ := FP.Core.i2d_fin a
      rw [FP.Core.dIsNaN_iff, e] at hq
      cases hq
  have h3 := FP.Core.ddiv_out h2 (FP.Core.i2d_fin b) (fun z => FP.Core.i2d_ne_zero hb ((FP.Core.zero_bits2 _).mp z))
  rw [h3] at h1
  cases h1
def lawA (s : State) : Nat → Prop := fun q => s.heap.size ≤ q
def wsF : List Cond := [.fieldLink RL 24 "PaddyTerracesLaw$Sim" "h" "I", .fieldLink RL 28 "PaddyTerracesLaw$Sim" "w" "I", .fieldLink RL 40 "PaddyTerracesLaw$Sim" "calendar" "[[I", .fieldLink RL 44 "PaddyTerracesLaw$Sim" "shares" "[I", .fieldLink RL 70 "PaddyTerracesLaw$Sim" "moved" "I"]
def lawG (p : Program) (s : State) (m : MethodId) (meth : Method) (c : Code) (sc : Nat) (D : va_G) (cI cR cF : ClassId) : Prop :=
  p.tables.exec = Jvm.exec ∧ c.code = code ∧ meth.sig.returnType = ret ∧ c.maxLocals = 26 ∧ s.vm.findClass RL = some m.cls ∧ (∀ w ∈ wsL_law, w.before #[Value.ref sc] s = true) ∧ (∀ w ∈ wsF, w.before #[Value.ref sc] s = true) ∧ meth.locks = false ∧ va_K D vwCl (zTy cI cR cF) s ∧ zN s
theorem lawG_d {p : Program} {s : State} {m : MethodId} {meth : Method} {c : Code} {sc : Nat} {D : va_G} {cI cR cF : ClassId} (h : lawG p s m meth c sc D cI cR cF) (d : Drawn) : lawG p (s.setDrawn d) m meth c sc D cI cR cF := by
  obtain ⟨hx, hb, hr, hml, hown, hts, hfs, hlocks, hK, hN⟩ := h
  exact ⟨hx, hb, hr, hml, hown, dr_words hts d, dr_words hfs d, hlocks, va_K.moved (u := s) (U := s.setDrawn d) (Vm.Alike.refl s.vm) hK, zN_d hN d⟩
theorem za_R {X Z : va_W} {k : Nat} {x : Nat × va_E} (h : Z[k]? = some x) : (X ++ Z)[X.length + k]? = some x := by
  rw [List.getElem?_append_right (by omega), show X.length + k - X.length = k by omega]
  exact h
theorem bdZ_c {cI cR : ClassId} {h w qs : Nat} {M M' S S' : sS} {Z9 : va_W} (hZ : bdZ cI cR h w M S qs Z9) (e : ∀ r j, ¬ (r = 0 ∧ j = 0) → M' r j = M r j) (e2 : ∀ f, S' 1 f = S 1 f) : bdZ cI cR h w M' S' qs Z9 := by
  obtain ⟨q1, q2, q3, sh, cf, z1, z2, z3, z4, z5⟩ := hZ
  refine ⟨q1, q2, q3, sh, cf, by rw [e 0 1 (by omega)]; exact z1, z2, z3, fun f hf => by rw [e2]; exact z4 f hf, fun d hd => ?_⟩
  rw [e 1 d (by omega), e 2 d (by omega), e 3 d (by omega)]
  exact z5 d hd
/-! the class's answers -/
theorem lc_2 {h w : Nat} {M S : sS} : x3_count h w M S 2 = S 0 2 := by unfold x3_count; rw [if_neg (by decide), if_neg (by decide), if_pos (by decide)]
theorem lc_3 {h w : Nat} {M S : sS} : x3_count h w M S 3 = sl_sum h w S 7 := by unfold x3_count; rw [if_neg (by decide), if_neg (by decide), if_neg (by decide), if_pos (by decide)]
theorem lc_4 {h w : Nat} {M S : sS} : x3_count h w M S 4 = sl_sum h w S 2 := by unfold x3_count; rw [if_neg (by decide), if_neg (by decide), if_neg (by decide), if_neg (by decide), if_pos (by decide)]
theorem lc_5 {h w : Nat} {M S : sS} : x3_count h w M S 5 = S 0 3 := by unfold x3_count; rw [if_neg (by decide), if_neg (by decide), if_neg (by decide), if_neg (by decide), if_neg (by decide), if_pos (by decide)]
theorem lc_6 {h w : Nat} {M S : sS} : x3_count h w M S 6 = M 0 0 := by unfold x3_count; rw [if_neg (by decide), if_neg (by decide), if_neg (by decide), if_neg (by decide), if_neg (by decide), if_neg (by decide), if_pos (by decide)]
theorem lc_7 {h w : Nat} {M S : sS} : x3_count h w M S 7 = S 0 4 := by unfold x3_count; rw [if_neg (by decide), if_neg (by decide), if_neg (by decide), if_neg (by decide), if_neg (by decide), if_neg (by decide), if_neg (by decide), if_pos (by decide)]
theorem lc_8 {h w : Nat} {M S : sS} : x3_count h w M S 8 = M 0 1 := by unfold x3_count; rw [if_neg (by decide), if_neg (by decide), if_neg (by decide), if_neg (by decide), if_neg (by decide), if_neg (by decide), if_neg (by decide), if_neg (by decide)]
theorem lo_2 {h w : Nat} {S T : sS} : x3_fore h w S T 2 = T 0 3 - S 0 3 := by unfold x3_fore; rw [if_neg (by decide), if_neg (by decide), if_pos (by decide)]
theorem lf_0 {h w t f : Nat} {S : sS} (g : geo h w S) (ht : t < h) (hf : f < w) : sl_field S (sl_at S (nI t) (nI f)) 0 = S 2 (t * w + f) := by
  have e : (sl_at S (nI t) (nI f)).toNatClampNeg = t * w + f := bl_at g ht hf
  unfold sl_field
  rw [e, if_pos (by decide)]
theorem lf_1 {h w t f : Nat} {S : sS} (g : geo h w S) (ht : t < h) (hf : f < w) : sl_field S (sl_at S (nI t) (nI f)) 1 = S 3 (t * w + f) := by
  have e : (sl_at S (nI t) (nI f)).toNatClampNeg = t * w + f := bl_at g ht hf
  unfold sl_field
  rw [e, if_neg (by decide), if_pos (by decide)]
theorem lf_2 {h w t f : Nat} {S : sS} (g : geo h w S) (ht : t < h) (hf : f < w) : sl_field S (sl_at S (nI t) (nI f)) 2 = S 4 (t * w + f) := by
  have e : (sl_at S (nI t) (nI f)).toNatClampNeg = t * w + f := bl_at g ht hf
  unfold sl_field
  rw [e, if_neg (by decide), if_neg (by decide), if_pos (by decide)]
theorem lf_3 {h w t f : Nat} {S : sS} (g : geo h w S) (ht : t < h) (hf : f < w) : sl_field S (sl_at S (nI t) (nI f)) 3 = S 5 (t * w + f) := by
  have e : (sl_at S (nI t) (nI f)).toNatClampNeg = t * w + f := bl_at g ht hf
  unfold sl_field
  rw [e, if_neg (by decide), if_neg (by decide), if_neg (by decide), if_pos (by decide)]
theorem lf_4 {h w t f : Nat} {S : sS} (g : geo h w S) (ht : t < h) (hf : f < w) : sl_field S (sl_at S (nI t) (nI f)) 4 = S 6 (t * w + f) := by
  have e : (sl_at S (nI t) (nI f)).toNatClampNeg = t * w + f := bl_at g ht hf
  unfold sl_field
  rw [e, if_neg (by decide), if_neg (by decide), if_neg (by decide), if_neg (by decide), if_pos (by decide)]
theorem lf_5 {h w t f : Nat} {S : sS} (g : geo h w S) (ht : t < h) (hf : f < w) : sl_field S (sl_at S (nI t) (nI f)) 5 = S 7 (t * w + f) := by
  have e : (sl_at S (nI t) (nI f)).toNatClampNeg = t * w + f := bl_at g ht hf
  unfold sl_field
  rw [e, if_neg (by decide), if_neg (by decide), if_neg (by decide), if_neg (by decide), if_neg (by decide), if_pos (by decide)]
theorem lf_6 {h w t f : Nat} {S : sS} (g : geo h w S) (ht : t < h) (hf : f < w) : sl_field S (sl_at S (nI t) (nI f)) 6 = S 8 (t * w + f) := by
  have e : (sl_at S (nI t) (nI f)).toNatClampNeg = t * w + f := bl_at g ht hf
  unfold sl_field
  rw [e, if_neg (by decide), if_neg (by decide), if_neg (by decide), if_neg (by decide), if_neg (by decide), if_neg (by decide), if_pos (by decide)]
theorem lf_7 {h w t f : Nat} {S : sS} (g : geo h w S) (ht : t < h) (hf : f < w) : sl_field S (sl_at S (nI t) (nI f)) 7 = S 9 (t * w + f) := by
  have e : (sl_at S (nI t) (nI f)).toNatClampNeg = t * w + f := bl_at g ht hf
  unfold sl_field
  rw [e, if_neg (by decide), if_neg (by decide), if_neg (by decide), if_neg (by decide), if_neg (by decide), if_neg (by decide), if_neg (by decide), if_pos (by decide)]
theorem lf_8 {h w t f : Nat} {S : sS} (g : geo h w S) (ht : t < h) (hf : f < w) : sl_field S (sl_at S (nI t) (nI f)) 8 = S 10 (t * w + f) := by
  have e : (sl_at S (nI t) (nI f)).toNatClampNeg = t * w + f := bl_at g ht hf
  unfold sl_field
  rw [e, if_neg (by decide), if_neg (by decide), if_neg (by decide), if_neg (by decide), if_neg (by decide), if_neg (by decide), if_neg (by decide), if_neg (by decide), if_pos (by decide)]
theorem lf_9 {h w t f : Nat} {S : sS} (g : geo h w S) (ht : t < h) (hf : f < w) : sl_field S (sl_at S (nI t) (nI f)) 9 = S 11 (t * w + f) := by
  have e : (sl_at S (nI t) (nI f)).toNatClampNeg = t * w + f := bl_at g ht hf
  unfold sl_field
  rw [e, if_neg (by decide), if_neg (by decide), if_neg (by decide), if_neg (by decide), if_neg (by decide), if_neg (by decide), if_neg (by decide), if_neg (by decide), if_neg (by decide), if_pos (by decide)]
theorem lf_10 {h w t f : Nat} {S : sS} (g : geo h w S) (ht : t < h) (hf : f < w) : sl_field S (sl_at S (nI t) (nI f)) 10 = S 12 (t * w + f) := by
  have e : (sl_at S (nI t) (nI f)).toNatClampNeg = t * w + f := bl_at g ht hf
  unfold sl_field
  rw [e, if_neg (by decide), if_neg (by decide), if_neg (by decide), if_neg (by decide), if_neg (by decide), if_neg (by decide), if_neg (by decide), if_neg (by decide), if_neg (by decide), if_neg (by decide), if_pos (by decide)]
theorem lf_11 {h w t f : Nat} {S : sS} (g : geo h w S) (ht : t < h) (hf : f < w) : sl_field S (sl_at S (nI t) (nI f)) 11 = S 13 (t * w + f) := by
  have e : (sl_at S (nI t) (nI f)).toNatClampNeg = t * w + f := bl_at g ht hf
  unfold sl_field
  rw [e, if_neg (by decide), if_neg (by decide), if_neg (by decide), if_neg (by decide), if_neg (by decide), if_neg (by decide), if_neg (by decide), if_neg (by decide), if_neg (by decide), if_neg (by decide), if_neg (by decide)]
theorem lt_f {h w t f : Nat} {S : sS} {x : Int32} (g : geo h w S) (ht : t < h) (hf : f < w) (hx : ¬ is_w x 0 11 = 0) : fld_T S (nI t) (nI f) x = 0 := by
  unfold fld_T
  rw [if_neg (geo_has g ht hf), if_neg hx]
theorem lt_d {k : Nat} {S : sS} (hd : S 0 2 = nI k) (hk : k < 100) : pas_T S 1 = 0 ∧ for_T S 1 2 = 0 := by
  have e : S 0 2 + 1 ≤ 2000 := by
    rw [hd, nI_1, y_le, yn (by omega)]
    have : (2000 : Int32).toInt = 2000 := rfl
    omega
  constructor
  · unfold pas_T
    rw [if_neg (by decide), if_pos e]
  · unfold for_T
    rw [if_neg (by decide), if_neg (by decide), if_pos e]
theorem pas_1 (h w : Nat) (M S : sS) : pas_S h w M S 1 = sl_day h w M S := rfl
theorem lw_sum {h w r : Nat} {S : sS} (hN : h * w ≤ 25) (hs : ∀ j, j < h * w → 0 ≤ (S r j).toInt ∧ (S r j).toInt ≤ 200) : (sl_sum h w S r).toInt = yS (fun j => (S r j).toInt) (h * w) ∧ 0 ≤ (sl_sum h w S r).toInt ∧ (sl_sum h w S r).toInt ≤ 5000 := by
  obtain ⟨a1, a2, a3⟩ := yS_itr (g := S r) 0 200 (by omega) ⟨by rw [y0]; omega, by rw [y0]; omega⟩ (h * w) (by omega) hs
  have b := yS_b (g := fun j => (S r j).toInt) (n := h * w) (b := 200) (fun j hj => (hs j hj).2)
  have e : (sl_sum h w S r).toInt = yS (fun j => (S r j).toInt) (h * w) := by
    have : sl_sum h w S r = itr (fun i x => x + S r i.toNatClampNeg) (h * w) 0 := rfl
    rw [this, a1, y0]
    omega
  refine ⟨e, by omega, by omega⟩
/-- what holds when a day begins -/
def lwD (h w k pl rp : Nat) (M S : sS) (sv : Int32) : Prop := yB h w k S ∧ yM M ∧ M 0 0 = sv ∧ 0 ≤ sv.toInt ∧ sv.toInt ≤ 90 * rp ∧ yC h w S + (S 0 4).toInt + rp = pl ∧ pl ≤ 25
/-- while its fields are looked at -/
def lwE (h w k pl rp : Nat) (M S : sS) (sv : Int32) : Prop := lwD h w (k + 1) pl rp M S sv ∧ yK h w (20 + (k + 1 : Nat)) (2 * (k + 1 : Nat)) S
theorem lwD_7 {h w k pl rp : Nat} {M S : sS} {sv : Int32} (I : lwD h w k pl rp M S sv) : (sl_sum h w S 7).toInt = yC h w S ∧ 0 ≤ yC h w S := by
  obtain ⟨⟨g, h5, w5, -, -, -, -, -, -, -, -, hp⟩, -⟩ := I
  have hN := yB_25 h5 w5
  have a := lw_sum (S := S) (r := 7) hN (fun j hj => by have := yC_0 hp j hj; omega)
  exact ⟨a.1, by rw [show yC h w S = (sl_sum h w S 7).toInt from a.1.symm]; exact a.2.1⟩
/-- the water of a day, as the law reckons it -/
theorem lw_wat0 {h w : Nat} {S : sS} {r v sh : Int32} (h5 : h ≤ 5) (w5 : w ≤ 5) (hs : ySh w S) (hr : 0 ≤ r.toInt ∧ r.toInt ≤ 60) (es : sh = sl_shares w S) (hn : sh ≤ 0) : (nI h * nI w * r).toInt = yW h w S r v := by
  obtain ⟨a1, a2, a3⟩ := y_shr w5 hs
  have hN := yB_25 h5 w5
  have z : sl_shares w S = 0 := by
    rw [es, y_le, y0] at hn
    rw [y_ie, y0]
    omega
  have m0 : 0 ≤ ((h * w : Nat) : Int) * r.toInt := Int.mul_nonneg (by omega) hr.1
  have m1 : ((h * w : Nat) : Int) * r.toInt ≤ 25 * 60 := Int.mul_le_mul (by omega) hr.2 hr.1 (by omega)
  unfold yW
  rw [if_pos z, pk_mul, yi_mul (by rw [yn (by omega)]; omega) (by rw [yn (by omega)]; omega), yn (by omega)]
  omega
theorem lw_wat1 {h w : Nat} {S : sS} {r v sh : Int32} (h5 : h ≤ 5) (w5 : w ≤ 5) (hs : ySh w S) (hr : 0 ≤ r.toInt ∧ r.toInt ≤ 60) (hv : 0 ≤ v.toInt ∧ v.toInt ≤ 400) (es : sh = sl_shares w S) (hn : ¬ sh ≤ 0) : (itr (fun i x => x + (fun f => v * S 1 f / sh) i.toNatClampNeg) w (nI h * nI w * r)).toInt = yW h w S r v := by
  subst es
  have hN := yB_25 h5 w5
  have z : ¬ sl_shares w S = 0 := fun e => hn (by rw [e]; decide)
  have m0 : 0 ≤ ((h * w : Nat) : Int) * r.toInt := Int.mul_nonneg (by omega) hr.1
  have m1 : ((h * w : Nat) : Int) * r.toInt ≤ 25 * 60 := Int.mul_le_mul (by omega) hr.2 hr.1 (by omega)
  have e0 : (nI h * nI w * r).toInt = (h * w : Nat) * r.toInt := by
    rw [pk_mul, yi_mul (by rw [yn (by omega)]; omega) (by rw [yn (by omega)]; omega), yn (by omega)]
  obtain ⟨a1, a2, a3⟩ := yS_itr (g := fun f => v * S 1 f / sl_shares w S) (nI h * nI w * r) 400 (by omega) ⟨by rw [e0]; omega, by rw [e0]; omega⟩ w (by omega) (fun i hi => y_inc w5 hs hv z hi)
  rw [a1, e0]
  unfold yW
  rw [if_neg z]
  rfl
/-- the law's checks of a day's water -/
theorem lw_day {h w k pl rp : Nat} {M S : sS} {sv wt mo : Int32} (I : lwD h w k pl rp M S sv) (hk : k < 40) (hw : wt.toInt = yW h w S (M 1 (sl_date S).toNatClampNeg) (M 2 (sl_date S).toNatClampNeg)) (hm : mo.toInt = yS (fun j => (S 4 j).toInt + (M 3 (sl_date S).toNatClampNeg).toInt) (h * w)) :
    ¬ (sl_sum h w S 2 + S 0 3) + wt < sl_sum h w (sl_day h w M S) 2 + sl_day h w M S 0 3 ∧ ¬ sl_sum h w (sl_day h w M S) 2 + sl_day h w M S 0 3 < (sl_sum h w S 2 + S 0 3) + wt - mo ∧ lwE h w k pl rp M (sl_day h w M S) sv ∧ sl_day h w M S 0 2 = nI k + 1 ∧ (∀ f, sl_day h w M S 1 f = S 1 f) := by
  obtain ⟨B, hM, hsv, s1, s2, hc, hp⟩ := I
  obtain ⟨c1, c2, c3, c4, c5, c6⟩ := y_day B hM (by omega)
  obtain ⟨g, h5, w5, hday, hst, hsh, hd, hb, hb2, h04, hcr, hpre⟩ := B
  have hN := yB_25 h5 w5
  have hdt : (sl_date S).toNatClampNeg < 30 := vp_lt (date_in hday (by omega)) (by decide)
  obtain ⟨m1, m2, m3, m4, m5, m6⟩ := hM _ hdt
  have hW := y_W (h := h) (S := S) h5 w5 hsh ⟨m1, m2⟩ ⟨m3, m4⟩
  have a := lw_sum (r := 2) hN hd
  have eb : (sl_sum h w S 2 + S 0 3).toInt = yT h w S := by
    rw [yi_add (by omega) (by omega), a.1]
    rfl
  have hm0 := yS_0 (g := fun j => (S 4 j).toInt + (M 3 (sl_date S).toNatClampNeg).toInt) (n := h * w) (fun j hj => by have := hst j hj; omega)
  have hm1 := yS_b (g := fun j => (S 4 j).toInt + (M 3 (sl_date S).toNatClampNeg).toInt) (n := h * w) (b := 29) (fun j hj => by have := hst j hj; omega)
  obtain ⟨g', -, -, hday', hst', hsh', hd', hb', hb2', h04', hcr', hpre'⟩ := id c1
  have a' := lw_sum (r := 2) hN hd'
  have en : (sl_sum h w (sl_day h w M S) 2 + sl_day h w M S 0 3).toInt = yT h w (sl_day h w M S) := by
    rw [yi_add (by omega) (by omega), a'.1]
    rfl
  have tb : 0 ≤ yT h w S ∧ yT h w S ≤ 505000 := by
    have : yT h w S = (sl_sum h w S 2).toInt + (S 0 3).toInt := by rw [a.1]; rfl
    omega
  have e1 : (sl_sum h w S 2 + S 0 3 + wt).toInt = yT h w S + wt.toInt := by rw [yi_add (by omega) (by omega), eb]
  have e2 : (sl_sum h w S 2 + S 0 3 + wt - mo).toInt = yT h w S + wt.toInt - mo.toInt := by rw [yi_sub (by omega) (by omega), e1]
  refine ⟨by rw [y_lt, e1, en]; omega, by rw [y_lt, e2, en]; omega, ⟨⟨c1, hM, hsv, s1, s2, by omega, hp⟩, c6⟩, by rw [hday', nI_1], fun f => c2 1 f (Or.inl rfl)⟩
theorem yp_0 {S : sS} {i : Nat} {a k : Int} (h : yPost S i a k) (c : S 7 i = 0) : S 8 i = 0 ∧ S 9 i = 0 ∧ S 10 i = 0 ∧ S 11 i = 0 := by
  rcases h with h | h
  · exact h.2
  · rw [h.1] at c
    exact absurd c (by decide)
theorem yp_1 {S : sS} {i : Nat} {a k : Int} (h : yPost S i a k) (c : ¬ S 7 i = 0) : S 7 i = 1 ∧ 1 ≤ (S 8 i).toInt ∧ (S 8 i).toInt ≤ a ∧ 0 ≤ (S 9 i).toInt ∧ (S 9 i).toInt ≤ 100 ∧ (S 9 i).toInt ≤ k ∧ 0 ≤ (S 10 i).toInt ∧ (S 10 i).toInt ≤ 3 ∧ 0 ≤ (S 11 i).toInt ∧ (S 11 i).toInt ≤ 4 ∧ ((S 10 i).toInt ≤ 0 ∨ (S 11 i).toInt ≤ 0) ∧ (0 < (S 11 i).toInt ↔ (S 2 i).toInt = 0) := by
  rcases h with h | h
  · exact absurd h.1 c
  · exact h
/-- what the law looks at in a field -/
theorem lw_fld {h w k pl rp t f : Nat} {M S : sS} {sv : Int32} (I : lwE h w k pl rp M S sv) (ht : t < h) (hf : f < w) :
    geo h w S ∧ h * w ≤ 25 ∧ t * w + f < h * w ∧ (0 ≤ (S 2 (t * w + f)).toInt ∧ (S 2 (t * w + f)).toInt ≤ 200) ∧ (0 ≤ (S 3 (t * w + f)).toInt ∧ (S 3 (t * w + f)).toInt ≤ 120) ∧ (S 2 (t * w + f)).toInt ≤ (S 3 (t * w + f)).toInt + (if f + 1 < w then (S 13 (t * w + f + 1)).toInt else 0) ∧
    (0 ≤ (S 12 (t * w + f)).toInt ∧ (S 12 (t * w + f)).toInt ≤ 40) ∧ (∀ j, j < h * w → 0 ≤ (S 13 j).toInt ∧ (S 13 j).toInt ≤ 1000000) ∧ yPost S (t * w + f) (20 + (k + 1 : Nat)) (2 * (k + 1 : Nat)) := by
  obtain ⟨⟨⟨g, h5, w5, hday, hst, hsh, hd, hb, hb2, h04, hcr, hpre⟩, -⟩, k1, k2, k3⟩ := I
  have hi := y_idx (h := h) ht hf
  exact ⟨g, yB_25 h5 w5, hi, hd _ hi, ⟨(hst _ hi).1, (hst _ hi).2.1⟩, k1 t f ht hf, ⟨(k2 _ hi).1, (k2 _ hi).2.1⟩, fun j hj => (k2 j hj).2.2, k3 _ hi⟩
theorem lw_rT {h w t f : Nat} {S : sS} (g : geo h w S) (ht : t < h) (hf : f < w) (c7 : ¬ S 7 (t * w + f) = 0) (c8 : 40 ≤ S 8 (t * w + f)) : rea_T S (nI t) (nI f) = 0 := by
  unfold rea_T
  rw [if_neg (geo_has g ht hf), bl_at g ht hf, if_neg c7, if_pos c8]
/-- a crop that is reaped -/
theorem lw_reap {h w k pl rp t f : Nat} {M S : sS} {sv : Int32} (I : lwE h w k pl rp M S sv) (hk : k < 40) (ht : t < h) (hf : f < w) (c7 : ¬ S 7 (t * w + f) = 0) :
    0 ≤ (rea_V S (nI t) (nI f)).toInt ∧ ¬ rea_M M S (nI t) (nI f) 0 0 < rea_V S (nI t) (nI f) ∧ rea_S S (nI t) (nI f) 7 (t * w + f) = 0 ∧ geo h w (rea_S S (nI t) (nI f)) ∧ lwE h w k pl (rp + 1) (rea_M M S (nI t) (nI f)) (rea_S S (nI t) (nI f)) (sv + rea_V S (nI t) (nI f)) ∧
    (∀ j, rea_S S (nI t) (nI f) 2 j = S 2 j) ∧ (∀ j, rea_S S (nI t) (nI f) 1 j = S 1 j) ∧ (∀ r j, ¬ (r = 0 ∧ j = 0) → rea_M M S (nI t) (nI f) r j = M r j) := by
  have F := lw_fld I ht hf
  obtain ⟨g, hN, hi, f1, f2, f3, f4, f5, hp⟩ := F
  obtain ⟨p1, p2, p3, p4, p5, p6, p7, p8, p9, p10, p11, p12⟩ := yp_1 hp c7
  have eat : sl_at S (nI t) (nI f) = nI (t * w + f) := by
    unfold sl_at
    rw [g.2.1, pk_mul, nI_add]
  have eS : ∀ r j, rea_S S (nI t) (nI f) r j = if j = t * w + f ∧ 7 ≤ r ∧ r ≤ 11 then 0 else S r j := by
    intro r j
    unfold rea_S
    rw [eat]
    exact y_clr S (by omega) r j
  have gS : geo h w (rea_S S (nI t) (nI f)) := geo_sam g (sam_clear S _)
  have m0 : 0 ≤ (S 8 (t * w + f)).toInt * (S 9 (t * w + f)).toInt := Int.mul_nonneg (by omega) p4
  have m1 : (S 8 (t * w + f)).toInt * (S 9 (t * w + f)).toInt ≤ 60 * 100 := Int.mul_le_mul (by omega) p5 p4 (by omega)
  have eb : (rea_b S (nI t) (nI f)).toInt = (S 8 (t * w + f)).toInt * (S 9 (t * w + f)).toInt / 100 := by
    unfold rea_b
    rw [bl_at g ht hf, yi_div (by rw [yi_mul (by omega) (by omega)]; exact m0) (by rw [y100]; omega), yi_mul (by omega) (by omega), y100]
  have eh : (rea_b S (nI t) (nI f) / 2).toInt = (rea_b S (nI t) (nI f)).toInt / 2 := by rw [yi_div (by omega) (by rw [y2]; omega), y2]
  have hV : 0 ≤ (rea_V S (nI t) (nI f)).toInt ∧ (rea_V S (nI t) (nI f)).toInt ≤ 90 := by
    unfold rea_V
    split
    · rw [yi_add (by omega) (by omega), eh]
      omega
    · omega
  obtain ⟨⟨B, hM, hsv, s1, s2, hc, hpl⟩, k1, k2, k3⟩ := I
  obtain ⟨-, h5, w5, hday, hst, hsh, hd, hb, hb2, h04, hcr, hpre⟩ := B
  have eM : ∀ r j, rea_M M S (nI t) (nI f) r j = if r = 0 ∧ j = 0 then M 0 0 + rea_V S (nI t) (nI f) else M r j := by
    intro r j
    unfold rea_M
    rw [pc]
  have hy0 := yS_0 (g := fun j => (S 7 j).toInt) (n := h * w) (fun j hj => (yC_0 hpre j hj).1)
  have eV : (sv + rea_V S (nI t) (nI f)).toInt = sv.toInt + (rea_V S (nI t) (nI f)).toInt := by
    unfold yC at hc
    exact yi_add (by omega) (by omega)
  have eC : yC h w (rea_S S (nI t) (nI f)) = yC h w S - 1 := by
    unfold yC
    rw [yS_u (g := fun j => (S 7 j).toInt) hi (fun j hj z => by rw [eS, if_neg (fun y => z y.1)]), eS, if_pos ⟨rfl, by decide, by decide⟩, p1, y1, y0]
    omega
  have q04 : rea_S S (nI t) (nI f) 0 4 = S 0 4 := by rw [eS, if_neg (by omega)]
  have qpre : ∀ j, j < h * w → yPre (rea_S S (nI t) (nI f)) j (20 + (k + 1 : Nat)) (2 * (k + 1 : Nat)) := fun j hj => by
    by_cases z : j = t * w + f
    · refine Or.inl ⟨?_, ?_, ?_, ?_, ?_⟩ <;> rw [eS, if_pos ⟨z, by decide, by decide⟩]
    · exact yPre_c (fun r z1 z2 => by rw [eS, if_neg (fun y => z y.1)]) (hpre j hj)
  refine ⟨hV.1, ?_, by rw [eS, if_pos ⟨rfl, by decide, by decide⟩], gS, ⟨⟨⟨gS, h5, w5, by rw [eS, if_neg (by omega)]; exact hday, fun j hj => ?_, fun f9 hf9 => ?_, fun j hj => ?_, by rw [eS, if_neg (by omega)]; exact hb, by rw [eS, if_neg (by omega)]; exact hb2, by rw [q04]; exact h04, by rw [eC, q04]; omega, qpre⟩, fun d hd9 => ?_, by rw [eM, if_pos ⟨rfl, rfl⟩, hsv], by omega, by omega, by rw [eC, q04]; omega, hpl⟩, fun t9 f9 ht9 hf9 => ?_, fun j hj => ?_, fun j hj => ?_⟩, fun j => by rw [eS, if_neg (by omega)], fun j => by rw [eS, if_neg (by omega)], fun r j z => by rw [eM, if_neg z]⟩
  · rw [eM, if_pos ⟨rfl, rfl⟩, hsv, y_lt, eV]
    omega
  · rw [eS, eS, eS, if_neg (by omega), if_neg (by omega), if_neg (by omega)]; exact hst j hj
  · rw [eS, if_neg (by omega)]; exact hsh f9 hf9
  · rw [eS, if_neg (by omega)]; exact hd j hj
  · rw [eM, eM, eM, if_neg (by omega), if_neg (by omega), if_neg (by omega)]; exact hM d hd9
  · have z9 : ∀ r j, ¬ (7 ≤ r ∧ r ≤ 11) → rea_S S (nI t) (nI f) r j = S r j := fun r j z => by rw [eS, if_neg (fun y => z y.2)]
    rw [z9 2 _ (by decide), z9 3 _ (by decide), z9 13 _ (by decide)]; exact k1 t9 f9 ht9 hf9
  · rw [eS, eS, if_neg (by omega), if_neg (by omega)]; exact k2 j hj
  · by_cases z : j = t * w + f
    · refine Or.inl ⟨?_, ?_, ?_, ?_, ?_⟩ <;> rw [eS, if_pos ⟨z, by decide, by decide⟩]
    · exact yPost_c (fun r z1 z2 => by rw [eS, if_neg (fun y => z y.1)]) (by rw [eS, if_neg (fun y => z y.1)]) (k3 j hj)
/-- the law's last checks of a day -/
theorem lw_end {h w k pl rp : Nat} {M S : sS} {sv al : Int32} (I : lwE h w k pl rp M S sv) (ha : al.toInt = yS (fun j => (S 2 j).toInt) (h * w)) : sl_sum h w S 2 = al ∧ sl_cells S = nI h * nI w ∧ nI h * nI w ≠ 0 ∧ nI pl = sl_sum h w S 7 + S 0 4 + nI rp := by
  have h7 := lwD_7 I.1
  obtain ⟨⟨B, hM, hsv, s1, s2, hc, hpl⟩, -⟩ := I
  obtain ⟨g, h5, w5, hday, hst, hsh, hd, hb, hb2, h04, hcr, hpre⟩ := B
  have hN := yB_25 h5 w5
  have hwN := geo_w g
  have a := lw_sum (r := 2) hN hd
  obtain ⟨g1, g2, q1, q2, q3, q4⟩ := g
  refine ⟨?_, ?_, ?_, ?_⟩
  · rw [y_ie, a.1, ha]
  · unfold sl_cells
    rw [g1, g2]
  · rw [pk_mul]
    exact nI_ne0 (by omega) (by omega)
  · have e1 : (sl_sum h w S 7 + S 0 4).toInt = yC h w S + (S 0 4).toInt := by rw [yi_add (by omega) (by omega), h7.1]
    rw [y_ie, yi_add (by rw [yn (by omega)]; omega) (by rw [yn (by omega)]; omega), e1, yn (by omega), yn (by omega)]
    omega
theorem lw_first {h w : Nat} {M S : sS} (B : yB h w 0 S) (hM : yM M) (h0 : M 0 0 = 0) (h4 : S 0 4 = 0) : ∃ pl, sl_sum h w S 7 = nI pl ∧ lwD h w 0 pl 0 M S 0 := by
  obtain ⟨g, h5, w5, hday, hst, hsh, hd, hb, hb2, h04, hcr, hpre⟩ := id B
  have hN := yB_25 h5 w5
  have a := lw_sum (S := S) (r := 7) hN (fun j hj => by have := yC_0 hpre j hj; omega)
  have e : yC h w S = (sl_sum h w S 7).toInt := a.1.symm
  refine ⟨(sl_sum h w S 7).toInt.toNat, y_ofr a.2.1, B, hM, h0, by rw [y0]; omega, by rw [y0]; omega, ?_, ?_⟩
  · rw [h4, y0]
    omega
  · omega

/-! a whole day, and days -/
def inv (S : sS) : Prop := okA S ∧ shk S ∧ bkok S
theorem inv_rows {S T : sS} (h : ∀ r, r = 1 ∨ r = 3 ∨ r = 7 ∨ r = 9 ∨ r = 10 ∨ r = 11 → T r = S r) (k : inv S) : inv T := by
  obtain ⟨k1, k2, k3⟩ := k
  refine ⟨fun c hc => ?_, fun f hf => ?_, fun j hj => ?_⟩
  · have := k1 c hc
    unfold okc
    rw [h 7 (by decide), h 9 (by decide), h 10 (by decide), h 11 (by decide)]
    exact this
  · rw [h 1 (by decide)]; exact k2 f hf
  · rw [h 3 (by decide)]; exact k3 j hj
theorem bring_row {S : sS} {t f x : Int32} {r : Nat} (h0 : r ≠ 0) (h2 : r ≠ 2) : sl_bring S t f x r = S r := by
  unfold sl_bring
  by_cases h : sl_has S t f = 0
  · rw [if_pos h, s_put_ne _ h0]
  · rw [if_neg h, s_put_ne _ h2]
theorem flow_row {S : sS} {t f : Int32} {r : Nat} (h0 : r ≠ 0) (h2 : r ≠ 2) (h12 : r ≠ 12) (h13 : r ≠ 13) : sl_flow S t f r = S r := by
  unfold sl_flow sl_flowB
  rw [bring_row h0 h2, bring_row h0 h2]
  unfold sl_flow2
  rw [s_put_ne _ h2, s_put_ne _ h13]
  unfold sl_flowA
  rw [bring_row h0 h2]
  unfold sl_flow1
  rw [s_put_ne _ h2, s_put_ne _ h12]
theorem itr_row {f : Int32 → sS → sS} {r : Nat} (h : ∀ i T, f i T r = T r) (n : Nat) (S : sS) : itr f n S r = S r := by
  induction n with
  | zero => rfl
  | succ n ih => rw [itr_s, h, ih]
theorem flows_row {h w : Nat} {S : sS} {r : Nat} (h0 : r ≠ 0) (h2 : r ≠ 2) (h12 : r ≠ 12) (h13 : r ≠ 13) : sl_flowAll h w S r = S r := by
  unfold sl_flowAll
  exact itr_row (fun t T => itr_row (fun f U => flow_row h0 h2 h12 h13) w T) h S
theorem rain_row {h w : Nat} {S : sS} {x y : Int32} {r : Nat} (h2 : r ≠ 2) : sl_spring w (sl_rain h w S x) y r = S r := by
  have e : sl_rain h w S x r = S r := by
    unfold sl_rain
    exact itr_row (fun i T => by unfold sl_rain1; rw [s_put_ne _ h2]) _ S
  unfold sl_spring
  by_cases q : sl_shares w (sl_rain h w S x) = 0
  · rw [if_pos q, e]
  · rw [if_neg q, itr_row (fun i T => by unfold sl_spring1; rw [s_put_ne _ h2]) w _, e]
theorem grow_row (S : sS) (I : Int32) {r : Nat} (h0 : r ≠ 0) (h7 : r ≠ 7) (h8 : r ≠ 8) (h9 : r ≠ 9) (h10 : r ≠ 10) (h11 : r ≠ 11) : sl_grow S I r = S r := by
  have ed : ∀ T : sS, sl_die T I r = T r := by
    intro T
    unfold sl_die sl_clear
    rw [s_put_ne _ h0, s_put_ne _ h11, s_put_ne _ h10, s_put_ne _ h9, s_put_ne _ h8, s_put_ne _ h7]
  have ee : ∀ T : sS, sl_end T I r = T r := by
    intro T
    unfold sl_end
    by_cases p : 4 ≤ T 10 I.toNatClampNeg
    · rw [if_pos p, ed]
    · rw [if_neg p]
      by_cases q : T 11 I.toNatClampNeg < 5
      · rw [if_pos q]; unfold sl_live; rw [s_put_ne _ h9]
      · rw [if_neg q, ed]
  unfold sl_grow
  rw [ee]
  unfold sl_dry
  rw [s_put_ne _ h11]
  unfold sl_wet
  rw [s_put_ne _ h10, s_put_ne _ h8]
theorem grow_ne (S : sS) {c a r : Nat} (hc : c < 64) (ha : a ≠ c) (h0 : r ≠ 0) : sl_grow S (nI c) r a = S r a := by
  have ec : (nI c).toNatClampNeg = c := nI_clamp (by omega)
  have ed : ∀ T : sS, sl_die T (nI c) r a = T r a := by
    intro T
    unfold sl_die
    rw [s_put_ne _ h0, clear_ne T hc ha]
  have ee : ∀ T : sS, sl_end T (nI c) r a = T r a := by
    intro T
    unfold sl_end
    by_cases p : 4 ≤ T 10 (nI c).toNatClampNeg
    · rw [if_pos p, ed]
    · rw [if_neg p]
      by_cases q : T 11 (nI c).toNatClampNeg < 5
      · rw [if_pos q]; unfold sl_live; rw [ec, s_put_col _ _ ha]
      · rw [if_neg q, ed]
  unfold sl_grow
  rw [ee]
  unfold sl_dry
  rw [ec, s_put_col _ _ ha]
  unfold sl_wet
  rw [s_put_col _ _ ha, s_put_col _ _ ha]
theorem grow_03 (S : sS) (I : Int32) : sl_grow S I 0 3 = S 0 3 := by
  have ed : ∀ T : sS, sl_die T I 0 3 = T 0 3 := by
    intro T
    unfold sl_die sl_clear
    rw [s_put_col _ _ (by decide), s_put_ne _ (by decide), s_put_ne _ (by decide), s_put_ne _ (by decide), s_put_ne _ (by decide), s_put_ne _ (by decide)]
  have ee : ∀ T : sS, sl_end T I 0 3 = T 0 3 := by
    intro T
    unfold sl_end
    by_cases p : 4 ≤ T 10 I.toNatClampNeg
    · rw [if_pos p, ed]
    · rw [if_neg p]
      by_cases q : T 11 I.toNatClampNeg < 5
      · rw [if_pos q]; unfold sl_live; rw [s_put_ne _ (by decide)]
      · rw [if_neg q, ed]
  unfold sl_grow
  rw [ee]
  unfold sl_dry
  rw [s_put_ne _ (by decide)]
  unfold sl_wet
  rw [s_put_ne _ (by decide), s_put_ne _ (by decide)]
theorem fp_rice {fp : sS → sS} {c : Nat} (hc : c < 64) (hg : ∀ T q, q ≠ 0 → fp T q c = T q c) (hp : ∀ T q u, q ≠ 0 → s_put (fp T) q c u = fp (s_put T q c u)) (h4 : ∀ T, fp T 0 4 = T 0 4) (p4 : ∀ T u, s_put (fp T) 0 4 u = fp (s_put T 0 4 u)) (T : sS) : sl_rice1 (fp T) (nI c) = fp (sl_rice1 T (nI c)) := by
  have ec : (nI c).toNatClampNeg = c := nI_clamp (by omega)
  have ecl : ∀ T, sl_clear (fp T) (nI c) = fp (sl_clear T (nI c)) := by
    intro T
    unfold sl_clear
    rw [ec, hp _ 7 _ (by decide), hp _ 8 _ (by decide), hp _ 9 _ (by decide), hp _ 10 _ (by decide), hp _ 11 _ (by decide)]
  have ed : ∀ T, sl_die (fp T) (nI c) = fp (sl_die T (nI c)) := by
    intro T
    unfold sl_die
    rw [ecl, h4, p4]
  have eh : ∀ T, sl_hard (fp T) (nI c) = sl_hard T (nI c) := by
    intro T
    unfold sl_hard
    rw [ec, hg _ 10 (by decide), hg _ 11 (by decide), hg _ 2 (by decide)]
  have el : ∀ T, sl_live (fp T) (nI c) = fp (sl_live T (nI c)) := by
    intro T
    unfold sl_live
    rw [eh, ec, hg _ 9 (by decide), hp _ 9 _ (by decide)]
  have ee : ∀ T, sl_end (fp T) (nI c) = fp (sl_end T (nI c)) := by
    intro T
    unfold sl_end
    rw [ec, hg _ 10 (by decide), hg _ 11 (by decide), ed, el]
    by_cases p : 4 ≤ T 10 c
    · rw [if_pos p, if_pos p]
    · rw [if_neg p, if_neg p]
      by_cases q : T 11 c < 5
      · rw [if_pos q, if_pos q]
      · rw [if_neg q, if_neg q]
  have ew : ∀ T, sl_wet (fp T) c = fp (sl_wet T c) := by
    intro T
    unfold sl_wet sl_height
    rw [hg _ 10 (by decide), hg _ 2 (by decide), hg _ 8 (by decide), hp _ 10 _ (by decide)]
  have ey : ∀ T, sl_dry (fp T) c = fp (sl_dry T c) := by
    intro T
    unfold sl_dry
    rw [hg _ 11 (by decide), hg _ 2 (by decide), hp _ 11 _ (by decide)]
  unfold sl_rice1
  rw [ec, hg _ 7 (by decide)]
  by_cases q : T 7 c = 0
  · rw [if_pos q, if_pos q]
  · rw [if_neg q, if_neg q]
    unfold sl_grow
    rw [ec, hg _ 8 (by decide), hp _ 8 _ (by decide), ew, ey, ee]
theorem lose_eq (T : sS) {j : Nat} (hj : j < 64) (x : Int32) : sl_lose1 T (nI j) x = s_put (s_put T 2 j (zmin (sl_left T j x) 200)) 0 3 (T 0 3 + (sl_left T j x - zmin (sl_left T j x) 200)) := by
  unfold sl_lose1 sl_loseA
  rw [nI_clamp (by omega), pg, if_neg (by decide), pg, if_pos rfl, if_pos rfl]
theorem rice_lose (T : sS) {i j : Nat} (hi : i < 64) (hj : j < 64) (hij : i ≠ j) (x : Int32) : sl_rice1 (sl_lose1 T (nI j) x) (nI i) = sl_lose1 (sl_rice1 T (nI i)) (nI j) x := by
  have e : ∀ r, r = 2 ∨ r = 4 → sl_rice1 T (nI i) r = T r := by
    intro r hr
    unfold sl_rice1
    by_cases q : T 7 (nI i).toNatClampNeg = 0
    · rw [if_pos q]
    · rw [if_neg q, grow_row _ _ (by omega) (by omega) (by omega) (by omega) (by omega) (by omega)]
  have e3 : sl_rice1 T (nI i) 0 3 = T 0 3 := by
    unfold sl_rice1
    by_cases q : T 7 (nI i).toNatClampNeg = 0
    · rw [if_pos q]
    · rw [if_neg q, grow_03]
  have el : sl_left (sl_rice1 T (nI i)) j x = sl_left T j x := by
    unfold sl_left
    rw [e 2 (by decide), e 4 (by decide)]
  rw [lose_eq _ hj, lose_eq _ hj, el, e3]
  rw [fp_rice (fp := fun T9 => s_put T9 0 3 (T 0 3 + (sl_left T j x - zmin (sl_left T j x) 200))) hi (fun T9 q hq => by rw [s_put_ne _ hq]) (fun T9 q u hq => put_c _ (Or.inl (Ne.symm hq)) _ _) (fun T9 => s_put_col _ _ (by decide) _ _) (fun T9 u => put_c _ (Or.inr (by decide)) _ _)]
  rw [fp_rice (fp := fun T9 => s_put T9 2 j (zmin (sl_left T j x) 200)) hi (fun T9 q hq => s_put_col _ _ hij _ _) (fun T9 q u hq => put_c _ (Or.inr (Ne.symm hij)) _ _) (fun T9 => by rw [s_put_ne _ (by decide)]) (fun T9 u => put_c _ (Or.inl (by decide)) _ _)]
theorem loss_b {x : Int32} (h : 0 ≤ x.toInt) : x - zmin x 200 = zmax 0 (x - 200) := by
  have h0 : (0 : Int32).toInt = 0 := rfl
  have h1 : (200 : Int32).toInt = 200 := rfl
  obtain ⟨n, hn, rfl⟩ := nI_of (x := x) (by rw [Int32.lt_iff_toInt_lt]; omega)
  have e2 : (200 : Int32) = nI 200 := rfl
  have e0 : (0 : Int32) = nI 0 := rfl
  unfold zmin zmax
  rcases Nat.lt_or_ge 200 n with q | q
  · rw [if_pos (by rw [e2]; exact nI_lt q hn), e2, pk_sub (by omega), if_pos (by rw [e0]; exact nI_lt (by omega) (by omega))]
  · rw [if_neg (by rw [e2]; exact nI_nlt q (by decide)), Int32.sub_self]
    by_cases z : 0 < nI n - 200
    · rw [if_pos z]
      rw [Int32.lt_iff_toInt_lt, e2, pk_sub_toInt (by omega) (by decide)] at z
      omega
    · rw [if_neg z]
theorem zmax_pos (z : Int32) : 0 ≤ (zmax z 0).toInt := by
  have h0 : (0 : Int32).toInt = 0 := rfl
  unfold zmax
  by_cases h : z < 0
  · rw [if_pos h]; omega
  · rw [if_neg h]; rw [Int32.lt_iff_toInt_lt] at h; omega
theorem rl_lose {h w : Nat} {M S O : sS} (R : rl h w M S O) {c j : Nat} (hc : c < h * w) (hj : j < 30) : rl h w M (sl_lose1 S (nI c) (M 3 j)) (mi_lossA O (3 * nI j) (nI c)) := by
  have hN := rl_hw R
  have hc6 : c < 64 := by omega
  have el : mi_left O (3 * nI j) (nI c) = sl_left S c (M 3 j) := by
    unfold mi_left sl_left
    rw [ix0 hc6, ix2 hc6, rl_c R hc (by decide), rl_c R hc (by decide), (wt_at R.2.2.2.2.2.2.1 hj).2.2, zmax_c]
  rw [lose_eq _ hc6, put_c _ (Or.inl (by decide))]
  unfold mi_lossA
  rw [el, R.2.2.2.1, ix0 hc6, zmin_c 200, ← loss_b (x := sl_left S c (M 3 j)) (zmax_pos _)]
  exact rl_put (rl_n R _).1 (j := 0) (by decide) _
theorem rl_loss {h w : Nat} {M S O : sS} (R : rl h w M S O) (v : inv S) {c j : Nat} (hc : c < h * w) (hj : j < 30) : rl h w M (sl_rice1 (sl_lose1 S (nI c) (M 3 j)) (nI c)) (mi_loss1 O (3 * nI j) (nI c)) ∧ inv (sl_rice1 (sl_lose1 S (nI c) (M 3 j)) (nI c)) := by
  have hN := rl_hw R
  have hc6 : c < 64 := by omega
  have R1 := rl_lose R hc hj
  have v1 : inv (sl_lose1 S (nI c) (M 3 j)) := by
    refine inv_rows (fun r hr => ?_) v
    rw [lose_eq _ hc6, s_put_ne _ (by omega), s_put_ne _ (by omega)]
  generalize sl_lose1 S (nI c) (M 3 j) = T at R1 v1
  unfold mi_loss1 sl_rice1
  generalize mi_lossA O (3 * nI j) (nI c) = U at R1
  rw [ix5 hc6, rl_c R1 hc (by decide), nI_clamp (by omega)]
  obtain ⟨n, e, hn⟩ := (v1.1 c hc6).1
  have e0 : (0 : Int32) = nI 0 := rfl
  have e1 : (1 : Int32) = nI 1 := rfl
  rw [show 5 + 2 = 7 from rfl, e]
  by_cases q : n = 0
  · subst q
    rw [if_pos (by rfl), if_neg (by rw [e1, nI_eq (by decide) (by decide)]; decide)]
    exact ⟨R1, v1⟩
  · rw [if_neg (by rw [e0, nI_eq (by omega) (by decide)]; exact q), if_pos (by rw [e1, nI_eq (by omega) (by decide)]; omega)]
    obtain ⟨R2, k2⟩ := rl_grow R1 hc (v1.1 c hc6)
    refine ⟨R2, fun a ha => ?_, fun f hf => ?_, fun b hb => ?_⟩
    · by_cases z : a = c
      · rw [z]; exact k2
      · exact okc_row (fun r hr => grow_ne _ hc6 z hr) (v1.1 a ha)
    · rw [grow_row _ _ (by decide) (by decide) (by decide) (by decide) (by decide) (by decide)]; exact v1.2.1 f hf
    · rw [grow_row _ _ (by decide) (by decide) (by decide) (by decide) (by decide) (by decide)]; exact v1.2.2 b hb
theorem rl_day {h w : Nat} {M S O : sS} (R : rl h w M S O) (v : inv S) {y : Nat} (hd : S 0 2 = nI y) (hy : y < 1000000) : rl h w M (sl_day h w M S) (mi_day h w O) ∧ inv (sl_day h w M S) := by
  have hj : y % 30 < 30 := Nat.mod_lt _ (by decide)
  have e30 : (30 : Int32) = nI 30 := rfl
  have ed : sl_date S = nI (y % 30) := by
    unfold sl_date
    rw [hd, e30, pk_rem (by omega) (by decide) (by decide)]
  have et : mi_today O = 3 * nI (y % 30) := by
    unfold mi_today
    rw [R.2.2.1, hd, e30, pk_rem (by omega) (by decide) (by decide)]
  unfold sl_day mi_day
  rw [ed, et, nI_clamp (by omega), R.2.2.1]
  have R0 := (rl_n R (S 0 2 + 1)).2.2
  have v0 : inv (s_put S 0 2 (S 0 2 + 1)) := inv_rows (fun r hr => by rw [s_put_ne _ (by omega)]) v
  generalize s_put S 0 2 (S 0 2 + 1) = S0 at R0 v0
  generalize s_put O 1 2 (S 0 2 + 1) = O0 at R0
  unfold sl_dayA mi_dayA
  have R1 := rl_rain R0 v0.2.1 hj
  have v1 : inv (sl_spring w (sl_rain h w S0 (M 1 (y % 30))) (M 2 (y % 30))) := inv_rows (fun r hr => rain_row (by omega)) v0
  have R2 := rl_flowAll R1
  have v2 := inv_rows (T := sl_flowAll h w (sl_spring w (sl_rain h w S0 (M 1 (y % 30))) (M 2 (y % 30)))) (fun r hr => flows_row (by omega) (by omega) (by omega) (by omega)) v1
  unfold sl_rice sl_lose
  have hN := rl_hw R
  rw [itr_fis (f := fun i T => sl_rice1 T i) (g := fun i T => sl_lose1 T i (M 3 (y % 30))) (N := h * w) (fun i k hi hk hik T => rice_lose T (by omega) (by omega) hik _) (h * w) (Nat.le_refl _)]
  exact rl_itr (P := inv) (h * w) (fun c hc T U R v => rl_loss R v hc hj) (h * w) (Nat.le_refl _) R2 v2
theorem rl_days {h w : Nat} {M : sS} : ∀ (n : Nat) {S O : sS} (_ : rl h w M S O) (_ : inv S) {y : Nat} (_ : S 0 2 = nI y) (_ : y + n < 1000000), rl h w M (sl_days h w M S n) (mi_days h w O n) ∧ inv (sl_days h w M S n) ∧ sl_days h w M S n 0 2 = nI (y + n) := by
  intro n
  induction n with
  | zero => intro S O R v y hd _; exact ⟨R, v, hd⟩
  | succ n ih =>
    intro S O R v y hd hy
    obtain ⟨R1, v1, d1⟩ := ih R v hd (by omega)
    obtain ⟨R2, v2⟩ := rl_day R1 v1 d1 (by omega)
    exact ⟨R2, v2, day_day d1 M⟩

/-! the class and its reference, side by side: what each number of the one is in the other -/
theorem pg (S : sS) (r j : Nat) (v : Int32) (q k : Nat) : s_put S r j v q k = if q = r then (if k = j then v else S q k) else S q k := by
  by_cases h : q = r
  · subst h
    rw [if_pos rfl, s_put_same]
    rfl
  · rw [if_neg h, s_put_ne S h]
theorem put_c (S : sS) {r q j k : Nat} (h : r ≠ q ∨ j ≠ k) (v u : Int32) : s_put (s_put S r j v) q k u = s_put (s_put S q k u) r j v := by
  funext a b
  simp only [pg]
  by_cases ha : a = q
  · by_cases hb : a = r
    · by_cases hc : b = k
      · by_cases hd : b = j
        · omega
        · rw [if_pos ha, if_pos hc, if_pos hb, if_neg hd, if_pos ha, if_pos hc]
      · rw [if_pos ha, if_neg hc, if_pos hb, if_pos hb, if_pos ha, if_neg hc]
    · rw [if_pos ha, if_neg hb, if_neg hb, if_pos ha]
  · rw [if_neg ha, if_neg ha]
theorem put_s (S : sS) (r j : Nat) (v u : Int32) : s_put (s_put S r j v) r j u = s_put S r j u := by
  funext a b
  simp only [pg]
  by_cases ha : a = r
  · by_cases hb : b = j
    · rw [if_pos ha, if_pos hb, if_pos ha, if_pos hb]
    · rw [if_pos ha, if_neg hb, if_pos ha, if_neg hb, if_pos ha, if_neg hb]
  · rw [if_neg ha, if_neg ha, if_neg ha]
theorem ixj {c j : Nat} (hc : c < 64) (hj : j < 12) : (12 * nI c + nI j).toNatClampNeg = 12 * c + j := by
  rw [show (12 : Int32) = nI 12 from rfl, pk_mul, nI_add, nI_clamp (by omega)]
theorem ix0 {c : Nat} (hc : c < 64) : (12 * nI c + 0).toNatClampNeg = 12 * c + 0 := ixj hc (j := 0) (by decide)
theorem ix1 {c : Nat} (hc : c < 64) : (12 * nI c + 1).toNatClampNeg = 12 * c + 1 := ixj hc (j := 1) (by decide)
theorem ix2 {c : Nat} (hc : c < 64) : (12 * nI c + 2).toNatClampNeg = 12 * c + 2 := ixj hc (j := 2) (by decide)
theorem ix3 {c : Nat} (hc : c < 64) : (12 * nI c + 3).toNatClampNeg = 12 * c + 3 := ixj hc (j := 3) (by decide)
theorem ix4 {c : Nat} (hc : c < 64) : (12 * nI c + 4).toNatClampNeg = 12 * c + 4 := ixj hc (j := 4) (by decide)
theorem ix5 {c : Nat} (hc : c < 64) : (12 * nI c + 5).toNatClampNeg = 12 * c + 5 := ixj hc (j := 5) (by decide)
theorem ix6 {c : Nat} (hc : c < 64) : (12 * nI c + 6).toNatClampNeg = 12 * c + 6 := ixj hc (j := 6) (by decide)
theorem ix7 {c : Nat} (hc : c < 64) : (12 * nI c + 7).toNatClampNeg = 12 * c + 7 := ixj hc (j := 7) (by decide)
theorem ix8 {c : Nat} (hc : c < 64) : (12 * nI c + 8).toNatClampNeg = 12 * c + 8 := ixj hc (j := 8) (by decide)
theorem ix9 {c : Nat} (hc : c < 64) : (12 * nI c + 9).toNatClampNeg = 12 * c + 9 := ixj hc (j := 9) (by decide)
theorem ix10 {c : Nat} (hc : c < 64) : (12 * nI c + 10).toNatClampNeg = 12 * c + 10 := ixj hc (j := 10) (by decide)
theorem ix11 {c : Nat} (hc : c < 64) : (12 * nI c + 11).toNatClampNeg = 12 * c + 11 := ixj hc (j := 11) (by decide)
def wth (M O : sS) : Prop := ∀ j, j < 30 → O 4 (3 * j) = M 1 j ∧ O 4 (3 * j + 1) = M 2 j ∧ O 4 (3 * j + 2) = M 3 j
def rl (h w : Nat) (M S O : sS) : Prop := geo h w S ∧ gem h w O ∧ O 1 2 = S 0 2 ∧ O 1 3 = S 0 3 ∧ O 1 5 = S 0 4 ∧ (∀ f, f < 8 → O 2 f = S 1 f) ∧ wth M O ∧ ∀ c, c < h * w → ∀ r, r < 12 → O 3 (12 * c + r) = S (r + 2) c
theorem rl_put {h w : Nat} {M S O : sS} (R : rl h w M S O) {c j : Nat} (hj : j < 12) (v : Int32) : rl h w M (s_put S (j + 2) c v) (s_put O 3 (12 * c + j) v) := by
  obtain ⟨g, e, r2, r3, r5, rs, rw9, rc⟩ := R
  refine ⟨geo_put g (Or.inl (by omega)) _, gem_put e (Or.inl (by decide)) _, ?_, ?_, ?_, ?_, ?_, ?_⟩
  · rw [s_put_ne O (by decide), s_put_ne S (by omega)]; exact r2
  · rw [s_put_ne O (by decide), s_put_ne S (by omega)]; exact r3
  · rw [s_put_ne O (by decide), s_put_ne S (by omega)]; exact r5
  · intro f hf
    rw [s_put_ne O (by decide), s_put_ne S (by omega)]; exact rs f hf
  · intro a ha
    rw [s_put_ne O (by decide)]; exact rw9 a ha
  · intro a ha r hr
    rw [pg, if_pos rfl, pg]
    by_cases h1 : a = c
    · by_cases h2 : r = j
      · rw [if_pos (by omega), if_pos (by omega), if_pos h1]
      · rw [if_neg (by omega), if_neg (by omega)]; exact rc a ha r hr
    · by_cases h2 : r = j
      · rw [if_neg (by omega), if_pos (by omega), if_neg h1]; exact rc a ha r hr
      · rw [if_neg (by omega), if_neg (by omega)]; exact rc a ha r hr
theorem rl_n {h w : Nat} {M S O : sS} (R : rl h w M S O) (v : Int32) : rl h w M (s_put S 0 3 v) (s_put O 1 3 v) ∧ rl h w M (s_put S 0 4 v) (s_put O 1 5 v) ∧ rl h w M (s_put S 0 2 v) (s_put O 1 2 v) := by
  obtain ⟨g, e, r2, r3, r5, rs, rw9, rc⟩ := R
  refine ⟨⟨geo_put g (Or.inr (by decide)) _, gem_put e (Or.inr (by decide)) _, ?_, ?_, ?_, ?_, ?_, ?_⟩, ⟨geo_put g (Or.inr (by decide)) _, gem_put e (Or.inr (by decide)) _, ?_, ?_, ?_, ?_, ?_, ?_⟩, ⟨geo_put g (Or.inr (by decide)) _, gem_put e (Or.inr (by decide)) _, ?_, ?_, ?_, ?_, ?_, ?_⟩⟩
  any_goals (intro f hf; rw [s_put_ne O (by decide), s_put_ne S (by decide)]; exact rs f hf)
  any_goals (intro a ha; rw [s_put_ne O (by decide)]; exact rw9 a ha)
  any_goals (intro a ha r hr; rw [s_put_ne O (by decide), s_put_ne S (by omega)]; exact rc a ha r hr)
  all_goals simp [pg, r2, r3, r5]
theorem rl_itr {h w : Nat} {M : sS} {f g : Int32 → sS → sS} {P : sS → Prop} (N : Nat) (hs : ∀ i, i < N → ∀ S O, rl h w M S O → P S → rl h w M (f (nI i) S) (g (nI i) O) ∧ P (f (nI i) S)) : ∀ n, n ≤ N → ∀ {S O : sS}, rl h w M S O → P S → rl h w M (itr f n S) (itr g n O) ∧ P (itr f n S) := by
  intro n
  induction n with
  | zero => intro _ S O R p; exact ⟨R, p⟩
  | succ n ih =>
    intro hn S O R p
    obtain ⟨R1, p1⟩ := ih (by omega) R p
    exact hs n (by omega) _ _ R1 p1
/-! the flow of one field -/
theorem zmax_c (a b : Int32) : zmax a b = zmax b a := by
  unfold zmax
  by_cases h1 : a < b <;> by_cases h2 : b < a <;> simp only [h1, h2, if_true, if_false]
  · rw [Int32.lt_iff_toInt_lt] at h1 h2; omega
  · rw [Int32.lt_iff_toInt_lt] at h1 h2; exact Int32.toInt_inj.mp (by omega)
theorem zmin_c (a b : Int32) : zmin a b = zmin b a := by
  unfold zmin
  by_cases h1 : a < b <;> by_cases h2 : b < a <;> simp only [h1, h2, if_true, if_false]
  · rw [Int32.lt_iff_toInt_lt] at h1 h2; omega
  · rw [Int32.lt_iff_toInt_lt] at h1 h2; exact Int32.toInt_inj.mp (by omega)
theorem zcap (z : Int32) {a : Int32} (ha : 0 ≤ a.toInt) : zmax 0 (zmin a z) = zmin (zmax z 0) a := by
  have h0 : (0 : Int32).toInt = 0 := rfl
  unfold zmax zmin
  by_cases h1 : z < a <;> by_cases h2 : z < 0 <;> simp only [h1, h2, if_true, if_false]
  · by_cases h3 : 0 < z
    · rw [Int32.lt_iff_toInt_lt] at h2 h3; omega
    · rw [if_neg h3, if_neg (by rw [Int32.lt_iff_toInt_lt]; omega)]
  · by_cases h3 : 0 < z
    · rw [if_pos h3, if_neg (by rw [Int32.lt_iff_toInt_lt] at h1 ⊢; omega)]
    · rw [if_neg h3, if_neg (by rw [Int32.lt_iff_toInt_lt] at h1 ⊢; omega)]
      rw [Int32.lt_iff_toInt_lt] at h2 h3
      exact Int32.toInt_inj.mp (by omega)
  · rw [Int32.lt_iff_toInt_lt] at h1 h2; omega
  · rw [Int32.lt_iff_toInt_lt] at h1 h2
    by_cases h3 : 0 < a
    · rw [if_pos h3]
      by_cases h4 : a < z
      · rw [if_pos h4]
      · rw [if_neg h4]; rw [Int32.lt_iff_toInt_lt] at h4; exact Int32.toInt_inj.mp (by omega)
    · rw [if_neg h3]
      rw [Int32.lt_iff_toInt_lt] at h3
      by_cases h4 : a < z
      · rw [if_pos h4]; exact Int32.toInt_inj.mp (by omega)
      · rw [if_neg h4]; rw [Int32.lt_iff_toInt_lt] at h4; exact Int32.toInt_inj.mp (by omega)
theorem rl_hw {h w : Nat} {M S O : sS} (R : rl h w M S O) : h * w ≤ 64 := geo_hw R.1
theorem rl_at {h w : Nat} {M S O : sS} (R : rl h w M S O) (i j : Nat) : sl_at S (nI i) (nI j) = nI (i * w + j) ∧ mi_at O (nI i) (nI j) = 12 * nI (i * w + j) := by
  refine ⟨?_, ?_⟩
  · unfold sl_at
    rw [R.1.2.1, pk_mul, nI_add]
  · unfold mi_at
    rw [R.2.1.2.1, pk_mul, nI_add, Nat.mul_comm w i]
theorem rl_c {h w : Nat} {M S O : sS} (R : rl h w M S O) {c : Nat} (hc : c < h * w) {r : Nat} (hr : r < 12) : O 3 (12 * c + r) = S (r + 2) c := R.2.2.2.2.2.2.2 c hc r hr
theorem rl_come {h w : Nat} {M S O : sS} (R : rl h w M S O) (t f x : Int32) : rl h w M (sl_bring S t f x) (mi_come O t f x) := by
  unfold sl_bring mi_come
  rw [is_has R.2.1 R.1]
  by_cases hh : sl_has S t f = 0
  · rw [if_pos hh, if_pos hh, R.2.2.2.1]
    exact (rl_n R _).1
  · rw [if_neg hh, if_neg hh]
    obtain ⟨i, j, hi, hj, rfl, rfl, e1, hk⟩ := geo_tf R.1 hh
    have hN := rl_hw R
    rw [e1, (rl_at R i j).2, ix0 (by omega), nI_clamp (by omega), rl_c R hk (r := 0) (by decide)]
    exact rl_put R (j := 0) (by decide) _
theorem rl_flow {h w : Nat} {M S O : sS} (R : rl h w M S O) {i j : Nat} (hi : i < h) (hj : j < w) : rl h w M (sl_flow S (nI i) (nI j)) (mi_flow O (nI i) (nI j)) := by
  obtain ⟨i2, j2, -, -, e3, e4, e1, hk⟩ := geo_tf R.1 (geo_has R.1 hi hj)
  have hN := rl_hw R
  unfold sl_flow mi_flow
  rw [(rl_at R i j).2]
  have e9 : sl_at S (nI i) (nI j) = nI (i * w + j) := (rl_at R i j).1
  rw [e9] at e1
  rw [e9]
  have hk : i * w + j < h * w := by
    have := i * w + j
    calc i * w + j < i * w + w := by omega
      _ = (i + 1) * w := by rw [Nat.add_mul, Nat.one_mul]
      _ ≤ h * w := Nat.mul_le_mul_right w hi
  generalize hc : i * w + j = c at hk
  have hc6 : c < 64 := by omega
  have ec : (nI c).toNatClampNeg = c := nI_clamp (by omega)
  rw [ec]
  -- out
  have RA : rl h w M (sl_flowA S (nI i) (nI j)) (mi_flowA O (nI i) (nI j) (12 * nI c)) := by
    have eo : mi_out O (12 * nI c) = sl_out S c := by
      unfold mi_out sl_out
      rw [ix0 hc6, ix3 hc6, rl_c R hk (by decide), rl_c R hk (by decide), zcap _ (by decide)]
    have R1 : rl h w M (sl_flow1 S c) (mi_flow1 O (12 * nI c)) := by
      unfold sl_flow1 mi_flow1
      rw [put_c _ (Or.inl (by decide)), eo, ix0 hc6, ix10 hc6, rl_c R hk (by decide)]
      exact rl_put (rl_put R (j := 0) (by decide) _) (j := 10) (by decide) _
    unfold sl_flowA mi_flowA
    rw [e9, hc, ec, eo, ix4 hc6, rl_c R1 hk (by decide)]
    have e6 : sl_flow1 S c 6 c = S 6 c := by
      unfold sl_flow1
      simp [pg]
    rw [show 4 + 2 = 6 from rfl, e6]
    exact rl_come R1 _ _ _
  generalize sl_flowA S (nI i) (nI j) = S1 at RA
  generalize mi_flowA O (nI i) (nI j) (12 * nI c) = O1 at RA
  have eo : mi_over O1 (12 * nI c) = sl_over S1 c := by
    unfold mi_over sl_over
    rw [ix0 hc6, ix1 hc6, rl_c RA hk (by decide), rl_c RA hk (by decide), zmax_c]
  have R2 : rl h w M (sl_flow2 S1 c) (mi_flow2 O1 (12 * nI c)) := by
    unfold sl_flow2 mi_flow2
    rw [put_c _ (Or.inl (by decide)), eo, ix0 hc6, ix11 hc6, rl_c RA hk (by decide)]
    exact rl_put (rl_put RA (j := 0) (by decide) _) (j := 11) (by decide) _
  unfold sl_flowB mi_flowB
  rw [eo]
  exact rl_come (rl_come R2 _ _ _) _ _ _
theorem rl_flowAll {h w : Nat} {M S O : sS} (R : rl h w M S O) : rl h w M (sl_flowAll h w S) (itr (fun t T => itr (fun f U => mi_flow U t f) w T) h O) := by
  unfold sl_flowAll
  refine (rl_itr (P := fun _ => True) h (fun i hi S O R _ => ⟨?_, trivial⟩) h (Nat.le_refl h) R trivial).1
  exact (rl_itr (P := fun _ => True) w (fun j hj S O R _ => ⟨rl_flow R hi hj, trivial⟩) w (Nat.le_refl w) R trivial).1

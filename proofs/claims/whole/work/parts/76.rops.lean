/-! every call, on both sides: the same is thrown, the same is answered, the same is left -/
def Rl (h w y : Nat) (M S O : sS) : Prop := rl h w M S O ∧ inv S ∧ S 0 2 = nI y ∧ y ≤ 2000 ∧ O 1 4 = M 0 0 ∧ O 1 6 = M 0 1
def ok3 (T V VO : Int32) (M S O : sS) : Prop := O 0 0 = T ∧ (T = 0 → VO = V) ∧ ∃ h w y, Rl h w y M S O
theorem zs_0 (a b : sS) : zs 0 a b = a := if_pos rfl
theorem zs_1 (a b : sS) : zs 1 a b = b := if_neg (by decide)
theorem zs_2 (a b : sS) : zs 2 a b = b := if_neg (by decide)
theorem zs_3 (a b : sS) : zs 3 a b = b := if_neg (by decide)
theorem rl_0 {h w : Nat} {M S O : sS} (R : rl h w M S O) (v : Int32) : rl h w M S (s_put O 0 0 v) := by
  obtain ⟨g, e, r2, r3, r5, rs, rw9, rc⟩ := R
  refine ⟨g, gem_put e (Or.inl (by decide)) _, ?_, ?_, ?_, fun f hf => ?_, fun a ha => ?_, fun a ha r hr => ?_⟩
  · rw [s_put_ne O (by decide)]; exact r2
  · rw [s_put_ne O (by decide)]; exact r3
  · rw [s_put_ne O (by decide)]; exact r5
  · rw [s_put_ne O (by decide)]; exact rs f hf
  · rw [s_put_ne O (by decide)]; exact rw9 a ha
  · rw [s_put_ne O (by decide)]; exact rc a ha r hr
theorem Rl_0 {h w y : Nat} {M S O : sS} (G : Rl h w y M S O) (v : Int32) : Rl h w y M S (s_put O 0 0 v) := ⟨rl_0 G.1 v, G.2.1, G.2.2.1, G.2.2.2.1, by rw [s_put_ne O (by decide)]; exact G.2.2.2.2.1, by rw [s_put_ne O (by decide)]; exact G.2.2.2.2.2⟩
theorem ok_f {h w y : Nat} {M S O : sS} (G : Rl h w y M S O) {k V VO : Int32} (hk : ¬ k = 0) : ok3 k V VO M S (mfail O k) := by
  refine ⟨?_, fun q => absurd q hk, h, w, y, Rl_0 G k⟩
  unfold mfail
  rw [pg, if_pos rfl, if_pos rfl]
theorem ok_s {h w y : Nat} {M S O : sS} {V VO : Int32} (z : O 0 0 = 0) (hv : VO = V) (G : Rl h w y M S O) : ok3 0 V VO M S O := ⟨z, fun _ => hv, h, w, y, G⟩
theorem Rl_put {h w y : Nat} {M S O : sS} (G : Rl h w y M S O) {c j : Nat} (hj : j < 12) (v : Int32) (hi : inv (s_put S (j + 2) c v)) : Rl h w y M (s_put S (j + 2) c v) (s_put O 3 (12 * c + j) v) := by
  refine ⟨rl_put G.1 hj v, hi, ?_, G.2.2.2.1, ?_, ?_⟩
  · rw [s_put_ne S (by omega)]; exact G.2.2.1
  · rw [s_put_ne O (by decide)]; exact G.2.2.2.2.1
  · rw [s_put_ne O (by decide)]; exact G.2.2.2.2.2
theorem inv_p {S : sS} (v : inv S) {r : Nat} (hr : r ≠ 1 ∧ r ≠ 3 ∧ r ≠ 7 ∧ r ≠ 9 ∧ r ≠ 10 ∧ r ≠ 11) (c : Nat) (x : Int32) : inv (s_put S r c x) := inv_rows (fun q hq => s_put_ne S (by omega) c x) v
theorem inv_3 {S : sS} (v : inv S) {n : Nat} (hn : n ≤ 120) (c : Nat) : inv (s_put S 3 c (nI n)) := by
  refine ⟨fun a ha => ?_, fun f hf => ?_, fun j hj => ?_⟩
  · have := v.1 a ha
    unfold okc
    rw [s_put_ne S (by decide), s_put_ne S (by decide), s_put_ne S (by decide), s_put_ne S (by decide)]
    exact this
  · rw [s_put_ne S (by decide)]; exact v.2.1 f hf
  · rw [pg, if_pos rfl]
    by_cases q : j = c
    · rw [if_pos q]; exact ⟨n, rfl, hn⟩
    · rw [if_neg q]; exact v.2.2 j hj
theorem inv_7 {S : sS} (v : inv S) {n : Nat} (hn : n ≤ 1) (c : Nat) : inv (s_put S 7 c (nI n)) := by
  refine ⟨fun a ha => ?_, fun f hf => ?_, fun j hj => ?_⟩
  · obtain ⟨k7, k⟩ := v.1 a ha
    unfold okc
    rw [s_put_ne S (show 9 ≠ 7 by decide), s_put_ne S (show 10 ≠ 7 by decide), s_put_ne S (show 11 ≠ 7 by decide)]
    refine ⟨?_, k⟩
    rw [pg, if_pos rfl]
    by_cases q : a = c
    · rw [if_pos q]; exact ⟨n, rfl, hn⟩
    · rw [if_neg q]; exact k7
  · rw [s_put_ne S (by decide)]; exact v.2.1 f hf
  · rw [s_put_ne S (by decide)]; exact v.2.2 j hj
theorem rl_k {h w : Nat} {M S O : sS} (R : rl h w M S O) {t f : Int32} (hh : ¬ sl_has S t f = 0) : ∃ c, c < h * w ∧ c < 64 ∧ sl_at S t f = nI c ∧ mi_at O t f = 12 * nI c ∧ (nI c).toNatClampNeg = c := by
  obtain ⟨i, j, hi, hj, rfl, rfl, e1, hk⟩ := geo_tf R.1 hh
  have hN := rl_hw R
  exact ⟨i * w + j, hk, by omega, e1, (rl_at R i j).2, nI_clamp (by omega)⟩
theorem sum_rl {h w : Nat} {M S O : sS} (R : rl h w M S O) {r : Nat} (hr : r < 12) {x : Int32} (hx : x = nI r) : mi_sum h w O x = sl_sum h w S (r + 2) := by
  have hN := rl_hw R
  unfold mi_sum sl_sum
  exact itr_eq (N := h * w) (fun i hi T => by rw [hx, ixj (by omega) hr, nI_clamp (by omega), rl_c R hi hr]) (h * w) (Nat.le_refl _) 0
theorem rl_M {h w : Nat} {M M1 S O : sS} (R : rl h w M S O) (e : ∀ r, r ≠ 0 → M1 r = M r) : rl h w M1 S O := by
  obtain ⟨g, e0, r2, r3, r5, rs, rw9, rc⟩ := R
  refine ⟨g, e0, r2, r3, r5, rs, fun a ha => ?_, rc⟩
  rw [e 1 (by decide), e 2 (by decide), e 3 (by decide)]
  exact rw9 a ha
theorem rl_1 {h w : Nat} {M S O : sS} (R : rl h w M S O) {j : Nat} (hj : j = 4 ∨ j = 6) (v : Int32) : rl h w M S (s_put O 1 j v) := by
  obtain ⟨g, e, r2, r3, r5, rs, rw9, rc⟩ := R
  refine ⟨g, gem_put e (Or.inr (by omega)) _, ?_, ?_, ?_, fun f hf => ?_, fun a ha => ?_, fun a ha r hr => ?_⟩
  · rw [s_put_col O _ (by omega)]; exact r2
  · rw [s_put_col O _ (by omega)]; exact r3
  · rw [s_put_col O _ (by omega)]; exact r5
  · rw [s_put_ne O (by decide)]; exact rs f hf
  · rw [s_put_ne O (by decide)]; exact rw9 a ha
  · rw [s_put_ne O (by decide)]; exact rc a ha r hr
theorem u120 {u : Int32} (h : ¬ is_w u 20 120 = 0) : ∃ n : Nat, u = nI n ∧ n ≤ 120 := by
  obtain ⟨h1, h2⟩ := isw_ok h
  have e1 : (20 : Int32) = nI 20 := rfl
  have e2 : (120 : Int32) = nI 120 := rfl
  have h0 : ¬ u < 0 := by
    intro q
    rw [e1, Int32.lt_iff_toInt_lt, nI_toInt (by decide)] at h1
    rw [Int32.lt_iff_toInt_lt] at q
    have z : (0 : Int32).toInt = 0 := rfl
    omega
  obtain ⟨n, hn, e⟩ := nI_of h0
  rw [e, e2, nI_ltI (by decide) hn] at h2
  exact ⟨n, e, by omega⟩
section OPS
variable {h w y : Nat} {M S O : sS}
theorem set_ok (G : Rl h w y M S O) (z : O 0 0 = 0) (t f u v : Int32) : ok3 (set_T S t f u v) (S 3 (sl_k S t f)) (mset_V O t f u v) M (zs (set_T S t f u v) (set_S S t f u v) S) (mset_S O t f u v) := by
  unfold set_T mset_V mset_S
  rw [is_has G.1.2.1 G.1.1]
  by_cases c1 : sl_has S t f = 0
  · simp only [if_pos c1, zs_1]; exact ok_f G (by decide)
  · by_cases c2 : is_w u 20 120 = 0
    · simp only [if_neg c1, if_pos c2, zs_2]; exact ok_f G (by decide)
    · by_cases c3 : is_w v 0 9 = 0
      · simp only [if_neg c1, if_neg c2, if_pos c3, zs_2]; exact ok_f G (by decide)
      · simp only [if_neg c1, if_neg c2, if_neg c3, zs_0]
        obtain ⟨c, hc, hc6, e1, e2, ec⟩ := rl_k G.1 c1
        obtain ⟨nu, eu, bu⟩ := u120 c2
        have q1 : mset_b O t f u v = s_put (s_put O 3 (12 * c + 2) v) 3 (12 * c + 3) (zmin (S 5 c) u) := by
          unfold mset_b mset_a
          rw [e2, ix2 hc6, ix3 hc6, s_put_col O 3 (by omega), rl_c G.1 hc (by decide), zmin_c]
        have q2 : set_S S t f u v = s_put (s_put (s_put S 4 c v) 5 c (zmin (S 5 c) u)) 3 c u := by
          unfold set_S
          rw [show sl_k S t f = c by unfold sl_k; rw [e1, ec], put_c S (Or.inl (by decide) : (3 : Nat) ≠ 4 ∨ c ≠ c), put_c (s_put S 4 c v) (Or.inl (by decide) : (3 : Nat) ≠ 5 ∨ c ≠ c)]
        unfold mi_set
        rw [q1, q2, e2, ix1 hc6, show sl_k S t f = c by unfold sl_k; rw [e1, ec]]
        refine ok_s ?_ ?_ (h := h) (w := w) (y := y) ?_
        · rw [s_put_ne _ (by decide), s_put_ne _ (by decide), s_put_ne _ (by decide)]; exact z
        · rw [s_put_col _ 3 (by omega), s_put_col _ 3 (by omega), rl_c G.1 hc (by decide)]
        · have i1 := inv_p G.2.1 (r := 4) (by decide) c v
          have i2 := inv_p i1 (r := 5) (by decide) c (zmin (S 5 c) u)
          have i3 : inv (s_put (s_put (s_put S 4 c v) 5 c (zmin (S 5 c) u)) 3 c u) := by
            rw [eu]; rw [eu] at i2; exact inv_3 i2 bu c
          exact Rl_put (Rl_put (Rl_put G (j := 2) (by decide) _ i1) (j := 3) (by decide) _ i2) (j := 1) (by decide) _ i3
theorem mov_ok (G : Rl h w y M S O) (z : O 0 0 = 0) (t f x : Int32) : ok3 (mov_T S t f x) (mov_V S t f x) (mmov_V O t f x) (zs (mov_T S t f x) (mov_M M S t f x) M) (zs (mov_T S t f x) (mov_S S t f x) S) (mmov_S O t f x) := by
  unfold mov_T mmov_V mmov_S
  rw [is_has G.1.2.1 G.1.1]
  by_cases c1 : sl_has S t f = 0
  · simp only [if_pos c1, zs_1]; exact ok_f G (by decide)
  · obtain ⟨c, hc, hc6, e1, e2, ec⟩ := rl_k G.1 c1
    unfold mov_V mov_M mov_S mmov_a mi_set mov_V sl_k
    rw [e1, ec, e2, ix1 hc6, ix3 hc6, rl_c G.1 hc (show 1 < 12 by decide), rl_c G.1 hc (show 3 < 12 by decide)]
    by_cases c2 : is_w x 0 (S 3 c) = 0
    · simp only [if_neg c1, if_pos c2, show 1 + 2 = 3 from rfl, zs_2]; exact ok_f G (by decide)
    · simp only [if_neg c1, if_neg c2, show 1 + 2 = 3 from rfl, show 3 + 2 = 5 from rfl, zs_0]
      refine ok_s ?_ rfl (h := h) (w := w) (y := y) ?_
      · rw [s_put_ne _ (by decide), s_put_ne _ (by decide)]; exact z
      · have G1 := Rl_put G (c := c) (j := 3) (by decide) x (inv_p G.2.1 (by decide) c x)
        refine ⟨rl_M (rl_1 G1.1 (Or.inr rfl) _) (fun r hr => s_put_ne M hr _ _), G1.2.1, G1.2.2.1, G1.2.2.2.1, ?_, ?_⟩
        · rw [s_put_col _ 1 (by decide), s_put_col _ 0 (by decide)]; exact G1.2.2.2.2.1
        · rw [pg, if_pos rfl, if_pos rfl, s_put_ne O (by decide), pg, if_pos rfl, if_pos rfl, G.2.2.2.2.2]
theorem trn_ok (G : Rl h w y M S O) (z : O 0 0 = 0) (t f x : Int32) : ok3 (trn_T S t f x) (S 6 (sl_k S t f)) (mtrn_V O t f x) M (zs (trn_T S t f x) (trn_S S t f x) S) (mtrn_S O t f x) := by
  unfold trn_T mtrn_V mtrn_S
  rw [is_has G.1.2.1 G.1.1]
  by_cases c1 : sl_has S t f = 0
  · simp only [if_pos c1, zs_1]; exact ok_f G (by decide)
  · obtain ⟨c, hc, hc6, e1, e2, ec⟩ := rl_k G.1 c1
    by_cases c2 : is_w x (-1) 1 = 0
    · simp only [if_neg c1, if_pos c2, zs_2]; exact ok_f G (by decide)
    · simp only [if_neg c1, if_neg c2, zs_0]
      unfold trn_S mi_set sl_k
      rw [e1, ec, e2, ix4 hc6]
      refine ok_s ?_ (rl_c G.1 hc (by decide)) (h := h) (w := w) (y := y) ?_
      · rw [s_put_ne _ (by decide)]; exact z
      · exact Rl_put G (j := 4) (by decide) x (inv_p G.2.1 (by decide) c x)
theorem shr_ok (G : Rl h w y M S O) (z : O 0 0 = 0) (f x : Int32) : ok3 (shr_T S f x) (S 1 f.toNatClampNeg) (mshr_V O f x) M (zs (shr_T S f x) (shr_S S f x) S) (mshr_S O f x) := by
  have hq : is_w f 0 (O 1 1 - 1) = 0 ↔ sl_has S 0 f = 0 := by
    rw [← is_has G.1.2.1 G.1.1]
    unfold mi_isField
    have h0 : ¬ is_w 0 0 (O 1 0 - 1) = 0 := by
      unfold is_w
      have e1 : (1 : Int32) = nI 1 := rfl
      have e0 : (0 : Int32) = nI 0 := rfl
      have g := G.1.2.1
      have h2 := g.2.2.1
      have h8 := g.2.2.2.1
      rw [g.1, e1, pk_sub (by omega), if_neg (by decide), if_neg (by rw [e0]; exact nI_nlt (by omega) (by omega))]
      decide
    rw [if_neg h0]
    by_cases q : is_w f 0 (O 1 1 - 1) = 0
    · rw [if_pos q]; exact ⟨fun _ => rfl, fun _ => q⟩
    · rw [if_neg q]; exact ⟨fun q2 => absurd q2 q, fun q2 => absurd q2 (by decide)⟩
  unfold shr_T mshr_V mshr_S
  by_cases c1 : sl_has S 0 f = 0
  · simp only [if_pos c1, if_pos (hq.mpr c1), zs_1]; exact ok_f G (by decide)
  · have c1' : ¬ is_w f 0 (O 1 1 - 1) = 0 := fun q => c1 (hq.mp q)
    obtain ⟨j, hj, ef⟩ := vp_in_of (has_in G.1.1 c1) (by decide)
    have ej : f.toNatClampNeg = j := by rw [ef]; exact nI_clamp (by omega)
    by_cases c2 : is_w x 0 9 = 0
    · simp only [if_neg c1, if_neg c1', if_pos c2, zs_2]; exact ok_f G (by decide)
    · simp only [if_neg c1, if_neg c1', if_neg c2, zs_0]
      unfold shr_S
      rw [ej]
      obtain ⟨ex, bx, -⟩ := isw_n c2 (by decide)
      have bx : (x.toNatClampNeg : Int) ≤ 9 := bx
      refine ok_s ?_ (G.1.2.2.2.2.2.1 j hj) (h := h) (w := w) (y := y) ?_
      · rw [s_put_ne _ (by decide)]; exact z
      · obtain ⟨⟨g, e, r2, r3, r5, rs, rw9, rc⟩, ⟨i1, i2, i3⟩, d1, d2, d3, d4⟩ := G
        refine ⟨⟨geo_put g (Or.inl (by decide)) _, gem_put e (Or.inl (by decide)) _, ?_, ?_, ?_, ?_, ?_, ?_⟩, ⟨?_, ?_, ?_⟩, ?_, d2, ?_, ?_⟩
        · rw [s_put_ne O (by decide), s_put_ne S (by decide)]; exact r2
        · rw [s_put_ne O (by decide), s_put_ne S (by decide)]; exact r3
        · rw [s_put_ne O (by decide), s_put_ne S (by decide)]; exact r5
        · intro a ha
          rw [pg, if_pos rfl, pg, if_pos rfl]
          by_cases q : a = j
          · rw [if_pos q, if_pos q]
          · rw [if_neg q, if_neg q]; exact rs a ha
        · intro a ha
          rw [s_put_ne O (by decide)]; exact rw9 a ha
        · intro a ha r hr
          rw [s_put_ne O (by decide), s_put_ne S (by omega)]; exact rc a ha r hr
        · intro a ha
          have := i1 a ha
          unfold okc
          rw [s_put_ne S (by decide), s_put_ne S (by decide), s_put_ne S (by decide), s_put_ne S (by decide)]
          exact this
        · intro a ha
          rw [pg, if_pos rfl]
          by_cases q : a = j
          · rw [if_pos q]; exact ⟨_, ex, by omega⟩
          · rw [if_neg q]; exact i2 a ha
        · intro a ha
          rw [s_put_ne S (by decide)]; exact i3 a ha
        · rw [s_put_ne S (by decide)]; exact d1
        · rw [s_put_ne O (by decide)]; exact d3
        · rw [s_put_ne O (by decide)]; exact d4
end OPS

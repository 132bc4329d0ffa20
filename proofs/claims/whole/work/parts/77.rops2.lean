/-! more calls, on both sides -/
theorem inv_clear {S : sS} (v : inv S) {c : Nat} (hc : c < 64) : inv (sl_clear S (nI c)) := by
  have er : ∀ r, r = 1 ∨ r = 3 → sl_clear S (nI c) r = S r := by
    intro r hr
    unfold sl_clear
    rw [s_put_ne _ (by omega), s_put_ne _ (by omega), s_put_ne _ (by omega), s_put_ne _ (by omega), s_put_ne _ (by omega)]
  refine ⟨fun a ha => ?_, fun f hf => ?_, fun b hb => ?_⟩
  · by_cases q : a = c
    · rw [q]; exact clear_ok S hc
    · exact okc_row (fun r hr => clear_ne S hc q r) (v.1 a ha)
  · rw [er 1 (by decide)]; exact v.2.1 f hf
  · rw [er 3 (by decide)]; exact v.2.2 b hb
theorem fallow_ne (O : sS) (x : Int32) {r : Nat} (h : r ≠ 3) : mi_fallow O x r = O r := by
  unfold mi_fallow
  rw [s_put_ne _ h, s_put_ne _ h, s_put_ne _ h, s_put_ne _ h, s_put_ne _ h]
theorem come_1 (O : sS) (t f x : Int32) {j : Nat} (h : j ≠ 3) : mi_come O t f x 1 j = O 1 j := by
  unfold mi_come
  by_cases q : mi_isField O t f = 0
  · rw [if_pos q, s_put_col _ _ h]
  · rw [if_neg q, s_put_ne _ (by decide)]
theorem come_0 (O : sS) (t f x : Int32) : mi_come O t f x 0 = O 0 := by
  unfold mi_come
  by_cases q : mi_isField O t f = 0
  · rw [if_pos q, s_put_ne _ (by decide)]
  · rw [if_neg q, s_put_ne _ (by decide)]
theorem mflow_1 (O : sS) (t f : Int32) {j : Nat} (h : j ≠ 3) : mi_flow O t f 1 j = O 1 j := by
  unfold mi_flow mi_flowB
  rw [come_1 _ _ _ _ h, come_1 _ _ _ _ h]
  unfold mi_flow2
  rw [s_put_ne _ (by decide), s_put_ne _ (by decide)]
  unfold mi_flowA
  rw [come_1 _ _ _ _ h]
  unfold mi_flow1
  rw [s_put_ne _ (by decide), s_put_ne _ (by decide)]
theorem itr_at {f : Int32 → sS → sS} {r j : Nat} (h : ∀ i T, f i T r j = T r j) (n : Nat) (S : sS) : itr f n S r j = S r j := by
  induction n with
  | zero => rfl
  | succ n ih => rw [itr_s, h, ih]
theorem mgrow_1 (O : sS) (x : Int32) {j : Nat} (h : j ≠ 5) : mi_grow O x 1 j = O 1 j := by
  have ed : ∀ m : sS, mi_die m x 1 j = m 1 j := by
    intro m
    unfold mi_die
    rw [s_put_col _ _ h, fallow_ne _ _ (by decide)]
  have ee : ∀ m : sS, mi_end m x 1 j = m 1 j := by
    intro m
    unfold mi_end
    by_cases p : 4 ≤ m 3 (x + 8).toNatClampNeg
    · rw [if_pos p, ed]
    · rw [if_neg p]
      by_cases q : 5 ≤ m 3 (x + 9).toNatClampNeg
      · rw [if_pos q, ed]
      · rw [if_neg q]
  unfold mi_grow
  rw [ee]
  unfold mi_g5 mi_g4 mi_g3 mi_g2 mi_g1
  rw [s_put_ne _ (by decide), s_put_ne _ (by decide), s_put_ne _ (by decide), s_put_ne _ (by decide)]
theorem mday_1 {h w : Nat} (O : sS) {j : Nat} (h2 : j ≠ 2) (h3 : j ≠ 3) (h5 : j ≠ 5) : mi_day h w O 1 j = O 1 j := by
  have el : ∀ td k (m : sS), mi_lossA m td k 1 j = m 1 j := by
    intro td k m
    unfold mi_lossA
    rw [s_put_ne _ (by decide), s_put_col _ _ h3]
  unfold mi_day mi_dayA
  rw [itr_at (fun k m => by
    unfold mi_loss1
    by_cases q : mi_lossA m (mi_today O) k 3 (12 * k + 5).toNatClampNeg = 1
    · rw [if_pos q, mgrow_1 _ _ h5, el]
    · rw [if_neg q, el]) (h * w)]
  rw [itr_at (fun t m => itr_at (fun f u => mflow_1 u t f h3) w m) h]
  rw [itr_at (fun k m => by unfold mi_rain1; rw [s_put_ne _ (by decide)]) (h * w)]
  rw [s_put_col _ _ h2]
theorem mdays_1 {h w : Nat} (O : sS) {j : Nat} (h2 : j ≠ 2) (h3 : j ≠ 3) (h5 : j ≠ 5) (n : Nat) : mi_days h w O n 1 j = O 1 j := itr_at (fun _ m => mday_1 m h2 h3 h5) n O
theorem Rl_days {h w y : Nat} {M S O : sS} (G : Rl h w y M S O) {n : Nat} (hy : y + n ≤ 2000) : Rl h w (y + n) M (sl_days h w M S n) (mi_days h w O n) := by
  obtain ⟨R1, v1, d1⟩ := rl_days n G.1 G.2.1 G.2.2.1 (by omega)
  exact ⟨R1, v1, d1, hy, by rw [mdays_1 _ (by decide) (by decide) (by decide)]; exact G.2.2.2.2.1, by rw [mdays_1 _ (by decide) (by decide) (by decide)]; exact G.2.2.2.2.2⟩
theorem rl_4 {h w : Nat} {M M1 S O : sS} (R : rl h w M S O) {g : Nat → Int32} (hg : ∀ j, j < 30 → g (3 * j) = M1 1 j ∧ g (3 * j + 1) = M1 2 j ∧ g (3 * j + 2) = M1 3 j) : rl h w M1 S (s_row O 4 g) := by
  obtain ⟨g0, e, r2, r3, r5, rs, rw9, rc⟩ := R
  refine ⟨g0, gem_row e (by decide) _, ?_, ?_, ?_, fun f hf => ?_, fun a ha => ?_, fun a ha r hr => ?_⟩
  · rw [s_row_ne O (by decide)]; exact r2
  · rw [s_row_ne O (by decide)]; exact r3
  · rw [s_row_ne O (by decide)]; exact r5
  · rw [s_row_ne O (by decide)]; exact rs f hf
  · rw [s_row_same]; exact hg a ha
  · rw [s_row_ne O (by decide)]; exact rc a ha r hr
section OPS2
variable {h w y : Nat} {M S O : sS}
theorem day_ok (G : Rl h w y M S O) (z : O 0 0 = 0) (i u v x : Int32) : ok3 (day_T i u v x) (M 2 i.toNatClampNeg) (mdy_V O i u v x) (zs (day_T i u v x) (day_M M i u v x) M) S (mdy_S O i u v x) := by
  unfold day_T mdy_V mdy_S
  by_cases c1 : is_w i 0 29 = 0
  · simp only [if_pos c1, zs_1]; exact ok_f G (by decide)
  · by_cases c2 : is_w u 0 60 = 0
    · simp only [if_neg c1, if_pos c2, zs_2]; exact ok_f G (by decide)
    · by_cases c3 : is_w v 0 400 = 0
      · simp only [if_neg c1, if_neg c2, if_pos c3, zs_2]; exact ok_f G (by decide)
      · by_cases c4 : is_w x 0 20 = 0
        · simp only [if_neg c1, if_neg c2, if_neg c3, if_pos c4, zs_2]; exact ok_f G (by decide)
        · simp only [if_neg c1, if_neg c2, if_neg c3, if_neg c4, zs_0]
          obtain ⟨k, hk, e3, ei⟩ := dp_e c1
          have ek : i.toNatClampNeg = k := by rw [ei]; exact nI_clamp (by omega)
          have ek3 : (3 * i).toNatClampNeg = 3 * k := by rw [e3]; exact nI_clamp (by omega)
          have W := G.1.2.2.2.2.2.2.1
          unfold day_M mdy_r
          rw [ek, ek3]
          refine ok_s ?_ ?_ (h := h) (w := w) (y := y) ?_
          · rw [s_row_ne _ (by decide)]; exact z
          · rw [ei, (wt_at W hk).2.1]
          · refine ⟨rl_4 G.1 (fun j hj => ?_), G.2.1, G.2.2.1, G.2.2.2.1, ?_, ?_⟩
            · have e9 : (3 : Int32).toNatClampNeg = 3 := rfl
              have e8 : (0 : Int32).toNatClampNeg = 0 := rfl
              rw [e9, e8]
              by_cases q : j = k
              · subst q
                rw [pk_cpy_in (by omega) (by omega), pk_cpy_in (by omega) (by omega), pk_cpy_in (by omega) (by omega), show 0 + (3 * j - 3 * j) = 0 by omega, show 0 + (3 * j + 1 - 3 * j) = 1 by omega, show 0 + (3 * j + 2 - 3 * j) = 2 by omega]
                refine ⟨?_, ?_, ?_⟩
                · rw [pk_un (by decide), pk_un (by decide), pk_us, s_put_ne _ (by decide), s_put_ne _ (by decide), pg, if_pos rfl, if_pos rfl]
                · rw [pk_un (by decide), pk_us, s_put_ne _ (by decide), pg, if_pos rfl, if_pos rfl]
                · rw [pk_us, pg, if_pos rfl, if_pos rfl]
              · rw [pk_cpy_out (by omega), pk_cpy_out (by omega), pk_cpy_out (by omega)]
                rw [s_put_col _ _ q, s_put_col _ _ q, s_put_col _ _ q, s_put_col _ _ q, s_put_col _ _ q, s_put_col _ _ q, s_put_col _ _ q, s_put_col _ _ q, s_put_col _ _ q]
                exact W j hj
            · rw [s_row_ne _ (by decide), s_put_ne _ (by decide), s_put_ne _ (by decide), s_put_ne _ (by decide)]; exact G.2.2.2.2.1
            · rw [s_row_ne _ (by decide), s_put_ne _ (by decide), s_put_ne _ (by decide), s_put_ne _ (by decide)]; exact G.2.2.2.2.2
theorem pla_ok (G : Rl h w y M S O) (z : O 0 0 = 0) (t f x : Int32) : ok3 (pla_T S t f x) (sl_sum h w (pla_S S t f x) 7) (mpla_V h w O t f x) M (zs (pla_T S t f x) (pla_S S t f x) S) (mpla_S O t f x) := by
  unfold pla_T mpla_V mpla_S
  rw [is_has G.1.2.1 G.1.1]
  by_cases c1 : sl_has S t f = 0
  · simp only [if_pos c1, zs_1]; exact ok_f G (by decide)
  · obtain ⟨c, hc, hc6, e1, e2, ec⟩ := rl_k G.1 c1
    by_cases c2 : is_w x 0 20 = 0
    · simp only [if_neg c1, if_pos c2, zs_2]; exact ok_f G (by decide)
    · have ek : sl_k S t f = c := by unfold sl_k; rw [e1, ec]
      unfold mpla_a pla_S
      rw [ek, e2, ix0 hc6, ix5 hc6, ix6 hc6, rl_c G.1 hc (show 5 < 12 by decide), rl_c G.1 hc (show 0 < 12 by decide)]
      obtain ⟨n, e7, hn⟩ := (G.2.1.1 c hc6).1
      have e0 : (0 : Int32) = nI 0 := rfl
      have e9 : (1 : Int32) = nI 1 := rfl
      have q57 : S (5 + 2) c = nI n := e7
      by_cases c3 : n = 0
      · have p0 : S 7 c = 0 := by rw [e7, c3]; rfl
        have p1 : ¬ S (5 + 2) c = 1 := by rw [q57, c3, e9, nI_eq (by decide) (by decide)]; decide
        by_cases c4 : S (0 + 2) c ≤ 40
        · have c4' : S 2 c ≤ 40 := c4
          simp only [if_neg c1, if_neg c2, if_pos p0, if_neg p1, if_pos c4, if_pos c4', zs_0]
          have G1 := Rl_put (Rl_put G (c := c) (j := 5) (by decide) 1 (inv_7 G.2.1 (n := 1) (by decide) c)) (c := c) (j := 6) (by decide) x (inv_p (inv_7 G.2.1 (n := 1) (by decide) c) (by decide) c x)
          refine ok_s ?_ ?_ (h := h) (w := w) (y := y) G1
          · rw [s_put_ne _ (by decide), s_put_ne _ (by decide)]; exact z
          · exact sum_rl G1.1 (r := 5) (by decide) rfl
        · have c4' : ¬ S 2 c ≤ 40 := c4
          simp only [if_neg c1, if_neg c2, if_pos p0, if_neg p1, if_neg c4, if_neg c4', zs_3]
          exact ok_f G (by decide)
      · have p0 : ¬ S 7 c = 0 := by rw [e7, e0, nI_eq (by omega) (by decide)]; exact c3
        have p1 : S (5 + 2) c = 1 := by rw [q57, e9, nI_eq (by omega) (by decide)]; omega
        simp only [if_neg c1, if_neg c2, if_neg p0, if_pos p1, zs_3]
        exact ok_f G (by decide)
theorem rea_ok (G : Rl h w y M S O) (z : O 0 0 = 0) (t f : Int32) : ok3 (rea_T S t f) (rea_V S t f) (mrea_V O t f) (zs (rea_T S t f) (rea_M M S t f) M) (zs (rea_T S t f) (rea_S S t f) S) (mrea_S O t f) := by
  unfold rea_T mrea_V mrea_S
  rw [is_has G.1.2.1 G.1.1]
  by_cases c1 : sl_has S t f = 0
  · simp only [if_pos c1, zs_1]; exact ok_f G (by decide)
  · obtain ⟨c, hc, hc6, e1, e2, ec⟩ := rl_k G.1 c1
    have ek : sl_k S t f = c := by unfold sl_k; rw [e1, ec]
    have ev : mrea_v O t f = rea_V S t f := by
      unfold mrea_v rea_V mrea_b rea_b
      rw [ek, e2, ix0 hc6, ix6 hc6, ix7 hc6, rl_c G.1 hc (show 6 < 12 by decide), rl_c G.1 hc (show 7 < 12 by decide), rl_c G.1 hc (show 0 < 12 by decide)]
    have e5 : O 3 (mi_at O t f + 5).toNatClampNeg = S 7 c := by rw [e2, ix5 hc6]; exact rl_c G.1 hc (by decide)
    have e6 : O 3 (mi_at O t f + 6).toNatClampNeg = S 8 c := by rw [e2, ix6 hc6]; exact rl_c G.1 hc (by decide)
    rw [e5, e6, ek, ev]
    by_cases c2 : S 7 c = 0
    · simp only [if_neg c1, if_pos c2, zs_2]; exact ok_f G (by decide)
    · by_cases c3 : 40 ≤ S 8 c
      · simp only [if_neg c1, if_neg c2, if_pos c3, zs_0]
        unfold mrea_a rea_S rea_M
        rw [e1, e2]
        refine ok_s ?_ rfl (h := h) (w := w) (y := y) ?_
        · rw [s_put_ne _ (by decide), fallow_ne _ _ (by decide)]; exact z
        · have R1 := rl_clear G.1 hc
          refine ⟨rl_M (rl_1 R1 (Or.inl rfl) _) (fun r hr => s_put_ne M hr _ _), inv_clear G.2.1 hc6, ?_, G.2.2.2.1, ?_, ?_⟩
          · unfold sl_clear
            rw [s_put_ne _ (by decide), s_put_ne _ (by decide), s_put_ne _ (by decide), s_put_ne _ (by decide), s_put_ne _ (by decide)]; exact G.2.2.1
          · rw [pg, if_pos rfl, if_pos rfl, fallow_ne _ _ (by decide), pg, if_pos rfl, if_pos rfl, G.2.2.2.2.1]
          · rw [s_put_col _ _ (by decide), fallow_ne _ _ (by decide), s_put_col _ _ (by decide)]; exact G.2.2.2.2.2
      · simp only [if_neg c1, if_neg c2, if_neg c3, zs_2]; exact ok_f G (by decide)
theorem day_le {y n : Nat} (hy : y ≤ 2000) (hn : n ≤ 2000) : nI y + nI n ≤ 2000 ↔ y + n ≤ 2000 := by
  have e : (2000 : Int32) = nI 2000 := rfl
  rw [nI_add, e, nI_leI (by omega) (by decide)]
theorem w60 {x b : Int32} {N : Nat} (hb : b = nI N) (hN : N ≤ 2000) (h : ¬ is_w x 1 b = 0) : ∃ n : Nat, x = nI n ∧ x.toNatClampNeg = n ∧ n ≤ N ∧ 1 ≤ n := by
  obtain ⟨h1, h2⟩ := isw_ok h
  have e1 : (1 : Int32) = nI 1 := rfl
  have h0 : ¬ x < 0 := by
    intro q
    rw [e1, Int32.lt_iff_toInt_lt, nI_toInt (by decide)] at h1
    rw [Int32.lt_iff_toInt_lt] at q
    have z : (0 : Int32).toInt = 0 := rfl
    omega
  obtain ⟨n, hn, e⟩ := nI_of h0
  rw [e, hb, nI_ltI (by omega) hn] at h2
  rw [e, e1, nI_ltI hn (by decide)] at h1
  exact ⟨n, e, by rw [e]; exact nI_clamp hn, by omega, by omega⟩
theorem pas_ok (G : Rl h w y M S O) (z : O 0 0 = 0) (x : Int32) : ok3 (pas_T S x) (sl_sum h w (pas_S h w M S x) 7) (mpas_V h w O x) M (zs (pas_T S x) (pas_S h w M S x) S) (mpas_S h w O x) := by
  unfold pas_T mpas_V mpas_S
  rw [G.1.2.2.1, G.2.2.1]
  by_cases c1 : is_w x 1 60 = 0
  · simp only [if_pos c1, zs_1]; exact ok_f G (by decide)
  · obtain ⟨n, en, ecl, hn, -⟩ := w60 (N := 60) rfl (by decide) c1
    by_cases c2 : nI y + x ≤ 2000
    · simp only [if_neg c1, if_pos c2, zs_0]
      unfold pas_S
      rw [ecl]
      rw [en, day_le G.2.2.2.1 (by omega)] at c2
      have G1 := Rl_days G c2
      refine ok_s ?_ (sum_rl G1.1 (r := 5) (by decide) rfl) (h := h) (w := w) (y := y + n) G1
      rw [mdays_row _ _ (by decide) (by decide)]; exact z
    · simp only [if_neg c1, if_neg c2, zs_2]; exact ok_f G (by decide)
end OPS2

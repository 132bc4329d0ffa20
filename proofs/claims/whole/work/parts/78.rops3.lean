/-! what is asked for, on both sides; a slope laid anew -/
theorem fld_r (S : sS) (I : Int32) {r : Nat} (hr : r < 12) : sl_field S I (nI r) = S (r + 2) I.toNatClampNeg := by
  rcases (show r = 0 ∨ r = 1 ∨ r = 2 ∨ r = 3 ∨ r = 4 ∨ r = 5 ∨ r = 6 ∨ r = 7 ∨ r = 8 ∨ r = 9 ∨ r = 10 ∨ r = 11 by omega) with rfl | rfl | rfl | rfl | rfl | rfl | rfl | rfl | rfl | rfl | rfl | rfl <;> rfl
section OPS3
variable {h w y : Nat} {M S O : sS}
theorem fld_ok (G : Rl h w y M S O) (z : O 0 0 = 0) (t f x : Int32) : ok3 (fld_T S t f x) (sl_field S (sl_at S t f) x) (mfld_V O t f x) M S (mfld_S O t f x) := by
  unfold fld_T mfld_V mfld_S
  rw [is_has G.1.2.1 G.1.1]
  by_cases c1 : sl_has S t f = 0
  · simp only [if_pos c1]; exact ok_f G (by decide)
  · by_cases c2 : is_w x 0 11 = 0
    · simp only [if_neg c1, if_pos c2]; exact ok_f G (by decide)
    · simp only [if_neg c1, if_neg c2]
      obtain ⟨c, hc, hc6, e1, e2, ec⟩ := rl_k G.1 c1
      obtain ⟨r, hr, rfl⟩ := xok_w c2
      refine ok_s z ?_ (h := h) (w := w) (y := y) G
      rw [e1, e2, ixj hc6 hr, fld_r _ _ hr, ec]
      exact rl_c G.1 hc hr
theorem cnt_r (G : Rl h w y M S O) {r : Nat} (hr : r < 9) : mi_count h w O (nI r) = x3_count h w M S (nI r) := by
  obtain ⟨R, v, d1, d2, d3, d4⟩ := G
  obtain ⟨g, e, r2, r3, r5, -⟩ := id R
  rcases (show r = 0 ∨ r = 1 ∨ r = 2 ∨ r = 3 ∨ r = 4 ∨ r = 5 ∨ r = 6 ∨ r = 7 ∨ r = 8 by omega) with rfl | rfl | rfl | rfl | rfl | rfl | rfl | rfl | rfl
  · exact e.1.trans g.1.symm
  · exact e.2.1.trans g.2.1.symm
  · exact r2
  · exact sum_rl R (r := 5) (by decide) rfl
  · exact sum_rl R (r := 0) (by decide) rfl
  · exact r3
  · exact d3
  · exact r5
  · exact d4
theorem isw_k {x b : Int32} {N : Nat} (hb : b = nI N) (hN : N ≤ 2000) (h : ¬ is_w x 0 b = 0) : ∃ n : Nat, x = nI n ∧ x.toNatClampNeg = n ∧ n ≤ N := by
  obtain ⟨h1, h2⟩ := isw_ok h
  obtain ⟨n, hn, e⟩ := nI_of h1
  rw [e, hb, nI_ltI (by omega) hn] at h2
  exact ⟨n, e, by rw [e]; exact nI_clamp hn, by omega⟩
theorem cnt_ok (G : Rl h w y M S O) (z : O 0 0 = 0) (x : Int32) : ok3 (cnt_T x) (x3_count h w M S x) (mcnt_V h w O x) M S (mcnt_S O x) := by
  unfold cnt_T mcnt_V mcnt_S
  by_cases c1 : is_w x 0 8 = 0
  · simp only [if_pos c1]; exact ok_f G (by decide)
  · simp only [if_neg c1]
    obtain ⟨n, e, -, hn⟩ := isw_k (N := 8) rfl (by decide) c1
    refine ok_s z ?_ (h := h) (w := w) (y := y) G
    rw [e]
    exact cnt_r G (by omega)
theorem wea_r (W : wth M O) {k d : Nat} (hk : k < 30) (hd : d < 3) : O 4 (3 * nI k + nI d).toNatClampNeg = cal_num M (nI k) (nI d) := by
  have ek : (nI k).toNatClampNeg = k := nI_clamp (by omega)
  have e9 := wt_at W hk
  unfold cal_num
  rw [ek]
  rcases (show d = 0 ∨ d = 1 ∨ d = 2 by omega) with rfl | rfl | rfl
  · rw [if_pos (by rfl), ← e9.1, show nI 0 = (0 : Int32) from rfl, Int32.add_zero]
  · rw [if_neg (by decide), if_pos (by rfl), ← e9.2.1]; rfl
  · rw [if_neg (by decide), if_neg (by decide), ← e9.2.2]; rfl
theorem wea_ok (G : Rl h w y M S O) (z : O 0 0 = 0) (i x : Int32) : ok3 (wea_T i x) (cal_num M i x) (mwea_V O i x) M S (mwea_S O i x) := by
  unfold wea_T mwea_V mwea_S
  by_cases c1 : is_w i 0 29 = 0
  · simp only [if_pos c1]; exact ok_f G (by decide)
  · by_cases c2 : is_w x 0 2 = 0
    · simp only [if_neg c1, if_pos c2]; exact ok_f G (by decide)
    · simp only [if_neg c1, if_neg c2]
      obtain ⟨k, e, -, hk⟩ := isw_k (N := 29) rfl (by decide) c1
      obtain ⟨d, e2, -, hd⟩ := isw_k (N := 2) rfl (by decide) c2
      refine ok_s z ?_ (h := h) (w := w) (y := y) G
      rw [e, e2]
      exact wea_r G.1.2.2.2.2.2.2.1 (by omega) (by omega)
/-- kept, days gone by, brought back: the same again -/
theorem keep_rl (R : rl h w M S O) : rl h w M S (mi_keep O) := by
  obtain ⟨g, e, r2, r3, r5, rs, rw9, rc⟩ := R
  have er : ∀ r, r ≠ 5 → r ≠ 6 → mi_keep O r = O r := by
    intro r h5 h6
    unfold mi_keep
    rw [s_row_ne _ h6, s_row_ne _ h5]
  refine ⟨g, gem_keep e, ?_, ?_, ?_, ?_, ?_, ?_⟩
  · rw [er 1 (by decide) (by decide)]; exact r2
  · rw [er 1 (by decide) (by decide)]; exact r3
  · rw [er 1 (by decide) (by decide)]; exact r5
  · rw [er 2 (by decide) (by decide)]; exact rs
  · intro a ha; rw [er 4 (by decide) (by decide)]; exact rw9 a ha
  · rw [er 3 (by decide) (by decide)]; exact rc
/-- what is kept -/
def kept (h w : Nat) (M S o : sS) : Prop := gem h w o ∧ (∀ j, j < 7 → o 5 j = (if j = 0 then nI h else if j = 1 then nI w else if j = 2 then S 0 2 else if j = 3 then S 0 3 else if j = 4 then M 0 0 else if j = 5 then S 0 4 else M 0 1)) ∧ (∀ f, f < 8 → o 2 f = S 1 f) ∧ wth M o ∧ ∀ c, c < h * w → ∀ r, r < 12 → o 6 (12 * c + r) = S (r + 2) c
theorem keep_kept (G : Rl h w y M S O) : kept h w M S (mi_keep O) := by
  obtain ⟨R, v, d1, d2, d3, d4⟩ := G
  have hN := rl_hw R
  obtain ⟨g, e, r2, r3, r5, rs, rw9, rc⟩ := R
  have er : ∀ r, r ≠ 5 → r ≠ 6 → mi_keep O r = O r := by
    intro r h5 h6
    unfold mi_keep
    rw [s_row_ne _ h6, s_row_ne _ h5]
  refine ⟨gem_keep e, fun j hj => ?_, ?_, fun a ha => ?_, fun c hc r hr => ?_⟩
  · have : mi_keep O 5 j = O 1 j := by
      unfold mi_keep
      rw [s_row_ne _ (by decide), s_row_same, sb_cpy0 hj]
    rw [this]
    rcases (show j = 0 ∨ j = 1 ∨ j = 2 ∨ j = 3 ∨ j = 4 ∨ j = 5 ∨ j = 6 by omega) with rfl | rfl | rfl | rfl | rfl | rfl | rfl
    · exact e.1
    · exact e.2.1
    · exact r2
    · exact r3
    · exact d3
    · exact r5
    · exact d4
  · rw [er 2 (by decide) (by decide)]; exact rs
  · rw [er 4 (by decide) (by decide)]; exact rw9 a ha
  · have hcr : 12 * c + r < 12 * (h * w) := by omega
    have : mi_keep O 6 (12 * c + r) = O 3 (12 * c + r) := by
      unfold mi_keep
      rw [s_row_same, gem_12 e, nI_clamp (by omega), sb_cpy0 hcr]
    rw [this]
    exact rc c hc r hr
theorem kept_days {o : sS} (k : kept h w M S o) (n : Nat) : kept h w M S (mi_days h w o n) := by
  obtain ⟨e, k5, k2, k4, k6⟩ := k
  refine ⟨gem_days e n, ?_, ?_, ?_, ?_⟩
  · rw [mdays_row _ _ (by decide) (by decide)]; exact k5
  · rw [mdays_row _ _ (by decide) (by decide)]; exact k2
  · intro a ha; rw [mdays_row _ _ (by decide) (by decide)]; exact k4 a ha
  · rw [mdays_row _ _ (by decide) (by decide)]; exact k6
theorem kept_put {o : sS} (k : kept h w M S o) (j : Nat) (v : Int32) : kept h w M S (s_put o 3 j v) := by
  obtain ⟨e, k5, k2, k4, k6⟩ := k
  refine ⟨gem_put e (Or.inl (by decide)) _, ?_, ?_, ?_, ?_⟩
  · rw [s_put_ne _ (by decide)]; exact k5
  · rw [s_put_ne _ (by decide)]; exact k2
  · intro a ha; rw [s_put_ne _ (by decide)]; exact k4 a ha
  · rw [s_put_ne _ (by decide)]; exact k6
theorem kept_spr {o : sS} (k : kept h w M S o) : spr h w o := ⟨k.2.1 0 (by decide), k.2.1 1 (by decide)⟩
/-- brought back: both what is kept and the numbers -/
theorem back_ok {o : sS} (g : geo h w S) (v : inv S) (d1 : S 0 2 = nI y) (d2 : y ≤ 2000) (k : kept h w M S o) : Rl h w y M S (mi_back o) ∧ kept h w M S (mi_back o) ∧ mi_back o 0 = o 0 := by
  have gb := gem_back k.1 (kept_spr k)
  have sp := kept_spr k
  obtain ⟨e, k5, k2, k4, k6⟩ := k
  have hN := gem_hw e
  have er : ∀ r, r ≠ 1 → r ≠ 3 → mi_back o r = o r := by
    intro r h1 h3
    unfold mi_back mi_b1
    rw [s_row_ne _ h3, s_row_ne _ h1]
  have e1 : ∀ j, j < 7 → mi_back o 1 j = o 5 j := by
    intro j hj
    unfold mi_back mi_b1
    rw [s_row_ne _ (by decide), s_row_same, sb_cpy0 hj]
  have e3 : ∀ j, j < 12 * (h * w) → mi_back o 3 j = o 6 j := by
    intro j hj
    unfold mi_back
    rw [s_row_same, gem_12 (gem_b1 e sp), nI_clamp (by omega), sb_cpy0 hj]
  refine ⟨⟨⟨g, gb, ?_, ?_, ?_, ?_, ?_, ?_⟩, v, d1, d2, ?_, ?_⟩, ⟨gb, ?_, ?_, ?_, ?_⟩, er 0 (by decide) (by decide)⟩
  · rw [e1 2 (by decide)]; exact k5 2 (by decide)
  · rw [e1 3 (by decide)]; exact k5 3 (by decide)
  · rw [e1 5 (by decide)]; exact k5 5 (by decide)
  · rw [er 2 (by decide) (by decide)]; exact k2
  · intro a ha; rw [er 4 (by decide) (by decide)]; exact k4 a ha
  · intro c hc r hr; rw [e3 _ (by omega)]; exact k6 c hc r hr
  · rw [e1 4 (by decide)]; exact k5 4 (by decide)
  · rw [e1 6 (by decide)]; exact k5 6 (by decide)
  · rw [er 5 (by decide) (by decide)]; exact k5
  · rw [er 2 (by decide) (by decide)]; exact k2
  · intro a ha; rw [er 4 (by decide) (by decide)]; exact k4 a ha
  · rw [er 6 (by decide) (by decide)]; exact k6
theorem keep_0 (O : sS) : mi_keep O 0 = O 0 := by
  unfold mi_keep
  rw [s_row_ne _ (by decide), s_row_ne _ (by decide)]
theorem for_ok (G : Rl h w y M S O) (z : O 0 0 = 0) (i x : Int32) : ok3 (for_T S i x) (x3_fore h w S (pas_S h w M S i) x) (mfor_V h w O i x) M S (mfor_S h w O i x) := by
  unfold for_T mfor_V mfor_S
  rw [G.1.2.2.1, G.2.2.1]
  by_cases c1 : is_w i 1 20 = 0
  · simp only [if_pos c1]; exact ok_f G (by decide)
  · by_cases c2 : is_w x 0 3 = 0
    · simp only [if_neg c1, if_pos c2]; exact ok_f G (by decide)
    · obtain ⟨n, en, ecl, hn, -⟩ := w60 (N := 20) rfl (by decide) c1
      by_cases c3 : nI y + i ≤ 2000
      · simp only [if_neg c1, if_neg c2, if_pos c3]
        unfold pas_S mfor_u
        rw [ecl]
        rw [en, day_le G.2.2.2.1 (by omega)] at c3
        have K := kept_days (keep_kept G) n
        obtain ⟨R1, -, -⟩ := rl_days n (keep_rl G.1) G.2.1 G.2.2.1 (by omega)
        obtain ⟨B1, -, B3⟩ := back_ok G.1.1 G.2.1 G.2.2.1 G.2.2.2.1 K
        refine ok_s ?_ ?_ (h := h) (w := w) (y := y) B1
        · rw [B3, mdays_row _ _ (by decide) (by decide), keep_0]; exact z
        · obtain ⟨d, e2, -, hd⟩ := isw_k (N := 3) rfl (by decide) c2
          rw [e2]
          rcases (show d = 0 ∨ d = 1 ∨ d = 2 ∨ d = 3 by omega) with rfl | rfl | rfl | rfl
          · exact sum_rl R1 (r := 5) (by decide) rfl
          · exact sum_rl R1 (r := 7) (by decide) rfl
          · show mi_days h w (mi_keep O) n 1 3 - mi_days h w (mi_keep O) n 5 3 = sl_days h w M S n 0 3 - S 0 3
            rw [R1.2.2.2.1, K.2.1 3 (by decide)]
            rfl
          · exact sum_rl R1 (r := 0) (by decide) rfl
      · simp only [if_neg c1, if_neg c2, if_neg c3]; exact ok_f G (by decide)
end OPS3

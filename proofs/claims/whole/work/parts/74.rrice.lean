/-! what a field loses, how its rice grows -/
def okc (S : sS) (c : Nat) : Prop := (∃ n : Nat, S 7 c = nI n ∧ n ≤ 1) ∧ (∃ n : Nat, S 9 c = nI n ∧ n ≤ 100) ∧ (∃ n : Nat, S 10 c = nI n ∧ n ≤ 3) ∧ ∃ n : Nat, S 11 c = nI n ∧ n ≤ 4
def okA (S : sS) : Prop := ∀ c, c < 64 → okc S c
theorem okc_row {S T : sS} {c : Nat} (h : ∀ r, r ≠ 0 → T r c = S r c) (k : okc S c) : okc T c := by
  unfold okc
  rw [h 7 (by decide), h 9 (by decide), h 10 (by decide), h 11 (by decide)]
  exact k
theorem rl_clear {h w : Nat} {M S O : sS} (R : rl h w M S O) {c : Nat} (hc : c < h * w) : rl h w M (sl_clear S (nI c)) (mi_fallow O (12 * nI c)) := by
  have hN := rl_hw R
  unfold sl_clear mi_fallow
  rw [ix5 (by omega), ix6 (by omega), ix7 (by omega), ix8 (by omega), ix9 (by omega), nI_clamp (by omega)]
  exact rl_put (rl_put (rl_put (rl_put (rl_put R (j := 5) (by decide) _) (j := 6) (by decide) _) (j := 7) (by decide) _) (j := 8) (by decide) _) (j := 9) (by decide) _
theorem rl_die {h w : Nat} {M S O : sS} (R : rl h w M S O) {c : Nat} (hc : c < h * w) : rl h w M (sl_die S (nI c)) (mi_die O (12 * nI c)) := by
  have R1 := rl_clear R hc
  unfold sl_die mi_die
  rw [R1.2.2.2.2.1]
  exact (rl_n R1 _).2.1
theorem clear_9 (S : sS) {c : Nat} (hc : c < 64) (v : Int32) : sl_clear (s_put S 9 c v) (nI c) = sl_clear S (nI c) := by
  unfold sl_clear
  rw [nI_clamp (by omega), put_c S (Or.inl (by decide) : (9 : Nat) ≠ 7 ∨ c ≠ c) v 0, put_c (s_put S 7 c 0) (Or.inl (by decide) : (9 : Nat) ≠ 8 ∨ c ≠ c) v 0, put_s]
theorem clear_ok (S : sS) {c : Nat} (hc : c < 64) : okc (sl_clear S (nI c)) c := by
  unfold okc sl_clear
  rw [nI_clamp (by omega)]
  simp only [pg, if_true, show ¬ (7 : Nat) = 8 by decide, show ¬ (7 : Nat) = 9 by decide, show ¬ (7 : Nat) = 10 by decide, show ¬ (7 : Nat) = 11 by decide, show ¬ (9 : Nat) = 10 by decide, show ¬ (9 : Nat) = 11 by decide, show ¬ (10 : Nat) = 11 by decide, if_false]
  exact ⟨⟨0, rfl, by decide⟩, ⟨0, rfl, by decide⟩, ⟨0, rfl, by decide⟩, ⟨0, rfl, by decide⟩⟩
theorem clear_ne (S : sS) {c a : Nat} (hc : c < 64) (h : a ≠ c) (r : Nat) : sl_clear S (nI c) r a = S r a := by
  unfold sl_clear
  rw [nI_clamp (by omega), s_put_col _ _ h, s_put_col _ _ h, s_put_col _ _ h, s_put_col _ _ h, s_put_col _ _ h]
theorem if10 {p : Prop} [Decidable p] (z : Int32) : (if (if p then (0 : Int32) else 1) = 0 then (0 : Int32) else z) = if p then 0 else z := by
  by_cases h : p
  · rw [if_pos h, if_pos rfl, if_pos h]
  · rw [if_neg h, if_neg (by decide), if_neg h]
theorem if01 {p : Prop} [Decidable p] (z : Int32) : (if (if p then (1 : Int32) else 0) = 0 then (0 : Int32) else z) = if p then z else 0 := by
  by_cases h : p
  · rw [if_pos h, if_neg (by decide), if_pos h]
  · rw [if_neg h, if_pos rfl, if_neg h]
theorem by_hard {p q : Prop} [Decidable p] [Decidable q] (X a b : Int32) (ha : 0 < a) (hb : ¬ b ≤ 0) : (if (if p then (0 : Int32) else 1) = 0 then (if (if q then (1 : Int32) else 0) = 0 then X else -3) else -3) = if 0 < (if p then 0 else a) then -3 else if (if q then b else 0) ≤ 0 then X else -3 := by
  by_cases h : p <;> by_cases k : q <;> simp [h, k, ha, hb]
theorem cap_ok (z : Int32) : ∃ n : Nat, zmin (zmax z 0) 100 = nI n ∧ n ≤ 100 := by
  have h0 : (0 : Int32).toInt = 0 := rfl
  have h1 : (100 : Int32).toInt = 100 := rfl
  have hz : ∃ n : Nat, n < 2 ^ 31 ∧ zmax z 0 = nI n := by
    unfold zmax
    by_cases h : z < 0
    · rw [if_pos h]; exact ⟨0, by decide, rfl⟩
    · rw [if_neg h]; exact nI_of h
  obtain ⟨n, hn, e⟩ := hz
  rw [e]
  unfold zmin
  have e1 : (100 : Int32) = nI 100 := rfl
  by_cases h : 100 < nI n
  · rw [if_pos h]; exact ⟨100, rfl, by decide⟩
  · rw [if_neg h]
    rw [e1, nI_ltI (by decide) hn] at h
    exact ⟨n, rfl, by omega⟩
/-- a field's rice grows -/
theorem rl_grow {h w : Nat} {M S O : sS} (R : rl h w M S O) {c : Nat} (hc : c < h * w) (hk : okc S c) : rl h w M (sl_grow S (nI c)) (mi_grow O (12 * nI c)) ∧ okc (sl_grow S (nI c)) c := by
  have hN := rl_hw R
  have hc6 : c < 64 := by omega
  have ec : (nI c).toNatClampNeg = c := nI_clamp (by omega)
  obtain ⟨⟨n7, k7, b7⟩, ⟨n9, k9, b9⟩, ⟨n10, k10, b10⟩, ⟨n11, k11, b11⟩⟩ := hk
  unfold sl_grow mi_grow mi_g5
  rw [ec]
  -- age
  obtain ⟨T1, eT1⟩ : ∃ z : sS, z = s_put S 8 c (S 8 c + 1) := ⟨_, rfl⟩
  obtain ⟨m1, em1⟩ : ∃ z : sS, z = mi_g1 O (12 * nI c) := ⟨_, rfl⟩
  have R1 : rl h w M T1 m1 := by
    rw [eT1, em1]
    unfold mi_g1
    rw [ix6 hc6, rl_c R hc (by decide)]
    exact rl_put R (j := 6) (by decide) _
  rw [← eT1, ← em1]
  have q7 : T1 7 c = nI n7 := by rw [eT1, s_put_ne _ (by decide)]; exact k7
  have q9 : T1 9 c = nI n9 := by rw [eT1, s_put_ne _ (by decide)]; exact k9
  have q10 : T1 10 c = nI n10 := by rw [eT1, s_put_ne _ (by decide)]; exact k10
  have q11 : T1 11 c = nI n11 := by rw [eT1, s_put_ne _ (by decide)]; exact k11
  -- wet
  have ew : mi_wet m1 (12 * nI c) = if T1 2 c ≤ sl_height T1 c then 0 else 1 := by
    unfold mi_wet sl_height
    rw [ix0 hc6, ix6 hc6, rl_c R1 hc (by decide), rl_c R1 hc (by decide), zmin_c]
  have ed : mi_dry m1 (12 * nI c) = if T1 2 c = 0 then 1 else 0 := by
    unfold mi_dry
    rw [ix0 hc6, rl_c R1 hc (by decide)]
  obtain ⟨T2, eT2⟩ : ∃ z : sS, z = sl_wet T1 c := ⟨_, rfl⟩
  obtain ⟨m2, em2⟩ : ∃ z : sS, z = mi_g2 m1 (12 * nI c) (mi_wet m1 (12 * nI c)) := ⟨_, rfl⟩
  have R2 : rl h w M T2 m2 := by
    rw [eT2, em2]
    unfold mi_g2 sl_wet
    rw [ew, if10, ix8 hc6, rl_c R1 hc (by decide)]
    exact rl_put R1 (j := 8) (by decide) _
  rw [← eT2, ← em2]
  obtain ⟨T3, eT3⟩ : ∃ z : sS, z = sl_dry T2 c := ⟨_, rfl⟩
  obtain ⟨m3, em3⟩ : ∃ z : sS, z = mi_g3 m2 (12 * nI c) (mi_dry m1 (12 * nI c)) := ⟨_, rfl⟩
  have t22 : T2 2 c = T1 2 c := by rw [eT2]; unfold sl_wet; rw [s_put_ne _ (by decide)]
  have R3 : rl h w M T3 m3 := by
    rw [eT3, em3]
    unfold mi_g3 sl_dry
    rw [ed, if01, ix9 hc6, rl_c R2 hc (by decide), t22]
    exact rl_put R2 (j := 9) (by decide) _
  rw [← eT3, ← em3]
  have t32 : T3 2 c = T1 2 c := by rw [eT3]; unfold sl_dry; rw [s_put_ne _ (by decide), t22]
  have t37 : T3 7 c = nI n7 := by rw [eT3]; unfold sl_dry; rw [s_put_ne _ (by decide), eT2]; unfold sl_wet; rw [s_put_ne _ (by decide)]; exact q7
  have t310 : T3 10 c = if T1 2 c ≤ sl_height T1 c then 0 else nI (n10 + 1) := by
    rw [eT3]; unfold sl_dry; rw [s_put_ne _ (by decide), eT2]; unfold sl_wet
    rw [pg, if_pos rfl, if_pos rfl, q10, nI_1]
  have t311 : T3 11 c = if T1 2 c = 0 then nI (n11 + 1) else 0 := by
    have : T2 11 c = nI n11 := by rw [eT2]; unfold sl_wet; rw [s_put_ne _ (by decide)]; exact q11
    rw [eT3]; unfold sl_dry
    rw [pg, if_pos rfl, if_pos rfl, t22, this, nI_1]
  have e0 : (0 : Int32) = nI 0 := rfl
  have e4 : (4 : Int32) = nI 4 := rfl
  have e5 : (5 : Int32) = nI 5 := rfl
  -- by how much
  have eb : mi_by m1 (12 * nI c) = sl_hard T3 (nI c) := by
    unfold mi_by sl_hard
    rw [ew, ed, ec, t310, t311, t32, ix0 hc6, rl_c R1 hc (by decide)]
    exact by_hard _ _ _ (by rw [e0]; exact nI_lt (by omega) (by omega)) (nI_nle (by omega) (by omega))
  obtain ⟨T4, eT4⟩ : ∃ z : sS, z = sl_live T3 (nI c) := ⟨_, rfl⟩
  obtain ⟨m4, em4⟩ : ∃ z : sS, z = mi_g4 m3 (12 * nI c) (mi_by m1 (12 * nI c)) := ⟨_, rfl⟩
  have R4 : rl h w M T4 m4 := by
    rw [eT4, em4]
    unfold mi_g4 sl_live
    rw [eb, ec, ix7 hc6, rl_c R3 hc (by decide), zcap _ (by decide)]
    exact rl_put R3 (j := 7) (by decide) _
  rw [← em4]
  have t410 : T4 10 c = T3 10 c := by rw [eT4]; unfold sl_live; rw [s_put_ne _ (by decide)]
  have t411 : T4 11 c = T3 11 c := by rw [eT4]; unfold sl_live; rw [s_put_ne _ (by decide)]
  have ede : sl_die T4 (nI c) = sl_die T3 (nI c) := by
    rw [eT4]; unfold sl_live sl_die
    rw [ec, clear_9 _ hc6]
  have okd : okc (sl_die T3 (nI c)) c := by
    unfold sl_die
    exact okc_row (fun r hr => by rw [s_put_ne _ hr]) (clear_ok T3 hc6)
  unfold sl_end mi_end
  rw [ix8 hc6, ix9 hc6, rl_c R4 hc (by decide), rl_c R4 hc (by decide), ec, show 8 + 2 = 10 from rfl, show 9 + 2 = 11 from rfl, t410, t411]
  by_cases p : 4 ≤ T3 10 c
  · rw [if_pos p, if_pos p, ← ede]
    exact ⟨rl_die R4 hc, by rw [ede]; exact okd⟩
  · rw [if_neg p, if_neg p]
    by_cases q : 5 ≤ T3 11 c
    · rw [if_pos q, if_neg (Int32.not_lt.mpr q), ← ede]
      exact ⟨rl_die R4 hc, by rw [ede]; exact okd⟩
    · rw [if_neg q, if_pos (Int32.not_le.mp q), ← eT4]
      refine ⟨R4, ⟨n7, ?_, b7⟩, ?_, ?_, ?_⟩
      · rw [eT4]; unfold sl_live; rw [s_put_ne _ (by decide)]; exact t37
      · rw [eT4]; unfold sl_live; rw [pg, if_pos rfl, ec, if_pos rfl]; exact cap_ok _
      · rw [t410, t310]
        rw [t310] at p
        by_cases z : T1 2 c ≤ sl_height T1 c
        · rw [if_pos z]; exact ⟨0, rfl, by decide⟩
        · rw [if_neg z] at p ⊢
          rw [e4, nI_leI (by decide) (by omega)] at p
          exact ⟨_, rfl, by omega⟩
      · rw [t411, t311]
        rw [t311] at q
        by_cases z : T1 2 c = 0
        · rw [if_pos z] at q ⊢
          rw [e5, nI_leI (by decide) (by omega)] at q
          exact ⟨_, rfl, by omega⟩
        · rw [if_neg z]; exact ⟨0, rfl, by decide⟩

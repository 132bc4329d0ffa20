/-! the water that flows: nothing comes from nothing, each field's bound -/
theorem y_dle {h w j : Nat} {S : sS} (hd : ∀ j, j < h * w → 0 ≤ (S 2 j).toInt) (hb : 0 ≤ (S 0 3).toInt) (hj : j < h * w) : (S 2 j).toInt ≤ yT h w S := by
  have := yS_el (g := fun j => (S 2 j).toInt) hd hj
  unfold yT
  omega
theorem y_ble {h w : Nat} {S : sS} (hd : ∀ j, j < h * w → 0 ≤ (S 2 j).toInt) : (S 0 3).toInt ≤ yT h w S := by
  have := yS_0 (g := fun j => (S 2 j).toInt) hd
  unfold yT
  omega
theorem y_bring {h w : Nat} {S : sS} (g : geo h w S) (t f x : Int32) : sl_bring S t f x = s_put S 0 3 (S 0 3 + x) ∨ ∃ i j : Nat, i < h ∧ j < w ∧ t = nI i ∧ f = nI j ∧ sl_bring S t f x = s_put S 2 (i * w + j) (S 2 (i * w + j) + x) := by
  unfold sl_bring
  by_cases q : sl_has S t f = 0
  · rw [if_pos q]
    exact Or.inl rfl
  · rw [if_neg q]
    obtain ⟨i, j, hi, hj, e1, e2, e3, e4⟩ := geo_tf g q
    have hN := geo_hw g
    refine Or.inr ⟨i, j, hi, hj, e1, e2, ?_⟩
    rw [e3, nI_clamp (by omega)]
theorem y_br {h w : Nat} {S : sS} (g : geo h w S) (t f x : Int32) (hx : 0 ≤ x.toInt) (hd : ∀ j, j < h * w → 0 ≤ (S 2 j).toInt) (hb : 0 ≤ (S 0 3).toInt) (hT : yT h w S + x.toInt ≤ 1000000) :
    geo h w (sl_bring S t f x) ∧ (∀ r j, r ≠ 2 → ¬ (r = 0 ∧ j = 3) → sl_bring S t f x r j = S r j) ∧ (∀ j, j < h * w → (sl_bring S t f x 2 j = S 2 j ∨ ∃ i' j' : Nat, i' < h ∧ j' < w ∧ t = nI i' ∧ f = nI j' ∧ j = i' * w + j' ∧ (sl_bring S t f x 2 j).toInt = (S 2 j).toInt + x.toInt)) ∧ (∀ j, j < h * w → 0 ≤ (sl_bring S t f x 2 j).toInt) ∧ 0 ≤ (sl_bring S t f x 0 3).toInt ∧ yT h w (sl_bring S t f x) = yT h w S + x.toInt := by
  refine ⟨geo_sam g (sam_bring S t f x), ?_⟩
  rcases y_bring g t f x with e | ⟨i, j, hi, hj, e1, e2, e⟩
  · have hbl := y_ble hd
    have ha : (S 0 3 + x).toInt = (S 0 3).toInt + x.toInt := yi_add (by omega) (by omega)
    rw [e]
    refine ⟨fun r j h1 h2 => ?_, fun j hj => Or.inl ?_, fun j hj => ?_, ?_, ?_⟩
    · rw [pg]
      split
      · split
        · omega
        · rfl
      · rfl
    · rw [pg, if_neg (by decide)]
    · rw [pg, if_neg (by decide)]; exact hd j hj
    · rw [pg, if_pos rfl, if_pos rfl, ha]; omega
    · rw [yT_b, ha]; omega
  · have hk := y_idx (h := h) hi hj
    have hdl := y_dle hd hb hk
    have ha : (S 2 (i * w + j) + x).toInt = (S 2 (i * w + j)).toInt + x.toInt := yi_add (by have := hd _ hk; omega) (by omega)
    rw [e]
    refine ⟨fun r j h1 h2 => ?_, fun j9 hj9 => ?_, fun j9 hj9 => ?_, ?_, ?_⟩
    · rw [pg, if_neg h1]
    · rw [pg, if_pos rfl]
      by_cases q : j9 = i * w + j
      · refine Or.inr ⟨i, j, hi, hj, e1, e2, q, ?_⟩
        rw [if_pos q, ha, q]
      · exact Or.inl (if_neg q)
    · rw [pg, if_pos rfl]
      by_cases q : j9 = i * w + j
      · rw [if_pos q, ha]
        have := hd _ hk
        omega
      · rw [if_neg q]
        exact hd j9 hj9
    · rw [pg, if_neg (by decide)]; exact hb
    · rw [yT_2 S hk, ha]; omega
def yFI (h w p : Nat) (S0 S : sS) : Prop :=
  geo h w S ∧ (∀ r j, r ≠ 2 → r ≠ 12 → r ≠ 13 → ¬ (r = 0 ∧ j = 3) → S r j = S0 r j) ∧ (∀ j, j < h * w → 0 ≤ (S 2 j).toInt) ∧ 0 ≤ (S 0 3).toInt ∧ yT h w S = yT h w S0 ∧
  ∀ t f, t < h → f < w → t * w + f < p → (S 2 (t * w + f)).toInt ≤ (S 3 (t * w + f)).toInt + (if f + 1 < w ∧ t * w + f + 1 < p then (S 13 (t * w + f + 1)).toInt else 0) ∧ 0 ≤ (S 12 (t * w + f)).toInt ∧ (S 12 (t * w + f)).toInt ≤ 40 ∧ 0 ≤ (S 13 (t * w + f)).toInt ∧ (S 13 (t * w + f)).toInt ≤ 1000000
theorem y_fA (S : sS) (k r j : Nat) : sl_flow1 S k r j = if r = 2 ∧ j = k then S 2 k - sl_out S k else if r = 12 ∧ j = k then sl_out S k else S r j := by
  unfold sl_flow1
  rw [pc, pc]
theorem y_fC (S : sS) (k r j : Nat) : sl_flow2 S k r j = if r = 2 ∧ j = k then S 2 k - sl_over S k else if r = 13 ∧ j = k then sl_over S k else S r j := by
  unfold sl_flow2
  rw [pc, pc]
set_option maxHeartbeats 2000000 in
theorem y_flow1 {h w t f : Nat} {S0 S : sS} (I : yFI h w (t * w + f) S0 S) (ht : t < h) (hf : f < w) (hst : ∀ j, j < h * w → 0 ≤ (S0 3 j).toInt ∧ (S0 3 j).toInt ≤ 120 ∧ 0 ≤ (S0 5 j).toInt ∧ (S0 5 j).toInt ≤ 120) (hT : yT h w S0 ≤ 1000000) : yFI h w (t * w + f + 1) S0 (sl_flow S (nI t) (nI f)) := by
  obtain ⟨g, hr, hd, hb, hc, hp⟩ := I
  have hN := geo_hw g
  have hk := y_idx (h := h) ht hf
  obtain ⟨-, gw, -, hh8, -, hw8⟩ := id g
  have ek : (sl_at S (nI t) (nI f)).toNatClampNeg = t * w + f := by
    unfold sl_at
    rw [gw, pk_mul, nI_add, nI_clamp (by omega)]
  unfold sl_flow sl_flowB sl_flowA
  rw [ek]
  have hs1 : (t + 1) * w = t * w + w := Nat.succ_mul t w
  obtain ⟨k, hke⟩ : ∃ k, k = t * w + f := ⟨_, rfl⟩
  rw [← hke] at hk hp ⊢
  obtain ⟨s1, s2, s3, s4⟩ := hst k hk
  have e5 : S 5 k = S0 5 k := hr 5 k (by decide) (by decide) (by decide) (by omega)
  have e3 : S 3 k = S0 3 k := hr 3 k (by decide) (by decide) (by decide) (by omega)
  have d0 := hd k hk
  have dle := y_dle hd hb hk
  have ho : (sl_out S k).toInt = min (max ((S 2 k).toInt - (S 5 k).toInt) 0) 40 := by
    unfold sl_out
    rw [yi_min, yi_max, yi_sub (by rw [e5]; omega) (by rw [e5]; omega), y0, y40]
  rw [e5] at ho
  have hv : (S 2 k - sl_out S k).toInt = (S 2 k).toInt - (sl_out S k).toInt := yi_sub (by omega) (by omega)
  obtain ⟨o, hoe⟩ : ∃ o, o = sl_out S k := ⟨_, rfl⟩
  obtain ⟨A, hA⟩ : ∃ A, A = sl_flow1 S k := ⟨_, rfl⟩
  have gA : geo h w A := by rw [hA]; exact geo_put (geo_put g (Or.inl (by decide)) _) (Or.inl (by decide)) _
  have tA : yT h w A = yT h w S - o.toInt := by
    rw [hA]
    unfold sl_flow1
    rw [yT_2 _ hk, yT_o _ (by omega), pg, if_neg (by decide), hv, hoe]
    omega
  have vA : ∀ r j, A r j = if r = 2 ∧ j = k then S 2 k - sl_out S k else if r = 12 ∧ j = k then sl_out S k else S r j := fun r j => by rw [hA]; exact y_fA S k r j
  rw [← hA, ← hoe]
  rw [← hoe] at ho hv vA
  have dA : ∀ j, j < h * w → 0 ≤ (A 2 j).toInt := fun j hj => by
    rw [vA]
    by_cases q : j = k
    · rw [if_pos ⟨rfl, q⟩, hv]; omega
    · rw [if_neg (by omega), if_neg (by omega)]; exact hd j hj
  have bA : A 0 3 = S 0 3 := by rw [vA, if_neg (by omega), if_neg (by omega)]
  obtain ⟨gB, rB, xB, dB, bB, tB⟩ := y_br gA (nI t + 1) (nI f + S 6 k) o (by omega) dA (by rw [bA]; exact hb) (by omega)
  obtain ⟨B, hB⟩ : ∃ B, B = sl_bring A (nI t + 1) (nI f + S 6 k) o := ⟨_, rfl⟩
  rw [← hB] at gB rB xB dB bB tB ⊢
  have nt : nI t + 1 = nI (t + 1) := nI_1 t
  have Bk : B 2 k = A 2 k := by
    rcases xB k hk with q | ⟨i', j', q1, q2, q3, q4, q5, -⟩
    · exact q
    · rw [nt] at q3
      have := yn_eq (by omega) (by omega) q3
      rw [← this, hs1] at q5
      omega
  have Ak : A 2 k = S 2 k - o := by rw [vA, if_pos ⟨rfl, rfl⟩]
  have B3 : B 3 k = S0 3 k := by rw [rB 3 k (by decide) (by omega), vA, if_neg (by omega), if_neg (by omega), e3]
  have hov : (sl_over B k).toInt = max ((B 2 k).toInt - (B 3 k).toInt) 0 := by
    unfold sl_over
    rw [yi_max, yi_sub (by rw [Bk, Ak, B3]; omega) (by rw [Bk, Ak, B3]; omega), y0]
  rw [B3] at hov
  have Bv : (B 2 k).toInt = (S 2 k).toInt - o.toInt := by rw [Bk, Ak, hv]
  have hw9 : (B 2 k - sl_over B k).toInt = (B 2 k).toInt - (sl_over B k).toInt := yi_sub (by omega) (by omega)
  obtain ⟨u, hue⟩ : ∃ u, u = sl_over B k := ⟨_, rfl⟩
  obtain ⟨C, hC⟩ : ∃ C, C = sl_flow2 B k := ⟨_, rfl⟩
  have gC : geo h w C := by rw [hC]; exact geo_put (geo_put gB (Or.inl (by decide)) _) (Or.inl (by decide)) _
  have tC : yT h w C = yT h w B - u.toInt := by
    rw [hC]
    unfold sl_flow2
    rw [yT_2 _ hk, yT_o _ (by omega), pg, if_neg (by decide), hw9, hue]
    omega
  have vC : ∀ r j, C r j = if r = 2 ∧ j = k then B 2 k - sl_over B k else if r = 13 ∧ j = k then sl_over B k else B r j := fun r j => by rw [hC]; exact y_fC B k r j
  rw [← hC, ← hue]
  rw [← hue] at hov hw9 vC
  have dC : ∀ j, j < h * w → 0 ≤ (C 2 j).toInt := fun j hj => by
    rw [vC]
    by_cases q : j = k
    · rw [if_pos ⟨rfl, q⟩, hw9]; omega
    · rw [if_neg (by omega), if_neg (by omega)]; exact dB j hj
  have bC : C 0 3 = B 0 3 := by rw [vC, if_neg (by omega), if_neg (by omega)]
  have hu2 : (u / 2).toInt = u.toInt / 2 := by rw [yi_div (by omega) (by rw [y2]; omega), y2]
  have hu3 : (u - u / 2).toInt = u.toInt - u.toInt / 2 := by rw [yi_sub (by rw [hu2]; omega) (by rw [hu2]; omega), hu2]
  obtain ⟨gD, rD, xD, dD, bD, tD⟩ := y_br gC (nI t) (nI f - 1) (u / 2) (by omega) dC (by rw [bC]; exact bB) (by omega)
  obtain ⟨D, hD⟩ : ∃ D, D = sl_bring C (nI t) (nI f - 1) (u / 2) := ⟨_, rfl⟩
  rw [← hD] at gD rD xD dD bD tD ⊢
  obtain ⟨gE, rE, xE, dE, bE, tE⟩ := y_br gD (nI t) (nI f + 1) (u - u / 2) (by omega) dD bD (by omega)
  obtain ⟨E, hE⟩ : ∃ E, E = sl_bring D (nI t) (nI f + 1) (u - u / 2) := ⟨_, rfl⟩
  rw [← hE] at gE rE xE dE bE tE ⊢
  have jf : ∀ j' : Nat, j' < w → nI f - 1 = nI j' → f = j' + 1 := fun j' q1 q2 => by
    have q3 := congrArg Int32.toInt q2
    rw [yi_sub (by rw [yn (by omega), y1]; omega) (by rw [yn (by omega), y1]; omega), yn (by omega), yn (by omega), y1] at q3
    omega
  have jg : ∀ j' : Nat, j' < w → nI f + 1 = nI j' → j' = f + 1 := fun j' q1 q2 => by
    rw [nI_1] at q2
    exact (yn_eq (by omega) (by omega) q2).symm
  -- rows that stay
  have rows : ∀ r j, r ≠ 2 → ¬ (r = 0 ∧ j = 3) → E r j = if r = 13 ∧ j = k then u else if r = 12 ∧ j = k then o else S r j := by
    intro r j q1 q2
    rw [rE r j q1 q2, rD r j q1 q2, vC, if_neg (by omega)]
    by_cases q : r = 13 ∧ j = k
    · rw [if_pos q, if_pos q]
    · rw [if_neg q, if_neg q, rB r j q1 q2, vA, if_neg (by omega)]
  refine ⟨gE, fun r j q1 q2 q3 q4 => ?_, dE, bE, by omega, fun t' f' ht' hf' hlt => ?_⟩
  · rw [rows r j q1 q4, if_neg (by omega), if_neg (by omega)]
    exact hr r j q1 q2 q3 q4
  · obtain ⟨c, hce⟩ : ∃ c, c = t' * w + f' := ⟨_, rfl⟩
    have hcn : c < h * w := by rw [hce]; exact y_idx ht' hf'
    have old := hp t' f' ht' hf'
    rw [← hce] at hlt old ⊢
    rw [rows 3 c (by decide) (by omega), rows 12 c (by decide) (by omega), rows 13 c (by decide) (by omega), rows 13 (c + 1) (by decide) (by omega)]
    rw [if_neg (show ¬ (3 = 13 ∧ c = k) by omega), if_neg (show ¬ (3 = 12 ∧ c = k) by omega), if_neg (show ¬ (12 = 13 ∧ c = k) by omega), if_neg (show ¬ (13 = 12 ∧ c = k) by omega), if_neg (show ¬ (13 = 12 ∧ c + 1 = k) by omega)]
    by_cases hck : c = k
    · subst hck
      rw [if_pos (show 13 = 13 ∧ c = c from ⟨rfl, rfl⟩), if_pos (show 12 = 12 ∧ c = c from ⟨rfl, rfl⟩), if_neg (show ¬ (f' + 1 < w ∧ c + 1 < c + 1) by omega)]
      have Ek : (E 2 c).toInt = (B 2 c).toInt - u.toInt := by
        have h1 : E 2 c = D 2 c := by
          rcases xE c hk with q | ⟨i', j', q1, q2, q3, q4, q5, -⟩
          · exact q
          · have := jg j' q2 q4
            have hi := yn_eq (by omega) (by omega) q3
            rw [← hi] at q5
            omega
        have h2 : D 2 c = C 2 c := by
          rcases xD c hk with q | ⟨i', j', q1, q2, q3, q4, q5, -⟩
          · exact q
          · have := jf j' q2 q4
            have hi := yn_eq (by omega) (by omega) q3
            rw [← hi] at q5
            omega
        rw [h1, h2, vC, if_pos ⟨rfl, rfl⟩, hw9]
      rw [e3]
      refine ⟨by omega, by omega, by omega, by omega, by omega⟩
    · rw [if_neg (show ¬ (13 = 13 ∧ c = k) by omega), if_neg (show ¬ (12 = 12 ∧ c = k) by omega)]
      obtain ⟨o1, o2, o3, o4⟩ := old (by omega)
      refine ⟨?_, o2, o3, o4⟩
      have cB : B 2 c = S 2 c := by
        rcases xB c hcn with q | ⟨i', j', q1, q2, q3, q4, q5, -⟩
        · rw [q, vA, if_neg (by omega), if_neg (by omega)]
        · rw [nt] at q3
          have hi := yn_eq (by omega) (by omega) q3
          rw [← hi, hs1] at q5
          omega
      have cC : C 2 c = S 2 c := by rw [vC, if_neg (by omega), if_neg (by omega), cB]
      have cE : E 2 c = D 2 c := by
        rcases xE c hcn with q | ⟨i', j', q1, q2, q3, q4, q5, -⟩
        · exact q
        · have := jg j' q2 q4
          have hi := yn_eq (by omega) (by omega) q3
          rw [← hi] at q5
          omega
      rcases xD c hcn with q | ⟨i', j', q1, q2, q3, q4, q5, q6⟩
      · rw [cE, q, cC]
        by_cases z : f' + 1 < w ∧ c + 1 < k
        · rw [if_pos z] at o1
          rw [if_pos (by omega), if_neg (by omega)]
          exact o1
        · rw [if_neg z] at o1
          by_cases z2 : f' + 1 < w ∧ c + 1 < k + 1
          · rw [if_pos z2, if_pos (by omega)]
            omega
          · rw [if_neg z2]
            exact o1
      · have hj := jf j' q2 q4
        have hi := yn_eq (by omega) (by omega) q3
        rw [← hi] at q5
        obtain ⟨i1, i2⟩ := y_inj (hce.symm.trans q5) hf' q2
        rw [if_neg (by omega)] at o1
        rw [cE, q6, cC, if_pos (by omega), if_pos (by omega)]
        omega
theorem y_flowF {h w t : Nat} {S0 S : sS} (I : yFI h w (t * w) S0 S) (ht : t < h) (hst : ∀ j, j < h * w → 0 ≤ (S0 3 j).toInt ∧ (S0 3 j).toInt ≤ 120 ∧ 0 ≤ (S0 5 j).toInt ∧ (S0 5 j).toInt ≤ 120) (hT : yT h w S0 ≤ 1000000) : ∀ n, n ≤ w → yFI h w (t * w + n) S0 (itr (fun f U => sl_flow U (nI t) f) n S) := by
  intro n
  induction n with
  | zero => intro _; exact I
  | succ n ih =>
    intro hn
    rw [itr_s]
    exact y_flow1 (ih (by omega)) ht (by omega) hst hT
theorem y_flowT {h w : Nat} {S0 : sS} (I : yFI h w 0 S0 S0) (hst : ∀ j, j < h * w → 0 ≤ (S0 3 j).toInt ∧ (S0 3 j).toInt ≤ 120 ∧ 0 ≤ (S0 5 j).toInt ∧ (S0 5 j).toInt ≤ 120) (hT : yT h w S0 ≤ 1000000) : ∀ n, n ≤ h → yFI h w (n * w) S0 (itr (fun t T => itr (fun f U => sl_flow U t f) w T) n S0) := by
  intro n
  induction n with
  | zero => intro _; rw [Nat.zero_mul]; exact I
  | succ n ih =>
    intro hn
    rw [itr_s, Nat.succ_mul]
    exact y_flowF (ih (by omega)) (by omega) hst hT w (Nat.le_refl w)
theorem y_flow {h w : Nat} {S0 : sS} (g : geo h w S0) (hd : ∀ j, j < h * w → 0 ≤ (S0 2 j).toInt) (hb : 0 ≤ (S0 0 3).toInt) (hst : ∀ j, j < h * w → 0 ≤ (S0 3 j).toInt ∧ (S0 3 j).toInt ≤ 120 ∧ 0 ≤ (S0 5 j).toInt ∧ (S0 5 j).toInt ≤ 120) (hT : yT h w S0 ≤ 1000000) : yFI h w (h * w) S0 (sl_flowAll h w S0) :=
  y_flowT ⟨g, fun _ _ _ _ _ _ => rfl, hd, hb, rfl, fun _ _ _ _ h => absurd h (Nat.not_lt_zero _)⟩ hst hT h (Nat.le_refl h)

/-! the rice of a day -/
/-- a field's crop, between two days -/
def yPre (S : sS) (i : Nat) (a k : Int) : Prop :=
  (S 7 i = 0 ∧ S 8 i = 0 ∧ S 9 i = 0 ∧ S 10 i = 0 ∧ S 11 i = 0) ∨
  (S 7 i = 1 ∧ 0 ≤ (S 8 i).toInt ∧ (S 8 i).toInt ≤ a ∧ 0 ≤ (S 9 i).toInt ∧ (S 9 i).toInt ≤ 100 ∧ (S 9 i).toInt ≤ k ∧ 0 ≤ (S 10 i).toInt ∧ (S 10 i).toInt ≤ 3 ∧ 0 ≤ (S 11 i).toInt ∧ (S 11 i).toInt ≤ 4)
/-- just behind a day -/
def yPost (S : sS) (i : Nat) (a k : Int) : Prop :=
  (S 7 i = 0 ∧ S 8 i = 0 ∧ S 9 i = 0 ∧ S 10 i = 0 ∧ S 11 i = 0) ∨
  (S 7 i = 1 ∧ 1 ≤ (S 8 i).toInt ∧ (S 8 i).toInt ≤ a ∧ 0 ≤ (S 9 i).toInt ∧ (S 9 i).toInt ≤ 100 ∧ (S 9 i).toInt ≤ k ∧ 0 ≤ (S 10 i).toInt ∧ (S 10 i).toInt ≤ 3 ∧ 0 ≤ (S 11 i).toInt ∧ (S 11 i).toInt ≤ 4 ∧ ((S 10 i).toInt ≤ 0 ∨ (S 11 i).toInt ≤ 0) ∧ (0 < (S 11 i).toInt ↔ (S 2 i).toInt = 0))
theorem yPost_pre {S : sS} {i : Nat} {a k : Int} (h : yPost S i a k) : yPre S i a k := by
  rcases h with h | ⟨h1, h2, h3, h4, h5, h6, h7, h8, h9, h10, -⟩
  · exact Or.inl h
  · exact Or.inr ⟨h1, by omega, h3, h4, h5, h6, h7, h8, h9, h10⟩
theorem yPre_c {S T : sS} {i : Nat} {a k : Int} (e : ∀ r, 7 ≤ r → r ≤ 11 → T r i = S r i) (h : yPre S i a k) : yPre T i a k := by
  unfold yPre
  rw [e 7 (by decide) (by decide), e 8 (by decide) (by decide), e 9 (by decide) (by decide), e 10 (by decide) (by decide), e 11 (by decide) (by decide)]
  exact h
theorem yPost_c {S T : sS} {i : Nat} {a k : Int} (e : ∀ r, 7 ≤ r → r ≤ 11 → T r i = S r i) (e2 : T 2 i = S 2 i) (h : yPost S i a k) : yPost T i a k := by
  unfold yPost
  rw [e 7 (by decide) (by decide), e 8 (by decide) (by decide), e 9 (by decide) (by decide), e 10 (by decide) (by decide), e 11 (by decide) (by decide), e2]
  exact h
def y_hgt (T : sS) (i : Nat) : Int32 := zmin (5 + (T 8 i + 1) * 2 / 3) 45
def y_wet (T : sS) (i : Nat) : Int32 := if T 2 i ≤ y_hgt T i then 0 else T 10 i + 1
def y_dry (T : sS) (i : Nat) : Int32 := if T 2 i = 0 then T 11 i + 1 else 0
theorem y_gr (T : sS) (i r j : Nat) : sl_dry (sl_wet (s_put T 8 i (T 8 i + 1)) i) i r j = if j = i then (if r = 8 then T 8 i + 1 else if r = 10 then y_wet T i else if r = 11 then y_dry T i else T r j) else T r j := by
  unfold sl_dry sl_wet sl_height y_wet y_dry y_hgt
  simp only [pg]
  by_cases hj : j = i
  · subst hj
    simp only [if_true]
    by_cases h1 : r = 11
    · subst h1
      simp
    · by_cases h2 : r = 10
      · subst h2
        simp
      · by_cases h3 : r = 8
        · subst h3
          simp
        · simp [h1, h2, h3]
  · simp [hj]
theorem y_clr (U : sS) {i : Nat} (hi : i < 64) (r j : Nat) : sl_clear U (nI i) r j = if j = i ∧ 7 ≤ r ∧ r ≤ 11 then 0 else U r j := by
  unfold sl_clear
  rw [nI_clamp (by omega), pc, pc, pc, pc, pc]
  by_cases h : j = i ∧ 7 ≤ r ∧ r ≤ 11
  · rw [if_pos h]
    repeat' split
    all_goals first | rfl | omega
  · rw [if_neg h, if_neg (show ¬ (r = 11 ∧ j = i) by omega), if_neg (show ¬ (r = 10 ∧ j = i) by omega), if_neg (show ¬ (r = 9 ∧ j = i) by omega), if_neg (show ¬ (r = 8 ∧ j = i) by omega), if_neg (show ¬ (r = 7 ∧ j = i) by omega)]
theorem y_die (U : sS) {i : Nat} (hi : i < 64) (r j : Nat) : sl_die U (nI i) r j = if r = 0 ∧ j = 4 then U 0 4 + 1 else if j = i ∧ 7 ≤ r ∧ r ≤ 11 then 0 else U r j := by
  unfold sl_die
  rw [pc, y_clr U hi 0 4, y_clr U hi r j, if_neg (show ¬ (4 = i ∧ 7 ≤ 0 ∧ 0 ≤ 11) by omega)]
/-- one field's round: the crop dies, or lives on -/
theorem y_grow {T : sS} {i : Nat} {a k : Int} (hi : i < 64) (ha : a ≤ 1000) (hd : 0 ≤ (T 2 i).toInt) (hx : ¬ T 7 i = 0) (h : yPre T i a k) :
    ((∀ r j, sl_grow T (nI i) r j = if r = 0 ∧ j = 4 then T 0 4 + 1 else if j = i ∧ 7 ≤ r ∧ r ≤ 11 then 0 else T r j)) ∨
    ((∀ r j, ¬ (j = i ∧ 8 ≤ r ∧ r ≤ 11) → sl_grow T (nI i) r j = T r j) ∧ yPost (sl_grow T (nI i)) i (a + 1) (k + 2)) := by
  rcases h with h | ⟨h7, h8, h8', h9, h9', h9k, h10, h10', h11, h11'⟩
  · exact absurd h.1 hx
  have e1 : (T 8 i + 1).toInt = (T 8 i).toInt + 1 := by rw [yi_add (by rw [y1]; omega) (by rw [y1]; omega), y1]
  have hg : 5 ≤ (y_hgt T i).toInt := by
    have m : ((T 8 i + 1) * 2).toInt = ((T 8 i).toInt + 1) * 2 := by rw [yi_mul (by rw [e1, y2]; omega) (by rw [e1, y2]; omega), e1, y2]
    have d : ((T 8 i + 1) * 2 / 3).toInt = ((T 8 i).toInt + 1) * 2 / 3 := by rw [yi_div (by rw [m]; omega) (by rw [y3]; omega), m, y3]
    unfold y_hgt
    rw [yi_min, yi_add (by rw [d, y5]; omega) (by rw [d, y5]; omega), d, y5, y45]
    omega
  have e10 : (T 10 i + 1).toInt = (T 10 i).toInt + 1 := by rw [yi_add (by rw [y1]; omega) (by rw [y1]; omega), y1]
  have e11 : (T 11 i + 1).toInt = (T 11 i).toInt + 1 := by rw [yi_add (by rw [y1]; omega) (by rw [y1]; omega), y1]
  have hw : (T 2 i).toInt ≤ (y_hgt T i).toInt ∧ (y_wet T i).toInt = 0 ∨ (y_hgt T i).toInt < (T 2 i).toInt ∧ (y_wet T i).toInt = (T 10 i).toInt + 1 := by
    unfold y_wet
    by_cases q : T 2 i ≤ y_hgt T i
    · rw [if_pos q]
      exact Or.inl ⟨y_le.mp q, rfl⟩
    · rw [if_neg q, e10]
      rw [y_le] at q
      exact Or.inr ⟨by omega, rfl⟩
  have hr : (T 2 i).toInt = 0 ∧ (y_dry T i).toInt = (T 11 i).toInt + 1 ∨ (T 2 i).toInt ≠ 0 ∧ (y_dry T i).toInt = 0 := by
    unfold y_dry
    by_cases q : T 2 i = 0
    · rw [if_pos q, e11, q]
      exact Or.inl ⟨rfl, rfl⟩
    · rw [if_neg q]
      exact Or.inr ⟨fun z => q (y_ie.mpr z), rfl⟩
  unfold sl_grow
  rw [nI_clamp (by omega)]
  have hU := y_gr T i
  generalize sl_dry (sl_wet (s_put T 8 i (T 8 i + 1)) i) i = U at hU ⊢
  have U10 : U 10 i = y_wet T i := by rw [hU, if_pos rfl]; rfl
  have U11 : U 11 i = y_dry T i := by rw [hU, if_pos rfl]; rfl
  have U2 : U 2 i = T 2 i := by rw [hU, if_pos rfl]; rfl
  have U7 : U 7 i = T 7 i := by rw [hU, if_pos rfl]; rfl
  have U8 : U 8 i = T 8 i + 1 := by rw [hU, if_pos rfl]; rfl
  have U9 : U 9 i = T 9 i := by rw [hU, if_pos rfl]; rfl
  have dead : (∀ r j, sl_die U (nI i) r j = if r = 0 ∧ j = 4 then T 0 4 + 1 else if j = i ∧ 7 ≤ r ∧ r ≤ 11 then 0 else T r j) := by
    intro r j
    rw [y_die U hi]
    have u04 : U 0 4 = T 0 4 := by
      rw [hU]
      split
      · rfl
      · rfl
    rw [u04]
    by_cases q1 : r = 0 ∧ j = 4
    · rw [if_pos q1, if_pos q1]
    · rw [if_neg q1, if_neg q1]
      by_cases q2 : j = i ∧ 7 ≤ r ∧ r ≤ 11
      · rw [if_pos q2, if_pos q2]
      · rw [if_neg q2, if_neg q2, hU]
        by_cases q3 : j = i
        · rw [if_pos q3, if_neg (by omega), if_neg (by omega), if_neg (by omega)]
        · rw [if_neg q3]
  unfold sl_end
  rw [nI_clamp (by omega), U10, U11]
  by_cases q1 : 4 ≤ y_wet T i
  · rw [if_pos q1]
    exact Or.inl dead
  · rw [if_neg q1]
    by_cases q2 : y_dry T i < 5
    · rw [if_pos q2]
      rw [y_le, y4] at q1
      rw [y_lt, y5] at q2
      have hh : (sl_hard U (nI i)).toInt = -3 ∨ (sl_hard U (nI i)).toInt = 1 ∨ (sl_hard U (nI i)).toInt = 2 := by
        unfold sl_hard
        split
        · exact Or.inl rfl
        · split
          · split
            · exact Or.inr (Or.inl rfl)
            · exact Or.inr (Or.inr rfl)
          · exact Or.inl rfl
      have hL : ∀ r j, sl_live U (nI i) r j = if r = 9 ∧ j = i then zmin (zmax (U 9 i + sl_hard U (nI i)) 0) 100 else U r j := by
        intro r j
        unfold sl_live
        rw [nI_clamp (by omega), pg]
        by_cases z : r = 9
        · rw [if_pos z]
          by_cases z2 : j = i
          · rw [if_pos z2, if_pos ⟨z, z2⟩]
          · rw [if_neg z2, if_neg (by omega)]
        · rw [if_neg z, if_neg (by omega)]
      have hv : (zmin (zmax (U 9 i + sl_hard U (nI i)) 0) 100).toInt = min (max ((T 9 i).toInt + (sl_hard U (nI i)).toInt) 0) 100 := by
        rw [yi_min, yi_max, yi_add (by rw [U9]; omega) (by rw [U9]; omega), U9, y0, y100]
      refine Or.inr ⟨fun r j z => ?_, Or.inr ?_⟩
      · rw [hL, if_neg (by omega), hU]
        by_cases z2 : j = i
        · rw [if_pos z2, if_neg (by omega), if_neg (by omega), if_neg (by omega)]
        · rw [if_neg z2]
      · rw [hL 7 i, hL 8 i, hL 9 i, hL 10 i, hL 11 i, hL 2 i, if_neg (by omega), if_neg (by omega), if_pos ⟨rfl, rfl⟩, if_neg (by omega), if_neg (by omega), if_neg (by omega), hv, U7, U8, U10, U11, U2, e1]
        refine ⟨h7, by omega, by omega, by omega, by omega, by omega, by omega, by omega, by omega, by omega, by omega, ?_⟩
        constructor
        · intro z; omega
        · intro z; omega
    · rw [if_neg q2]
      exact Or.inl dead
def yRI (h w n : Nat) (a k : Int) (S T : sS) : Prop :=
  (∀ r j, r < 7 ∨ 11 < r → ¬ (r = 0 ∧ j = 4) → T r j = S r j) ∧ (∀ r j, n ≤ j → 7 ≤ r → r ≤ 11 → T r j = S r j) ∧ (∀ j, j < n → yPost T j a k) ∧
  yS (fun j => (T 7 j).toInt) (h * w) + (T 0 4).toInt = yS (fun j => (S 7 j).toInt) (h * w) + (S 0 4).toInt ∧ (S 0 4).toInt ≤ (T 0 4).toInt ∧ (T 0 4).toInt ≤ (S 0 4).toInt + n
theorem y_rice {h w : Nat} {S : sS} {a k : Int} (hN : h * w ≤ 64) (ha : a ≤ 1000) (hd : ∀ j, j < h * w → 0 ≤ (S 2 j).toInt) (hp : ∀ j, j < h * w → yPre S j a k) (hk : 0 ≤ (S 0 4).toInt ∧ (S 0 4).toInt ≤ 1000000) (h0 : 0 ≤ k ∧ 0 ≤ a) : ∀ n, n ≤ h * w → yRI h w n (a + 1) (k + 2) S (itr (fun i T => sl_rice1 T i) n S) := by
  intro n
  induction n with
  | zero => intro _; exact ⟨fun _ _ _ _ => rfl, fun _ _ _ _ _ => rfl, fun j hj => absurd hj (Nat.not_lt_zero _), rfl, Int.le_refl _, by rw [itr_0]; omega⟩
  | succ n ih =>
    intro hn
    have ih := ih (by omega)
    rw [itr_s]
    generalize itr (fun i T => sl_rice1 T i) n S = T at ih ⊢
    show yRI h w (n + 1) (a + 1) (k + 2) S (sl_rice1 T (nI n))
    obtain ⟨r1, r2, r3, r4, r5, r6⟩ := ih
    unfold sl_rice1
    rw [nI_clamp (by omega)]
    have pT : yPre T n a k := yPre_c (fun r z1 z2 => r2 r n (Nat.le_refl n) z1 z2) (hp n (by omega))
    by_cases q : T 7 n = 0
    · rw [if_pos q]
      refine ⟨r1, fun r j z1 z2 z3 => r2 r j (by omega) z2 z3, fun j hj => ?_, r4, r5, by omega⟩
      by_cases e : j = n
      · subst e
        rcases pT with z | z
        · exact Or.inl z
        · rw [q] at z
          exact absurd z.1 (by decide)
      · exact r3 j (by omega)
    · rw [if_neg q]
      have one : (T 7 n).toInt = 1 := by
        rcases pT with z | z
        · exact absurd z.1 q
        · rw [z.1]; rfl
      rcases y_grow (by omega) ha (by rw [r1 2 n (by omega) (by omega)]; exact hd n (by omega)) q pT with g | ⟨g, gp⟩
      · have c4 : (T 0 4 + 1).toInt = (T 0 4).toInt + 1 := by rw [yi_add (by rw [y1]; omega) (by rw [y1]; omega), y1]
        refine ⟨fun r j z1 z2 => ?_, fun r j z1 z2 z3 => ?_, fun j hj => ?_, ?_, ?_, ?_⟩
        · rw [g, if_neg z2, if_neg (by omega)]; exact r1 r j z1 z2
        · rw [g, if_neg (by omega), if_neg (by omega)]; exact r2 r j (by omega) z2 z3
        · by_cases e : j = n
          · subst e
            refine Or.inl ⟨?_, ?_, ?_, ?_, ?_⟩ <;> rw [g, if_neg (by omega), if_pos (by omega)]
          · refine yPost_c (fun r z1 z2 => ?_) ?_ (r3 j (by omega))
            · rw [g, if_neg (by omega), if_neg (by omega)]
            · rw [g, if_neg (by omega), if_neg (by omega)]
        · rw [yS_u (g := fun j => (T 7 j).toInt) (show n < h * w by omega) (fun j hj z => by rw [g, if_neg (by omega), if_neg (by omega)])]
          rw [g 7 n, if_neg (by omega), if_pos (by omega), g 0 4, if_pos ⟨rfl, rfl⟩, c4, y0, one]
          omega
        · rw [g 0 4, if_pos ⟨rfl, rfl⟩, c4]; omega
        · rw [g 0 4, if_pos ⟨rfl, rfl⟩, c4]; omega
      · refine ⟨fun r j z1 z2 => ?_, fun r j z1 z2 z3 => ?_, fun j hj => ?_, ?_, ?_, ?_⟩
        · rw [g r j (by omega)]; exact r1 r j z1 z2
        · rw [g r j (by omega)]; exact r2 r j (by omega) z2 z3
        · by_cases e : j = n
          · subst e
            exact gp
          · exact yPost_c (fun r z1 z2 => g r j (by omega)) (g 2 j (by omega)) (r3 j (by omega))
        · rw [yS_c (g' := fun j => (T 7 j).toInt) (fun j hj => by rw [g 7 j (by omega)]), g 0 4 (by omega)]
          exact r4
        · rw [g 0 4 (by omega)]; exact r5
        · rw [g 0 4 (by omega)]; omega

/-! what Int32's arithmetic is where nothing overflows; sums -/
theorem yi_add {x y : Int32} (h1 : -2147483648 ≤ x.toInt + y.toInt) (h2 : x.toInt + y.toInt ≤ 2147483647) : (x + y).toInt = x.toInt + y.toInt := by
  rw [Int32.toInt_add]
  exact Int.bmod_eq_of_le (by omega) (by omega)
theorem yi_sub {x y : Int32} (h1 : -2147483648 ≤ x.toInt - y.toInt) (h2 : x.toInt - y.toInt ≤ 2147483647) : (x - y).toInt = x.toInt - y.toInt := by
  rw [Int32.toInt_sub]
  exact Int.bmod_eq_of_le (by omega) (by omega)
theorem yi_mul {x y : Int32} (h1 : -2147483648 ≤ x.toInt * y.toInt) (h2 : x.toInt * y.toInt ≤ 2147483647) : (x * y).toInt = x.toInt * y.toInt := by
  rw [Int32.toInt_mul]
  exact Int.bmod_eq_of_le (by omega) (by omega)
theorem yi_div {x y : Int32} (hx : 0 ≤ x.toInt) (hy : 0 < y.toInt) : (x / y).toInt = x.toInt / y.toInt := by
  have h1 : x.toInt / y.toInt ≤ x.toInt := Int.ediv_le_self _ hx
  have h2 : 0 ≤ x.toInt / y.toInt := Int.ediv_nonneg hx (by omega)
  have h3 : x.toInt < 2 ^ 31 := Int32.toInt_lt x
  rw [Int32.toInt_div, Int.tdiv_eq_ediv_of_nonneg hx]
  exact Int.bmod_eq_of_le (by omega) (by omega)
theorem yi_max (x y : Int32) : (zmax x y).toInt = max x.toInt y.toInt := by
  unfold zmax
  by_cases h : x < y
  · rw [if_pos h]
    rw [Int32.lt_iff_toInt_lt] at h
    omega
  · rw [if_neg h]
    rw [Int32.lt_iff_toInt_lt] at h
    omega
theorem yi_min (x y : Int32) : (zmin x y).toInt = min x.toInt y.toInt := by
  unfold zmin
  by_cases h : y < x
  · rw [if_pos h]
    rw [Int32.lt_iff_toInt_lt] at h
    omega
  · rw [if_neg h]
    rw [Int32.lt_iff_toInt_lt] at h
    omega
theorem yi_abs {x : Int32} (h : -2147483647 ≤ x.toInt) : (zabs x).toInt = if 0 ≤ x.toInt then x.toInt else - x.toInt := by
  have h3 : x.toInt < 2 ^ 31 := Int32.toInt_lt x
  have h0 : (0 : Int32).toInt = 0 := rfl
  unfold zabs
  by_cases q : 0 ≤ x
  · rw [if_pos q]
    rw [Int32.le_iff_toInt_le, h0] at q
    rw [if_pos q]
  · rw [if_neg q]
    rw [Int32.le_iff_toInt_le, h0] at q
    rw [if_neg q, yi_sub (by omega) (by omega), h0]
    omega
theorem yn {n : Nat} (h : n < 2147483648) : (nI n).toInt = (n : Int) := nI_toInt (by omega)
theorem yn_eq {a b : Nat} (ha : a < 2147483648) (hb : b < 2147483648) (h : nI a = nI b) : a = b := by
  have := congrArg Int32.toInt h
  rw [yn ha, yn hb] at this
  omega
theorem y0 : (0 : Int32).toInt = 0 := rfl
theorem y1 : (1 : Int32).toInt = 1 := rfl
theorem y2 : (2 : Int32).toInt = 2 := rfl
theorem y3 : (3 : Int32).toInt = 3 := rfl
theorem y4 : (4 : Int32).toInt = 4 := rfl
theorem y5 : (5 : Int32).toInt = 5 := rfl
theorem y40 : (40 : Int32).toInt = 40 := rfl
theorem y45 : (45 : Int32).toInt = 45 := rfl
theorem y100 : (100 : Int32).toInt = 100 := rfl
theorem y200 : (200 : Int32).toInt = 200 := rfl
theorem ym3 : (-3 : Int32).toInt = -3 := rfl
theorem y_le {x y : Int32} : x ≤ y ↔ x.toInt ≤ y.toInt := Int32.le_iff_toInt_le
theorem y_lt {x y : Int32} : x < y ↔ x.toInt < y.toInt := Int32.lt_iff_toInt_lt
theorem y_ie {x y : Int32} : x = y ↔ x.toInt = y.toInt := Int32.toInt_inj.symm
/-- a number by its value -/
theorem y_of {x : Int32} {n : Nat} (hn : n < 2147483648) (h : x.toInt = n) : x = nI n := by
  rw [y_ie, yn hn]
  exact h
theorem y_ofr {x : Int32} (h : 0 ≤ x.toInt) : x = nI x.toInt.toNat := by
  have h3 : x.toInt < 2 ^ 31 := Int32.toInt_lt x
  exact y_of (by omega) (by omega)
/-- one place of a state that was written -/
theorem pg (S : sS) (r j : Nat) (v : Int32) (q k : Nat) : s_put S r j v q k = if q = r then (if k = j then v else S q k) else S q k := by
  by_cases h : q = r
  · subst h
    rw [if_pos rfl, s_put_same]
    rfl
  · rw [if_neg h, s_put_ne S h]
theorem pc (S : sS) (r j : Nat) (v : Int32) (q k : Nat) : s_put S r j v q k = if q = r ∧ k = j then v else S q k := by
  rw [pg]
  by_cases h1 : q = r
  · rw [if_pos h1]
    by_cases h2 : k = j
    · rw [if_pos h2, if_pos ⟨h1, h2⟩]
    · rw [if_neg h2, if_neg (fun z => h2 z.2)]
  · rw [if_neg h1, if_neg (fun z => h1 z.1)]
/-- sums -/
def yS (g : Nat → Int) : Nat → Int
  | 0 => 0
  | n + 1 => yS g n + g n
theorem yS_c {g g' : Nat → Int} {n : Nat} (h : ∀ i, i < n → g i = g' i) : yS g n = yS g' n := by
  induction n with
  | zero => rfl
  | succ n ih => simp only [yS]; rw [ih (fun i hi => h i (by omega)), h n (by omega)]
theorem yS_u {g g' : Nat → Int} {k n : Nat} (hk : k < n) (h : ∀ i, i < n → i ≠ k → g' i = g i) : yS g' n = yS g n - g k + g' k := by
  induction n with
  | zero => omega
  | succ n ih =>
    simp only [yS]
    by_cases e : k = n
    · subst e
      rw [yS_c (fun i hi => h i (by omega) (by omega))]
      omega
    · rw [ih (by omega) (fun i hi => h i (by omega)), h n (by omega) (by omega)]
      omega
theorem yS_add (g g' : Nat → Int) (n : Nat) : yS (fun j => g j + g' j) n = yS g n + yS g' n := by
  induction n with
  | zero => rfl
  | succ n ih => simp only [yS]; rw [ih]; omega
theorem yS_k (c : Int) (n : Nat) : yS (fun _ => c) n = n * c := by
  induction n with
  | zero => simp [yS]
  | succ n ih =>
    simp only [yS]
    rw [ih, Int.natCast_add, Int.add_mul]
    simp
theorem yS_le {g g' : Nat → Int} {n : Nat} (h : ∀ i, i < n → g i ≤ g' i) : yS g n ≤ yS g' n := by
  induction n with
  | zero => exact Int.le_refl _
  | succ n ih => simp only [yS]; have := ih (fun i hi => h i (by omega)); have := h n (by omega); omega
theorem yS_0 {g : Nat → Int} {n : Nat} (h : ∀ i, i < n → 0 ≤ g i) : 0 ≤ yS g n := by
  induction n with
  | zero => exact Int.le_refl _
  | succ n ih => simp only [yS]; have := ih (fun i hi => h i (by omega)); have := h n (by omega); omega
theorem yS_el {g : Nat → Int} {n k : Nat} (h : ∀ i, i < n → 0 ≤ g i) (hk : k < n) : g k ≤ yS g n := by
  induction n with
  | zero => omega
  | succ n ih =>
    simp only [yS]
    have h1 := yS_0 (g := g) (n := n) (fun i hi => h i (by omega))
    have h2 := h n (by omega)
    by_cases e : k = n
    · subst e; omega
    · have := ih (fun i hi => h i (by omega)) (by omega); omega
theorem yS_b {g : Nat → Int} {n : Nat} {b : Int} (h : ∀ i, i < n → g i ≤ b) : yS g n ≤ n * b := by
  rw [← yS_k]
  exact yS_le h
/-- a sum of ints in Int32, where it is small -/
theorem yS_itr {g : Nat → Int32} (x0 : Int32) (b : Int) (hb : b ≤ 20000000) (h0 : 0 ≤ x0.toInt ∧ x0.toInt ≤ 20000000) : ∀ n : Nat, n ≤ 64 → (∀ i, i < n → 0 ≤ (g i).toInt ∧ (g i).toInt ≤ b) → (itr (fun i x => x + g i.toNatClampNeg) n x0).toInt = x0.toInt + yS (fun i => (g i).toInt) n ∧ 0 ≤ yS (fun i => (g i).toInt) n ∧ yS (fun i => (g i).toInt) n ≤ n * 20000000 := by
  intro n
  induction n with
  | zero => intro _ _; exact ⟨by simp [itr_0, yS], by simp [yS], by simp [yS]⟩
  | succ n ih =>
    intro hn h
    obtain ⟨a1, a2, a3⟩ := ih (by omega) (fun i hi => h i (by omega))
    obtain ⟨b1, b2⟩ := h n (by omega)
    rw [itr_s, nI_clamp (by omega)]
    simp only [yS]
    refine ⟨?_, by omega, by omega⟩
    rw [yi_add (by omega) (by omega), a1]
    omega
theorem y_inj {w a b c d : Nat} (h : a * w + b = c * w + d) (hb : b < w) (hd : d < w) : a = c ∧ b = d := by
  rcases Nat.lt_trichotomy a c with q | q | q
  · have := Nat.mul_le_mul_right w (show a + 1 ≤ c from q)
    rw [Nat.succ_mul] at this
    omega
  · subst q
    omega
  · have := Nat.mul_le_mul_right w (show c + 1 ≤ a from q)
    rw [Nat.succ_mul] at this
    omega
theorem y_idx {h w t f : Nat} (ht : t < h) (hf : f < w) : t * w + f < h * w := by
  have := Nat.mul_le_mul_right w (show t + 1 ≤ h from ht)
  rw [Nat.succ_mul] at this
  omega
theorem y_div {h w c : Nat} (hc : c < h * w) (hw : 0 < w) : ∃ t f, t < h ∧ f < w ∧ c = t * w + f := by
  refine ⟨c / w, c % w, (Nat.div_lt_iff_lt_mul hw).mpr hc, Nat.mod_lt _ hw, ?_⟩
  rw [Nat.mul_comm]
  exact (Nat.div_add_mod c w).symm
/-- all water -/
def yT (h w : Nat) (S : sS) : Int := yS (fun j => (S 2 j).toInt) (h * w) + (S 0 3).toInt
theorem yT_2 {h w k : Nat} (S : sS) (hk : k < h * w) (v : Int32) : yT h w (s_put S 2 k v) = yT h w S - (S 2 k).toInt + v.toInt := by
  unfold yT
  rw [yS_u (g := fun j => (S 2 j).toInt) hk (fun i _ hi => by simp only [pg]; rw [if_pos True.intro, if_neg hi])]
  simp only [pg]
  rw [if_pos True.intro, if_pos True.intro, if_neg (by decide)]
  omega
theorem yT_b {h w : Nat} (S : sS) (v : Int32) : yT h w (s_put S 0 3 v) = yT h w S - (S 0 3).toInt + v.toInt := by
  unfold yT
  rw [yS_c (g' := fun j => (S 2 j).toInt) (fun i _ => by simp only [pg]; rw [if_neg (by decide)])]
  simp only [pg]
  rw [if_pos True.intro, if_pos True.intro]
  omega
theorem yT_o {h w r j : Nat} (S : sS) (hr : r ≠ 2 ∧ (r ≠ 0 ∨ j ≠ 3)) (v : Int32) : yT h w (s_put S r j v) = yT h w S := by
  unfold yT
  rw [yS_c (g' := fun j => (S 2 j).toInt) (fun i _ => by simp only [pg]; rw [if_neg (Ne.symm hr.1)])]
  simp only [pg]
  rcases hr.2 with q | q
  · rw [if_neg (Ne.symm q)]
  · by_cases e : 0 = r
    · rw [if_pos e, if_neg (Ne.symm q)]
    · rw [if_neg e]
theorem yT_c {h w : Nat} {S T : sS} (h1 : ∀ j, j < h * w → T 2 j = S 2 j) (h2 : T 0 3 = S 0 3) : yT h w T = yT h w S := by
  unfold yT
  rw [yS_c (g' := fun j => (S 2 j).toInt) (fun i hi => by rw [h1 i hi]), h2]
/-! rain, spring, loss, place by place -/
theorem y_rain (S : sS) (x : Int32) : ∀ n, n ≤ 64 → ∀ r j, (itr (fun i T => sl_rain1 T i x) n S) r j = if r = 2 ∧ j < n then S 2 j + x else S r j := by
  intro n
  induction n with
  | zero => intro _ r j; rw [itr_0, if_neg (by omega)]
  | succ n ih =>
    intro hn r j
    have ih := ih (by omega)
    rw [itr_s]
    generalize itr (fun i T => sl_rain1 T i x) n S = T at ih ⊢
    show sl_rain1 T (nI n) x r j = _
    unfold sl_rain1
    rw [nI_clamp (by omega), pg]
    by_cases hr : r = 2
    · subst hr
      rw [if_pos rfl]
      by_cases hj : j = n
      · subst hj
        rw [if_pos rfl, if_pos (by omega), ih, if_neg (by omega)]
      · rw [if_neg hj, ih]
        by_cases hl : j < n
        · rw [if_pos (by omega), if_pos (by omega)]
        · rw [if_neg (by omega), if_neg (by omega)]
    · rw [if_neg hr, if_neg (by omega), ih, if_neg (by omega)]
theorem y_spr (S : sS) (x a : Int32) : ∀ n, n ≤ 64 → ∀ r j, (itr (fun i T => sl_spring1 T i x a) n S) r j = if r = 2 ∧ j < n then S 2 j + x * S 1 j / a else S r j := by
  intro n
  induction n with
  | zero => intro _ r j; rw [itr_0, if_neg (by omega)]
  | succ n ih =>
    intro hn r j
    have ih := ih (by omega)
    rw [itr_s]
    generalize itr (fun i T => sl_spring1 T i x a) n S = T at ih ⊢
    show sl_spring1 T (nI n) x a r j = _
    unfold sl_spring1
    rw [nI_clamp (by omega), pg]
    by_cases hr : r = 2
    · subst hr
      rw [if_pos rfl]
      by_cases hj : j = n
      · subst hj
        rw [if_pos rfl, if_pos (by omega), ih, if_neg (by omega), ih, if_neg (by omega)]
      · rw [if_neg hj, ih]
        by_cases hl : j < n
        · rw [if_pos (by omega), if_pos (by omega)]
        · rw [if_neg (by omega), if_neg (by omega)]
    · rw [if_neg hr, if_neg (by omega), ih, if_neg (by omega)]
def y_gone (S : sS) (x : Int32) (j : Nat) : Int32 := sl_left S j x - zmin (sl_left S j x) 200
theorem y_los (S : sS) (x : Int32) : ∀ n, n ≤ 64 → (∀ r j, ¬ (r = 0 ∧ j = 3) → (itr (fun i T => sl_lose1 T i x) n S) r j = if r = 2 ∧ j < n then zmin (sl_left S j x) 200 else S r j) ∧ (itr (fun i T => sl_lose1 T i x) n S) 0 3 = itr (fun i b => b + y_gone S x i.toNatClampNeg) n (S 0 3) := by
  intro n
  induction n with
  | zero => intro _; exact ⟨fun r j _ => by rw [itr_0, if_neg (by omega)], rfl⟩
  | succ n ih =>
    intro hn
    obtain ⟨a1, a2⟩ := ih (by omega)
    rw [itr_s, itr_s]
    rw [← a2]
    generalize itr (fun i T => sl_lose1 T i x) n S = T at a1 a2 ⊢
    have el : sl_left T n x = sl_left S n x := by
      unfold sl_left
      rw [a1 2 n (by omega), a1 4 n (by omega), if_neg (by omega), if_neg (by omega)]
    have ev : ∀ r j, sl_lose1 T (nI n) x r j = if r = 0 ∧ j = 3 then T 0 3 + y_gone S x n else if r = 2 ∧ j = n then zmin (sl_left S n x) 200 else T r j := by
      intro r j
      unfold sl_lose1 sl_loseA
      rw [nI_clamp (by omega), el]
      obtain ⟨Z, hZ⟩ : ∃ Z, Z = s_put T 2 n (zmin (sl_left S n x) 200) := ⟨_, rfl⟩
      have z0 : ∀ r j, Z r j = if r = 2 ∧ j = n then zmin (sl_left S n x) 200 else T r j := by
        intro r j
        rw [hZ, pg]
        by_cases q1 : r = 2
        · rw [if_pos q1]
          by_cases q2 : j = n
          · rw [if_pos q2, if_pos ⟨q1, q2⟩]
          · rw [if_neg q2, if_neg (fun z => q2 z.2)]
        · rw [if_neg q1, if_neg (fun z => q1 z.1)]
      rw [← hZ, pg, z0 0 3, z0 2 n, z0 r j, if_neg (show ¬ (0 = 2 ∧ 3 = n) from fun z => absurd z.1 (by decide)), if_pos (show 2 = 2 ∧ n = n from ⟨rfl, rfl⟩)]
      by_cases q1 : r = 0
      · rw [if_pos q1]
        by_cases q2 : j = 3
        · rw [if_pos q2, if_pos ⟨q1, q2⟩]
          rfl
        · rw [if_neg q2, if_neg (show ¬ (r = 0 ∧ j = 3) from fun z => q2 z.2)]
      · rw [if_neg q1, if_neg (show ¬ (r = 0 ∧ j = 3) from fun z => q1 z.1)]
    constructor
    · intro r j hrj
      show sl_lose1 T (nI n) x r j = _
      rw [ev, if_neg hrj]
      by_cases hr : r = 2
      · subst hr
        by_cases hj : j = n
        · subst hj
          rw [if_pos ⟨rfl, rfl⟩, if_pos (by omega)]
        · rw [if_neg (by omega), a1 2 j (by omega)]
          by_cases hl : j < n
          · rw [if_pos (by omega), if_pos (by omega)]
          · rw [if_neg (by omega), if_neg (by omega)]
      · rw [if_neg (by omega), if_neg (by omega), a1 r j hrj, if_neg (by omega)]
    · show sl_lose1 T (nI n) x 0 3 = T 0 3 + y_gone S x (nI n).toNatClampNeg
      rw [ev, if_pos ⟨rfl, rfl⟩, nI_clamp (by omega)]

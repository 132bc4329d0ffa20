/-! loops told apart: two loops over the fields as one, where the rounds keep out of each other's way -/
theorem itr_fis {f g : Int32 → sS → sS} {N : Nat} (hc : ∀ i j, i < N → j < N → i ≠ j → ∀ T, f (nI i) (g (nI j) T) = g (nI j) (f (nI i) T)) : ∀ n, n ≤ N → ∀ S, itr f n (itr g n S) = itr (fun i T => f i (g i T)) n S := by
  have mv : ∀ n m, n ≤ m → m < N → ∀ T, itr f n (g (nI m) T) = g (nI m) (itr f n T) := by
    intro n
    induction n with
    | zero => intro _ _ _ _; rfl
    | succ n ih =>
      intro m hm hN T
      rw [itr_s, ih m (by omega) hN, hc n m (by omega) hN (by omega)]
      rfl
  intro n
  induction n with
  | zero => intro _ _; rfl
  | succ n ih =>
    intro hn S
    rw [itr_s, itr_s (fun i T => f i (g i T)), itr_s, mv n n (Nat.le_refl n) (by omega), ih (by omega)]
theorem itr_id {f : Int32 → sS → sS} {n : Nat} (hi : ∀ T i, n ≤ i → f (nI i) T = T) : ∀ k S, itr f (n + k) S = itr f n S := by
  intro k
  induction k with
  | zero => intro S; rfl
  | succ k ih =>
    intro S
    rw [← Nat.add_assoc, itr_s, hi _ _ (by omega), ih]
theorem itr_eq {α : Type} {f g : Int32 → α → α} {N : Nat} (h : ∀ i, i < N → ∀ T, f (nI i) T = g (nI i) T) : ∀ n, n ≤ N → ∀ S, itr f n S = itr g n S := by
  intro n
  induction n with
  | zero => intro _ _; rfl
  | succ n ih =>
    intro hn S
    rw [itr_s, itr_s, ih (by omega), h n (by omega)]
/-! rain and spring -/
def shk (S : sS) : Prop := ∀ f, f < 8 → ∃ n : Nat, S 1 f = nI n ∧ n ≤ 9
theorem sh_sum {w : Nat} (hw : w ≤ 8) {S : sS} (hs : shk S) : ∃ n : Nat, sl_shares w S = nI n ∧ n ≤ 9 * w := by
  unfold sl_shares
  have : ∀ k, k ≤ w → ∃ n : Nat, itr (fun i x => x + S 1 i.toNatClampNeg) k (0 : Int32) = nI n ∧ n ≤ 9 * k := by
    intro k
    induction k with
    | zero => intro _; exact ⟨0, rfl, by omega⟩
    | succ k ih =>
      intro hk
      obtain ⟨n, e, hn⟩ := ih (by omega)
      obtain ⟨m, e2, hm⟩ := hs k (by omega)
      refine ⟨n + m, ?_, by omega⟩
      rw [itr_s, e, nI_clamp (by omega), e2, nI_add]
  exact this w (Nat.le_refl w)
theorem sh_same {h w : Nat} {M S O : sS} (R : rl h w M S O) : mi_shares w O = sl_shares w S := by
  unfold mi_shares sl_shares
  have hw := R.1.2.2.2.2.2
  exact itr_eq (N := w) (fun i hi T => by rw [nI_clamp (by omega), R.2.2.2.2.2.1 i (by omega)]) w (Nat.le_refl w) 0
def sl_spring9 (w : Nat) (i x a : Int32) (T : sS) : sS := if nI w ≤ i then T else sl_spring1 T i x a
theorem spring_all {h w : Nat} (h2 : 2 ≤ h) (h8 : h ≤ 8) (w8 : w ≤ 8) (x a : Int32) (S : sS) : itr (fun i T => sl_spring1 T i x a) w S = itr (fun i T => sl_spring9 w i x a T) (h * w) S := by
  have hw : w ≤ h * w := Nat.le_mul_of_pos_left w (by omega)
  have hN : h * w ≤ 64 := Nat.mul_le_mul h8 w8
  have key : ∀ n, n ≤ w → itr (fun i T => sl_spring9 w i x a T) n S = itr (fun i T => sl_spring1 T i x a) n S := by
    intro n hn
    exact itr_eq (N := w) (fun i hi T => by unfold sl_spring9; rw [if_neg (nI_ge hi (by omega))]) n hn S
  have tail : ∀ k, w + k ≤ h * w → itr (fun i T => sl_spring9 w i x a T) (w + k) S = itr (fun i T => sl_spring9 w i x a T) w S := by
    intro k
    induction k with
    | zero => intro _; rfl
    | succ k ih =>
      intro hk
      rw [← Nat.add_assoc, itr_s, ih (by omega)]
      unfold sl_spring9
      rw [if_pos (nI_le (by omega) (by omega))]
  have := tail (h * w - w) (by omega)
  rw [show w + (h * w - w) = h * w by omega] at this
  rw [this, key w (Nat.le_refl w)]
theorem rain_shares (h w : Nat) (S : sS) (r : Int32) : sl_rain h w S r 1 = S 1 := by
  unfold sl_rain
  generalize h * w = n
  induction n with
  | zero => rfl
  | succ n ih =>
    rw [itr_s]
    unfold sl_rain1
    rw [s_put_ne _ (by decide)]
    exact ih
theorem spring_rain (w : Nat) {N : Nat} (hN : N ≤ 64) (x a r : Int32) {i j : Nat} (hi : i < N) (hj : j < N) (hij : i ≠ j) (T : sS) : sl_spring9 w (nI i) x a (sl_rain1 T (nI j) r) = sl_rain1 (sl_spring9 w (nI i) x a T) (nI j) r := by
  unfold sl_spring9
  by_cases h : nI w ≤ nI i
  · rw [if_pos h, if_pos h]
  · rw [if_neg h, if_neg h]
    unfold sl_spring1 sl_rain1
    rw [nI_clamp (by omega), nI_clamp (by omega), put_c _ (Or.inr (Ne.symm hij))]
    simp only [pg, if_true, if_neg hij, if_neg (Ne.symm hij), show ¬ (1 : Nat) = 2 by decide, if_false]
theorem wt_at {M O : sS} (W : wth M O) {j : Nat} (hj : j < 30) : O 4 (3 * nI j).toNatClampNeg = M 1 j ∧ O 4 (3 * nI j + 1).toNatClampNeg = M 2 j ∧ O 4 (3 * nI j + 2).toNatClampNeg = M 3 j := by
  have e3 : 3 * nI j = nI (3 * j) := pk_mul 3 j
  have e1 : (1 : Int32) = nI 1 := rfl
  have e2 : (2 : Int32) = nI 2 := rfl
  rw [e3, e1, e2, nI_add, nI_add, nI_clamp (by omega), nI_clamp (by omega), nI_clamp (by omega)]
  exact W j hj
theorem a_as (a b c : Int32) : a + b + c = a + (b + c) := Int32.add_assoc a b c
/-- rain and spring on the one side, the one loop of the other -/
theorem rl_rain {h w : Nat} {M S O : sS} (R : rl h w M S O) (hs : shk S) {j : Nat} (hj : j < 30) : rl h w M (sl_spring w (sl_rain h w S (M 1 j)) (M 2 j)) (itr (fun k T => mi_rain1 T (3 * nI j) (mi_shares w O) k) (h * w) O) := by
  obtain ⟨-, -, h2, h8, w2, w8⟩ := id R.1
  have hN := rl_hw R
  have hww : w ≤ h * w := geo_w R.1
  rw [sh_same R]
  have es : sl_shares w (sl_rain h w S (M 1 j)) = sl_shares w S := by
    unfold sl_shares
    rw [rain_shares]
  unfold sl_spring
  rw [es]
  obtain ⟨n, en, hn⟩ := sh_sum w8 hs
  have e0 : (0 : Int32) = nI 0 := rfl
  by_cases h0 : sl_shares w S = 0
  · rw [if_pos h0, h0]
    unfold sl_rain
    refine (rl_itr (P := fun _ => True) (h * w) (fun i hi T U R _ => ⟨?_, trivial⟩) (h * w) (Nat.le_refl _) R trivial).1
    unfold sl_rain1 mi_rain1
    rw [ix0 (by omega), nI_clamp (by omega), rl_c R hi (by decide), (wt_at R.2.2.2.2.2.2.1 hj).1]
    have ez : (if U 1 1 ≤ nI i then (0 : Int32) else if (0 : Int32) ≤ 0 then 0 else U 4 (3 * nI j + 1).toNatClampNeg * U 2 i / 0) = 0 := by
      by_cases q : U 1 1 ≤ nI i
      · rw [if_pos q]
      · rw [if_neg q, if_pos (by decide)]
    rw [ez, Int32.add_zero]
    exact rl_put R (j := 0) (by decide) _
  · rw [if_neg h0]
    rw [spring_all h2 h8 w8]
    unfold sl_rain
    rw [itr_fis (f := fun i T => sl_spring9 w i (M 2 j) (sl_shares w S) T) (g := fun i T => sl_rain1 T i (M 1 j)) (N := h * w) (fun i k hi hk hik T => spring_rain w hN _ _ _ hi hk hik T) (h * w) (Nat.le_refl _)]
    have hp : ¬ sl_shares w S ≤ 0 := by
      rw [en]
      rw [en, e0, nI_eq (by omega) (by decide)] at h0
      exact nI_nle (by omega) (by omega)
    have hs1 : ∀ {T : sS} {i : Nat}, T 1 = S 1 → ∀ x r, (sl_spring9 w (nI i) x (sl_shares w S) (sl_rain1 T (nI i) r)) 1 = S 1 := by
      intro T i e x r
      unfold sl_spring9
      by_cases q : nI w ≤ nI i
      · rw [if_pos q]; unfold sl_rain1; rw [s_put_ne _ (by decide), e]
      · rw [if_neg q]; unfold sl_spring1 sl_rain1; rw [s_put_ne _ (by decide), s_put_ne _ (by decide), e]
    refine (rl_itr (P := fun T => T 1 = S 1) (h * w) (fun i hi T U R p => ⟨?_, hs1 p _ _⟩) (h * w) (Nat.le_refl _) R rfl).1
    have eu : U 1 1 = nI w := R.2.1.2.1
    unfold sl_spring9 mi_rain1
    rw [eu, ix0 (by omega), rl_c R hi (by decide), (wt_at R.2.2.2.2.2.2.1 hj).1, (wt_at R.2.2.2.2.2.2.1 hj).2.1]
    have ei : (nI i).toNatClampNeg = i := nI_clamp (by omega)
    by_cases q : nI w ≤ nI i
    · rw [if_pos q, if_pos q, Int32.add_zero]
      unfold sl_rain1
      rw [ei]
      exact rl_put R (j := 0) (by decide) _
    · have hiw : i < w := by
        rcases Nat.lt_or_ge i w with z | z
        · exact z
        · exact absurd (nI_le z (by omega)) q
      rw [if_neg q, if_neg q, if_neg hp]
      unfold sl_spring1 sl_rain1
      rw [ei, put_s, R.2.2.2.2.2.1 i (by omega)]
      simp only [pg, if_true, show ¬ (1 : Nat) = 2 by decide, if_false]
      rw [a_as]
      exact rl_put R (j := 0) (by decide) _

/-! the numbers of a slope, and what each method of the class makes of them -/
abbrev sS : Type := Nat → Nat → Int32
def s_row (S : sS) (r : Nat) (g : Nat → Int32) : sS := fun a b => cond (Nat.beq a r) (g b) (S a b)
/-- the number v at place j of row r -/
def s_put (S : sS) (r j : Nat) (v : Int32) : sS := s_row S r (upd (S r) j v)
/-- a loop of n rounds -/
def itr {α : Type} (f : Int32 → α → α) : Nat → α → α
  | 0, a => a
  | n + 1, a => f (nI n) (itr f n a)
theorem itr_0 {α : Type} (f : Int32 → α → α) (a : α) : itr f 0 a = a := rfl
theorem itr_s {α : Type} (f : Int32 → α → α) (n : Nat) (a : α) : itr f (n + 1) a = f (nI n) (itr f n a) := rfl
theorem s_row_same (S : sS) (r : Nat) (g : Nat → Int32) : s_row S r g r = g := by
  funext b
  simp [s_row]
theorem s_row_ne (S : sS) {r q : Nat} (h : q ≠ r) (g : Nat → Int32) : s_row S r g q = S q := by
  funext b
  have : Nat.beq q r = false := by
    cases hb : Nat.beq q r with
    | false => rfl
    | true => exact absurd (Nat.eq_of_beq_eq_true hb) h
  simp [s_row, this]
theorem s_put_same (S : sS) (r j : Nat) (v : Int32) : s_put S r j v r = upd (S r) j v := s_row_same _ _ _
theorem s_put_ne (S : sS) {r q : Nat} (h : q ≠ r) (j : Nat) (v : Int32) : s_put S r j v q = S q := s_row_ne _ h _
theorem s_put_col (S : sS) (r : Nat) {j k : Nat} (h : k ≠ j) (v : Int32) (q : Nat) : s_put S r j v q k = S q k := by
  by_cases hq : q = r
  · subst hq
    rw [s_put_same]
    simp [upd, h]
  · rw [s_put_ne S hq]
/-- a slope's cells: the object, its thirteen rows -/
def sW (cI : ClassId) (a : Nat → Nat) (S : sS) : va_W := [(a 0, .inr (2, [.int (S 0 0), .int (S 0 1), .int (S 0 2), .int (S 0 3), .int (S 0 4), .ref (a 1), .ref (a 2), .ref (a 3), .ref (a 4), .ref (a 5), .ref (a 6), .ref (a 7), .ref (a 8), .ref (a 9), .ref (a 10), .ref (a 11), .ref (a 12), .ref (a 13)])),
  (a 1, .inl (cI, 8, .inl (S 1))), (a 2, .inl (cI, 64, .inl (S 2))), (a 3, .inl (cI, 64, .inl (S 3))), (a 4, .inl (cI, 64, .inl (S 4))), (a 5, .inl (cI, 64, .inl (S 5))), (a 6, .inl (cI, 64, .inl (S 6))), (a 7, .inl (cI, 64, .inl (S 7))), (a 8, .inl (cI, 64, .inl (S 8))), (a 9, .inl (cI, 64, .inl (S 9))), (a 10, .inl (cI, 64, .inl (S 10))), (a 11, .inl (cI, 64, .inl (S 11))), (a 12, .inl (cI, 64, .inl (S 12))), (a 13, .inl (cI, 64, .inl (S 13)))]
/-- a calendar's cells -/
def kW (cI : ClassId) (k : Nat → Nat) (M : sS) : va_W := [(k 1, .inr (0, [.ref (k 2), .ref (k 3), .ref (k 4)])), (k 2, .inl (cI, 30, .inl (M 1))), (k 3, .inl (cI, 30, .inl (M 2))), (k 4, .inl (cI, 30, .inl (M 3)))]
/-- the best move's cell -/
def bW (k : Nat → Nat) (M : sS) : va_W := [(k 5, .inr (1, [.int (M 4 0), .int (M 4 1), .int (M 4 2), .int (M 4 3), .int (M 4 4)]))]
/-- the object's own cell; b, t: where its slope and its trial slope lie -/
def oW (k b t : Nat → Nat) (M : sS) : va_W := [(k 0, .inr (3, [.ref (k 1), .ref (b 0), .ref (t 0), .ref (k 5), .int (M 0 0), .int (M 0 1)]))]
/-- the reference's cells: thrown, n, shares, fields, weather, spareCounts, spareFields -/
def mW (cI : ClassId) (d : Nat → Nat) (m : sS) : va_W := [(d 0, .inr (4, [.int (m 0 0), .ref (d 1), .ref (d 2), .ref (d 3), .ref (d 4), .ref (d 5), .ref (d 6)])), (d 1, .inl (cI, 7, .inl (m 1))), (d 2, .inl (cI, 8, .inl (m 2))), (d 3, .inl (cI, 768, .inl (m 3))), (d 4, .inl (cI, 90, .inl (m 4))), (d 5, .inl (cI, 7, .inl (m 5))), (d 6, .inl (cI, 768, .inl (m 6)))]
/-- h terraces of w fields -/
def geo (h w : Nat) (S : sS) : Prop := S 0 0 = nI h ∧ S 0 1 = nI w ∧ 2 ≤ h ∧ h ≤ 8 ∧ 2 ≤ w ∧ w ≤ 8
theorem geo_hw {h w : Nat} {S : sS} (g : geo h w S) : h * w ≤ 64 := by
  obtain ⟨-, -, h1, h2, h3, h4⟩ := g
  exact Nat.mul_le_mul h2 h4
theorem geo_put {h w : Nat} {S : sS} (g : geo h w S) {r j : Nat} (hr : r ≠ 0 ∨ 2 ≤ j) (v : Int32) : geo h w (s_put S r j v) := by
  obtain ⟨h0, h1, h2⟩ := g
  refine ⟨?_, ?_, h2⟩
  · rcases hr with hr | hr
    · rw [s_put_ne S (Ne.symm hr)]; exact h0
    · rw [s_put_col S r (by omega)]; exact h0
  · rcases hr with hr | hr
    · rw [s_put_ne S (Ne.symm hr)]; exact h1
    · rw [s_put_col S r (by omega)]; exact h1
theorem geo_cells {h w : Nat} {S : sS} (g : geo h w S) : S 0 0 * S 0 1 = nI (h * w) := by
  rw [g.1, g.2.1, pk_mul]
def zmax (x y : Int32) : Int32 := if x < y then y else x
def zmin (x y : Int32) : Int32 := if y < x then y else x
def zabs (x : Int32) : Int32 := if 0 ≤ x then x else 0 - x
def zrem (x y : Int32) : Int32 := x - x / y * y
def is_w (x a b : Int32) : Int32 := if x < a then 0 else if b < x then 0 else 1
def sl_cells (S : sS) : Int32 := S 0 0 * S 0 1
def sl_has (S : sS) (t f : Int32) : Int32 := if t < 0 then 0 else if S 0 0 ≤ t then 0 else if f < 0 then 0 else if S 0 1 ≤ f then 0 else 1
def sl_at (S : sS) (t f : Int32) : Int32 := t * S 0 1 + f
theorem sl_has_ok {S : sS} {t f : Int32} (hh : ¬ sl_has S t f = 0) : ¬ t < 0 ∧ ¬ S 0 0 ≤ t ∧ ¬ f < 0 ∧ ¬ S 0 1 ≤ f := by
  unfold sl_has at hh
  by_cases h1 : t < 0
  · rw [if_pos h1] at hh; exact absurd rfl hh
  · rw [if_neg h1] at hh
    by_cases h2 : S 0 0 ≤ t
    · rw [if_pos h2] at hh; exact absurd rfl hh
    · rw [if_neg h2] at hh
      by_cases h3 : f < 0
      · rw [if_pos h3] at hh; exact absurd rfl hh
      · rw [if_neg h3] at hh
        by_cases h4 : S 0 1 ≤ f
        · rw [if_pos h4] at hh; exact absurd rfl hh
        · exact ⟨h1, h2, h3, h4⟩
/-- a field's place as a number -/
theorem geo_tf {h w : Nat} {S : sS} (g : geo h w S) {t f : Int32} (hh : ¬ sl_has S t f = 0) : ∃ i j : Nat, i < h ∧ j < w ∧ t = nI i ∧ f = nI j ∧ sl_at S t f = nI (i * w + j) ∧ i * w + j < h * w := by
  obtain ⟨h1, h2, h3, h4⟩ := sl_has_ok hh
  obtain ⟨g0, g1, -, hh8, -, hw8⟩ := g
  obtain ⟨i, hi, rfl⟩ := nI_of h1
  obtain ⟨j, hj, rfl⟩ := nI_of h3
  have hi2 : i < h := by
    rcases Nat.lt_or_ge i h with q | q
    · exact q
    · exact absurd (by rw [g0]; exact nI_le q hi) h2
  have hj2 : j < w := by
    rcases Nat.lt_or_ge j w with q | q
    · exact q
    · exact absurd (by rw [g1]; exact nI_le q hj) h4
  refine ⟨i, j, hi2, hj2, rfl, rfl, ?_, ?_⟩
  · unfold sl_at
    rw [g1, pk_mul, nI_add]
  · have : (i + 1) * w ≤ h * w := Nat.mul_le_mul_right w hi2
    rw [Nat.succ_mul] at this
    omega
theorem geo_in {h w : Nat} {S : sS} (g : geo h w S) {t f : Int32} (hh : ¬ sl_has S t f = 0) : vp_in (sl_at S t f) 64 := by
  obtain ⟨i, j, -, -, -, -, e, hlt⟩ := geo_tf g hh
  have := geo_hw g
  rw [e]
  exact vp_in_nI (by omega) (by decide)
def sl_bring (S : sS) (t f x : Int32) : sS := if sl_has S t f = 0 then s_put S 0 3 (S 0 3 + x) else s_put S 2 (sl_at S t f).toNatClampNeg (S 2 (sl_at S t f).toNatClampNeg + x)
theorem geo_bring {h w : Nat} {S : sS} (g : geo h w S) (t f x : Int32) : geo h w (sl_bring S t f x) := by
  unfold sl_bring
  split
  · exact geo_put g (Or.inr (by decide)) _
  · exact geo_put g (Or.inl (by decide)) _
/-- one field's water of a day -/
def sl_out (S : sS) (k : Nat) : Int32 := zmin (zmax (S 2 k - S 5 k) 0) 40
def sl_over (S : sS) (k : Nat) : Int32 := zmax (S 2 k - S 3 k) 0
def sl_flow1 (S : sS) (k : Nat) : sS := s_put (s_put S 12 k (sl_out S k)) 2 k (S 2 k - sl_out S k)
def sl_flow2 (S : sS) (k : Nat) : sS := s_put (s_put S 13 k (sl_over S k)) 2 k (S 2 k - sl_over S k)
def sl_flowA (S : sS) (t f : Int32) : sS := sl_bring (sl_flow1 S (sl_at S t f).toNatClampNeg) (t + 1) (f + S 6 (sl_at S t f).toNatClampNeg) (sl_out S (sl_at S t f).toNatClampNeg)
def sl_flowB (S : sS) (k : Nat) (t f : Int32) : sS := sl_bring (sl_bring (sl_flow2 S k) t (f - 1) (sl_over S k / 2)) t (f + 1) (sl_over S k - sl_over S k / 2)
def sl_flow (S : sS) (t f : Int32) : sS := sl_flowB (sl_flowA S t f) (sl_at S t f).toNatClampNeg t f
theorem geo_flow {h w : Nat} {S : sS} (g : geo h w S) (t f : Int32) : geo h w (sl_flow S t f) := by
  unfold sl_flow sl_flowB sl_flowA
  refine geo_bring (geo_bring ?_ _ _ _) _ _ _
  unfold sl_flow2
  refine geo_put (geo_put ?_ (Or.inl (by decide)) _) (Or.inl (by decide)) _
  refine geo_bring ?_ _ _ _
  unfold sl_flow1
  exact geo_put (geo_put g (Or.inl (by decide)) _) (Or.inl (by decide)) _

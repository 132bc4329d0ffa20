/-! the numbers of a slope, and what each method of the class makes of them -/
abbrev sS : Type := Nat → Nat → Int32
def s_row (S : sS) (r : Nat) (g : Nat → Int32) : sS := fun a b => cond (Nat.beq a r) (g b) (S a b)
/-- the number v at place j of row r -/
def s_put (S : sS) (r j : Nat) (v : Int32) : sS := s_row S r (upd (S r) j v)
/-- a loop of n rounds -/
def itr {α : Type} (f : Int32 → α → α) : Nat → α → α
  | 0, a => a
  | n + 1, a => f (nI n) (itr f n a)
theorem itr_0 {α : Type} (f : Int32 → α → α) (a : α) : itr f 0 a = a := rfl
theorem itr_s {α : Type} (f : Int32 → α → α) (n : Nat) (a : α) : itr f (n + 1) a = f (nI n) (itr f n a) := rfl
theorem s_row_same (S : sS) (r : Nat) (g : Nat → Int32) : s_row S r g r = g := by
  funext b
  simp [s_row]
theorem s_row_ne (S : sS) {r q : Nat} (h : q ≠ r) (g : Nat → Int32) : s_row S r g q = S q := by
  funext b
  have : Nat.beq q r = false := by
    cases hb : Nat.beq q r with
    | false => rfl
    | true => exact absurd (Nat.eq_of_beq_eq_true hb) h
  simp [s_row, this]
theorem s_put_same (S : sS) (r j : Nat) (v : Int32) : s_put S r j v r = upd (S r) j v := s_row_same _ _ _
theorem s_put_ne (S : sS) {r q : Nat} (h : q ≠ r) (j : Nat) (v : Int32) : s_put S r j v q = S q := s_row_ne _ h _
theorem s_put_col (S : sS) (r : Nat) {j k : Nat} (h : k ≠ j) (v : Int32) (q : Nat) : s_put S r j v q k = S q k := by
  by_cases hq : q = r
  · subst hq
    rw [s_put_same]
    simp [upd, h]
  · rw [s_put_ne S hq]
/-- a slope's cells: the object, its thirteen rows -/
def sW (cI : ClassId) (a : Nat → Nat) (S : sS) : va_W := [(a 0, .inr (2, [.int (S 0 0), .int (S 0 1), .int (S 0 2), .int (S 0 3), .int (S 0 4), .ref (a 1), .ref (a 2), .ref (a 3), .ref (a 4), .ref (a 5), .ref (a 6), .ref (a 7), .ref (a 8), .ref (a 9), .ref (a 10), .ref (a 11), .ref (a 12), .ref (a 13)])),
  (a 1, .inl (cI, 8, .inl (S 1))), (a 2, .inl (cI, 64, .inl (S 2))), (a 3, .inl (cI, 64, .inl (S 3))), (a 4, .inl (cI, 64, .inl (S 4))), (a 5, .inl (cI, 64, .inl (S 5))), (a 6, .inl (cI, 64, .inl (S 6))), (a 7, .inl (cI, 64, .inl (S 7))), (a 8, .inl (cI, 64, .inl (S 8))), (a 9, .inl (cI, 64, .inl (S 9))), (a 10, .inl (cI, 64, .inl (S 10))), (a 11, .inl (cI, 64, .inl (S 11))), (a 12, .inl (cI, 64, .inl (S 12))), (a 13, .inl (cI, 64, .inl (S 13)))]
/-- a calendar's cells -/
def kW (cI : ClassId) (k : Nat → Nat) (M : sS) : va_W := [(k 1, .inr (0, [.ref (k 2), .ref (k 3), .ref (k 4)])), (k 2, .inl (cI, 30, .inl (M 1))), (k 3, .inl (cI, 30, .inl (M 2))), (k 4, .inl (cI, 30, .inl (M 3)))]
/-- the best move's cell -/
def bW (k : Nat → Nat) (M : sS) : va_W := [(k 5, .inr (1, [.int (M 4 0), .int (M 4 1), .int (M 4 2), .int (M 4 3), .int (M 4 4)]))]
/-- the object's own cell; b, t: where its slope and its trial slope lie -/
def oW (k b t : Nat → Nat) (M : sS) : va_W := [(k 0, .inr (3, [.ref (k 1), .ref (b 0), .ref (t 0), .ref (k 5), .int (M 0 0), .int (M 0 1)]))]
/-- the reference's cells: thrown, n, shares, fields, weather, spareCounts, spareFields -/
def mW (cI : ClassId) (d : Nat → Nat) (m : sS) : va_W := [(d 0, .inr (4, [.int (m 0 0), .ref (d 1), .ref (d 2), .ref (d 3), .ref (d 4), .ref (d 5), .ref (d 6)])), (d 1, .inl (cI, 7, .inl (m 1))), (d 2, .inl (cI, 8, .inl (m 2))), (d 3, .inl (cI, 768, .inl (m 3))), (d 4, .inl (cI, 90, .inl (m 4))), (d 5, .inl (cI, 7, .inl (m 5))), (d 6, .inl (cI, 768, .inl (m 6)))]
/-- h terraces of w fields -/
def geo (h w : Nat) (S : sS) : Prop := S 0 0 = nI h ∧ S 0 1 = nI w ∧ 2 ≤ h ∧ h ≤ 8 ∧ 2 ≤ w ∧ w ≤ 8
theorem geo_hw {h w : Nat} {S : sS} (g : geo h w S) : h * w ≤ 64 := by
  obtain ⟨-, -, h1, h2, h3, h4⟩ := g
  exact Nat.mul_le_mul h2 h4
theorem geo_put {h w : Nat} {S : sS} (g : geo h w S) {r j : Nat} (hr : r ≠ 0 ∨ 2 ≤ j) (v : Int32) : geo h w (s_put S r j v) := by
  obtain ⟨h0, h1, h2⟩ := g
  refine ⟨?_, ?_, h2⟩
  · rcases hr with hr | hr
    · rw [s_put_ne S (Ne.symm hr)]; exact h0
    · rw [s_put_col S r (by omega)]; exact h0
  · rcases hr with hr | hr
    · rw [s_put_ne S (Ne.symm hr)]; exact h1
    · rw [s_put_col S r (by omega)]; exact h1
/-- h, w and the day stay -/
def sam (S T : sS) : Prop := T 0 0 = S 0 0 ∧ T 0 1 = S 0 1 ∧ T 0 2 = S 0 2
theorem sam_rf (S : sS) : sam S S := ⟨rfl, rfl, rfl⟩
theorem sam_tr {S T U : sS} (h : sam S T) (h2 : sam T U) : sam S U := ⟨h2.1.trans h.1, h2.2.1.trans h.2.1, h2.2.2.trans h.2.2⟩
theorem sam_put {S T : sS} (h : sam S T) {r j : Nat} (hr : r ≠ 0 ∨ 3 ≤ j) (v : Int32) : sam S (s_put T r j v) := by
  refine sam_tr h ?_
  rcases hr with hr | hr
  · exact ⟨by rw [s_put_ne T (Ne.symm hr)], by rw [s_put_ne T (Ne.symm hr)], by rw [s_put_ne T (Ne.symm hr)]⟩
  · exact ⟨s_put_col T r (by omega) v 0, s_put_col T r (by omega) v 0, s_put_col T r (by omega) v 0⟩
theorem sam_itr {f : Int32 → sS → sS} (hf : ∀ i T, sam T (f i T)) (n : Nat) (S : sS) : sam S (itr f n S) := by
  induction n with
  | zero => exact sam_rf S
  | succ n ih => exact sam_tr ih (hf _ _)
theorem geo_sam {h w : Nat} {S T : sS} (g : geo h w S) (e : sam S T) : geo h w T := ⟨e.1.trans g.1, e.2.1.trans g.2.1, g.2.2⟩
def zmax (x y : Int32) : Int32 := if x < y then y else x
def zmin (x y : Int32) : Int32 := if y < x then y else x
def zabs (x : Int32) : Int32 := if 0 ≤ x then x else 0 - x
def zrem (x y : Int32) : Int32 := x - x / y * y
def is_w (x a b : Int32) : Int32 := if x < a then 0 else if b < x then 0 else 1
def sl_cells (S : sS) : Int32 := S 0 0 * S 0 1
theorem geo_cells {h w : Nat} {S : sS} (g : geo h w S) : sl_cells S = nI (h * w) := by
  unfold sl_cells
  rw [g.1, g.2.1, pk_mul]
def sl_has (S : sS) (t f : Int32) : Int32 := if t < 0 then 0 else if S 0 0 ≤ t then 0 else if f < 0 then 0 else if S 0 1 ≤ f then 0 else 1
def sl_at (S : sS) (t f : Int32) : Int32 := t * S 0 1 + f
theorem sl_has_ok {S : sS} {t f : Int32} (hh : ¬ sl_has S t f = 0) : ¬ t < 0 ∧ ¬ S 0 0 ≤ t ∧ ¬ f < 0 ∧ ¬ S 0 1 ≤ f := by
  unfold sl_has at hh
  by_cases h1 : t < 0
  · rw [if_pos h1] at hh; exact absurd rfl hh
  · rw [if_neg h1] at hh
    by_cases h2 : S 0 0 ≤ t
    · rw [if_pos h2] at hh; exact absurd rfl hh
    · rw [if_neg h2] at hh
      by_cases h3 : f < 0
      · rw [if_pos h3] at hh; exact absurd rfl hh
      · rw [if_neg h3] at hh
        by_cases h4 : S 0 1 ≤ f
        · rw [if_pos h4] at hh; exact absurd rfl hh
        · exact ⟨h1, h2, h3, h4⟩
/-- a field's place as a number -/
theorem geo_tf {h w : Nat} {S : sS} (g : geo h w S) {t f : Int32} (hh : ¬ sl_has S t f = 0) : ∃ i j : Nat, i < h ∧ j < w ∧ t = nI i ∧ f = nI j ∧ sl_at S t f = nI (i * w + j) ∧ i * w + j < h * w := by
  obtain ⟨h1, h2, h3, h4⟩ := sl_has_ok hh
  obtain ⟨g0, g1, -, hh8, -, hw8⟩ := g
  obtain ⟨i, hi, rfl⟩ := nI_of h1
  obtain ⟨j, hj, rfl⟩ := nI_of h3
  have hi2 : i < h := by
    rcases Nat.lt_or_ge i h with q | q
    · exact q
    · exact absurd (by rw [g0]; exact nI_le q hi) h2
  have hj2 : j < w := by
    rcases Nat.lt_or_ge j w with q | q
    · exact q
    · exact absurd (by rw [g1]; exact nI_le q hj) h4
  refine ⟨i, j, hi2, hj2, rfl, rfl, ?_, ?_⟩
  · unfold sl_at
    rw [g1, pk_mul, nI_add]
  · have : (i + 1) * w ≤ h * w := Nat.mul_le_mul_right w hi2
    rw [Nat.succ_mul] at this
    omega
theorem geo_in {h w : Nat} {S : sS} (g : geo h w S) {t f : Int32} (hh : ¬ sl_has S t f = 0) : vp_in (sl_at S t f) 64 := by
  obtain ⟨i, j, -, -, -, -, e, hlt⟩ := geo_tf g hh
  have := geo_hw g
  rw [e]
  exact vp_in_nI (by omega) (by decide)
def sl_bring (S : sS) (t f x : Int32) : sS := if sl_has S t f = 0 then s_put S 0 3 (S 0 3 + x) else s_put S 2 (sl_at S t f).toNatClampNeg (S 2 (sl_at S t f).toNatClampNeg + x)
theorem sam_bring (S : sS) (t f x : Int32) : sam S (sl_bring S t f x) := by
  unfold sl_bring
  split
  · exact sam_put (sam_rf S) (Or.inr (by decide)) _
  · exact sam_put (sam_rf S) (Or.inl (by decide)) _
theorem geo_has {h w : Nat} {S : sS} (g : geo h w S) {i j : Nat} (hi : i < h) (hj : j < w) : ¬ sl_has S (nI i) (nI j) = 0 := by
  obtain ⟨g0, g1, -, h8, -, w8⟩ := g
  unfold sl_has
  rw [g0, g1, if_neg (nI_pos (by omega)), if_neg (nI_ge hi (by omega)), if_neg (nI_pos (by omega)), if_neg (nI_ge hj (by omega))]
  decide
theorem geo_w {h w : Nat} {S : sS} (g : geo h w S) : w ≤ h * w := by
  obtain ⟨-, -, h2, -⟩ := g
  exact Nat.le_mul_of_pos_left w (by omega)
/-- one field's water of a day -/
def sl_out (S : sS) (k : Nat) : Int32 := zmin (zmax (S 2 k - S 5 k) 0) 40
def sl_over (S : sS) (k : Nat) : Int32 := zmax (S 2 k - S 3 k) 0
def sl_flow1 (S : sS) (k : Nat) : sS := s_put (s_put S 12 k (sl_out S k)) 2 k (S 2 k - sl_out S k)
def sl_flow2 (S : sS) (k : Nat) : sS := s_put (s_put S 13 k (sl_over S k)) 2 k (S 2 k - sl_over S k)
def sl_flowA (S : sS) (t f : Int32) : sS := sl_bring (sl_flow1 S (sl_at S t f).toNatClampNeg) (t + 1) (f + S 6 (sl_at S t f).toNatClampNeg) (sl_out S (sl_at S t f).toNatClampNeg)
def sl_flowB (S : sS) (k : Nat) (t f : Int32) : sS := sl_bring (sl_bring (sl_flow2 S k) t (f - 1) (sl_over S k / 2)) t (f + 1) (sl_over S k - sl_over S k / 2)
def sl_flow (S : sS) (t f : Int32) : sS := sl_flowB (sl_flowA S t f) (sl_at S t f).toNatClampNeg t f
theorem sam_flow (S : sS) (t f : Int32) : sam S (sl_flow S t f) := by
  unfold sl_flow sl_flowB sl_flowA
  refine sam_tr ?_ (sam_bring _ _ _ _)
  refine sam_tr ?_ (sam_bring _ _ _ _)
  unfold sl_flow2
  refine sam_put (sam_put ?_ (Or.inl (by decide)) _) (Or.inl (by decide)) _
  refine sam_tr ?_ (sam_bring _ _ _ _)
  unfold sl_flow1
  exact sam_put (sam_put (sam_rf S) (Or.inl (by decide)) _) (Or.inl (by decide)) _
def sl_flowAll (h w : Nat) (S : sS) : sS := itr (fun t T => itr (fun f U => sl_flow U t f) w T) h S
theorem sam_flowAll (h w : Nat) (S : sS) : sam S (sl_flowAll h w S) := sam_itr (fun t T => sam_itr (fun f U => sam_flow U t f) w T) h S
def sl_sum (h w : Nat) (S : sS) (r : Nat) : Int32 := itr (fun i x => x + S r i.toNatClampNeg) (h * w) 0
def sl_clear (S : sS) (i : Int32) : sS := s_put (s_put (s_put (s_put (s_put S 7 i.toNatClampNeg 0) 8 i.toNatClampNeg 0) 9 i.toNatClampNeg 0) 10 i.toNatClampNeg 0) 11 i.toNatClampNeg 0
theorem sam_clear (S : sS) (i : Int32) : sam S (sl_clear S i) := sam_put (sam_put (sam_put (sam_put (sam_put (sam_rf S) (Or.inl (by decide)) _) (Or.inl (by decide)) _) (Or.inl (by decide)) _) (Or.inl (by decide)) _) (Or.inl (by decide)) _
def sl_hard (S : sS) (i : Int32) : Int32 := if 0 < S 10 i.toNatClampNeg then -3 else if S 11 i.toNatClampNeg ≤ 0 then (if is_w (S 2 i.toNatClampNeg) 5 25 = 0 then 1 else 2) else -3
def sl_height (S : sS) (k : Nat) : Int32 := zmin (5 + S 8 k * 2 / 3) 45
def sl_wet (S : sS) (k : Nat) : sS := s_put S 10 k (if S 2 k ≤ sl_height S k then 0 else S 10 k + 1)
def sl_dry (S : sS) (k : Nat) : sS := s_put S 11 k (if S 2 k = 0 then S 11 k + 1 else 0)
def sl_die (S : sS) (i : Int32) : sS := s_put (sl_clear S i) 0 4 (sl_clear S i 0 4 + 1)
def sl_live (S : sS) (i : Int32) : sS := s_put S 9 i.toNatClampNeg (zmin (zmax (S 9 i.toNatClampNeg + sl_hard S i) 0) 100)
def sl_end (S : sS) (i : Int32) : sS := if 4 ≤ S 10 i.toNatClampNeg then sl_die S i else if S 11 i.toNatClampNeg < 5 then sl_live S i else sl_die S i
def sl_grow (S : sS) (i : Int32) : sS := sl_end (sl_dry (sl_wet (s_put S 8 i.toNatClampNeg (S 8 i.toNatClampNeg + 1)) i.toNatClampNeg) i.toNatClampNeg) i
theorem sam_die (S : sS) (i : Int32) : sam S (sl_die S i) := sam_put (sam_clear S i) (Or.inr (by decide)) _
theorem sam_end (S : sS) (i : Int32) : sam S (sl_end S i) := by
  unfold sl_end
  split
  · exact sam_die S i
  · split
    · exact sam_put (sam_rf S) (Or.inl (by decide)) _
    · exact sam_die S i
theorem sam_grow (S : sS) (i : Int32) : sam S (sl_grow S i) := by
  unfold sl_grow
  refine sam_tr ?_ (sam_end _ i)
  unfold sl_dry sl_wet
  exact sam_put (sam_put (sam_put (sam_rf S) (Or.inl (by decide)) _) (Or.inl (by decide)) _) (Or.inl (by decide)) _
def sl_rice1 (S : sS) (i : Int32) : sS := if S 7 i.toNatClampNeg = 0 then S else sl_grow S i
def sl_rice (h w : Nat) (S : sS) : sS := itr (fun i T => sl_rice1 T i) (h * w) S
theorem sam_rice (h w : Nat) (S : sS) : sam S (sl_rice h w S) := sam_itr (fun i T => by
  unfold sl_rice1
  split
  · exact sam_rf T
  · exact sam_grow T i) _ S
def sl_rain1 (S : sS) (i x : Int32) : sS := s_put S 2 i.toNatClampNeg (S 2 i.toNatClampNeg + x)
def sl_rain (h w : Nat) (S : sS) (x : Int32) : sS := itr (fun i T => sl_rain1 T i x) (h * w) S
theorem sam_rain (h w : Nat) (S : sS) (x : Int32) : sam S (sl_rain h w S x) := sam_itr (fun i T => sam_put (sam_rf T) (Or.inl (by decide)) _) _ S
def sl_shares (w : Nat) (S : sS) : Int32 := itr (fun i x => x + S 1 i.toNatClampNeg) w 0
def sl_spring1 (S : sS) (i x a : Int32) : sS := s_put S 2 i.toNatClampNeg (S 2 i.toNatClampNeg + x * S 1 i.toNatClampNeg / a)
def sl_spring (w : Nat) (S : sS) (x : Int32) : sS := if sl_shares w S = 0 then S else itr (fun i T => sl_spring1 T i x (sl_shares w S)) w S
theorem sam_spring (w : Nat) (S : sS) (x : Int32) : sam S (sl_spring w S x) := by
  unfold sl_spring
  split
  · exact sam_rf S
  · exact sam_itr (fun i T => sam_put (sam_rf T) (Or.inl (by decide)) _) _ S
def sl_left (S : sS) (k : Nat) (x : Int32) : Int32 := zmax (S 2 k - S 4 k - x) 0
def sl_loseA (S : sS) (k : Nat) (x : Int32) : sS := s_put S 2 k (zmin (sl_left S k x) 200)
def sl_lose1 (S : sS) (i x : Int32) : sS := s_put (sl_loseA S i.toNatClampNeg x) 0 3 (sl_loseA S i.toNatClampNeg x 0 3 + (sl_left S i.toNatClampNeg x - sl_loseA S i.toNatClampNeg x 2 i.toNatClampNeg))
def sl_lose (h w : Nat) (S : sS) (x : Int32) : sS := itr (fun i T => sl_lose1 T i x) (h * w) S
theorem sam_lose (h w : Nat) (S : sS) (x : Int32) : sam S (sl_lose h w S x) := sam_itr (fun i T => sam_put (sam_put (sam_rf T) (Or.inl (by decide)) _) (Or.inr (by decide)) _) _ S
def sl_date (S : sS) : Int32 := S 0 2 - S 0 2 / 30 * 30
def sl_dayA (h w : Nat) (S : sS) (r v u : Int32) : sS := sl_rice h w (sl_lose h w (sl_flowAll h w (sl_spring w (sl_rain h w S r) v)) u)
def sl_day (h w : Nat) (M S : sS) : sS := sl_dayA h w (s_put S 0 2 (S 0 2 + 1)) (M 1 (sl_date S).toNatClampNeg) (M 2 (sl_date S).toNatClampNeg) (M 3 (sl_date S).toNatClampNeg)
def sl_days (h w : Nat) (M S : sS) (n : Nat) : sS := itr (fun _ T => sl_day h w M T) n S
theorem sam_dayA (h w : Nat) (S : sS) (r v u : Int32) : sam S (sl_dayA h w S r v u) := sam_tr (sam_tr (sam_tr (sam_tr (sam_rain h w S r) (sam_spring w _ v)) (sam_flowAll h w _)) (sam_lose h w _ u)) (sam_rice h w _)
theorem geo_day {h w : Nat} {S : sS} (g : geo h w S) (M : sS) : geo h w (sl_day h w M S) := geo_sam (geo_put g (Or.inr (by decide)) _) (sam_dayA h w _ _ _ _)
theorem day_day {h w d : Nat} {S : sS} (hd : S 0 2 = nI d) (M : sS) : sl_day h w M S 0 2 = nI (d + 1) := by
  unfold sl_day
  rw [(sam_dayA h w _ _ _ _).2.2, s_put_same]
  simp only [upd, if_true]
  rw [hd, nI_1]
theorem date_in {d : Nat} {S : sS} (hd : S 0 2 = nI d) (h : d < 2 ^ 31) : vp_in (S 0 2 - S 0 2 / 30 * 30) 30 := by
  have e : S 0 2 - S 0 2 / 30 * 30 = nI (d % 30) := by
    rw [hd]
    exact pk_rem (d := 30) h (by decide) (by decide)
  rw [e]
  exact vp_in_nI (Nat.mod_lt _ (by decide)) (by decide)
theorem geo_days {h w : Nat} {S : sS} (g : geo h w S) (M : sS) (n : Nat) : geo h w (sl_days h w M S n) := by
  unfold sl_days
  induction n with
  | zero => exact g
  | succ n ih => exact geo_day ih M
theorem days_day {h w d : Nat} {S : sS} (hd : S 0 2 = nI d) (M : sS) (n : Nat) : sl_days h w M S n 0 2 = nI (d + n) := by
  unfold sl_days
  induction n with
  | zero => exact hd
  | succ n ih => exact day_day ih M
/-! worlds whose rows agree as far as they are long -/
theorem z_cell {D : va_G} {cl : List vw_C} {a : Nat} {cI : ClassId} {n : Nat} {f g : Nat → Int32} {H : Heap} (h : va_at D cl (a, .inl (cI, n, .inl f)) H) (e : ∀ j, j < n → f j = g j) : va_at D cl (a, .inl (cI, n, .inl g)) H := by
  have h1 : H[a]? = some (vp_cell cI (n, .inl f)) := h
  have h2 : vp_cell cI (n, .inl f) = vp_cell cI (n, .inl g) := by
    rw [vp_cell_i, vp_cell_i]
    unfold arrV
    congr 1
    congr 1
    funext j
    show Value.int (f j.val) = Value.int (g j.val)
    rw [e j.val j.isLt]
  rw [h2] at h1
  exact h1
theorem z_Pnil {D : va_G} {cl : List vw_C} {H : Heap} : va_P D cl [] H := fun k q h => by simp at h
theorem z_Pcons {D : va_G} {cl : List vw_C} {H : Heap} {x : Nat × va_E} {ws : va_W} (h : va_at D cl x H) (hs : va_P D cl ws H) : va_P D cl (x :: ws) H := by
  intro k q hk
  cases k with
  | zero =>
    simp at hk
    rw [← hk]
    exact h
  | succ k => exact hs k q (by simpa using hk)
theorem z_Pap {D : va_G} {cl : List vw_C} {H : Heap} {u v : va_W} (h : va_P D cl u H) (h2 : va_P D cl v H) : va_P D cl (u ++ v) H := by
  intro k q hk
  rcases Nat.lt_or_ge k u.length with c | c
  · rw [List.getElem?_append_left c] at hk
    exact h k q hk
  · rw [List.getElem?_append_right c] at hk
    exact h2 _ q hk
theorem z_Pl {D : va_G} {cl : List vw_C} {H : Heap} {u v : va_W} (h : va_P D cl (u ++ v) H) : va_P D cl u H := fun k q hk => h k q (by rw [List.getElem?_append_left (List.getElem?_eq_some_iff.mp hk).1]; exact hk)
theorem z_Pr {D : va_G} {cl : List vw_C} {H : Heap} {u v : va_W} (h : va_P D cl (u ++ v) H) : va_P D cl v H := fun k q hk => h (u.length + k) q (by rw [List.getElem?_append_right (by omega)]; rw [show u.length + k - u.length = k by omega]; exact hk)
/-- apart is a word about addresses alone -/
theorem z_Dmap {A : Nat → Prop} {ws ws' : va_W} (h : va_D A ws) (e : ws.map Prod.fst = ws'.map Prod.fst) : va_D A ws' := by
  have key : ∀ (k : Nat) (q : Nat × va_E), ws'[k]? = some q → ∃ p, ws[k]? = some p ∧ p.1 = q.1 := by
    intro k q hk
    have h1 : (ws.map Prod.fst)[k]? = some q.1 := by rw [e, List.getElem?_map, hk]; rfl
    rw [List.getElem?_map] at h1
    cases hp : ws[k]? with
    | none => rw [hp] at h1; simp at h1
    | some p =>
      rw [hp] at h1
      simp at h1
      exact ⟨p, rfl, h1⟩
  refine ⟨fun i j p q hp hq hpq => ?_, fun k q hk => ?_⟩
  · obtain ⟨p2, h1, h2⟩ := key i p hp
    obtain ⟨q2, h3, h4⟩ := key j q hq
    exact h.1 i j p2 q2 h1 h3 (by rw [h2, h4, hpq])
  · obtain ⟨p, h1, h2⟩ := key k q hk
    rw [← h2]
    exact h.2 k p h1
/-- two slopes that nobody can tell apart -/
def sEq (S T : sS) : Prop := (∀ j, j < 5 → S 0 j = T 0 j) ∧ (∀ j, j < 8 → S 1 j = T 1 j) ∧ ∀ r, 2 ≤ r → r < 14 → ∀ j, j < 64 → S r j = T r j
theorem sW_eq {D : va_G} {cl : List vw_C} {cI : ClassId} {a : Nat → Nat} {S T : sS} {H : Heap} (e : sEq S T) (h : va_P D cl (sW cI a S) H) : va_P D cl (sW cI a T) H := by
  have h0 : va_at D cl _ H := h 0 _ rfl
  rw [show S 0 0 = T 0 0 from e.1 0 (by decide), show S 0 1 = T 0 1 from e.1 1 (by decide), show S 0 2 = T 0 2 from e.1 2 (by decide), show S 0 3 = T 0 3 from e.1 3 (by decide), show S 0 4 = T 0 4 from e.1 4 (by decide)] at h0
  have hr : ∀ r, 2 ≤ r → r < 14 → ∀ j, j < 64 → S r j = T r j := e.2.2
  exact z_Pcons h0 (z_Pcons (z_cell (h 1 _ rfl) e.2.1) (z_Pcons (z_cell (h 2 _ rfl) (hr 2 (by decide) (by decide))) (z_Pcons (z_cell (h 3 _ rfl) (hr 3 (by decide) (by decide))) (z_Pcons (z_cell (h 4 _ rfl) (hr 4 (by decide) (by decide))) (z_Pcons (z_cell (h 5 _ rfl) (hr 5 (by decide) (by decide))) (z_Pcons (z_cell (h 6 _ rfl) (hr 6 (by decide) (by decide))) (z_Pcons (z_cell (h 7 _ rfl) (hr 7 (by decide) (by decide))) (z_Pcons (z_cell (h 8 _ rfl) (hr 8 (by decide) (by decide))) (z_Pcons (z_cell (h 9 _ rfl) (hr 9 (by decide) (by decide))) (z_Pcons (z_cell (h 10 _ rfl) (hr 10 (by decide) (by decide))) (z_Pcons (z_cell (h 11 _ rfl) (hr 11 (by decide) (by decide))) (z_Pcons (z_cell (h 12 _ rfl) (hr 12 (by decide) (by decide))) (z_Pcons (z_cell (h 13 _ rfl) (hr 13 (by decide) (by decide))) z_Pnil)))))))))))))
theorem sW_map (cI : ClassId) (a : Nat → Nat) (S T : sS) : (sW cI a S).map Prod.fst = (sW cI a T).map Prod.fst := rfl
/-- cells by their places -/
def zpk (ws : va_W) (is : List Nat) : va_W := is.filterMap (fun i => ws[i]?)
/-- a new slope -/
def sl_new (h w : Int32) : sS := fun r j => match r with
  | 0 => (match j with | 0 => h | 1 => w | _ => 0)
  | 1 => 1
  | 3 => 60
  | 4 => 2
  | 5 => 30
  | _ => 0
def sl_field (S : sS) (i x : Int32) : Int32 := if x = 0 then S 2 i.toNatClampNeg else if x = 1 then S 3 i.toNatClampNeg else if x = 2 then S 4 i.toNatClampNeg else if x = 3 then S 5 i.toNatClampNeg else if x = 4 then S 6 i.toNatClampNeg else if x = 5 then S 7 i.toNatClampNeg else if x = 6 then S 8 i.toNatClampNeg else if x = 7 then S 9 i.toNatClampNeg else if x = 8 then S 10 i.toNatClampNeg else if x = 9 then S 11 i.toNatClampNeg else if x = 10 then S 12 i.toNatClampNeg else S 13 i.toNatClampNeg
/-- the rows of a slope whose crops were cleared from the first place on -/
theorem clr_rows (n : Nat) (S : sS) : ∀ r, (itr (fun i T => sl_clear T i) n S) r = if 7 ≤ r ∧ r ≤ 11 then (fun j => if j < n ∧ n < 2 ^ 31 then 0 else (itr (fun i T => sl_clear T i) n S) r j) else S r := by
  induction n with
  | zero =>
    intro r
    split
    · funext j
      simp
    · rfl
  | succ n ih =>
    intro r
    have hstep : (itr (fun i T => sl_clear T i) (n + 1) S) r = if 7 ≤ r ∧ r ≤ 11 then upd ((itr (fun i T => sl_clear T i) n S) r) (nI n).toNatClampNeg 0 else (itr (fun i T => sl_clear T i) n S) r := by
      rw [itr_s]
      show sl_clear _ _ r = _
      unfold sl_clear
      by_cases h7 : r = 7
      · subst h7
        rw [s_put_ne _ (by decide), s_put_ne _ (by decide), s_put_ne _ (by decide), s_put_ne _ (by decide), s_put_same, if_pos (by decide)]
      by_cases h8 : r = 8
      · subst h8
        rw [s_put_ne _ (by decide), s_put_ne _ (by decide), s_put_ne _ (by decide), s_put_same, s_put_ne _ (by decide), if_pos (by decide)]
      by_cases h9 : r = 9
      · subst h9
        rw [s_put_ne _ (by decide), s_put_ne _ (by decide), s_put_same, s_put_ne _ (by decide), s_put_ne _ (by decide), if_pos (by decide)]
      by_cases h10 : r = 10
      · subst h10
        rw [s_put_ne _ (by decide), s_put_same, s_put_ne _ (by decide), s_put_ne _ (by decide), s_put_ne _ (by decide), if_pos (by decide)]
      by_cases h11 : r = 11
      · subst h11
        rw [s_put_same, s_put_ne _ (by decide), s_put_ne _ (by decide), s_put_ne _ (by decide), s_put_ne _ (by decide), if_pos (by decide)]
      · rw [s_put_ne _ h11, s_put_ne _ h10, s_put_ne _ h9, s_put_ne _ h8, s_put_ne _ h7, if_neg (by omega)]
    by_cases hr : 7 ≤ r ∧ r ≤ 11
    · rw [if_pos hr]
      funext j
      by_cases hj : j < n + 1 ∧ n + 1 < 2 ^ 31
      · rw [if_pos hj, hstep, if_pos hr]
        have hn : (nI n).toNatClampNeg = n := nI_clamp (by omega)
        rw [hn]
        unfold upd
        split
        · rfl
        · have := congrFun (ih r) j
          rw [if_pos hr] at this
          rw [this, if_pos ⟨by omega, by omega⟩]
      · rw [if_neg hj]
    · rw [if_neg hr, hstep, if_neg hr, ih r, if_neg hr]
theorem clr_in {n : Nat} {S : sS} {r j : Nat} (h1 : 7 ≤ r) (h2 : r ≤ 11) (hj : j < n) (hn : n < 2 ^ 31) : (itr (fun i T => sl_clear T i) n S) r j = 0 := by
  have := congrFun (clr_rows n S r) j
  rw [if_pos ⟨h1, h2⟩] at this
  rw [this, if_pos ⟨hj, hn⟩]
theorem clr_out {n : Nat} {S : sS} {r : Nat} (h : r < 7 ∨ 11 < r) : (itr (fun i T => sl_clear T i) n S) r = S r := by
  rw [clr_rows n S r, if_neg (by omega)]

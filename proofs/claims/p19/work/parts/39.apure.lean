/-! the calendar, the best move, the object -/
def cal_num (M : sS) (i x : Int32) : Int32 := if x = 0 then M 1 i.toNatClampNeg else if x = 1 then M 2 i.toNatClampNeg else M 3 i.toNatClampNeg
def mv_set (M : sS) (t f x c d : Int32) : sS := s_put (s_put (s_put (s_put (s_put M 4 0 t) 4 1 f) 4 2 x) 4 3 c) 4 4 d
def mv_better (M : sS) (t f x c d : Int32) : sS := if M 4 3 < c then mv_set M t f x c d else if c = M 4 3 then (if d ≤ M 4 4 then M else mv_set M t f x c d) else M
def mv_num (M : sS) (x : Int32) : Int32 := if x = 0 then M 4 0 else if x = 1 then M 4 1 else M 4 2
def x3_count (h w : Nat) (M S : sS) (x : Int32) : Int32 := if x = 0 then S 0 0 else if x = 1 then S 0 1 else if x = 2 then S 0 2 else if x = 3 then sl_sum h w S 7 else if x = 4 then sl_sum h w S 2 else if x = 5 then S 0 3 else if x = 6 then M 0 0 else if x = 7 then S 0 4 else M 0 1
def x3_fore (h w : Nat) (S T : sS) (x : Int32) : Int32 := if x = 0 then sl_sum h w T 7 else if x = 1 then sl_sum h w T 9 else if x = 2 then T 0 3 - S 0 3 else sl_sum h w T 2
/-- the slope after n days, if the stone at k is x high -/
def x3_try (h w : Nat) (M S : sS) (n k : Nat) (x : Int32) : sS := sl_days h w M (s_put S 5 k x) n
def x3_h (h w : Nat) (M S : sS) (n : Nat) (t f : Int32) (i : Int32) (p : sS × sS) : sS × sS := (mv_better p.1 t f (i * 10) (sl_sum h w (x3_try h w M S n (sl_at S t f).toNatClampNeg (i * 10)) 7) (sl_sum h w (x3_try h w M S n (sl_at S t f).toNatClampNeg (i * 10)) 9), x3_try h w M S n (sl_at S t f).toNatClampNeg (i * 10))
def x3_rounds (x : Int32) : Nat := x.toNatClampNeg / 10 + 1
def x3_f (h w : Nat) (M S : sS) (n : Nat) (t f : Int32) (p : sS × sS) : sS × sS := itr (x3_h h w M S n t f) (x3_rounds (S 3 (sl_at S t f).toNatClampNeg)) p
def x3_t (h w : Nat) (M S : sS) (n : Nat) (t : Int32) (p : sS × sS) : sS × sS := itr (x3_f h w M S n t) w p
def x3_0 (h w : Nat) (M B S : sS) (n : Nat) : sS × sS := (mv_set B (-1) (-1) (-1) (sl_sum h w (sl_days h w M S n) 7) (sl_sum h w (sl_days h w M S n) 9), sl_days h w M S n)
def x3_best (h w : Nat) (M B S : sS) (n : Nat) : sS × sS := itr (x3_t h w M S n) h (x3_0 h w M B S n)
def bkok (S : sS) : Prop := ∀ j, j < 64 → ∃ b : Nat, S 3 j = nI b ∧ b ≤ 120
theorem vp_lt {x : Int32} {n : Nat} (h : vp_in x n) (hn : n < 2 ^ 31) : x.toNatClampNeg < n := by
  obtain ⟨j, hj, rfl⟩ := vp_in_of h hn
  rw [nI_clamp (by omega)]
  exact hj
theorem ten_nI (i : Nat) : nI i * 10 = nI (i * 10) := by
  have h1 : (10 : Int32) = nI 10 := rfl
  rw [h1, pk_mul]
theorem ht_in {x : Int32} {i : Nat} (hb : ∃ b : Nat, x = nI b ∧ b ≤ 120) (hi : i < x3_rounds x) : ¬ x < nI i * 10 := by
  obtain ⟨b, rfl, hb⟩ := hb
  unfold x3_rounds at hi
  rw [nI_clamp (by omega)] at hi
  rw [ten_nI]
  exact nI_nlt (by omega) (by omega)
theorem ht_out {x : Int32} {i : Nat} (hb : ∃ b : Nat, x = nI b ∧ b ≤ 120) (hi : i = x3_rounds x) : x < nI i * 10 := by
  obtain ⟨b, rfl, hb⟩ := hb
  unfold x3_rounds at hi
  rw [nI_clamp (by omega)] at hi
  rw [ten_nI]
  exact nI_lt (by omega) (by omega)
theorem bk_at {h w : Nat} {S : sS} (g : geo h w S) (hb : bkok S) {i j : Nat} (hi : i < h) (hj : j < w) : ∃ b : Nat, S 3 (sl_at S (nI i) (nI j)).toNatClampNeg = nI b ∧ b ≤ 120 := hb _ (vp_lt (geo_in g (geo_has g hi hj)) (by decide))

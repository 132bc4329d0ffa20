/-! what the calls of the class answer, and what they leave -/
abbrev sl_k (S : sS) (t f : Int32) : Nat := (sl_at S t f).toNatClampNeg
def lay_T (u v : Int32) : Int32 := if is_w u 2 8 = 0 then 1 else if is_w v 2 8 = 0 then 1 else 0
def lay_M (M : sS) : sS := s_put (s_put M 0 0 0) 0 1 0
def set_T (S : sS) (t f u v : Int32) : Int32 := if sl_has S t f = 0 then 1 else if is_w u 20 120 = 0 then 2 else if is_w v 0 9 = 0 then 2 else 0
def set_S (S : sS) (t f u v : Int32) : sS := s_put (s_put (s_put S 3 (sl_k S t f) u) 4 (sl_k S t f) v) 5 (sl_k S t f) (zmin (S 5 (sl_k S t f)) u)
def mov_T (S : sS) (t f x : Int32) : Int32 := if sl_has S t f = 0 then 1 else if is_w x 0 (S 3 (sl_k S t f)) = 0 then 2 else 0
def mov_S (S : sS) (t f x : Int32) : sS := s_put S 5 (sl_k S t f) x
def mov_V (S : sS) (t f x : Int32) : Int32 := x - S 5 (sl_k S t f)
def mov_M (M S : sS) (t f x : Int32) : sS := s_put M 0 1 (M 0 1 + zabs (mov_V S t f x))
def trn_T (S : sS) (t f x : Int32) : Int32 := if sl_has S t f = 0 then 1 else if is_w x (-1) 1 = 0 then 2 else 0
def trn_S (S : sS) (t f x : Int32) : sS := s_put S 6 (sl_k S t f) x
def shr_T (S : sS) (f x : Int32) : Int32 := if sl_has S 0 f = 0 then 1 else if is_w x 0 9 = 0 then 2 else 0
def shr_S (S : sS) (f x : Int32) : sS := s_put S 1 f.toNatClampNeg x
def day_T (i u v x : Int32) : Int32 := if is_w i 0 29 = 0 then 1 else if is_w u 0 60 = 0 then 2 else if is_w v 0 400 = 0 then 2 else if is_w x 0 20 = 0 then 2 else 0
def day_M (M : sS) (i u v x : Int32) : sS := s_put (s_put (s_put M 1 i.toNatClampNeg u) 2 i.toNatClampNeg v) 3 i.toNatClampNeg x
def pla_T (S : sS) (t f x : Int32) : Int32 := if sl_has S t f = 0 then 1 else if is_w x 0 20 = 0 then 2 else if S 7 (sl_k S t f) = 0 then (if S 2 (sl_k S t f) ≤ 40 then 0 else 3) else 3
def pla_S (S : sS) (t f x : Int32) : sS := s_put (s_put S 7 (sl_k S t f) 1) 8 (sl_k S t f) x
def rea_T (S : sS) (t f : Int32) : Int32 := if sl_has S t f = 0 then 1 else if S 7 (sl_k S t f) = 0 then 2 else if 40 ≤ S 8 (sl_k S t f) then 0 else 2
def rea_b (S : sS) (t f : Int32) : Int32 := S 8 (sl_k S t f) * S 9 (sl_k S t f) / 100
def rea_V (S : sS) (t f : Int32) : Int32 := if S 2 (sl_k S t f) = 0 then rea_b S t f + rea_b S t f / 2 else rea_b S t f
def rea_S (S : sS) (t f : Int32) : sS := sl_clear S (sl_at S t f)
def rea_M (M S : sS) (t f : Int32) : sS := s_put M 0 0 (M 0 0 + rea_V S t f)
def pas_T (S : sS) (x : Int32) : Int32 := if is_w x 1 60 = 0 then 1 else if S 0 2 + x ≤ 2000 then 0 else 2
def pas_S (h w : Nat) (M S : sS) (x : Int32) : sS := sl_days h w M S x.toNatClampNeg
def fld_T (S : sS) (t f x : Int32) : Int32 := if sl_has S t f = 0 then 1 else if is_w x 0 11 = 0 then 1 else 0
def cnt_T (x : Int32) : Int32 := if is_w x 0 8 = 0 then 1 else 0
def wea_T (i x : Int32) : Int32 := if is_w i 0 29 = 0 then 1 else if is_w x 0 2 = 0 then 1 else 0
def for_T (S : sS) (i x : Int32) : Int32 := if is_w i 1 20 = 0 then 1 else if is_w x 0 3 = 0 then 2 else if S 0 2 + i ≤ 2000 then 0 else 3
def adv_T (S : sS) (i x : Int32) : Int32 := if is_w i 1 10 = 0 then 1 else if is_w x 0 2 = 0 then 2 else if S 0 2 + i ≤ 2000 then 0 else 3
theorem isw_ok {x a b : Int32} (h : ¬ is_w x a b = 0) : ¬ x < a ∧ ¬ b < x := by
  unfold is_w at h
  by_cases h1 : x < a
  · rw [if_pos h1] at h; exact absurd rfl h
  · rw [if_neg h1] at h
    by_cases h2 : b < x
    · rw [if_pos h2] at h; exact absurd rfl h
    · exact ⟨h1, h2⟩
/-- a number from 0 (or 1) to a small bound -/
theorem isw_n {x a b : Int32} (h : ¬ is_w x a b = 0) (ha : 0 ≤ a.toInt) : x = nI x.toNatClampNeg ∧ (x.toNatClampNeg : Int) ≤ b.toInt ∧ a.toInt ≤ x.toNatClampNeg := by
  obtain ⟨h1, h2⟩ := isw_ok h
  rw [Int32.lt_iff_toInt_lt] at h1 h2
  have h0 : ¬ x < 0 := by
    rw [Int32.lt_iff_toInt_lt]
    show ¬ x.toInt < 0
    omega
  obtain ⟨j, hj, rfl⟩ := nI_of h0
  rw [nI_clamp hj]
  rw [nI_toInt hj] at h1 h2
  exact ⟨rfl, by omega, by omega⟩
theorem isw_in {x b : Int32} {n : Nat} (h : ¬ is_w x 0 b = 0) (hb : b.toInt < n) (hn : n < 2 ^ 31) : vp_in x n := by
  obtain ⟨e, h1, -⟩ := isw_n h (by decide)
  rw [e]
  exact vp_in_nI (by omega) hn
theorem has_in {h w : Nat} {S : sS} (g : geo h w S) {t f : Int32} (hh : ¬ sl_has S t f = 0) : vp_in f 8 := by
  obtain ⟨i, j, -, hj, -, rfl, -⟩ := geo_tf g hh
  obtain ⟨-, -, -, -, -, h8⟩ := g
  exact vp_in_nI (by omega) (by decide)

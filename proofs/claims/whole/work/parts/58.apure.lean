theorem gem_row {h w : Nat} {m : sS} (g : gem h w m) {r : Nat} (hr : r ≠ 1) (f : Nat → Int32) : gem h w (s_row m r f) := ⟨by rw [s_row_ne m (Ne.symm hr)]; exact g.1, by rw [s_row_ne m (Ne.symm hr)]; exact g.2.1, g.2.2⟩
theorem cnt_1n {x : Int32} (h : vp_in x 9) (h3 : ¬ 3 ≤ x) : vp_in x 7 := cnt_1 h (by
  rw [Int32.lt_iff_toInt_lt]
  rw [Int32.le_iff_toInt_le] at h3
  omega)
theorem spr_5 {h w : Nat} {m o : sS} (q : spr h w m) (e : o 5 = m 5) : spr h w o := by
  unfold spr
  rw [e]
  exact q
theorem c12_a {h w : Nat} {m : sS} (g : gem h w m) : ¬ 12 * mi_many m < 0 := by
  have := gem_hw g
  rw [gem_12 g]
  exact nI_pos (by omega)
theorem c12_b {h w : Nat} {m : sS} (g : gem h w m) : (0 : Int32).toNatClampNeg + (12 * mi_many m).toNatClampNeg ≤ 768 := by
  have := gem_hw g
  rw [gem_12 g, nI_clamp (by omega)]
  show 0 + 12 * (h * w) ≤ 768
  omega
/-- the stones of one field tried out: what is best so far stays first -/
def ad_h (h w n : Nat) (k : Int32) (j : Int32) (p : sS × Int32 × Int32 × Int32) : sS × Int32 × Int32 × Int32 :=
  if mi_worthV h w (s_put p.1 3 (12 * k + 3).toNatClampNeg (j * 10)) n ≤ p.2.1 then (mi_worth h w (s_put p.1 3 (12 * k + 3).toNatClampNeg (j * 10)) n, p.2.1, p.2.2.1, p.2.2.2)
  else (mi_worth h w (s_put p.1 3 (12 * k + 3).toNatClampNeg (j * 10)) n, mi_worthV h w (s_put p.1 3 (12 * k + 3).toNatClampNeg (j * 10)) n, k, j * 10)
def ad_k (h w n : Nat) (k : Int32) (p : sS × Int32 × Int32 × Int32) : sS × Int32 × Int32 × Int32 := itr (ad_h h w n k) (x3_rounds (p.1 3 (12 * k + 1).toNatClampNeg)) p
def ad_0 (h w : Nat) (m : sS) (n : Nat) : sS × Int32 × Int32 × Int32 := (mi_worth h w (mi_keep m) n, mi_worthV h w (mi_keep m) n, -1, -1)
def ad_all (h w : Nat) (m : sS) (n : Nat) : sS × Int32 × Int32 × Int32 := itr (ad_k h w n) (h * w) (ad_0 h w m n)
def madv_v (m : sS) (f g x : Int32) : Int32 := if f = -1 then -1 else if x = 0 then f / m 1 1 else if x = 1 then f - f / m 1 1 * m 1 1 else g
def madv_S (h w : Nat) (m : sS) (i x : Int32) : sS := if is_w i 1 10 = 0 then mfail m 1 else if is_w x 0 2 = 0 then mfail m 2 else if m 1 2 + i ≤ 2000 then (ad_all h w m i.toNatClampNeg).1 else mfail m 3
def madv_V (h w : Nat) (m : sS) (i x : Int32) : Int32 := if is_w i 1 10 = 0 then 0 else if is_w x 0 2 = 0 then 0 else if m 1 2 + i ≤ 2000 then madv_v (ad_all h w m i.toNatClampNeg).1 (ad_all h w m i.toNatClampNeg).2.2.1 (ad_all h w m i.toNatClampNeg).2.2.2 x else 0

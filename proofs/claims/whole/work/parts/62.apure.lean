/-! the best move of the reference: what holds between the days tried -/
def bkm (h w : Nat) (f : Nat → Int32) : Prop := ∀ k, k < h * w → ∃ b : Nat, f (12 * k + 1) = nI b ∧ b ≤ 120
def adB (h w y : Nat) (r : Nat → Int32) (m : sS) : Prop := gem h w m ∧ m 1 2 = nI y ∧ spr h w m ∧ m 6 = r ∧ m 5 2 = nI y ∧ bkm h w r
def adI (h w y : Nat) (r : Nat → Int32) (m : sS) : Prop := adB h w y r m ∧ ∀ j, j < 12 * (h * w) → m 3 j = r j
theorem adB_put {h w y : Nat} {r : Nat → Int32} {m : sS} (a : adB h w y r m) (j : Nat) (v : Int32) : adB h w y r (s_put m 3 j v) :=
  ⟨gem_put a.1 (Or.inl (by decide)) v, a.2.1, a.2.2.1, (s_put_ne m (by decide) j v).trans a.2.2.2.1, a.2.2.2.2.1, a.2.2.2.2.2⟩
theorem adI_worth {h w y : Nat} {r : Nat → Int32} {m : sS} (a : adB h w y r m) (n : Nat) : adI h w y r (mi_worth h w m n) := by
  have g1 := gem_days a.1 n
  have s1 : spr h w (mi_days h w m n) := spr_5 a.2.2.1 (mdays_row m n (by decide) (by decide))
  have e5 : mi_worth h w m n 5 = m 5 := by
    unfold mi_worth mi_back mi_b1
    rw [s_row_ne _ (by decide), s_row_ne _ (by decide), mdays_row m n (by decide) (by decide)]
  have e6 : mi_worth h w m n 6 = m 6 := by
    unfold mi_worth mi_back mi_b1
    rw [s_row_ne _ (by decide), s_row_ne _ (by decide), mdays_row m n (by decide) (by decide)]
  refine ⟨⟨gem_back g1 s1, ?_, spr_5 a.2.2.1 e5, e6.trans a.2.2.2.1, (congrFun e5 2).trans a.2.2.2.2.1, a.2.2.2.2.2⟩, fun j hj => ?_⟩
  · unfold mi_worth mi_back mi_b1
    rw [s_row_ne _ (by decide), s_row_same, sb_cpy0 (by decide), mdays_row m n (by decide) (by decide)]
    exact a.2.2.2.2.1
  · have hw := gem_hw a.1
    unfold mi_worth mi_back
    rw [s_row_same, gem_12 (gem_b1 g1 s1), nI_clamp (by omega), sb_cpy0 hj, mdays_row m n (by decide) (by decide), a.2.2.2.1]
theorem adB_keep {h w y : Nat} {m : sS} (g : gem h w m) (hd : m 1 2 = nI y) (hb : bkm h w (m 3)) : adB h w y (mi_keep m 6) (mi_keep m) := by
  have hw := gem_hw g
  refine ⟨gem_keep g, ?_, spr_keep g, rfl, ?_, fun k hk => ?_⟩
  · unfold mi_keep
    rw [s_row_ne _ (by decide), s_row_ne _ (by decide)]
    exact hd
  · unfold mi_keep
    rw [s_row_ne _ (by decide), s_row_same, sb_cpy0 (by decide)]
    exact hd
  · have := hb k hk
    unfold mi_keep
    rw [s_row_same, gem_12 g, nI_clamp (by omega), sb_cpy0 (by omega)]
    exact this
theorem ad_ix {h w k : Nat} (hN : h * w ≤ 64) (hk : k < h * w) : ((12 * nI k) + 1).toNatClampNeg = 12 * k + 1 := by
  have e12 : (12 : Int32) = nI 12 := rfl
  have e1 : (1 : Int32) = nI 1 := rfl
  rw [e12, e1, pk_mul, nI_add, nI_clamp (by omega)]
theorem adI_bank {h w y k : Nat} {r : Nat → Int32} {m o : sS} (a : adI h w y r m) (b : adI h w y r o) (hk : k < h * w) : m 3 ((12 * nI k) + 1).toNatClampNeg = o 3 ((12 * nI k) + 1).toNatClampNeg := by
  rw [ad_ix (gem_hw a.1.1) hk, a.2 _ (by omega), b.2 _ (by omega)]
theorem ad_bk {h w y k : Nat} {r : Nat → Int32} {m : sS} (a : adI h w y r m) (hk : k < h * w) : ∃ b : Nat, m 3 ((12 * nI k) + 1).toNatClampNeg = nI b ∧ b ≤ 120 := by
  rw [ad_ix (gem_hw a.1.1) hk, a.2 _ (by omega)]
  exact a.1.2.2.2.2.2 k hk
theorem gem_w0 {h w : Nat} {m : sS} (g : gem h w m) : m 1 1 ≠ 0 := by
  have h2 := g.2.2.2.2.1
  have h8 := g.2.2.2.2.2
  intro h9
  have e0 : (0 : Int32) = nI 0 := rfl
  rw [g.2.1, e0, nI_eq (by omega) (by decide)] at h9
  omega
theorem ad_hp {h w n : Nat} {k j b f g : Int32} {T : sS} (c : b < mi_worthV h w (s_put T 3 (12 * k + 3).toNatClampNeg (j * 10)) n) : ad_h h w n k j (T, b, f, g) = (mi_worth h w (s_put T 3 (12 * k + 3).toNatClampNeg (j * 10)) n, mi_worthV h w (s_put T 3 (12 * k + 3).toNatClampNeg (j * 10)) n, k, j * 10) := if_neg (Int32.not_le.mpr c)
theorem ad_hn {h w n : Nat} {k j b f g : Int32} {T : sS} (c : ¬ b < mi_worthV h w (s_put T 3 (12 * k + 3).toNatClampNeg (j * 10)) n) : ad_h h w n k j (T, b, f, g) = (mi_worth h w (s_put T 3 (12 * k + 3).toNatClampNeg (j * 10)) n, b, f, g) := if_pos (Int32.not_lt.mp c)

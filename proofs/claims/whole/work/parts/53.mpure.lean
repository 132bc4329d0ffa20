/-! the reference's numbers -/
def gem (h w : Nat) (m : sS) : Prop := m 1 0 = nI h ∧ m 1 1 = nI w ∧ 2 ≤ h ∧ h ≤ 8 ∧ 2 ≤ w ∧ w ≤ 8
theorem gem_hw {h w : Nat} {m : sS} (g : gem h w m) : h * w ≤ 64 := Nat.mul_le_mul g.2.2.2.1 g.2.2.2.2.2
theorem gem_w {h w : Nat} {m : sS} (g : gem h w m) : w ≤ h * w := Nat.le_mul_of_pos_left w (by have := g.2.2.1; omega)
theorem gem_put {h w : Nat} {m : sS} (g : gem h w m) {r j : Nat} (hr : r ≠ 1 ∨ 2 ≤ j) (v : Int32) : gem h w (s_put m r j v) := by
  obtain ⟨h0, h1, h2⟩ := g
  refine ⟨?_, ?_, h2⟩
  · rcases hr with hr | hr
    · rw [s_put_ne m (Ne.symm hr)]; exact h0
    · rw [s_put_col m r (by omega)]; exact h0
  · rcases hr with hr | hr
    · rw [s_put_ne m (Ne.symm hr)]; exact h1
    · rw [s_put_col m r (by omega)]; exact h1
/-- h, w, the day and all but n and fields stay -/
def sam4 (m o : sS) : Prop := o 1 0 = m 1 0 ∧ o 1 1 = m 1 1 ∧ o 1 2 = m 1 2 ∧ ∀ r, r ≠ 1 → r ≠ 3 → o r = m r
theorem sam4_rf (m : sS) : sam4 m m := ⟨rfl, rfl, rfl, fun _ _ _ => rfl⟩
theorem sam4_tr {a b c : sS} (h : sam4 a b) (k : sam4 b c) : sam4 a c := ⟨k.1.trans h.1, k.2.1.trans h.2.1, k.2.2.1.trans h.2.2.1, fun r h1 h3 => (k.2.2.2 r h1 h3).trans (h.2.2.2 r h1 h3)⟩
theorem sam4_3 {a b : sS} (h : sam4 a b) (j : Nat) (v : Int32) : sam4 a (s_put b 3 j v) := sam4_tr h ⟨by rw [s_put_ne b (by decide)], by rw [s_put_ne b (by decide)], by rw [s_put_ne b (by decide)], fun r _ h3 => s_put_ne b h3 _ _⟩
theorem sam4_1 {a b : sS} (h : sam4 a b) {j : Nat} (hj : 3 ≤ j) (v : Int32) : sam4 a (s_put b 1 j v) := sam4_tr h ⟨s_put_col b 1 (by omega) v 1, s_put_col b 1 (by omega) v 1, s_put_col b 1 (by omega) v 1, fun r h1 _ => s_put_ne b h1 _ _⟩
theorem sam4_itr {f : Int32 → sS → sS} (hf : ∀ i T, sam4 T (f i T)) (n : Nat) (m : sS) : sam4 m (itr f n m) := by
  induction n with
  | zero => exact sam4_rf m
  | succ n ih => exact sam4_tr ih (hf _ _)
theorem gem_sam {h w : Nat} {m o : sS} (g : gem h w m) (e : sam4 m o) : gem h w o := ⟨e.1.trans g.1, e.2.1.trans g.2.1, g.2.2⟩
def mi_many (m : sS) : Int32 := m 1 0 * m 1 1
theorem gem_many {h w : Nat} {m : sS} (g : gem h w m) : mi_many m = nI (h * w) := by
  unfold mi_many
  rw [g.1, g.2.1, pk_mul]
theorem gem_12 {h w : Nat} {m : sS} (g : gem h w m) : 12 * mi_many m = nI (12 * (h * w)) := by
  rw [gem_many g]
  exact pk_mul 12 (h * w)
def mi_isField (m : sS) (t f : Int32) : Int32 := if is_w t 0 (m 1 0 - 1) = 0 then 0 else if is_w f 0 (m 1 1 - 1) = 0 then 0 else 1
def mi_at (m : sS) (t f : Int32) : Int32 := 12 * (m 1 1 * t + f)
/-- where a field's numbers begin -/
def frm (x : Int32) : Prop := ∃ k : Nat, k < 64 ∧ x = 12 * nI k
theorem frm_k {k : Nat} (h : k < 64) : frm (12 * nI k) := ⟨k, h, rfl⟩
theorem frm_in {x : Int32} (h : frm x) {j : Nat} (hj : j < 12) : vp_in (x + nI j) 768 := by
  obtain ⟨k, hk, rfl⟩ := h
  have e : (12 : Int32) = nI 12 := rfl
  rw [e, pk_mul, nI_add]
  exact vp_in_nI (by omega) (by decide)
theorem is_has {h w : Nat} {m S : sS} (g : gem h w m) (g2 : geo h w S) (t f : Int32) : mi_isField m t f = sl_has S t f := by
  obtain ⟨g0, g1, h2, h8, w2, w8⟩ := g
  unfold mi_isField sl_has is_w
  rw [g0, g1, g2.1, g2.2.1]
  have e : ∀ a : Nat, 1 ≤ a → nI a - 1 = nI (a - 1) := fun a ha => by
    have e1 : (1 : Int32) = nI 1 := rfl
    rw [e1, pk_sub ha]
  have key : ∀ (x : Int32) (a : Nat), 2 ≤ a → a ≤ 8 → (nI a - 1 < x ↔ nI a ≤ x) := fun x a ha ha2 => by
    rw [e a (by omega), Int32.lt_iff_toInt_lt, Int32.le_iff_toInt_le, nI_toInt (by omega), nI_toInt (by omega)]
    omega
  by_cases a1 : t < 0
  · rw [if_pos a1, if_pos rfl, if_pos a1]
  · rw [if_neg a1, if_neg a1]
    by_cases a2 : nI h ≤ t
    · rw [if_pos ((key t h h2 h8).mpr a2), if_pos rfl, if_pos a2]
    · rw [if_neg (fun q => a2 ((key t h h2 h8).mp q)), if_neg a2, if_neg (by decide)]
      by_cases a3 : f < 0
      · rw [if_pos a3, if_pos rfl, if_pos a3]
      · rw [if_neg a3, if_neg a3]
        by_cases a4 : nI w ≤ f
        · rw [if_pos ((key f w w2 w8).mpr a4), if_pos rfl, if_pos a4]
        · rw [if_neg (fun q => a4 ((key f w w2 w8).mp q)), if_neg a4, if_neg (by decide)]
/-- a slope of the same size -/
def shp (h w : Nat) : sS := fun _ j => if j = 0 then nI h else nI w
theorem geo_shp {h w : Nat} {m : sS} (g : gem h w m) : geo h w (shp h w) := ⟨rfl, rfl, g.2.2⟩
theorem gem_has {h w : Nat} {m : sS} (g : gem h w m) {i j : Nat} (hi : i < h) (hj : j < w) : ¬ mi_isField m (nI i) (nI j) = 0 := by
  rw [is_has g (geo_shp g)]
  exact geo_has (geo_shp g) hi hj
theorem gem_tf {h w : Nat} {m : sS} (g : gem h w m) {t f : Int32} (hh : ¬ mi_isField m t f = 0) : ∃ i j : Nat, i < h ∧ j < w ∧ t = nI i ∧ f = nI j ∧ i * w + j < h * w := by
  rw [is_has g (geo_shp g)] at hh
  obtain ⟨i, j, hi, hj, rfl, rfl, -, hlt⟩ := geo_tf (geo_shp g) hh
  exact ⟨i, j, hi, hj, rfl, rfl, hlt⟩
theorem gem_at {h w : Nat} {m : sS} (g : gem h w m) (i j : Nat) : mi_at m (nI i) (nI j) = 12 * nI (i * w + j) := by
  unfold mi_at
  rw [g.2.1, pk_mul, nI_add, Nat.mul_comm w i]
theorem gem_frm {h w : Nat} {m : sS} (g : gem h w m) {t f : Int32} (hh : ¬ mi_isField m t f = 0) : frm (mi_at m t f) := by
  obtain ⟨i, j, -, -, rfl, rfl, hlt⟩ := gem_tf g hh
  have := gem_hw g
  rw [gem_at g]
  exact frm_k (by omega)
def mi_come (m : sS) (t f x : Int32) : sS := if mi_isField m t f = 0 then s_put m 1 3 (m 1 3 + x) else s_put m 3 (mi_at m t f + 0).toNatClampNeg (m 3 (mi_at m t f + 0).toNatClampNeg + x)
theorem sam4_come (m : sS) (t f x : Int32) : sam4 m (mi_come m t f x) := by
  unfold mi_come
  split
  · exact sam4_1 (sam4_rf m) (by decide) _
  · exact sam4_3 (sam4_rf m) _ _
def mi_set (m : sS) (i x : Int32) : sS := s_put m 3 i.toNatClampNeg x
def mi_out (m : sS) (x : Int32) : Int32 := zmax 0 (zmin 40 (m 3 (x + 0).toNatClampNeg - m 3 (x + 3).toNatClampNeg))
def mi_over (m : sS) (x : Int32) : Int32 := zmax 0 (m 3 (x + 0).toNatClampNeg - m 3 (x + 1).toNatClampNeg)
def mi_flow1 (m : sS) (x : Int32) : sS := s_put (s_put m 3 (x + 0).toNatClampNeg (m 3 (x + 0).toNatClampNeg - mi_out m x)) 3 (x + 10).toNatClampNeg (mi_out m x)
def mi_flow2 (m : sS) (x : Int32) : sS := s_put (s_put m 3 (x + 0).toNatClampNeg (m 3 (x + 0).toNatClampNeg - mi_over m x)) 3 (x + 11).toNatClampNeg (mi_over m x)
def mi_flowA (m : sS) (t f x : Int32) : sS := mi_come (mi_flow1 m x) (t + 1) (f + mi_flow1 m x 3 (x + 4).toNatClampNeg) (mi_out m x)
def mi_flowB (m : sS) (t f x : Int32) : sS := mi_come (mi_come (mi_flow2 m x) t (f - 1) (mi_over m x / 2)) t (f + 1) (mi_over m x - mi_over m x / 2)
def mi_flow (m : sS) (t f : Int32) : sS := mi_flowB (mi_flowA m t f (mi_at m t f)) t f (mi_at m t f)
theorem sam4_flow (m : sS) (t f : Int32) : sam4 m (mi_flow m t f) := by
  unfold mi_flow mi_flowB mi_flowA
  refine sam4_tr ?_ (sam4_come _ _ _ _)
  refine sam4_tr ?_ (sam4_come _ _ _ _)
  unfold mi_flow2
  refine sam4_3 (sam4_3 ?_ _ _) _ _
  refine sam4_tr ?_ (sam4_come _ _ _ _)
  unfold mi_flow1
  exact sam4_3 (sam4_3 (sam4_rf m) _ _) _ _
def mi_fallow (m : sS) (x : Int32) : sS := s_put (s_put (s_put (s_put (s_put m 3 (x + 5).toNatClampNeg 0) 3 (x + 6).toNatClampNeg 0) 3 (x + 7).toNatClampNeg 0) 3 (x + 8).toNatClampNeg 0) 3 (x + 9).toNatClampNeg 0
theorem sam4_fallow (m : sS) (x : Int32) : sam4 m (mi_fallow m x) := sam4_3 (sam4_3 (sam4_3 (sam4_3 (sam4_3 (sam4_rf m) _ _) _ _) _ _) _ _) _ _
def mi_sum (h w : Nat) (m : sS) (x : Int32) : Int32 := itr (fun k a => a + m 3 (12 * k + x).toNatClampNeg) (h * w) 0
def mi_wet (m : sS) (x : Int32) : Int32 := if m 3 (x + 0).toNatClampNeg ≤ zmin 45 (5 + m 3 (x + 6).toNatClampNeg * 2 / 3) then 0 else 1
def mi_dry (m : sS) (x : Int32) : Int32 := if m 3 (x + 0).toNatClampNeg = 0 then 1 else 0
def mi_by (m : sS) (x : Int32) : Int32 := if mi_wet m x = 0 then (if mi_dry m x = 0 then (if is_w (m 3 (x + 0).toNatClampNeg) 5 25 = 0 then 1 else 2) else -3) else -3
def mi_g1 (m : sS) (x : Int32) : sS := s_put m 3 (x + 6).toNatClampNeg (m 3 (x + 6).toNatClampNeg + 1)
def mi_g2 (m : sS) (x a : Int32) : sS := s_put m 3 (x + 8).toNatClampNeg (if a = 0 then 0 else m 3 (x + 8).toNatClampNeg + 1)
def mi_g3 (m : sS) (x a : Int32) : sS := s_put m 3 (x + 9).toNatClampNeg (if a = 0 then 0 else m 3 (x + 9).toNatClampNeg + 1)
def mi_g4 (m : sS) (x a : Int32) : sS := s_put m 3 (x + 7).toNatClampNeg (zmax 0 (zmin 100 (m 3 (x + 7).toNatClampNeg + a)))
def mi_g5 (m : sS) (x : Int32) : sS := mi_g4 (mi_g3 (mi_g2 (mi_g1 m x) x (mi_wet (mi_g1 m x) x)) x (mi_dry (mi_g1 m x) x)) x (mi_by (mi_g1 m x) x)
def mi_die (m : sS) (x : Int32) : sS := s_put (mi_fallow m x) 1 5 (mi_fallow m x 1 5 + 1)
def mi_end (m : sS) (x : Int32) : sS := if 4 ≤ m 3 (x + 8).toNatClampNeg then mi_die m x else if 5 ≤ m 3 (x + 9).toNatClampNeg then mi_die m x else m
def mi_grow (m : sS) (x : Int32) : sS := mi_end (mi_g5 m x) x
theorem sam4_grow (m : sS) (x : Int32) : sam4 m (mi_grow m x) := by
  have h5 : sam4 m (mi_g5 m x) := sam4_3 (sam4_3 (sam4_3 (sam4_3 (sam4_rf m) _ _) _ _) _ _) _ _
  have hd : sam4 m (mi_die (mi_g5 m x) x) := sam4_1 (sam4_tr h5 (sam4_fallow _ x)) (by decide) _
  unfold mi_grow mi_end
  split
  · exact hd
  · split
    · exact hd
    · exact h5
/-- the day's place in the weather -/
def mi_today (m : sS) : Int32 := 3 * (m 1 2 - m 1 2 / 30 * 30)
def mi_shares (w : Nat) (m : sS) : Int32 := itr (fun i x => x + m 2 i.toNatClampNeg) w 0
def mi_rain1 (m : sS) (td a k : Int32) : sS := s_put m 3 (12 * k + 0).toNatClampNeg (m 3 (12 * k + 0).toNatClampNeg + (m 4 td.toNatClampNeg + (if m 1 1 ≤ k then 0 else if a ≤ 0 then 0 else m 4 (td + 1).toNatClampNeg * m 2 k.toNatClampNeg / a)))
def mi_left (m : sS) (td k : Int32) : Int32 := zmax 0 (m 3 (12 * k + 0).toNatClampNeg - m 3 (12 * k + 2).toNatClampNeg - m 4 (td + 2).toNatClampNeg)
def mi_lossA (m : sS) (td k : Int32) : sS := s_put (s_put m 1 3 (m 1 3 + zmax 0 (mi_left m td k - 200))) 3 (12 * k + 0).toNatClampNeg (zmin 200 (mi_left m td k))
def mi_loss1 (m : sS) (td k : Int32) : sS := if mi_lossA m td k 3 (12 * k + 5).toNatClampNeg = 1 then mi_grow (mi_lossA m td k) (12 * k) else mi_lossA m td k
def mi_dayA (h w : Nat) (m : sS) (td : Int32) : sS := itr (fun k T => mi_loss1 T td k) (h * w) (itr (fun t T => itr (fun f U => mi_flow U t f) w T) h (itr (fun k T => mi_rain1 T td (mi_shares w m) k) (h * w) m))
def mi_day (h w : Nat) (m : sS) : sS := mi_dayA h w (s_put m 1 2 (m 1 2 + 1)) (mi_today m)
theorem sam4_rain1 (m : sS) (td a k : Int32) : sam4 m (mi_rain1 m td a k) := sam4_3 (sam4_rf m) _ _
theorem sam4_loss1 (m : sS) (td k : Int32) : sam4 m (mi_loss1 m td k) := by
  have hA : sam4 m (mi_lossA m td k) := sam4_3 (sam4_1 (sam4_rf m) (by decide) _) _ _
  unfold mi_loss1
  split
  · exact sam4_tr hA (sam4_grow _ _)
  · exact hA
theorem sam4_dayA (h w : Nat) (m : sS) (td : Int32) : sam4 m (mi_dayA h w m td) := sam4_tr (sam4_tr (sam4_itr (fun k T => sam4_rain1 T td _ k) _ m) (sam4_itr (fun t T => sam4_itr (fun f U => sam4_flow U t f) w T) h _)) (sam4_itr (fun k T => sam4_loss1 T td k) _ _)
theorem gem_day {h w : Nat} {m : sS} (g : gem h w m) : gem h w (mi_day h w m) := gem_sam (gem_put g (Or.inr (by decide)) _) (sam4_dayA h w _ _)
theorem mday_day {h w d : Nat} {m : sS} (hd : m 1 2 = nI d) : mi_day h w m 1 2 = nI (d + 1) := by
  unfold mi_day
  rw [(sam4_dayA h w _ _).2.2.1, s_put_same]
  simp only [upd, if_true]
  rw [hd, nI_1]
theorem mday_row {h w : Nat} (m : sS) {r : Nat} (h1 : r ≠ 1) (h3 : r ≠ 3) : mi_day h w m r = m r := by
  unfold mi_day
  rw [(sam4_dayA h w _ _).2.2.2 r h1 h3, s_put_ne m h1]
theorem today_in {d : Nat} {m : sS} (hd : m 1 2 = nI d) (h : d < 2 ^ 31) {j : Nat} (hj : j < 3) : vp_in (mi_today m + nI j) 90 := by
  have e : m 1 2 - m 1 2 / 30 * 30 = nI (d % 30) := by
    rw [hd]
    exact pk_rem (d := 30) h (by decide) (by decide)
  have e3 : (3 : Int32) = nI 3 := rfl
  have := Nat.mod_lt d (show 0 < 30 by decide)
  unfold mi_today
  rw [e, e3, pk_mul, nI_add]
  exact vp_in_nI (by omega) (by decide)
theorem today_in0 {d : Nat} {m : sS} (hd : m 1 2 = nI d) (h : d < 2 ^ 31) : vp_in (mi_today m) 90 := by
  have := today_in hd h (j := 0) (by decide)
  rw [nI_0, Int32.add_zero] at this
  exact this
def mi_days (h w : Nat) (m : sS) (n : Nat) : sS := itr (fun _ T => mi_day h w T) n m
theorem gem_days {h w : Nat} {m : sS} (g : gem h w m) (n : Nat) : gem h w (mi_days h w m n) := by
  unfold mi_days
  induction n with
  | zero => exact g
  | succ n ih => exact gem_day ih
theorem mdays_row {h w : Nat} (m : sS) (n : Nat) {r : Nat} (h1 : r ≠ 1) (h3 : r ≠ 3) : mi_days h w m n r = m r := by
  unfold mi_days
  induction n with
  | zero => rfl
  | succ n ih => rw [itr_s, mday_row _ h1 h3, ih]
def mi_keep (m : sS) : sS := s_row (s_row m 5 (va_cpy (m 1) (m 5) 0 0 7)) 6 (va_cpy (m 3) (m 6) 0 0 (12 * mi_many m).toNatClampNeg)
def mi_b1 (m : sS) : sS := s_row m 1 (va_cpy (m 5) (m 1) 0 0 7)
def mi_back (m : sS) : sS := s_row (mi_b1 m) 3 (va_cpy (m 6) (m 3) 0 0 (12 * mi_many (mi_b1 m)).toNatClampNeg)
def spr (h w : Nat) (m : sS) : Prop := m 5 0 = nI h ∧ m 5 1 = nI w
theorem gem_b1 {h w : Nat} {m : sS} (g : gem h w m) (q : spr h w m) : gem h w (mi_b1 m) := by
  refine ⟨?_, ?_, g.2.2⟩
  · unfold mi_b1
    rw [s_row_same, sb_cpy0 (by decide)]
    exact q.1
  · unfold mi_b1
    rw [s_row_same, sb_cpy0 (by decide)]
    exact q.2
theorem gem_back {h w : Nat} {m : sS} (g : gem h w m) (q : spr h w m) : gem h w (mi_back m) := by
  have h1 := gem_b1 g q
  unfold mi_back
  refine ⟨?_, ?_, g.2.2⟩
  · rw [s_row_ne _ (by decide)]; exact h1.1
  · rw [s_row_ne _ (by decide)]; exact h1.2.1
theorem gem_keep {h w : Nat} {m : sS} (g : gem h w m) : gem h w (mi_keep m) := by
  unfold mi_keep
  refine ⟨?_, ?_, g.2.2⟩
  · rw [s_row_ne _ (by decide), s_row_ne _ (by decide)]; exact g.1
  · rw [s_row_ne _ (by decide), s_row_ne _ (by decide)]; exact g.2.1
theorem spr_keep {h w : Nat} {m : sS} (g : gem h w m) : spr h w (mi_keep m) := by
  unfold mi_keep
  refine ⟨?_, ?_⟩
  · rw [s_row_ne _ (by decide), s_row_same, sb_cpy0 (by decide)]; exact g.1
  · rw [s_row_ne _ (by decide), s_row_same, sb_cpy0 (by decide)]; exact g.2.1
def mi_worthV (h w : Nat) (m : sS) (n : Nat) : Int32 := 10000 * mi_sum h w (mi_days h w m n) 5 + mi_sum h w (mi_days h w m n) 7
def mi_worth (h w : Nat) (m : sS) (n : Nat) : sS := mi_back (mi_days h w m n)

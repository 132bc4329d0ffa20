/-! a slope laid anew, the first one; the checksum; the mean depth -/
theorem fill_at {r n : Nat} (x : Int32) (hn : n ≤ 1000) : ∀ k, k ≤ n → ∀ (S : sS) (j : Nat), itr (fun i T => s_put T r i.toNatClampNeg x) k S r j = if j < k then x else S r j := by
  intro k
  induction k with
  | zero => intro _ S j; rw [if_neg (by omega)]; rfl
  | succ k ih =>
    intro hk S j
    rw [itr_s, nI_clamp (by omega), pg, if_pos rfl, ih (by omega)]
    by_cases h : j = k
    · rw [if_pos h, if_pos (by omega)]
    · rw [if_neg h]
      by_cases q : j < k
      · rw [if_pos q, if_pos (by omega)]
      · rw [if_neg q, if_neg (by omega)]
theorem w28 {u : Int32} (h : ¬ is_w u 2 8 = 0) : ∃ n : Nat, u = nI n ∧ 2 ≤ n ∧ n ≤ 8 := by
  obtain ⟨h1, h2⟩ := isw_ok h
  have e1 : (2 : Int32) = nI 2 := rfl
  have e2 : (8 : Int32) = nI 8 := rfl
  have h0 : ¬ u < 0 := by
    intro q
    rw [e1, Int32.lt_iff_toInt_lt, nI_toInt (by decide)] at h1
    rw [Int32.lt_iff_toInt_lt] at q
    have z : (0 : Int32).toInt = 0 := rfl
    omega
  obtain ⟨n, hn, e⟩ := nI_of h0
  rw [e, e2, nI_ltI (by decide) hn] at h2
  rw [e, e1, nI_ltI hn (by decide)] at h1
  exact ⟨n, e, by omega, by omega⟩
theorem clr_row {m : sS} {u v : Int32} {r : Nat} (h1 : r ≠ 1) (h2 : r ≠ 2) (h3 : r ≠ 3) : mclr m u v r = m r := by
  unfold mclr
  rw [itr_row (fun i T => s_row_ne _ h3 _)]
  unfold mcl_2
  rw [itr_row (fun i T => s_put_ne _ h2 _ _), s_put_ne _ h1, s_put_ne _ h1]
  unfold mcl_1
  rw [itr_row (fun i T => s_put_ne _ h1 _ _)]
theorem clr_1 {m : sS} {u v : Int32} {j : Nat} (hj : j < 7) : mclr m u v 1 j = if j = 1 then v else if j = 0 then u else 0 := by
  unfold mclr
  rw [itr_row (r := 1) (fun i T => s_row_ne _ (by decide) _)]
  unfold mcl_2
  rw [itr_row (r := 1) (fun i T => s_put_ne _ (by decide) _ _), pg, if_pos rfl, pg, if_pos rfl]
  unfold mcl_1
  rw [fill_at (n := 7) 0 (by decide) 7 (by decide), if_pos hj]
theorem clr_2 {m : sS} {u v : Int32} {j : Nat} (hj : j < 8) : mclr m u v 2 j = 1 := by
  unfold mclr
  rw [itr_row (r := 2) (fun i T => s_row_ne _ (by decide) _)]
  unfold mcl_2
  rw [fill_at (n := 8) 1 (by decide) 8 (by decide), if_pos hj]
theorem clr_3 {m : sS} {u v : Int32} {c r : Nat} (hc : c < 64) (hr : r < 12) : mclr m u v 3 (12 * c + r) = m12 r := by
  have key : ∀ n, n ≤ 64 → ∀ (S : sS) c, c < n → itr (fun i T => s_row T 3 (va_cpy m12 (T 3) (0 : Int32).toNatClampNeg (12 * i).toNatClampNeg (12 : Int32).toNatClampNeg)) n S 3 (12 * c + r) = m12 r := by
    intro n
    induction n with
    | zero => intro _ S c h; omega
    | succ n ih =>
      intro hn S c hc
      have e12 : (12 * nI n).toNatClampNeg = 12 * n := by rw [show 12 * nI n = nI (12 * n) from pk_mul 12 n, nI_clamp (by omega)]
      rw [itr_s, s_row_same, e12, show (0 : Int32).toNatClampNeg = 0 from rfl, show (12 : Int32).toNatClampNeg = 12 from rfl]
      by_cases q : c = n
      · rw [pk_cpy_in (by omega) (by omega), show 0 + (12 * c + r - 12 * n) = r by omega]
      · rw [pk_cpy_out (by omega)]
        exact ih (by omega) S c (by omega)
  unfold mclr
  exact key 64 (by decide) _ c hc
theorem m12_new {r : Nat} (hr : r < 12) (u v : Int32) (c : Nat) : m12 r = sl_new u v (r + 2) c := by
  rcases (show r = 0 ∨ r = 1 ∨ r = 2 ∨ r = 3 ∨ r = 4 ∨ r = 5 ∨ r = 6 ∨ r = 7 ∨ r = 8 ∨ r = 9 ∨ r = 10 ∨ r = 11 by omega) with rfl | rfl | rfl | rfl | rfl | rfl | rfl | rfl | rfl | rfl | rfl | rfl <;> rfl
theorem inv_new (u v : Int32) : inv (sl_new u v) := ⟨fun c _ => ⟨⟨0, rfl, by decide⟩, ⟨0, rfl, by decide⟩, ⟨0, rfl, by decide⟩, ⟨0, rfl, by decide⟩⟩, fun f _ => ⟨1, rfl, by decide⟩, fun j _ => ⟨60, rfl, by decide⟩⟩
theorem Rl_new {h w : Nat} {M M1 O : sS} (h2 : 2 ≤ h) (h8 : h ≤ 8) (w2 : 2 ≤ w) (w8 : w ≤ 8) (W : wth M O) (hM : ∀ r, r ≠ 0 → M1 r = M r) (m0 : M1 0 0 = 0) (m1 : M1 0 1 = 0) : Rl h w 0 M1 (sl_new (nI h) (nI w)) (mclr O (nI h) (nI w)) := by
  have hN : h * w ≤ 64 := Nat.mul_le_mul h8 w8
  refine ⟨⟨⟨rfl, rfl, h2, h8, w2, w8⟩, ⟨?_, ?_, h2, h8, w2, w8⟩, ?_, ?_, ?_, fun f hf => ?_, fun a ha => ?_, fun c hc r hr => ?_⟩, inv_new _ _, rfl, by decide, ?_, ?_⟩
  · rw [clr_1 (by decide)]; rfl
  · rw [clr_1 (by decide)]; rfl
  · rw [clr_1 (by decide)]; rfl
  · rw [clr_1 (by decide)]; rfl
  · rw [clr_1 (by decide)]; rfl
  · rw [clr_2 hf]; rfl
  · rw [clr_row (by decide) (by decide) (by decide), hM 1 (by decide), hM 2 (by decide), hM 3 (by decide)]; exact W a ha
  · rw [clr_3 (by omega) hr]; exact m12_new hr _ _ c
  · rw [clr_1 (by decide), m0]; rfl
  · rw [clr_1 (by decide), m1]; rfl
theorem lay_ok {h w y : Nat} {M S O : sS} (G : Rl h w y M S O) (z : O 0 0 = 0) (u v : Int32) : ok3 (lay_T u v) (sl_cells (sl_new u v)) (mlay_V u v) (zs (lay_T u v) (lay_M M) M) (zs (lay_T u v) (sl_new u v) S) (mlay_S O u v) := by
  unfold lay_T mlay_V mlay_S
  by_cases c1 : is_w u 2 8 = 0
  · simp only [if_pos c1, zs_1]; exact ok_f G (by decide)
  · by_cases c2 : is_w v 2 8 = 0
    · simp only [if_neg c1, if_pos c2, zs_1]; exact ok_f G (by decide)
    · simp only [if_neg c1, if_neg c2, zs_0]
      obtain ⟨a, rfl, a2, a8⟩ := w28 c1
      obtain ⟨b, rfl, b2, b8⟩ := w28 c2
      refine ok_s ?_ rfl (h := a) (w := b) (y := 0) (Rl_new a2 a8 b2 b8 G.1.2.2.2.2.2.2.1 (fun r hr => ?_) ?_ ?_)
      · rw [clr_row (by decide) (by decide) (by decide)]; exact z
      · unfold lay_M; rw [s_put_ne _ hr, s_put_ne _ hr]
      · unfold lay_M; rw [s_put_col _ _ (by decide), pg, if_pos rfl, if_pos rfl]
      · unfold lay_M; rw [pg, if_pos rfl, if_pos rfl]
theorem we0 : ∀ n, n ≤ 30 → ∀ j, j < n → itr (fun i T => s_put (s_put T 4 ((3 * i) + 1).toNatClampNeg 60) 4 ((3 * i) + 2).toNatClampNeg 3) n (fun _ _ => 0) 4 (3 * j) = 0 ∧ itr (fun i T => s_put (s_put T 4 ((3 * i) + 1).toNatClampNeg 60) 4 ((3 * i) + 2).toNatClampNeg 3) n (fun _ _ => 0) 4 (3 * j + 1) = 60 ∧ itr (fun i T => s_put (s_put T 4 ((3 * i) + 1).toNatClampNeg 60) 4 ((3 * i) + 2).toNatClampNeg 3) n (fun _ _ => 0) 4 (3 * j + 2) = 3 := by
  have hz : ∀ n, n ≤ 30 → ∀ j, itr (fun i T => s_put (s_put T 4 ((3 * i) + 1).toNatClampNeg 60) 4 ((3 * i) + 2).toNatClampNeg 3) n (fun _ _ => 0) 4 (3 * j) = 0 := by
    intro n
    induction n with
    | zero => intro _ _; rfl
    | succ n ih =>
      intro hn j
      have e3 : 3 * nI n = nI (3 * n) := pk_mul 3 n
      have e1 : (1 : Int32) = nI 1 := rfl
      have e2 : (2 : Int32) = nI 2 := rfl
      rw [itr_s, e3, e1, e2, nI_add, nI_add, nI_clamp (by omega), nI_clamp (by omega), s_put_col _ _ (by omega), s_put_col _ _ (by omega)]
      exact ih (by omega) j
  intro n
  induction n with
  | zero => intro _ j h; omega
  | succ n ih =>
    intro hn j hj
    refine ⟨hz _ hn j, ?_⟩
    have e3 : 3 * nI n = nI (3 * n) := pk_mul 3 n
    have e1 : (1 : Int32) = nI 1 := rfl
    have e2 : (2 : Int32) = nI 2 := rfl
    rw [itr_s, e3, e1, e2, nI_add, nI_add, nI_clamp (by omega), nI_clamp (by omega)]
    by_cases q : j = n
    · subst q
      rw [s_put_col _ _ (by omega), pg, if_pos rfl, if_pos rfl, pg, if_pos rfl, if_pos rfl]
      exact ⟨rfl, rfl⟩
    · rw [s_put_col _ _ (by omega), s_put_col _ _ (by omega), s_put_col _ _ (by omega), s_put_col _ _ (by omega)]
      exact (ih (by omega) j (by omega)).2
theorem Rl_first : Rl 4 4 0 cal0 (sl_new 4 4) mst0 := Rl_new (h := 4) (w := 4) (M := cal0) (by decide) (by decide) (by decide) (by decide) (fun j hj => we0 30 (Nat.le_refl 30) j hj) (fun _ _ => rfl) rfl rfl
/-! the checksum -/
theorem itr_flat {α : Type} {f : Int32 → α → α} {g : Int32 → Int32 → α → α} {m N : Nat} (h : ∀ c r, c < N → r < m → ∀ T, f (nI (m * c + r)) T = g (nI c) (nI r) T) : ∀ n, n ≤ N → ∀ S, itr f (m * n) S = itr (fun c T => itr (g c) m T) n S := by
  intro n
  induction n with
  | zero => intro _ _; rfl
  | succ n ih =>
    intro hn S
    have key : ∀ k, k ≤ m → itr f (m * n + k) S = itr (g (nI n)) k (itr f (m * n) S) := by
      intro k
      induction k with
      | zero => intro _; rfl
      | succ k ihk =>
        intro hk
        rw [← Nat.add_assoc, itr_s, ihk (by omega), h n k (by omega) (by omega)]
        rfl
    rw [Nat.mul_succ, key m (Nat.le_refl m), ih (by omega)]
    rfl
theorem digest_ok {h w y : Nat} {M S O : sS} (G : Rl h w y M S O) : md_4 h w O = dg_4 h w M S := by
  have R := G.1
  have hN := rl_hw R
  have hw8 := R.1.2.2.2.2.2
  have q1 : md_1 h w O = dg_1 h w M S := itr_eq (N := 9) (fun i hi T => by rw [cnt_r G hi]) 9 (Nat.le_refl 9) _
  have q2 : md_2 h w O = dg_2 h w M S := by
    unfold md_2 dg_2
    rw [q1]
    exact itr_eq (N := w) (fun i hi T => by rw [nI_clamp (by omega), R.2.2.2.2.2.1 i (by omega)]) w (Nat.le_refl w) _
  have q3 : md_3 h w O = dg_3 h w M S := by
    unfold md_3 dg_3
    rw [q2]
    exact itr_flat (g := fun c i d => d * 31 + (sl_field S c i).toInt64) (m := 12) (N := h * w) (fun c r hc hr T => by rw [nI_clamp (by omega), rl_c R hc hr, fld_r _ _ hr, nI_clamp (by omega)]) (h * w) (Nat.le_refl _) _
  unfold md_4 dg_4
  rw [q3]
  exact itr_flat (g := fun c i d => d * 31 + (cal_num M c i).toInt64) (m := 3) (N := 30) (fun c r hc hr T => by
    have e3 : 3 * nI c = nI (3 * c) := pk_mul 3 c
    rw [← wea_r R.2.2.2.2.2.2.1 hc hr, e3, nI_add]) 30 (Nat.le_refl _) _
theorem depth_ok {h w y : Nat} {M S O : sS} (G : Rl h w y M S O) : mi_sum h w O 0 = sl_sum h w S 2 ∧ mi_many O = sl_cells S := ⟨sum_rl G.1 (r := 0) (by decide) rfl, (gem_many G.1.2.1).trans (geo_cells G.1.1).symm⟩

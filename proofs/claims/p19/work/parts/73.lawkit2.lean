/-! small steps of the law's loops -/
theorem lw_most {N i : Nat} {S : sS} {x v : Int32} (hN : N ≤ 25) (hi : i < N) (hs : ∀ j, j < N → 0 ≤ (S 4 j).toInt ∧ (S 4 j).toInt ≤ 9) (hx : 0 ≤ x.toInt ∧ x.toInt ≤ 20) (hv : v.toInt = yS (fun j => (S 4 j).toInt + x.toInt) i) : (v + (S 4 i + x)).toInt = yS (fun j => (S 4 j).toInt + x.toInt) (i + 1) := by
  have a := yS_0 (g := fun j => (S 4 j).toInt + x.toInt) (n := i) (fun j hj => by have := hs j (by omega); omega)
  have b := yS_b (g := fun j => (S 4 j).toInt + x.toInt) (n := i) (b := 29) (fun j hj => by have := hs j (by omega); omega)
  have c := hs i hi
  have e : (S 4 i + x).toInt = (S 4 i).toInt + x.toInt := yi_add (by omega) (by omega)
  simp only [yS]
  rw [yi_add (by omega) (by omega), e, hv]
theorem lw_al {h w k pl rp i : Nat} {M S : sS} {sv v : Int32} (I : lwE h w k pl rp M S sv) (hi : i < h * w) (hv : v.toInt = yS (fun j => (S 2 j).toInt) i) : (v + S 2 i).toInt = yS (fun j => (S 2 j).toInt) (i + 1) := by
  obtain ⟨⟨⟨g, h5, w5, hday, hst, hsh, hd, -⟩, -⟩, -⟩ := I
  have hN := yB_25 h5 w5
  have a := yS_0 (g := fun j => (S 2 j).toInt) (n := i) (fun j hj => (hd j (by omega)).1)
  have b := yS_b (g := fun j => (S 2 j).toInt) (n := i) (b := 200) (fun j hj => (hd j (by omega)).2)
  have c := hd i hi
  simp only [yS]
  rw [yi_add (by omega) (by omega), hv]
theorem lq_r0 {f w : Nat} (hw : w ≤ 8) (hw2 : 2 ≤ w) (hf : f < w) (c : nI w - 1 ≤ nI f) : ¬ f + 1 < w := by
  rw [y_le, yi_sub (by rw [yn (by omega), y1]; omega) (by rw [yn (by omega), y1]; omega), yn (by omega), yn (by omega), y1] at c
  omega
theorem lq_r1 {f w : Nat} (hw : w ≤ 8) (hw2 : 2 ≤ w) (hf : f < w) (c : ¬ nI w - 1 ≤ nI f) : f + 1 < w := by
  rw [y_le, yi_sub (by rw [yn (by omega), y1]; omega) (by rw [yn (by omega), y1]; omega), yn (by omega), yn (by omega), y1] at c
  omega
theorem lw_2k {k : Nat} (hk : k < 1000) : (2 * (nI k + 1)).toInt = 2 * ((k : Int) + 1) := by
  rw [nI_1, show (2 : Int32) = nI 2 from rfl, pk_mul, yn (by omega)]
  omega

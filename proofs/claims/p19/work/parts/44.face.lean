/-! days by a number that was looked at -/
theorem c_X2_letDaysGoByX (l : Launch) (dC : Nat → ClassId) (dI : Nat → Nat → Nat) (cI : ClassId) (a k : Nat → Nat) (h w d : Nat) (x : Int32) (S M : sS) (hG0 : geo h w S) (hd : S 0 2 = nI d) (hx : x = nI x.toNatClampNeg) (hdn : d + x.toNatClampNeg < 1000000) : zV l yX2_letDaysGoBy wsX2_letDaysGoBy { frames := 4, cells := 0, slots := 0, locals := 92 } (dC, dI) cI [.ref (a 0), .int x, .ref (k 1)] (sW cI a S ++ kW cI k M) (sW cI a (sl_days h w M S x.toNatClampNeg) ++ kW cI k M) := by
  have h9 := c_X2_letDaysGoBy l dC dI cI a k h w d x.toNatClampNeg S M hG0 hd hdn
  rw [← hx] at h9
  exact h9


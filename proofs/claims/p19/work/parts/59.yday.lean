/-! a whole day -/
def yM (M : sS) : Prop := ∀ j, j < 30 → 0 ≤ (M 1 j).toInt ∧ (M 1 j).toInt ≤ 60 ∧ 0 ≤ (M 2 j).toInt ∧ (M 2 j).toInt ≤ 400 ∧ 0 ≤ (M 3 j).toInt ∧ (M 3 j).toInt ≤ 20
def ySt (h w : Nat) (S : sS) : Prop := ∀ j, j < h * w → 0 ≤ (S 3 j).toInt ∧ (S 3 j).toInt ≤ 120 ∧ 0 ≤ (S 5 j).toInt ∧ (S 5 j).toInt ≤ 120 ∧ 0 ≤ (S 4 j).toInt ∧ (S 4 j).toInt ≤ 9
def ySh (w : Nat) (S : sS) : Prop := ∀ f, f < w → 0 ≤ (S 1 f).toInt ∧ (S 1 f).toInt ≤ 9
def yC (h w : Nat) (S : sS) : Int := yS (fun j => (S 7 j).toInt) (h * w)
/-- what holds between two days: k days have gone -/
def yB (h w k : Nat) (S : sS) : Prop :=
  geo h w S ∧ h ≤ 5 ∧ w ≤ 5 ∧ S 0 2 = nI k ∧ ySt h w S ∧ ySh w S ∧ (∀ j, j < h * w → 0 ≤ (S 2 j).toInt ∧ (S 2 j).toInt ≤ 200) ∧ 0 ≤ (S 0 3).toInt ∧ (S 0 3).toInt ≤ 10000 * k ∧
  0 ≤ (S 0 4).toInt ∧ yC h w S + (S 0 4).toInt ≤ 25 ∧ ∀ j, j < h * w → yPre S j (20 + k) (2 * k)
theorem yB_25 {h w : Nat} (h1 : h ≤ 5) (h2 : w ≤ 5) : h * w ≤ 25 := Nat.mul_le_mul h1 h2
theorem yC_0 {h w : Nat} {S : sS} {a k : Int} (hp : ∀ j, j < h * w → yPre S j a k) : ∀ j, j < h * w → 0 ≤ (S 7 j).toInt ∧ (S 7 j).toInt ≤ 1 := by
  intro j hj
  rcases hp j hj with z | z
  · rw [z.1, y0]; omega
  · rw [z.1, y1]; omega
theorem y_lose {h w : Nat} {S : sS} {x : Int32} (hN : h * w ≤ 64) (hd : ∀ j, j < h * w → 0 ≤ (S 2 j).toInt ∧ (S 2 j).toInt ≤ 1000000) (hs : ∀ j, j < h * w → 0 ≤ (S 4 j).toInt ∧ (S 4 j).toInt ≤ 9) (hx : 0 ≤ x.toInt ∧ x.toInt ≤ 20) (hb : 0 ≤ (S 0 3).toInt ∧ (S 0 3).toInt ≤ 1000000) :
    (∀ r j, r ≠ 2 → ¬ (r = 0 ∧ j = 3) → sl_lose h w S x r j = S r j) ∧ (∀ j, j < h * w → 0 ≤ (sl_lose h w S x 2 j).toInt ∧ (sl_lose h w S x 2 j).toInt ≤ 200 ∧ (sl_lose h w S x 2 j).toInt ≤ (S 2 j).toInt) ∧ 0 ≤ (sl_lose h w S x 0 3).toInt ∧
    yT h w (sl_lose h w S x) ≤ yT h w S ∧ yT h w S - yS (fun j => (S 4 j).toInt + x.toInt) (h * w) ≤ yT h w (sl_lose h w S x) := by
  obtain ⟨a1, a2⟩ := y_los S x (h * w) hN
  have hl : ∀ j, j < h * w → (sl_left S j x).toInt = max ((S 2 j).toInt - (S 4 j).toInt - x.toInt) 0 := by
    intro j hj
    obtain ⟨d1, d2⟩ := hd j hj
    obtain ⟨s1, s2⟩ := hs j hj
    have e : (S 2 j - S 4 j).toInt = (S 2 j).toInt - (S 4 j).toInt := yi_sub (by omega) (by omega)
    unfold sl_left
    rw [yi_max, yi_sub (by rw [e]; omega) (by rw [e]; omega), e, y0]
  have hg : ∀ j, j < h * w → (y_gone S x j).toInt = (sl_left S j x).toInt - min (sl_left S j x).toInt 200 := by
    intro j hj
    have q := hl j hj
    obtain ⟨d1, d2⟩ := hd j hj
    obtain ⟨s1, s2⟩ := hs j hj
    unfold y_gone
    rw [yi_sub (by rw [yi_min, y200]; omega) (by rw [yi_min, y200]; omega), yi_min, y200]
  have hz : ∀ j, j < h * w → (sl_lose h w S x 2 j).toInt = min (sl_left S j x).toInt 200 := by
    intro j hj
    show ((itr (fun i T => sl_lose1 T i x) (h * w) S) 2 j).toInt = _
    rw [a1 2 j (by omega), if_pos ⟨rfl, hj⟩, yi_min, y200]
  obtain ⟨b1, b2, b3⟩ := yS_itr (g := y_gone S x) (S 0 3) 1000000 (by omega) ⟨hb.1, by omega⟩ (h * w) hN (fun i hi => by
    have q1 := hg i hi
    have q2 := hl i hi
    obtain ⟨d1, d2⟩ := hd i hi
    obtain ⟨s1, s2⟩ := hs i hi
    omega)
  have hbr : (sl_lose h w S x 0 3).toInt = (S 0 3).toInt + yS (fun j => (y_gone S x j).toInt) (h * w) := by
    show ((itr (fun i T => sl_lose1 T i x) (h * w) S) 0 3).toInt = _
    rw [a2]
    exact b1
  have tot : yT h w (sl_lose h w S x) = yS (fun j => (sl_left S j x).toInt) (h * w) + (S 0 3).toInt := by
    unfold yT
    rw [hbr, yS_c hz, yS_c (g := fun j => (y_gone S x j).toInt) hg]
    have := yS_add (fun j => min (sl_left S j x).toInt 200) (fun j => (sl_left S j x).toInt - min (sl_left S j x).toInt 200) (h * w)
    rw [yS_c (g' := fun j => (sl_left S j x).toInt) (fun i _ => by omega)] at this
    omega
  refine ⟨fun r j q1 q2 => ?_, fun j hj => ?_, by omega, ?_, ?_⟩
  · show (itr (fun i T => sl_lose1 T i x) (h * w) S) r j = _
    rw [a1 r j q2, if_neg (by omega)]
  · rw [hz j hj]
    have := hl j hj
    obtain ⟨d1, d2⟩ := hd j hj
    obtain ⟨s1, s2⟩ := hs j hj
    omega
  · rw [tot]
    unfold yT
    have := yS_le (g := fun j => (sl_left S j x).toInt) (g' := fun j => (S 2 j).toInt) (n := h * w) (fun j hj => by
      have q := hl j hj
      obtain ⟨d1, d2⟩ := hd j hj
      obtain ⟨s1, s2⟩ := hs j hj
      omega)
    omega
  · rw [tot]
    unfold yT
    have q1 := yS_add (fun j => (sl_left S j x).toInt) (fun j => (S 4 j).toInt + x.toInt) (h * w)
    have q2 := yS_le (g := fun j => (S 2 j).toInt) (g' := fun j => (sl_left S j x).toInt + ((S 4 j).toInt + x.toInt)) (n := h * w) (fun j hj => by
      have q := hl j hj
      omega)
    omega
/-- what falls and springs on a day -/
def yInc (w : Nat) (S : sS) (v : Int32) (f : Nat) : Int := (v * S 1 f / sl_shares w S).toInt
def yW (h w : Nat) (S : sS) (r v : Int32) : Int := (h * w : Nat) * r.toInt + if sl_shares w S = 0 then 0 else yS (yInc w S v) w
theorem y_shr {w : Nat} {S : sS} (hw : w ≤ 5) (hs : ySh w S) : (sl_shares w S).toInt = yS (fun f => (S 1 f).toInt) w ∧ 0 ≤ (sl_shares w S).toInt ∧ (sl_shares w S).toInt ≤ 45 := by
  obtain ⟨a1, a2, a3⟩ := yS_itr (g := S 1) 0 9 (by omega) ⟨by rw [y0]; omega, by rw [y0]; omega⟩ w (by omega) hs
  have b := yS_b (g := fun f => (S 1 f).toInt) (n := w) (b := 9) (fun i hi => (hs i hi).2)
  have e : (sl_shares w S).toInt = yS (fun f => (S 1 f).toInt) w := by
    have : sl_shares w S = itr (fun i x => x + S 1 i.toNatClampNeg) w 0 := rfl
    rw [this, a1, y0]
    omega
  refine ⟨e, by omega, by omega⟩
theorem y_inc {w f : Nat} {S : sS} {v : Int32} (hw : w ≤ 5) (hs : ySh w S) (hv : 0 ≤ v.toInt ∧ v.toInt ≤ 400) (h0 : ¬ sl_shares w S = 0) (hf : f < w) : 0 ≤ yInc w S v f ∧ yInc w S v f ≤ 400 := by
  obtain ⟨a1, a2, a3⟩ := y_shr hw hs
  have hp : 0 < (sl_shares w S).toInt := by
    have : (sl_shares w S).toInt ≠ 0 := fun e => h0 (y_ie.mpr e)
    omega
  have hl : (S 1 f).toInt ≤ (sl_shares w S).toInt := by
    rw [a1]
    exact yS_el (g := fun f => (S 1 f).toInt) (fun i hi => (hs i hi).1) hf
  obtain ⟨s1, s2⟩ := hs f hf
  have m0 : 0 ≤ v.toInt * (S 1 f).toInt := Int.mul_nonneg hv.1 s1
  have m1 : v.toInt * (S 1 f).toInt ≤ 400 * 9 := Int.mul_le_mul hv.2 s2 s1 (by omega)
  have m : (v * S 1 f).toInt = v.toInt * (S 1 f).toInt := yi_mul (by omega) (by omega)
  unfold yInc
  rw [yi_div (by rw [m]; exact m0) hp, m]
  refine ⟨Int.ediv_nonneg m0 (by omega), ?_⟩
  have q1 : v.toInt * (S 1 f).toInt ≤ v.toInt * (sl_shares w S).toInt := Int.mul_le_mul_of_nonneg_left hl hv.1
  have q2 := Int.ediv_le_ediv hp q1
  rw [Int.mul_ediv_cancel _ (by omega)] at q2
  omega
theorem y_W {h w : Nat} {S : sS} {r v : Int32} (h5 : h ≤ 5) (w5 : w ≤ 5) (hs : ySh w S) (hr : 0 ≤ r.toInt ∧ r.toInt ≤ 60) (hv : 0 ≤ v.toInt ∧ v.toInt ≤ 400) : 0 ≤ yW h w S r v ∧ yW h w S r v ≤ 3500 := by
  have hN := yB_25 h5 w5
  have m0 : 0 ≤ ((h * w : Nat) : Int) * r.toInt := Int.mul_nonneg (by omega) hr.1
  have m1 : ((h * w : Nat) : Int) * r.toInt ≤ 25 * 60 := Int.mul_le_mul (by omega) hr.2 hr.1 (by omega)
  unfold yW
  by_cases z : sl_shares w S = 0
  · rw [if_pos z]; omega
  · rw [if_neg z]
    have a := yS_0 (g := yInc w S v) (n := w) (fun i hi => (y_inc w5 hs hv z hi).1)
    have b := yS_b (g := yInc w S v) (n := w) (b := 400) (fun i hi => (y_inc w5 hs hv z hi).2)
    omega
/-- rain and spring together -/
theorem y_fall {h w : Nat} {S : sS} {r v : Int32} (g : geo h w S) (h5 : h ≤ 5) (w5 : w ≤ 5) (hs : ySh w S) (hr : 0 ≤ r.toInt ∧ r.toInt ≤ 60) (hv : 0 ≤ v.toInt ∧ v.toInt ≤ 400) (hd : ∀ j, j < h * w → 0 ≤ (S 2 j).toInt ∧ (S 2 j).toInt ≤ 200) :
    (∀ q j, q ≠ 2 → sl_spring w (sl_rain h w S r) v q j = S q j) ∧ (∀ j, j < h * w → 0 ≤ (sl_spring w (sl_rain h w S r) v 2 j).toInt) ∧ yT h w (sl_spring w (sl_rain h w S r) v) = yT h w S + yW h w S r v := by
  have hN := yB_25 h5 w5
  have hwN := geo_w g
  have R : ∀ q j, sl_rain h w S r q j = if q = 2 ∧ j < h * w then S 2 j + r else S q j := y_rain S r (h * w) (by omega)
  have hv1 : ∀ j, j < h * w → (S 2 j + r).toInt = (S 2 j).toInt + r.toInt := fun j hj => by
    have := hd j hj
    exact yi_add (by omega) (by omega)
  have R2 : ∀ j, j < h * w → (sl_rain h w S r 2 j).toInt = (S 2 j).toInt + r.toInt := fun j hj => by rw [R, if_pos ⟨rfl, hj⟩, hv1 j hj]
  have Rt : yT h w (sl_rain h w S r) = yT h w S + (h * w : Nat) * r.toInt := by
    unfold yT
    rw [yS_c R2, R, if_neg (by omega)]
    have := yS_add (fun j => (S 2 j).toInt) (fun _ => r.toInt) (h * w)
    rw [yS_k] at this
    omega
  have Rs : ∀ q j, q ≠ 2 → sl_rain h w S r q j = S q j := fun q j z => by rw [R, if_neg (by omega)]
  have es : sl_shares w (sl_rain h w S r) = sl_shares w S := by
    unfold sl_shares
    have : sl_rain h w S r 1 = S 1 := by funext j; exact Rs 1 j (by decide)
    rw [this]
  unfold sl_spring
  rw [es]
  by_cases z : sl_shares w S = 0
  · rw [if_pos z]
    refine ⟨Rs, fun j hj => ?_, ?_⟩
    · rw [R2 j hj]
      have := hd j hj
      omega
    · rw [Rt]
      unfold yW
      rw [if_pos z]
      omega
  · rw [if_neg z]
    have P : ∀ q j, (itr (fun i T => sl_spring1 T i v (sl_shares w S)) w (sl_rain h w S r)) q j = if q = 2 ∧ j < w then sl_rain h w S r 2 j + v * S 1 j / sl_shares w S else sl_rain h w S r q j := fun q j => by
      rw [y_spr (sl_rain h w S r) v (sl_shares w S) w (by omega) q j, Rs 1 j (by decide)]
    have add : ∀ j, j < w → (sl_rain h w S r 2 j + v * S 1 j / sl_shares w S).toInt = (S 2 j).toInt + r.toInt + yInc w S v j := fun j hj => by
      have q1 := y_inc w5 hs hv z hj
      have q2 := R2 j (by omega)
      have q3 := hd j (by omega)
      have q4 : yInc w S v j = (v * S 1 j / sl_shares w S).toInt := rfl
      rw [yi_add (by omega) (by omega), q2, ← q4]
    refine ⟨fun q j y => ?_, fun j hj => ?_, ?_⟩
    · rw [P, if_neg (by omega)]; exact Rs q j y
    · rw [P]
      by_cases y : j < w
      · rw [if_pos ⟨rfl, y⟩, add j y]
        have q1 := y_inc w5 hs hv z y
        have q3 := hd j hj
        omega
      · rw [if_neg (by omega), R2 j hj]
        have q3 := hd j hj
        omega
    · have key : ∀ n, n ≤ h * w → yS (fun j => ((itr (fun i T => sl_spring1 T i v (sl_shares w S)) w (sl_rain h w S r)) 2 j).toInt) n = yS (fun j => (sl_rain h w S r 2 j).toInt) n + yS (yInc w S v) (min n w) := by
        intro n
        induction n with
        | zero => intro _; simp [yS]
        | succ n ih =>
          intro hn
          simp only [yS]
          rw [ih (by omega), P]
          by_cases y : n < w
          · rw [if_pos ⟨rfl, y⟩, add n y, R2 n (by omega), show min (n + 1) w = min n w + 1 by omega]
            simp only [yS]
            rw [show min n w = n by omega]
            omega
          · rw [if_neg (by omega), show min (n + 1) w = min n w by omega]
            omega
      have q1 := key (h * w) (Nat.le_refl _)
      rw [show min (h * w) w = w by omega] at q1
      have q2 : (itr (fun i T => sl_spring1 T i v (sl_shares w S)) w (sl_rain h w S r)) 0 3 = sl_rain h w S r 0 3 := by rw [P, if_neg (by omega)]
      have q3 : yT h w (itr (fun i T => sl_spring1 T i v (sl_shares w S)) w (sl_rain h w S r)) = yT h w (sl_rain h w S r) + yS (yInc w S v) w := by
        unfold yT
        rw [q1, q2]
        omega
      rw [q3, Rt]
      unfold yW
      rw [if_neg z]
      omega
/-- what the law asks of each field behind a day -/
def yK (h w : Nat) (a k : Int) (S : sS) : Prop :=
  (∀ t f, t < h → f < w → (S 2 (t * w + f)).toInt ≤ (S 3 (t * w + f)).toInt + (if f + 1 < w then (S 13 (t * w + f + 1)).toInt else 0)) ∧
  (∀ j, j < h * w → 0 ≤ (S 12 j).toInt ∧ (S 12 j).toInt ≤ 40 ∧ 0 ≤ (S 13 j).toInt ∧ (S 13 j).toInt ≤ 1000000) ∧ ∀ j, j < h * w → yPost S j a k
set_option maxHeartbeats 1000000 in
theorem y_day {h w k : Nat} {M S : sS} (I : yB h w k S) (hM : yM M) (hk : k ≤ 50) :
    yB h w (k + 1) (sl_day h w M S) ∧ (∀ r j, r = 1 ∨ (3 ≤ r ∧ r ≤ 6) → sl_day h w M S r j = S r j) ∧
    yT h w (sl_day h w M S) ≤ yT h w S + yW h w S (M 1 (sl_date S).toNatClampNeg) (M 2 (sl_date S).toNatClampNeg) ∧
    yT h w S + yW h w S (M 1 (sl_date S).toNatClampNeg) (M 2 (sl_date S).toNatClampNeg) - yS (fun j => (S 4 j).toInt + (M 3 (sl_date S).toNatClampNeg).toInt) (h * w) ≤ yT h w (sl_day h w M S) ∧
    yC h w (sl_day h w M S) + (sl_day h w M S 0 4).toInt = yC h w S + (S 0 4).toInt ∧ yK h w (20 + (k + 1 : Nat)) (2 * (k + 1 : Nat)) (sl_day h w M S) := by
  obtain ⟨g, h5, w5, hday, hst, hsh, hd, hb, hb2, h04, hcr, hpre⟩ := I
  have hN := yB_25 h5 w5
  have hdt : (sl_date S).toNatClampNeg < 30 := vp_lt (date_in hday (by omega)) (by decide)
  obtain ⟨m1, m2, m3, m4, m5, m6⟩ := hM _ hdt
  have gD := geo_day g M
  have dD := day_day (h := h) (w := w) hday M
  unfold sl_day sl_dayA at *
  generalize M 1 (sl_date S).toNatClampNeg = r at *
  generalize M 2 (sl_date S).toNatClampNeg = v at *
  generalize M 3 (sl_date S).toNatClampNeg = u at *
  have e0 : ∀ q j, ¬ (q = 0 ∧ j = 2) → s_put S 0 2 (S 0 2 + 1) q j = S q j := fun q j z => by
    rw [pg]
    split
    · split
      · omega
      · rfl
    · rfl
  have g0 : geo h w (s_put S 0 2 (S 0 2 + 1)) := geo_put g (Or.inr (by decide)) _
  generalize s_put S 0 2 (S 0 2 + 1) = S0 at *
  have sh0 : ySh w S0 := fun f hf => by rw [e0 1 f (by omega)]; exact hsh f hf
  obtain ⟨a1, a2, a3⟩ := y_fall g0 h5 w5 sh0 ⟨m1, m2⟩ ⟨m3, m4⟩ (fun j hj => by rw [e0 2 j (by omega)]; exact hd j hj)
  have gA := geo_sam (geo_sam g0 (sam_rain h w S0 r)) (sam_spring w _ v)
  generalize sl_spring w (sl_rain h w S0 r) v = A at *
  have t0 : yT h w S0 = yT h w S := yT_c (fun j _ => e0 2 j (by omega)) (e0 0 3 (by omega))
  have es : sl_shares w S0 = sl_shares w S := by
    unfold sl_shares
    have : S0 1 = S 1 := by funext j; exact e0 1 j (by omega)
    rw [this]
  have eW : yW h w S0 r v = yW h w S r v := by
    unfold yW
    rw [es, yS_c (g := yInc w S0 v) (g' := yInc w S v) (fun i _ => by unfold yInc; rw [es, e0 1 i (by omega)])]
  rw [t0, eW] at a3
  have hW := y_W h5 w5 hsh ⟨m1, m2⟩ ⟨m3, m4⟩
  have hTS : yT h w S ≤ 5000 + 10000 * k := by
    have := yS_b (g := fun j => (S 2 j).toInt) (n := h * w) (b := 200) (fun j hj => (hd j hj).2)
    unfold yT
    omega
  have Ast : ∀ q j, q ≠ 2 → ¬ (q = 0 ∧ j = 2) → A q j = S q j := fun q j z1 z2 => by rw [a1 q j z1, e0 q j z2]
  have F := y_flow gA a2 (by rw [Ast 0 3 (by decide) (by omega)]; exact hb) (fun j hj => by
    rw [Ast 3 j (by decide) (by omega), Ast 5 j (by decide) (by omega)]
    have := hst j hj
    omega) (by omega)
  obtain ⟨gF, f1, f2, f3, f4, f5⟩ := F
  generalize sl_flowAll h w A = B at *
  have Bst : ∀ q j, q ≠ 2 → q ≠ 12 → q ≠ 13 → ¬ (q = 0 ∧ j = 2) → ¬ (q = 0 ∧ j = 3) → B q j = S q j := fun q j z1 z2 z3 z4 z5 => by rw [f1 q j z1 z2 z3 z5, Ast q j z1 z4]
  have bB := y_ble (h := h) (w := w) f2
  obtain ⟨l1, l2, l3, l4, l5⟩ := y_lose (h := h) (w := w) (S := B) (x := u) (by omega) (fun j hj => ⟨f2 j hj, by have := y_dle f2 f3 hj; omega⟩) (fun j hj => by
    rw [Bst 4 j (by decide) (by decide) (by decide) (by omega) (by omega)]
    have := hst j hj
    omega) ⟨m5, m6⟩ ⟨f3, by omega⟩
  rw [yS_c (g' := fun j => (S 4 j).toInt + u.toInt) (fun j _ => by rw [Bst 4 j (by decide) (by decide) (by decide) (by omega) (by omega)])] at l5
  generalize sl_lose h w B u = C at *
  have Cst : ∀ q j, q ≠ 2 → q ≠ 12 → q ≠ 13 → ¬ (q = 0 ∧ j = 2) → ¬ (q = 0 ∧ j = 3) → C q j = S q j := fun q j z1 z2 z3 z4 z5 => by rw [l1 q j z1 z5, Bst q j z1 z2 z3 z4 z5]
  have C04 : C 0 4 = S 0 4 := Cst 0 4 (by decide) (by decide) (by decide) (by omega) (by omega)
  have hc0 := yS_0 (g := fun j => (S 7 j).toInt) (n := h * w) (fun j hj => (yC_0 hpre j hj).1)
  have R := y_rice (h := h) (w := w) (S := C) (a := 20 + k) (k := 2 * k) (by omega) (by omega) (fun j hj => (l2 j hj).1) (fun j hj => yPre_c (fun q z1 z2 => Cst q j (by omega) (by omega) (by omega) (by omega) (by omega)) (hpre j hj)) (by
    rw [C04]
    unfold yC at hcr
    omega) ⟨by omega, by omega⟩ (h * w) (Nat.le_refl _)
  obtain ⟨r1, r2, r3, r4, r5, r6⟩ := R
  have eR : sl_rice h w C = itr (fun i T => sl_rice1 T i) (h * w) C := rfl
  rw [← eR] at r1 r2 r3 r4 r5 r6
  generalize sl_rice h w C = E at *
  have Est : ∀ q j, q ≠ 2 → q < 7 → ¬ (q = 0 ∧ j = 2) → ¬ (q = 0 ∧ j = 3) → ¬ (q = 0 ∧ j = 4) → E q j = S q j := fun q j z1 z2 z3 z4 z5 => by rw [r1 q j (by omega) z5, Cst q j z1 (by omega) (by omega) z3 z4]
  have E2 : ∀ j, E 2 j = C 2 j := fun j => r1 2 j (by omega) (by omega)
  have E03 : E 0 3 = C 0 3 := r1 0 3 (by omega) (by omega)
  have tE : yT h w E = yT h w C := yT_c (fun j _ => E2 j) E03
  have cC : yS (fun j => (C 7 j).toInt) (h * w) = yC h w S := yS_c (fun j _ => by rw [Cst 7 j (by decide) (by decide) (by decide) (by omega) (by omega)])
  rw [cC, C04] at r4
  rw [C04] at r5
  have post : ∀ j, j < h * w → yPost E j (20 + (k + 1 : Nat)) (2 * (k + 1 : Nat)) := fun j hj => by
    have := r3 j hj
    rw [show (20 + ((k + 1 : Nat) : Int)) = 20 + (k : Int) + 1 by omega, show (2 * ((k + 1 : Nat) : Int)) = 2 * (k : Int) + 2 by omega]
    exact this
  have bC := y_ble (h := h) (w := w) (S := C) (fun j hj => (l2 j hj).1)
  refine ⟨⟨gD, h5, w5, dD, fun j hj => ?_, fun f hf => ?_, fun j hj => ?_, by rw [E03]; exact l3, by rw [E03]; omega, by omega, ?_, fun j hj => yPost_pre (post j hj)⟩, fun q j z => ?_, by omega, by omega, r4, fun t f ht hf => ?_, fun j hj => ?_, post⟩
  · rw [Est 3 j (by decide) (by decide) (by omega) (by omega) (by omega), Est 4 j (by decide) (by decide) (by omega) (by omega) (by omega), Est 5 j (by decide) (by decide) (by omega) (by omega) (by omega)]
    exact hst j hj
  · rw [Est 1 f (by decide) (by decide) (by omega) (by omega) (by omega)]
    exact hsh f hf
  · rw [E2]
    exact ⟨(l2 j hj).1, (l2 j hj).2.1⟩
  · show yC h w E + (E 0 4).toInt ≤ 25
    unfold yC at hcr ⊢
    rw [r4]
    exact hcr
  · exact Est q j (by omega) (by omega) (by omega) (by omega) (by omega)
  · have hi := y_idx (h := h) ht hf
    have o := (f5 t f ht hf hi).1
    have e13 : ∀ c, E 13 c = B 13 c := fun c => by rw [r1 13 c (by omega) (by omega), l1 13 c (by decide) (by omega)]
    have e3 : E 3 (t * w + f) = B 3 (t * w + f) := by rw [r1 3 _ (by omega) (by omega), l1 3 _ (by decide) (by omega)]
    rw [E2, e3, e13]
    have l := (l2 _ hi).2.2
    by_cases z : f + 1 < w
    · have hi2 := y_idx (h := h) ht z
      rw [if_pos z]
      rw [if_pos ⟨z, by omega⟩] at o
      omega
    · rw [if_neg z]
      rw [if_neg (by omega)] at o
      omega
  · obtain ⟨t, f, ht, hf, rfl⟩ := y_div hj (by obtain ⟨-, -, -, -, q, -⟩ := g; omega)
    obtain ⟨-, o2, o3, o4⟩ := f5 t f ht hf hj
    rw [r1 12 _ (by omega) (by omega), l1 12 _ (by decide) (by omega), r1 13 _ (by omega) (by omega), l1 13 _ (by decide) (by omega)]
    exact ⟨o2, o3, o4⟩

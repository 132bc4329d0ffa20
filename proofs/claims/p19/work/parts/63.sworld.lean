/-! the law's own picture of a slope: its cells -/
theorem z_rotP {D : va_G} {cl : List vw_C} {H : Heap} {x : Nat × va_E} {W9 : va_W} (h : va_P D cl ([x] ++ W9) H) : va_P D cl (W9 ++ [x]) H := z_Pap (z_Pr h) (z_Pl h)
theorem z_rotP' {D : va_G} {cl : List vw_C} {H : Heap} {x : Nat × va_E} {W9 : va_W} (h : va_P D cl (W9 ++ [x]) H) : va_P D cl ([x] ++ W9) H := z_Pap (z_Pr h) (z_Pl h)
theorem z_rotD {A : Nat → Prop} {x : Nat × va_E} {W9 : va_W} (h : va_D A ([x] ++ W9)) : va_D A (W9 ++ [x]) := z_Dsw (X := []) (Y := [x]) (Z := W9) h
theorem z_rotD' {A : Nat → Prop} {x : Nat × va_E} {W9 : va_W} (h : va_D A (W9 ++ [x])) : va_D A ([x] ++ W9) := z_Dsw (X := []) (Y := W9) (Z := [x]) h
/-- row t of the fields, as far as they are made: all rows ahead of t0, and j0 places of t0's -/
def smR (cR : ClassId) (w : Nat) (c : Nat → Nat) (t0 j0 : Nat) : Nat → va_E := fun t => za_q cR w (fun j => if (t < t0 ∧ j < w) ∨ (t = t0 ∧ j < j0) then some (c (t * w + j)) else none)
def smF (cI : ClassId) (G : Nat → Nat → Int32) : Nat → va_E := fun i => za_i cI 12 (G i)
def smD (cI : ClassId) (K : Nat → Nat → Int32) : Nat → va_E := fun d => za_i cI 3 (K d)
theorem smF_up (cI : ClassId) (G : Nat → Nat → Int32) (i : Nat) (g : Nat → Int32) : va_up (smF cI G) i (za_i cI 12 g) = smF cI (va_up G i g) := by
  funext j
  by_cases h : j = i
  · subst h
    rw [va_up_self]
    unfold smF
    rw [va_up_self]
  · rw [va_up_ne _ _ h]
    unfold smF
    rw [va_up_ne _ _ h]
theorem smD_up (cI : ClassId) (G : Nat → Nat → Int32) (i : Nat) (g : Nat → Int32) : va_up (smD cI G) i (za_i cI 3 g) = smD cI (va_up G i g) := by
  funext j
  by_cases h : j = i
  · subst h
    rw [va_up_self]
    unfold smD
    rw [va_up_self]
  · rw [va_up_ne _ _ h]
    unfold smD
    rw [va_up_ne _ _ h]
theorem sd_push (X : va_W) (n : Nat) (c : Nat → Nat) (cI : ClassId) (K : Nat → Nat → Int32) (q : Nat) (g : Nat → Int32) : X ++ rg n c (smD cI K) ++ [(q, za_i cI 3 g)] = X ++ rg (n + 1) (va_up c n q) (smD cI (va_up K n g)) := by
  rw [List.append_assoc, rg_push, smD_up]
theorem sf_push (X : va_W) (n : Nat) (c : Nat → Nat) (cI : ClassId) (G : Nat → Nat → Int32) (q : Nat) (g : Nat → Int32) : X ++ rg n c (smF cI G) ++ [(q, za_i cI 12 g)] = X ++ rg (n + 1) (va_up c n q) (smF cI (va_up G n g)) := by
  rw [List.append_assoc, rg_push, smF_up]
/-- a field's cell laid into its row -/
theorem smR_put {cR : ClassId} {h w : Nat} {r c : Nat → Nat} {t0 j0 q : Nat} (hj : j0 < w) : rg h r (va_up (smR cR w c t0 j0) t0 (za_q cR w (va_up (fun j => if (t0 < t0 ∧ j < w) ∨ (t0 = t0 ∧ j < j0) then some (c (t0 * w + j)) else none) j0 (some q)))) = rg h r (smR cR w (va_up c (t0 * w + j0) q) t0 (j0 + 1)) := by
  refine rg_cong (fun t ht => ⟨rfl, ?_⟩)
  by_cases e : t = t0
  · subst e
    rw [va_up_self]
    unfold smR
    congr 6
    funext j
    by_cases e2 : j = j0
    · subst e2
      have p2 : (t < t ∧ j < w) ∨ (t = t ∧ j < j + 1) := Or.inr ⟨rfl, by omega⟩
      rw [va_up_self, if_pos p2, va_up_self]
    · rw [va_up_ne _ _ e2]
      by_cases e3 : j < j0
      · have p1 : (t < t ∧ j < w) ∨ (t = t ∧ j < j0) := Or.inr ⟨rfl, e3⟩
        have p2 : (t < t ∧ j < w) ∨ (t = t ∧ j < j0 + 1) := Or.inr ⟨rfl, by omega⟩
        rw [if_pos p1, if_pos p2, va_up_ne _ _ (by omega)]
      · have p1 : ¬ ((t < t ∧ j < w) ∨ (t = t ∧ j < j0)) := by omega
        have p2 : ¬ ((t < t ∧ j < w) ∨ (t = t ∧ j < j0 + 1)) := by omega
        rw [if_neg p1, if_neg p2]
  · rw [va_up_ne _ _ e]
    unfold smR
    congr 6
    funext j
    by_cases e3 : t < t0 ∧ j < w
    · have p1 : (t < t0 ∧ j < w) ∨ (t = t0 ∧ j < j0) := Or.inl e3
      have p2 : (t < t0 ∧ j < w) ∨ (t = t0 ∧ j < j0 + 1) := Or.inl e3
      rw [if_pos p1, if_pos p2, va_up_ne _ _ (fun z => e (y_inj z e3.2 hj).1)]
    · have p1 : ¬ ((t < t0 ∧ j < w) ∨ (t = t0 ∧ j < j0)) := by omega
      have p2 : ¬ ((t < t0 ∧ j < w) ∨ (t = t0 ∧ j < j0 + 1)) := by omega
      rw [if_neg p1, if_neg p2]
theorem smR_row {cR : ClassId} {h w : Nat} {r c : Nat → Nat} {t0 : Nat} : rg h r (smR cR w c t0 w) = rg h r (smR cR w c (t0 + 1) 0) := by
  refine rg_cong (fun t ht => ⟨rfl, ?_⟩)
  unfold smR
  congr 6
  funext j
  by_cases e : t < t0 + 1 ∧ j < w
  · have p1 : (t < t0 ∧ j < w) ∨ (t = t0 ∧ j < w) := by omega
    have p2 : (t < t0 + 1 ∧ j < w) ∨ (t = t0 + 1 ∧ j < 0) := Or.inl e
    rw [if_pos p1, if_pos p2]
  · have p1 : ¬ ((t < t0 ∧ j < w) ∨ (t = t0 ∧ j < w)) := by omega
    have p2 : ¬ ((t < t0 + 1 ∧ j < w) ∨ (t = t0 + 1 ∧ j < 0)) := by omega
    rw [if_neg p1, if_neg p2]
theorem smR_0 {cR : ClassId} {h w : Nat} {r c : Nat → Nat} : rg h r (fun _ => za_q cR w (fun _ => none)) = rg h r (smR cR w c 0 0) := by
  refine rg_cong (fun t ht => ⟨rfl, ?_⟩)
  unfold smR
  congr 6
  funext j
  rw [if_neg (by omega)]
/-- the four cells: the object, its calendar, its fields, its shares -/
abbrev smX (cI cR cF : ClassId) (q q1 q2 q3 h w : Nat) (mv : Int32) (sh : Nat → Int32) (cf : Nat → Option Nat) (r : Nat → Nat) : va_W :=
  [(q, .inr (4, [.int (nI h), .int (nI w), .int 0, .ref q3, .ref q1, .ref q2, .int 0, .int 0, .int 0, .int mv])), (q2, za_q cR 30 cf), (q3, za_q cF h (fun j => if j < h then some (r j) else none)), (q1, za_i cI w sh)]

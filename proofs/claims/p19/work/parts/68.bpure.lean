/-! what the building of a slope leaves in the class, and in the law's own picture -/
theorem rg_split {n i : Nat} (c : Nat → Nat) (e : Nat → va_E) (h : i < n) : rg n c e = rg i c e ++ [(c i, e i)] ++ rg (n - (i + 1)) (fun j => c (i + 1 + j)) (fun j => e (i + 1 + j)) := by
  apply List.ext_getElem?
  intro j
  by_cases h1 : j < i
  · rw [List.append_assoc, List.getElem?_append_left (by rw [rg_len]; exact h1), rg_at _ _ h1, rg_at _ _ (by omega)]
  · by_cases h2 : j = i
    · subst h2
      rw [rg_at _ _ h, List.getElem?_append_left (by rw [List.length_append, rg_len]; simp), List.getElem?_append_right (by rw [rg_len]; omega), rg_len, Nat.sub_self]
      rfl
    · by_cases h3 : j < n
      · rw [rg_at _ _ h3, List.getElem?_append_right (by rw [List.length_append, rg_len, List.length_singleton]; omega), List.length_append, rg_len, List.length_singleton, rg_at _ _ (by omega)]
        rw [show i + 1 + (j - (i + 1)) = j by omega]
      · rw [List.getElem?_eq_none (by rw [rg_len]; omega), List.getElem?_eq_none (by simp only [List.length_append, rg_len, List.length_singleton]; omega)]
/-- one field's cell taken out of its row of cells, to the front -/
theorem sf_outP {D : va_G} {cl : List vw_C} {H : Heap} {X Y : va_W} {n i : Nat} {c : Nat → Nat} {cI : ClassId} {G : Nat → Nat → Int32} (h : i < n) (hP : va_P D cl (X ++ rg n c (smF cI G) ++ Y) H) : va_P D cl ([(c i, za_i cI 12 (G i))] ++ X ++ rg i c (smF cI G) ++ rg (n - (i + 1)) (fun j => c (i + 1 + j)) (fun j => smF cI G (i + 1 + j)) ++ Y) H := by
  rw [rg_split c (smF cI G) h] at hP
  have h1 := z_Pl (z_Pl hP)
  have h2 := z_Pr (z_Pl hP)
  exact z_Pap (z_Pap (z_Pap (z_Pap (z_Pr (z_Pl h2)) h1) (z_Pl (z_Pl h2))) (z_Pr h2)) (z_Pr hP)
theorem sf_inP {D : va_G} {cl : List vw_C} {H : Heap} {X Y : va_W} {n i : Nat} {c : Nat → Nat} {cI : ClassId} {G : Nat → Nat → Int32} (h : i < n) (g : Nat → Int32) (hP : va_P D cl ([(c i, za_i cI 12 g)] ++ X ++ rg i c (smF cI G) ++ rg (n - (i + 1)) (fun j => c (i + 1 + j)) (fun j => smF cI G (i + 1 + j)) ++ Y) H) : va_P D cl (X ++ rg n c (smF cI (va_up G i g)) ++ Y) H := by
  have e1 : rg i c (smF cI (va_up G i g)) = rg i c (smF cI G) := rg_cong (fun j hj => ⟨rfl, by unfold smF; rw [va_up_ne _ _ (by omega)]⟩)
  have e2 : rg (n - (i + 1)) (fun j => c (i + 1 + j)) (fun j => smF cI (va_up G i g) (i + 1 + j)) = rg (n - (i + 1)) (fun j => c (i + 1 + j)) (fun j => smF cI G (i + 1 + j)) := rg_cong (fun j hj => ⟨rfl, by unfold smF; rw [va_up_ne _ _ (by omega)]⟩)
  have e3 : smF cI (va_up G i g) i = za_i cI 12 g := by unfold smF; rw [va_up_self]
  rw [rg_split c (smF cI (va_up G i g)) h, e1, e2, e3]
  have h1 := z_Pl (z_Pl hP)
  exact z_Pap (z_Pap (z_Pr (z_Pl h1)) (z_Pap (z_Pap (z_Pr h1) (z_Pl (z_Pl h1))) (z_Pr (z_Pl hP)))) (z_Pr hP)
theorem sf_outD {A : Nat → Prop} {X Y : va_W} {n i : Nat} {c : Nat → Nat} {cI : ClassId} {G : Nat → Nat → Int32} (h : i < n) (hD : va_D A (X ++ rg n c (smF cI G) ++ Y)) : va_D A ([(c i, za_i cI 12 (G i))] ++ X ++ rg i c (smF cI G) ++ rg (n - (i + 1)) (fun j => c (i + 1 + j)) (fun j => smF cI G (i + 1 + j)) ++ Y) := by
  rw [rg_split c (smF cI G) h] at hD
  have h1 : va_D A ([] ++ (X ++ rg i c (smF cI G)) ++ ([(c i, za_i cI 12 (G i))] ++ (rg (n - (i + 1)) (fun j => c (i + 1 + j)) (fun j => smF cI G (i + 1 + j)) ++ Y))) := by
    simp only [List.append_assoc, List.nil_append] at hD ⊢
    exact hD
  have h2 := z_Dsw h1
  have h3 : va_D A ([(c i, za_i cI 12 (G i))] ++ (rg (n - (i + 1)) (fun j => c (i + 1 + j)) (fun j => smF cI G (i + 1 + j)) ++ Y) ++ (X ++ rg i c (smF cI G))) := by
    simp only [List.append_assoc, List.nil_append] at h2 ⊢
    exact h2
  have h4 := z_Dsw h3
  simp only [List.append_assoc] at h4 ⊢
  exact h4
theorem sf_inD {A : Nat → Prop} {X Y : va_W} {n i : Nat} {c : Nat → Nat} {cI : ClassId} {G : Nat → Nat → Int32} (h : i < n) (g : Nat → Int32) (hD : va_D A ([(c i, za_i cI 12 g)] ++ X ++ rg i c (smF cI G) ++ rg (n - (i + 1)) (fun j => c (i + 1 + j)) (fun j => smF cI G (i + 1 + j)) ++ Y)) : va_D A (X ++ rg n c (smF cI (va_up G i g)) ++ Y) := by
  have e1 : rg i c (smF cI (va_up G i g)) = rg i c (smF cI G) := rg_cong (fun j hj => ⟨rfl, by unfold smF; rw [va_up_ne _ _ (by omega)]⟩)
  have e2 : rg (n - (i + 1)) (fun j => c (i + 1 + j)) (fun j => smF cI (va_up G i g) (i + 1 + j)) = rg (n - (i + 1)) (fun j => c (i + 1 + j)) (fun j => smF cI G (i + 1 + j)) := rg_cong (fun j hj => ⟨rfl, by unfold smF; rw [va_up_ne _ _ (by omega)]⟩)
  have e3 : smF cI (va_up G i g) i = za_i cI 12 g := by unfold smF; rw [va_up_self]
  rw [rg_split c (smF cI (va_up G i g)) h, e1, e2, e3]
  have h3 : va_D A ([(c i, za_i cI 12 g)] ++ (X ++ rg i c (smF cI G)) ++ (rg (n - (i + 1)) (fun j => c (i + 1 + j)) (fun j => smF cI G (i + 1 + j)) ++ Y)) := by
    simp only [List.append_assoc] at hD ⊢
    exact hD
  have h4 := z_Dsw h3
  have h5 : va_D A ([] ++ ([(c i, za_i cI 12 g)] ++ (rg (n - (i + 1)) (fun j => c (i + 1 + j)) (fun j => smF cI G (i + 1 + j)) ++ Y)) ++ (X ++ rg i c (smF cI G))) := by
    simp only [List.append_assoc, List.nil_append] at h4 ⊢
    exact h4
  have h6 := z_Dsw h5
  simp only [List.append_assoc, List.nil_append] at h6 ⊢
  exact h6
/-! numbers -/
theorem bk_w {a : Nat} (lo hi : Nat) (h1 : lo ≤ a) (h2 : a ≤ hi) (h3 : hi < 2147483648) : ¬ is_w (nI a) (nI lo) (nI hi) = 0 := by
  unfold is_w
  rw [if_neg (by rw [y_lt, yn (by omega), yn (by omega)]; omega), if_neg (by rw [y_lt, yn (by omega), yn (by omega)]; omega)]
  decide
theorem bk_lay {h w : Nat} (h1 : 2 ≤ h) (h2 : h ≤ 5) (w1 : 2 ≤ w) (w2 : w ≤ 5) : lay_T (nI h) (nI w) = 0 := by
  unfold lay_T
  rw [if_neg (show ¬ is_w (nI h) 2 8 = 0 from bk_w 2 8 h1 (by omega) (by decide)), if_neg (show ¬ is_w (nI w) 2 8 = 0 from bk_w 2 8 w1 (by omega) (by decide))]
theorem bk_day {i u v x : Nat} (hi : i < 30) (hu : u ≤ 60) (hv : v ≤ 400) (hx : x ≤ 20) : day_T (nI i) (nI u) (nI v) (nI x) = 0 := by
  unfold day_T
  rw [if_neg (show ¬ is_w (nI i) 0 29 = 0 from bk_w 0 29 (by omega) (by omega) (by decide)), if_neg (show ¬ is_w (nI u) 0 60 = 0 from bk_w 0 60 (by omega) hu (by decide)), if_neg (show ¬ is_w (nI v) 0 400 = 0 from bk_w 0 400 (by omega) hv (by decide)), if_neg (show ¬ is_w (nI x) 0 20 = 0 from bk_w 0 20 (by omega) hx (by decide))]
theorem bk_shr {h w f x : Nat} {S : sS} (g : geo h w S) (hf : f < w) (hx : x ≤ 9) : shr_T S (nI f) (nI x) = 0 := by
  unfold shr_T
  rw [if_neg (show ¬ sl_has S 0 (nI f) = 0 from geo_has g (i := 0) (by obtain ⟨-, -, q, -⟩ := g; omega) hf), if_neg (show ¬ is_w (nI x) 0 9 = 0 from bk_w 0 9 (by omega) hx (by decide))]
theorem bl_at {h w t f : Nat} {S : sS} (g : geo h w S) (ht : t < h) (hf : f < w) : sl_k S (nI t) (nI f) = t * w + f := by
  have hN := geo_hw g
  have hk := y_idx (h := h) ht hf
  unfold sl_k sl_at
  rw [g.2.1, pk_mul, nI_add, nI_clamp (by omega)]
theorem bk_set {h w t f u v : Nat} {S : sS} (g : geo h w S) (ht : t < h) (hf : f < w) (hu : 20 ≤ u ∧ u ≤ 120) (hv : v ≤ 9) : set_T S (nI t) (nI f) (nI u) (nI v) = 0 := by
  unfold set_T
  rw [if_neg (geo_has g ht hf), if_neg (show ¬ is_w (nI u) 20 120 = 0 from bk_w 20 120 hu.1 hu.2 (by decide)), if_neg (show ¬ is_w (nI v) 0 9 = 0 from bk_w 0 9 (by omega) hv (by decide))]
theorem bk_trn {h w t f x : Nat} {S : sS} (g : geo h w S) (ht : t < h) (hf : f < w) (hx : x < 3) : trn_T S (nI t) (nI f) (nI x - 1) = 0 := by
  have e : (nI x - 1).toInt = (x : Int) - 1 := by rw [yi_sub (by rw [yn (by omega), y1]; omega) (by rw [yn (by omega), y1]; omega), yn (by omega), y1]
  have hw : ¬ is_w (nI x - 1) (-1) 1 = 0 := by
    unfold is_w
    rw [if_neg (by rw [y_lt, e]; show ¬ _ < (-1 : Int); omega), if_neg (by rw [y_lt, e, y1]; omega)]
    decide
  unfold trn_T
  rw [if_neg (geo_has g ht hf), if_neg hw]
theorem bk_mov {h w t f x b : Nat} {S : sS} (g : geo h w S) (ht : t < h) (hf : f < w) (hb : S 3 (t * w + f) = nI b) (hx : x ≤ b) (hb2 : b ≤ 120) : mov_T S (nI t) (nI f) (nI x) = 0 := by
  unfold mov_T
  rw [if_neg (geo_has g ht hf), bl_at g ht hf, hb, if_neg (show ¬ is_w (nI x) 0 (nI b) = 0 from bk_w 0 b (by omega) hx (by omega))]
theorem bk_pla {h w t f x : Nat} {S : sS} (g : geo h w S) (ht : t < h) (hf : f < w) (h7 : S 7 (t * w + f) = 0) (h2 : S 2 (t * w + f) = 0) (hx : x ≤ 20) : pla_T S (nI t) (nI f) (nI x) = 0 := by
  unfold pla_T
  rw [if_neg (geo_has g ht hf), if_neg (show ¬ is_w (nI x) 0 20 = 0 from bk_w 0 20 (by omega) hx (by decide)), bl_at g ht hf, if_pos h7, h2, if_pos (by decide)]
/-! the days of the weather -/
def bdD (i : Nat) (M : sS) (cf : Nat → Option Nat) (c1 : Nat → Nat) (K : Nat → Nat → Int32) : Prop :=
  yM M ∧ (∀ d, i ≤ d → M 2 d = 60) ∧ ∀ d, d < i → cf d = some (c1 (30 + d)) ∧ K (30 + d) 0 = M 1 d ∧ K (30 + d) 1 = M 2 d ∧ K (30 + d) 2 = M 3 d
theorem bdD_s {i u v x q : Nat} {M : sS} {cf : Nat → Option Nat} {c1 : Nat → Nat} {K : Nat → Nat → Int32} {g : Nat → Int32} (h : bdD i M cf c1 K) (hi : i < 30) (hu : u ≤ 60) (hv : v ≤ 400) (hx : x ≤ 20) (g0 : g 0 = nI u) (g1 : g 1 = nI v) (g2 : g 2 = nI x) : bdD (i + 1) (day_M M (nI i) (nI u) (nI v) (nI x)) (va_up cf i (some q)) (va_up c1 (30 + i) q) (va_up K (30 + i) g) := by
  obtain ⟨a1, a2, a3⟩ := h
  have e : ∀ r j, day_M M (nI i) (nI u) (nI v) (nI x) r j = if r = 3 ∧ j = i then nI x else if r = 2 ∧ j = i then nI v else if r = 1 ∧ j = i then nI u else M r j := by
    intro r j
    unfold day_M
    rw [nI_clamp (by omega), pc, pc, pc]
  refine ⟨fun d hd => ?_, fun d hd => ?_, fun d hd => ?_⟩
  · rw [e, e, e]
    by_cases z : d = i
    · subst z
      rw [if_neg (by omega), if_neg (by omega), if_pos (by omega), if_neg (by omega), if_pos (by omega), if_pos (by omega), yn (by omega), yn (by omega), yn (by omega)]
      omega
    · rw [if_neg (by omega), if_neg (by omega), if_neg (by omega), if_neg (by omega), if_neg (by omega), if_neg (by omega), if_neg (by omega), if_neg (by omega), if_neg (by omega)]
      exact a1 d hd
  · rw [e, if_neg (by omega), if_neg (by omega), if_neg (by omega)]
    exact a2 d (by omega)
  · rw [e, e, e]
    by_cases z : d = i
    · subst z
      rw [va_up_self, va_up_self, va_up_self, if_neg (by omega), if_neg (by omega), if_pos (by omega), if_neg (by omega), if_pos (by omega), if_pos (by omega)]
      exact ⟨rfl, g0, g1, g2⟩
    · rw [va_up_ne _ _ z, va_up_ne _ _ (by omega), va_up_ne _ _ (by omega), if_neg (by omega), if_neg (by omega), if_neg (by omega), if_neg (by omega), if_neg (by omega), if_neg (by omega), if_neg (by omega), if_neg (by omega), if_neg (by omega)]
      exact a3 d (by omega)
theorem bdD_0 (cf : Nat → Option Nat) (c1 : Nat → Nat) (K : Nat → Nat → Int32) : bdD 0 (lay_M cal0) cf c1 K := by
  have e1 : ∀ j, lay_M cal0 1 j = 0 := fun j => by unfold lay_M; rw [s_put_ne _ (by decide), s_put_ne _ (by decide)]; rfl
  have e2 : ∀ j, lay_M cal0 2 j = 60 := fun j => by unfold lay_M; rw [s_put_ne _ (by decide), s_put_ne _ (by decide)]; rfl
  have e3 : ∀ j, lay_M cal0 3 j = 3 := fun j => by unfold lay_M; rw [s_put_ne _ (by decide), s_put_ne _ (by decide)]; rfl
  refine ⟨fun d _ => ?_, fun d _ => e2 d, fun d hd => absurd hd (Nat.not_lt_zero _)⟩
  rw [e1, e2, e3]
  decide
theorem bdD_c {M M' : sS} {cf : Nat → Option Nat} {c1 : Nat → Nat} {K : Nat → Nat → Int32} (h : bdD 30 M cf c1 K) (e : ∀ r j, r ≠ 0 → M' r j = M r j) : bdD 30 M' cf c1 K := by
  obtain ⟨a1, a2, a3⟩ := h
  refine ⟨fun d hd => ?_, fun d hd => ?_, fun d hd => ?_⟩
  · rw [e 1 d (by decide), e 2 d (by decide), e 3 d (by decide)]; exact a1 d hd
  · rw [e 2 d (by decide)]; exact a2 d hd
  · rw [e 1 d (by decide), e 2 d (by decide), e 3 d (by decide)]; exact a3 d hd
/-! the shares -/
def bdS (i : Nat) (S : sS) (sh : Nat → Int32) : Prop := (∀ f, i ≤ f → S 1 f = 1) ∧ ∀ f, f < i → sh f = S 1 f ∧ 0 ≤ (S 1 f).toInt ∧ (S 1 f).toInt ≤ 9
theorem bdS_s {i x : Nat} {S : sS} {sh : Nat → Int32} (h : bdS i S sh) (hi : i < 100) (hx : x ≤ 9) : bdS (i + 1) (shr_S S (nI i) (nI x)) (upd sh (nI i).toNatClampNeg (nI x)) := by
  unfold shr_S
  rw [nI_clamp (by omega)]
  refine ⟨fun f hf => ?_, fun f hf => ?_⟩
  · rw [pc, if_neg (by omega)]; exact h.1 f (by omega)
  · rw [pc]
    by_cases z : f = i
    · rw [if_pos ⟨rfl, z⟩, yn (by omega)]
      exact ⟨if_pos z, by omega, by omega⟩
    · rw [if_neg (fun y => z y.2)]
      obtain ⟨b1, b2⟩ := h.2 f (by omega)
      exact ⟨(if_neg z).trans b1, b2⟩
/-! the fields -/
def bdF (h w p : Nat) (S : sS) (G : Nat → Nat → Int32) : Prop :=
  geo h w S ∧ (∀ j, S 0 (j + 2) = 0) ∧ (∀ j, S 2 j = 0) ∧ (∀ j, S 9 j = 0 ∧ S 10 j = 0 ∧ S 11 j = 0) ∧ (∀ j, p ≤ j → S 3 j = 60 ∧ S 5 j = 30 ∧ S 6 j = 0 ∧ S 7 j = 0 ∧ S 8 j = 0) ∧
  ySt h w S ∧ (∀ j, (S 7 j = 0 ∧ S 8 j = 0) ∨ (S 7 j = 1 ∧ 0 ≤ (S 8 j).toInt ∧ (S 8 j).toInt ≤ 20)) ∧ ∀ j, j < h * w → G j 5 = S 7 j
theorem bdF_0 {h w : Nat} {G : Nat → Nat → Int32} (h1 : 2 ≤ h) (h2 : h ≤ 5) (w1 : 2 ≤ w) (w2 : w ≤ 5) (hG : ∀ i, i < h * w → G i 5 = 0) : bdF h w 0 (sl_new (nI h) (nI w)) G :=
  ⟨⟨rfl, rfl, h1, by omega, w1, by omega⟩, fun _ => rfl, fun _ => rfl, fun _ => ⟨rfl, rfl, rfl⟩, fun _ _ => ⟨rfl, rfl, rfl, rfl, rfl⟩, fun _ _ => by
    show 0 ≤ (60 : Int32).toInt ∧ (60 : Int32).toInt ≤ 120 ∧ 0 ≤ (30 : Int32).toInt ∧ (30 : Int32).toInt ≤ 120 ∧ 0 ≤ (2 : Int32).toInt ∧ (2 : Int32).toInt ≤ 9
    decide, fun _ => Or.inl ⟨rfl, rfl⟩, hG⟩
theorem bdF_shr {h w p f : Nat} {S : sS} {G : Nat → Nat → Int32} (I : bdF h w p S G) (x : Int32) : bdF h w p (shr_S S (nI f) x) G := by
  have e : ∀ r j, r ≠ 1 → shr_S S (nI f) x r j = S r j := fun r j z => by unfold shr_S; rw [pc, if_neg (fun y => z y.1)]
  obtain ⟨a1, a2, a3, a4, a5, a6, a7, a8⟩ := I
  refine ⟨geo_put a1 (Or.inl (by decide)) _, fun j => ?_, fun j => ?_, fun j => ?_, fun j hj => ?_, fun j hj => ?_, fun j => ?_, fun j hj => ?_⟩
  · rw [e 0 _ (by decide)]; exact a2 j
  · rw [e 2 _ (by decide)]; exact a3 j
  · rw [e 9 _ (by decide), e 10 _ (by decide), e 11 _ (by decide)]; exact a4 j
  · rw [e 3 _ (by decide), e 5 _ (by decide), e 6 _ (by decide), e 7 _ (by decide), e 8 _ (by decide)]; exact a5 j hj
  · rw [e 3 _ (by decide), e 5 _ (by decide), e 4 _ (by decide)]; exact a6 j hj
  · rw [e 7 _ (by decide), e 8 _ (by decide)]; exact a7 j
  · rw [e 7 _ (by decide)]; exact a8 j hj
/-- what a field's own calls may change -/
theorem bdF_go {h w t f : Nat} {S S' : sS} {G : Nat → Nat → Int32} {g : Nat → Int32} (I : bdF h w (t * w + f) S G) (g' : geo h w S') (e : ∀ r j, r ≠ 3 → r ≠ 4 → r ≠ 5 → r ≠ 6 → r ≠ 7 → r ≠ 8 → S' r j = S r j) (e2 : ∀ r j, j ≠ t * w + f → S' r j = S r j)
    (b3 : 0 ≤ (S' 3 (t * w + f)).toInt ∧ (S' 3 (t * w + f)).toInt ≤ 120 ∧ 0 ≤ (S' 5 (t * w + f)).toInt ∧ (S' 5 (t * w + f)).toInt ≤ 120 ∧ 0 ≤ (S' 4 (t * w + f)).toInt ∧ (S' 4 (t * w + f)).toInt ≤ 9)
    (b7 : (S' 7 (t * w + f) = 0 ∧ S' 8 (t * w + f) = 0) ∨ (S' 7 (t * w + f) = 1 ∧ 0 ≤ (S' 8 (t * w + f)).toInt ∧ (S' 8 (t * w + f)).toInt ≤ 20)) (hg : g 5 = S' 7 (t * w + f)) : bdF h w (t * w + (f + 1)) S' (va_up G (t * w + f) g) := by
  obtain ⟨a1, a2, a3, a4, a5, a6, a7, a8⟩ := I
  refine ⟨g', fun j => ?_, fun j => ?_, fun j => ?_, fun j hj => ?_, fun j hj => ?_, fun j => ?_, fun j hj => ?_⟩
  · rw [e 0 _ (by decide) (by decide) (by decide) (by decide) (by decide) (by decide)]; exact a2 j
  · rw [e 2 _ (by decide) (by decide) (by decide) (by decide) (by decide) (by decide)]; exact a3 j
  · rw [e 9 _ (by decide) (by decide) (by decide) (by decide) (by decide) (by decide), e 10 _ (by decide) (by decide) (by decide) (by decide) (by decide) (by decide), e 11 _ (by decide) (by decide) (by decide) (by decide) (by decide) (by decide)]; exact a4 j
  · rw [e2 3 j (by omega), e2 5 j (by omega), e2 6 j (by omega), e2 7 j (by omega), e2 8 j (by omega)]; exact a5 j (by omega)
  · by_cases z : j = t * w + f
    · rw [z]; exact b3
    · rw [e2 3 j z, e2 5 j z, e2 4 j z]; exact a6 j hj
  · by_cases z : j = t * w + f
    · rw [z]; exact b7
    · rw [e2 7 j z, e2 8 j z]; exact a7 j
  · by_cases z : j = t * w + f
    · rw [z, va_up_self]; exact hg
    · rw [va_up_ne _ _ z, e2 7 j z]; exact a8 j hj
theorem y20 {j : Nat} (h : j < 1000) : (nI (20 + j)).toInt = 20 + (j : Int) := by
  rw [yn (by omega)]
  omega
theorem bst_rows {h w t f u v : Nat} {x : Int32} {S : sS} (g : geo h w S) (ht : t < h) (hf : f < w) : geo h w (set_S S (nI t) (nI f) (nI u) (nI v)) ∧ geo h w (trn_S (set_S S (nI t) (nI f) (nI u) (nI v)) (nI t) (nI f) x) ∧ ∀ r j, trn_S (set_S S (nI t) (nI f) (nI u) (nI v)) (nI t) (nI f) x r j = if r = 6 ∧ j = t * w + f then x else if r = 5 ∧ j = t * w + f then zmin (S 5 (t * w + f)) (nI u) else if r = 4 ∧ j = t * w + f then nI v else if r = 3 ∧ j = t * w + f then nI u else S r j := by
  have g1 : geo h w (set_S S (nI t) (nI f) (nI u) (nI v)) := geo_put (geo_put (geo_put g (Or.inl (by decide)) _) (Or.inl (by decide)) _) (Or.inl (by decide)) _
  refine ⟨g1, geo_put g1 (Or.inl (by decide)) _, fun r j => ?_⟩
  unfold trn_S
  rw [bl_at g1 ht hf]
  unfold set_S
  rw [bl_at g ht hf, pc, pc, pc, pc]
theorem bst_set {h w t f u v : Nat} {S : sS} (g : geo h w S) (ht : t < h) (hf : f < w) : ∀ r j, set_S S (nI t) (nI f) (nI u) (nI v) r j = if r = 5 ∧ j = t * w + f then zmin (S 5 (t * w + f)) (nI u) else if r = 4 ∧ j = t * w + f then nI v else if r = 3 ∧ j = t * w + f then nI u else S r j := by
  intro r j
  unfold set_S
  rw [bl_at g ht hf, pc, pc, pc]
theorem bdF_1 {h w t f j1 j2 : Nat} {x : Int32} {S : sS} {G : Nat → Nat → Int32} {g : Nat → Int32} (I : bdF h w (t * w + f) S G) (ht : t < h) (hf : f < w) (h1 : j1 ≤ 100) (h2 : j2 ≤ 9) (hg : g 5 = G (t * w + f) 5) :
    bdF h w (t * w + (f + 1)) (trn_S (set_S S (nI t) (nI f) (nI (20 + j1)) (nI j2)) (nI t) (nI f) x) (va_up G (t * w + f) g) := by
  obtain ⟨q1, q2, q3⟩ := bst_rows (u := 20 + j1) (v := j2) (x := x) I.1 ht hf
  obtain ⟨c3, c5, c6, c7, c8⟩ := I.2.2.2.2.1 _ (Nat.le_refl _)
  have hk := y_idx (h := h) ht hf
  refine bdF_go I q2 (fun r j z1 z2 z3 z4 z5 z6 => ?_) (fun r j z => ?_) ?_ (Or.inl ⟨?_, ?_⟩) ?_
  · rw [q3, if_neg (by omega), if_neg (by omega), if_neg (by omega), if_neg (by omega)]
  · rw [q3, if_neg (by omega), if_neg (by omega), if_neg (by omega), if_neg (by omega)]
  · rw [q3 3, q3 5, q3 4, if_neg (by omega), if_neg (by omega), if_neg (by omega), if_pos ⟨rfl, rfl⟩, if_neg (by omega), if_pos ⟨rfl, rfl⟩, if_neg (by omega), if_neg (by omega), if_pos ⟨rfl, rfl⟩, yi_min, c5, y20 (by omega), yn (by omega)]
    have : (30 : Int32).toInt = 30 := rfl
    omega
  · rw [q3, if_neg (by omega), if_neg (by omega), if_neg (by omega), if_neg (by omega)]; exact c7
  · rw [q3, if_neg (by omega), if_neg (by omega), if_neg (by omega), if_neg (by omega)]; exact c8
  · rw [hg, I.2.2.2.2.2.2.2 _ hk, q3, if_neg (by omega), if_neg (by omega), if_neg (by omega), if_neg (by omega)]
theorem bmv_rows {h w t f j5 : Nat} {S : sS} (g : geo h w S) (ht : t < h) (hf : f < w) : geo h w (mov_S S (nI t) (nI f) (nI j5)) ∧ ∀ r j, mov_S S (nI t) (nI f) (nI j5) r j = if r = 5 ∧ j = t * w + f then nI j5 else S r j := by
  refine ⟨geo_put g (Or.inl (by decide)) _, fun r j => ?_⟩
  unfold mov_S
  rw [bl_at g ht hf, pc]
theorem bdF_2 {h w t f j1 j2 j5 : Nat} {x : Int32} {S : sS} {G : Nat → Nat → Int32} {g : Nat → Int32} (I : bdF h w (t * w + f) S G) (ht : t < h) (hf : f < w) (h1 : j1 ≤ 100) (h2 : j2 ≤ 9) (h5 : j5 ≤ 120) (hg : g 5 = G (t * w + f) 5) :
    bdF h w (t * w + (f + 1)) (mov_S (trn_S (set_S S (nI t) (nI f) (nI (20 + j1)) (nI j2)) (nI t) (nI f) x) (nI t) (nI f) (nI j5)) (va_up G (t * w + f) g) := by
  obtain ⟨q1, q2, q3⟩ := bst_rows (u := 20 + j1) (v := j2) (x := x) I.1 ht hf
  obtain ⟨q4, q5⟩ := bmv_rows (j5 := j5) q2 ht hf
  obtain ⟨c3, c5, c6, c7, c8⟩ := I.2.2.2.2.1 _ (Nat.le_refl _)
  have hk := y_idx (h := h) ht hf
  refine bdF_go I q4 (fun r j z1 z2 z3 z4 z5 z6 => ?_) (fun r j z => ?_) ?_ (Or.inl ⟨?_, ?_⟩) ?_
  · rw [q5, if_neg (by omega), q3, if_neg (by omega), if_neg (by omega), if_neg (by omega), if_neg (by omega)]
  · rw [q5, if_neg (by omega), q3, if_neg (by omega), if_neg (by omega), if_neg (by omega), if_neg (by omega)]
  · rw [q5 3, q5 5, q5 4, if_neg (by omega), if_pos ⟨rfl, rfl⟩, if_neg (by omega), q3 3, q3 4, if_neg (by omega), if_neg (by omega), if_neg (by omega), if_pos ⟨rfl, rfl⟩, if_neg (by omega), if_neg (by omega), if_pos ⟨rfl, rfl⟩, y20 (by omega), yn (by omega), yn (by omega)]
    omega
  · rw [q5, if_neg (by omega), q3, if_neg (by omega), if_neg (by omega), if_neg (by omega), if_neg (by omega)]; exact c7
  · rw [q5, if_neg (by omega), q3, if_neg (by omega), if_neg (by omega), if_neg (by omega), if_neg (by omega)]; exact c8
  · rw [hg, I.2.2.2.2.2.2.2 _ hk, q5, if_neg (by omega), q3, if_neg (by omega), if_neg (by omega), if_neg (by omega), if_neg (by omega)]
theorem bpl_rows {h w t f j6 : Nat} {S : sS} (g : geo h w S) (ht : t < h) (hf : f < w) : geo h w (pla_S S (nI t) (nI f) (nI j6)) ∧ ∀ r j, pla_S S (nI t) (nI f) (nI j6) r j = if r = 8 ∧ j = t * w + f then nI j6 else if r = 7 ∧ j = t * w + f then 1 else S r j := by
  refine ⟨geo_put (geo_put g (Or.inl (by decide)) _) (Or.inl (by decide)) _, fun r j => ?_⟩
  unfold pla_S
  rw [bl_at g ht hf, pc, pc]
theorem bdF_3 {h w t f j1 j2 j5 j6 : Nat} {x : Int32} {S : sS} {G : Nat → Nat → Int32} {g : Nat → Int32} (I : bdF h w (t * w + f) S G) (ht : t < h) (hf : f < w) (h1 : j1 ≤ 100) (h2 : j2 ≤ 9) (h5 : j5 ≤ 120) (h6 : j6 ≤ 20) (hg : g 5 = 1) :
    bdF h w (t * w + (f + 1)) (pla_S (mov_S (trn_S (set_S S (nI t) (nI f) (nI (20 + j1)) (nI j2)) (nI t) (nI f) x) (nI t) (nI f) (nI j5)) (nI t) (nI f) (nI j6)) (va_up G (t * w + f) g) := by
  obtain ⟨q1, q2, q3⟩ := bst_rows (u := 20 + j1) (v := j2) (x := x) I.1 ht hf
  obtain ⟨q4, q5⟩ := bmv_rows (j5 := j5) q2 ht hf
  obtain ⟨q6, q7⟩ := bpl_rows (j6 := j6) q4 ht hf
  refine bdF_go I q6 (fun r j z1 z2 z3 z4 z5 z6 => ?_) (fun r j z => ?_) ?_ (Or.inr ⟨?_, ?_⟩) ?_
  · rw [q7, if_neg (by omega), if_neg (by omega), q5, if_neg (by omega), q3, if_neg (by omega), if_neg (by omega), if_neg (by omega), if_neg (by omega)]
  · rw [q7, if_neg (by omega), if_neg (by omega), q5, if_neg (by omega), q3, if_neg (by omega), if_neg (by omega), if_neg (by omega), if_neg (by omega)]
  · rw [q7 3, q7 5, q7 4, if_neg (by omega), if_neg (by omega), if_neg (by omega), if_neg (by omega), if_neg (by omega), if_neg (by omega), q5 3, q5 5, q5 4, if_neg (by omega), if_pos ⟨rfl, rfl⟩, if_neg (by omega), q3 3, q3 4, if_neg (by omega), if_neg (by omega), if_neg (by omega), if_pos ⟨rfl, rfl⟩, if_neg (by omega), if_neg (by omega), if_pos ⟨rfl, rfl⟩, y20 (by omega), yn (by omega), yn (by omega)]
    omega
  · rw [q7, if_neg (by omega), if_pos ⟨rfl, rfl⟩]
  · rw [q7, if_pos ⟨rfl, rfl⟩, yn (by omega)]; omega
  · rw [q7, if_neg (by omega), if_pos ⟨rfl, rfl⟩]; exact hg
/-- what a slope that is built has: the first of forty days begins -/
theorem bdF_end {h w : Nat} {S : sS} {G : Nat → Nat → Int32} {sh : Nat → Int32} (I : bdF h w (h * w) S G) (h5 : h ≤ 5) (w5 : w ≤ 5) (hs : ∀ f, f < w → sh f = S 1 f ∧ 0 ≤ (S 1 f).toInt ∧ (S 1 f).toInt ≤ 9) : yB h w 0 S := by
  obtain ⟨a1, a2, a3, a4, a5, a6, a7, a8⟩ := I
  have hN := yB_25 h5 w5
  have hp : ∀ j, j < h * w → yPre S j (20 + (0 : Nat)) (2 * (0 : Nat)) := fun j hj => by
    obtain ⟨b9, b10, b11⟩ := a4 j
    rcases a7 j with ⟨z1, z2⟩ | ⟨z1, z2, z3⟩
    · exact Or.inl ⟨z1, z2, b9, b10, b11⟩
    · refine Or.inr ⟨z1, z2, ?_, ?_⟩
      · omega
      · rw [b9, b10, b11, y0]; omega
  have b3 := a2 1
  have b4 := a2 2
  refine ⟨a1, h5, w5, a2 0, a6, fun f hf => (hs f hf).2, fun j _ => by rw [a3 j, y0]; omega, by rw [b3, y0]; omega, by rw [b3, y0]; omega, by rw [b4, y0]; omega, ?_, hp⟩
  have := yS_b (g := fun j => (S 7 j).toInt) (n := h * w) (b := 1) (fun j hj => (yC_0 hp j hj).2)
  unfold yC
  rw [b4, y0]
  omega
/-! what the law keeps of its own picture -/
def bdZ (cI cR : ClassId) (h w : Nat) (M S : sS) (qs : Nat) (Z9 : va_W) : Prop := ∃ (q1 q2 q3 : Nat) (sh : Nat → Int32) (cf : Nat → Option Nat), Z9[0]? = some (qs, .inr (4, [.int (nI h), .int (nI w), .int 0, .ref q3, .ref q1, .ref q2, .int 0, .int 0, .int 0, .int (M 0 1)])) ∧ Z9[1]? = some (q2, za_q cR 30 cf) ∧ Z9[3]? = some (q1, za_i cI w sh) ∧
  (∀ f, f < w → sh f = S 1 f) ∧ ∀ d, d < 30 → ∃ (a p : Nat) (g : Nat → Int32), cf d = some a ∧ Z9[p]? = some (a, za_i cI 3 g) ∧ g 0 = M 1 d ∧ g 1 = M 2 d ∧ g 2 = M 3 d
def bdR (k b t : Nat → Nat) (B T : sS) (cI cR : ClassId) (ra : Nat) (w1 : va_W) : Prop := ∃ (h w : Nat) (M S : sS) (Z9 : va_W), w1 = oW k b t M ++ kW cI k M ++ bW k B ++ sW cI b S ++ sW cI t T ++ Z9 ∧ bdZ cI cR h w M S ra Z9 ∧ yB h w 0 S ∧ yM M ∧ M 0 0 = 0 ∧ S 0 4 = 0
theorem bdR_end {k b t : Nat → Nat} {B T M S : sS} {cI cR cF : ClassId} {qs q1 q2 q3 h w : Nat} {mv : Int32} {sh : Nat → Int32} {cf : Nat → Option Nat} {r ad c1 : Nat → Nat} {G K : Nat → Nat → Int32} {RE : Nat → va_E} (hF : bdF h w (h * w) S G) (h5 : h ≤ 5) (w5 : w ≤ 5) (hSh : ∀ f, f < w → sh f = S 1 f ∧ 0 ≤ (S 1 f).toInt ∧ (S 1 f).toInt ≤ 9) (hB : bdD 30 M cf c1 K) (hMv : mv = M 0 1) (h0 : M 0 0 = 0) :
    bdR k b t B T cI cR qs (oW k b t M ++ kW cI k M ++ bW k B ++ sW cI b S ++ sW cI t T ++ (smX cI cR cF qs q1 q2 q3 h w mv sh cf r) ++ rg h r RE ++ rg (h * w) ad (smF cI G) ++ rg (30 + 30) c1 (smD cI K)) := by
  subst hMv
  refine ⟨h, w, M, S, smX cI cR cF qs q1 q2 q3 h w (M 0 1) sh cf r ++ rg h r RE ++ rg (h * w) ad (smF cI G) ++ rg (30 + 30) c1 (smD cI K), ?_, ⟨q1, q2, q3, sh, cf, rfl, rfl, rfl, fun f hf => (hSh f hf).1, fun d hd => ?_⟩, bdF_end hF h5 w5 hSh, hB.1, h0, hF.2.1 2⟩
  · simp only [List.append_assoc]
  · obtain ⟨z1, z2, z3, z4⟩ := hB.2.2 d hd
    exact ⟨c1 (30 + d), _, K (30 + d), z1, rg_get (X := smX cI cR cF qs q1 q2 q3 h w (M 0 1) sh cf r ++ rg h r RE ++ rg (h * w) ad (smF cI G)) c1 (smD cI K) (by omega), z2, z3, z4⟩

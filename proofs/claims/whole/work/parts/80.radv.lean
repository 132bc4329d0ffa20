/-! the best move, on both sides -/
theorem itr_rel {α β : Type} {Q : α → β → Prop} {f : Int32 → α → α} {g : Int32 → β → β} {N : Nat} (hs : ∀ i, i < N → ∀ a b, Q a b → Q (f (nI i) a) (g (nI i) b)) : ∀ n, n ≤ N → ∀ {a : α} {b : β}, Q a b → Q (itr f n a) (itr g n b) := by
  intro n
  induction n with
  | zero => intro _ a b q; exact q
  | succ n ih => intro hn a b q; exact hs n (by omega) _ _ (ih (by omega) q)
theorem sum_nI {S : sS} {r b : Nat} (hb : ∀ c, c < 64 → ∃ n : Nat, S r c = nI n ∧ n ≤ b) (hbb : b ≤ 1000) : ∀ k, k ≤ 64 → ∃ n : Nat, itr (fun i x => x + S r i.toNatClampNeg) k (0 : Int32) = nI n ∧ n ≤ b * k := by
  intro k
  induction k with
  | zero => intro _; exact ⟨0, rfl, by omega⟩
  | succ k ih =>
    intro hk
    obtain ⟨n, e, hn⟩ := ih (by omega)
    obtain ⟨m, e2, hm⟩ := hb k (by omega)
    refine ⟨n + m, ?_, by rw [Nat.mul_succ]; omega⟩
    rw [itr_s, e, nI_clamp (by omega), e2, nI_add]
theorem sums_ok {h w : Nat} (hN : h * w ≤ 64) {S : sS} (v : inv S) : ∃ cr hd : Nat, sl_sum h w S 7 = nI cr ∧ sl_sum h w S 9 = nI hd ∧ cr ≤ 64 ∧ hd ≤ 6400 := by
  obtain ⟨cr, e1, h1⟩ := sum_nI (S := S) (r := 7) (b := 1) (fun c hc => (v.1 c hc).1) (by decide) (h * w) hN
  obtain ⟨hd, e2, h2⟩ := sum_nI (S := S) (r := 9) (b := 100) (fun c hc => (v.1 c hc).2.1) (by decide) (h * w) hN
  exact ⟨cr, hd, e1, e2, by omega, by omega⟩
section ADV
variable {h w y : Nat} {M S O : sS}
/-- days tried: their worth in one number and in two -/
theorem worth_ok {T o : sS} {n : Nat} (R : rl h w M T o) (v : inv T) (hd : T 0 2 = nI y) (hy : y + n ≤ 2000) : ∃ cr hd : Nat, sl_sum h w (sl_days h w M T n) 7 = nI cr ∧ sl_sum h w (sl_days h w M T n) 9 = nI hd ∧ cr ≤ 64 ∧ hd ≤ 6400 ∧ mi_worthV h w o n = nI (10000 * cr + hd) := by
  obtain ⟨R1, v1, -⟩ := rl_days n R v hd (by omega)
  obtain ⟨cr, hd2, e1, e2, h1, h2⟩ := sums_ok (rl_hw R) v1
  refine ⟨cr, hd2, e1, e2, h1, h2, ?_⟩
  have s5 : mi_sum h w (mi_days h w o n) 5 = sl_sum h w (sl_days h w M T n) 7 := sum_rl R1 (r := 5) (by decide) rfl
  have s7 : mi_sum h w (mi_days h w o n) 7 = sl_sum h w (sl_days h w M T n) 9 := sum_rl R1 (r := 7) (by decide) rfl
  have e9 : (10000 : Int32) = nI 10000 := rfl
  unfold mi_worthV
  rw [s5, s7, e1, e2, e9, pk_mul, nI_add]
/-- the best so far, in the class's move and in the reference's numbers -/
def bst (h w : Nat) (B : sS) (best found height : Int32) : Prop := (∃ cr hd : Nat, B 4 3 = nI cr ∧ B 4 4 = nI hd ∧ cr ≤ 64 ∧ hd ≤ 6400 ∧ best = nI (10000 * cr + hd)) ∧ ((found = -1 ∧ B 4 0 = -1 ∧ B 4 1 = -1 ∧ B 4 2 = -1) ∨ ∃ t f : Nat, t < h ∧ f < w ∧ found = nI (w * t + f) ∧ B 4 0 = nI t ∧ B 4 1 = nI f ∧ B 4 2 = height)
def adq (h w y : Nat) (M S : sS) (p : sS × sS) (q : sS × Int32 × Int32 × Int32) : Prop := Rl h w y M S q.1 ∧ kept h w M S q.1 ∧ q.1 0 0 = 0 ∧ bst h w p.1 q.2.1 q.2.2.1 q.2.2.2
theorem mv_get (B : sS) (t f x c d : Int32) : mv_set B t f x c d 4 0 = t ∧ mv_set B t f x c d 4 1 = f ∧ mv_set B t f x c d 4 2 = x ∧ mv_set B t f x c d 4 3 = c ∧ mv_set B t f x c d 4 4 = d := by
  unfold mv_set
  refine ⟨?_, ?_, ?_, ?_, ?_⟩
  · rw [s_put_col _ _ (by decide), s_put_col _ _ (by decide), s_put_col _ _ (by decide), s_put_col _ _ (by decide), pg, if_pos rfl, if_pos rfl]
  · rw [s_put_col _ _ (by decide), s_put_col _ _ (by decide), s_put_col _ _ (by decide), pg, if_pos rfl, if_pos rfl]
  · rw [s_put_col _ _ (by decide), s_put_col _ _ (by decide), pg, if_pos rfl, if_pos rfl]
  · rw [s_put_col _ _ (by decide), pg, if_pos rfl, if_pos rfl]
  · rw [pg, if_pos rfl, if_pos rfl]
theorem try_ok (hy2 : y ≤ 2000) {n : Nat} (hyn : y + n ≤ 2000) {t f : Nat} (ht : t < h) (hf : f < w) (x : Int32) {p : sS × sS} {q : sS × Int32 × Int32 × Int32} (Q : adq h w y M S p q) : adq h w y M S (x3_h h w M S n (nI t) (nI f) x p) (ad_h h w n (nI (w * t + f)) x q) := by
  obtain ⟨m, best, found, height⟩ := q
  obtain ⟨G, K, z, ⟨cr, hd, e3, e4, hcr, hhd, eb⟩, P⟩ := Q
  have G : Rl h w y M S m := G
  have K : kept h w M S m := K
  have z : m 0 0 = 0 := z
  have eb : best = nI (10000 * cr + hd) := eb
  have hN := rl_hw G.1
  have hk : w * t + f < h * w := by
    calc w * t + f < w * t + w := by omega
      _ = w * (t + 1) := by rw [Nat.mul_succ]
      _ ≤ w * h := Nat.mul_le_mul_left w ht
      _ = h * w := Nat.mul_comm w h
  have ea : sl_at S (nI t) (nI f) = nI (w * t + f) := by rw [(rl_at G.1 t f).1, Nat.mul_comm]
  generalize w * t + f = c at hk ea ⊢
  have hc6 : c < 64 := by omega
  have R1 : rl h w M (s_put S 5 c (x * 10)) (s_put m 3 (12 * c + 3) (x * 10)) := rl_put G.1 (j := 3) (by decide) _
  have v1 : inv (s_put S 5 c (x * 10)) := inv_p G.2.1 (by decide) c _
  have d1 : s_put S 5 c (x * 10) 0 2 = nI y := by rw [s_put_ne _ (by decide)]; exact G.2.2.1
  obtain ⟨cr2, hd2, f1, f2, b1, b2, f3⟩ := worth_ok R1 v1 d1 hyn
  have K1 := kept_days (kept_put K (12 * c + 3) (x * 10)) n
  obtain ⟨B1, B2, B3⟩ := back_ok G.1.1 G.2.1 G.2.2.1 G.2.2.2.1 K1
  have B4 : mi_worth h w (s_put m 3 (12 * c + 3) (x * 10)) n 0 0 = 0 := by
    show mi_back (mi_days h w (s_put m 3 (12 * c + 3) (x * 10)) n) 0 0 = 0
    rw [B3, mdays_row _ _ (by decide) (by decide), s_put_ne _ (by decide)]; exact z
  unfold x3_h x3_try
  rw [ea, nI_clamp (show c < 2 ^ 31 by omega), f1, f2]
  by_cases cc : best < mi_worthV h w (s_put m 3 (12 * nI c + 3).toNatClampNeg (x * 10)) n
  · rw [ad_hp cc, ix3 hc6]
    rw [ix3 hc6, f3, eb, nI_ltI (by omega) (by omega)] at cc
    have eq : mv_better p.1 (nI t) (nI f) (x * 10) (nI cr2) (nI hd2) = mv_set p.1 (nI t) (nI f) (x * 10) (nI cr2) (nI hd2) := by
      unfold mv_better
      rw [e3, e4]
      by_cases q1 : cr < cr2
      · rw [if_pos (nI_lt q1 (by omega))]
      · rw [if_neg (nI_nlt (by omega) (by omega)), if_pos (by rw [nI_eq (by omega) (by omega)]; omega), if_neg (nI_ge (by omega) (by omega))]
    rw [eq]
    obtain ⟨g0, g1, g2, g3, g4⟩ := mv_get p.1 (nI t) (nI f) (x * 10) (nI cr2) (nI hd2)
    refine ⟨B1, B2, B4, ⟨cr2, hd2, g3, g4, b1, b2, f3⟩, Or.inr ⟨t, f, ht, hf, ?_, g0, g1, g2⟩⟩
    have : c = w * t + f := by
      have e8 := (rl_at G.1 t f).1
      rw [ea, nI_eq (by omega) (by rw [Nat.mul_comm]; calc w * t + f < w * t + w := by omega
          _ = w * (t + 1) := by rw [Nat.mul_succ]
          _ ≤ w * h := Nat.mul_le_mul_left w ht
          _ ≤ 64 := by rw [Nat.mul_comm]; exact hN
          _ < 2 ^ 31 := by decide)] at e8
      rw [e8, Nat.mul_comm]
    show nI c = nI (w * t + f)
    rw [this]
  · rw [ad_hn cc, ix3 hc6]
    rw [ix3 hc6, f3, eb, nI_ltI (by omega) (by omega)] at cc
    have eq : mv_better p.1 (nI t) (nI f) (x * 10) (nI cr2) (nI hd2) = p.1 := by
      unfold mv_better
      rw [e3, e4, if_neg (nI_nlt (by omega) (by omega))]
      by_cases q1 : cr2 = cr
      · rw [if_pos (by rw [q1]), if_pos (nI_le (by omega) (by omega))]
      · rw [if_neg (by rw [nI_eq (by omega) (by omega)]; exact q1)]
    rw [eq]
    exact ⟨B1, B2, B4, ⟨cr, hd, e3, e4, hcr, hhd, eb⟩, P⟩
theorem best_ok (G : Rl h w y M S O) (z : O 0 0 = 0) (B : sS) {n : Nat} (hyn : y + n ≤ 2000) : adq h w y M S (x3_best h w M B S n) (ad_all h w O n) := by
  have hN := rl_hw G.1
  have h0 : adq h w y M S (x3_0 h w M B S n) (ad_0 h w O n) := by
    have K1 := kept_days (keep_kept G) n
    obtain ⟨B1, B2, B3⟩ := back_ok G.1.1 G.2.1 G.2.2.1 G.2.2.2.1 K1
    obtain ⟨cr2, hd2, f1, f2, b1, b2, f3⟩ := worth_ok (keep_rl G.1) G.2.1 G.2.2.1 hyn
    unfold x3_0
    rw [f1, f2]
    obtain ⟨g0, g1, g2, g3, g4⟩ := mv_get B (-1) (-1) (-1) (nI cr2) (nI hd2)
    refine ⟨B1, B2, ?_, ⟨cr2, hd2, g3, g4, b1, b2, f3⟩, Or.inl ⟨rfl, g0, g1, g2⟩⟩
    show mi_back (mi_days h w (mi_keep O) n) 0 0 = 0
    rw [B3, mdays_row _ _ (by decide) (by decide), keep_0]; exact z
  unfold ad_all x3_best
  rw [Nat.mul_comm h w]
  rw [itr_flat (f := ad_k h w n) (g := fun t f => ad_k h w n (nI w * t + f)) (m := w) (N := h) (fun t f _ _ T => by rw [pk_mul, nI_add]) h (Nat.le_refl h)]
  refine itr_rel (Q := adq h w y M S) (N := h) (fun t ht a b Q => ?_) h (Nat.le_refl h) h0
  unfold x3_t
  refine itr_rel (Q := adq h w y M S) (N := w) (fun f hf a b Q => ?_) w (Nat.le_refl w) Q
  unfold x3_f ad_k
  rw [pk_mul, nI_add]
  have hk : w * t + f < h * w := by
    calc w * t + f < w * t + w := by omega
      _ = w * (t + 1) := by rw [Nat.mul_succ]
      _ ≤ w * h := Nat.mul_le_mul_left w ht
      _ = h * w := Nat.mul_comm w h
  have ea : sl_at S (nI t) (nI f) = nI (w * t + f) := by rw [(rl_at G.1 t f).1, Nat.mul_comm]
  rw [ea, nI_clamp (by omega), ix1 (by omega), rl_c Q.1.1 hk (by decide)]
  exact itr_rel (Q := adq h w y M S) (N := x3_rounds (S 3 (w * t + f))) (fun j _ a b Q => try_ok G.2.2.2.1 hyn ht hf (nI j) Q) _ (Nat.le_refl _) Q
theorem rl_bkm (G : Rl h w y M S O) : bkm h w (O 3) := by
  intro k hk
  have hN := rl_hw G.1
  rw [rl_c G.1 hk (by decide)]
  exact G.2.1.2.2 k (by omega)
theorem adv_ok (G : Rl h w y M S O) (z : O 0 0 = 0) (B : sS) (i x : Int32) : ok3 (adv_T S i x) (mv_num (x3_best h w M B S i.toNatClampNeg).1 x) (madv_V h w O i x) M S (madv_S h w O i x) := by
  unfold adv_T madv_V madv_S
  rw [G.1.2.2.1, G.2.2.1]
  by_cases c1 : is_w i 1 10 = 0
  · simp only [if_pos c1]; exact ok_f G (by decide)
  · by_cases c2 : is_w x 0 2 = 0
    · simp only [if_neg c1, if_pos c2]; exact ok_f G (by decide)
    · obtain ⟨n, en, ecl, hn, -⟩ := w60 (N := 10) rfl (by decide) c1
      by_cases c3 : nI y + i ≤ 2000
      · simp only [if_neg c1, if_neg c2, if_pos c3]
        rw [ecl]
        rw [en, day_le G.2.2.2.1 (by omega)] at c3
        obtain ⟨G1, -, z1, -, P⟩ := best_ok G z B c3
        refine ok_s z1 ?_ (h := h) (w := w) (y := y) G1
        obtain ⟨d, e2, -, hd⟩ := isw_k (N := 2) rfl (by decide) c2
        have hw2 := G.1.1.2.2.2.2.1
        have hw8 := G.1.1.2.2.2.2.2
        have hh8 := G.1.1.2.2.2.1
        rw [e2]
        unfold madv_v
        rw [G1.1.2.1.2.1]
        rcases P with ⟨ef, p0, p1, p2⟩ | ⟨t, f, ht, hf, ef, p0, p1, p2⟩
        · rw [ef, if_pos rfl]
          rcases (show d = 0 ∨ d = 1 ∨ d = 2 by omega) with rfl | rfl | rfl
          · exact p0.symm
          · exact p1.symm
          · exact p2.symm
        · have hk : w * t + f < 64 := by
            have hN := rl_hw G.1
            calc w * t + f < w * t + w := by omega
              _ = w * (t + 1) := by rw [Nat.mul_succ]
              _ ≤ w * h := Nat.mul_le_mul_left w ht
              _ ≤ 64 := by rw [Nat.mul_comm]; exact hN
          have hne : ¬ nI (w * t + f) = -1 := by
            intro q
            have q2 := congrArg Int32.toInt q
            rw [nI_toInt (by omega)] at q2
            have q3 : (-1 : Int32).toInt = -1 := rfl
            omega
          have hdv : (w * t + f) / w = t := by
            rw [Nat.mul_add_div (by omega), Nat.div_eq_of_lt hf, Nat.add_zero]
          have hmd : (w * t + f) % w = f := by
            rw [Nat.mul_add_mod, Nat.mod_eq_of_lt hf]
          rw [ef, if_neg hne]
          rcases (show d = 0 ∨ d = 1 ∨ d = 2 by omega) with rfl | rfl | rfl
          · rw [if_pos (by rfl), pk_div (by omega) (by omega) (by omega), hdv]
            exact p0.symm
          · rw [if_neg (by decide), if_pos (by rfl), pk_rem (by omega) (by omega) (by omega), hmd]
            exact p1.symm
          · rw [if_neg (by decide), if_neg (by decide)]
            exact p2.symm
      · simp only [if_neg c1, if_neg c2, if_neg c3]; exact ok_f G (by decide)
end ADV

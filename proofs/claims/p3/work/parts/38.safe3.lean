theorem lk_closL (rows sizes : Nat → Int32) (x1 x3 : Int32) (hz1 : (sizes 1).toInt ≤ 512) : ∀ (k : Nat) (x2 : Int32), ((sizes 1).toInt - x2.toInt).toNat < k → 0 ≤ x2.toInt → x2.toInt ≤ 700 → (f_X5_closing_L0 k rows sizes x1 x2 x3).toInt = -1 ∨ (x2.toInt ≤ (f_X5_closing_L0 k rows sizes x1 x2 x3).toInt ∧ (f_X5_closing_L0 k rows sizes x1 x2 x3).toInt < (sizes 1).toInt) := by
  intro k
  induction k with
  | zero =>
    intro x2 hk
    exact absurd hk (Nat.not_lt_zero _)
  | succ k ih =>
    intro x2 hk h0 h7
    rw [f_X5_closing_L0_s]
    have hp := pf_X5_pattern (z := f_X5_pattern rows sizes x2) rfl
    have e1 := kx_addK x2 (y := 1) (k := 1) (by decide)
    have e2 := kx_addK x2 (y := 2) (k := 2) (by decide)
    generalize f_X5_pattern rows sizes x2 = z at hp ⊢
    unfold kb
    dsimp only
    by_cases c : z < 0
    · have c0 := Int32.lt_iff_toInt_lt.mp c
      rw [show (0 : Int32).toInt = 0 by decide] at c0
      have c2 : ¬ (0 : Int32) ≤ z := fun q => by have := kb_le0 q; omega
      simp only [if_pos c, if_neg c2]
      exact Or.inl (by decide)
    · have c0 := kb_nlt0 c
      have i1 : (f_X5_closing_L0 k rows sizes x1 (x2 + 1) x3).toInt = -1 ∨ (x2.toInt ≤ (f_X5_closing_L0 k rows sizes x1 (x2 + 1) x3).toInt ∧ (f_X5_closing_L0 k rows sizes x1 (x2 + 1) x3).toInt < (sizes 1).toInt) := by
        have := ih (x2 + 1) (by omega) (by omega) (by omega)
        omega
      have i2 : (f_X5_closing_L0 k rows sizes x1 (x2 + 2) x3).toInt = -1 ∨ (x2.toInt ≤ (f_X5_closing_L0 k rows sizes x1 (x2 + 2) x3).toInt ∧ (f_X5_closing_L0 k rows sizes x1 (x2 + 2) x3).toInt < (sizes 1).toInt) := by
        have := ih (x2 + 2) (by omega) (by omega) (by omega)
        omega
      simp only [if_neg c]
      repeat' split
      all_goals first | exact i1 | exact i2 | exact Or.inl (by decide) | exact Or.inr ⟨Int.le_refl _, by omega⟩
theorem lk_closing {rows sizes : Nat → Int32} {p : Int32} (hz1 : (sizes 1).toInt ≤ 512) (h0 : 0 ≤ p.toInt) (h6 : p.toInt ≤ 600) : (f_X5_closing rows sizes p).toInt = -1 ∨ (p.toInt < (f_X5_closing rows sizes p).toInt ∧ (f_X5_closing rows sizes p).toInt < (sizes 1).toInt) := by
  unfold f_X5_closing kb
  dsimp only
  have e1 := kx_addK p (y := 1) (k := 1) (by decide)
  have e2 := kx_addK p (y := 2) (k := 2) (by decide)
  split
  · have := lk_closL rows sizes p (p + 2) hz1 (((sizes 1).toInt - (p + 2).toInt).toNat + 1) (p + 2) (Nat.lt_succ_self _) (by omega) (by omega)
    omega
  · have := lk_closL rows sizes p (p + 1) hz1 (((sizes 1).toInt - (p + 1).toInt).toNat + 1) (p + 1) (Nat.lt_succ_self _) (by omega) (by omega)
    omega
theorem lk_behind {rows sizes : Nat → Int32} {p : Int32} (hz1 : (sizes 1).toInt ≤ 512) (h0 : 0 ≤ p.toInt) (h6 : p.toInt ≤ 600) : (f_X5_behindSingle rows sizes p).toInt = -1 ∨ (p.toInt < (f_X5_behindSingle rows sizes p).toInt ∧ (f_X5_behindSingle rows sizes p).toInt ≤ 602) := by
  unfold f_X5_behindSingle kb
  dsimp only
  have hc := lk_closing (rows := rows) hz1 h0 h6
  generalize f_X5_closing rows sizes p = z at hc ⊢
  have e1 := kx_addK p (y := 1) (k := 1) (by decide)
  have e2 := kx_addK p (y := 2) (k := 2) (by decide)
  have e3 := kx_addK z (y := 1) (k := 1) (by decide)
  by_cases q : (0 : Int32) ≤ z
  · have q0 := kb_le0 q
    simp only [if_pos q]
    repeat' split
    all_goals first | exact Or.inl (by decide) | exact Or.inr ⟨by omega, by omega⟩
  · simp only [if_neg q]
    repeat' split
    all_goals first | exact Or.inl (by decide) | exact Or.inr ⟨by omega, by omega⟩
set_option maxHeartbeats 4000000 in
theorem lk_balL {kd pl nx ch le rows sizes : Nat → Int32} {D : Nat} {lo0 p s x2 : Int32} (hz0 : (sizes 0).toInt ≤ 4096) (hD : D ≤ 511) (hp0 : 0 ≤ p.toInt) (hp1 : p.toInt < 512) :
    ∀ (k : Nat) (x4 x3 lo tr : Int32), ((sizes 0).toInt - x4.toInt).toNat < k → 0 ≤ x4.toInt → s.toInt ≤ x4.toInt → 0 ≤ lo.toInt → lo.toInt ≤ 100000 → lo0.toInt ≤ lo.toInt → ∀ u, u = f_X5_balanced_L0 k (nI D) rows sizes lo tr kd nx p x2 x3 x4 → mCome lo0 kd nx ch le pl D p s (sizes 0) u.1 u.2.1 u.2.2.2.1 u.2.2.2.2 ch le := by
  have e4 := kx_addK p (y := 4) (k := 4) (by decide)
  intro k
  induction k with
  | zero =>
    intro x4 x3 lo tr hk
    exact absurd hk (Nat.not_lt_zero _)
  | succ k ih =>
    intro x4 x3 lo tr hk h4 h4s hl0 hl1 hll u hu
    rw [f_X5_balanced_L0_s, nI_clamp (n := D) (by omega)] at hu
    by_cases c1 : sizes 0 ≤ x4
    · rw [if_pos c1] at hu
      subst hu
      exact mCome_fail hll hl1 same4
    · rw [if_neg c1] at hu
      have c1 := kx_nle c1
      have e1 := kx_addK x4 (y := 1) (k := 1) (by decide)
      have hk2 := lk_look hl0 hl1 (f_X5_look lo tr) rfl
      generalize f_X5_look lo tr = z5 at hk2 hu
      unfold kb at hu
      dsimp only at hu
      by_cases c2 : z5.1 = 0
      · rw [if_pos c2] at hu
        subst hu
        exact mCome_fail (by show _ ≤ z5.2.1.toInt; omega) hk2.2.2.1 same4
      · rw [if_neg c2] at hu
        have h := fun y => ih (x4 + 1) y z5.2.1 z5.2.2 (by omega) (by omega) (by omega) hk2.1 hk2.2.2.1 (by omega) u
        have hf : ∀ r : Int32, r = x4 + 1 → mCome lo0 kd nx ch le pl D p s (sizes 0) r z5.2.1 (upd kd D 7) (upd nx D (p + 4)) ch le := fun r hr => mCome_fix (p + 4) (by omega) hk2.2.2.1 same2 (by rw [hr]; exact ⟨by omega, by omega⟩) (by omega)
        repeat' split at hu
        all_goals first | exact h _ hu | (subst hu; exact hf _ rfl) | (subst hu; exact mCome_fail (show lo0.toInt ≤ z5.2.1.toInt by omega) hk2.2.2.1 same4)
theorem lk_balanced {kd pl nx ch le rows sizes : Nat → Int32} {D : Nat} {lo tr p s : Int32} (hz0 : (sizes 0).toInt ≤ 4096) (hD : D ≤ 511) (hp0 : 0 ≤ p.toInt) (hp1 : p.toInt < 512) (hs0 : 0 ≤ s.toInt) (hl0 : 0 ≤ lo.toInt) (hl1 : lo.toInt ≤ 100000) : ∀ u, u = f_X5_balanced (nI D) lo tr rows sizes kd nx p s → mCome lo kd nx ch le pl D p s (sizes 0) u.1 u.2.1 u.2.2.2.1 u.2.2.2.2 ch le := by
  intro u hu
  unfold f_X5_balanced kb at hu
  dsimp only at hu
  split at hu
  · exact lk_balL hz0 hD hp0 hp1 _ s 0 lo tr (Nat.lt_succ_self _) hs0 (Int.le_refl _) hl0 hl1 (Int.le_refl _) u hu
  · subst hu
    exact mCome_fail (Int.le_refl _) hl1 same4
set_option maxHeartbeats 4000000 in
theorem lk_border {kd pl nx ch le rows sizes : Nat → Int32} {D : Nat} {lo tr p s : Int32} (hz1 : (sizes 1).toInt ≤ 512) (hD : D ≤ 511) (hp0 : 0 ≤ p.toInt) (hp1 : p.toInt < 512) (hs1 : s.toInt ≤ (sizes 0).toInt) (hl0 : 0 ≤ lo.toInt) (hl1 : lo.toInt ≤ 100000) : ∀ u, u = f_X5_border (nI D) lo tr rows sizes kd nx p s → mCome lo kd nx ch le pl D p s (sizes 0) u.1 u.2.1 u.2.2.2.1 u.2.2.2.2 ch le := by
  intro u hu
  unfold f_X5_border at hu
  rw [nI_clamp (n := D) (by omega)] at hu
  have e2 := kx_addK p (y := 2) (k := 2) (by decide)
  have hc := lk_closing (rows := rows) (p := p + 2) hz1 (by omega) (by omega)
  have hk2 := lk_look hl0 hl1 (f_X5_look lo tr) rfl
  generalize f_X5_closing rows sizes (p + 2) = z4 at hc hu
  generalize f_X5_look lo tr = z7 at hk2 hu
  have e3 := kx_addK z4 (y := 1) (k := 1) (by decide)
  unfold kb at hu
  dsimp only at hu
  by_cases c4 : (0 : Int32) ≤ z4
  · have c40 := kb_le0 c4
    simp only [if_pos c4] at hu
    have hf : mCome lo kd nx ch le pl D p s (sizes 0) s z7.2.1 (upd kd D 7) (upd nx D (z4 + 1)) ch le := mCome_fix (z4 + 1) (by omega) hk2.2.2.1 same2 ⟨Int.le_refl _, hs1⟩ (by omega)
    repeat' split at hu
    all_goals first | (subst hu; exact hf) | (subst hu; exact mCome_fail hk2.2.1 hk2.2.2.1 same4) | (subst hu; exact mCome_fail (Int.le_refl _) hl1 same4)
  · simp only [if_neg c4] at hu
    repeat' split at hu
    all_goals (subst hu; exact mCome_fail (Int.le_refl _) hl1 same4)
set_option maxHeartbeats 4000000 in
theorem lk_singleL {kd pl nx ch le rows sizes : Nat → Int32} {D : Nat} {lo0 p s x3 x4 y : Int32} (hz1 : (sizes 1).toInt ≤ 512) (hz0 : (sizes 0).toInt ≤ 4096) (hD : D ≤ 511) (hp0 : 0 ≤ p.toInt) (hp1 : p.toInt < 512) (hs0 : 0 ≤ s.toInt) (hs1 : s.toInt ≤ (sizes 0).toInt) (hx3 : p.toInt < x3.toInt) (hx32 : x3.toInt ≤ 602) (hy0 : 0 ≤ y.toInt) :
    ∀ (k J : Nat) (lo tr : Int32), 5000 - J < k → 0 ≤ lo.toInt → lo.toInt ≤ 100000 → lo.toInt = lo0.toInt + J → s.toInt + J ≤ (sizes 0).toInt →
      g_X5_single_L0 k (nI D) rows sizes lo tr kd nx (upd ch D 0) (upd le D y) p s x3 x4 (nI J) ∧ ∀ u, u = f_X5_single_L0 k (nI D) rows sizes lo tr kd nx (upd ch D 0) (upd le D y) p s x3 x4 (nI J) → mCome lo0 kd nx ch le pl D p s (sizes 0) u.1 u.2.1 u.2.2.2.1 u.2.2.2.2.1 u.2.2.2.2.2.1 u.2.2.2.2.2.2 := by
  have e1 := kx_addK x3 (y := 1) (k := 1) (by decide)
  have hdT : (nI D).toInt = D := nI_toInt (by omega)
  have hin : vp_in (nI D) 520 := vp_in_nI (by omega) (by omega)
  intro k
  induction k with
  | zero =>
    intro J lo tr hk
    exact absurd hk (Nat.not_lt_zero _)
  | succ k ih =>
    intro J lo tr hk hl0 hl1 hll hJ
    rw [g_X5_single_L0_s, f_X5_single_L0_s, nI_clamp (n := D) (by omega), upd_s]
    have hJT : (nI J).toInt = J := nI_toInt (by omega)
    have ea := kx_addD s (nI J)
    have hk2 := lk_there (lo := lo) (tr := tr) (rows := rows) (sizes := sizes) (p := p) (s := s + nI J) hl0 hl1 _ rfl
    generalize f_X5_isThere lo tr rows sizes p (s + nI J) = z at hk2 ⊢
    unfold kb
    dsimp only
    have hoff : ∀ j, j ≠ D → (upd (upd ch D 0) D (nI J)) j = ch j ∧ (upd le D y) j = le j := fun j hj => ⟨by rw [upd_o _ _ hj, upd_o _ _ hj], upd_o _ _ hj⟩
    have hoff4 : ∀ j, j ≠ D → kd j = kd j ∧ nx j = nx j ∧ (upd (upd ch D 0) D (nI J)) j = ch j ∧ (upd le D y) j = le j := fun j hj => ⟨rfl, rfl, (hoff j hj).1, (hoff j hj).2⟩
    by_cases c1 : z.1 = 0
    · simp only [if_pos c1]
      by_cases c2 : z.2.2 = 0
      · simp only [if_pos c2]
        by_cases c3 : y ≤ nI J
        · simp only [if_pos c3]
          have c3 := Int32.le_iff_toInt_le.mp c3
          refine ⟨⟨hz1, hp0, by omega, hz0, by omega, hin, hin, by omega, by omega, trivial⟩, fun u hu => ?_⟩
          subst hu
          refine mCome_mk (r := s + nI J) 1 (x3 + 1) (show lo0.toInt ≤ z.2.1.toInt by omega) hk2.2.1 hoff ⟨by omega, by omega⟩ (by omega) (fun _ => ?_) (fun q => absurd q (by decide)) (fun q => absurd q (by decide)) (fun q => absurd q (by decide)) (fun q => absurd q (by decide))
          dsimp only
          rw [upd_s, upd_s]
          exact ⟨hy0, by omega, by omega, by show _ ≤ z.2.1.toInt - _; omega⟩
        · simp only [if_neg c3]
          refine ⟨⟨hz1, hp0, by omega, hz0, by omega, hin, hin, trivial⟩, fun u hu => ?_⟩
          subst hu
          exact mCome_fail (show lo0.toInt ≤ z.2.1.toInt by omega) hk2.2.1 hoff4
      · simp only [if_neg c2]
        refine ⟨⟨hz1, hp0, by omega, hz0, by omega, hin, trivial⟩, fun u hu => ?_⟩
        subst hu
        exact mCome_fail (show lo0.toInt ≤ z.2.1.toInt by omega) hk2.2.1 hoff4
    · simp only [if_neg c1]
      have hk3 := hk2.2.2 c1
      have h := ih (J + 1) z.2.1 z.2.2 (by omega) (by omega) hk2.2.1 (by omega) (by omega)
      rw [nI_1 J]
      exact ⟨⟨hz1, hp0, by omega, hz0, by omega, h.1⟩, h.2⟩
set_option maxHeartbeats 4000000 in
theorem lk_single {kd pl nx ch le rows sizes : Nat → Int32} {D : Nat} {lo tr p s : Int32} (hz1 : (sizes 1).toInt ≤ 512) (hz0 : (sizes 0).toInt ≤ 4096) (hD : D ≤ 511) (hp0 : 0 ≤ p.toInt) (hp1 : p.toInt < 512) (hs0 : 0 ≤ s.toInt) (hs1 : s.toInt ≤ (sizes 0).toInt) (hl0 : 0 ≤ lo.toInt) (hl1 : lo.toInt ≤ 100000) :
    g_X5_single (nI D) lo tr rows sizes kd nx ch le p s ∧ ∀ u, u = f_X5_single (nI D) lo tr rows sizes kd nx ch le p s → mCome lo kd nx ch le pl D p s (sizes 0) u.1 u.2.1 u.2.2.2.1 u.2.2.2.2.1 u.2.2.2.2.2.1 u.2.2.2.2.2.2 := by
  unfold g_X5_single f_X5_single
  rw [nI_clamp (n := D) (by omega)]
  have hb := lk_behind (rows := rows) (p := p) hz1 hp0 (by omega)
  generalize f_X5_behindSingle rows sizes p = z4 at hb ⊢
  have hk2 := lk_there (lo := lo) (tr := tr) (rows := rows) (sizes := sizes) (p := p) (s := s) hl0 hl1 _ rfl
  generalize f_X5_isThere lo tr rows sizes p s = z at hk2 ⊢
  have e1 := kx_addK z4 (y := 1) (k := 1) (by decide)
  have es := kx_addK s (y := 1) (k := 1) (by decide)
  have hdT : (nI D).toInt = D := nI_toInt (by omega)
  have hin : vp_in (nI D) 520 := vp_in_nI (by omega) (by omega)
  unfold kb
  dsimp only
  generalize f_X5_pattern rows sizes z4 = z8
  have hoff0 : ∀ j, j ≠ D → (upd ch D 0) j = ch j ∧ (upd le D 0) j = le j := fun j hj => ⟨upd_o _ _ hj, upd_o _ _ hj⟩
  by_cases c0 : (0 : Int32) ≤ z4
  · simp only [if_pos c0]
    have c00 := kb_le0 c0
    have hLL := fun (y : Int32) (hy : 0 ≤ y.toInt) => lk_singleL (kd := kd) (pl := pl) (nx := nx) (ch := ch) (le := le) (rows := rows) (sizes := sizes) (D := D) (lo0 := lo) (p := p) (s := s) (x3 := z4) (x4 := z8) (y := y) hz1 hz0 hD hp0 hp1 hs0 hs1 (by omega) (by omega) hy kFuel 0 lo tr (by unfold kFuel; omega) hl0 hl1 (by omega) (by omega)
    by_cases c43 : z8 = 43
    · simp only [if_pos c43]
      have h := hLL 1 (by decide)
      exact ⟨⟨hz1, hp0, by omega, hz1, c00, hin, hin, h.1⟩, h.2⟩
    · simp only [if_neg c43]
      by_cases c42 : z8 = 42
      · simp only [if_pos c42]
        have h := hLL 0 (by decide)
        exact ⟨⟨hz1, hp0, by omega, hz1, c00, hin, hin, h.1⟩, h.2⟩
      · simp only [if_neg c42]
        by_cases c45 : z8 = 45
        · simp only [if_pos c45]
          refine ⟨⟨hz1, hp0, by omega, hz1, c00, hin, hin, by omega, by omega, trivial⟩, fun u hu => ?_⟩
          subst hu
          exact mCome_mk 2 (z4 + 1) (Int.le_refl _) hl1 hoff0 ⟨Int.le_refl _, hs1⟩ (by omega) (fun q => absurd q (by decide)) (fun _ => upd_s _ _ _) (fun q => absurd q (by decide)) (fun q => absurd q (by decide)) (fun q => absurd q (by decide))
        · simp only [if_neg c45]
          by_cases c63 : z8 = 63
          · simp only [if_pos c63, upd_s]
            by_cases c1 : z.1 = 0
            · simp only [if_pos c1]
              have hoff : ∀ j, j ≠ D → (upd (upd ch D 0) D 0) j = ch j ∧ (upd le D 0) j = le j := fun j hj => ⟨by rw [upd_o _ _ hj, upd_o _ _ hj], upd_o _ _ hj⟩
              have es0 := kx_addK s (y := 0) (k := 0) (by decide)
              by_cases c2 : z.2.2 = 0
              · simp only [if_pos c2]
                refine ⟨⟨hz1, hp0, by omega, hz1, c00, hin, hin, hz1, hp0, by omega, hz0, hs0, hin, hin, by omega, by omega, trivial⟩, fun u hu => ?_⟩
                subst hu
                refine mCome_mk (r := s + 0) 3 (z4 + 1) hk2.1 hk2.2.1 hoff ⟨by omega, by omega⟩ (by omega) (fun q => absurd q (by decide)) (fun q => absurd q (by decide)) (fun _ => ?_) (fun q => absurd q (by decide)) (fun q => absurd q (by decide))
                dsimp only
                rw [upd_s, show (0 : Int32).toInt = 0 by decide]
                exact ⟨Int.le_refl _, by omega, by omega, by show _ ≤ z.2.1.toInt - _; omega⟩
              · simp only [if_neg c2]
                refine ⟨⟨hz1, hp0, by omega, hz1, c00, hin, hin, hz1, hp0, by omega, hz0, hs0, hin, trivial⟩, fun u hu => ?_⟩
                subst hu
                exact mCome_fail hk2.1 hk2.2.1 (fun j hj => ⟨rfl, rfl, (hoff j hj).1, (hoff j hj).2⟩)
            · simp only [if_neg c1]
              have hk3 := hk2.2.2 c1
              have hoff : ∀ j, j ≠ D → (upd (upd ch D 0) D 1) j = ch j ∧ (upd le D 0) j = le j := fun j hj => ⟨by rw [upd_o _ _ hj, upd_o _ _ hj], upd_o _ _ hj⟩
              by_cases c2 : z.2.2 = 0
              · simp only [if_pos c2]
                refine ⟨⟨hz1, hp0, by omega, hz1, c00, hin, hin, hz1, hp0, by omega, hz0, hs0, hin, hin, by omega, by omega, trivial⟩, fun u hu => ?_⟩
                subst hu
                refine mCome_mk (r := s + 1) 3 (z4 + 1) hk2.1 hk2.2.1 hoff ⟨by omega, by omega⟩ (by omega) (fun q => absurd q (by decide)) (fun q => absurd q (by decide)) (fun _ => ?_) (fun q => absurd q (by decide)) (fun q => absurd q (by decide))
                dsimp only
                rw [upd_s, show (1 : Int32).toInt = 1 by decide]
                exact ⟨by omega, by omega, by omega, by show _ ≤ z.2.1.toInt - _; omega⟩
              · simp only [if_neg c2]
                refine ⟨⟨hz1, hp0, by omega, hz1, c00, hin, hin, hz1, hp0, by omega, hz0, hs0, hin, trivial⟩, fun u hu => ?_⟩
                subst hu
                exact mCome_fail hk2.1 hk2.2.1 (fun j hj => ⟨rfl, rfl, (hoff j hj).1, (hoff j hj).2⟩)
          · simp only [if_neg c63]
            by_cases c1 : z.1 = 0
            · simp only [if_pos c1]
              refine ⟨⟨hz1, hp0, by omega, hz1, c00, hin, hin, hz1, hp0, by omega, hz0, hs0, trivial⟩, fun u hu => ?_⟩
              subst hu
              exact mCome_fail hk2.1 hk2.2.1 (fun j hj => ⟨rfl, rfl, (hoff0 j hj).1, (hoff0 j hj).2⟩)
            · simp only [if_neg c1]
              have hk3 := hk2.2.2 c1
              refine ⟨⟨hz1, hp0, by omega, hz1, c00, hin, hin, hz1, hp0, by omega, hz0, hs0, by omega, by omega, trivial⟩, fun u hu => ?_⟩
              subst hu
              exact mCome_mk (r := s + 1) 0 z4 hk2.1 hk2.2.1 hoff0 ⟨by omega, by omega⟩ (by omega) (fun q => absurd q (by decide)) (fun q => absurd q (by decide)) (fun q => absurd q (by decide)) (fun q => absurd q (by decide)) (fun q => absurd q (by decide))
  · simp only [if_neg c0]
    refine ⟨⟨hz1, hp0, by omega, trivial⟩, fun u hu => ?_⟩
    subst hu
    exact mCome_fail (Int.le_refl _) hl1 same4

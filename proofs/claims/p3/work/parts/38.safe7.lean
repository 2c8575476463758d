set_option maxHeartbeats 8000000 in
theorem lk_replaceL {x1 x2 : Int32} {rows sizes : Nat → Int32} (hz1 : (sizes 1).toInt ≤ 512) (hz00 : 0 ≤ (sizes 0).toInt) (hz0 : (sizes 0).toInt ≤ 4096) (hz20 : 0 ≤ (sizes 2).toInt) (hz2 : (sizes 2).toInt ≤ 512) :
    ∀ (k : Nat) (x3 x4 x5 x6 ms dp en cc lo tr fd : Int32) (md bg pl kd nx ch le cb cl : Nat → Int32), 0 < k → (¬ x6 = 0 → 2 * ((sizes 0).toInt - x4.toInt) + (if x5 = x4 then 0 else 1) + 1 < (k : Int)) → 0 ≤ x4.toInt → x4.toInt ≤ (sizes 0).toInt → 0 ≤ ms.toInt → ms.toInt ≤ 8192 → 0 ≤ lo.toInt → lo.toInt ≤ 100000 → cc.toInt ≤ 33 →
      g_X5_replace_L0 k rows sizes ms dp en cc lo tr fd md bg pl kd nx ch le cb cl x1 x2 x3 x4 x5 x6 ∧ ∀ u, u = f_X5_replace_L0 k rows sizes ms dp en cc lo tr fd md bg pl kd nx ch le cb cl x1 x2 x3 x4 x5 x6 → (0 ≤ u.2.1.toInt ∧ u.2.1.toInt ≤ 8192) ∧ u.2.2.2.2.1.toInt ≤ 33 := by
  intro k
  induction k with
  | zero =>
    intro x3 x4 x5 x6 ms dp en cc lo tr fd md bg pl kd nx ch le cb cl hk
    exact absurd hk (Nat.not_lt_zero _)
  | succ k ih =>
    intro x3 x4 x5 x6 ms dp en cc lo tr fd md bg pl kd nx ch le cb cl _ hk h40 h41 hm0 hm1 hl0 hl1 hcc
    rw [g_X5_replace_L0_s, f_X5_replace_L0_s]
    have hA := pf_X5_makeAll (m_trouble := tr) (m_rows := rows) (m_made := md) (a1 := x4) (a2 := sizes 0) hz0 h40 hm0 hm1 rfl
    have exitF : ∀ (y : Int32), ∀ u, u = kb (f_X5_makeAll ms tr rows sizes md x4 (sizes 0)) (fun z => if z.2.1 = 0 then (x3, z.1, dp, en, cc, lo, z.2.1, fd, z.2.2, bg, pl, kd, nx, ch, le, cb, cl) else (z.2.1, y, dp, en, cc, lo, z.2.1, fd, z.2.2, bg, pl, kd, nx, ch, le, cb, cl)) → (0 ≤ y.toInt ∧ y.toInt ≤ 8192) → (0 ≤ u.2.1.toInt ∧ u.2.1.toInt ≤ 8192) ∧ u.2.2.2.2.1.toInt ≤ 33 := by
      intro y u hu hy
      unfold kb at hu
      dsimp only at hu
      split at hu
      · subst hu
        exact ⟨hA, hcc⟩
      · subst hu
        exact ⟨hy, hcc⟩
    by_cases c6 : x6 = 0
    · simp only [if_pos c6]
      exact ⟨⟨hz0, h40, hm0, hm1, kg_in (fun z _ => by split <;> trivial)⟩, fun u hu => exitF 0 u hu (by decide)⟩
    · simp only [if_neg c6]
      have hk := hk c6
      have hk0 : 0 < k := by
        have : 0 ≤ (if x5 = x4 then (0 : Int) else 1) := by split <;> decide
        omega
      by_cases c1 : x1 ≤ x3
      · simp only [if_pos c1]
        exact ⟨⟨hz0, h40, hm0, hm1, kg_in (fun z _ => by split <;> trivial)⟩, fun u hu => exitF 0 u hu (by decide)⟩
      · simp only [if_neg c1]
        by_cases ct : tr = 0
        · simp only [if_pos ct]
          by_cases c2 : x2 = 0
          · simp only [if_pos c2]
            have hm := lk_matches (s0 := x4) (p0 := 0) (dp := dp) (en := en) (cc := cc) (lo := lo) (tr := tr) (rows := rows) (sizes := sizes) (bg := bg) (pl := pl) (kd := kd) (nx := nx) (ch := ch) (le := le) (cb := cb) (cl := cl) hz1 hz00 hz0 h40 h41 (by decide) hl0 hl1 hcc
            obtain ⟨hmg, hmf⟩ := hm
            have hmf := hmf _ rfl
            generalize f_X5_matches dp en cc lo tr rows sizes bg pl kd nx ch le cb cl 0 x4 = z at hmf ⊢
            obtain ⟨a1, a2, a3, a4⟩ := hmf
            have e1 := kx_addK x4 (y := 1) (k := 1) (by decide)
            have hmk := fun (c : Int32) => pf_X5_make (m_trouble := z.2.2.2.2.2.1) (m_made := md) (a1 := c) hm0 hm1 rfl
            have hfi : 0 ≤ (if x5 = x4 then (0 : Int) else 1) := by split <;> decide
            have hif : (if x5 = x4 + 1 then (0 : Int) else 1) ≤ 1 := by split <;> decide
            unfold kb
            dsimp only
            have h0 := ih x3 x4 x5 0 ms z.2.1 z.2.2.1 z.2.2.2.1 z.2.2.2.2.1 z.2.2.2.2.2.1 fd md z.2.2.2.2.2.2.1 z.2.2.2.2.2.2.2.1 z.2.2.2.2.2.2.2.2.1 z.2.2.2.2.2.2.2.2.2.1 z.2.2.2.2.2.2.2.2.2.2.1 z.2.2.2.2.2.2.2.2.2.2.2.1 z.2.2.2.2.2.2.2.2.2.2.2.2.1 z.2.2.2.2.2.2.2.2.2.2.2.2.2 hk0 (fun q => absurd rfl q) h40 h41 hm0 hm1 (by omega) a2 a3
            have h1 := fun (hlt : x4.toInt < (sizes 0).toInt) (c : Int32) => ih x3 (x4 + 1) x5 1 (f_X5_make ms z.2.2.2.2.2.1 md c).1 z.2.1 z.2.2.1 z.2.2.2.1 z.2.2.2.2.1 (f_X5_make ms z.2.2.2.2.2.1 md c).2.1 fd (f_X5_make ms z.2.2.2.2.2.1 md c).2.2 z.2.2.2.2.2.2.1 z.2.2.2.2.2.2.2.1 z.2.2.2.2.2.2.2.2.1 z.2.2.2.2.2.2.2.2.2.1 z.2.2.2.2.2.2.2.2.2.2.1 z.2.2.2.2.2.2.2.2.2.2.2.1 z.2.2.2.2.2.2.2.2.2.2.2.2.1 z.2.2.2.2.2.2.2.2.2.2.2.2.2 hk0 (fun _ => by omega) (by omega) (by omega) (hmk c).1 (hmk c).2 (by omega) a2 a3
            have nom : ∀ (hx : True), (if z.2.2.2.2.2.1 = 0 then (if sizes 0 ≤ x4 then g_X5_replace_L0 k rows sizes ms z.2.1 z.2.2.1 z.2.2.2.1 z.2.2.2.2.1 z.2.2.2.2.2.1 fd md z.2.2.2.2.2.2.1 z.2.2.2.2.2.2.2.1 z.2.2.2.2.2.2.2.2.1 z.2.2.2.2.2.2.2.2.2.1 z.2.2.2.2.2.2.2.2.2.2.1 z.2.2.2.2.2.2.2.2.2.2.2.1 z.2.2.2.2.2.2.2.2.2.2.2.2.1 z.2.2.2.2.2.2.2.2.2.2.2.2.2 x1 x2 x3 x4 x5 0 else ((sizes 0).toInt ≤ 4096 ∧ 0 ≤ x4.toInt ∧ 0 ≤ ms.toInt ∧ ms.toInt ≤ 8192 ∧ g_X5_replace_L0 k rows sizes (f_X5_make ms z.2.2.2.2.2.1 md (f_X5_at_0 rows sizes x4)).1 z.2.1 z.2.2.1 z.2.2.2.1 z.2.2.2.2.1 (f_X5_make ms z.2.2.2.2.2.1 md (f_X5_at_0 rows sizes x4)).2.1 fd (f_X5_make ms z.2.2.2.2.2.1 md (f_X5_at_0 rows sizes x4)).2.2 z.2.2.2.2.2.2.1 z.2.2.2.2.2.2.2.1 z.2.2.2.2.2.2.2.2.1 z.2.2.2.2.2.2.2.2.2.1 z.2.2.2.2.2.2.2.2.2.2.1 z.2.2.2.2.2.2.2.2.2.2.2.1 z.2.2.2.2.2.2.2.2.2.2.2.2.1 z.2.2.2.2.2.2.2.2.2.2.2.2.2 x1 x2 x3 (x4 + 1) x5 1)) else g_X5_replace_L0 k rows sizes ms z.2.1 z.2.2.1 z.2.2.2.1 z.2.2.2.2.1 z.2.2.2.2.2.1 fd md z.2.2.2.2.2.2.1 z.2.2.2.2.2.2.2.1 z.2.2.2.2.2.2.2.2.1 z.2.2.2.2.2.2.2.2.2.1 z.2.2.2.2.2.2.2.2.2.2.1 z.2.2.2.2.2.2.2.2.2.2.2.1 z.2.2.2.2.2.2.2.2.2.2.2.2.1 z.2.2.2.2.2.2.2.2.2.2.2.2.2 x1 x2 x3 x4 x5 0) ∧ ∀ u, u = (if z.2.2.2.2.2.1 = 0 then (if sizes 0 ≤ x4 then f_X5_replace_L0 k rows sizes ms z.2.1 z.2.2.1 z.2.2.2.1 z.2.2.2.2.1 z.2.2.2.2.2.1 fd md z.2.2.2.2.2.2.1 z.2.2.2.2.2.2.2.1 z.2.2.2.2.2.2.2.2.1 z.2.2.2.2.2.2.2.2.2.1 z.2.2.2.2.2.2.2.2.2.2.1 z.2.2.2.2.2.2.2.2.2.2.2.1 z.2.2.2.2.2.2.2.2.2.2.2.2.1 z.2.2.2.2.2.2.2.2.2.2.2.2.2 x1 x2 x3 x4 x5 0 else f_X5_replace_L0 k rows sizes (f_X5_make ms z.2.2.2.2.2.1 md (f_X5_at_0 rows sizes x4)).1 z.2.1 z.2.2.1 z.2.2.2.1 z.2.2.2.2.1 (f_X5_make ms z.2.2.2.2.2.1 md (f_X5_at_0 rows sizes x4)).2.1 fd (f_X5_make ms z.2.2.2.2.2.1 md (f_X5_at_0 rows sizes x4)).2.2 z.2.2.2.2.2.2.1 z.2.2.2.2.2.2.2.1 z.2.2.2.2.2.2.2.2.1 z.2.2.2.2.2.2.2.2.2.1 z.2.2.2.2.2.2.2.2.2.2.1 z.2.2.2.2.2.2.2.2.2.2.2.1 z.2.2.2.2.2.2.2.2.2.2.2.2.1 z.2.2.2.2.2.2.2.2.2.2.2.2.2 x1 x2 x3 (x4 + 1) x5 1) else f_X5_replace_L0 k rows sizes ms z.2.1 z.2.2.1 z.2.2.2.1 z.2.2.2.2.1 z.2.2.2.2.2.1 fd md z.2.2.2.2.2.2.1 z.2.2.2.2.2.2.2.1 z.2.2.2.2.2.2.2.2.1 z.2.2.2.2.2.2.2.2.2.1 z.2.2.2.2.2.2.2.2.2.2.1 z.2.2.2.2.2.2.2.2.2.2.2.1 z.2.2.2.2.2.2.2.2.2.2.2.2.1 z.2.2.2.2.2.2.2.2.2.2.2.2.2 x1 x2 x3 x4 x5 0) → (0 ≤ u.2.1.toInt ∧ u.2.1.toInt ≤ 8192) ∧ u.2.2.2.2.1.toInt ≤ 33 := by
              intro _
              by_cases q1 : z.2.2.2.2.2.1 = 0
              · simp only [if_pos q1]
                by_cases q2 : sizes 0 ≤ x4
                · simp only [if_pos q2]
                  exact h0
                · simp only [if_neg q2]
                  have q2 := kx_nle q2
                  have h := h1 (by omega) (f_X5_at_0 rows sizes x4)
                  exact ⟨⟨hz0, h40, hm0, hm1, h.1⟩, h.2⟩
              · simp only [if_neg q1]
                exact h0
            have nom := nom trivial
            by_cases c2 : z.1 = 0
            · simp only [if_pos c2]
              exact ⟨⟨hmg, nom.1⟩, nom.2⟩
            · simp only [if_neg c2]
              obtain ⟨b1, b2, b3⟩ := a4 c2
              by_cases c3 : z.2.2.1 = x5
              · simp only [if_pos c3]
                exact ⟨⟨hmg, nom.1⟩, nom.2⟩
              · simp only [if_neg c3]
                have hr := lk_makeRL (en := z.2.2.1) (cc := z.2.2.2.1) (x1 := x4) (rows := rows) (sizes := sizes) (cb := z.2.2.2.2.2.2.2.2.2.2.2.2.1) (cl := z.2.2.2.2.2.2.2.2.2.2.2.2.2) hz0 hz2 h40 a3 b3 kFuel 0 ms z.2.2.2.2.2.1 md (by unfold kFuel; rw [show (0 : Int32).toInt = 0 by decide]; omega) (by decide) hm0 hm1
                have hrg : g_X5_makeReplacement ms z.2.2.1 z.2.2.2.1 z.2.2.2.2.2.1 rows sizes md z.2.2.2.2.2.2.2.2.2.2.2.2.1 z.2.2.2.2.2.2.2.2.2.2.2.2.2 x4 := hr.1
                have hrf := hr.2 _ rfl
                have hre : f_X5_makeReplacement ms z.2.2.1 z.2.2.2.1 z.2.2.2.2.2.1 rows sizes md z.2.2.2.2.2.2.2.2.2.2.2.2.1 z.2.2.2.2.2.2.2.2.2.2.2.2.2 x4 = f_X5_makeReplacement_L0 kFuel z.2.2.1 z.2.2.2.1 rows sizes z.2.2.2.2.2.2.2.2.2.2.2.2.1 z.2.2.2.2.2.2.2.2.2.2.2.2.2 ms z.2.2.2.2.2.1 md x4 0 := rfl
                rw [← hre] at hrf
                generalize f_X5_makeReplacement ms z.2.2.1 z.2.2.2.1 z.2.2.2.2.2.1 rows sizes md z.2.2.2.2.2.2.2.2.2.2.2.2.1 z.2.2.2.2.2.2.2.2.2.2.2.2.2 x4 = y at hrf ⊢
                have hmu : 2 * ((sizes 0).toInt - z.2.2.1.toInt) + 0 + 1 < (k : Int) := by
                  by_cases q : x5 = x4
                  · rw [if_pos q] at hk
                    have : z.2.2.1.toInt ≠ x4.toInt := fun w => c3 (by rw [q]; exact Int32.toInt_inj.mp w)
                    omega
                  · rw [if_neg q] at hk
                    omega
                have h := ih (x3 + 1) z.2.2.1 z.2.2.1 1 y.1 z.2.1 z.2.2.1 z.2.2.2.1 z.2.2.2.2.1 y.2.1 fd y.2.2 z.2.2.2.2.2.2.1 z.2.2.2.2.2.2.2.1 z.2.2.2.2.2.2.2.2.1 z.2.2.2.2.2.2.2.2.2.1 z.2.2.2.2.2.2.2.2.2.2.1 z.2.2.2.2.2.2.2.2.2.2.2.1 z.2.2.2.2.2.2.2.2.2.2.2.2.1 z.2.2.2.2.2.2.2.2.2.2.2.2.2 hk0 (fun _ => by rw [if_pos rfl]; exact hmu) (by omega) b1.2 hrf.1 hrf.2 (by omega) a2 a3
                exact ⟨⟨hmg, hrg, h.1⟩, h.2⟩
          · simp only [if_neg c2]
            have hm := lk_matches (s0 := x4) (p0 := 1) (dp := dp) (en := en) (cc := cc) (lo := lo) (tr := tr) (rows := rows) (sizes := sizes) (bg := bg) (pl := pl) (kd := kd) (nx := nx) (ch := ch) (le := le) (cb := cb) (cl := cl) hz1 hz00 hz0 h40 h41 (by decide) hl0 hl1 hcc
            obtain ⟨hmg, hmf⟩ := hm
            have hmf := hmf _ rfl
            generalize f_X5_matches dp en cc lo tr rows sizes bg pl kd nx ch le cb cl 1 x4 = z at hmf ⊢
            obtain ⟨a1, a2, a3, a4⟩ := hmf
            have e1 := kx_addK x4 (y := 1) (k := 1) (by decide)
            have hmk := fun (c : Int32) => pf_X5_make (m_trouble := z.2.2.2.2.2.1) (m_made := md) (a1 := c) hm0 hm1 rfl
            have hfi : 0 ≤ (if x5 = x4 then (0 : Int) else 1) := by split <;> decide
            have hif : (if x5 = x4 + 1 then (0 : Int) else 1) ≤ 1 := by split <;> decide
            unfold kb
            dsimp only
            have h0 := ih x3 x4 x5 0 ms z.2.1 z.2.2.1 z.2.2.2.1 z.2.2.2.2.1 z.2.2.2.2.2.1 fd md z.2.2.2.2.2.2.1 z.2.2.2.2.2.2.2.1 z.2.2.2.2.2.2.2.2.1 z.2.2.2.2.2.2.2.2.2.1 z.2.2.2.2.2.2.2.2.2.2.1 z.2.2.2.2.2.2.2.2.2.2.2.1 z.2.2.2.2.2.2.2.2.2.2.2.2.1 z.2.2.2.2.2.2.2.2.2.2.2.2.2 hk0 (fun q => absurd rfl q) h40 h41 hm0 hm1 (by omega) a2 a3
            have h1 := fun (hlt : x4.toInt < (sizes 0).toInt) (c : Int32) => ih x3 (x4 + 1) x5 0 (f_X5_make ms z.2.2.2.2.2.1 md c).1 z.2.1 z.2.2.1 z.2.2.2.1 z.2.2.2.2.1 (f_X5_make ms z.2.2.2.2.2.1 md c).2.1 fd (f_X5_make ms z.2.2.2.2.2.1 md c).2.2 z.2.2.2.2.2.2.1 z.2.2.2.2.2.2.2.1 z.2.2.2.2.2.2.2.2.1 z.2.2.2.2.2.2.2.2.2.1 z.2.2.2.2.2.2.2.2.2.2.1 z.2.2.2.2.2.2.2.2.2.2.2.1 z.2.2.2.2.2.2.2.2.2.2.2.2.1 z.2.2.2.2.2.2.2.2.2.2.2.2.2 hk0 (fun _ => by omega) (by omega) (by omega) (hmk c).1 (hmk c).2 (by omega) a2 a3
            have nom : ∀ (hx : True), (if z.2.2.2.2.2.1 = 0 then (if sizes 0 ≤ x4 then g_X5_replace_L0 k rows sizes ms z.2.1 z.2.2.1 z.2.2.2.1 z.2.2.2.2.1 z.2.2.2.2.2.1 fd md z.2.2.2.2.2.2.1 z.2.2.2.2.2.2.2.1 z.2.2.2.2.2.2.2.2.1 z.2.2.2.2.2.2.2.2.2.1 z.2.2.2.2.2.2.2.2.2.2.1 z.2.2.2.2.2.2.2.2.2.2.2.1 z.2.2.2.2.2.2.2.2.2.2.2.2.1 z.2.2.2.2.2.2.2.2.2.2.2.2.2 x1 x2 x3 x4 x5 0 else ((sizes 0).toInt ≤ 4096 ∧ 0 ≤ x4.toInt ∧ 0 ≤ ms.toInt ∧ ms.toInt ≤ 8192 ∧ g_X5_replace_L0 k rows sizes (f_X5_make ms z.2.2.2.2.2.1 md (f_X5_at_0 rows sizes x4)).1 z.2.1 z.2.2.1 z.2.2.2.1 z.2.2.2.2.1 (f_X5_make ms z.2.2.2.2.2.1 md (f_X5_at_0 rows sizes x4)).2.1 fd (f_X5_make ms z.2.2.2.2.2.1 md (f_X5_at_0 rows sizes x4)).2.2 z.2.2.2.2.2.2.1 z.2.2.2.2.2.2.2.1 z.2.2.2.2.2.2.2.2.1 z.2.2.2.2.2.2.2.2.2.1 z.2.2.2.2.2.2.2.2.2.2.1 z.2.2.2.2.2.2.2.2.2.2.2.1 z.2.2.2.2.2.2.2.2.2.2.2.2.1 z.2.2.2.2.2.2.2.2.2.2.2.2.2 x1 x2 x3 (x4 + 1) x5 0)) else g_X5_replace_L0 k rows sizes ms z.2.1 z.2.2.1 z.2.2.2.1 z.2.2.2.2.1 z.2.2.2.2.2.1 fd md z.2.2.2.2.2.2.1 z.2.2.2.2.2.2.2.1 z.2.2.2.2.2.2.2.2.1 z.2.2.2.2.2.2.2.2.2.1 z.2.2.2.2.2.2.2.2.2.2.1 z.2.2.2.2.2.2.2.2.2.2.2.1 z.2.2.2.2.2.2.2.2.2.2.2.2.1 z.2.2.2.2.2.2.2.2.2.2.2.2.2 x1 x2 x3 x4 x5 0) ∧ ∀ u, u = (if z.2.2.2.2.2.1 = 0 then (if sizes 0 ≤ x4 then f_X5_replace_L0 k rows sizes ms z.2.1 z.2.2.1 z.2.2.2.1 z.2.2.2.2.1 z.2.2.2.2.2.1 fd md z.2.2.2.2.2.2.1 z.2.2.2.2.2.2.2.1 z.2.2.2.2.2.2.2.2.1 z.2.2.2.2.2.2.2.2.2.1 z.2.2.2.2.2.2.2.2.2.2.1 z.2.2.2.2.2.2.2.2.2.2.2.1 z.2.2.2.2.2.2.2.2.2.2.2.2.1 z.2.2.2.2.2.2.2.2.2.2.2.2.2 x1 x2 x3 x4 x5 0 else f_X5_replace_L0 k rows sizes (f_X5_make ms z.2.2.2.2.2.1 md (f_X5_at_0 rows sizes x4)).1 z.2.1 z.2.2.1 z.2.2.2.1 z.2.2.2.2.1 (f_X5_make ms z.2.2.2.2.2.1 md (f_X5_at_0 rows sizes x4)).2.1 fd (f_X5_make ms z.2.2.2.2.2.1 md (f_X5_at_0 rows sizes x4)).2.2 z.2.2.2.2.2.2.1 z.2.2.2.2.2.2.2.1 z.2.2.2.2.2.2.2.2.1 z.2.2.2.2.2.2.2.2.2.1 z.2.2.2.2.2.2.2.2.2.2.1 z.2.2.2.2.2.2.2.2.2.2.2.1 z.2.2.2.2.2.2.2.2.2.2.2.2.1 z.2.2.2.2.2.2.2.2.2.2.2.2.2 x1 x2 x3 (x4 + 1) x5 0) else f_X5_replace_L0 k rows sizes ms z.2.1 z.2.2.1 z.2.2.2.1 z.2.2.2.2.1 z.2.2.2.2.2.1 fd md z.2.2.2.2.2.2.1 z.2.2.2.2.2.2.2.1 z.2.2.2.2.2.2.2.2.1 z.2.2.2.2.2.2.2.2.2.1 z.2.2.2.2.2.2.2.2.2.2.1 z.2.2.2.2.2.2.2.2.2.2.2.1 z.2.2.2.2.2.2.2.2.2.2.2.2.1 z.2.2.2.2.2.2.2.2.2.2.2.2.2 x1 x2 x3 x4 x5 0) → (0 ≤ u.2.1.toInt ∧ u.2.1.toInt ≤ 8192) ∧ u.2.2.2.2.1.toInt ≤ 33 := by
              intro _
              by_cases q1 : z.2.2.2.2.2.1 = 0
              · simp only [if_pos q1]
                by_cases q2 : sizes 0 ≤ x4
                · simp only [if_pos q2]
                  exact h0
                · simp only [if_neg q2]
                  have q2 := kx_nle q2
                  have h := h1 (by omega) (f_X5_at_0 rows sizes x4)
                  exact ⟨⟨hz0, h40, hm0, hm1, h.1⟩, h.2⟩
              · simp only [if_neg q1]
                exact h0
            have nom := nom trivial
            by_cases c2 : z.1 = 0
            · simp only [if_pos c2]
              exact ⟨⟨hmg, nom.1⟩, nom.2⟩
            · simp only [if_neg c2]
              obtain ⟨b1, b2, b3⟩ := a4 c2
              by_cases c3 : z.2.2.1 = x5
              · simp only [if_pos c3]
                exact ⟨⟨hmg, nom.1⟩, nom.2⟩
              · simp only [if_neg c3]
                have hr := lk_makeRL (en := z.2.2.1) (cc := z.2.2.2.1) (x1 := x4) (rows := rows) (sizes := sizes) (cb := z.2.2.2.2.2.2.2.2.2.2.2.2.1) (cl := z.2.2.2.2.2.2.2.2.2.2.2.2.2) hz0 hz2 h40 a3 b3 kFuel 0 ms z.2.2.2.2.2.1 md (by unfold kFuel; rw [show (0 : Int32).toInt = 0 by decide]; omega) (by decide) hm0 hm1
                have hrg : g_X5_makeReplacement ms z.2.2.1 z.2.2.2.1 z.2.2.2.2.2.1 rows sizes md z.2.2.2.2.2.2.2.2.2.2.2.2.1 z.2.2.2.2.2.2.2.2.2.2.2.2.2 x4 := hr.1
                have hrf := hr.2 _ rfl
                have hre : f_X5_makeReplacement ms z.2.2.1 z.2.2.2.1 z.2.2.2.2.2.1 rows sizes md z.2.2.2.2.2.2.2.2.2.2.2.2.1 z.2.2.2.2.2.2.2.2.2.2.2.2.2 x4 = f_X5_makeReplacement_L0 kFuel z.2.2.1 z.2.2.2.1 rows sizes z.2.2.2.2.2.2.2.2.2.2.2.2.1 z.2.2.2.2.2.2.2.2.2.2.2.2.2 ms z.2.2.2.2.2.1 md x4 0 := rfl
                rw [← hre] at hrf
                generalize f_X5_makeReplacement ms z.2.2.1 z.2.2.2.1 z.2.2.2.2.2.1 rows sizes md z.2.2.2.2.2.2.2.2.2.2.2.2.1 z.2.2.2.2.2.2.2.2.2.2.2.2.2 x4 = y at hrf ⊢
                have hmu : 2 * ((sizes 0).toInt - z.2.2.1.toInt) + 0 + 1 < (k : Int) := by
                  by_cases q : x5 = x4
                  · rw [if_pos q] at hk
                    have : z.2.2.1.toInt ≠ x4.toInt := fun w => c3 (by rw [q]; exact Int32.toInt_inj.mp w)
                    omega
                  · rw [if_neg q] at hk
                    omega
                have h := ih (x3 + 1) z.2.2.1 z.2.2.1 0 y.1 z.2.1 z.2.2.1 z.2.2.2.1 z.2.2.2.2.1 y.2.1 fd y.2.2 z.2.2.2.2.2.2.1 z.2.2.2.2.2.2.2.1 z.2.2.2.2.2.2.2.2.1 z.2.2.2.2.2.2.2.2.2.1 z.2.2.2.2.2.2.2.2.2.2.1 z.2.2.2.2.2.2.2.2.2.2.2.1 z.2.2.2.2.2.2.2.2.2.2.2.2.1 z.2.2.2.2.2.2.2.2.2.2.2.2.2 hk0 (fun _ => by rw [if_pos rfl]; exact hmu) (by omega) b1.2 hrf.1 hrf.2 (by omega) a2 a3
                exact ⟨⟨hmg, hrg, h.1⟩, h.2⟩
        · simp only [if_neg ct]
          exact ⟨⟨hz0, h40, hm0, hm1, kg_in (fun z _ => by split <;> trivial)⟩, fun u hu => exitF 0 u hu (by decide)⟩
theorem lk_replace {ms dp en cc lo tr fd a1 : Int32} {rows sizes md bg pl kd nx ch le cb cl : Nat → Int32} (hz1 : (sizes 1).toInt ≤ 512) (hz00 : 0 ≤ (sizes 0).toInt) (hz0 : (sizes 0).toInt ≤ 4096) (hz20 : 0 ≤ (sizes 2).toInt) (hz2 : (sizes 2).toInt ≤ 512) (hm0 : 0 ≤ ms.toInt) (hm1 : ms.toInt ≤ 8192) (hcc : cc.toInt ≤ 33) :
    g_X5_replace ms dp en cc lo tr fd rows sizes md bg pl kd nx ch le cb cl a1 ∧ ∀ u, u = f_X5_replace ms dp en cc lo tr fd rows sizes md bg pl kd nx ch le cb cl a1 → (0 ≤ u.2.1.toInt ∧ u.2.1.toInt ≤ 8192) ∧ u.2.2.2.2.1.toInt ≤ 33 := by
  unfold g_X5_replace f_X5_replace
  by_cases c1 : (0 : Int32) ≤ a1
  · simp only [if_pos c1]
    unfold kb
    dsimp only
    have h := lk_replaceL (x1 := a1) (x2 := f_X5_isAnchored rows sizes) (rows := rows) (sizes := sizes) hz1 hz00 hz0 hz20 hz2 kFuel 0 0 (-1) 1 0 dp en cc 0 0 0 md bg pl kd nx ch le cb cl (by unfold kFuel; omega) (fun _ => by
      have : (if (-1 : Int32) = 0 then (0 : Int) else 1) ≤ 1 := by decide
      rw [show (0 : Int32).toInt = 0 by decide]
      show _ < ((1000000000 : Nat) : Int)
      omega) (by decide) hz00 (by decide) (by decide) (by decide) (by decide) hcc
    exact ⟨⟨hz1, h.1⟩, h.2⟩
  · simp only [if_neg c1]
    refine ⟨trivial, fun u hu => ?_⟩
    subst hu
    exact ⟨⟨hm0, hm1⟩, hcc⟩

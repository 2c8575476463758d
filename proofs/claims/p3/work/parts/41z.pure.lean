theorem ty_L0 (mt fd : Int32) (x1 : Int32) (x2 : Int64) (x4 : Int32) : ∀ (k : Nat) (tl : Int32) (tb : Nat → Int32) (pl : Int32) (pb : Nat → Int32) (rl : Int32) (rb : Nat → Int32) (rows sizes : Nat → Int32) (x6 : Int32), (x6.toInt + 1).toNat < k → 0 ≤ tl.toInt → tl.toInt + x6.toInt < 4096 → sizes 0 = tl → sizes 1 = pl → sizes 2 = rl → (f_X4_type_L0 k mt tl tb pl pb rl rb x1 x2 x4 x6).1 = (f_X5_type_L0 k fd rows sizes x2 x4 x6).1 ∧ (f_X5_type_L0 k fd rows sizes x2 x4 x6).2.2.2 0 = (f_X4_type_L0 k mt tl tb pl pb rl rb x1 x2 x4 x6).2.2.1 ∧ (f_X5_type_L0 k fd rows sizes x2 x4 x6).2.2.2 1 = (f_X4_type_L0 k mt tl tb pl pb rl rb x1 x2 x4 x6).2.2.2.2.1 ∧ (f_X5_type_L0 k fd rows sizes x2 x4 x6).2.2.2 2 = (f_X4_type_L0 k mt tl tb pl pb rl rb x1 x2 x4 x6).2.2.2.2.2.2.1 := by
  intro k
  induction k with
  | zero =>
    intro tl tb pl pb rl rb rows sizes x6 hk
    exact absurd hk (Nat.not_lt_zero _)
  | succ k ih =>
    intro tl tb pl pb rl rb rows sizes x6 hk h0 h1 s0 s1 s2
    rw [f_X4_type_L0_s, f_X5_type_L0_s]
    by_cases c : x6 < 0
    · rw [if_pos c, if_pos c]
      exact ⟨s0.symm, s0, s1, s2⟩
    · rw [if_neg c, if_neg c]
      have hc := kb_nlt0 c
      have hne : ¬ nI 4096 ≤ tl := by
        intro q
        have h9 := Int32.le_iff_toInt_le.mp q
        rw [nI_toInt (by decide)] at h9
        omega
      simp only [f_X0_add, if_neg hne, kb]
      have e1 : (tl + 1).toInt = tl.toInt + 1 := kx_inc (K := nI 4096) hne
      have e2 : (x6 + (-1)).toInt = x6.toInt - 1 := kx_dec c
      exact ih _ _ _ _ _ _ _ _ _ (by rw [e2]; omega) (by rw [e1]; omega) (by rw [e1, e2]; omega) (show sizes 0 + 1 = tl + 1 by rw [s0]) s1 s2
theorem ty_L0b (mt fd : Int32) (x1 : Int32) (x2 : Int64) (x4 : Int32) : ∀ (k : Nat) (tl : Int32) (tb : Nat → Int32) (pl : Int32) (pb : Nat → Int32) (rl : Int32) (rb : Nat → Int32) (rows sizes : Nat → Int32) (x6 : Int32), (x6.toInt + 1).toNat < k → 0 ≤ pl.toInt → pl.toInt + x6.toInt < 512 → sizes 0 = tl → sizes 1 = pl → sizes 2 = rl → (f_X4_type_L0b k mt tl tb pl pb rl rb x1 x2 x4 x6).1 = (f_X5_type_L0b k fd rows sizes x2 x4 x6).1 ∧ (f_X5_type_L0b k fd rows sizes x2 x4 x6).2.2.2 0 = (f_X4_type_L0b k mt tl tb pl pb rl rb x1 x2 x4 x6).2.2.1 ∧ (f_X5_type_L0b k fd rows sizes x2 x4 x6).2.2.2 1 = (f_X4_type_L0b k mt tl tb pl pb rl rb x1 x2 x4 x6).2.2.2.2.1 ∧ (f_X5_type_L0b k fd rows sizes x2 x4 x6).2.2.2 2 = (f_X4_type_L0b k mt tl tb pl pb rl rb x1 x2 x4 x6).2.2.2.2.2.2.1 := by
  intro k
  induction k with
  | zero =>
    intro tl tb pl pb rl rb rows sizes x6 hk
    exact absurd hk (Nat.not_lt_zero _)
  | succ k ih =>
    intro tl tb pl pb rl rb rows sizes x6 hk h0 h1 s0 s1 s2
    rw [f_X4_type_L0b_s, f_X5_type_L0b_s]
    by_cases c : x6 < 0
    · rw [if_pos c, if_pos c]
      exact ⟨s1.symm, s0, s1, s2⟩
    · rw [if_neg c, if_neg c]
      have hc := kb_nlt0 c
      have hne : ¬ nI 512 ≤ pl := by
        intro q
        have h9 := Int32.le_iff_toInt_le.mp q
        rw [nI_toInt (by decide)] at h9
        omega
      simp only [f_X0_add, if_neg hne, kb]
      have e1 : (pl + 1).toInt = pl.toInt + 1 := kx_inc (K := nI 512) hne
      have e2 : (x6 + (-1)).toInt = x6.toInt - 1 := kx_dec c
      exact ih _ _ _ _ _ _ _ _ _ (by rw [e2]; omega) (by rw [e1]; omega) (by rw [e1, e2]; omega) s0 (show sizes 1 + 1 = pl + 1 by rw [s1]) s2
theorem ty_L0c (mt fd : Int32) (x1 : Int32) (x2 : Int64) (x4 : Int32) : ∀ (k : Nat) (tl : Int32) (tb : Nat → Int32) (pl : Int32) (pb : Nat → Int32) (rl : Int32) (rb : Nat → Int32) (rows sizes : Nat → Int32) (x6 : Int32), (x6.toInt + 1).toNat < k → 0 ≤ rl.toInt → rl.toInt + x6.toInt < 512 → sizes 0 = tl → sizes 1 = pl → sizes 2 = rl → (f_X4_type_L0c k mt tl tb pl pb rl rb x1 x2 x4 x6).1 = (f_X5_type_L0c k fd rows sizes x2 x4 x6).1 ∧ (f_X5_type_L0c k fd rows sizes x2 x4 x6).2.2.2 0 = (f_X4_type_L0c k mt tl tb pl pb rl rb x1 x2 x4 x6).2.2.1 ∧ (f_X5_type_L0c k fd rows sizes x2 x4 x6).2.2.2 1 = (f_X4_type_L0c k mt tl tb pl pb rl rb x1 x2 x4 x6).2.2.2.2.1 ∧ (f_X5_type_L0c k fd rows sizes x2 x4 x6).2.2.2 2 = (f_X4_type_L0c k mt tl tb pl pb rl rb x1 x2 x4 x6).2.2.2.2.2.2.1 := by
  intro k
  induction k with
  | zero =>
    intro tl tb pl pb rl rb rows sizes x6 hk
    exact absurd hk (Nat.not_lt_zero _)
  | succ k ih =>
    intro tl tb pl pb rl rb rows sizes x6 hk h0 h1 s0 s1 s2
    rw [f_X4_type_L0c_s, f_X5_type_L0c_s]
    by_cases c : x6 < 0
    · rw [if_pos c, if_pos c]
      exact ⟨s2.symm, s0, s1, s2⟩
    · rw [if_neg c, if_neg c]
      have hc := kb_nlt0 c
      have hne : ¬ nI 512 ≤ rl := by
        intro q
        have h9 := Int32.le_iff_toInt_le.mp q
        rw [nI_toInt (by decide)] at h9
        omega
      simp only [f_X0_add, if_neg hne, kb]
      have e1 : (rl + 1).toInt = rl.toInt + 1 := kx_inc (K := nI 512) hne
      have e2 : (x6 + (-1)).toInt = x6.toInt - 1 := kx_dec c
      exact ih _ _ _ _ _ _ _ _ _ (by rw [e2]; omega) (by rw [e1]; omega) (by rw [e1, e2]; omega) s0 s1 (show sizes 2 + 1 = rl + 1 by rw [s2])
theorem ty_room {n : Nat} (hn : n ≤ 4096) {l a : Int32} {K : Int32} (hK : K.toInt = n) (h0 : 0 ≤ l.toInt) (h1 : l.toInt ≤ n) (ha : ¬ a < 1) (hb : a ≤ 8) : (a ≤ nI n - l ↔ l + a ≤ K) ∧ (a ≤ nI n - l → l.toInt + (a - 1).toInt < n) ∧ 0 ≤ (a - 1).toInt := by
  have i1 := kx_nlt ha
  have i2 := Int32.le_iff_toInt_le.mp hb
  rw [show (1 : Int32).toInt = 1 by decide] at i1
  rw [show (8 : Int32).toInt = 8 by decide] at i2
  have i3 : (nI n).toInt = n := nI_toInt (by omega)
  have i4 := kx_subD (nI n) l
  have i5 := kx_addD l a
  have i6 := kx_subK a (y := 1) (k := 1) (by decide)
  refine ⟨⟨fun h => Int32.le_iff_toInt_le.mpr ?_, fun h => Int32.le_iff_toInt_le.mpr ?_⟩, fun h => ?_, ?_⟩
  · have h9 := Int32.le_iff_toInt_le.mp h
    omega
  · have h9 := Int32.le_iff_toInt_le.mp h
    omega
  · have h9 := Int32.le_iff_toInt_le.mp h
    omega
  · omega
theorem kk_out2 {a : Int32} (h0 : ¬ a = 0) (h1 : ¬ a = 1) (h2 : ¬ a = 2) (h3 : ¬ a < 0) : (2 : Int32) < a := by
  have e0 := kx_ne h0
  have e1 := kx_ne h1
  have e2 := kx_ne h2
  have e3 := kx_nlt h3
  rw [show (0 : Int32).toInt = 0 by decide] at e0 e3
  rw [show (1 : Int32).toInt = 1 by decide] at e1
  rw [show (2 : Int32).toInt = 2 by decide] at e2
  refine Int32.lt_iff_toInt_lt.mpr ?_
  rw [show (2 : Int32).toInt = 2 by decide]
  omega
set_option maxHeartbeats 4000000 in
theorem ty_eq (mt fd tl : Int32) (tb : Nat → Int32) (pl : Int32) (pb : Nat → Int32) (rl : Int32) (rb rows sizes : Nat → Int32) (a1 : Int32) (a2 : Int64) (a4 : Int32) (h0 : 0 ≤ tl.toInt) (g0 : tl.toInt ≤ 4096) (h1 : 0 ≤ pl.toInt) (g1 : pl.toInt ≤ 512) (h2 : 0 ≤ rl.toInt) (g2 : rl.toInt ≤ 512) (s0 : sizes 0 = tl) (s1 : sizes 1 = pl) (s2 : sizes 2 = rl) : (f_X4_type mt tl tb pl pb rl rb a1 a2 a4).1 = (f_X5_type fd rows sizes a1 a2 a4).1 ∧ (f_X5_type fd rows sizes a1 a2 a4).2.2.2 0 = (f_X4_type mt tl tb pl pb rl rb a1 a2 a4).2.2.1 ∧ (f_X5_type fd rows sizes a1 a2 a4).2.2.2 1 = (f_X4_type mt tl tb pl pb rl rb a1 a2 a4).2.2.2.2.1 ∧ (f_X5_type fd rows sizes a1 a2 a4).2.2.2 2 = (f_X4_type mt tl tb pl pb rl rb a1 a2 a4).2.2.2.2.2.2.1 := by
  unfold f_X4_type f_X5_type
  by_cases r0 : a1 = 0
  · rw [if_pos r0, if_pos r0]
    by_cases c1 : a4 < 1
    · rw [if_pos c1, if_pos c1]
      exact ⟨rfl, s0, s1, s2⟩
    · rw [if_neg c1, if_neg c1]
      by_cases c2 : a4 ≤ 8
      · rw [if_pos c2, if_pos c2, s0]
        have hR := ty_room (n := 4096) (by decide) (K := 4096) (by decide) h0 g0 c1 c2
        by_cases c3 : a4 ≤ nI 4096 - tl
        · rw [if_pos c3, if_pos (hR.1.mp c3)]
          exact ty_L0 mt fd a1 a2 a4 _ _ _ _ _ _ _ _ _ _ (Nat.lt_succ_self _) h0 (hR.2.1 c3) s0 s1 s2
        · rw [if_neg c3, if_neg (fun q => c3 (hR.1.mpr q))]
          exact ⟨rfl, s0, s1, s2⟩
      · rw [if_neg c2, if_neg c2]
        exact ⟨rfl, s0, s1, s2⟩
  · rw [if_neg r0, if_neg r0]
    by_cases r1 : a1 = 1
    · rw [if_pos r1, if_pos r1]
      by_cases c1 : a4 < 1
      · rw [if_pos c1, if_pos c1]
        exact ⟨rfl, s0, s1, s2⟩
      · rw [if_neg c1, if_neg c1]
        by_cases c2 : a4 ≤ 8
        · rw [if_pos c2, if_pos c2, s1]
          have hR := ty_room (n := 512) (by decide) (K := 512) (by decide) h1 g1 c1 c2
          by_cases c3 : a4 ≤ nI 512 - pl
          · rw [if_pos c3, if_pos (hR.1.mp c3)]
            exact ty_L0b mt fd a1 a2 a4 _ _ _ _ _ _ _ _ _ _ (Nat.lt_succ_self _) h1 (hR.2.1 c3) s0 s1 s2
          · rw [if_neg c3, if_neg (fun q => c3 (hR.1.mpr q))]
            exact ⟨rfl, s0, s1, s2⟩
        · rw [if_neg c2, if_neg c2]
          exact ⟨rfl, s0, s1, s2⟩
    · rw [if_neg r1, if_neg r1]
      by_cases r2 : a1 = 2
      · rw [if_pos r2, if_pos r2]
        by_cases c1 : a4 < 1
        · rw [if_pos c1, if_pos c1]
          exact ⟨rfl, s0, s1, s2⟩
        · rw [if_neg c1, if_neg c1]
          by_cases c2 : a4 ≤ 8
          · rw [if_pos c2, if_pos c2, s2]
            have hR := ty_room (n := 512) (by decide) (K := 512) (by decide) h2 g2 c1 c2
            by_cases c3 : a4 ≤ nI 512 - rl
            · rw [if_pos c3, if_pos (hR.1.mp c3)]
              exact ty_L0c mt fd a1 a2 a4 _ _ _ _ _ _ _ _ _ _ (Nat.lt_succ_self _) h2 (hR.2.1 c3) s0 s1 s2
            · rw [if_neg c3, if_neg (fun q => c3 (hR.1.mpr q))]
              exact ⟨rfl, s0, s1, s2⟩
          · rw [if_neg c2, if_neg c2]
            exact ⟨rfl, s0, s1, s2⟩
      · rw [if_neg r2, if_neg r2]
        by_cases c4 : a1 < 0
        · rw [if_pos c4]
          exact ⟨rfl, s0, s1, s2⟩
        · rw [if_neg c4, if_pos (kk_out2 r0 r1 r2 c4)]
          exact ⟨rfl, s0, s1, s2⟩
theorem cl_eq (mt fd tl pl rl : Int32) (sizes : Nat → Int32) (a1 : Int32) (s0 : sizes 0 = tl) (s1 : sizes 1 = pl) (s2 : sizes 2 = rl) : (f_X4_clear mt tl pl rl a1).1 = (f_X5_clear fd sizes a1).1 ∧ (f_X5_clear fd sizes a1).2.2 0 = (f_X4_clear mt tl pl rl a1).2.2.1 ∧ (f_X5_clear fd sizes a1).2.2 1 = (f_X4_clear mt tl pl rl a1).2.2.2.1 ∧ (f_X5_clear fd sizes a1).2.2 2 = (f_X4_clear mt tl pl rl a1).2.2.2.2 := by
  unfold f_X4_clear f_X5_clear
  by_cases h0 : a1 = 0
  · simp only [if_pos h0]
    exact ⟨s0.symm, rfl, s1, s2⟩
  · simp only [if_neg h0]
    by_cases h1 : a1 = 1
    · simp only [if_pos h1]
      exact ⟨s1.symm, s0, rfl, s2⟩
    · simp only [if_neg h1]
      by_cases h2 : a1 = 2
      · simp only [if_pos h2]
        exact ⟨s2.symm, s0, s1, rfl⟩
      · simp only [if_neg h2]
        by_cases h3 : a1 < 0
        · simp only [if_pos h3]
          exact ⟨by trivial, s0, s1, s2⟩
        · have h4 := kk_out2 h0 h1 h2 h3
          have h5 : ¬ a1 ≤ 2 := fun q => absurd (Int32.lt_iff_toInt_lt.mp h4) (by have := Int32.le_iff_toInt_le.mp q; omega)
          simp only [if_neg h3, if_neg h5]
          exact ⟨by trivial, s0, s1, s2⟩

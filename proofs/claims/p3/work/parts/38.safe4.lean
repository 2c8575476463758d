theorem lk_between {z : Int32} (h : ¬ f_X5_isBetween z 49 57 = 0) : ∃ i : Nat, i < 9 ∧ z - 49 = nI i := by
  unfold f_X5_isBetween at h
  by_cases c1 : z < 49
  · rw [if_pos c1] at h
    exact absurd rfl h
  · rw [if_neg c1] at h
    by_cases c2 : (57 : Int32) < z
    · rw [if_pos c2] at h
      exact absurd rfl h
    · have e1 := kx_nlt c1
      have e2 := kx_nlt c2
      rw [show (49 : Int32).toInt = 49 by decide] at e1
      rw [show (57 : Int32).toInt = 57 by decide] at e2
      obtain ⟨j, hj, rfl⟩ := nI_of (x := z) (fun q => by have := Int32.lt_iff_toInt_lt.mp q; rw [show (0 : Int32).toInt = 0 by decide] at this; omega)
      rw [nI_toInt hj] at e1 e2
      exact ⟨j - 49, by omega, pk_sub (a := j) (b := 49) (by omega)⟩
set_option maxHeartbeats 4000000 in
theorem lk_come {kd pl nx ch le rows sizes cb cl : Nat → Int32} {D : Nat} {cc tr lo p s : Int32} (hD : D ≤ 511) (ho : mTok kd pl D) (hpl : ∀ d, d < D → 0 ≤ (pl d).toInt ∧ (pl d).toInt ≤ (sizes 0).toInt) (hz1 : (sizes 1).toInt ≤ 512) (hz00 : 0 ≤ (sizes 0).toInt) (hz0 : (sizes 0).toInt ≤ 4096) (hcc : cc.toInt ≤ 33) (hl0 : 0 ≤ lo.toInt) (hl1 : lo.toInt ≤ 100000) (hp0 : 0 ≤ p.toInt) (hp1 : p.toInt < 512) (hs0 : 0 ≤ s.toInt) (hs1 : s.toInt ≤ (sizes 0).toInt) :
    g_X5_come (nI D) cc lo tr rows sizes pl kd nx ch le cb cl p s ∧ ∀ u, u = f_X5_come (nI D) cc lo tr rows sizes pl kd nx ch le cb cl p s → mCome lo kd nx ch le pl D p s (sizes 0) u.1 u.2.2.1 u.2.2.2.2.1 u.2.2.2.2.2.1 u.2.2.2.2.2.2.1 u.2.2.2.2.2.2.2.1 ∧ u.2.1.toInt ≤ 33 := by
  have hop := lk_opens (kd := kd) (pl := pl) (nx := nx) (ch := ch) (le := le) (rows := rows) (sizes := sizes) (cb := cb) (cl := cl) (D := D) (cc := cc) (tr := tr) (lo := lo) (p := p) (s := s) hD ho hz1 hl1 hp0 hp1 hs1
  have hcl := lk_closes (kd := kd) (pl := pl) (nx := nx) (ch := ch) (le := le) (sizes := sizes) (cb := cb) (cl := cl) (D := D) (cc := cc) (tr := tr) (lo := lo) (p := p) (s := s) hD ho hl1 hp0 hp1 hs1
  have hsi := lk_single (kd := kd) (pl := pl) (nx := nx) (ch := ch) (le := le) (rows := rows) (sizes := sizes) (D := D) (tr := tr) (lo := lo) (p := p) (s := s) hz1 hz0 hD hp0 hp1 hs0 hs1 hl0 hl1
  have hba := lk_balanced (kd := kd) (pl := pl) (nx := nx) (ch := ch) (le := le) (rows := rows) (sizes := sizes) (D := D) (tr := tr) (lo := lo) (p := p) (s := s) hz0 hD hp0 hp1 hs0 hl0 hl1 _ rfl
  have hbo := lk_border (kd := kd) (pl := pl) (nx := nx) (ch := ch) (le := le) (rows := rows) (sizes := sizes) (D := D) (tr := tr) (lo := lo) (p := p) (s := s) hz1 hD hp0 hp1 hs1 hl0 hl1 _ rfl
  have hsi2 := hsi.2 _ rfl
  have hop2 := hop.2 _ rfl
  have hcl2 := hcl.2 _ rfl
  have e1 := kx_addK p (y := 1) (k := 1) (by decide)
  have hdT : (nI D).toInt = D := nI_toInt (by omega)
  unfold g_X5_come f_X5_come
  generalize f_X5_opens (nI D) cc tr rows sizes pl kd nx cb cl p s = zo at hop2 ⊢
  generalize f_X5_closes (nI D) cc tr pl kd nx cb cl p s = zc at hcl2 ⊢
  generalize f_X5_single (nI D) lo tr rows sizes kd nx ch le p s = zs at hsi2 ⊢
  generalize f_X5_balanced (nI D) lo tr rows sizes kd nx p s = zb at hba ⊢
  generalize f_X5_border (nI D) lo tr rows sizes kd nx p s = zf at hbo ⊢
  generalize f_X5_pattern rows sizes p = z3
  generalize f_X5_pattern rows sizes (p + 1) = z12
  unfold kb
  dsimp only
  rw [nI_clamp (n := D) (by omega)]
  by_cases c40 : z3 = 40
  · simp only [if_pos c40]
    refine ⟨⟨hz1, hp0, hop.1, trivial⟩, fun u hu => ?_⟩
    subst hu
    exact hop2
  · simp only [if_neg c40]
    by_cases c41 : z3 = 41
    · simp only [if_pos c41]
      refine ⟨⟨hz1, hp0, hcl.1, trivial⟩, fun u hu => ?_⟩
      subst hu
      exact hcl2
    · simp only [if_neg c41]
      by_cases c36 : z3 = 36
      · simp only [if_pos c36]
        by_cases q1 : p + 1 = sizes 1
        · simp only [if_pos q1]
          by_cases q2 : s = sizes 0
          · simp only [if_pos q2]
            refine ⟨⟨hz1, hp0, by omega, by omega, trivial⟩, fun u hu => ?_⟩
            subst hu
            exact ⟨mCome_fix (p + 1) (Int.le_refl _) hl1 same2 ⟨Int.le_refl _, hs1⟩ (by omega), hcc⟩
          · simp only [if_neg q2]
            refine ⟨⟨hz1, hp0, trivial⟩, fun u hu => ?_⟩
            subst hu
            exact ⟨mCome_fail (Int.le_refl _) hl1 same4, hcc⟩
        · simp only [if_neg q1]
          refine ⟨⟨hz1, hp0, hsi.1, trivial⟩, fun u hu => ?_⟩
          subst hu
          exact ⟨hsi2, hcc⟩
      · simp only [if_neg c36]
        by_cases c37 : z3 = 37
        · simp only [if_pos c37]
          by_cases c98 : z12 = 98
          · simp only [if_pos c98]
            refine ⟨⟨hz1, hp0, hz1, by omega, hz1, hp0, by omega, hz0, hs0, by omega, by omega, trivial⟩, fun u hu => ?_⟩
            subst hu
            exact ⟨hba, hcc⟩
          · simp only [if_neg c98]
            by_cases c102 : z12 = 102
            · simp only [if_pos c102]
              refine ⟨⟨hz1, hp0, hz1, by omega, hz1, hp0, by omega, hz0, hs0, by omega, by omega, by omega, trivial⟩, fun u hu => ?_⟩
              subst hu
              exact ⟨hbo, hcc⟩
            · simp only [if_neg c102]
              by_cases cb1 : f_X5_isBetween z12 49 57 = 0
              · simp only [if_pos cb1]
                refine ⟨⟨hz1, hp0, hz1, by omega, hsi.1, trivial⟩, fun u hu => ?_⟩
                subst hu
                exact ⟨hsi2, hcc⟩
              · simp only [if_neg cb1]
                obtain ⟨i, hi, ei⟩ := lk_between cb1
                rw [ei]
                have hag := lk_again (kd := kd) (pl := pl) (nx := nx) (ch := ch) (le := le) (rows := rows) (sizes := sizes) (cb := cb) (cl := cl) (D := D) (i := i) (cc := cc) (tr := tr) (lo := lo) (p := p) (s := s) hD ho hpl hz00 hz0 hl0 hl1 hi hp0 hp1 hs0 hs1
                refine ⟨⟨hz1, hp0, hz1, by omega, hag.1, trivial⟩, fun u hu => ?_⟩
                subst hu
                exact hag.2 _ rfl
        · simp only [if_neg c37]
          refine ⟨⟨hz1, hp0, hsi.1, trivial⟩, fun u hu => ?_⟩
          subst hu
          exact ⟨hsi2, hcc⟩
/-- an item that stands -/
def mIt (s0 sz0 : Int32) (bg pl kd nx ch le : Nat → Int32) (d : Nat) : Prop :=
  ((d : Int) ≤ (bg d).toInt ∧ (bg d).toInt < 512 ∧ s0.toInt ≤ (pl d).toInt ∧ (pl d).toInt ≤ sz0.toInt ∧ (bg d).toInt < (nx d).toInt) ∧
  (kd d = 1 → 0 ≤ (le d).toInt ∧ (le d).toInt ≤ (ch d).toInt ∧ (pl d).toInt + (ch d).toInt ≤ sz0.toInt) ∧
  (kd d = 2 → 0 ≤ (ch d).toInt ∧ (pl d).toInt + (ch d).toInt ≤ sz0.toInt) ∧
  (kd d = 3 → 0 ≤ (ch d).toInt ∧ (ch d).toInt ≤ 1 ∧ (pl d).toInt + (ch d).toInt ≤ sz0.toInt)
def mLeft (kd ch le : Nat → Int32) (d : Nat) : Int := if kd d = 1 then (ch d).toInt - (le d).toInt else if kd d = 3 then (ch d).toInt else 0
def mSum (kd ch le : Nat → Int32) : Nat → Int
  | 0 => 0
  | n + 1 => mSum kd ch le n + mLeft kd ch le n
theorem mLeft_congr {kd ch le kd' ch' le' : Nat → Int32} {d : Nat} (h : kd' d = kd d ∧ ch' d = ch d ∧ le' d = le d) : mLeft kd' ch' le' d = mLeft kd ch le d := by
  unfold mLeft
  rw [h.1, h.2.1, h.2.2]
theorem mSum_congr {kd ch le kd' ch' le' : Nat → Int32} : ∀ n : Nat, (∀ d, d < n → kd' d = kd d ∧ ch' d = ch d ∧ le' d = le d) → mSum kd' ch' le' n = mSum kd ch le n := by
  intro n
  induction n with
  | zero => intro _; rfl
  | succ n ih =>
    intro h
    show mSum kd' ch' le' n + mLeft kd' ch' le' n = mSum kd ch le n + mLeft kd ch le n
    rw [ih (fun d hd => h d (by omega)), mLeft_congr (h n (by omega))]
theorem mIt_congr {s0 sz0 : Int32} {bg pl kd nx ch le bg' pl' kd' nx' ch' le' : Nat → Int32} {d : Nat} (h : bg' d = bg d ∧ pl' d = pl d ∧ kd' d = kd d ∧ nx' d = nx d ∧ ch' d = ch d ∧ le' d = le d) (hi : mIt s0 sz0 bg pl kd nx ch le d) : mIt s0 sz0 bg' pl' kd' nx' ch' le' d := by
  obtain ⟨h1, h2, h3, h4, h5, h6⟩ := h
  unfold mIt at hi ⊢
  rw [h1, h2, h3, h4, h5, h6]
  exact hi
theorem mLeft_nn {s0 sz0 : Int32} {bg pl kd nx ch le : Nat → Int32} {d : Nat} (hi : mIt s0 sz0 bg pl kd nx ch le d) : 0 ≤ mLeft kd ch le d := by
  unfold mLeft
  obtain ⟨-, h1, -, h3⟩ := hi
  by_cases c1 : kd d = 1
  · rw [if_pos c1]
    have := h1 c1
    omega
  · rw [if_neg c1]
    by_cases c3 : kd d = 3
    · rw [if_pos c3]
      exact (h3 c3).1
    · rw [if_neg c3]
      exact Int.le_refl _
theorem mSum_nn {s0 sz0 : Int32} {bg pl kd nx ch le : Nat → Int32} : ∀ n : Nat, (∀ d, d < n → mIt s0 sz0 bg pl kd nx ch le d) → 0 ≤ mSum kd ch le n := by
  intro n
  induction n with
  | zero => intro _; exact Int.le_refl _
  | succ n ih =>
    intro h
    have h1 := ih (fun d hd => h d (by omega))
    have h2 := mLeft_nn (h n (by omega))
    show 0 ≤ mSum kd ch le n + mLeft kd ch le n
    omega
set_option maxHeartbeats 4000000 in
theorem lk_change {s0 lo tr : Int32} {bg pl kd nx ch le rows sizes : Nat → Int32} {d : Nat} (hd : d < 512) (hz1 : (sizes 1).toInt ≤ 512) (hz0 : (sizes 0).toInt ≤ 4096) (h00 : 0 ≤ s0.toInt) (hl0 : 0 ≤ lo.toInt) (hl1 : lo.toInt ≤ 100000) (hi : mIt s0 (sizes 0) bg pl kd nx ch le d) :
    g_X5_change lo tr rows sizes bg pl kd ch le (nI d) ∧ ∀ u, u = f_X5_change lo tr rows sizes bg pl kd ch le (nI d) → (lo.toInt ≤ u.2.1.toInt ∧ u.2.1.toInt ≤ 100000) ∧ (u.1.toInt < 0 → u.2.2.2 = ch ∧ mLeft kd ch le d = 0) ∧
      (0 ≤ u.1.toInt → (s0.toInt ≤ u.1.toInt ∧ u.1.toInt ≤ (sizes 0).toInt) ∧ (∀ j, j ≠ d → u.2.2.2 j = ch j) ∧ mIt s0 (sizes 0) bg pl kd nx u.2.2.2 le d ∧ 2 * (100000 - u.2.1.toInt) + mLeft kd u.2.2.2 le d < 2 * (100000 - lo.toInt) + mLeft kd ch le d) := by
  unfold g_X5_change f_X5_change
  have hin : vp_in (nI d) 520 := vp_in_nI (by omega) (by omega)
  simp only [nI_clamp (n := d) (by omega), upd_s]
  obtain ⟨⟨i1, i2, i3, i4, i5⟩, i6, i7, i8⟩ := id hi
  have em := kx_subK (ch d) (y := 1) (k := 1) (by decide)
  have ea := kx_addK (ch d) (y := 1) (k := 1) (by decide)
  by_cases k1 : kd d = 1
  · simp only [if_pos k1]
    have i6 := i6 k1
    by_cases c1 : le d < ch d
    · simp only [if_pos c1]
      have c1 := Int32.lt_iff_toInt_lt.mp c1
      refine ⟨⟨hin, hin, hin, hin, hin, hin, hin, trivial⟩, fun u hu => ?_⟩
      have eb := kx_addD (pl d) (ch d - 1)
      subst hu
      refine ⟨⟨Int.le_refl _, hl1⟩, fun q => absurd q (by show ¬ (pl d + (ch d - 1)).toInt < 0; omega), fun _ => ⟨(show s0.toInt ≤ (pl d + (ch d - 1)).toInt ∧ (pl d + (ch d - 1)).toInt ≤ (sizes 0).toInt by omega), fun j hj => upd_o _ _ hj, ?_, ?_⟩⟩
      · refine ⟨⟨i1, i2, i3, i4, i5⟩, fun _ => ?_, fun q => absurd (k1.symm.trans q) (by decide), fun q => absurd (k1.symm.trans q) (by decide)⟩
        show 0 ≤ (le d).toInt ∧ (le d).toInt ≤ (upd ch d (ch d - 1) d).toInt ∧ (pl d).toInt + (upd ch d (ch d - 1) d).toInt ≤ (sizes 0).toInt
        rw [upd_s]
        omega
      · show 2 * (100000 - lo.toInt) + mLeft kd (upd ch d (ch d - 1)) le d < _
        unfold mLeft
        rw [if_pos k1, if_pos k1, upd_s]
        omega
    · simp only [if_neg c1]
      have c1 := kx_nlt c1
      refine ⟨⟨hin, hin, hin, hin, hin, trivial⟩, fun u hu => ?_⟩
      subst hu
      refine ⟨⟨Int.le_refl _, hl1⟩, fun _ => ⟨rfl, ?_⟩, fun q => absurd q (show ¬ 0 ≤ (-1 : Int32).toInt by decide)⟩
      unfold mLeft
      rw [if_pos k1]
      omega
  · simp only [if_neg k1]
    by_cases k3 : kd d = 3
    · simp only [if_pos k3]
      have i8 := i8 k3
      by_cases c1 : ch d = 1
      · simp only [if_pos c1]
        have c1T : (ch d).toInt = 1 := by rw [c1]; decide
        refine ⟨⟨hin, hin, hin, hin, hin, hin, hin, trivial⟩, fun u hu => ?_⟩
        have eb := kx_addD (pl d) (ch d - 1)
        subst hu
        refine ⟨⟨Int.le_refl _, hl1⟩, fun q => absurd q (by show ¬ (pl d + (ch d - 1)).toInt < 0; omega), fun _ => ⟨(show s0.toInt ≤ (pl d + (ch d - 1)).toInt ∧ (pl d + (ch d - 1)).toInt ≤ (sizes 0).toInt by omega), fun j hj => upd_o _ _ hj, ?_, ?_⟩⟩
        · refine ⟨⟨i1, i2, i3, i4, i5⟩, fun q => absurd q k1, fun q => absurd (k3.symm.trans q) (by decide), fun _ => ?_⟩
          show 0 ≤ (upd ch d (ch d - 1) d).toInt ∧ (upd ch d (ch d - 1) d).toInt ≤ 1 ∧ (pl d).toInt + (upd ch d (ch d - 1) d).toInt ≤ (sizes 0).toInt
          rw [upd_s]
          omega
        · show 2 * (100000 - lo.toInt) + mLeft kd (upd ch d (ch d - 1)) le d < _
          unfold mLeft
          rw [if_neg k1, if_neg k1, if_pos k3, if_pos k3, upd_s]
          omega
      · simp only [if_neg c1]
        have c1 := kx_ne c1
        rw [show (1 : Int32).toInt = 1 by decide] at c1
        refine ⟨⟨hin, hin, hin, hin, trivial⟩, fun u hu => ?_⟩
        subst hu
        refine ⟨⟨Int.le_refl _, hl1⟩, fun _ => ⟨rfl, ?_⟩, fun q => absurd q (show ¬ 0 ≤ (-1 : Int32).toInt by decide)⟩
        unfold mLeft
        rw [if_neg k1, if_pos k3]
        omega
    · simp only [if_neg k3]
      have hml : ∀ ch' : Nat → Int32, mLeft kd ch' le d = 0 := fun ch' => by unfold mLeft; rw [if_neg k1, if_neg k3]
      by_cases k2 : kd d = 2
      · simp only [if_pos k2]
        have i7 := i7 k2
        have eb := kx_addD (pl d) (ch d)
        have hk2 := lk_there (lo := lo) (tr := tr) (rows := rows) (sizes := sizes) (p := bg d) (s := pl d + ch d) hl0 hl1 _ rfl
        generalize f_X5_isThere lo tr rows sizes (bg d) (pl d + ch d) = z at hk2 ⊢
        unfold kb
        dsimp only
        by_cases c1 : z.1 = 0
        · simp only [if_pos c1]
          refine ⟨⟨hin, hin, hin, hin, hin, hin, hz1, by omega, by omega, hz0, by omega, trivial⟩, fun u hu => ?_⟩
          subst hu
          exact ⟨⟨hk2.1, hk2.2.1⟩, fun _ => ⟨rfl, hml _⟩, fun q => absurd q (show ¬ 0 ≤ (-1 : Int32).toInt by decide)⟩
        · simp only [if_neg c1]
          have hk3 := hk2.2.2 c1
          refine ⟨⟨hin, hin, hin, hin, hin, hin, hz1, by omega, by omega, hz0, by omega, hin, hin, hin, hin, trivial⟩, fun u hu => ?_⟩
          have ec := kx_addD (pl d) (ch d + 1)
          subst hu
          refine ⟨⟨hk2.1, hk2.2.1⟩, fun q => absurd q (by show ¬ (pl d + (ch d + 1)).toInt < 0; omega), fun _ => ⟨(show s0.toInt ≤ (pl d + (ch d + 1)).toInt ∧ (pl d + (ch d + 1)).toInt ≤ (sizes 0).toInt by omega), fun j hj => upd_o _ _ hj, ?_, ?_⟩⟩
          · refine ⟨⟨i1, i2, i3, i4, i5⟩, fun q => absurd q k1, fun _ => ?_, fun q => absurd q k3⟩
            show 0 ≤ (upd ch d (ch d + 1) d).toInt ∧ (pl d).toInt + (upd ch d (ch d + 1) d).toInt ≤ (sizes 0).toInt
            rw [upd_s]
            omega
          · rw [hml, hml]
            show 2 * (100000 - z.2.1.toInt) + 0 < _
            omega
      · simp only [if_neg k2]
        refine ⟨⟨hin, hin, hin, trivial⟩, fun u hu => ?_⟩
        subst hu
        exact ⟨⟨Int.le_refl _, hl1⟩, fun _ => ⟨rfl, hml _⟩, fun q => absurd q (show ¬ 0 ≤ (-1 : Int32).toInt by decide)⟩
set_option maxHeartbeats 4000000 in
theorem lk_backL {s0 : Int32} {bg pl kd nx le rows sizes : Nat → Int32} (hz1 : (sizes 1).toInt ≤ 512) (hz0 : (sizes 0).toInt ≤ 4096) (h00 : 0 ≤ s0.toInt) :
    ∀ (k D : Nat) (lo tr : Int32) (ch : Nat → Int32), D < k → D ≤ 512 → 0 ≤ lo.toInt → lo.toInt ≤ 100000 → (∀ d, d < D → mIt s0 (sizes 0) bg pl kd nx ch le d) →
      g_X5_back_L0 k rows sizes bg pl kd le (nI D) lo tr ch ∧ ∀ u, u = f_X5_back_L0 k rows sizes bg pl kd le (nI D) lo tr ch → (lo.toInt ≤ u.2.2.1.toInt ∧ u.2.2.1.toInt ≤ 100000) ∧
        (0 ≤ u.1.toInt → ∃ n, n < D ∧ u.2.1 = nI (n + 1) ∧ (s0.toInt ≤ u.1.toInt ∧ u.1.toInt ≤ (sizes 0).toInt) ∧ (∀ d, d < n + 1 → mIt s0 (sizes 0) bg pl kd nx u.2.2.2.2 le d) ∧ 2 * (100000 - u.2.2.1.toInt) + mSum kd u.2.2.2.2 le (n + 1) < 2 * (100000 - lo.toInt) + mSum kd ch le D) := by
  intro k
  induction k with
  | zero =>
    intro D lo tr ch hk
    exact absurd hk (Nat.not_lt_zero _)
  | succ k ih =>
    intro D lo tr ch hk hD hl0 hl1 hit
    rw [g_X5_back_L0_s, f_X5_back_L0_s]
    cases D with
    | zero =>
      have c0 : nI 0 ≤ 0 := by decide
      simp only [if_pos c0]
      refine ⟨trivial, fun u hu => ?_⟩
      subst hu
      exact ⟨⟨Int.le_refl _, hl1⟩, fun q => absurd q (show ¬ 0 ≤ (-1 : Int32).toInt by decide)⟩
    | succ D =>
      have c0 : ¬ nI (D + 1) ≤ 0 := nI_nle (by omega) (by omega)
      simp only [if_neg c0, nI_pred D]
      have hc := lk_change (s0 := s0) (lo := lo) (tr := tr) (bg := bg) (pl := pl) (kd := kd) (nx := nx) (ch := ch) (le := le) (rows := rows) (sizes := sizes) (d := D) (by omega) hz1 hz0 h00 hl0 hl1 (hit D (by omega))
      have hc2 := hc.2 _ rfl
      generalize f_X5_change lo tr rows sizes bg pl kd ch le (nI D) = z at hc2 ⊢
      obtain ⟨⟨a1, a2⟩, a3, a4⟩ := hc2
      unfold kb
      dsimp only
      have es : mSum kd ch le (D + 1) = mSum kd ch le D + mLeft kd ch le D := rfl
      by_cases c1 : z.1 < 0
      · have c10 := Int32.lt_iff_toInt_lt.mp c1
        rw [show (0 : Int32).toInt = 0 by decide] at c10
        have a3 := a3 c10
        simp only [if_pos c1]
        by_cases c2 : z.2.2.1 = 0
        · simp only [if_pos c2]
          rw [a3.1]
          have h := ih D z.2.1 z.2.2.1 ch (by omega) (by omega) (by omega) a2 (fun d hd => hit d (by omega))
          refine ⟨⟨hc.1, h.1⟩, fun u hu => ?_⟩
          have h2 := h.2 u hu
          refine ⟨⟨by omega, h2.1.2⟩, fun q => ?_⟩
          obtain ⟨n, n1, n2, n3, n4, n5⟩ := h2.2 q
          exact ⟨n, by omega, n2, n3, n4, by omega⟩
        · simp only [if_neg c2]
          refine ⟨⟨hc.1, trivial⟩, fun u hu => ?_⟩
          subst hu
          exact ⟨⟨a1, a2⟩, fun q => absurd q (show ¬ 0 ≤ (-1 : Int32).toInt by decide)⟩
      · have c10 := kb_nlt0 c1
        obtain ⟨b1, b2, b3, b4⟩ := a4 c10
        simp only [if_neg c1]
        refine ⟨⟨hc.1, trivial⟩, fun u hu => ?_⟩
        subst hu
        refine ⟨⟨a1, a2⟩, fun _ => ⟨D, by omega, rfl, b1, fun d hd => ?_, ?_⟩⟩
        · by_cases q : d = D
          · subst q
            exact b3
          · exact mIt_congr ⟨rfl, rfl, rfl, rfl, b2 d q, rfl⟩ (hit d (by omega))
        · have es2 : mSum kd z.2.2.2 le (D + 1) = mSum kd z.2.2.2 le D + mLeft kd z.2.2.2 le D := rfl
          have es3 : mSum kd z.2.2.2 le D = mSum kd ch le D := mSum_congr D (fun d hd => ⟨rfl, b2 d (by omega), rfl⟩)
          show 2 * (100000 - z.2.1.toInt) + mSum kd z.2.2.2 le (D + 1) < 2 * (100000 - lo.toInt) + mSum kd ch le (D + 1)
          omega

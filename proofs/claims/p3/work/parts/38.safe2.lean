theorem upd_s (f : Nat → Int32) (k : Nat) (v : Int32) : upd f k v k = v := if_pos rfl
theorem upd_o (f : Nat → Int32) {k j : Nat} (v : Int32) (h : j ≠ k) : upd f k v j = f j := if_neg h
/-- what come() leaves: looks only grow; below and above the item nothing changes; where it matched, the item is sound -/
def mCome (lo : Int32) (kd nx ch le pl : Nat → Int32) (D : Nat) (p s sz0 : Int32) (r lo' : Int32) (kd' nx' ch' le' : Nat → Int32) : Prop :=
  lo.toInt ≤ lo'.toInt ∧ lo'.toInt ≤ 100000 ∧ (∀ j, j ≠ D → kd' j = kd j ∧ nx' j = nx j ∧ ch' j = ch j ∧ le' j = le j) ∧
  (0 ≤ r.toInt → (s.toInt ≤ r.toInt ∧ r.toInt ≤ sz0.toInt) ∧ p.toInt < (nx' D).toInt ∧
    (kd' D = 1 → 0 ≤ (le' D).toInt ∧ (le' D).toInt ≤ (ch' D).toInt ∧ s.toInt + (ch' D).toInt ≤ sz0.toInt ∧ (ch' D).toInt - (le' D).toInt ≤ lo'.toInt - lo.toInt) ∧
    (kd' D = 2 → ch' D = 0) ∧
    (kd' D = 3 → 0 ≤ (ch' D).toInt ∧ (ch' D).toInt ≤ 1 ∧ s.toInt + (ch' D).toInt ≤ sz0.toInt ∧ (ch' D).toInt ≤ lo'.toInt - lo.toInt) ∧
    (kd' D = 4 ∨ kd' D = 5 → (mT kd pl D).1 < 32) ∧ (kd' D = 6 → 0 ≤ (f_X5_lastOpen (nI (mT kd pl D).1) (mT kd pl D).2.2).toInt))
section MC
variable {lo : Int32} {kd nx ch le pl : Nat → Int32} {D : Nat} {p s sz0 : Int32} {r lo' : Int32} {kd' nx' ch' le' : Nat → Int32}
theorem mCome_fail (h1 : lo.toInt ≤ lo'.toInt) (h2 : lo'.toInt ≤ 100000) (ha : ∀ j, j ≠ D → kd' j = kd j ∧ nx' j = nx j ∧ ch' j = ch j ∧ le' j = le j) : mCome lo kd nx ch le pl D p s sz0 (-1) lo' kd' nx' ch' le' :=
  ⟨h1, h2, ha, fun q => absurd q (by decide)⟩
theorem mCome_mk (v w : Int32) (h1 : lo.toInt ≤ lo'.toInt) (h2 : lo'.toInt ≤ 100000) (ha : ∀ j, j ≠ D → ch' j = ch j ∧ le' j = le j) (hr : s.toInt ≤ r.toInt ∧ r.toInt ≤ sz0.toInt) (hw : p.toInt < w.toInt)
    (c1 : v = 1 → 0 ≤ (le' D).toInt ∧ (le' D).toInt ≤ (ch' D).toInt ∧ s.toInt + (ch' D).toInt ≤ sz0.toInt ∧ (ch' D).toInt - (le' D).toInt ≤ lo'.toInt - lo.toInt) (c2 : v = 2 → ch' D = 0)
    (c3 : v = 3 → 0 ≤ (ch' D).toInt ∧ (ch' D).toInt ≤ 1 ∧ s.toInt + (ch' D).toInt ≤ sz0.toInt ∧ (ch' D).toInt ≤ lo'.toInt - lo.toInt) (c4 : v = 4 ∨ v = 5 → (mT kd pl D).1 < 32) (c6 : v = 6 → 0 ≤ (f_X5_lastOpen (nI (mT kd pl D).1) (mT kd pl D).2.2).toInt) :
    mCome lo kd nx ch le pl D p s sz0 r lo' (upd kd D v) (upd nx D w) ch' le' := by
  refine ⟨h1, h2, fun j hj => ⟨upd_o _ _ hj, upd_o _ _ hj, (ha j hj).1, (ha j hj).2⟩, fun _ => ⟨hr, ?_, ?_, ?_, ?_, ?_, ?_⟩⟩ <;> rw [upd_s]
  · exact hw
  · exact c1
  · exact c2
  · exact c3
  · exact c4
  · exact c6
theorem mCome_fix (w : Int32) (h1 : lo.toInt ≤ lo'.toInt) (h2 : lo'.toInt ≤ 100000) (ha : ∀ j, j ≠ D → ch' j = ch j ∧ le' j = le j) (hr : s.toInt ≤ r.toInt ∧ r.toInt ≤ sz0.toInt) (hw : p.toInt < w.toInt) : mCome lo kd nx ch le pl D p s sz0 r lo' (upd kd D 7) (upd nx D w) ch' le' :=
  mCome_mk 7 w h1 h2 ha hr hw (fun q => absurd q (by decide)) (fun q => absurd q (by decide)) (fun q => absurd q (by decide)) (fun q => absurd q (by decide)) (fun q => absurd q (by decide))
theorem mCome_lo {lo1 : Int32} (h0 : lo.toInt ≤ lo1.toInt) (h : mCome lo1 kd nx ch le pl D p s sz0 r lo' kd' nx' ch' le') : mCome lo kd nx ch le pl D p s sz0 r lo' kd' nx' ch' le' := by
  obtain ⟨a, b, c, d⟩ := h
  refine ⟨by omega, b, c, fun q => ?_⟩
  obtain ⟨d1, d2, d3, d4, d5, d6⟩ := d q
  exact ⟨d1, d2, fun k => by have := d3 k; omega, d4, fun k => by have := d5 k; omega, d6⟩
end MC
theorem same4 {kd nx ch le : Nat → Int32} {D : Nat} : ∀ j, j ≠ D → kd j = kd j ∧ nx j = nx j ∧ ch j = ch j ∧ le j = le j := fun _ _ => ⟨rfl, rfl, rfl, rfl⟩
theorem same2 {ch le : Nat → Int32} {D : Nat} : ∀ j, j ≠ D → ch j = ch j ∧ le j = le j := fun _ _ => ⟨rfl, rfl⟩
set_option maxHeartbeats 4000000 in
theorem lk_opens {kd pl nx ch le rows sizes cb cl : Nat → Int32} {D : Nat} {cc tr lo p s : Int32} (hD : D ≤ 511) (ho : mTok kd pl D) (hz1 : (sizes 1).toInt ≤ 512) (hl1 : lo.toInt ≤ 100000) (hp0 : 0 ≤ p.toInt) (hp1 : p.toInt < 512) (hs1 : s.toInt ≤ (sizes 0).toInt) :
    g_X5_opens (nI D) cc tr rows sizes pl kd nx cb cl p s ∧ ∀ u, u = f_X5_opens (nI D) cc tr rows sizes pl kd nx cb cl p s → mCome lo kd nx ch le pl D p s (sizes 0) u.1 lo u.2.2.2.1 u.2.2.2.2.1 ch le ∧ u.2.1.toInt ≤ 33 := by
  unfold g_X5_opens f_X5_opens
  have ht := lk_tell (n := D) (by omega) ho cc cb cl
  generalize f_X5_tell cc pl kd cb cl (nI D) = z2 at ht ⊢
  obtain ⟨ht1, ht2⟩ := ht
  have ht2 := ht2 z2 rfl
  have hle := mT_le ho
  have hc33 : z2.1.toInt ≤ 33 := by
    rw [ht2.1, nI_toInt (by omega)]
    omega
  have e1 := kx_addK p (y := 1) (k := 1) (by decide)
  have e2 := kx_addK p (y := 2) (k := 2) (by decide)
  have hdT : (nI D).toInt = D := nI_toInt (by omega)
  unfold kb
  dsimp only
  rw [nI_clamp (n := D) (by omega)]
  by_cases c1 : z2.1 = 32
  · simp only [if_pos c1]
    refine ⟨⟨ht1, trivial⟩, fun u hu => ?_⟩
    subst hu
    exact ⟨mCome_fail (Int.le_refl _) hl1 same4, hc33⟩
  · simp only [if_neg c1]
    have hlt : (mT kd pl D).1 < 32 := by
      rcases Nat.lt_or_ge (mT kd pl D).1 32 with q | q
      · exact q
      · exact absurd (by rw [ht2.1, show (mT kd pl D).1 = 32 by omega]; rfl) c1
    by_cases c2 : f_X5_pattern rows sizes (p + 1) = 41
    · simp only [if_pos c2]
      refine ⟨⟨ht1, hz1, by omega, by omega, by omega, trivial⟩, fun u hu => ?_⟩
      subst hu
      exact ⟨mCome_mk 5 (p + 2) (Int.le_refl _) hl1 same2 ⟨Int.le_refl _, hs1⟩ (by omega) (fun q => absurd q (by decide)) (fun q => absurd q (by decide)) (fun q => absurd q (by decide)) (fun _ => hlt) (fun q => absurd q (by decide)), hc33⟩
    · simp only [if_neg c2]
      refine ⟨⟨ht1, hz1, by omega, by omega, by omega, trivial⟩, fun u hu => ?_⟩
      subst hu
      exact ⟨mCome_mk 4 (p + 1) (Int.le_refl _) hl1 same2 ⟨Int.le_refl _, hs1⟩ (by omega) (fun q => absurd q (by decide)) (fun q => absurd q (by decide)) (fun q => absurd q (by decide)) (fun _ => hlt) (fun q => absurd q (by decide)), hc33⟩
set_option maxHeartbeats 4000000 in
theorem lk_closes {kd pl nx ch le sizes cb cl : Nat → Int32} {D : Nat} {cc tr lo p s : Int32} (hD : D ≤ 511) (ho : mTok kd pl D) (hl1 : lo.toInt ≤ 100000) (hp0 : 0 ≤ p.toInt) (hp1 : p.toInt < 512) (hs1 : s.toInt ≤ (sizes 0).toInt) :
    g_X5_closes (nI D) cc tr pl kd nx cb cl p s ∧ ∀ u, u = f_X5_closes (nI D) cc tr pl kd nx cb cl p s → mCome lo kd nx ch le pl D p s (sizes 0) u.1 lo u.2.2.2.1 u.2.2.2.2.1 ch le ∧ u.2.1.toInt ≤ 33 := by
  unfold g_X5_closes f_X5_closes
  have ht := lk_tell (n := D) (by omega) ho cc cb cl
  generalize f_X5_tell cc pl kd cb cl (nI D) = z2 at ht ⊢
  obtain ⟨ht1, ht2⟩ := ht
  have ht2 := ht2 z2 rfl
  have hle := mT_le ho
  have hc33 : z2.1.toInt ≤ 33 := by
    rw [ht2.1, nI_toInt (by omega)]
    omega
  have e1 := kx_addK p (y := 1) (k := 1) (by decide)
  have hdT : (nI D).toInt = D := nI_toInt (by omega)
  have hcT : z2.1.toInt = (mT kd pl D).1 := by rw [ht2.1]; exact nI_toInt (by omega)
  have hl := lk_last (c := (mT kd pl D).1) (by omega) (cl := z2.2.2) (cl' := (mT kd pl D).2.2) (fun j hj => (ht2.2 j hj).2)
  rw [← ht2.1] at hl
  unfold kb
  dsimp only
  rw [nI_clamp (n := D) (by omega)]
  by_cases c1 : (0 : Int32) ≤ f_X5_lastOpen z2.1 z2.2.2
  · simp only [if_pos c1]
    refine ⟨⟨ht1, by omega, by omega, by omega, by omega, trivial⟩, fun u hu => ?_⟩
    subst hu
    refine ⟨mCome_mk 6 (p + 1) (Int.le_refl _) hl1 same2 ⟨Int.le_refl _, hs1⟩ (by omega) (fun q => absurd q (by decide)) (fun q => absurd q (by decide)) (fun q => absurd q (by decide)) (fun q => absurd q (by decide)) (fun _ => ?_), hc33⟩
    rw [← ht2.1, ← hl.2.2]
    exact kb_le0 c1
  · simp only [if_neg c1]
    refine ⟨⟨ht1, by omega, by omega, trivial⟩, fun u hu => ?_⟩
    subst hu
    exact ⟨mCome_fail (Int.le_refl _) hl1 same4, hc33⟩
/-- where captures begin and how long they may be -/
theorem mT_b {kd pl : Nat → Int32} {z : Int} : ∀ n : Nat, mTok kd pl n → (∀ d, d < n → 0 ≤ (pl d).toInt ∧ (pl d).toInt ≤ z) → z ≤ 4096 → ∀ j, j < (mT kd pl n).1 → (0 ≤ ((mT kd pl n).2.1 j).toInt ∧ ((mT kd pl n).2.1 j).toInt ≤ z) ∧ (((mT kd pl n).2.2 j).toInt ≤ z ∧ -4096 ≤ ((mT kd pl n).2.2 j).toInt ∨ z < 0) := by
  intro n
  induction n with
  | zero => intro _ _ _ j hj; exact absurd hj (Nat.not_lt_zero _)
  | succ n ih =>
    intro ho hp hz j hj
    have ih := ih (mTok_sub ho (by omega)) (fun d hd => hp d (by omega)) hz
    have hpn := hp n (by omega)
    by_cases c4 : kd n = 4
    · rw [mT_4 c4] at hj ⊢
      by_cases q : j = (mT kd pl n).1
      · subst q
        show (0 ≤ (upd _ _ _ _).toInt ∧ (upd _ _ _ _).toInt ≤ z) ∧ ((upd _ _ _ _).toInt ≤ z ∧ -4096 ≤ (upd _ _ _ _).toInt ∨ z < 0)
        rw [upd_s, upd_s]
        exact ⟨hpn, Or.inl ⟨by rw [show (-2 : Int32).toInt = -2 by decide]; omega, by decide⟩⟩
      · show (0 ≤ (upd _ _ _ _).toInt ∧ (upd _ _ _ _).toInt ≤ z) ∧ ((upd _ _ _ _).toInt ≤ z ∧ -4096 ≤ (upd _ _ _ _).toInt ∨ z < 0)
        rw [upd_o _ _ q, upd_o _ _ q]
        exact ih j (by have : j < (mT kd pl n).1 + 1 := hj; omega)
    · by_cases c5 : kd n = 5
      · rw [mT_5 c4 c5] at hj ⊢
        by_cases q : j = (mT kd pl n).1
        · subst q
          show (0 ≤ (upd _ _ _ _).toInt ∧ (upd _ _ _ _).toInt ≤ z) ∧ ((upd _ _ _ _).toInt ≤ z ∧ -4096 ≤ (upd _ _ _ _).toInt ∨ z < 0)
          rw [upd_s, upd_s]
          exact ⟨hpn, Or.inl ⟨by rw [show (-1 : Int32).toInt = -1 by decide]; omega, by decide⟩⟩
        · show (0 ≤ (upd _ _ _ _).toInt ∧ (upd _ _ _ _).toInt ≤ z) ∧ ((upd _ _ _ _).toInt ≤ z ∧ -4096 ≤ (upd _ _ _ _).toInt ∨ z < 0)
          rw [upd_o _ _ q, upd_o _ _ q]
          exact ih j (by have : j < (mT kd pl n).1 + 1 := hj; omega)
      · by_cases c6 : kd n = 6
        · have hnn := (ho n (Nat.lt_succ_self n)).2 c6
          have hl := lk_last (c := (mT kd pl n).1) (by have := mT_le (mTok_sub ho (Nat.le_succ n)); omega) (cl := (mT kd pl n).2.2) (cl' := (mT kd pl n).2.2) (fun _ _ => rfl)
          rw [mT_6 c4 c5 c6] at hj ⊢
          have hj : j < (mT kd pl n).1 := hj
          refine ⟨(ih j hj).1, ?_⟩
          show (upd _ _ _ _).toInt ≤ z ∧ -4096 ≤ (upd _ _ _ _).toInt ∨ z < 0
          generalize f_X5_lastOpen (nI (mT kd pl n).1) (mT kd pl n).2.2 = y at hnn hl ⊢
          obtain ⟨i, hi, rfl⟩ := nI_of (x := y) (fun q => by have := Int32.lt_iff_toInt_lt.mp q; rw [show (0 : Int32).toInt = 0 by decide] at this; omega)
          rw [nI_toInt hi] at hl
          rw [nI_clamp hi]
          by_cases q : j = i
          · subst q
            rw [upd_s]
            have hb := (ih j hj).1
            have e := kx_subD (pl n) ((mT kd pl n).2.1 j)
            exact Or.inl ⟨by omega, by omega⟩
          · rw [upd_o _ _ q]
            exact (ih j hj).2
        · rw [mT_n c4 c5 c6] at hj ⊢
          exact ih j hj
set_option maxHeartbeats 4000000 in
theorem lk_againL {kd pl nx ch le rows sizes cb cl : Nat → Int32} {D n i : Nat} {cc lo0 p s : Int32} (hD : D ≤ 511) (hn : n ≤ 4096) (hz0 : (sizes 0).toInt ≤ 4096) (hi : i < 33) (hb0 : 0 ≤ (cb i).toInt) (hb1 : (cb i).toInt ≤ 4096) (hp0 : 0 ≤ p.toInt) (hp1 : p.toInt < 512) (hs0 : 0 ≤ s.toInt) (hs1 : s.toInt ≤ 4096) (hc33 : cc.toInt ≤ 33) :
    ∀ (k J : Nat) (lo tr x5 : Int32), n - J < k → J ≤ n → 0 ≤ lo.toInt → lo.toInt ≤ 100000 → lo0.toInt ≤ lo.toInt → (¬ x5 = 0 → s.toInt + n ≤ (sizes 0).toInt) →
      g_X5_again_L0 k (nI D) rows sizes pl cc lo tr kd nx cb cl (nI i) p s (nI n) x5 (nI J) ∧ ∀ u, u = f_X5_again_L0 k (nI D) rows sizes pl cc lo tr kd nx cb cl (nI i) p s (nI n) x5 (nI J) → mCome lo0 kd nx ch le pl D p s (sizes 0) u.1 u.2.2.1 u.2.2.2.2.1 u.2.2.2.2.2.1 ch le ∧ u.2.1.toInt ≤ 33 := by
  have e2 := kx_addK p (y := 2) (k := 2) (by decide)
  have hdT : (nI D).toInt = D := nI_toInt (by omega)
  have en := kx_addD s (nI n)
  rw [nI_toInt (show n < 2 ^ 31 by omega)] at en
  intro k
  induction k with
  | zero =>
    intro J lo tr x5 hk
    exact absurd hk (Nat.not_lt_zero _)
  | succ k ih =>
    intro J lo tr x5 hk hJ hl0 hl1 hll hx
    rw [g_X5_again_L0_s, f_X5_again_L0_s]
    rw [nI_clamp (n := D) (by omega), nI_clamp (n := i) (by omega)]
    by_cases c5 : x5 = 0
    · simp only [if_pos c5]
      by_cases c1 : nI n ≤ nI J
      · simp only [if_pos c1]
        refine ⟨trivial, fun u hu => ?_⟩
        subst hu
        exact ⟨mCome_fail hll hl1 same4, hc33⟩
      · simp only [if_neg c1]
        refine ⟨trivial, fun u hu => ?_⟩
        subst hu
        exact ⟨mCome_fail hll hl1 same4, hc33⟩
    · simp only [if_neg c5]
      have hx := hx c5
      by_cases c1 : nI n ≤ nI J
      · simp only [if_pos c1]
        refine ⟨⟨by omega, by omega, trivial⟩, fun u hu => ?_⟩
        subst hu
        exact ⟨mCome_fix (r := s + nI n) (p + 2) hll hl1 same2 ⟨by omega, by omega⟩ (by omega), hc33⟩
      · simp only [if_neg c1]
        have hlt : J < n := by
          rcases Nat.lt_or_ge J n with q | q
          · exact q
          · exact absurd (nI_le q (by omega)) c1
        have hk2 := lk_look hl0 hl1 (f_X5_look lo tr) rfl
        generalize f_X5_look lo tr = z13 at hk2 ⊢
        have hJT : (nI J).toInt = J := nI_toInt (by omega)
        have ea := kx_addD (cb i) (nI J)
        have eb := kx_addD s (nI J)
        unfold kb
        dsimp only
        rw [nI_1 J]
        have h0 := ih (J + 1) z13.2.1 z13.2.2 0 (by omega) hlt hk2.1 hk2.2.2.1 (by omega) (fun q => absurd rfl q)
        have h1 := ih (J + 1) z13.2.1 z13.2.2 1 (by omega) hlt hk2.1 hk2.2.2.1 (by omega) (fun _ => hx)
        by_cases c2 : z13.1 = 0
        · simp only [if_pos c2]
          exact h0
        · simp only [if_neg c2]
          have hii : vp_in (nI i) 33 := vp_in_nI hi (by omega)
          by_cases c3 : f_X5_at_0 rows sizes (cb i + nI J) = f_X5_at_0 rows sizes (s + nI J)
          · simp only [if_pos c3]
            exact ⟨⟨hii, hz0, by omega, hz0, by omega, h1.1⟩, h1.2⟩
          · simp only [if_neg c3]
            exact ⟨⟨hii, hz0, by omega, hz0, by omega, h0.1⟩, h0.2⟩
set_option maxHeartbeats 4000000 in
theorem lk_again {kd pl nx ch le rows sizes cb cl : Nat → Int32} {D i : Nat} {cc tr lo p s : Int32} (hD : D ≤ 511) (ho : mTok kd pl D) (hpl : ∀ d, d < D → 0 ≤ (pl d).toInt ∧ (pl d).toInt ≤ (sizes 0).toInt) (hz00 : 0 ≤ (sizes 0).toInt) (hz0 : (sizes 0).toInt ≤ 4096) (hl0 : 0 ≤ lo.toInt) (hl1 : lo.toInt ≤ 100000) (hi : i < 9) (hp0 : 0 ≤ p.toInt) (hp1 : p.toInt < 512) (hs0 : 0 ≤ s.toInt) (hs1 : s.toInt ≤ (sizes 0).toInt) :
    g_X5_again (nI D) cc lo tr rows sizes pl kd nx cb cl (nI i) p s ∧ ∀ u, u = f_X5_again (nI D) cc lo tr rows sizes pl kd nx cb cl (nI i) p s → mCome lo kd nx ch le pl D p s (sizes 0) u.1 u.2.2.1 u.2.2.2.2.1 u.2.2.2.2.2.1 ch le ∧ u.2.1.toInt ≤ 33 := by
  unfold g_X5_again f_X5_again
  have ht := lk_tell (n := D) (by omega) ho cc cb cl
  generalize f_X5_tell cc pl kd cb cl (nI D) = z2 at ht ⊢
  obtain ⟨ht1, ht2⟩ := ht
  have ht2 := ht2 z2 rfl
  have hle := mT_le ho
  have hc33 : z2.1.toInt ≤ 33 := by
    rw [ht2.1, nI_toInt (by omega)]
    omega
  have hii : vp_in (nI i) 33 := vp_in_nI (by omega) (by omega)
  unfold kb
  dsimp only
  rw [nI_clamp (n := i) (by omega)]
  by_cases c1 : z2.1 ≤ nI i
  · simp only [if_pos c1]
    refine ⟨⟨ht1, trivial⟩, fun u hu => ?_⟩
    subst hu
    exact ⟨mCome_fail (Int.le_refl _) hl1 same4, hc33⟩
  · simp only [if_neg c1]
    have hic : i < (mT kd pl D).1 := by
      rcases Nat.lt_or_ge i (mT kd pl D).1 with q | q
      · exact q
      · exact absurd (by rw [ht2.1]; exact nI_le q (by omega)) c1
    have hb := mT_b D ho hpl hz0 i hic
    rw [← (ht2.2 i hic).1, ← (ht2.2 i hic).2] at hb
    by_cases c2 : (0 : Int32) ≤ z2.2.2 i
    · simp only [if_pos c2]
      have e0 := kb_le0 c2
      obtain ⟨n, hn, en⟩ := nI_of (x := z2.2.2 i) (fun q => by have := Int32.lt_iff_toInt_lt.mp q; rw [show (0 : Int32).toInt = 0 by decide] at this; omega)
      have enT : (z2.2.2 i).toInt = n := by rw [en]; exact nI_toInt hn
      have hn2 : n ≤ 4096 := by omega
      have ha := lk_againL (kd := kd) (pl := pl) (nx := nx) (ch := ch) (le := le) (rows := rows) (sizes := sizes) (cb := z2.2.1) (cl := z2.2.2) (D := D) (n := n) (i := i) (cc := z2.1) (lo0 := lo) (p := p) (s := s) hD hn2 hz0 (by omega) hb.1.1 (by omega) hp0 hp1 hs0 (by omega) hc33 kFuel 0 lo tr
      have e := kx_addD s (z2.2.2 i)
      by_cases c3 : sizes 0 < s + z2.2.2 i
      · simp only [if_pos c3]
        have h := ha 0 (by unfold kFuel; omega) (Nat.zero_le _) hl0 hl1 (Int.le_refl _) (fun q => absurd rfl q)
        rw [← en] at h
        exact ⟨⟨ht1, hii, hii, h.1⟩, h.2⟩
      · simp only [if_neg c3]
        have c3 := kx_nlt c3
        have h := ha 1 (by unfold kFuel; omega) (Nat.zero_le _) hl0 hl1 (Int.le_refl _) (fun _ => by omega)
        rw [← en] at h
        exact ⟨⟨ht1, hii, hii, h.1⟩, h.2⟩
    · simp only [if_neg c2]
      refine ⟨⟨ht1, hii, trivial⟩, fun u hu => ?_⟩
      subst hu
      exact ⟨mCome_fail (Int.le_refl _) hl1 same4, hc33⟩

def mMat (s0 sz0 lo r en cc lo' : Int32) (cb : Nat → Int32) : Prop :=
  lo.toInt ≤ lo'.toInt ∧ lo'.toInt ≤ 100000 ∧ cc.toInt ≤ 33 ∧ (¬ r = 0 → (s0.toInt ≤ en.toInt ∧ en.toInt ≤ sz0.toInt) ∧ 0 ≤ cc.toInt ∧ ∀ j : Nat, (j : Int) < cc.toInt → 0 ≤ (cb j).toInt ∧ (cb j).toInt ≤ 4096)
theorem mMat_lo {s0 sz0 lo lo1 r en cc lo' : Int32} {cb : Nat → Int32} (h0 : lo.toInt ≤ lo1.toInt) (h : mMat s0 sz0 lo1 r en cc lo' cb) : mMat s0 sz0 lo r en cc lo' cb := by
  obtain ⟨a, b, c, d⟩ := h
  exact ⟨by omega, b, c, d⟩
theorem mTok_push {kd kd' pl : Nat → Int32} {D : Nat} (ho : mTok kd pl D) (hk : ∀ j, j ≠ D → kd' j = kd j) (h4 : kd' D = 4 ∨ kd' D = 5 → (mT kd pl D).1 < 32) (h6 : kd' D = 6 → 0 ≤ (f_X5_lastOpen (nI (mT kd pl D).1) (mT kd pl D).2.2).toInt) : mTok kd' pl (D + 1) := by
  have ho' : mTok kd' pl D := mTok_congr (fun d hd => ⟨(hk d (by omega)).symm, rfl⟩) ho
  have e : mT kd pl D = mT kd' pl D := mT_congr D (fun d hd => ⟨(hk d (by omega)).symm, rfl⟩)
  rw [e] at h4 h6
  intro d hd
  by_cases q : d = D
  · subst q
    refine ⟨?_, h6⟩
    have hle := mT_le ho'
    by_cases c4 : kd' d = 4
    · rw [mT_4 c4]
      have := h4 (Or.inl c4)
      show _ + 1 ≤ 32
      omega
    · by_cases c5 : kd' d = 5
      · rw [mT_5 c4 c5]
        have := h4 (Or.inr c5)
        show _ + 1 ≤ 32
        omega
      · by_cases c6 : kd' d = 6
        · rw [mT_6 c4 c5 c6]
          exact hle
        · rw [mT_n c4 c5 c6]
          exact hle
  · exact ho' d (by omega)
/-- how much is left to do: looks and ways to give back first, then the pattern's rest -/
def mMu (lo : Int32) (sm : Int) (p : Int32) : Int := (2 * (100000 - lo.toInt) + sm) * 1000 + (if p.toInt ≤ 600 then 600 - p.toInt else 0)
theorem mMu_fwd {lo lo' p p' : Int32} {sm sm' : Int} (h : 2 * (100000 - lo'.toInt) + sm' ≤ 2 * (100000 - lo.toInt) + sm) (hp : p.toInt < p'.toInt) (hp6 : p.toInt < 600) : mMu lo' sm' p' < mMu lo sm p := by
  unfold mMu
  rw [if_pos (show p.toInt ≤ 600 by omega)]
  by_cases q : p'.toInt ≤ 600
  · rw [if_pos q]
    omega
  · rw [if_neg q]
    omega
theorem mMu_bck {lo lo' p p' : Int32} {sm sm' : Int} (h : 2 * (100000 - lo'.toInt) + sm' < 2 * (100000 - lo.toInt) + sm) (hp : 0 ≤ p'.toInt) : mMu lo' sm' p' < mMu lo sm p := by
  unfold mMu
  by_cases q : p'.toInt ≤ 600
  · rw [if_pos q]
    by_cases q2 : p.toInt ≤ 600
    · rw [if_pos q2]
      omega
    · rw [if_neg q2]
      omega
  · rw [if_neg q]
    by_cases q2 : p.toInt ≤ 600
    · rw [if_pos q2]
      omega
    · rw [if_neg q2]
      omega
theorem mMu_nn {lo p : Int32} {sm : Int} (h : 0 ≤ sm) (hl : lo.toInt ≤ 100000) : 0 ≤ mMu lo sm p := by
  unfold mMu
  by_cases q : p.toInt ≤ 600
  · rw [if_pos q]
    omega
  · rw [if_neg q]
    omega
set_option maxHeartbeats 8000000 in
theorem lk_matL {s0 x1 x2 : Int32} {rows sizes : Nat → Int32} (hz1 : (sizes 1).toInt ≤ 512) (hz00 : 0 ≤ (sizes 0).toInt) (hz0 : (sizes 0).toInt ≤ 4096) (h00 : 0 ≤ s0.toInt) :
    ∀ (k D : Nat) (p s lo tr en cc : Int32) (bg pl kd nx ch le cb cl : Nat → Int32), mMu lo (mSum kd ch le D) p < k → D ≤ 512 → (D : Int) ≤ p.toInt → (∀ d, d < D → mIt s0 (sizes 0) bg pl kd nx ch le d) → mTok kd pl D → s0.toInt ≤ s.toInt → s.toInt ≤ (sizes 0).toInt → 0 ≤ lo.toInt → lo.toInt ≤ 100000 → cc.toInt ≤ 33 →
      g_X5_matches_L0 k rows sizes (nI D) en cc lo tr bg pl kd nx ch le cb cl x1 x2 p s ∧ ∀ u, u = f_X5_matches_L0 k rows sizes (nI D) en cc lo tr bg pl kd nx ch le cb cl x1 x2 p s → mMat s0 (sizes 0) lo u.1 u.2.2.1 u.2.2.2.1 u.2.2.2.2.1 u.2.2.2.2.2.2.2.2.2.2.2.2.1 := by
  intro k
  induction k with
  | zero =>
    intro D p s lo tr en cc bg pl kd nx ch le cb cl hk hD hDp hit ho hs0 hs1 hl0 hl1 hcc
    have := mMu_nn (p := p) (mSum_nn D hit) hl1
    exact absurd hk (by omega)
  | succ k ih =>
    intro D p s lo tr en cc bg pl kd nx ch le cb cl hk hD hDp hit ho hs0 hs1 hl0 hl1 hcc
    have hk : mMu lo (mSum kd ch le D) p ≤ k := by omega
    rw [g_X5_matches_L0_s, f_X5_matches_L0_s]
    by_cases ct : tr = 0
    · simp only [if_pos ct]
      by_cases cp : p < sizes 1
      · simp only [if_pos cp]
        have cp := Int32.lt_iff_toInt_lt.mp cp
        have hD1 : D ≤ 511 := by omega
        have hin : vp_in (nI D) 520 := vp_in_nI (by omega) (by omega)
        simp only [nI_clamp (n := D) (by omega), nI_1 D, nI_pred D]
        have hplD : ∀ d, d < D → upd pl D s d = pl d := fun d hd => upd_o _ _ (by omega)
        have hbgD : ∀ d, d < D → upd bg D p d = bg d := fun d hd => upd_o _ _ (by omega)
        have ho1 : mTok kd (upd pl D s) D := mTok_congr (fun d hd => ⟨rfl, (hplD d hd).symm⟩) ho
        have hc := lk_come (kd := kd) (pl := upd pl D s) (nx := nx) (ch := ch) (le := le) (rows := rows) (sizes := sizes) (cb := cb) (cl := cl) (D := D) (cc := cc) (tr := tr) (lo := lo) (p := p) (s := s) hD1 ho1 (fun d hd => by rw [hplD d hd]; have := (hit d hd).1; omega) hz1 hz00 hz0 hcc hl0 hl1 (by omega) (by omega) (by omega) hs1
        obtain ⟨hcg, hcf⟩ := hc
        have hcf := hcf _ rfl
        generalize f_X5_come (nI D) cc lo tr rows sizes (upd pl D s) kd nx ch le cb cl p s = z at hcf ⊢
        obtain ⟨⟨a1, a2, a3, a4⟩, a5⟩ := hcf
        unfold kb
        dsimp only
        have esum : mSum z.2.2.2.2.1 z.2.2.2.2.2.2.1 z.2.2.2.2.2.2.2.1 D = mSum kd ch le D := mSum_congr D (fun d hd => ⟨(a3 d (by omega)).1, (a3 d (by omega)).2.2.1, (a3 d (by omega)).2.2.2⟩)
        have hitD : ∀ d, d < D → mIt s0 (sizes 0) (upd bg D p) (upd pl D s) z.2.2.2.2.1 z.2.2.2.2.2.1 z.2.2.2.2.2.2.1 z.2.2.2.2.2.2.2.1 d := fun d hd => mIt_congr ⟨hbgD d hd, hplD d hd, (a3 d (by omega)).1, (a3 d (by omega)).2.1, (a3 d (by omega)).2.2.1, (a3 d (by omega)).2.2.2⟩ (hit d hd)
        by_cases cz : (0 : Int32) ≤ z.1
        · simp only [if_pos cz]
          obtain ⟨b1, b2, b3, b4, b5, b6, b7⟩ := a4 (kb_le0 cz)
          have hit1 : ∀ d, d < D + 1 → mIt s0 (sizes 0) (upd bg D p) (upd pl D s) z.2.2.2.2.1 z.2.2.2.2.2.1 z.2.2.2.2.2.2.1 z.2.2.2.2.2.2.2.1 d := by
            intro d hd
            by_cases q : d = D
            · subst q
              unfold mIt
              rw [upd_s, upd_s]
              refine ⟨⟨hDp, by omega, hs0, hs1, b2⟩, fun q => ?_, fun q => ?_, fun q => ?_⟩
              · have := b3 q
                omega
              · rw [b4 q, show (0 : Int32).toInt = 0 by decide]
                omega
              · have := b5 q
                omega
            · exact hitD d (by omega)
          have hleft : mLeft z.2.2.2.2.1 z.2.2.2.2.2.2.1 z.2.2.2.2.2.2.2.1 D ≤ z.2.2.1.toInt - lo.toInt := by
            unfold mLeft
            by_cases q1 : z.2.2.2.2.1 D = 1
            · rw [if_pos q1]
              have := b3 q1
              omega
            · rw [if_neg q1]
              by_cases q3 : z.2.2.2.2.1 D = 3
              · rw [if_pos q3]
                have := b5 q3
                omega
              · rw [if_neg q3]
                omega
          have es1 : mSum z.2.2.2.2.1 z.2.2.2.2.2.2.1 z.2.2.2.2.2.2.2.1 (D + 1) = mSum z.2.2.2.2.1 z.2.2.2.2.2.2.1 z.2.2.2.2.2.2.2.1 D + mLeft z.2.2.2.2.1 z.2.2.2.2.2.2.1 z.2.2.2.2.2.2.2.1 D := rfl
          have hmu := mMu_fwd (lo := lo) (lo' := z.2.2.1) (p := p) (p' := z.2.2.2.2.2.1 D) (sm := mSum kd ch le D) (sm' := mSum z.2.2.2.2.1 z.2.2.2.2.2.2.1 z.2.2.2.2.2.2.2.1 (D + 1)) (by omega) b2 (by omega)
          have h := ih (D + 1) (z.2.2.2.2.2.1 D) z.1 z.2.2.1 z.2.2.2.1 en z.2.1 (upd bg D p) (upd pl D s) z.2.2.2.2.1 z.2.2.2.2.2.1 z.2.2.2.2.2.2.1 z.2.2.2.2.2.2.2.1 z.2.2.2.2.2.2.2.2.1 z.2.2.2.2.2.2.2.2.2 (by omega) (by omega) (by omega) hit1 (mTok_push ho1 (fun j hj => (a3 j hj).1) b6 b7) (by omega) b1.2 (by omega) a2 a5
          exact ⟨⟨hin, hin, hcg, hin, h.1⟩, fun u hu => mMat_lo a1 (h.2 u hu)⟩
        · simp only [if_neg cz]
          by_cases cz2 : z.2.2.2.1 = 0
          · simp only [if_pos cz2]
            have hb := lk_backL (s0 := s0) (bg := upd bg D p) (pl := upd pl D s) (kd := z.2.2.2.2.1) (nx := z.2.2.2.2.2.1) (le := z.2.2.2.2.2.2.2.1) (rows := rows) (sizes := sizes) hz1 hz0 h00 kFuel D z.2.2.1 z.2.2.2.1 z.2.2.2.2.2.2.1 (by unfold kFuel; omega) (by omega) (by omega) a2 hitD
            obtain ⟨hbg, hbf⟩ := hb
            have hbf := hbf _ rfl
            have hbg : g_X5_back (nI D) z.2.2.1 z.2.2.2.1 rows sizes (upd bg D p) (upd pl D s) z.2.2.2.2.1 z.2.2.2.2.2.2.1 z.2.2.2.2.2.2.2.1 := hbg
            have hbe : f_X5_back (nI D) z.2.2.1 z.2.2.2.1 rows sizes (upd bg D p) (upd pl D s) z.2.2.2.2.1 z.2.2.2.2.2.2.1 z.2.2.2.2.2.2.2.1 = f_X5_back_L0 kFuel rows sizes (upd bg D p) (upd pl D s) z.2.2.2.2.1 z.2.2.2.2.2.2.2.1 (nI D) z.2.2.1 z.2.2.2.1 z.2.2.2.2.2.2.1 := rfl
            rw [← hbe] at hbf
            generalize f_X5_back (nI D) z.2.2.1 z.2.2.2.1 rows sizes (upd bg D p) (upd pl D s) z.2.2.2.2.1 z.2.2.2.2.2.2.1 z.2.2.2.2.2.2.2.1 = y at hbf ⊢
            obtain ⟨⟨d1, d2⟩, d3⟩ := hbf
            by_cases cy : (0 : Int32) ≤ y.1
            · simp only [if_pos cy]
              obtain ⟨n, n1, n2, n3, n4, n5⟩ := d3 (kb_le0 cy)
              rw [n2, nI_pred n, nI_clamp (n := n) (by omega)]
              have hin2 : vp_in (nI n) 520 := vp_in_nI (by omega) (by omega)
              have hn := (n4 n (Nat.lt_succ_self n)).1
              have hmu := mMu_bck (lo := lo) (lo' := y.2.2.1) (p := p) (p' := z.2.2.2.2.2.1 n) (sm := mSum kd ch le D) (sm' := mSum z.2.2.2.2.1 y.2.2.2.2 z.2.2.2.2.2.2.2.1 (n + 1)) (by omega) (by omega)
              have hoD : mTok z.2.2.2.2.1 (upd pl D s) D := mTok_congr (fun d hd => ⟨((a3 d (by omega)).1).symm, rfl⟩) ho1
              have h := ih (n + 1) (z.2.2.2.2.2.1 n) y.1 y.2.2.1 y.2.2.2.1 en z.2.1 (upd bg D p) (upd pl D s) z.2.2.2.2.1 z.2.2.2.2.2.1 y.2.2.2.2 z.2.2.2.2.2.2.2.1 z.2.2.2.2.2.2.2.2.1 z.2.2.2.2.2.2.2.2.2 (by omega) (by omega) (by omega) n4 (mTok_sub hoD (by omega)) n3.1 n3.2 (by omega) d2 a5
              exact ⟨⟨hin, hin, hcg, hbg, hin2, h.1⟩, fun u hu => mMat_lo (show lo.toInt ≤ y.2.2.1.toInt by omega) (h.2 u hu)⟩
            · simp only [if_neg cy]
              refine ⟨⟨hin, hin, hcg, hbg, trivial⟩, fun u hu => ?_⟩
              subst hu
              exact ⟨(show lo.toInt ≤ y.2.2.1.toInt by omega), d2, a5, fun q => absurd rfl q⟩
          · simp only [if_neg cz2]
            refine ⟨⟨hin, hin, hcg, trivial⟩, fun u hu => ?_⟩
            subst hu
            exact ⟨a1, a2, a5, fun q => absurd rfl q⟩
      · simp only [if_neg cp]
        have ht := lk_tell (n := D) hD ho cc cb cl
        obtain ⟨ht1, ht2⟩ := ht
        have ht2 := ht2 _ rfl
        generalize f_X5_tell cc pl kd cb cl (nI D) = z at ht2 ⊢
        have hle := mT_le ho
        have hcT : z.1.toInt = (mT kd pl D).1 := by rw [ht2.1]; exact nI_toInt (by omega)
        unfold kb
        dsimp only
        by_cases c1 : f_X5_lastOpen z.1 z.2.2 < 0
        · simp only [if_pos c1]
          refine ⟨⟨ht1, by omega, by omega, trivial⟩, fun u hu => ?_⟩
          subst hu
          refine ⟨Int.le_refl _, hl1, (show z.1.toInt ≤ 33 by omega), fun _ => ⟨⟨hs0, hs1⟩, (show 0 ≤ z.1.toInt by omega), fun j hj => ?_⟩⟩
          have hj : (j : Int) < z.1.toInt := hj
          have hjc : j < (mT kd pl D).1 := by omega
          have hb := mT_b D ho (fun d hd => by have := (hit d hd).1; omega) hz0 j hjc
          show 0 ≤ (z.2.1 j).toInt ∧ (z.2.1 j).toInt ≤ 4096
          rw [(ht2.2 j hjc).1]
          omega
        · simp only [if_neg c1]
          refine ⟨⟨ht1, by omega, by omega, trivial⟩, fun u hu => ?_⟩
          subst hu
          exact ⟨Int.le_refl _, hl1, (show z.1.toInt ≤ 33 by omega), fun q => absurd rfl q⟩
    · simp only [if_neg ct]
      refine ⟨trivial, fun u hu => ?_⟩
      subst hu
      exact ⟨Int.le_refl _, hl1, hcc, fun q => absurd rfl q⟩
theorem lk_matches {s0 p0 dp en cc lo tr : Int32} {rows sizes bg pl kd nx ch le cb cl : Nat → Int32} (hz1 : (sizes 1).toInt ≤ 512) (hz00 : 0 ≤ (sizes 0).toInt) (hz0 : (sizes 0).toInt ≤ 4096) (h00 : 0 ≤ s0.toInt) (h01 : s0.toInt ≤ (sizes 0).toInt) (hp : 0 ≤ p0.toInt) (hl0 : 0 ≤ lo.toInt) (hl1 : lo.toInt ≤ 100000) (hcc : cc.toInt ≤ 33) :
    g_X5_matches dp en cc lo tr rows sizes bg pl kd nx ch le cb cl p0 s0 ∧ ∀ u, u = f_X5_matches dp en cc lo tr rows sizes bg pl kd nx ch le cb cl p0 s0 → mMat s0 (sizes 0) lo u.1 u.2.2.1 u.2.2.2.1 u.2.2.2.2.1 u.2.2.2.2.2.2.2.2.2.2.2.2.1 := by
  have hmu : mMu lo (mSum kd ch le 0) p0 < (kFuel : Int) := by
    unfold mMu kFuel
    show (2 * (100000 - lo.toInt) + 0) * 1000 + (if p0.toInt ≤ 600 then 600 - p0.toInt else 0) < ((1000000000 : Nat) : Int)
    by_cases q : p0.toInt ≤ 600
    · rw [if_pos q]
      omega
    · rw [if_neg q]
      omega
  exact lk_matL (x1 := p0) (x2 := s0) hz1 hz00 hz0 h00 kFuel 0 p0 s0 lo tr en cc bg pl kd nx ch le cb cl hmu (by omega) (by omega) (fun d hd => absurd hd (Nat.not_lt_zero _)) (fun d hd => absurd hd (Nat.not_lt_zero _)) (Int.le_refl _) h01 hl0 hl1 hcc

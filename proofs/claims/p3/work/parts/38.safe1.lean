/-! the reference's matching, as functions: every index lies within its row, every loop ends -/
theorem lk_look {lo tr : Int32} (h0 : 0 ≤ lo.toInt) (h1 : lo.toInt ≤ 100000) : ∀ u, u = f_X5_look lo tr → 0 ≤ u.2.1.toInt ∧ lo.toInt ≤ u.2.1.toInt ∧ u.2.1.toInt ≤ 100000 ∧ (¬ u.1 = 0 → u.2.1.toInt = lo.toInt + 1) := by
  intro u hu
  unfold f_X5_look at hu
  by_cases h : lo = 100000
  · rw [if_pos h] at hu
    subst hu
    exact ⟨h0, Int.le_refl _, h1, fun q => absurd rfl q⟩
  · rw [if_neg h] at hu
    have e := kx_ne h
    rw [show (100000 : Int32).toInt = 100000 by decide] at e
    have e2 := kx_addK lo (y := 1) (k := 1) (by decide)
    subst hu
    exact ⟨(show 0 ≤ (lo + 1).toInt by omega), (show lo.toInt ≤ (lo + 1).toInt by omega), (show (lo + 1).toInt ≤ 100000 by omega), fun _ => (show (lo + 1).toInt = lo.toInt + 1 by omega)⟩
theorem lk_there {lo tr : Int32} {rows sizes : Nat → Int32} {p s : Int32} (h0 : 0 ≤ lo.toInt) (h1 : lo.toInt ≤ 100000) : ∀ u, u = f_X5_isThere lo tr rows sizes p s → lo.toInt ≤ u.2.1.toInt ∧ u.2.1.toInt ≤ 100000 ∧ (¬ u.1 = 0 → s.toInt < (sizes 0).toInt ∧ u.2.1.toInt = lo.toInt + 1) := by
  intro u hu
  unfold f_X5_isThere at hu
  by_cases c1 : sizes 0 ≤ s
  · rw [if_pos c1] at hu
    subst hu
    exact ⟨Int.le_refl _, h1, fun q => absurd rfl q⟩
  · rw [if_neg c1] at hu
    have e1 := kx_nle c1
    obtain ⟨z2, hz2, hu⟩ := kb_ex hu
    have k2 := lk_look h0 h1 z2 hz2
    by_cases c2 : z2.1 = 0
    · rw [if_pos c2] at hu
      subst hu
      exact ⟨k2.2.1, k2.2.2.1, fun q => absurd rfl q⟩
    · rw [if_neg c2] at hu
      obtain ⟨z5, hz5, hu⟩ := kb_ex hu
      obtain ⟨z7, hz7, hu⟩ := kb_ex hu
      have k3 := k2.2.2.2 c2
      by_cases c3 : z7 = 0
      · rw [if_pos c3] at hu
        subst hu
        exact ⟨k2.2.1, k2.2.2.1, fun q => absurd rfl q⟩
      · rw [if_neg c3] at hu
        subst hu
        exact ⟨k2.2.1, k2.2.2.1, fun _ => ⟨by omega, k3⟩⟩
theorem lk_lastL (cc : Int32) (cl cl' : Nat → Int32) : ∀ (k : Nat) (x1 : Int32), (x1.toInt + 1).toNat < k → -1 ≤ x1.toInt → (∀ j : Nat, (j : Int) ≤ x1.toInt → cl j = cl' j) → -1 ≤ (f_X5_lastOpen_L0 k cc cl x1).toInt ∧ (f_X5_lastOpen_L0 k cc cl x1).toInt ≤ x1.toInt ∧ f_X5_lastOpen_L0 k cc cl x1 = f_X5_lastOpen_L0 k cc cl' x1 := by
  intro k
  induction k with
  | zero =>
    intro x1 hk
    exact absurd hk (Nat.not_lt_zero _)
  | succ k ih =>
    intro x1 hk h0 hc
    rw [f_X5_lastOpen_L0_s, f_X5_lastOpen_L0_s]
    by_cases c1 : x1 < 0
    · rw [if_pos c1, if_pos c1]
      exact ⟨h0, Int.le_refl _, rfl⟩
    · rw [if_neg c1, if_neg c1]
      have e1 := kb_nlt0 c1
      obtain ⟨j, hj, rfl⟩ := nI_of c1
      rw [nI_clamp hj, ← hc j (by rw [nI_toInt hj]; omega)]
      by_cases c2 : cl j = (-2)
      · rw [if_pos c2, if_pos c2]
        exact ⟨h0, Int.le_refl _, rfl⟩
      · rw [if_neg c2, if_neg c2]
        have e2 : (nI j + (-1)).toInt = (nI j).toInt - 1 := kx_dec c1
        have h := ih (nI j + (-1)) (by rw [e2]; omega) (by rw [e2]; omega) (fun i hi => hc i (by rw [e2] at hi; omega))
        rw [e2] at h
        exact ⟨h.1, by omega, h.2.2⟩
theorem lk_last {c : Nat} (hc : c ≤ 33) {cl cl' : Nat → Int32} (h : ∀ j, j < c → cl j = cl' j) : -1 ≤ (f_X5_lastOpen (nI c) cl).toInt ∧ (f_X5_lastOpen (nI c) cl).toInt < c ∧ f_X5_lastOpen (nI c) cl = f_X5_lastOpen (nI c) cl' := by
  unfold f_X5_lastOpen
  have e0 : (nI c).toInt = c := nI_toInt (by omega)
  have e1 : (nI c - 1).toInt = (c : Int) - 1 := by
    have := kx_subK (nI c) (y := 1) (k := 1) (by decide)
    omega
  have := lk_lastL (nI c) cl cl' (((nI c - 1).toInt + 1).toNat + 1) (nI c - 1) (Nat.lt_succ_self _) (by omega) (fun j hj => h j (by omega))
  exact ⟨this.1, by omega, this.2.2⟩
/-- what tell() tells of the first items: how many captures, where they begin, how long they are -/
def mT (kd pl : Nat → Int32) : Nat → Nat × (Nat → Int32) × (Nat → Int32)
  | 0 => (0, fun _ => 0, fun _ => 0)
  | d + 1 =>
    if kd d = 4 then ((mT kd pl d).1 + 1, upd (mT kd pl d).2.1 (mT kd pl d).1 (pl d), upd (mT kd pl d).2.2 (mT kd pl d).1 (-2))
    else if kd d = 5 then ((mT kd pl d).1 + 1, upd (mT kd pl d).2.1 (mT kd pl d).1 (pl d), upd (mT kd pl d).2.2 (mT kd pl d).1 (-1))
    else if kd d = 6 then ((mT kd pl d).1, (mT kd pl d).2.1, upd (mT kd pl d).2.2 (f_X5_lastOpen (nI (mT kd pl d).1) (mT kd pl d).2.2).toNatClampNeg (pl d - (mT kd pl d).2.1 (f_X5_lastOpen (nI (mT kd pl d).1) (mT kd pl d).2.2).toNatClampNeg))
    else mT kd pl d
def mTok (kd pl : Nat → Int32) (n : Nat) : Prop := ∀ d, d < n → (mT kd pl (d + 1)).1 ≤ 32 ∧ (kd d = 6 → 0 ≤ (f_X5_lastOpen (nI (mT kd pl d).1) (mT kd pl d).2.2).toInt)
theorem mT_4 {kd pl : Nat → Int32} {d : Nat} (h : kd d = 4) : mT kd pl (d + 1) = ((mT kd pl d).1 + 1, upd (mT kd pl d).2.1 (mT kd pl d).1 (pl d), upd (mT kd pl d).2.2 (mT kd pl d).1 (-2)) := by
  rw [mT, if_pos h]
theorem mT_5 {kd pl : Nat → Int32} {d : Nat} (h4 : ¬ kd d = 4) (h : kd d = 5) : mT kd pl (d + 1) = ((mT kd pl d).1 + 1, upd (mT kd pl d).2.1 (mT kd pl d).1 (pl d), upd (mT kd pl d).2.2 (mT kd pl d).1 (-1)) := by
  rw [mT, if_neg h4, if_pos h]
theorem mT_6 {kd pl : Nat → Int32} {d : Nat} (h4 : ¬ kd d = 4) (h5 : ¬ kd d = 5) (h : kd d = 6) : mT kd pl (d + 1) = ((mT kd pl d).1, (mT kd pl d).2.1, upd (mT kd pl d).2.2 (f_X5_lastOpen (nI (mT kd pl d).1) (mT kd pl d).2.2).toNatClampNeg (pl d - (mT kd pl d).2.1 (f_X5_lastOpen (nI (mT kd pl d).1) (mT kd pl d).2.2).toNatClampNeg)) := by
  rw [mT, if_neg h4, if_neg h5, if_pos h]
theorem mT_n {kd pl : Nat → Int32} {d : Nat} (h4 : ¬ kd d = 4) (h5 : ¬ kd d = 5) (h : ¬ kd d = 6) : mT kd pl (d + 1) = mT kd pl d := by
  rw [mT, if_neg h4, if_neg h5, if_neg h]
theorem mT_congr {kd kd' pl pl' : Nat → Int32} : ∀ n : Nat, (∀ d, d < n → kd d = kd' d ∧ pl d = pl' d) → mT kd pl n = mT kd' pl' n := by
  intro n
  induction n with
  | zero => intro _; rfl
  | succ n ih =>
    intro h
    have e := ih (fun d hd => h d (by omega))
    have e1 := h n (by omega)
    rw [mT, mT, e, e1.1, e1.2]
theorem mTok_congr {kd kd' pl pl' : Nat → Int32} {n : Nat} (h : ∀ d, d < n → kd d = kd' d ∧ pl d = pl' d) (ho : mTok kd pl n) : mTok kd' pl' n := by
  intro d hd
  have e0 := mT_congr (kd := kd) (kd' := kd') (pl := pl) (pl' := pl') d (fun i hi => h i (by omega))
  have e1 := mT_congr (kd := kd) (kd' := kd') (pl := pl) (pl' := pl') (d + 1) (fun i hi => h i (by omega))
  have k := ho d hd
  rw [e1, e0, (h d hd).1] at k
  exact k
theorem mTok_sub {kd pl : Nat → Int32} {n m : Nat} (h : mTok kd pl n) (hm : m ≤ n) : mTok kd pl m := fun d hd => h d (by omega)
theorem mT_le {kd pl : Nat → Int32} {n : Nat} (h : mTok kd pl n) : (mT kd pl n).1 ≤ 32 := by
  cases n with
  | zero => exact Nat.zero_le _
  | succ n => exact (h n (Nat.lt_succ_self n)).1
def mAg (t : Nat × (Nat → Int32) × (Nat → Int32)) (cb cl : Nat → Int32) : Prop := ∀ j, j < t.1 → cb j = t.2.1 j ∧ cl j = t.2.2 j
theorem mAg_push {t : Nat × (Nat → Int32) × (Nat → Int32)} {cb cl : Nat → Int32} (h : mAg t cb cl) (x y : Int32) : mAg (t.1 + 1, upd t.2.1 t.1 x, upd t.2.2 t.1 y) (upd cb t.1 x) (upd cl t.1 y) := by
  intro j hj
  show (if j = t.1 then x else cb j) = (if j = t.1 then x else t.2.1 j) ∧ (if j = t.1 then y else cl j) = (if j = t.1 then y else t.2.2 j)
  by_cases e : j = t.1
  · rw [if_pos e, if_pos e, if_pos e, if_pos e]
    exact ⟨rfl, rfl⟩
  · rw [if_neg e, if_neg e, if_neg e, if_neg e]
    exact h j (by have : j < t.1 + 1 := hj; omega)
set_option maxHeartbeats 4000000 in
theorem lk_tellL {kd pl : Nat → Int32} {n : Nat} (hn : n ≤ 512) (ho : mTok kd pl n) : ∀ (k D : Nat) (cc : Int32) (cb cl : Nat → Int32), n - D < k → D ≤ n → cc = nI (mT kd pl D).1 → mAg (mT kd pl D) cb cl → g_X5_tell_L0 k pl kd cc cb cl (nI n) (nI D) ∧ ∀ u, u = f_X5_tell_L0 k pl kd cc cb cl (nI n) (nI D) → u.1 = nI (mT kd pl n).1 ∧ mAg (mT kd pl n) u.2.1 u.2.2 := by
  intro k
  induction k with
  | zero =>
    intro D cc cb cl hk
    exact absurd hk (Nat.not_lt_zero _)
  | succ k ih =>
    intro D cc cb cl hk hD hcc hag
    rw [g_X5_tell_L0_s, f_X5_tell_L0_s]
    by_cases c1 : nI n ≤ nI D
    · have e : D = n := by
        have := (nI_leI (a := n) (b := D) (by omega) (by omega)).mp c1
        omega
      subst e
      simp only [if_pos c1]
      refine ⟨trivial, fun u hu => ?_⟩
      subst hu
      exact ⟨hcc, hag⟩
    · have hlt : D < n := by
        rcases Nat.lt_or_ge D n with q | q
        · exact q
        · exact absurd (nI_le q (by omega)) c1
      simp only [if_neg c1, nI_clamp (n := D) (by omega)]
      have hin : vp_in (nI D) 520 := vp_in_nI (by omega) (by omega)
      have hle := mT_le (mTok_sub ho hD)
      have hle' := (ho D hlt).1
      have hcl : cc.toNatClampNeg = (mT kd pl D).1 := by rw [hcc]; exact nI_clamp (by omega)
      have hic : vp_in cc 33 := by rw [hcc]; exact vp_in_nI (by omega) (by omega)
      rw [hcl]
      have hs : nI D + 1 = nI (D + 1) := nI_1 D
      rw [hs]
      by_cases c4 : kd D = 4
      · simp only [if_pos c4]
        have e := mT_4 (pl := pl) c4
        have h := ih (D + 1) (cc + 1) (upd cb (mT kd pl D).1 (pl D)) (upd cl (mT kd pl D).1 (-2)) (by omega) hlt (by rw [hcc, e]; exact nI_1 _) (by rw [e]; exact mAg_push hag _ _)
        exact ⟨⟨hin, hin, hic, hin, hic, hin, h.1⟩, h.2⟩
      · simp only [if_neg c4]
        by_cases c5 : kd D = 5
        · simp only [if_pos c5]
          have e := mT_5 (pl := pl) c4 c5
          have h := ih (D + 1) (cc + 1) (upd cb (mT kd pl D).1 (pl D)) (upd cl (mT kd pl D).1 (-1)) (by omega) hlt (by rw [hcc, e]; exact nI_1 _) (by rw [e]; exact mAg_push hag _ _)
          exact ⟨⟨hin, hin, hin, hic, hin, hic, hin, h.1⟩, h.2⟩
        · simp only [if_neg c5]
          by_cases c6 : kd D = 6
          · simp only [if_pos c6]
            have e := mT_6 (pl := pl) c4 c5 c6
            have hl := lk_last (c := (mT kd pl D).1) (by omega) (cl := cl) (cl' := (mT kd pl D).2.2) (fun j hj => (hag j hj).2)
            have hnn := (ho D hlt).2 c6
            rw [← hcc] at hl hnn e
            rw [← hl.2.2] at hnn e
            have hz0 : ∃ j, j < (mT kd pl D).1 ∧ f_X5_lastOpen cc cl = nI j := by
              obtain ⟨j, hj, ej⟩ := nI_of (x := f_X5_lastOpen cc cl) (fun q => by have := Int32.lt_iff_toInt_lt.mp q; rw [show (0 : Int32).toInt = 0 by decide] at this; omega)
              refine ⟨j, ?_, ej⟩
              have := hl.2.1
              rw [ej, nI_toInt hj] at this
              omega
            obtain ⟨j, hj, ej⟩ := hz0
            rw [ej, nI_clamp (n := j) (by omega)] at e
            have hij : vp_in (nI j) 33 := vp_in_nI (by omega) (by omega)
            have hcT : cc.toInt = (mT kd pl D).1 := by rw [hcc]; exact nI_toInt (by omega)
            have hag2 : mAg (mT kd pl (D + 1)) cb (upd cl j (pl D - cb j)) := by
              rw [e]
              intro i hi
              refine ⟨(hag i hi).1, ?_⟩
              show (if i = j then pl D - cb j else cl i) = (if i = j then pl D - (mT kd pl D).2.1 j else (mT kd pl D).2.2 i)
              by_cases q : i = j
              · rw [if_pos q, if_pos q, (hag j hj).1]
              · rw [if_neg q, if_neg q]
                exact (hag i hi).2
            have h := ih (D + 1) cc cb (upd cl j (pl D - cb j)) (by omega) hlt (by rw [hcc, e]) hag2
            rw [ej]
            unfold kb
            dsimp only
            rw [nI_clamp (n := j) (by omega)]
            exact ⟨⟨hin, hin, hin, by omega, by omega, hin, hij, hij, h.1⟩, h.2⟩
          · simp only [if_neg c6]
            have e := mT_n (pl := pl) c4 c5 c6
            have h := ih (D + 1) cc cb cl (by omega) hlt (by rw [hcc, e]) (by rw [e]; exact hag)
            exact ⟨⟨hin, hin, hin, h.1⟩, h.2⟩
theorem lk_tell {kd pl : Nat → Int32} {n : Nat} (hn : n ≤ 512) (ho : mTok kd pl n) (cc : Int32) (cb cl : Nat → Int32) : g_X5_tell cc pl kd cb cl (nI n) ∧ ∀ u, u = f_X5_tell cc pl kd cb cl (nI n) → u.1 = nI (mT kd pl n).1 ∧ mAg (mT kd pl n) u.2.1 u.2.2 := by
  unfold g_X5_tell f_X5_tell
  exact lk_tellL hn ho kFuel 0 0 cb cl (by unfold kFuel; omega) (Nat.zero_le _) rfl (fun j hj => absurd hj (Nat.not_lt_zero _))

set_option maxHeartbeats 4000000 in
theorem lk_searchL {x1 x2 x3 : Int32} {rows sizes : Nat → Int32} (hz1 : (sizes 1).toInt ≤ 512) (hz00 : 0 ≤ (sizes 0).toInt) (hz0 : (sizes 0).toInt ≤ 4096) (hx1 : x1.toInt ≤ (sizes 0).toInt) :
    ∀ (k : Nat) (x4 dp en cc lo tr fd fi : Int32) (bg pl kd nx ch le cb cl : Nat → Int32), ((sizes 0).toInt + 1 - x4.toInt).toNat < k → 0 ≤ x4.toInt → x4.toInt ≤ (sizes 0).toInt + 1 → 0 ≤ lo.toInt → lo.toInt ≤ 100000 → cc.toInt ≤ 33 →
      g_X5_search_L0 k rows sizes dp en cc lo tr fd fi bg pl kd nx ch le cb cl x1 x2 x3 x4 ∧ ∀ u, u = f_X5_search_L0 k rows sizes dp en cc lo tr fd fi bg pl kd nx ch le cb cl x1 x2 x3 x4 → u.2.2.2.1.toInt ≤ 33 := by
  intro k
  induction k with
  | zero =>
    intro x4 dp en cc lo tr fd fi bg pl kd nx ch le cb cl hk
    exact absurd hk (Nat.not_lt_zero _)
  | succ k ih =>
    intro x4 dp en cc lo tr fd fi bg pl kd nx ch le cb cl hk h40 h41 hl0 hl1 hcc
    rw [g_X5_search_L0_s, f_X5_search_L0_s]
    have e1 := kx_addK x4 (y := 1) (k := 1) (by decide)
    by_cases c0 : x2 = 0
    · simp only [if_pos c0]
      by_cases cx : sizes 0 < x4
      · simp only [if_pos cx]
        refine ⟨by split <;> trivial, fun u hu => ?_⟩
        split at hu <;> (subst hu; exact hcc)
      · simp only [if_neg cx]
        have cx := kx_nlt cx
        by_cases cf : fd = 0
        · simp only [if_pos cf]
          by_cases ct : tr = 0
          · simp only [if_pos ct]
            have hm := lk_matches (s0 := x4) (p0 := 0) (dp := dp) (en := en) (cc := cc) (lo := lo) (tr := tr) (rows := rows) (sizes := sizes) (bg := bg) (pl := pl) (kd := kd) (nx := nx) (ch := ch) (le := le) (cb := cb) (cl := cl) hz1 hz00 hz0 h40 (by omega) (by decide) hl0 hl1 hcc
            obtain ⟨hmg, hmf⟩ := hm
            have hmf := hmf _ rfl
            generalize f_X5_matches dp en cc lo tr rows sizes bg pl kd nx ch le cb cl 0 x4 = z at hmf ⊢
            obtain ⟨a1, a2, a3, -⟩ := hmf
            unfold kb
            dsimp only
            have h := fun (fd' : Int32) => ih (x4 + 1) z.2.1 z.2.2.1 z.2.2.2.1 z.2.2.2.2.1 z.2.2.2.2.2.1 fd' x4 z.2.2.2.2.2.2.1 z.2.2.2.2.2.2.2.1 z.2.2.2.2.2.2.2.2.1 z.2.2.2.2.2.2.2.2.2.1 z.2.2.2.2.2.2.2.2.2.2.1 z.2.2.2.2.2.2.2.2.2.2.2.1 z.2.2.2.2.2.2.2.2.2.2.2.2.1 z.2.2.2.2.2.2.2.2.2.2.2.2.2 (by omega) (by omega) (by omega) (by omega) a2 a3
            by_cases c1 : z.1 = 0
            · simp only [if_pos c1]
              exact ⟨⟨hmg, (h 0).1⟩, (h 0).2⟩
            · simp only [if_neg c1]
              by_cases c2 : z.2.2.1 = x3
              · simp only [if_pos c2]
                exact ⟨⟨hmg, (h 0).1⟩, (h 0).2⟩
              · simp only [if_neg c2]
                exact ⟨⟨hmg, (h 1).1⟩, (h 1).2⟩
          · simp only [if_neg ct]
            refine ⟨trivial, fun u hu => ?_⟩
            subst hu
            exact hcc
        · simp only [if_neg cf]
          refine ⟨trivial, fun u hu => ?_⟩
          subst hu
          exact hcc
    · simp only [if_neg c0]
      by_cases cx : x1 < x4
      · simp only [if_pos cx]
        refine ⟨by split <;> trivial, fun u hu => ?_⟩
        split at hu <;> (subst hu; exact hcc)
      · simp only [if_neg cx]
        have cx := kx_nlt cx
        by_cases cf : fd = 0
        · simp only [if_pos cf]
          by_cases ct : tr = 0
          · simp only [if_pos ct]
            have hm := lk_matches (s0 := x4) (p0 := 1) (dp := dp) (en := en) (cc := cc) (lo := lo) (tr := tr) (rows := rows) (sizes := sizes) (bg := bg) (pl := pl) (kd := kd) (nx := nx) (ch := ch) (le := le) (cb := cb) (cl := cl) hz1 hz00 hz0 h40 (by omega) (by decide) hl0 hl1 hcc
            obtain ⟨hmg, hmf⟩ := hm
            have hmf := hmf _ rfl
            generalize f_X5_matches dp en cc lo tr rows sizes bg pl kd nx ch le cb cl 1 x4 = z at hmf ⊢
            obtain ⟨a1, a2, a3, -⟩ := hmf
            unfold kb
            dsimp only
            have h := fun (fd' : Int32) => ih (x4 + 1) z.2.1 z.2.2.1 z.2.2.2.1 z.2.2.2.2.1 z.2.2.2.2.2.1 fd' x4 z.2.2.2.2.2.2.1 z.2.2.2.2.2.2.2.1 z.2.2.2.2.2.2.2.2.1 z.2.2.2.2.2.2.2.2.2.1 z.2.2.2.2.2.2.2.2.2.2.1 z.2.2.2.2.2.2.2.2.2.2.2.1 z.2.2.2.2.2.2.2.2.2.2.2.2.1 z.2.2.2.2.2.2.2.2.2.2.2.2.2 (by omega) (by omega) (by omega) (by omega) a2 a3
            by_cases c1 : z.1 = 0
            · simp only [if_pos c1]
              exact ⟨⟨hmg, (h 0).1⟩, (h 0).2⟩
            · simp only [if_neg c1]
              by_cases c2 : z.2.2.1 = x3
              · simp only [if_pos c2]
                exact ⟨⟨hmg, (h 0).1⟩, (h 0).2⟩
              · simp only [if_neg c2]
                exact ⟨⟨hmg, (h 1).1⟩, (h 1).2⟩
          · simp only [if_neg ct]
            refine ⟨trivial, fun u hu => ?_⟩
            subst hu
            exact hcc
        · simp only [if_neg cf]
          refine ⟨trivial, fun u hu => ?_⟩
          subst hu
          exact hcc
theorem lk_search {dp en cc lo tr fd fi a1 a2 a3 : Int32} {rows sizes bg pl kd nx ch le cb cl : Nat → Int32} (hz1 : (sizes 1).toInt ≤ 512) (hz00 : 0 ≤ (sizes 0).toInt) (hz0 : (sizes 0).toInt ≤ 4096) (h0 : 0 ≤ a1.toInt) (h1 : a1.toInt ≤ (sizes 0).toInt) (hcc : cc.toInt ≤ 33) :
    g_X5_search dp en cc lo tr fd fi rows sizes bg pl kd nx ch le cb cl a1 a2 a3 ∧ ∀ u, u = f_X5_search dp en cc lo tr fd fi rows sizes bg pl kd nx ch le cb cl a1 a2 a3 → u.2.2.2.1.toInt ≤ 33 := by
  unfold g_X5_search f_X5_search
  exact lk_searchL hz1 hz00 hz0 h1 kFuel a1 dp en cc 0 0 0 fi bg pl kd nx ch le cb cl (by unfold kFuel; omega) h0 (by omega) (by decide) (by decide) hcc
theorem lk_find {dp en cc lo tr fd fi a1 : Int32} {rows sizes bg pl kd nx ch le cb cl : Nat → Int32} (hz1 : (sizes 1).toInt ≤ 512) (hz00 : 0 ≤ (sizes 0).toInt) (hz0 : (sizes 0).toInt ≤ 4096) (hcc : cc.toInt ≤ 33) :
    g_X5_find dp en cc lo tr fd fi rows sizes bg pl kd nx ch le cb cl a1 ∧ ∀ u, u = f_X5_find dp en cc lo tr fd fi rows sizes bg pl kd nx ch le cb cl a1 → u.2.2.2.1.toInt ≤ 33 := by
  unfold g_X5_find f_X5_find
  by_cases c1 : a1 < 0
  · simp only [if_pos c1]
    refine ⟨trivial, fun u hu => ?_⟩
    subst hu
    exact hcc
  · simp only [if_neg c1]
    by_cases c2 : a1 ≤ sizes 0
    · simp only [if_pos c2]
      have c2 := Int32.le_iff_toInt_le.mp c2
      unfold kb
      dsimp only
      have h := lk_search (dp := dp) (en := en) (cc := cc) (lo := lo) (tr := tr) (fd := fd) (fi := fi) (a1 := a1) (a2 := f_X5_isAnchored rows sizes) (a3 := -1) (rows := rows) (sizes := sizes) (bg := bg) (pl := pl) (kd := kd) (nx := nx) (ch := ch) (le := le) (cb := cb) (cl := cl) hz1 hz00 hz0 (kb_nlt0 c1) c2 hcc
      refine ⟨⟨hz1, h.1, trivial⟩, fun u hu => ?_⟩
      subst hu
      exact h.2 _ rfl
    · simp only [if_neg c2]
      refine ⟨trivial, fun u hu => ?_⟩
      subst hu
      exact hcc
theorem lk_next {dp en cc lo tr fd fi fr ed : Int32} {rows sizes bg pl kd nx ch le cb cl : Nat → Int32} (hz1 : (sizes 1).toInt ≤ 512) (hz00 : 0 ≤ (sizes 0).toInt) (hz0 : (sizes 0).toInt ≤ 4096) (hcc : cc.toInt ≤ 33) :
    g_X5_next dp en cc lo tr fd fi fr ed rows sizes bg pl kd nx ch le cb cl ∧ ∀ u, u = f_X5_next dp en cc lo tr fd fi fr ed rows sizes bg pl kd nx ch le cb cl → u.2.2.2.1.toInt ≤ 33 := by
  unfold g_X5_next f_X5_next
  by_cases c1 : fr < 0
  · simp only [if_pos c1]
    refine ⟨trivial, fun u hu => ?_⟩
    subst hu
    exact hcc
  · simp only [if_neg c1]
    by_cases c2 : fr ≤ sizes 0
    · simp only [if_pos c2]
      have c2 := Int32.le_iff_toInt_le.mp c2
      unfold kb
      dsimp only
      have h := lk_search (dp := dp) (en := en) (cc := cc) (lo := 0) (tr := tr) (fd := 0) (fi := fi) (a1 := fr) (a2 := 0) (a3 := ed) (rows := rows) (sizes := sizes) (bg := bg) (pl := pl) (kd := kd) (nx := nx) (ch := ch) (le := le) (cb := cb) (cl := cl) hz1 hz00 hz0 (kb_nlt0 c1) c2 hcc
      refine ⟨⟨h.1, by split <;> trivial⟩, fun u hu => ?_⟩
      split at hu <;> (subst hu; exact h.2 _ rfl)
    · simp only [if_neg c2]
      refine ⟨trivial, fun u hu => ?_⟩
      subst hu
      exact hcc
set_option maxHeartbeats 4000000 in
theorem lk_makeCapture {ms en cc tr a1 a2 : Int32} {rows sizes md cb cl : Nat → Int32} (hz0 : (sizes 0).toInt ≤ 4096) (h20 : 0 ≤ a2.toInt) (hm0 : 0 ≤ ms.toInt) (hm1 : ms.toInt ≤ 8192) (hcc : cc.toInt ≤ 33) (hcb : ∀ j : Nat, (j : Int) < cc.toInt → 0 ≤ (cb j).toInt ∧ (cb j).toInt ≤ 4096) :
    g_X5_makeCapture ms en cc tr rows sizes md cb cl a1 a2 ∧ ∀ u, u = f_X5_makeCapture ms en cc tr rows sizes md cb cl a1 a2 → 0 ≤ u.1.toInt ∧ u.1.toInt ≤ 8192 := by
  unfold g_X5_makeCapture f_X5_makeCapture
  have hA := fun (b e : Int32) (hb : 0 ≤ b.toInt) => pf_X5_makeAll (m_trouble := tr) (m_rows := rows) (m_made := md) (a1 := b) (a2 := e) hz0 hb hm0 hm1 rfl
  unfold kb
  dsimp only
  by_cases c1 : a1 < 0
  · simp only [if_pos c1]
    refine ⟨⟨hz0, h20, hm0, hm1, trivial⟩, fun u hu => ?_⟩
    subst hu
    exact hA a2 en h20
  · simp only [if_neg c1]
    obtain ⟨i, hi, rfl⟩ := nI_of c1
    simp only [nI_clamp hi]
    have hiT : (nI i).toInt = i := nI_toInt hi
    have tail : ∀ q : nI i < cc, (vp_in (nI i) 33 ∧ 0 ≤ (cb i).toInt ∧ (cb i).toInt ≤ 4096) := by
      intro q
      have q := Int32.lt_iff_toInt_lt.mp q
      exact ⟨vp_in_nI (by omega) (by omega), hcb i (by omega)⟩
    have e1 := kx_addK (cb i) (y := 1) (k := 1) (by decide)
    have key : (if nI i < cc then vp_in (nI i) 33 ∧ (if (0 : Int32) ≤ cl i then vp_in (nI i) 33 ∧ vp_in (nI i) 33 ∧ vp_in (nI i) 33 ∧ (sizes 0).toInt ≤ 4096 ∧ 0 ≤ (cb i).toInt ∧ 0 ≤ ms.toInt ∧ ms.toInt ≤ 8192 ∧ True else vp_in (nI i) 33 ∧ 1 ≤ (cb i + 1).toInt ∧ (cb i + 1).toInt ≤ 5000 ∧ 0 ≤ ms.toInt ∧ ms.toInt ≤ 8192 ∧ True) else if tr = 0 then True else True) := by
      by_cases q : nI i < cc
      · rw [if_pos q]
        have t := tail q
        refine ⟨t.1, ?_⟩
        split
        · exact ⟨t.1, t.1, t.1, hz0, t.2.1, hm0, hm1, trivial⟩
        · exact ⟨t.1, by omega, by omega, hm0, hm1, trivial⟩
      · rw [if_neg q]
        split <;> trivial
    have fin : ∀ u, u = (if nI i < cc then (if (0 : Int32) ≤ cl i then ((f_X5_makeAll ms tr rows sizes md (cb i) (cb i + cl i)).1, (f_X5_makeAll ms tr rows sizes md (cb i) (cb i + cl i)).2.1, (f_X5_makeAll ms tr rows sizes md (cb i) (cb i + cl i)).2.2) else ((f_X5_makeNumber ms tr md (cb i + 1)).1, (f_X5_makeNumber ms tr md (cb i + 1)).2.1, (f_X5_makeNumber ms tr md (cb i + 1)).2.2)) else (if tr = 0 then (ms, (-2), md) else (ms, tr, md))) → 0 ≤ u.1.toInt ∧ u.1.toInt ≤ 8192 := by
      intro u hu
      by_cases q : nI i < cc
      · rw [if_pos q] at hu
        have t := tail q
        split at hu
        · subst hu
          exact hA (cb i) (cb i + cl i) t.2.1
        · subst hu
          exact pf_X5_makeNumber (m_trouble := tr) (m_made := md) (a1 := cb i + 1) (by omega) (by omega) hm0 hm1 rfl
      · rw [if_neg q] at hu
        split at hu <;> (subst hu; exact ⟨hm0, hm1⟩)
    by_cases c2 : nI i = 0
    · simp only [if_pos c2]
      by_cases c3 : cc = 0
      · simp only [if_pos c3]
        refine ⟨⟨hz0, h20, hm0, hm1, trivial⟩, fun u hu => ?_⟩
        subst hu
        exact hA a2 en h20
      · simp only [if_neg c3]
        exact ⟨key, fin⟩
    · simp only [if_neg c2]
      exact ⟨key, fin⟩
set_option maxHeartbeats 4000000 in
theorem lk_makeRL {en cc x1 : Int32} {rows sizes cb cl : Nat → Int32} (hz0 : (sizes 0).toInt ≤ 4096) (hz2 : (sizes 2).toInt ≤ 512) (h10 : 0 ≤ x1.toInt) (hcc : cc.toInt ≤ 33) (hcb : ∀ j : Nat, (j : Int) < cc.toInt → 0 ≤ (cb j).toInt ∧ (cb j).toInt ≤ 4096) :
    ∀ (k : Nat) (x2 ms tr : Int32) (md : Nat → Int32), ((sizes 2).toInt - x2.toInt).toNat < k → 0 ≤ x2.toInt → 0 ≤ ms.toInt → ms.toInt ≤ 8192 →
      g_X5_makeReplacement_L0 k en cc rows sizes cb cl ms tr md x1 x2 ∧ ∀ u, u = f_X5_makeReplacement_L0 k en cc rows sizes cb cl ms tr md x1 x2 → 0 ≤ u.1.toInt ∧ u.1.toInt ≤ 8192 := by
  intro k
  induction k with
  | zero =>
    intro x2 ms tr md hk
    exact absurd hk (Nat.not_lt_zero _)
  | succ k ih =>
    intro x2 ms tr md hk h2 hm0 hm1
    rw [g_X5_makeReplacement_L0_s, f_X5_makeReplacement_L0_s]
    by_cases c1 : sizes 2 ≤ x2
    · simp only [if_pos c1]
      refine ⟨trivial, fun u hu => ?_⟩
      subst hu
      exact ⟨hm0, hm1⟩
    · simp only [if_neg c1]
      have c1 := kx_nle c1
      have e1 := kx_addK x2 (y := 1) (k := 1) (by decide)
      have e2 := kx_addK x2 (y := 2) (k := 2) (by decide)
      by_cases ct : tr = 0
      · simp only [if_pos ct]
        generalize f_X5_at_2 rows sizes x2 = z5
        generalize f_X5_at_2 rows sizes (x2 + 1) = z8
        unfold kb
        dsimp only
        by_cases c5 : z5 = 37
        · simp only [if_pos c5]
          by_cases c8 : z8 = 37
          · simp only [if_pos c8]
            have hm := pf_X5_make (m_trouble := tr) (m_made := md) (a1 := z8) hm0 hm1 rfl
            have h := ih (x2 + 2) (f_X5_make ms tr md z8).1 (f_X5_make ms tr md z8).2.1 (f_X5_make ms tr md z8).2.2 (by omega) (by omega) hm.1 hm.2
            exact ⟨⟨hz2, h2, hz2, by omega, hm0, hm1, h.1⟩, h.2⟩
          · simp only [if_neg c8]
            by_cases c11 : f_X5_isDigit z8 = 0
            · simp only [if_pos c11]
              have h := ih (x2 + 2) ms (-2) md (by omega) (by omega) hm0 hm1
              exact ⟨⟨hz2, h2, hz2, by omega, h.1⟩, h.2⟩
            · simp only [if_neg c11]
              have hc := lk_makeCapture (ms := ms) (en := en) (cc := cc) (tr := tr) (a1 := z8 - 49) (a2 := x1) (rows := rows) (sizes := sizes) (md := md) (cb := cb) (cl := cl) hz0 h10 hm0 hm1 hcc hcb
              have hm := hc.2 _ rfl
              have h := ih (x2 + 2) (f_X5_makeCapture ms en cc tr rows sizes md cb cl (z8 - 49) x1).1 (f_X5_makeCapture ms en cc tr rows sizes md cb cl (z8 - 49) x1).2.1 (f_X5_makeCapture ms en cc tr rows sizes md cb cl (z8 - 49) x1).2.2 (by omega) (by omega) hm.1 hm.2
              exact ⟨⟨hz2, h2, hz2, by omega, hc.1, h.1⟩, h.2⟩
        · simp only [if_neg c5]
          have hm := pf_X5_make (m_trouble := tr) (m_made := md) (a1 := z5) hm0 hm1 rfl
          have h := ih (x2 + 1) (f_X5_make ms tr md z5).1 (f_X5_make ms tr md z5).2.1 (f_X5_make ms tr md z5).2.2 (by omega) (by omega) hm.1 hm.2
          exact ⟨⟨hz2, h2, hz2, by omega, hm0, hm1, h.1⟩, h.2⟩
      · simp only [if_neg ct]
        refine ⟨trivial, fun u hu => ?_⟩
        subst hu
        exact ⟨hm0, hm1⟩

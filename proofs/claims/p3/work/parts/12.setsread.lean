def f_X1_readNamed (n : Nat) (words : Nat → Int64) (a1 : Int32) (a2 : Int32) (a3 : Int32) : Int32 × (Nat → Int64) := (if a2 = (-1) then ((-1), words) else (kb (f_X1_addNamed n words a1 a2) (fun z_2 => (a3, z_2))))
abbrev rm_X1_readNamed : Room := { frames := 2, cells := 0, slots := 0, locals := 54 }
set_option maxHeartbeats 4000000 in
set_option maxRecDepth 100000 in
theorem c_X1_readNamed (l : Launch) (DD : va_G) (aC : Nat → ClassId) (tt : Nat → Nat) (q0 q1 n : Nat) (words : Nat → Int64) (a1 : Int32) (a2 : Int32) (a3 : Int32) (hp_0 : n < 1073741824) (u : Int32 × (Nat → Int64)) (hu : u = f_X1_readNamed n words a1 a2 a3) : kM l yX1_readNamed wsX1_readNamed rm_X1_readNamed DD aC tt [.ref q0, .int a1, .int a2, .int a3] [(q0, .inr (1, [.ref q1])), (q1, .inl (aC 2, n, .inr (.inl words)))] (some (.int u.1)) [(q0, .inr (1, [.ref q1])), (q1, .inl (aC 2, n, .inr (.inl u.2)))] := by
  refine k_start (cc := cX1_readNamed) (maxL := 4) (ret := (some .int)) (own := RX1) (lv0 := [(0, .ref q0), (1, .int a1), (2, .int a2), (3, .int a3)]) (by decide) rfl rfl (Nat.le_of_ble_eq_true rfl) rfl (fun p e s m below meth c A ls X hP hD hS hl => ?_)
  obtain ⟨hx, hb, hr, hml, hts, hown, hlocks, hA, hE⟩ := id X
  unfold f_X1_readNamed at hu
  refine lv_iload_n hx hb dX1_readNamed_0 rfl (lv_at hl 2 rfl) ?_
  refine lv_iconst (v := (-1)) hx hb dX1_readNamed_1 (by decide) ?_
  refine lv_icmp_ne (tgt := 7) hx hb dX1_readNamed_2 (by decide) (fun c_1 => ?_) (fun c_1 => ?_)
  · replace hu := hu.trans (if_neg c_1)
    refine lv_aload_n hx hb dX1_readNamed_7 rfl (lv_at hl 0 rfl) ?_
    refine lv_iload_n hx hb dX1_readNamed_8 rfl (lv_at hl 1 rfl) ?_
    refine lv_iload_n hx hb dX1_readNamed_9 rfl (lv_at hl 2 rfl) ?_
    obtain ⟨z_2, hz_2⟩ : ∃ z, z = f_X1_addNamed n words a1 a2 := ⟨_, rfl⟩
    replace hu := hu.trans (kb_of hz_2)
    refine k_callV (As := [.int a1, .int a2]) (rest := []) (wc := [(q0, .inr (1, [.ref q1])), (q1, .inl (aC 2, n, .inr (.inl words)))]) (wr := []) (w1 := [(q0, .inr (1, [.ref q1])), (q1, .inl (aC 2, n, .inr (.inl z_2)))]) (wn := [(q0, .inr (1, [.ref q1])), (q1, .inl (aC 2, n, .inr (.inl z_2)))]) ⟨hx, hb, hml, hown, hts⟩ (c_X1_addNamed l DD aC tt q0 q1 n words a1 a2 hp_0 z_2 hz_2) (cwV 2 hts (gdV w_292 w_294 w_5 w_72 w_295) rfl rfl rfl (by decide +kernel) ⟨Nat.le_of_ble_eq_true rfl, Nat.le_of_ble_eq_true rfl⟩) hP hD hS hA hE [0, 1] [] [0, 1] rfl rfl rfl (by decide) (by decide) (by decide) (by decide) (ci := 1) (q0 := 0) rfl rfl rfl hl.1 rfl (Nat.le_of_ble_eq_true rfl) dX1_readNamed_10 (fun H locs hP hD hS => ?_)
    have hP : va_P DD vwCl [(q0, .inr (1, [.ref q1])), (q1, .inl (aC 2, n, .inr (.inl z_2)))] H := hP
    have hD : va_D A [(q0, .inr (1, [.ref q1])), (q1, .inl (aC 2, n, .inr (.inl z_2)))] := hD
    refine W.eq (g2 := F0 m 13 ls []) rfl ?_
    refine lv_iload_n hx hb dX1_readNamed_13 rfl (lv_at hl 3 rfl) ?_
    subst hu
    exact k_iret hx hb hr hlocks hP hD hS rfl rfl dX1_readNamed_14
  · replace hu := hu.trans (if_pos c_1)
    refine lv_iconst (v := (-1)) hx hb dX1_readNamed_5 (by decide) ?_
    subst hu
    exact k_iret hx hb hr hlocks hP hD hS rfl rfl dX1_readNamed_6
def f_X1_closingOf_L0 (k : Nat) (p_length : Int32) (p_bytes : Nat → Int32) (x1 : Int32) (x2 : Int32) : Int32 := match k with
  | 0 => 0
  | k + 1 => (if p_length ≤ x2 then (-1) else (kb (f_X0_at p_length p_bytes x2) (fun z_2 => (if z_2 = 37 then (f_X1_closingOf_L0 k p_length p_bytes x1 ((x2 + 1) + 1)) else (if z_2 = 93 then (if x2 ≤ x1 then (f_X1_closingOf_L0 k p_length p_bytes x1 (x2 + 1)) else x2) else (f_X1_closingOf_L0 k p_length p_bytes x1 (x2 + 1)))))))
theorem f_X1_closingOf_L0_s {k : Nat} {p_length : Int32} {p_bytes : Nat → Int32} {x1 : Int32} {x2 : Int32} : f_X1_closingOf_L0 (k + 1) p_length p_bytes x1 x2 = (if p_length ≤ x2 then (-1) else (kb (f_X0_at p_length p_bytes x2) (fun z_2 => (if z_2 = 37 then (f_X1_closingOf_L0 k p_length p_bytes x1 ((x2 + 1) + 1)) else (if z_2 = 93 then (if x2 ≤ x1 then (f_X1_closingOf_L0 k p_length p_bytes x1 (x2 + 1)) else x2) else (f_X1_closingOf_L0 k p_length p_bytes x1 (x2 + 1))))))) := rfl
def f_X1_closingOf (p_length : Int32) (p_bytes : Nat → Int32) (a1 : Int32) : Int32 := (f_X1_closingOf_L0 ((p_length.toInt - a1.toInt).toNat + 1) p_length p_bytes a1 a1)
abbrev rm_X1_closingOf : Room := { frames := 1, cells := 0, slots := 0, locals := 21 }
set_option maxHeartbeats 4000000 in
set_option maxRecDepth 100000 in
theorem t_X1_closingOf_L0 {l : Launch} {DD : va_G} {aC : Nat → ClassId} {tt : Nat → Nat} {p : Program} {e : Env} {s : State} {m : MethodId} {below : List Frame} {meth : Method} {c : Code} {A : Nat → Prop} {AV : Array Value} (X : kX p s m AV meth c cX1_closingOf (some .int) 4 wsX1_closingOf RX1 DD aC tt A) (q0 q1 p_n : Nat) (p_length : Int32) (p_bytes : Nat → Int32) (a1 : Int32) (hn_n : p_n < 1073741824) (hp_1 : p_length.toInt ≤ p_n) :
    ∀ (k : Nat) (x1 : Int32) (x2 : Int32), (p_length.toInt - x2.toInt).toNat < k → ∀ (u : Int32), u = f_X1_closingOf_L0 k p_length p_bytes x1 x2 → ∀ (H : Heap) (locs : List Loc) (ls : Array Slot), va_P DD vwCl [(q0, .inr (0, [.ref q1, .int p_length])), (q1, .inl (aC 1, p_n, .inl p_bytes))] H → va_D A [(q0, .inr (0, [.ref q1, .int p_length])), (q1, .inl (aC 1, p_n, .inl p_bytes))] → va_S A s.heap H locs → lv_has ls 4 [(0, .ref q0), (1, .int x1), (2, .int x2)] → W p l e rm_X1_closingOf s m AV below meth c H locs 0 0 (MQ below (kQ DD vwCl (some (.int u)) [(q0, .inr (0, [.ref q1, .int p_length])), (q1, .inl (aC 1, p_n, .inl p_bytes))] A) AV s 0 0 A) (F0 m 2 ls []) := by
  obtain ⟨hx, hb, hr, hml, hts, hown, hlocks, hA, hE⟩ := id X
  intro k
  induction k with
  | zero =>
    intro x1 x2 hk
    exact absurd hk (Nat.not_lt_zero _)
  | succ k ih =>
    intro x1 x2 hk u hu H locs ls hP hD hS hl
    replace hu := hu.trans f_X1_closingOf_L0_s
    refine lv_iload_n hx hb dX1_closingOf_2 rfl (lv_at hl 2 rfl) ?_
    refine lv_aload_n hx hb dX1_closingOf_3 rfl (lv_at hl 0 rfl) ?_
    refine k_callV (As := []) (rest := [.int x2]) (wc := [(q0, .inr (0, [.ref q1, .int p_length])), (q1, .inl (aC 1, p_n, .inl p_bytes))]) (wr := []) (w1 := [(q0, .inr (0, [.ref q1, .int p_length])), (q1, .inl (aC 1, p_n, .inl p_bytes))]) (wn := [(q0, .inr (0, [.ref q1, .int p_length])), (q1, .inl (aC 1, p_n, .inl p_bytes))]) ⟨hx, hb, hml, hown, hts⟩ (c_X0_length l DD aC tt q0 q1 p_n p_length p_bytes   p_length rfl) (cwV 0 hts (gdV w_291 w_235 w_236 w_69 w_237) rfl rfl rfl (by decide +kernel) ⟨Nat.le_of_ble_eq_true rfl, Nat.le_of_ble_eq_true rfl⟩) hP hD hS hA hE [0, 1] [] [0, 1] rfl rfl rfl (by decide) (by decide) (by decide) (by decide) (ci := 0) (q0 := 0) rfl rfl rfl hl.1 rfl (Nat.le_of_ble_eq_true rfl) dX1_closingOf_4 (fun H locs hP hD hS => ?_)
    refine W.eq (g2 := F0 m 7 ls [.int p_length, .int x2]) rfl ?_
    refine lv_icmp_ge (tgt := 47) hx hb dX1_closingOf_7 (by decide) (fun c_1 => ?_) (fun c_1 => ?_)
    · replace hu := hu.trans (if_pos c_1)
      refine lv_iconst (v := (-1)) hx hb dX1_closingOf_47 (by decide) ?_
      subst hu
      exact k_iret hx hb hr hlocks hP hD hS rfl rfl dX1_closingOf_48
    · replace hu := hu.trans (if_neg c_1)
      refine lv_aload_n hx hb dX1_closingOf_10 rfl (lv_at hl 0 rfl) ?_
      refine lv_iload_n hx hb dX1_closingOf_11 rfl (lv_at hl 2 rfl) ?_
      obtain ⟨z_2, hz_2⟩ : ∃ z, z = f_X0_at p_length p_bytes x2 := ⟨_, rfl⟩
      replace hu := hu.trans (kb_of hz_2)
      refine k_callV (As := [.int x2]) (rest := []) (wc := [(q0, .inr (0, [.ref q1, .int p_length])), (q1, .inl (aC 1, p_n, .inl p_bytes))]) (wr := []) (w1 := [(q0, .inr (0, [.ref q1, .int p_length])), (q1, .inl (aC 1, p_n, .inl p_bytes))]) (wn := [(q0, .inr (0, [.ref q1, .int p_length])), (q1, .inl (aC 1, p_n, .inl p_bytes))]) ⟨hx, hb, hml, hown, hts⟩ (c_X0_at l DD aC tt q0 q1 p_n p_length p_bytes x2 hp_1 z_2 hz_2) (cwV 1 hts (gdV w_283 w_259 w_260 w_69 w_261) rfl rfl rfl (by decide +kernel) ⟨Nat.le_of_ble_eq_true rfl, Nat.le_of_ble_eq_true rfl⟩) hP hD hS hA hE [0, 1] [] [0, 1] rfl rfl rfl (by decide) (by decide) (by decide) (by decide) (ci := 0) (q0 := 0) rfl rfl rfl hl.1 rfl (Nat.le_of_ble_eq_true rfl) dX1_closingOf_12 (fun H locs hP hD hS => ?_)
      refine W.eq (g2 := F0 m 15 ls [.int z_2]) rfl ?_
      refine lv_istore_n (lv' := [(3, .int z_2), (0, .ref q0), (1, .int x1), (2, .int x2)]) hx hb dX1_closingOf_15 rfl hl (by decide) rfl (fun ls hl => ?_)
      refine lv_iload_n hx hb dX1_closingOf_16 rfl (lv_at hl 0 rfl) ?_
      refine lv_bipush (v := 37) hx hb dX1_closingOf_17 (by decide) ?_
      refine lv_icmp_ne (tgt := 28) hx hb dX1_closingOf_19 (by decide) (fun c_3 => ?_) (fun c_3 => ?_)
      · replace hu := hu.trans (if_neg c_3)
        refine lv_iload_n hx hb dX1_closingOf_28 rfl (lv_at hl 0 rfl) ?_
        refine lv_bipush (v := 93) hx hb dX1_closingOf_29 (by decide) ?_
        refine lv_icmp_ne (tgt := 41) hx hb dX1_closingOf_31 (by decide) (fun c_4 => ?_) (fun c_4 => ?_)
        · replace hu := hu.trans (if_neg c_4)
          refine lv_iinc (v := x2 + 1) (lv' := [(2, .int (x2 + 1)), (3, .int z_2), (0, .ref q0), (1, .int x1)]) hx hb dX1_closingOf_41 hl (k := 3) rfl rfl (by decide) rfl (fun ls hl => ?_)
          refine lv_goto (tgt := 2) hx hb dX1_closingOf_44 (by decide) ?_
          exact ih x1 (x2 + 1) (Nat.lt_of_lt_of_le (kmu_up c_1) (Nat.le_of_lt_succ hk)) u hu _ _ _ hP hD hS (lv_sub hl [2, 3, 0] rfl)
        · replace hu := hu.trans (if_pos c_4)
          refine lv_iload_n hx hb dX1_closingOf_34 rfl (lv_at hl 3 rfl) ?_
          refine lv_iload_n hx hb dX1_closingOf_35 rfl (lv_at hl 2 rfl) ?_
          refine lv_icmp_le (tgt := 41) hx hb dX1_closingOf_36 (by decide) (fun c_5 => ?_) (fun c_5 => ?_)
          · replace hu := hu.trans (if_pos c_5)
            refine lv_iinc (v := x2 + 1) (lv' := [(2, .int (x2 + 1)), (3, .int z_2), (0, .ref q0), (1, .int x1)]) hx hb dX1_closingOf_41 hl (k := 3) rfl rfl (by decide) rfl (fun ls hl => ?_)
            refine lv_goto (tgt := 2) hx hb dX1_closingOf_44 (by decide) ?_
            exact ih x1 (x2 + 1) (Nat.lt_of_lt_of_le (kmu_up c_1) (Nat.le_of_lt_succ hk)) u hu _ _ _ hP hD hS (lv_sub hl [2, 3, 0] rfl)
          · replace hu := hu.trans (if_neg c_5)
            refine lv_iload_n hx hb dX1_closingOf_39 rfl (lv_at hl 3 rfl) ?_
            subst hu
            exact k_iret hx hb hr hlocks hP hD hS rfl rfl dX1_closingOf_40
      · replace hu := hu.trans (if_pos c_3)
        refine lv_iinc (v := x2 + 1) (lv' := [(2, .int (x2 + 1)), (3, .int z_2), (0, .ref q0), (1, .int x1)]) hx hb dX1_closingOf_22 hl (k := 3) rfl rfl (by decide) rfl (fun ls hl => ?_)
        refine lv_goto (tgt := 41) hx hb dX1_closingOf_25 (by decide) ?_
        refine lv_iinc (v := (x2 + 1) + 1) (lv' := [(2, .int ((x2 + 1) + 1)), (3, .int z_2), (0, .ref q0), (1, .int x1)]) hx hb dX1_closingOf_41 hl (k := 0) rfl rfl (by decide) rfl (fun ls hl => ?_)
        refine lv_goto (tgt := 2) hx hb dX1_closingOf_44 (by decide) ?_
        exact ih x1 ((x2 + 1) + 1) (Nat.lt_of_lt_of_le (by have i1 := kx_nle c_1; have i2 := congrArg Int32.toInt c_3; have i3 := kx_rng (p_length); have i4 := kx_rng (x2); have i5 := kx_rng ((x2 + 1) + 1); have i6 := kx_rng (x2 + 1); have i9 := kx_rng (z_2); have i10 : (37 : Int32).toInt = 37 := (by decide); first | omega | (have i7 := kx_addK x2 (y := 1) (k := 1) (by decide); have i8 := kx_addK (x2 + 1) (y := 1) (k := 1) (by decide); omega)) (Nat.le_of_lt_succ hk)) u hu _ _ _ hP hD hS (lv_sub hl [2, 3, 0] rfl)
set_option maxHeartbeats 4000000 in
set_option maxRecDepth 100000 in
theorem c_X1_closingOf (l : Launch) (DD : va_G) (aC : Nat → ClassId) (tt : Nat → Nat) (q0 q1 p_n : Nat) (p_length : Int32) (p_bytes : Nat → Int32) (a1 : Int32) (hn_n : p_n < 1073741824) (hp_1 : p_length.toInt ≤ p_n) (u : Int32) (hu : u = f_X1_closingOf p_length p_bytes a1) : kM l yX1_closingOf wsX1_closingOf rm_X1_closingOf DD aC tt [.ref q0, .int a1] [(q0, .inr (0, [.ref q1, .int p_length])), (q1, .inl (aC 1, p_n, .inl p_bytes))] (some (.int u)) [(q0, .inr (0, [.ref q1, .int p_length])), (q1, .inl (aC 1, p_n, .inl p_bytes))] := by
  refine k_start (cc := cX1_closingOf) (maxL := 4) (ret := (some .int)) (own := RX1) (lv0 := [(0, .ref q0), (1, .int a1)]) (by decide) rfl rfl (Nat.le_of_ble_eq_true rfl) rfl (fun p e s m below meth c A ls X hP hD hS hl => ?_)
  obtain ⟨hx, hb, hr, hml, hts, hown, hlocks, hA, hE⟩ := id X
  unfold f_X1_closingOf at hu
  refine lv_iload_n hx hb dX1_closingOf_0 rfl (lv_at hl 1 rfl) ?_
  refine lv_istore_n (lv' := [(2, .int a1), (0, .ref q0), (1, .int a1)]) hx hb dX1_closingOf_1 rfl hl (by decide) rfl (fun ls hl => ?_)
  exact t_X1_closingOf_L0 X q0 q1 p_n p_length p_bytes a1 hn_n hp_1 ((p_length.toInt - a1.toInt).toNat + 1) a1 a1 (Nat.lt_succ_self _) u hu _ _ _ hP hD hS (lv_sub hl [1, 2, 0] rfl)
theorem pf_X1_closingOf_L0 (p_length : Int32) (p_bytes : Nat → Int32) (x1 : Int32) : ∀ (k : Nat) (x2 : Int32), f_X1_closingOf_L0 k p_length p_bytes x1 x2 = -1 ∨ f_X1_closingOf_L0 k p_length p_bytes x1 x2 = 0 ∨ (f_X1_closingOf_L0 k p_length p_bytes x1 x2).toInt < p_length.toInt := by
  intro k
  induction k with
  | zero => intro x2; exact Or.inr (Or.inl rfl)
  | succ k ih =>
    intro x2
    rw [f_X1_closingOf_L0_s]
    split
    · exact Or.inl rfl
    · next h =>
      have h1 := kx_nle h
      unfold kb
      dsimp only
      repeat' split
      all_goals first | exact ih _ | exact Or.inr (Or.inr (by omega))
theorem pf_X1_closingOf {p_length : Int32} {p_bytes : Nat → Int32} {a1 z : Int32} (hz : z = f_X1_closingOf p_length p_bytes a1) : z.toInt ≤ 0 ∨ z.toInt < p_length.toInt := by
  subst hz
  rcases pf_X1_closingOf_L0 p_length p_bytes a1 _ a1 with h | h | h
  · exact Or.inl (by rw [f_X1_closingOf, h]; decide)
  · exact Or.inl (by rw [f_X1_closingOf, h]; decide)
  · exact Or.inr h
def f_X1_readSet_L0 (k : Nat) (n : Nat) (p_length : Int32) (p_bytes : Nat → Int32) (words : Nat → Int64) (x1 : Int32) (x3 : Int32) (x4 : Int32) (x5 : Int32) (x6 : Int32) (x7 : Int32) : Int32 × (Nat → Int64) := match k with
  | 0 => (0, fun _ => 0)
  | k + 1 => (if x6 ≤ x7 then (if x4 = 0 then (x6 + 1, words) else (kb (f_X1_turn n words x1) (fun z_8 => (x6 + 1, z_8)))) else (kb (f_X0_at p_length p_bytes x7) (fun z_9 => (if z_9 = 37 then (if x6 ≤ (x7 + 1) then (kb (f_X0_at p_length p_bytes (x7 + 1)) (fun z_19 => (if z_19 = 45 then (if x6 ≤ (x7 + 2) then (kb (f_X1_addSpan n words x1 z_9 z_9) (fun z_23 => (f_X1_readSet_L0 k n p_length p_bytes z_23 x1 x3 x4 x5 x6 (x7 + 1)))) else (kb (f_X0_at p_length p_bytes (x7 + 2)) (fun z_24 => (kb (f_X1_addSpan n words x1 z_9 z_24) (fun z_25 => (f_X1_readSet_L0 k n p_length p_bytes z_25 x1 x3 x4 x5 x6 ((x7 + 2) + 1))))))) else (kb (f_X1_addSpan n words x1 z_9 z_9) (fun z_21 => (f_X1_readSet_L0 k n p_length p_bytes z_21 x1 x3 x4 x5 x6 (x7 + 1))))))) else (kb (f_X0_at p_length p_bytes (x7 + 1)) (fun z_26 => (kb (f_X1_addNamed n words x1 z_26) (fun z_27 => (f_X1_readSet_L0 k n p_length p_bytes z_27 x1 x3 x4 x5 x6 ((x7 + 1) + 1))))))) else (kb (f_X0_at p_length p_bytes (x7 + 1)) (fun z_11 => (if z_11 = 45 then (if x6 ≤ (x7 + 2) then (kb (f_X1_addSpan n words x1 z_9 z_9) (fun z_15 => (f_X1_readSet_L0 k n p_length p_bytes z_15 x1 x3 x4 x5 x6 (x7 + 1)))) else (kb (f_X0_at p_length p_bytes (x7 + 2)) (fun z_16 => (kb (f_X1_addSpan n words x1 z_9 z_16) (fun z_17 => (f_X1_readSet_L0 k n p_length p_bytes z_17 x1 x3 x4 x5 x6 ((x7 + 2) + 1))))))) else (kb (f_X1_addSpan n words x1 z_9 z_9) (fun z_13 => (f_X1_readSet_L0 k n p_length p_bytes z_13 x1 x3 x4 x5 x6 (x7 + 1)))))))))))
theorem f_X1_readSet_L0_s {k : Nat} {n : Nat} {p_length : Int32} {p_bytes : Nat → Int32} {words : Nat → Int64} {x1 : Int32} {x3 : Int32} {x4 : Int32} {x5 : Int32} {x6 : Int32} {x7 : Int32} : f_X1_readSet_L0 (k + 1) n p_length p_bytes words x1 x3 x4 x5 x6 x7 = (if x6 ≤ x7 then (if x4 = 0 then (x6 + 1, words) else (kb (f_X1_turn n words x1) (fun z_8 => (x6 + 1, z_8)))) else (kb (f_X0_at p_length p_bytes x7) (fun z_9 => (if z_9 = 37 then (if x6 ≤ (x7 + 1) then (kb (f_X0_at p_length p_bytes (x7 + 1)) (fun z_19 => (if z_19 = 45 then (if x6 ≤ (x7 + 2) then (kb (f_X1_addSpan n words x1 z_9 z_9) (fun z_23 => (f_X1_readSet_L0 k n p_length p_bytes z_23 x1 x3 x4 x5 x6 (x7 + 1)))) else (kb (f_X0_at p_length p_bytes (x7 + 2)) (fun z_24 => (kb (f_X1_addSpan n words x1 z_9 z_24) (fun z_25 => (f_X1_readSet_L0 k n p_length p_bytes z_25 x1 x3 x4 x5 x6 ((x7 + 2) + 1))))))) else (kb (f_X1_addSpan n words x1 z_9 z_9) (fun z_21 => (f_X1_readSet_L0 k n p_length p_bytes z_21 x1 x3 x4 x5 x6 (x7 + 1))))))) else (kb (f_X0_at p_length p_bytes (x7 + 1)) (fun z_26 => (kb (f_X1_addNamed n words x1 z_26) (fun z_27 => (f_X1_readSet_L0 k n p_length p_bytes z_27 x1 x3 x4 x5 x6 ((x7 + 1) + 1))))))) else (kb (f_X0_at p_length p_bytes (x7 + 1)) (fun z_11 => (if z_11 = 45 then (if x6 ≤ (x7 + 2) then (kb (f_X1_addSpan n words x1 z_9 z_9) (fun z_15 => (f_X1_readSet_L0 k n p_length p_bytes z_15 x1 x3 x4 x5 x6 (x7 + 1)))) else (kb (f_X0_at p_length p_bytes (x7 + 2)) (fun z_16 => (kb (f_X1_addSpan n words x1 z_9 z_16) (fun z_17 => (f_X1_readSet_L0 k n p_length p_bytes z_17 x1 x3 x4 x5 x6 ((x7 + 2) + 1))))))) else (kb (f_X1_addSpan n words x1 z_9 z_9) (fun z_13 => (f_X1_readSet_L0 k n p_length p_bytes z_13 x1 x3 x4 x5 x6 (x7 + 1))))))))))) := rfl
def f_X1_readSet (n : Nat) (words : Nat → Int64) (p_length : Int32) (p_bytes : Nat → Int32) (a1 : Int32) (a3 : Int32) : Int32 × (Nat → Int64) := (kb (f_X0_at p_length p_bytes a3) (fun z_1 => (if z_1 = 94 then (kb (f_X1_closingOf p_length p_bytes (a3 + 1)) (fun z_28 => (if z_28 = (-1) then ((-1), words) else (f_X1_readSet_L0 ((z_28.toInt - (a3 + 1).toInt).toNat + 1) n p_length p_bytes words a1 a3 1 (a3 + 1) z_28 (a3 + 1))))) else (kb (f_X1_closingOf p_length p_bytes a3) (fun z_3 => (if z_3 = (-1) then ((-1), words) else (f_X1_readSet_L0 ((z_3.toInt - a3.toInt).toNat + 1) n p_length p_bytes words a1 a3 0 a3 z_3 a3)))))))
abbrev rm_X1_readSet : Room := { frames := 2, cells := 0, slots := 0, locals := 54 }
set_option maxHeartbeats 4000000 in
set_option maxRecDepth 100000 in
theorem t_X1_readSet_L0 {l : Launch} {DD : va_G} {aC : Nat → ClassId} {tt : Nat → Nat} {p : Program} {e : Env} {s : State} {m : MethodId} {below : List Frame} {meth : Method} {c : Code} {A : Nat → Prop} {AV : Array Value} (X : kX p s m AV meth c cX1_readSet (some .int) 9 wsX1_readSet RX1 DD aC tt A) (q0 q1 q2 q3 n p_n : Nat) (p_length : Int32) (p_bytes : Nat → Int32) (a1 : Int32) (a3 : Int32) (hp_0 : p_length.toInt ≤ p_n) (hp_1 : p_n < 1073741824) (hp_2 : n < 1073741824) :
    ∀ (k : Nat) (words : Nat → Int64) (x1 : Int32) (x3 : Int32) (x4 : Int32) (x5 : Int32) (x6 : Int32) (x7 : Int32), (x6.toInt < 1073741824) → (x6.toInt - x7.toInt).toNat < k → ∀ (u : Int32 × (Nat → Int64)), u = f_X1_readSet_L0 k n p_length p_bytes words x1 x3 x4 x5 x6 x7 → ∀ (H : Heap) (locs : List Loc) (ls : Array Slot), va_P DD vwCl [(q0, .inr (1, [.ref q1])), (q1, .inl (aC 2, n, .inr (.inl words))), (q2, .inr (0, [.ref q3, .int p_length])), (q3, .inl (aC 1, p_n, .inl p_bytes))] H → va_D A [(q0, .inr (1, [.ref q1])), (q1, .inl (aC 2, n, .inr (.inl words))), (q2, .inr (0, [.ref q3, .int p_length])), (q3, .inl (aC 1, p_n, .inl p_bytes))] → va_S A s.heap H locs → lv_has ls 9 [(0, .ref q0), (1, .int x1), (2, .ref q2), (3, .int x3), (4, .int x4), (5, .int x5), (6, .int x6), (7, .int x7)] → W p l e rm_X1_readSet s m AV below meth c H locs 0 0 (MQ below (kQ DD vwCl (some (.int u.1)) [(q0, .inr (1, [.ref q1])), (q1, .inl (aC 2, n, .inr (.inl u.2))), (q2, .inr (0, [.ref q3, .int p_length])), (q3, .inl (aC 1, p_n, .inl p_bytes))] A) AV s 0 0 A) (F0 m 51 ls []) := by
  obtain ⟨hx, hb, hr, hml, hts, hown, hlocks, hA, hE⟩ := id X
  intro k
  induction k with
  | zero =>
    intro words x1 x3 x4 x5 x6 x7 hcl hk
    exact absurd hk (Nat.not_lt_zero _)
  | succ k ih =>
    intro words x1 x3 x4 x5 x6 x7 hcl hk u hu H locs ls hP hD hS hl
    replace hu := hu.trans f_X1_readSet_L0_s
    refine lv_iload hx hb dX1_readSet_51 (lv_at hl 7 rfl) ?_
    refine lv_iload hx hb dX1_readSet_53 (lv_at hl 6 rfl) ?_
    refine lv_icmp_ge (tgt := 155) hx hb dX1_readSet_55 (by decide) (fun c_6 => ?_) (fun c_6 => ?_)
    · replace hu := hu.trans (if_pos c_6)
      refine lv_iload hx hb dX1_readSet_155 (lv_at hl 4 rfl) ?_
      refine lv_if_eq (tgt := 165) hx hb dX1_readSet_157 (by decide) (fun c_7 => ?_) (fun c_7 => ?_)
      · replace hu := hu.trans (if_pos c_7)
        refine lv_iload hx hb dX1_readSet_165 (lv_at hl 6 rfl) ?_
        refine lv_iconst (v := 1) hx hb dX1_readSet_167 (by decide) ?_
        refine lv_iadd hx hb dX1_readSet_168 ?_
        subst hu
        exact k_iret hx hb hr hlocks hP hD hS rfl rfl dX1_readSet_169
      · replace hu := hu.trans (if_neg c_7)
        refine lv_aload_n hx hb dX1_readSet_160 rfl (lv_at hl 0 rfl) ?_
        refine lv_iload_n hx hb dX1_readSet_161 rfl (lv_at hl 1 rfl) ?_
        obtain ⟨z_8, hz_8⟩ : ∃ z, z = f_X1_turn n words x1 := ⟨_, rfl⟩
        replace hu := hu.trans (kb_of hz_8)
        refine k_callV (As := [.int x1]) (rest := []) (wc := [(q0, .inr (1, [.ref q1])), (q1, .inl (aC 2, n, .inr (.inl words)))]) (wr := [(q2, .inr (0, [.ref q3, .int p_length])), (q3, .inl (aC 1, p_n, .inl p_bytes))]) (w1 := [(q0, .inr (1, [.ref q1])), (q1, .inl (aC 2, n, .inr (.inl z_8)))]) (wn := [(q0, .inr (1, [.ref q1])), (q1, .inl (aC 2, n, .inr (.inl z_8))), (q2, .inr (0, [.ref q3, .int p_length])), (q3, .inl (aC 1, p_n, .inl p_bytes))]) ⟨hx, hb, hml, hown, hts⟩ (c_X1_turn l DD aC tt q0 q1 n words x1 hp_2 z_8 hz_8) (cwV 1 hts (gdV w_310 w_312 w_8 w_72 w_313) rfl rfl rfl (by decide +kernel) ⟨Nat.le_of_ble_eq_true rfl, Nat.le_of_ble_eq_true rfl⟩) hP hD hS hA hE [0, 1] [2, 3] [2, 3, 0, 1] rfl rfl rfl (by decide) (by decide) (by decide) (by decide) (ci := 1) (q0 := 0) rfl rfl rfl hl.1 rfl (Nat.le_of_ble_eq_true rfl) dX1_readSet_162 (fun H locs hP hD hS => ?_)
        have hP : va_P DD vwCl [(q0, .inr (1, [.ref q1])), (q1, .inl (aC 2, n, .inr (.inl z_8))), (q2, .inr (0, [.ref q3, .int p_length])), (q3, .inl (aC 1, p_n, .inl p_bytes))] H := hP
        have hD : va_D A [(q0, .inr (1, [.ref q1])), (q1, .inl (aC 2, n, .inr (.inl z_8))), (q2, .inr (0, [.ref q3, .int p_length])), (q3, .inl (aC 1, p_n, .inl p_bytes))] := hD
        refine W.eq (g2 := F0 m 165 ls []) rfl ?_
        refine lv_iload hx hb dX1_readSet_165 (lv_at hl 6 rfl) ?_
        refine lv_iconst (v := 1) hx hb dX1_readSet_167 (by decide) ?_
        refine lv_iadd hx hb dX1_readSet_168 ?_
        subst hu
        exact k_iret hx hb hr hlocks hP hD hS rfl rfl dX1_readSet_169
    · replace hu := hu.trans (if_neg c_6)
      refine lv_aload_n hx hb dX1_readSet_58 rfl (lv_at hl 2 rfl) ?_
      refine lv_iload hx hb dX1_readSet_59 (lv_at hl 7 rfl) ?_
      obtain ⟨z_9, hz_9⟩ : ∃ z, z = f_X0_at p_length p_bytes x7 := ⟨_, rfl⟩
      replace hu := hu.trans (kb_of hz_9)
      refine k_callV (As := [.int x7]) (rest := []) (wc := [(q2, .inr (0, [.ref q3, .int p_length])), (q3, .inl (aC 1, p_n, .inl p_bytes))]) (wr := [(q0, .inr (1, [.ref q1])), (q1, .inl (aC 2, n, .inr (.inl words)))]) (w1 := [(q2, .inr (0, [.ref q3, .int p_length])), (q3, .inl (aC 1, p_n, .inl p_bytes))]) (wn := [(q0, .inr (1, [.ref q1])), (q1, .inl (aC 2, n, .inr (.inl words))), (q2, .inr (0, [.ref q3, .int p_length])), (q3, .inl (aC 1, p_n, .inl p_bytes))]) ⟨hx, hb, hml, hown, hts⟩ (c_X0_at l DD aC tt q2 q3 p_n p_length p_bytes x7 hp_0 z_9 hz_9) (cwV 1 hts (gdV w_283 w_259 w_260 w_69 w_261) rfl rfl rfl (by decide +kernel) ⟨Nat.le_of_ble_eq_true rfl, Nat.le_of_ble_eq_true rfl⟩) hP hD hS hA hE [2, 3] [0, 1] [0, 1, 2, 3] rfl rfl rfl (by decide) (by decide) (by decide) (by decide) (ci := 0) (q0 := 0) rfl rfl rfl hl.1 rfl (Nat.le_of_ble_eq_true rfl) dX1_readSet_61 (fun H locs hP hD hS => ?_)
      refine W.eq (g2 := F0 m 64 ls [.int z_9]) rfl ?_
      refine lv_istore (lv' := [(8, .int z_9), (0, .ref q0), (1, .int x1), (2, .ref q2), (3, .int x3), (4, .int x4), (5, .int x5), (6, .int x6), (7, .int x7)]) hx hb dX1_readSet_64 hl (by decide) rfl (fun ls hl => ?_)
      refine lv_iload hx hb dX1_readSet_66 (lv_at hl 0 rfl) ?_
      refine lv_bipush (v := 37) hx hb dX1_readSet_68 (by decide) ?_
      refine lv_icmp_ne (tgt := 99) hx hb dX1_readSet_70 (by decide) (fun c_10 => ?_) (fun c_10 => ?_)
      · replace hu := hu.trans (if_neg c_10)
        refine lv_aload_n hx hb dX1_readSet_99 rfl (lv_at hl 3 rfl) ?_
        refine lv_iload hx hb dX1_readSet_100 (lv_at hl 8 rfl) ?_
        refine lv_iconst (v := 1) hx hb dX1_readSet_102 (by decide) ?_
        refine lv_iadd hx hb dX1_readSet_103 ?_
        obtain ⟨z_11, hz_11⟩ : ∃ z, z = f_X0_at p_length p_bytes (x7 + 1) := ⟨_, rfl⟩
        replace hu := hu.trans (kb_of hz_11)
        refine k_callV (As := [.int (x7 + 1)]) (rest := []) (wc := [(q2, .inr (0, [.ref q3, .int p_length])), (q3, .inl (aC 1, p_n, .inl p_bytes))]) (wr := [(q0, .inr (1, [.ref q1])), (q1, .inl (aC 2, n, .inr (.inl words)))]) (w1 := [(q2, .inr (0, [.ref q3, .int p_length])), (q3, .inl (aC 1, p_n, .inl p_bytes))]) (wn := [(q0, .inr (1, [.ref q1])), (q1, .inl (aC 2, n, .inr (.inl words))), (q2, .inr (0, [.ref q3, .int p_length])), (q3, .inl (aC 1, p_n, .inl p_bytes))]) ⟨hx, hb, hml, hown, hts⟩ (c_X0_at l DD aC tt q2 q3 p_n p_length p_bytes (x7 + 1) hp_0 z_11 hz_11) (cwV 1 hts (gdV w_283 w_259 w_260 w_69 w_261) rfl rfl rfl (by decide +kernel) ⟨Nat.le_of_ble_eq_true rfl, Nat.le_of_ble_eq_true rfl⟩) hP hD hS hA hE [2, 3] [0, 1] [0, 1, 2, 3] rfl rfl rfl (by decide) (by decide) (by decide) (by decide) (ci := 0) (q0 := 0) rfl rfl rfl hl.1 rfl (Nat.le_of_ble_eq_true rfl) dX1_readSet_104 (fun H locs hP hD hS => ?_)
        refine W.eq (g2 := F0 m 107 ls [.int z_11]) rfl ?_
        refine lv_bipush (v := 45) hx hb dX1_readSet_107 (by decide) ?_
        refine lv_icmp_ne (tgt := 140) hx hb dX1_readSet_109 (by decide) (fun c_12 => ?_) (fun c_12 => ?_)
        · replace hu := hu.trans (if_neg c_12)
          refine lv_aload_n hx hb dX1_readSet_140 rfl (lv_at hl 1 rfl) ?_
          refine lv_iload_n hx hb dX1_readSet_141 rfl (lv_at hl 2 rfl) ?_
          refine lv_iload hx hb dX1_readSet_142 (lv_at hl 0 rfl) ?_
          refine lv_iload hx hb dX1_readSet_144 (lv_at hl 0 rfl) ?_
          obtain ⟨z_13, hz_13⟩ : ∃ z, z = f_X1_addSpan n words x1 z_9 z_9 := ⟨_, rfl⟩
          replace hu := hu.trans (kb_of hz_13)
          refine k_callV (As := [.int x1, .int z_9, .int z_9]) (rest := []) (wc := [(q0, .inr (1, [.ref q1])), (q1, .inl (aC 2, n, .inr (.inl words)))]) (wr := [(q2, .inr (0, [.ref q3, .int p_length])), (q3, .inl (aC 1, p_n, .inl p_bytes))]) (w1 := [(q0, .inr (1, [.ref q1])), (q1, .inl (aC 2, n, .inr (.inl z_13)))]) (wn := [(q0, .inr (1, [.ref q1])), (q1, .inl (aC 2, n, .inr (.inl z_13))), (q2, .inr (0, [.ref q3, .int p_length])), (q3, .inl (aC 1, p_n, .inl p_bytes))]) ⟨hx, hb, hml, hown, hts⟩ (c_X1_addSpan l DD aC tt q0 q1 n words x1 z_9 z_9 hp_2 z_13 hz_13) (cwV 3 hts (gdV w_306 w_308 w_7 w_72 w_309) rfl rfl rfl (by decide +kernel) ⟨Nat.le_of_ble_eq_true rfl, Nat.le_of_ble_eq_true rfl⟩) hP hD hS hA hE [0, 1] [2, 3] [2, 3, 0, 1] rfl rfl rfl (by decide) (by decide) (by decide) (by decide) (ci := 1) (q0 := 0) rfl rfl rfl hl.1 rfl (Nat.le_of_ble_eq_true rfl) dX1_readSet_146 (fun H locs hP hD hS => ?_)
          have hP : va_P DD vwCl [(q0, .inr (1, [.ref q1])), (q1, .inl (aC 2, n, .inr (.inl z_13))), (q2, .inr (0, [.ref q3, .int p_length])), (q3, .inl (aC 1, p_n, .inl p_bytes))] H := hP
          have hD : va_D A [(q0, .inr (1, [.ref q1])), (q1, .inl (aC 2, n, .inr (.inl z_13))), (q2, .inr (0, [.ref q3, .int p_length])), (q3, .inl (aC 1, p_n, .inl p_bytes))] := hD
          refine W.eq (g2 := F0 m 149 ls []) rfl ?_
          refine lv_iinc (v := x7 + 1) (lv' := [(7, .int (x7 + 1)), (8, .int z_9), (0, .ref q0), (1, .int x1), (2, .ref q2), (3, .int x3), (4, .int x4), (5, .int x5), (6, .int x6)]) hx hb dX1_readSet_149 hl (k := 8) rfl rfl (by decide) rfl (fun ls hl => ?_)
          refine lv_goto (tgt := 51) hx hb dX1_readSet_152 (by decide) ?_
          exact ih z_13 x1 x3 x4 x5 x6 (x7 + 1) hcl (Nat.lt_of_lt_of_le (kmu_up c_6) (Nat.le_of_lt_succ hk)) u hu _ _ _ hP hD hS (lv_sub hl [2, 3, 4, 5, 6, 7, 8, 0] rfl)
        · replace hu := hu.trans (if_pos c_12)
          refine lv_iload hx hb dX1_readSet_112 (lv_at hl 8 rfl) ?_
          refine lv_iconst (v := 2) hx hb dX1_readSet_114 (by decide) ?_
          refine lv_iadd hx hb dX1_readSet_115 ?_
          refine lv_iload hx hb dX1_readSet_116 (lv_at hl 7 rfl) ?_
          refine lv_icmp_ge (tgt := 140) hx hb dX1_readSet_118 (by decide) (fun c_14 => ?_) (fun c_14 => ?_)
          · replace hu := hu.trans (if_pos c_14)
            refine lv_aload_n hx hb dX1_readSet_140 rfl (lv_at hl 1 rfl) ?_
            refine lv_iload_n hx hb dX1_readSet_141 rfl (lv_at hl 2 rfl) ?_
            refine lv_iload hx hb dX1_readSet_142 (lv_at hl 0 rfl) ?_
            refine lv_iload hx hb dX1_readSet_144 (lv_at hl 0 rfl) ?_
            obtain ⟨z_15, hz_15⟩ : ∃ z, z = f_X1_addSpan n words x1 z_9 z_9 := ⟨_, rfl⟩
            replace hu := hu.trans (kb_of hz_15)
            refine k_callV (As := [.int x1, .int z_9, .int z_9]) (rest := []) (wc := [(q0, .inr (1, [.ref q1])), (q1, .inl (aC 2, n, .inr (.inl words)))]) (wr := [(q2, .inr (0, [.ref q3, .int p_length])), (q3, .inl (aC 1, p_n, .inl p_bytes))]) (w1 := [(q0, .inr (1, [.ref q1])), (q1, .inl (aC 2, n, .inr (.inl z_15)))]) (wn := [(q0, .inr (1, [.ref q1])), (q1, .inl (aC 2, n, .inr (.inl z_15))), (q2, .inr (0, [.ref q3, .int p_length])), (q3, .inl (aC 1, p_n, .inl p_bytes))]) ⟨hx, hb, hml, hown, hts⟩ (c_X1_addSpan l DD aC tt q0 q1 n words x1 z_9 z_9 hp_2 z_15 hz_15) (cwV 3 hts (gdV w_306 w_308 w_7 w_72 w_309) rfl rfl rfl (by decide +kernel) ⟨Nat.le_of_ble_eq_true rfl, Nat.le_of_ble_eq_true rfl⟩) hP hD hS hA hE [0, 1] [2, 3] [2, 3, 0, 1] rfl rfl rfl (by decide) (by decide) (by decide) (by decide) (ci := 1) (q0 := 0) rfl rfl rfl hl.1 rfl (Nat.le_of_ble_eq_true rfl) dX1_readSet_146 (fun H locs hP hD hS => ?_)
            have hP : va_P DD vwCl [(q0, .inr (1, [.ref q1])), (q1, .inl (aC 2, n, .inr (.inl z_15))), (q2, .inr (0, [.ref q3, .int p_length])), (q3, .inl (aC 1, p_n, .inl p_bytes))] H := hP
            have hD : va_D A [(q0, .inr (1, [.ref q1])), (q1, .inl (aC 2, n, .inr (.inl z_15))), (q2, .inr (0, [.ref q3, .int p_length])), (q3, .inl (aC 1, p_n, .inl p_bytes))] := hD
            refine W.eq (g2 := F0 m 149 ls []) rfl ?_
            refine lv_iinc (v := x7 + 1) (lv' := [(7, .int (x7 + 1)), (8, .int z_9), (0, .ref q0), (1, .int x1), (2, .ref q2), (3, .int x3), (4, .int x4), (5, .int x5), (6, .int x6)]) hx hb dX1_readSet_149 hl (k := 8) rfl rfl (by decide) rfl (fun ls hl => ?_)
            refine lv_goto (tgt := 51) hx hb dX1_readSet_152 (by decide) ?_
            exact ih z_15 x1 x3 x4 x5 x6 (x7 + 1) hcl (Nat.lt_of_lt_of_le (kmu_up c_6) (Nat.le_of_lt_succ hk)) u hu _ _ _ hP hD hS (lv_sub hl [2, 3, 4, 5, 6, 7, 8, 0] rfl)
          · replace hu := hu.trans (if_neg c_14)
            refine lv_iinc (v := x7 + 2) (lv' := [(7, .int (x7 + 2)), (8, .int z_9), (0, .ref q0), (1, .int x1), (2, .ref q2), (3, .int x3), (4, .int x4), (5, .int x5), (6, .int x6)]) hx hb dX1_readSet_121 hl (k := 8) rfl rfl (by decide) rfl (fun ls hl => ?_)
            refine lv_aload_n hx hb dX1_readSet_124 rfl (lv_at hl 2 rfl) ?_
            refine lv_iload_n hx hb dX1_readSet_125 rfl (lv_at hl 3 rfl) ?_
            refine lv_iload hx hb dX1_readSet_126 (lv_at hl 1 rfl) ?_
            refine lv_aload_n hx hb dX1_readSet_128 rfl (lv_at hl 4 rfl) ?_
            refine lv_iload hx hb dX1_readSet_129 (lv_at hl 0 rfl) ?_
            obtain ⟨z_16, hz_16⟩ : ∃ z, z = f_X0_at p_length p_bytes (x7 + 2) := ⟨_, rfl⟩
            replace hu := hu.trans (kb_of hz_16)
            refine k_callV (As := [.int (x7 + 2)]) (rest := [.int z_9, .int x1, .ref q0]) (wc := [(q2, .inr (0, [.ref q3, .int p_length])), (q3, .inl (aC 1, p_n, .inl p_bytes))]) (wr := [(q0, .inr (1, [.ref q1])), (q1, .inl (aC 2, n, .inr (.inl words)))]) (w1 := [(q2, .inr (0, [.ref q3, .int p_length])), (q3, .inl (aC 1, p_n, .inl p_bytes))]) (wn := [(q0, .inr (1, [.ref q1])), (q1, .inl (aC 2, n, .inr (.inl words))), (q2, .inr (0, [.ref q3, .int p_length])), (q3, .inl (aC 1, p_n, .inl p_bytes))]) ⟨hx, hb, hml, hown, hts⟩ (c_X0_at l DD aC tt q2 q3 p_n p_length p_bytes (x7 + 2) hp_0 z_16 hz_16) (cwV 1 hts (gdV w_283 w_259 w_260 w_69 w_261) rfl rfl rfl (by decide +kernel) ⟨Nat.le_of_ble_eq_true rfl, Nat.le_of_ble_eq_true rfl⟩) hP hD hS hA hE [2, 3] [0, 1] [0, 1, 2, 3] rfl rfl rfl (by decide) (by decide) (by decide) (by decide) (ci := 0) (q0 := 0) rfl rfl rfl hl.1 rfl (Nat.le_of_ble_eq_true rfl) dX1_readSet_131 (fun H locs hP hD hS => ?_)
            refine W.eq (g2 := F0 m 134 ls [.int z_16, .int z_9, .int x1, .ref q0]) rfl ?_
            obtain ⟨z_17, hz_17⟩ : ∃ z, z = f_X1_addSpan n words x1 z_9 z_16 := ⟨_, rfl⟩
            replace hu := hu.trans (kb_of hz_17)
            refine k_callV (As := [.int x1, .int z_9, .int z_16]) (rest := []) (wc := [(q0, .inr (1, [.ref q1])), (q1, .inl (aC 2, n, .inr (.inl words)))]) (wr := [(q2, .inr (0, [.ref q3, .int p_length])), (q3, .inl (aC 1, p_n, .inl p_bytes))]) (w1 := [(q0, .inr (1, [.ref q1])), (q1, .inl (aC 2, n, .inr (.inl z_17)))]) (wn := [(q0, .inr (1, [.ref q1])), (q1, .inl (aC 2, n, .inr (.inl z_17))), (q2, .inr (0, [.ref q3, .int p_length])), (q3, .inl (aC 1, p_n, .inl p_bytes))]) ⟨hx, hb, hml, hown, hts⟩ (c_X1_addSpan l DD aC tt q0 q1 n words x1 z_9 z_16 hp_2 z_17 hz_17) (cwV 3 hts (gdV w_306 w_308 w_7 w_72 w_309) rfl rfl rfl (by decide +kernel) ⟨Nat.le_of_ble_eq_true rfl, Nat.le_of_ble_eq_true rfl⟩) hP hD hS hA hE [0, 1] [2, 3] [2, 3, 0, 1] rfl rfl rfl (by decide) (by decide) (by decide) (by decide) (ci := 1) (q0 := 0) rfl rfl rfl hl.1 rfl (Nat.le_of_ble_eq_true rfl) dX1_readSet_134 (fun H locs hP hD hS => ?_)
            have hP : va_P DD vwCl [(q0, .inr (1, [.ref q1])), (q1, .inl (aC 2, n, .inr (.inl z_17))), (q2, .inr (0, [.ref q3, .int p_length])), (q3, .inl (aC 1, p_n, .inl p_bytes))] H := hP
            have hD : va_D A [(q0, .inr (1, [.ref q1])), (q1, .inl (aC 2, n, .inr (.inl z_17))), (q2, .inr (0, [.ref q3, .int p_length])), (q3, .inl (aC 1, p_n, .inl p_bytes))] := hD
            refine W.eq (g2 := F0 m 137 ls []) rfl ?_
            refine lv_goto (tgt := 149) hx hb dX1_readSet_137 (by decide) ?_
            refine lv_iinc (v := (x7 + 2) + 1) (lv' := [(7, .int ((x7 + 2) + 1)), (8, .int z_9), (0, .ref q0), (1, .int x1), (2, .ref q2), (3, .int x3), (4, .int x4), (5, .int x5), (6, .int x6)]) hx hb dX1_readSet_149 hl (k := 0) rfl rfl (by decide) rfl (fun ls hl => ?_)
            refine lv_goto (tgt := 51) hx hb dX1_readSet_152 (by decide) ?_
            exact ih z_17 x1 x3 x4 x5 x6 ((x7 + 2) + 1) hcl (Nat.lt_of_lt_of_le (by have i1 := kx_nle c_6; have i2 := kx_ne c_10; have i3 := congrArg Int32.toInt c_12; have i4 := kx_nle c_14; have i5 := kx_rng (x6); have i6 := kx_rng (x7); have i7 := kx_rng ((x7 + 2) + 1); have i8 := kx_rng (x7 + 2); have i11 := kx_rng (z_9); have i12 : (37 : Int32).toInt = 37 := (by decide); have i13 := kx_rng (z_11); have i14 : (45 : Int32).toInt = 45 := (by decide); first | omega | (have i9 := kx_addK x7 (y := 2) (k := 2) (by decide); have i10 := kx_addK (x7 + 2) (y := 1) (k := 1) (by decide); omega)) (Nat.le_of_lt_succ hk)) u hu _ _ _ hP hD hS (lv_sub hl [2, 3, 4, 5, 6, 7, 8, 0] rfl)
      · replace hu := hu.trans (if_pos c_10)
        refine lv_iload hx hb dX1_readSet_73 (lv_at hl 8 rfl) ?_
        refine lv_iconst (v := 1) hx hb dX1_readSet_75 (by decide) ?_
        refine lv_iadd hx hb dX1_readSet_76 ?_
        refine lv_iload hx hb dX1_readSet_77 (lv_at hl 7 rfl) ?_
        refine lv_icmp_ge (tgt := 99) hx hb dX1_readSet_79 (by decide) (fun c_18 => ?_) (fun c_18 => ?_)
        · replace hu := hu.trans (if_pos c_18)
          refine lv_aload_n hx hb dX1_readSet_99 rfl (lv_at hl 3 rfl) ?_
          refine lv_iload hx hb dX1_readSet_100 (lv_at hl 8 rfl) ?_
          refine lv_iconst (v := 1) hx hb dX1_readSet_102 (by decide) ?_
          refine lv_iadd hx hb dX1_readSet_103 ?_
          obtain ⟨z_19, hz_19⟩ : ∃ z, z = f_X0_at p_length p_bytes (x7 + 1) := ⟨_, rfl⟩
          replace hu := hu.trans (kb_of hz_19)
          refine k_callV (As := [.int (x7 + 1)]) (rest := []) (wc := [(q2, .inr (0, [.ref q3, .int p_length])), (q3, .inl (aC 1, p_n, .inl p_bytes))]) (wr := [(q0, .inr (1, [.ref q1])), (q1, .inl (aC 2, n, .inr (.inl words)))]) (w1 := [(q2, .inr (0, [.ref q3, .int p_length])), (q3, .inl (aC 1, p_n, .inl p_bytes))]) (wn := [(q0, .inr (1, [.ref q1])), (q1, .inl (aC 2, n, .inr (.inl words))), (q2, .inr (0, [.ref q3, .int p_length])), (q3, .inl (aC 1, p_n, .inl p_bytes))]) ⟨hx, hb, hml, hown, hts⟩ (c_X0_at l DD aC tt q2 q3 p_n p_length p_bytes (x7 + 1) hp_0 z_19 hz_19) (cwV 1 hts (gdV w_283 w_259 w_260 w_69 w_261) rfl rfl rfl (by decide +kernel) ⟨Nat.le_of_ble_eq_true rfl, Nat.le_of_ble_eq_true rfl⟩) hP hD hS hA hE [2, 3] [0, 1] [0, 1, 2, 3] rfl rfl rfl (by decide) (by decide) (by decide) (by decide) (ci := 0) (q0 := 0) rfl rfl rfl hl.1 rfl (Nat.le_of_ble_eq_true rfl) dX1_readSet_104 (fun H locs hP hD hS => ?_)
          refine W.eq (g2 := F0 m 107 ls [.int z_19]) rfl ?_
          refine lv_bipush (v := 45) hx hb dX1_readSet_107 (by decide) ?_
          refine lv_icmp_ne (tgt := 140) hx hb dX1_readSet_109 (by decide) (fun c_20 => ?_) (fun c_20 => ?_)
          · replace hu := hu.trans (if_neg c_20)
            refine lv_aload_n hx hb dX1_readSet_140 rfl (lv_at hl 1 rfl) ?_
            refine lv_iload_n hx hb dX1_readSet_141 rfl (lv_at hl 2 rfl) ?_
            refine lv_iload hx hb dX1_readSet_142 (lv_at hl 0 rfl) ?_
            refine lv_iload hx hb dX1_readSet_144 (lv_at hl 0 rfl) ?_
            obtain ⟨z_21, hz_21⟩ : ∃ z, z = f_X1_addSpan n words x1 z_9 z_9 := ⟨_, rfl⟩
            replace hu := hu.trans (kb_of hz_21)
            refine k_callV (As := [.int x1, .int z_9, .int z_9]) (rest := []) (wc := [(q0, .inr (1, [.ref q1])), (q1, .inl (aC 2, n, .inr (.inl words)))]) (wr := [(q2, .inr (0, [.ref q3, .int p_length])), (q3, .inl (aC 1, p_n, .inl p_bytes))]) (w1 := [(q0, .inr (1, [.ref q1])), (q1, .inl (aC 2, n, .inr (.inl z_21)))]) (wn := [(q0, .inr (1, [.ref q1])), (q1, .inl (aC 2, n, .inr (.inl z_21))), (q2, .inr (0, [.ref q3, .int p_length])), (q3, .inl (aC 1, p_n, .inl p_bytes))]) ⟨hx, hb, hml, hown, hts⟩ (c_X1_addSpan l DD aC tt q0 q1 n words x1 z_9 z_9 hp_2 z_21 hz_21) (cwV 3 hts (gdV w_306 w_308 w_7 w_72 w_309) rfl rfl rfl (by decide +kernel) ⟨Nat.le_of_ble_eq_true rfl, Nat.le_of_ble_eq_true rfl⟩) hP hD hS hA hE [0, 1] [2, 3] [2, 3, 0, 1] rfl rfl rfl (by decide) (by decide) (by decide) (by decide) (ci := 1) (q0 := 0) rfl rfl rfl hl.1 rfl (Nat.le_of_ble_eq_true rfl) dX1_readSet_146 (fun H locs hP hD hS => ?_)
            have hP : va_P DD vwCl [(q0, .inr (1, [.ref q1])), (q1, .inl (aC 2, n, .inr (.inl z_21))), (q2, .inr (0, [.ref q3, .int p_length])), (q3, .inl (aC 1, p_n, .inl p_bytes))] H := hP
            have hD : va_D A [(q0, .inr (1, [.ref q1])), (q1, .inl (aC 2, n, .inr (.inl z_21))), (q2, .inr (0, [.ref q3, .int p_length])), (q3, .inl (aC 1, p_n, .inl p_bytes))] := hD
            refine W.eq (g2 := F0 m 149 ls []) rfl ?_
            refine lv_iinc (v := x7 + 1) (lv' := [(7, .int (x7 + 1)), (8, .int z_9), (0, .ref q0), (1, .int x1), (2, .ref q2), (3, .int x3), (4, .int x4), (5, .int x5), (6, .int x6)]) hx hb dX1_readSet_149 hl (k := 8) rfl rfl (by decide) rfl (fun ls hl => ?_)
            refine lv_goto (tgt := 51) hx hb dX1_readSet_152 (by decide) ?_
            exact ih z_21 x1 x3 x4 x5 x6 (x7 + 1) hcl (Nat.lt_of_lt_of_le (kmu_up c_6) (Nat.le_of_lt_succ hk)) u hu _ _ _ hP hD hS (lv_sub hl [2, 3, 4, 5, 6, 7, 8, 0] rfl)
          · replace hu := hu.trans (if_pos c_20)
            refine lv_iload hx hb dX1_readSet_112 (lv_at hl 8 rfl) ?_
            refine lv_iconst (v := 2) hx hb dX1_readSet_114 (by decide) ?_
            refine lv_iadd hx hb dX1_readSet_115 ?_
            refine lv_iload hx hb dX1_readSet_116 (lv_at hl 7 rfl) ?_
            refine lv_icmp_ge (tgt := 140) hx hb dX1_readSet_118 (by decide) (fun c_22 => ?_) (fun c_22 => ?_)
            · replace hu := hu.trans (if_pos c_22)
              refine lv_aload_n hx hb dX1_readSet_140 rfl (lv_at hl 1 rfl) ?_
              refine lv_iload_n hx hb dX1_readSet_141 rfl (lv_at hl 2 rfl) ?_
              refine lv_iload hx hb dX1_readSet_142 (lv_at hl 0 rfl) ?_
              refine lv_iload hx hb dX1_readSet_144 (lv_at hl 0 rfl) ?_
              obtain ⟨z_23, hz_23⟩ : ∃ z, z = f_X1_addSpan n words x1 z_9 z_9 := ⟨_, rfl⟩
              replace hu := hu.trans (kb_of hz_23)
              refine k_callV (As := [.int x1, .int z_9, .int z_9]) (rest := []) (wc := [(q0, .inr (1, [.ref q1])), (q1, .inl (aC 2, n, .inr (.inl words)))]) (wr := [(q2, .inr (0, [.ref q3, .int p_length])), (q3, .inl (aC 1, p_n, .inl p_bytes))]) (w1 := [(q0, .inr (1, [.ref q1])), (q1, .inl (aC 2, n, .inr (.inl z_23)))]) (wn := [(q0, .inr (1, [.ref q1])), (q1, .inl (aC 2, n, .inr (.inl z_23))), (q2, .inr (0, [.ref q3, .int p_length])), (q3, .inl (aC 1, p_n, .inl p_bytes))]) ⟨hx, hb, hml, hown, hts⟩ (c_X1_addSpan l DD aC tt q0 q1 n words x1 z_9 z_9 hp_2 z_23 hz_23) (cwV 3 hts (gdV w_306 w_308 w_7 w_72 w_309) rfl rfl rfl (by decide +kernel) ⟨Nat.le_of_ble_eq_true rfl, Nat.le_of_ble_eq_true rfl⟩) hP hD hS hA hE [0, 1] [2, 3] [2, 3, 0, 1] rfl rfl rfl (by decide) (by decide) (by decide) (by decide) (ci := 1) (q0 := 0) rfl rfl rfl hl.1 rfl (Nat.le_of_ble_eq_true rfl) dX1_readSet_146 (fun H locs hP hD hS => ?_)
              have hP : va_P DD vwCl [(q0, .inr (1, [.ref q1])), (q1, .inl (aC 2, n, .inr (.inl z_23))), (q2, .inr (0, [.ref q3, .int p_length])), (q3, .inl (aC 1, p_n, .inl p_bytes))] H := hP
              have hD : va_D A [(q0, .inr (1, [.ref q1])), (q1, .inl (aC 2, n, .inr (.inl z_23))), (q2, .inr (0, [.ref q3, .int p_length])), (q3, .inl (aC 1, p_n, .inl p_bytes))] := hD
              refine W.eq (g2 := F0 m 149 ls []) rfl ?_
              refine lv_iinc (v := x7 + 1) (lv' := [(7, .int (x7 + 1)), (8, .int z_9), (0, .ref q0), (1, .int x1), (2, .ref q2), (3, .int x3), (4, .int x4), (5, .int x5), (6, .int x6)]) hx hb dX1_readSet_149 hl (k := 8) rfl rfl (by decide) rfl (fun ls hl => ?_)
              refine lv_goto (tgt := 51) hx hb dX1_readSet_152 (by decide) ?_
              exact ih z_23 x1 x3 x4 x5 x6 (x7 + 1) hcl (Nat.lt_of_lt_of_le (kmu_up c_6) (Nat.le_of_lt_succ hk)) u hu _ _ _ hP hD hS (lv_sub hl [2, 3, 4, 5, 6, 7, 8, 0] rfl)
            · replace hu := hu.trans (if_neg c_22)
              refine lv_iinc (v := x7 + 2) (lv' := [(7, .int (x7 + 2)), (8, .int z_9), (0, .ref q0), (1, .int x1), (2, .ref q2), (3, .int x3), (4, .int x4), (5, .int x5), (6, .int x6)]) hx hb dX1_readSet_121 hl (k := 8) rfl rfl (by decide) rfl (fun ls hl => ?_)
              refine lv_aload_n hx hb dX1_readSet_124 rfl (lv_at hl 2 rfl) ?_
              refine lv_iload_n hx hb dX1_readSet_125 rfl (lv_at hl 3 rfl) ?_
              refine lv_iload hx hb dX1_readSet_126 (lv_at hl 1 rfl) ?_
              refine lv_aload_n hx hb dX1_readSet_128 rfl (lv_at hl 4 rfl) ?_
              refine lv_iload hx hb dX1_readSet_129 (lv_at hl 0 rfl) ?_
              obtain ⟨z_24, hz_24⟩ : ∃ z, z = f_X0_at p_length p_bytes (x7 + 2) := ⟨_, rfl⟩
              replace hu := hu.trans (kb_of hz_24)
              refine k_callV (As := [.int (x7 + 2)]) (rest := [.int z_9, .int x1, .ref q0]) (wc := [(q2, .inr (0, [.ref q3, .int p_length])), (q3, .inl (aC 1, p_n, .inl p_bytes))]) (wr := [(q0, .inr (1, [.ref q1])), (q1, .inl (aC 2, n, .inr (.inl words)))]) (w1 := [(q2, .inr (0, [.ref q3, .int p_length])), (q3, .inl (aC 1, p_n, .inl p_bytes))]) (wn := [(q0, .inr (1, [.ref q1])), (q1, .inl (aC 2, n, .inr (.inl words))), (q2, .inr (0, [.ref q3, .int p_length])), (q3, .inl (aC 1, p_n, .inl p_bytes))]) ⟨hx, hb, hml, hown, hts⟩ (c_X0_at l DD aC tt q2 q3 p_n p_length p_bytes (x7 + 2) hp_0 z_24 hz_24) (cwV 1 hts (gdV w_283 w_259 w_260 w_69 w_261) rfl rfl rfl (by decide +kernel) ⟨Nat.le_of_ble_eq_true rfl, Nat.le_of_ble_eq_true rfl⟩) hP hD hS hA hE [2, 3] [0, 1] [0, 1, 2, 3] rfl rfl rfl (by decide) (by decide) (by decide) (by decide) (ci := 0) (q0 := 0) rfl rfl rfl hl.1 rfl (Nat.le_of_ble_eq_true rfl) dX1_readSet_131 (fun H locs hP hD hS => ?_)
              refine W.eq (g2 := F0 m 134 ls [.int z_24, .int z_9, .int x1, .ref q0]) rfl ?_
              obtain ⟨z_25, hz_25⟩ : ∃ z, z = f_X1_addSpan n words x1 z_9 z_24 := ⟨_, rfl⟩
              replace hu := hu.trans (kb_of hz_25)
              refine k_callV (As := [.int x1, .int z_9, .int z_24]) (rest := []) (wc := [(q0, .inr (1, [.ref q1])), (q1, .inl (aC 2, n, .inr (.inl words)))]) (wr := [(q2, .inr (0, [.ref q3, .int p_length])), (q3, .inl (aC 1, p_n, .inl p_bytes))]) (w1 := [(q0, .inr (1, [.ref q1])), (q1, .inl (aC 2, n, .inr (.inl z_25)))]) (wn := [(q0, .inr (1, [.ref q1])), (q1, .inl (aC 2, n, .inr (.inl z_25))), (q2, .inr (0, [.ref q3, .int p_length])), (q3, .inl (aC 1, p_n, .inl p_bytes))]) ⟨hx, hb, hml, hown, hts⟩ (c_X1_addSpan l DD aC tt q0 q1 n words x1 z_9 z_24 hp_2 z_25 hz_25) (cwV 3 hts (gdV w_306 w_308 w_7 w_72 w_309) rfl rfl rfl (by decide +kernel) ⟨Nat.le_of_ble_eq_true rfl, Nat.le_of_ble_eq_true rfl⟩) hP hD hS hA hE [0, 1] [2, 3] [2, 3, 0, 1] rfl rfl rfl (by decide) (by decide) (by decide) (by decide) (ci := 1) (q0 := 0) rfl rfl rfl hl.1 rfl (Nat.le_of_ble_eq_true rfl) dX1_readSet_134 (fun H locs hP hD hS => ?_)
              have hP : va_P DD vwCl [(q0, .inr (1, [.ref q1])), (q1, .inl (aC 2, n, .inr (.inl z_25))), (q2, .inr (0, [.ref q3, .int p_length])), (q3, .inl (aC 1, p_n, .inl p_bytes))] H := hP
              have hD : va_D A [(q0, .inr (1, [.ref q1])), (q1, .inl (aC 2, n, .inr (.inl z_25))), (q2, .inr (0, [.ref q3, .int p_length])), (q3, .inl (aC 1, p_n, .inl p_bytes))] := hD
              refine W.eq (g2 := F0 m 137 ls []) rfl ?_
              refine lv_goto (tgt := 149) hx hb dX1_readSet_137 (by decide) ?_
              refine lv_iinc (v := (x7 + 2) + 1) (lv' := [(7, .int ((x7 + 2) + 1)), (8, .int z_9), (0, .ref q0), (1, .int x1), (2, .ref q2), (3, .int x3), (4, .int x4), (5, .int x5), (6, .int x6)]) hx hb dX1_readSet_149 hl (k := 0) rfl rfl (by decide) rfl (fun ls hl => ?_)
              refine lv_goto (tgt := 51) hx hb dX1_readSet_152 (by decide) ?_
              exact ih z_25 x1 x3 x4 x5 x6 ((x7 + 2) + 1) hcl (Nat.lt_of_lt_of_le (by have i1 := kx_nle c_6; have i2 := congrArg Int32.toInt c_10; have i3 := Int32.le_iff_toInt_le.mp c_18; have i4 := congrArg Int32.toInt c_20; have i5 := kx_nle c_22; have i6 := kx_rng (x6); have i7 := kx_rng (x7); have i8 := kx_rng ((x7 + 2) + 1); have i9 := kx_rng (x7 + 2); have i12 := kx_rng (z_9); have i13 : (37 : Int32).toInt = 37 := (by decide); have i14 := kx_rng (x7 + 1); have i16 := kx_rng (z_19); have i17 : (45 : Int32).toInt = 45 := (by decide); first | omega | (have i10 := kx_addK x7 (y := 2) (k := 2) (by decide); have i11 := kx_addK (x7 + 2) (y := 1) (k := 1) (by decide); have i15 := kx_addK x7 (y := 1) (k := 1) (by decide); omega)) (Nat.le_of_lt_succ hk)) u hu _ _ _ hP hD hS (lv_sub hl [2, 3, 4, 5, 6, 7, 8, 0] rfl)
        · replace hu := hu.trans (if_neg c_18)
          refine lv_iinc (v := x7 + 1) (lv' := [(7, .int (x7 + 1)), (8, .int z_9), (0, .ref q0), (1, .int x1), (2, .ref q2), (3, .int x3), (4, .int x4), (5, .int x5), (6, .int x6)]) hx hb dX1_readSet_82 hl (k := 8) rfl rfl (by decide) rfl (fun ls hl => ?_)
          refine lv_aload_n hx hb dX1_readSet_85 rfl (lv_at hl 2 rfl) ?_
          refine lv_iload_n hx hb dX1_readSet_86 rfl (lv_at hl 3 rfl) ?_
          refine lv_aload_n hx hb dX1_readSet_87 rfl (lv_at hl 4 rfl) ?_
          refine lv_iload hx hb dX1_readSet_88 (lv_at hl 0 rfl) ?_
          obtain ⟨z_26, hz_26⟩ : ∃ z, z = f_X0_at p_length p_bytes (x7 + 1) := ⟨_, rfl⟩
          replace hu := hu.trans (kb_of hz_26)
          refine k_callV (As := [.int (x7 + 1)]) (rest := [.int x1, .ref q0]) (wc := [(q2, .inr (0, [.ref q3, .int p_length])), (q3, .inl (aC 1, p_n, .inl p_bytes))]) (wr := [(q0, .inr (1, [.ref q1])), (q1, .inl (aC 2, n, .inr (.inl words)))]) (w1 := [(q2, .inr (0, [.ref q3, .int p_length])), (q3, .inl (aC 1, p_n, .inl p_bytes))]) (wn := [(q0, .inr (1, [.ref q1])), (q1, .inl (aC 2, n, .inr (.inl words))), (q2, .inr (0, [.ref q3, .int p_length])), (q3, .inl (aC 1, p_n, .inl p_bytes))]) ⟨hx, hb, hml, hown, hts⟩ (c_X0_at l DD aC tt q2 q3 p_n p_length p_bytes (x7 + 1) hp_0 z_26 hz_26) (cwV 1 hts (gdV w_283 w_259 w_260 w_69 w_261) rfl rfl rfl (by decide +kernel) ⟨Nat.le_of_ble_eq_true rfl, Nat.le_of_ble_eq_true rfl⟩) hP hD hS hA hE [2, 3] [0, 1] [0, 1, 2, 3] rfl rfl rfl (by decide) (by decide) (by decide) (by decide) (ci := 0) (q0 := 0) rfl rfl rfl hl.1 rfl (Nat.le_of_ble_eq_true rfl) dX1_readSet_90 (fun H locs hP hD hS => ?_)
          refine W.eq (g2 := F0 m 93 ls [.int z_26, .int x1, .ref q0]) rfl ?_
          obtain ⟨z_27, hz_27⟩ : ∃ z, z = f_X1_addNamed n words x1 z_26 := ⟨_, rfl⟩
          replace hu := hu.trans (kb_of hz_27)
          refine k_callV (As := [.int x1, .int z_26]) (rest := []) (wc := [(q0, .inr (1, [.ref q1])), (q1, .inl (aC 2, n, .inr (.inl words)))]) (wr := [(q2, .inr (0, [.ref q3, .int p_length])), (q3, .inl (aC 1, p_n, .inl p_bytes))]) (w1 := [(q0, .inr (1, [.ref q1])), (q1, .inl (aC 2, n, .inr (.inl z_27)))]) (wn := [(q0, .inr (1, [.ref q1])), (q1, .inl (aC 2, n, .inr (.inl z_27))), (q2, .inr (0, [.ref q3, .int p_length])), (q3, .inl (aC 1, p_n, .inl p_bytes))]) ⟨hx, hb, hml, hown, hts⟩ (c_X1_addNamed l DD aC tt q0 q1 n words x1 z_26 hp_2 z_27 hz_27) (cwV 2 hts (gdV w_292 w_294 w_5 w_72 w_295) rfl rfl rfl (by decide +kernel) ⟨Nat.le_of_ble_eq_true rfl, Nat.le_of_ble_eq_true rfl⟩) hP hD hS hA hE [0, 1] [2, 3] [2, 3, 0, 1] rfl rfl rfl (by decide) (by decide) (by decide) (by decide) (ci := 1) (q0 := 0) rfl rfl rfl hl.1 rfl (Nat.le_of_ble_eq_true rfl) dX1_readSet_93 (fun H locs hP hD hS => ?_)
          have hP : va_P DD vwCl [(q0, .inr (1, [.ref q1])), (q1, .inl (aC 2, n, .inr (.inl z_27))), (q2, .inr (0, [.ref q3, .int p_length])), (q3, .inl (aC 1, p_n, .inl p_bytes))] H := hP
          have hD : va_D A [(q0, .inr (1, [.ref q1])), (q1, .inl (aC 2, n, .inr (.inl z_27))), (q2, .inr (0, [.ref q3, .int p_length])), (q3, .inl (aC 1, p_n, .inl p_bytes))] := hD
          refine W.eq (g2 := F0 m 96 ls []) rfl ?_
          refine lv_goto (tgt := 149) hx hb dX1_readSet_96 (by decide) ?_
          refine lv_iinc (v := (x7 + 1) + 1) (lv' := [(7, .int ((x7 + 1) + 1)), (8, .int z_9), (0, .ref q0), (1, .int x1), (2, .ref q2), (3, .int x3), (4, .int x4), (5, .int x5), (6, .int x6)]) hx hb dX1_readSet_149 hl (k := 0) rfl rfl (by decide) rfl (fun ls hl => ?_)
          refine lv_goto (tgt := 51) hx hb dX1_readSet_152 (by decide) ?_
          exact ih z_27 x1 x3 x4 x5 x6 ((x7 + 1) + 1) hcl (Nat.lt_of_lt_of_le (by have i1 := kx_nle c_6; have i2 := congrArg Int32.toInt c_10; have i3 := kx_nle c_18; have i4 := kx_rng (x6); have i5 := kx_rng (x7); have i6 := kx_rng ((x7 + 1) + 1); have i7 := kx_rng (x7 + 1); have i10 := kx_rng (z_9); have i11 : (37 : Int32).toInt = 37 := (by decide); first | omega | (have i8 := kx_addK x7 (y := 1) (k := 1) (by decide); have i9 := kx_addK (x7 + 1) (y := 1) (k := 1) (by decide); omega)) (Nat.le_of_lt_succ hk)) u hu _ _ _ hP hD hS (lv_sub hl [2, 3, 4, 5, 6, 7, 8, 0] rfl)
set_option maxHeartbeats 4000000 in
set_option maxRecDepth 100000 in
theorem c_X1_readSet (l : Launch) (DD : va_G) (aC : Nat → ClassId) (tt : Nat → Nat) (q0 q1 q2 q3 n p_n : Nat) (words : Nat → Int64) (p_length : Int32) (p_bytes : Nat → Int32) (a1 : Int32) (a3 : Int32) (hp_0 : p_length.toInt ≤ p_n) (hp_1 : p_n < 1073741824) (hp_2 : n < 1073741824) (u : Int32 × (Nat → Int64)) (hu : u = f_X1_readSet n words p_length p_bytes a1 a3) : kM l yX1_readSet wsX1_readSet rm_X1_readSet DD aC tt [.ref q0, .int a1, .ref q2, .int a3] [(q0, .inr (1, [.ref q1])), (q1, .inl (aC 2, n, .inr (.inl words))), (q2, .inr (0, [.ref q3, .int p_length])), (q3, .inl (aC 1, p_n, .inl p_bytes))] (some (.int u.1)) [(q0, .inr (1, [.ref q1])), (q1, .inl (aC 2, n, .inr (.inl u.2))), (q2, .inr (0, [.ref q3, .int p_length])), (q3, .inl (aC 1, p_n, .inl p_bytes))] := by
  refine k_start (cc := cX1_readSet) (maxL := 9) (ret := (some .int)) (own := RX1) (lv0 := [(0, .ref q0), (1, .int a1), (2, .ref q2), (3, .int a3)]) (by decide) rfl rfl (Nat.le_of_ble_eq_true rfl) rfl (fun p e s m below meth c A ls X hP hD hS hl => ?_)
  obtain ⟨hx, hb, hr, hml, hts, hown, hlocks, hA, hE⟩ := id X
  unfold f_X1_readSet at hu
  refine lv_aload_n hx hb dX1_readSet_0 rfl (lv_at hl 2 rfl) ?_
  refine lv_iload_n hx hb dX1_readSet_1 rfl (lv_at hl 3 rfl) ?_
  obtain ⟨z_1, hz_1⟩ : ∃ z, z = f_X0_at p_length p_bytes a3 := ⟨_, rfl⟩
  replace hu := hu.trans (kb_of hz_1)
  refine k_callV (As := [.int a3]) (rest := []) (wc := [(q2, .inr (0, [.ref q3, .int p_length])), (q3, .inl (aC 1, p_n, .inl p_bytes))]) (wr := [(q0, .inr (1, [.ref q1])), (q1, .inl (aC 2, n, .inr (.inl words)))]) (w1 := [(q2, .inr (0, [.ref q3, .int p_length])), (q3, .inl (aC 1, p_n, .inl p_bytes))]) (wn := [(q0, .inr (1, [.ref q1])), (q1, .inl (aC 2, n, .inr (.inl words))), (q2, .inr (0, [.ref q3, .int p_length])), (q3, .inl (aC 1, p_n, .inl p_bytes))]) ⟨hx, hb, hml, hown, hts⟩ (c_X0_at l DD aC tt q2 q3 p_n p_length p_bytes a3 hp_0 z_1 hz_1) (cwV 1 hts (gdV w_283 w_259 w_260 w_69 w_261) rfl rfl rfl (by decide +kernel) ⟨Nat.le_of_ble_eq_true rfl, Nat.le_of_ble_eq_true rfl⟩) hP hD hS hA hE [2, 3] [0, 1] [0, 1, 2, 3] rfl rfl rfl (by decide) (by decide) (by decide) (by decide) (ci := 0) (q0 := 0) rfl rfl rfl hl.1 rfl (Nat.le_of_ble_eq_true rfl) dX1_readSet_2 (fun H locs hP hD hS => ?_)
  refine W.eq (g2 := F0 m 5 ls [.int z_1]) rfl ?_
  refine lv_bipush (v := 94) hx hb dX1_readSet_5 (by decide) ?_
  refine lv_icmp_ne (tgt := 14) hx hb dX1_readSet_7 (by decide) (fun c_2 => ?_) (fun c_2 => ?_)
  · replace hu := hu.trans (if_neg c_2)
    refine lv_iconst (v := 0) hx hb dX1_readSet_14 (by decide) ?_
    refine lv_istore (lv' := [(4, .int 0), (0, .ref q0), (1, .int a1), (2, .ref q2), (3, .int a3)]) hx hb dX1_readSet_15 hl (by decide) rfl (fun ls hl => ?_)
    refine lv_iload hx hb dX1_readSet_17 (lv_at hl 0 rfl) ?_
    refine lv_if_eq (tgt := 28) hx hb dX1_readSet_19 (by decide) (fun _ => ?_) (fun h => absurd (by decide) h)
    refine lv_iload_n hx hb dX1_readSet_28 rfl (lv_at hl 4 rfl) ?_
    refine lv_istore (lv' := [(5, .int a3), (4, .int 0), (0, .ref q0), (1, .int a1), (2, .ref q2), (3, .int a3)]) hx hb dX1_readSet_29 hl (by decide) rfl (fun ls hl => ?_)
    refine lv_aload_n hx hb dX1_readSet_31 rfl (lv_at hl 4 rfl) ?_
    refine lv_iload hx hb dX1_readSet_32 (lv_at hl 0 rfl) ?_
    obtain ⟨z_3, hz_3⟩ : ∃ z, z = f_X1_closingOf p_length p_bytes a3 := ⟨_, rfl⟩
    replace hu := hu.trans (kb_of hz_3)
    refine k_callS (As := [.ref q2, .int a3]) (rest := []) (wc := [(q2, .inr (0, [.ref q3, .int p_length])), (q3, .inl (aC 1, p_n, .inl p_bytes))]) (wr := [(q0, .inr (1, [.ref q1])), (q1, .inl (aC 2, n, .inr (.inl words)))]) (w1 := [(q2, .inr (0, [.ref q3, .int p_length])), (q3, .inl (aC 1, p_n, .inl p_bytes))]) (wn := [(q0, .inr (1, [.ref q1])), (q1, .inl (aC 2, n, .inr (.inl words))), (q2, .inr (0, [.ref q3, .int p_length])), (q3, .inl (aC 1, p_n, .inl p_bytes))]) ⟨hx, hb, hml, hown, hts⟩ (c_X1_closingOf l DD aC tt q2 q3 p_n p_length p_bytes a3 hp_1 hp_0 z_3 hz_3) (cwS 2 hts (gdS w_288 w_289 w_72 w_290) rfl rfl rfl (by decide +kernel) ⟨Nat.le_of_ble_eq_true rfl, Nat.le_of_ble_eq_true rfl⟩) hP hD hS hA hE [2, 3] [0, 1] [0, 1, 2, 3] rfl rfl rfl (by decide) (by decide) (by decide) (by decide) rfl hl.1 rfl (Nat.le_of_ble_eq_true rfl) dX1_readSet_34 (fun H locs hP hD hS => ?_)
    refine W.eq (g2 := F0 m 37 ls [.int z_3]) rfl ?_
    have h_4 := pf_X1_closingOf hz_3
    refine lv_istore (lv' := [(6, .int z_3), (5, .int a3), (4, .int 0), (0, .ref q0), (1, .int a1), (2, .ref q2), (3, .int a3)]) hx hb dX1_readSet_37 hl (by decide) rfl (fun ls hl => ?_)
    refine lv_iload hx hb dX1_readSet_39 (lv_at hl 0 rfl) ?_
    refine lv_iconst (v := (-1)) hx hb dX1_readSet_41 (by decide) ?_
    refine lv_icmp_ne (tgt := 47) hx hb dX1_readSet_42 (by decide) (fun c_5 => ?_) (fun c_5 => ?_)
    · replace hu := hu.trans (if_neg c_5)
      refine lv_iload hx hb dX1_readSet_47 (lv_at hl 1 rfl) ?_
      refine lv_istore (lv' := [(7, .int a3), (6, .int z_3), (5, .int a3), (4, .int 0), (0, .ref q0), (1, .int a1), (2, .ref q2), (3, .int a3)]) hx hb dX1_readSet_49 hl (by decide) rfl (fun ls hl => ?_)
      exact t_X1_readSet_L0 X q0 q1 q2 q3 n p_n p_length p_bytes a1 a3 hp_0 hp_1 hp_2 ((z_3.toInt - a3.toInt).toNat + 1) words a1 a3 0 a3 z_3 a3 (show z_3.toInt < 1073741824 from (by have i1 := kx_ne c_2; have i2 := kx_ne c_5; have i3 := kx_rng (z_3); have i4 := kx_rng (z_1); have i5 : (94 : Int32).toInt = 94 := (by decide); have i6 : ((-1) : Int32).toInt = (-1) := (by decide); omega)) (Nat.lt_succ_self _) u hu _ _ _ hP hD hS (lv_sub hl [4, 5, 6, 7, 3, 2, 1, 0] rfl)
    · replace hu := hu.trans (if_pos c_5)
      refine lv_iconst (v := (-1)) hx hb dX1_readSet_45 (by decide) ?_
      subst hu
      exact k_iret hx hb hr hlocks hP hD hS rfl rfl dX1_readSet_46
  · replace hu := hu.trans (if_pos c_2)
    refine lv_iconst (v := 1) hx hb dX1_readSet_10 (by decide) ?_
    refine lv_goto (tgt := 15) hx hb dX1_readSet_11 (by decide) ?_
    refine lv_istore (lv' := [(4, .int 1), (0, .ref q0), (1, .int a1), (2, .ref q2), (3, .int a3)]) hx hb dX1_readSet_15 hl (by decide) rfl (fun ls hl => ?_)
    refine lv_iload hx hb dX1_readSet_17 (lv_at hl 0 rfl) ?_
    refine lv_if_eq (tgt := 28) hx hb dX1_readSet_19 (by decide) (fun h => absurd h (by decide)) (fun _ => ?_)
    refine lv_iload_n hx hb dX1_readSet_22 rfl (lv_at hl 4 rfl) ?_
    refine lv_iconst (v := 1) hx hb dX1_readSet_23 (by decide) ?_
    refine lv_iadd hx hb dX1_readSet_24 ?_
    refine lv_goto (tgt := 29) hx hb dX1_readSet_25 (by decide) ?_
    refine lv_istore (lv' := [(5, .int (a3 + 1)), (4, .int 1), (0, .ref q0), (1, .int a1), (2, .ref q2), (3, .int a3)]) hx hb dX1_readSet_29 hl (by decide) rfl (fun ls hl => ?_)
    refine lv_aload_n hx hb dX1_readSet_31 rfl (lv_at hl 4 rfl) ?_
    refine lv_iload hx hb dX1_readSet_32 (lv_at hl 0 rfl) ?_
    obtain ⟨z_28, hz_28⟩ : ∃ z, z = f_X1_closingOf p_length p_bytes (a3 + 1) := ⟨_, rfl⟩
    replace hu := hu.trans (kb_of hz_28)
    refine k_callS (As := [.ref q2, .int (a3 + 1)]) (rest := []) (wc := [(q2, .inr (0, [.ref q3, .int p_length])), (q3, .inl (aC 1, p_n, .inl p_bytes))]) (wr := [(q0, .inr (1, [.ref q1])), (q1, .inl (aC 2, n, .inr (.inl words)))]) (w1 := [(q2, .inr (0, [.ref q3, .int p_length])), (q3, .inl (aC 1, p_n, .inl p_bytes))]) (wn := [(q0, .inr (1, [.ref q1])), (q1, .inl (aC 2, n, .inr (.inl words))), (q2, .inr (0, [.ref q3, .int p_length])), (q3, .inl (aC 1, p_n, .inl p_bytes))]) ⟨hx, hb, hml, hown, hts⟩ (c_X1_closingOf l DD aC tt q2 q3 p_n p_length p_bytes (a3 + 1) hp_1 hp_0 z_28 hz_28) (cwS 2 hts (gdS w_288 w_289 w_72 w_290) rfl rfl rfl (by decide +kernel) ⟨Nat.le_of_ble_eq_true rfl, Nat.le_of_ble_eq_true rfl⟩) hP hD hS hA hE [2, 3] [0, 1] [0, 1, 2, 3] rfl rfl rfl (by decide) (by decide) (by decide) (by decide) rfl hl.1 rfl (Nat.le_of_ble_eq_true rfl) dX1_readSet_34 (fun H locs hP hD hS => ?_)
    refine W.eq (g2 := F0 m 37 ls [.int z_28]) rfl ?_
    have h_29 := pf_X1_closingOf hz_28
    refine lv_istore (lv' := [(6, .int z_28), (5, .int (a3 + 1)), (4, .int 1), (0, .ref q0), (1, .int a1), (2, .ref q2), (3, .int a3)]) hx hb dX1_readSet_37 hl (by decide) rfl (fun ls hl => ?_)
    refine lv_iload hx hb dX1_readSet_39 (lv_at hl 0 rfl) ?_
    refine lv_iconst (v := (-1)) hx hb dX1_readSet_41 (by decide) ?_
    refine lv_icmp_ne (tgt := 47) hx hb dX1_readSet_42 (by decide) (fun c_30 => ?_) (fun c_30 => ?_)
    · replace hu := hu.trans (if_neg c_30)
      refine lv_iload hx hb dX1_readSet_47 (lv_at hl 1 rfl) ?_
      refine lv_istore (lv' := [(7, .int (a3 + 1)), (6, .int z_28), (5, .int (a3 + 1)), (4, .int 1), (0, .ref q0), (1, .int a1), (2, .ref q2), (3, .int a3)]) hx hb dX1_readSet_49 hl (by decide) rfl (fun ls hl => ?_)
      exact t_X1_readSet_L0 X q0 q1 q2 q3 n p_n p_length p_bytes a1 a3 hp_0 hp_1 hp_2 ((z_28.toInt - (a3 + 1).toInt).toNat + 1) words a1 a3 1 (a3 + 1) z_28 (a3 + 1) (show z_28.toInt < 1073741824 from (by have i1 := congrArg Int32.toInt c_2; have i2 := kx_ne c_30; have i3 := kx_rng (z_28); have i4 := kx_rng (z_1); have i5 : (94 : Int32).toInt = 94 := (by decide); have i6 : ((-1) : Int32).toInt = (-1) := (by decide); omega)) (Nat.lt_succ_self _) u hu _ _ _ hP hD hS (lv_sub hl [4, 5, 6, 7, 3, 2, 1, 0] rfl)
    · replace hu := hu.trans (if_pos c_30)
      refine lv_iconst (v := (-1)) hx hb dX1_readSet_45 (by decide) ?_
      subst hu
      exact k_iret hx hb hr hlocks hP hD hS rfl rfl dX1_readSet_46
def f_X1_readSingle (n : Nat) (words : Nat → Int64) (p_length : Int32) (p_bytes : Nat → Int32) (a1 : Int32) (a3 : Int32) : Int32 × (Nat → Int64) := (kb (f_X1_empty n words a1) (fun z_1 => (kb (f_X0_at p_length p_bytes a3) (fun z_2 => (if z_2 = (-1) then ((-1), z_1) else (if z_2 = 91 then (kb (f_X1_readSet n z_1 p_length p_bytes a1 (a3 + 1)) (fun z_11 => (z_11.1, z_11.2))) else (if z_2 = 37 then (kb (f_X0_at p_length p_bytes (a3 + 1)) (fun z_9 => (kb (f_X1_readNamed n z_1 a1 z_9 (a3 + 2)) (fun z_10 => (z_10.1, z_10.2))))) else (if z_2 = 46 then (kb (f_X1_addSpan n z_1 a1 0 255) (fun z_8 => (a3 + 1, z_8))) else (kb (f_X1_addSpan n z_1 a1 z_2 z_2) (fun z_7 => (a3 + 1, z_7)))))))))))
abbrev rm_X1_readSingle : Room := { frames := 3, cells := 0, slots := 0, locals := 82 }
set_option maxHeartbeats 4000000 in
set_option maxRecDepth 100000 in
theorem c_X1_readSingle (l : Launch) (DD : va_G) (aC : Nat → ClassId) (tt : Nat → Nat) (q0 q1 q2 q3 n p_n : Nat) (words : Nat → Int64) (p_length : Int32) (p_bytes : Nat → Int32) (a1 : Int32) (a3 : Int32) (hp_0 : n < 1073741824) (hp_1 : p_length.toInt ≤ p_n) (hp_2 : p_n < 1073741824) (u : Int32 × (Nat → Int64)) (hu : u = f_X1_readSingle n words p_length p_bytes a1 a3) : kM l yX1_readSingle wsX1_readSingle rm_X1_readSingle DD aC tt [.ref q0, .int a1, .ref q2, .int a3] [(q0, .inr (1, [.ref q1])), (q1, .inl (aC 2, n, .inr (.inl words))), (q2, .inr (0, [.ref q3, .int p_length])), (q3, .inl (aC 1, p_n, .inl p_bytes))] (some (.int u.1)) [(q0, .inr (1, [.ref q1])), (q1, .inl (aC 2, n, .inr (.inl u.2))), (q2, .inr (0, [.ref q3, .int p_length])), (q3, .inl (aC 1, p_n, .inl p_bytes))] := by
  refine k_start (cc := cX1_readSingle) (maxL := 5) (ret := (some .int)) (own := RX1) (lv0 := [(0, .ref q0), (1, .int a1), (2, .ref q2), (3, .int a3)]) (by decide) rfl rfl (Nat.le_of_ble_eq_true rfl) rfl (fun p e s m below meth c A ls X hP hD hS hl => ?_)
  obtain ⟨hx, hb, hr, hml, hts, hown, hlocks, hA, hE⟩ := id X
  unfold f_X1_readSingle at hu
  refine lv_aload_n hx hb dX1_readSingle_0 rfl (lv_at hl 0 rfl) ?_
  refine lv_iload_n hx hb dX1_readSingle_1 rfl (lv_at hl 1 rfl) ?_
  obtain ⟨z_1, hz_1⟩ : ∃ z, z = f_X1_empty n words a1 := ⟨_, rfl⟩
  replace hu := hu.trans (kb_of hz_1)
  refine k_callV (As := [.int a1]) (rest := []) (wc := [(q0, .inr (1, [.ref q1])), (q1, .inl (aC 2, n, .inr (.inl words)))]) (wr := [(q2, .inr (0, [.ref q3, .int p_length])), (q3, .inl (aC 1, p_n, .inl p_bytes))]) (w1 := [(q0, .inr (1, [.ref q1])), (q1, .inl (aC 2, n, .inr (.inl z_1)))]) (wn := [(q0, .inr (1, [.ref q1])), (q1, .inl (aC 2, n, .inr (.inl z_1))), (q2, .inr (0, [.ref q3, .int p_length])), (q3, .inl (aC 1, p_n, .inl p_bytes))]) ⟨hx, hb, hml, hown, hts⟩ (c_X1_empty l DD aC tt q0 q1 n words a1 hp_0 z_1 hz_1) (cwV 1 hts (gdV w_279 w_281 w_3 w_72 w_282) rfl rfl rfl (by decide +kernel) ⟨Nat.le_of_ble_eq_true rfl, Nat.le_of_ble_eq_true rfl⟩) hP hD hS hA hE [0, 1] [2, 3] [2, 3, 0, 1] rfl rfl rfl (by decide) (by decide) (by decide) (by decide) (ci := 1) (q0 := 0) rfl rfl rfl hl.1 rfl (Nat.le_of_ble_eq_true rfl) dX1_readSingle_2 (fun H locs hP hD hS => ?_)
  have hP : va_P DD vwCl [(q0, .inr (1, [.ref q1])), (q1, .inl (aC 2, n, .inr (.inl z_1))), (q2, .inr (0, [.ref q3, .int p_length])), (q3, .inl (aC 1, p_n, .inl p_bytes))] H := hP
  have hD : va_D A [(q0, .inr (1, [.ref q1])), (q1, .inl (aC 2, n, .inr (.inl z_1))), (q2, .inr (0, [.ref q3, .int p_length])), (q3, .inl (aC 1, p_n, .inl p_bytes))] := hD
  refine W.eq (g2 := F0 m 5 ls []) rfl ?_
  refine lv_aload_n hx hb dX1_readSingle_5 rfl (lv_at hl 2 rfl) ?_
  refine lv_iload_n hx hb dX1_readSingle_6 rfl (lv_at hl 3 rfl) ?_
  obtain ⟨z_2, hz_2⟩ : ∃ z, z = f_X0_at p_length p_bytes a3 := ⟨_, rfl⟩
  replace hu := hu.trans (kb_of hz_2)
  refine k_callV (As := [.int a3]) (rest := []) (wc := [(q2, .inr (0, [.ref q3, .int p_length])), (q3, .inl (aC 1, p_n, .inl p_bytes))]) (wr := [(q0, .inr (1, [.ref q1])), (q1, .inl (aC 2, n, .inr (.inl z_1)))]) (w1 := [(q2, .inr (0, [.ref q3, .int p_length])), (q3, .inl (aC 1, p_n, .inl p_bytes))]) (wn := [(q0, .inr (1, [.ref q1])), (q1, .inl (aC 2, n, .inr (.inl z_1))), (q2, .inr (0, [.ref q3, .int p_length])), (q3, .inl (aC 1, p_n, .inl p_bytes))]) ⟨hx, hb, hml, hown, hts⟩ (c_X0_at l DD aC tt q2 q3 p_n p_length p_bytes a3 hp_1 z_2 hz_2) (cwV 1 hts (gdV w_283 w_259 w_260 w_69 w_261) rfl rfl rfl (by decide +kernel) ⟨Nat.le_of_ble_eq_true rfl, Nat.le_of_ble_eq_true rfl⟩) hP hD hS hA hE [2, 3] [0, 1] [0, 1, 2, 3] rfl rfl rfl (by decide) (by decide) (by decide) (by decide) (ci := 0) (q0 := 0) rfl rfl rfl hl.1 rfl (Nat.le_of_ble_eq_true rfl) dX1_readSingle_7 (fun H locs hP hD hS => ?_)
  refine W.eq (g2 := F0 m 10 ls [.int z_2]) rfl ?_
  refine lv_istore (lv' := [(4, .int z_2), (0, .ref q0), (1, .int a1), (2, .ref q2), (3, .int a3)]) hx hb dX1_readSingle_10 hl (by decide) rfl (fun ls hl => ?_)
  refine lv_iload hx hb dX1_readSingle_12 (lv_at hl 0 rfl) ?_
  refine lv_iconst (v := (-1)) hx hb dX1_readSingle_14 (by decide) ?_
  refine lv_icmp_ne (tgt := 20) hx hb dX1_readSingle_15 (by decide) (fun c_3 => ?_) (fun c_3 => ?_)
  · replace hu := hu.trans (if_neg c_3)
    refine lv_iload hx hb dX1_readSingle_20 (lv_at hl 0 rfl) ?_
    refine lv_bipush (v := 91) hx hb dX1_readSingle_22 (by decide) ?_
    refine lv_icmp_ne (tgt := 37) hx hb dX1_readSingle_24 (by decide) (fun c_4 => ?_) (fun c_4 => ?_)
    · replace hu := hu.trans (if_neg c_4)
      refine lv_iload hx hb dX1_readSingle_37 (lv_at hl 0 rfl) ?_
      refine lv_bipush (v := 37) hx hb dX1_readSingle_39 (by decide) ?_
      refine lv_icmp_ne (tgt := 60) hx hb dX1_readSingle_41 (by decide) (fun c_5 => ?_) (fun c_5 => ?_)
      · replace hu := hu.trans (if_neg c_5)
        refine lv_aload_n hx hb dX1_readSingle_60 rfl (lv_at hl 1 rfl) ?_
        refine lv_iload_n hx hb dX1_readSingle_61 rfl (lv_at hl 2 rfl) ?_
        refine lv_iload hx hb dX1_readSingle_62 (lv_at hl 0 rfl) ?_
        refine lv_bipush (v := 46) hx hb dX1_readSingle_64 (by decide) ?_
        refine lv_icmp_ne (tgt := 73) hx hb dX1_readSingle_66 (by decide) (fun c_6 => ?_) (fun c_6 => ?_)
        · replace hu := hu.trans (if_neg c_6)
          refine lv_iload hx hb dX1_readSingle_73 (lv_at hl 0 rfl) ?_
          refine lv_iload hx hb dX1_readSingle_75 (lv_at hl 0 rfl) ?_
          refine lv_bipush (v := 46) hx hb dX1_readSingle_77 (by decide) ?_
          refine lv_icmp_ne (tgt := 88) hx hb dX1_readSingle_79 (by decide) (fun _ => ?_) (fun h => absurd h c_6)
          refine lv_iload hx hb dX1_readSingle_88 (lv_at hl 0 rfl) ?_
          obtain ⟨z_7, hz_7⟩ : ∃ z, z = f_X1_addSpan n z_1 a1 z_2 z_2 := ⟨_, rfl⟩
          replace hu := hu.trans (kb_of hz_7)
          refine k_callV (As := [.int a1, .int z_2, .int z_2]) (rest := []) (wc := [(q0, .inr (1, [.ref q1])), (q1, .inl (aC 2, n, .inr (.inl z_1)))]) (wr := [(q2, .inr (0, [.ref q3, .int p_length])), (q3, .inl (aC 1, p_n, .inl p_bytes))]) (w1 := [(q0, .inr (1, [.ref q1])), (q1, .inl (aC 2, n, .inr (.inl z_7)))]) (wn := [(q0, .inr (1, [.ref q1])), (q1, .inl (aC 2, n, .inr (.inl z_7))), (q2, .inr (0, [.ref q3, .int p_length])), (q3, .inl (aC 1, p_n, .inl p_bytes))]) ⟨hx, hb, hml, hown, hts⟩ (c_X1_addSpan l DD aC tt q0 q1 n z_1 a1 z_2 z_2 hp_0 z_7 hz_7) (cwV 3 hts (gdV w_306 w_308 w_7 w_72 w_309) rfl rfl rfl (by decide +kernel) ⟨Nat.le_of_ble_eq_true rfl, Nat.le_of_ble_eq_true rfl⟩) hP hD hS hA hE [0, 1] [2, 3] [2, 3, 0, 1] rfl rfl rfl (by decide) (by decide) (by decide) (by decide) (ci := 1) (q0 := 0) rfl rfl rfl hl.1 rfl (Nat.le_of_ble_eq_true rfl) dX1_readSingle_90 (fun H locs hP hD hS => ?_)
          have hP : va_P DD vwCl [(q0, .inr (1, [.ref q1])), (q1, .inl (aC 2, n, .inr (.inl z_7))), (q2, .inr (0, [.ref q3, .int p_length])), (q3, .inl (aC 1, p_n, .inl p_bytes))] H := hP
          have hD : va_D A [(q0, .inr (1, [.ref q1])), (q1, .inl (aC 2, n, .inr (.inl z_7))), (q2, .inr (0, [.ref q3, .int p_length])), (q3, .inl (aC 1, p_n, .inl p_bytes))] := hD
          refine W.eq (g2 := F0 m 93 ls []) rfl ?_
          refine lv_iload_n hx hb dX1_readSingle_93 rfl (lv_at hl 4 rfl) ?_
          refine lv_iconst (v := 1) hx hb dX1_readSingle_94 (by decide) ?_
          refine lv_iadd hx hb dX1_readSingle_95 ?_
          subst hu
          exact k_iret hx hb hr hlocks hP hD hS rfl rfl dX1_readSingle_96
        · replace hu := hu.trans (if_pos c_6)
          refine lv_iconst (v := 0) hx hb dX1_readSingle_69 (by decide) ?_
          refine lv_goto (tgt := 75) hx hb dX1_readSingle_70 (by decide) ?_
          refine lv_iload hx hb dX1_readSingle_75 (lv_at hl 0 rfl) ?_
          refine lv_bipush (v := 46) hx hb dX1_readSingle_77 (by decide) ?_
          refine lv_icmp_ne (tgt := 88) hx hb dX1_readSingle_79 (by decide) (fun h => absurd c_6 h) (fun _ => ?_)
          refine lv_sipush (v := 255) hx hb dX1_readSingle_82 (by decide) ?_
          refine lv_goto (tgt := 90) hx hb dX1_readSingle_85 (by decide) ?_
          obtain ⟨z_8, hz_8⟩ : ∃ z, z = f_X1_addSpan n z_1 a1 0 255 := ⟨_, rfl⟩
          replace hu := hu.trans (kb_of hz_8)
          refine k_callV (As := [.int a1, .int 0, .int 255]) (rest := []) (wc := [(q0, .inr (1, [.ref q1])), (q1, .inl (aC 2, n, .inr (.inl z_1)))]) (wr := [(q2, .inr (0, [.ref q3, .int p_length])), (q3, .inl (aC 1, p_n, .inl p_bytes))]) (w1 := [(q0, .inr (1, [.ref q1])), (q1, .inl (aC 2, n, .inr (.inl z_8)))]) (wn := [(q0, .inr (1, [.ref q1])), (q1, .inl (aC 2, n, .inr (.inl z_8))), (q2, .inr (0, [.ref q3, .int p_length])), (q3, .inl (aC 1, p_n, .inl p_bytes))]) ⟨hx, hb, hml, hown, hts⟩ (c_X1_addSpan l DD aC tt q0 q1 n z_1 a1 0 255 hp_0 z_8 hz_8) (cwV 3 hts (gdV w_306 w_308 w_7 w_72 w_309) rfl rfl rfl (by decide +kernel) ⟨Nat.le_of_ble_eq_true rfl, Nat.le_of_ble_eq_true rfl⟩) hP hD hS hA hE [0, 1] [2, 3] [2, 3, 0, 1] rfl rfl rfl (by decide) (by decide) (by decide) (by decide) (ci := 1) (q0 := 0) rfl rfl rfl hl.1 rfl (Nat.le_of_ble_eq_true rfl) dX1_readSingle_90 (fun H locs hP hD hS => ?_)
          have hP : va_P DD vwCl [(q0, .inr (1, [.ref q1])), (q1, .inl (aC 2, n, .inr (.inl z_8))), (q2, .inr (0, [.ref q3, .int p_length])), (q3, .inl (aC 1, p_n, .inl p_bytes))] H := hP
          have hD : va_D A [(q0, .inr (1, [.ref q1])), (q1, .inl (aC 2, n, .inr (.inl z_8))), (q2, .inr (0, [.ref q3, .int p_length])), (q3, .inl (aC 1, p_n, .inl p_bytes))] := hD
          refine W.eq (g2 := F0 m 93 ls []) rfl ?_
          refine lv_iload_n hx hb dX1_readSingle_93 rfl (lv_at hl 4 rfl) ?_
          refine lv_iconst (v := 1) hx hb dX1_readSingle_94 (by decide) ?_
          refine lv_iadd hx hb dX1_readSingle_95 ?_
          subst hu
          exact k_iret hx hb hr hlocks hP hD hS rfl rfl dX1_readSingle_96
      · replace hu := hu.trans (if_pos c_5)
        refine lv_aload_n hx hb dX1_readSingle_44 rfl (lv_at hl 1 rfl) ?_
        refine lv_iload_n hx hb dX1_readSingle_45 rfl (lv_at hl 2 rfl) ?_
        refine lv_aload_n hx hb dX1_readSingle_46 rfl (lv_at hl 3 rfl) ?_
        refine lv_iload_n hx hb dX1_readSingle_47 rfl (lv_at hl 4 rfl) ?_
        refine lv_iconst (v := 1) hx hb dX1_readSingle_48 (by decide) ?_
        refine lv_iadd hx hb dX1_readSingle_49 ?_
        obtain ⟨z_9, hz_9⟩ : ∃ z, z = f_X0_at p_length p_bytes (a3 + 1) := ⟨_, rfl⟩
        replace hu := hu.trans (kb_of hz_9)
        refine k_callV (As := [.int (a3 + 1)]) (rest := [.int a1, .ref q0]) (wc := [(q2, .inr (0, [.ref q3, .int p_length])), (q3, .inl (aC 1, p_n, .inl p_bytes))]) (wr := [(q0, .inr (1, [.ref q1])), (q1, .inl (aC 2, n, .inr (.inl z_1)))]) (w1 := [(q2, .inr (0, [.ref q3, .int p_length])), (q3, .inl (aC 1, p_n, .inl p_bytes))]) (wn := [(q0, .inr (1, [.ref q1])), (q1, .inl (aC 2, n, .inr (.inl z_1))), (q2, .inr (0, [.ref q3, .int p_length])), (q3, .inl (aC 1, p_n, .inl p_bytes))]) ⟨hx, hb, hml, hown, hts⟩ (c_X0_at l DD aC tt q2 q3 p_n p_length p_bytes (a3 + 1) hp_1 z_9 hz_9) (cwV 1 hts (gdV w_283 w_259 w_260 w_69 w_261) rfl rfl rfl (by decide +kernel) ⟨Nat.le_of_ble_eq_true rfl, Nat.le_of_ble_eq_true rfl⟩) hP hD hS hA hE [2, 3] [0, 1] [0, 1, 2, 3] rfl rfl rfl (by decide) (by decide) (by decide) (by decide) (ci := 0) (q0 := 0) rfl rfl rfl hl.1 rfl (Nat.le_of_ble_eq_true rfl) dX1_readSingle_50 (fun H locs hP hD hS => ?_)
        refine W.eq (g2 := F0 m 53 ls [.int z_9, .int a1, .ref q0]) rfl ?_
        refine lv_iload_n hx hb dX1_readSingle_53 rfl (lv_at hl 4 rfl) ?_
        refine lv_iconst (v := 2) hx hb dX1_readSingle_54 (by decide) ?_
        refine lv_iadd hx hb dX1_readSingle_55 ?_
        obtain ⟨z_10, hz_10⟩ : ∃ z, z = f_X1_readNamed n z_1 a1 z_9 (a3 + 2) := ⟨_, rfl⟩
        replace hu := hu.trans (kb_of hz_10)
        refine k_callV (As := [.int a1, .int z_9, .int (a3 + 2)]) (rest := []) (wc := [(q0, .inr (1, [.ref q1])), (q1, .inl (aC 2, n, .inr (.inl z_1)))]) (wr := [(q2, .inr (0, [.ref q3, .int p_length])), (q3, .inl (aC 1, p_n, .inl p_bytes))]) (w1 := [(q0, .inr (1, [.ref q1])), (q1, .inl (aC 2, n, .inr (.inl z_10.2)))]) (wn := [(q0, .inr (1, [.ref q1])), (q1, .inl (aC 2, n, .inr (.inl z_10.2))), (q2, .inr (0, [.ref q3, .int p_length])), (q3, .inl (aC 1, p_n, .inl p_bytes))]) ⟨hx, hb, hml, hown, hts⟩ (c_X1_readNamed l DD aC tt q0 q1 n z_1 a1 z_9 (a3 + 2) hp_0 z_10 hz_10) (cwV 3 hts (gdV w_314 w_316 w_9 w_72 w_317) rfl rfl rfl (by decide +kernel) ⟨Nat.le_of_ble_eq_true rfl, Nat.le_of_ble_eq_true rfl⟩) hP hD hS hA hE [0, 1] [2, 3] [2, 3, 0, 1] rfl rfl rfl (by decide) (by decide) (by decide) (by decide) (ci := 1) (q0 := 0) rfl rfl rfl hl.1 rfl (Nat.le_of_ble_eq_true rfl) dX1_readSingle_56 (fun H locs hP hD hS => ?_)
        have hP : va_P DD vwCl [(q0, .inr (1, [.ref q1])), (q1, .inl (aC 2, n, .inr (.inl z_10.2))), (q2, .inr (0, [.ref q3, .int p_length])), (q3, .inl (aC 1, p_n, .inl p_bytes))] H := hP
        have hD : va_D A [(q0, .inr (1, [.ref q1])), (q1, .inl (aC 2, n, .inr (.inl z_10.2))), (q2, .inr (0, [.ref q3, .int p_length])), (q3, .inl (aC 1, p_n, .inl p_bytes))] := hD
        refine W.eq (g2 := F0 m 59 ls [.int z_10.1]) rfl ?_
        subst hu
        exact k_iret hx hb hr hlocks hP hD hS rfl rfl dX1_readSingle_59
    · replace hu := hu.trans (if_pos c_4)
      refine lv_aload_n hx hb dX1_readSingle_27 rfl (lv_at hl 1 rfl) ?_
      refine lv_iload_n hx hb dX1_readSingle_28 rfl (lv_at hl 2 rfl) ?_
      refine lv_aload_n hx hb dX1_readSingle_29 rfl (lv_at hl 3 rfl) ?_
      refine lv_iload_n hx hb dX1_readSingle_30 rfl (lv_at hl 4 rfl) ?_
      refine lv_iconst (v := 1) hx hb dX1_readSingle_31 (by decide) ?_
      refine lv_iadd hx hb dX1_readSingle_32 ?_
      obtain ⟨z_11, hz_11⟩ : ∃ z, z = f_X1_readSet n z_1 p_length p_bytes a1 (a3 + 1) := ⟨_, rfl⟩
      replace hu := hu.trans (kb_of hz_11)
      refine k_callV (As := [.int a1, .ref q2, .int (a3 + 1)]) (rest := []) (wc := [(q0, .inr (1, [.ref q1])), (q1, .inl (aC 2, n, .inr (.inl z_1))), (q2, .inr (0, [.ref q3, .int p_length])), (q3, .inl (aC 1, p_n, .inl p_bytes))]) (wr := []) (w1 := [(q0, .inr (1, [.ref q1])), (q1, .inl (aC 2, n, .inr (.inl z_11.2))), (q2, .inr (0, [.ref q3, .int p_length])), (q3, .inl (aC 1, p_n, .inl p_bytes))]) (wn := [(q0, .inr (1, [.ref q1])), (q1, .inl (aC 2, n, .inr (.inl z_11.2))), (q2, .inr (0, [.ref q3, .int p_length])), (q3, .inl (aC 1, p_n, .inl p_bytes))]) ⟨hx, hb, hml, hown, hts⟩ (c_X1_readSet l DD aC tt q0 q1 q2 q3 n p_n z_1 p_length p_bytes a1 (a3 + 1) hp_1 hp_2 hp_0 z_11 hz_11) (cwV 3 hts (gdV w_284 w_286 w_4 w_72 w_287) rfl rfl rfl (by decide +kernel) ⟨Nat.le_of_ble_eq_true rfl, Nat.le_of_ble_eq_true rfl⟩) hP hD hS hA hE [0, 1, 2, 3] [] [0, 1, 2, 3] rfl rfl rfl (by decide) (by decide) (by decide) (by decide) (ci := 1) (q0 := 0) rfl rfl rfl hl.1 rfl (Nat.le_of_ble_eq_true rfl) dX1_readSingle_33 (fun H locs hP hD hS => ?_)
      have hP : va_P DD vwCl [(q0, .inr (1, [.ref q1])), (q1, .inl (aC 2, n, .inr (.inl z_11.2))), (q2, .inr (0, [.ref q3, .int p_length])), (q3, .inl (aC 1, p_n, .inl p_bytes))] H := hP
      have hD : va_D A [(q0, .inr (1, [.ref q1])), (q1, .inl (aC 2, n, .inr (.inl z_11.2))), (q2, .inr (0, [.ref q3, .int p_length])), (q3, .inl (aC 1, p_n, .inl p_bytes))] := hD
      refine W.eq (g2 := F0 m 36 ls [.int z_11.1]) rfl ?_
      subst hu
      exact k_iret hx hb hr hlocks hP hD hS rfl rfl dX1_readSingle_36
  · replace hu := hu.trans (if_pos c_3)
    refine lv_iconst (v := (-1)) hx hb dX1_readSingle_18 (by decide) ?_
    subst hu
    exact k_iret hx hb hr hlocks hP hD hS rfl rfl dX1_readSingle_19

def f_X2_readPair (count : Int32) (kinds : Nat → Int32) (ones : Nat → Int32) (twos : Nat → Int32) (p_length : Int32) (p_bytes : Nat → Int32) (a2 : Int32) : Int32 × Int32 × (Nat → Int32) × (Nat → Int32) × (Nat → Int32) := (kb (f_X0_at p_length p_bytes a2) (fun z_1 => (if z_1 = (-1) then ((-1), count, kinds, ones, twos) else (kb (f_X0_at p_length p_bytes (a2 + 1)) (fun z_3 => (if z_3 = (-1) then ((-1), count, kinds, ones, twos) else (kb (f_X0_at p_length p_bytes a2) (fun z_5 => (kb (f_X0_at p_length p_bytes (a2 + 1)) (fun z_6 => (kb (f_X2_add count kinds ones twos 8 z_5 z_6) (fun z_7 => (a2 + 2, z_7.1, z_7.2.1, z_7.2.2.1, z_7.2.2.2)))))))))))))
set_option maxHeartbeats 4000000 in
theorem pf_X2_readPair {p_n : Nat} {count : Int32} {kinds : Nat → Int32} {ones : Nat → Int32} {twos : Nat → Int32} {p_length : Int32} {p_bytes : Nat → Int32} {a2 : Int32} (hp_0 : 0 ≤ count.toInt) (hp_1 : p_length.toInt ≤ p_n) {u : Int32 × Int32 × (Nat → Int32) × (Nat → Int32) × (Nat → Int32)} (hu : u = f_X2_readPair count kinds ones twos p_length p_bytes a2) : 0 ≤ u.2.1.toInt := by
  unfold f_X2_readPair at hu
  obtain ⟨z_1, hz_1⟩ : ∃ z, z = f_X0_at p_length p_bytes a2 := ⟨_, rfl⟩
  replace hu := hu.trans (kb_of hz_1)
  rcases Classical.em (z_1 = (-1)) with c_2 | c_2
  · replace hu := hu.trans (if_pos c_2)
    rw [hu]
    exact show 0 ≤ count.toInt from hp_0
  · replace hu := hu.trans (if_neg c_2)
    obtain ⟨z_3, hz_3⟩ : ∃ z, z = f_X0_at p_length p_bytes (a2 + 1) := ⟨_, rfl⟩
    replace hu := hu.trans (kb_of hz_3)
    rcases (Classical.em (z_3 = (-1))).symm with c_4 | c_4
    · replace hu := hu.trans (if_neg c_4)
      obtain ⟨z_5, hz_5⟩ : ∃ z, z = f_X0_at p_length p_bytes a2 := ⟨_, rfl⟩
      replace hu := hu.trans (kb_of hz_5)
      obtain ⟨z_6, hz_6⟩ : ∃ z, z = f_X0_at p_length p_bytes (a2 + 1) := ⟨_, rfl⟩
      replace hu := hu.trans (kb_of hz_6)
      obtain ⟨z_7, hz_7⟩ : ∃ z, z = f_X2_add count kinds ones twos 8 z_5 z_6 := ⟨_, rfl⟩
      replace hu := hu.trans (kb_of hz_7)
      have h_8 := pf_X2_add hp_0 hz_7
      rw [hu]
      exact show 0 ≤ z_7.1.toInt from h_8
    · replace hu := hu.trans (if_pos c_4)
      rw [hu]
      exact show 0 ≤ count.toInt from hp_0
abbrev rm_X2_readPair : Room := { frames := 1, cells := 0, slots := 0, locals := 23 }
set_option maxHeartbeats 4000000 in
set_option maxRecDepth 100000 in
theorem c_X2_readPair (l : Launch) (DD : va_G) (aC : Nat → ClassId) (tt : Nat → Nat) (q0 q1 q2 q3 q4 q5 q6 q7 q8 p_n : Nat) (count : Int32) (captureCount : Int32) (kinds : Nat → Int32) (ones : Nat → Int32) (twos : Nat → Int32) (sets_words : Nat → Int64) (states : Nat → Int32) (p_length : Int32) (p_bytes : Nat → Int32) (a2 : Int32) (hp_0 : 0 ≤ count.toInt) (hp_1 : p_length.toInt ≤ p_n) (u : Int32 × Int32 × (Nat → Int32) × (Nat → Int32) × (Nat → Int32)) (hu : u = f_X2_readPair count kinds ones twos p_length p_bytes a2) : kM l yX2_readPair wsX2_readPair rm_X2_readPair DD aC tt [.ref q0, .ref q7, .int a2] [(q0, .inr (2, [.ref q1, .ref q2, .ref q3, .ref q4, .ref q6, .int count, .int captureCount])), (q1, .inl (aC 0, 513, .inl kinds)), (q2, .inl (aC 0, 513, .inl ones)), (q3, .inl (aC 0, 513, .inl twos)), (q4, .inr (1, [.ref q5])), (q5, .inl (aC 2, 2052, .inr (.inl sets_words))), (q6, .inl (aC 0, 32, .inl states)), (q7, .inr (0, [.ref q8, .int p_length])), (q8, .inl (aC 1, p_n, .inl p_bytes))] (some (.int u.1)) [(q0, .inr (2, [.ref q1, .ref q2, .ref q3, .ref q4, .ref q6, .int u.2.1, .int captureCount])), (q1, .inl (aC 0, 513, .inl u.2.2.1)), (q2, .inl (aC 0, 513, .inl u.2.2.2.1)), (q3, .inl (aC 0, 513, .inl u.2.2.2.2)), (q4, .inr (1, [.ref q5])), (q5, .inl (aC 2, 2052, .inr (.inl sets_words))), (q6, .inl (aC 0, 32, .inl states)), (q7, .inr (0, [.ref q8, .int p_length])), (q8, .inl (aC 1, p_n, .inl p_bytes))] := by
  refine k_start (cc := cX2_readPair) (maxL := 3) (ret := (some .int)) (own := RX2) (lv0 := [(0, .ref q0), (1, .ref q7), (2, .int a2)]) (by decide) rfl rfl (Nat.le_of_ble_eq_true rfl) rfl (fun p e s m below meth c A ls X hP hD hS hl => ?_)
  obtain ⟨hx, hb, hr, hml, hts, hown, hlocks, hA, hE⟩ := id X
  unfold f_X2_readPair at hu
  refine lv_aload_n hx hb dX2_readPair_0 rfl (lv_at hl 1 rfl) ?_
  refine lv_iload_n hx hb dX2_readPair_1 rfl (lv_at hl 2 rfl) ?_
  obtain ⟨z_1, hz_1⟩ : ∃ z, z = f_X0_at p_length p_bytes a2 := ⟨_, rfl⟩
  replace hu := hu.trans (kb_of hz_1)
  refine k_callV (As := [.int a2]) (rest := []) (wc := [(q7, .inr (0, [.ref q8, .int p_length])), (q8, .inl (aC 1, p_n, .inl p_bytes))]) (wr := [(q0, .inr (2, [.ref q1, .ref q2, .ref q3, .ref q4, .ref q6, .int count, .int captureCount])), (q1, .inl (aC 0, 513, .inl kinds)), (q2, .inl (aC 0, 513, .inl ones)), (q3, .inl (aC 0, 513, .inl twos)), (q4, .inr (1, [.ref q5])), (q5, .inl (aC 2, 2052, .inr (.inl sets_words))), (q6, .inl (aC 0, 32, .inl states))]) (w1 := [(q7, .inr (0, [.ref q8, .int p_length])), (q8, .inl (aC 1, p_n, .inl p_bytes))]) (wn := [(q0, .inr (2, [.ref q1, .ref q2, .ref q3, .ref q4, .ref q6, .int count, .int captureCount])), (q1, .inl (aC 0, 513, .inl kinds)), (q2, .inl (aC 0, 513, .inl ones)), (q3, .inl (aC 0, 513, .inl twos)), (q4, .inr (1, [.ref q5])), (q5, .inl (aC 2, 2052, .inr (.inl sets_words))), (q6, .inl (aC 0, 32, .inl states)), (q7, .inr (0, [.ref q8, .int p_length])), (q8, .inl (aC 1, p_n, .inl p_bytes))]) ⟨hx, hb, hml, hown, hts⟩ (c_X0_at l DD aC tt q7 q8 p_n p_length p_bytes a2 hp_1 z_1 hz_1) (cwV 1 hts (gdV w_270 w_259 w_260 w_69 w_261) rfl rfl rfl (by decide +kernel) ⟨Nat.le_of_ble_eq_true rfl, Nat.le_of_ble_eq_true rfl⟩) hP hD hS hA hE [7, 8] [0, 1, 2, 3, 4, 5, 6] [0, 1, 2, 3, 4, 5, 6, 7, 8] rfl rfl rfl (by decide) (by decide) (by decide) (by decide) (ci := 0) (q0 := 0) rfl rfl rfl hl.1 rfl (Nat.le_of_ble_eq_true rfl) dX2_readPair_2 (fun H locs hP hD hS => ?_)
  refine W.eq (g2 := F0 m 5 ls [.int z_1]) rfl ?_
  refine lv_iconst (v := (-1)) hx hb dX2_readPair_5 (by decide) ?_
  refine lv_icmp_eq (tgt := 20) hx hb dX2_readPair_6 (by decide) (fun c_2 => ?_) (fun c_2 => ?_)
  · replace hu := hu.trans (if_pos c_2)
    refine lv_iconst (v := (-1)) hx hb dX2_readPair_20 (by decide) ?_
    subst hu
    exact k_iret hx hb hr hlocks hP hD hS rfl rfl dX2_readPair_21
  · replace hu := hu.trans (if_neg c_2)
    refine lv_aload_n hx hb dX2_readPair_9 rfl (lv_at hl 1 rfl) ?_
    refine lv_iload_n hx hb dX2_readPair_10 rfl (lv_at hl 2 rfl) ?_
    refine lv_iconst (v := 1) hx hb dX2_readPair_11 (by decide) ?_
    refine lv_iadd hx hb dX2_readPair_12 ?_
    obtain ⟨z_3, hz_3⟩ : ∃ z, z = f_X0_at p_length p_bytes (a2 + 1) := ⟨_, rfl⟩
    replace hu := hu.trans (kb_of hz_3)
    refine k_callV (As := [.int (a2 + 1)]) (rest := []) (wc := [(q7, .inr (0, [.ref q8, .int p_length])), (q8, .inl (aC 1, p_n, .inl p_bytes))]) (wr := [(q0, .inr (2, [.ref q1, .ref q2, .ref q3, .ref q4, .ref q6, .int count, .int captureCount])), (q1, .inl (aC 0, 513, .inl kinds)), (q2, .inl (aC 0, 513, .inl ones)), (q3, .inl (aC 0, 513, .inl twos)), (q4, .inr (1, [.ref q5])), (q5, .inl (aC 2, 2052, .inr (.inl sets_words))), (q6, .inl (aC 0, 32, .inl states))]) (w1 := [(q7, .inr (0, [.ref q8, .int p_length])), (q8, .inl (aC 1, p_n, .inl p_bytes))]) (wn := [(q0, .inr (2, [.ref q1, .ref q2, .ref q3, .ref q4, .ref q6, .int count, .int captureCount])), (q1, .inl (aC 0, 513, .inl kinds)), (q2, .inl (aC 0, 513, .inl ones)), (q3, .inl (aC 0, 513, .inl twos)), (q4, .inr (1, [.ref q5])), (q5, .inl (aC 2, 2052, .inr (.inl sets_words))), (q6, .inl (aC 0, 32, .inl states)), (q7, .inr (0, [.ref q8, .int p_length])), (q8, .inl (aC 1, p_n, .inl p_bytes))]) ⟨hx, hb, hml, hown, hts⟩ (c_X0_at l DD aC tt q7 q8 p_n p_length p_bytes (a2 + 1) hp_1 z_3 hz_3) (cwV 1 hts (gdV w_270 w_259 w_260 w_69 w_261) rfl rfl rfl (by decide +kernel) ⟨Nat.le_of_ble_eq_true rfl, Nat.le_of_ble_eq_true rfl⟩) hP hD hS hA hE [7, 8] [0, 1, 2, 3, 4, 5, 6] [0, 1, 2, 3, 4, 5, 6, 7, 8] rfl rfl rfl (by decide) (by decide) (by decide) (by decide) (ci := 0) (q0 := 0) rfl rfl rfl hl.1 rfl (Nat.le_of_ble_eq_true rfl) dX2_readPair_13 (fun H locs hP hD hS => ?_)
    refine W.eq (g2 := F0 m 16 ls [.int z_3]) rfl ?_
    refine lv_iconst (v := (-1)) hx hb dX2_readPair_16 (by decide) ?_
    refine lv_icmp_ne (tgt := 22) hx hb dX2_readPair_17 (by decide) (fun c_4 => ?_) (fun c_4 => ?_)
    · replace hu := hu.trans (if_neg c_4)
      refine lv_aload_n hx hb dX2_readPair_22 rfl (lv_at hl 0 rfl) ?_
      refine lv_bipush (v := 8) hx hb dX2_readPair_23 (by decide) ?_
      refine lv_aload_n hx hb dX2_readPair_25 rfl (lv_at hl 1 rfl) ?_
      refine lv_iload_n hx hb dX2_readPair_26 rfl (lv_at hl 2 rfl) ?_
      obtain ⟨z_5, hz_5⟩ : ∃ z, z = f_X0_at p_length p_bytes a2 := ⟨_, rfl⟩
      replace hu := hu.trans (kb_of hz_5)
      refine k_callV (As := [.int a2]) (rest := [.int 8, .ref q0]) (wc := [(q7, .inr (0, [.ref q8, .int p_length])), (q8, .inl (aC 1, p_n, .inl p_bytes))]) (wr := [(q0, .inr (2, [.ref q1, .ref q2, .ref q3, .ref q4, .ref q6, .int count, .int captureCount])), (q1, .inl (aC 0, 513, .inl kinds)), (q2, .inl (aC 0, 513, .inl ones)), (q3, .inl (aC 0, 513, .inl twos)), (q4, .inr (1, [.ref q5])), (q5, .inl (aC 2, 2052, .inr (.inl sets_words))), (q6, .inl (aC 0, 32, .inl states))]) (w1 := [(q7, .inr (0, [.ref q8, .int p_length])), (q8, .inl (aC 1, p_n, .inl p_bytes))]) (wn := [(q0, .inr (2, [.ref q1, .ref q2, .ref q3, .ref q4, .ref q6, .int count, .int captureCount])), (q1, .inl (aC 0, 513, .inl kinds)), (q2, .inl (aC 0, 513, .inl ones)), (q3, .inl (aC 0, 513, .inl twos)), (q4, .inr (1, [.ref q5])), (q5, .inl (aC 2, 2052, .inr (.inl sets_words))), (q6, .inl (aC 0, 32, .inl states)), (q7, .inr (0, [.ref q8, .int p_length])), (q8, .inl (aC 1, p_n, .inl p_bytes))]) ⟨hx, hb, hml, hown, hts⟩ (c_X0_at l DD aC tt q7 q8 p_n p_length p_bytes a2 hp_1 z_5 hz_5) (cwV 1 hts (gdV w_270 w_259 w_260 w_69 w_261) rfl rfl rfl (by decide +kernel) ⟨Nat.le_of_ble_eq_true rfl, Nat.le_of_ble_eq_true rfl⟩) hP hD hS hA hE [7, 8] [0, 1, 2, 3, 4, 5, 6] [0, 1, 2, 3, 4, 5, 6, 7, 8] rfl rfl rfl (by decide) (by decide) (by decide) (by decide) (ci := 0) (q0 := 0) rfl rfl rfl hl.1 rfl (Nat.le_of_ble_eq_true rfl) dX2_readPair_27 (fun H locs hP hD hS => ?_)
      refine W.eq (g2 := F0 m 30 ls [.int z_5, .int 8, .ref q0]) rfl ?_
      refine lv_aload_n hx hb dX2_readPair_30 rfl (lv_at hl 1 rfl) ?_
      refine lv_iload_n hx hb dX2_readPair_31 rfl (lv_at hl 2 rfl) ?_
      refine lv_iconst (v := 1) hx hb dX2_readPair_32 (by decide) ?_
      refine lv_iadd hx hb dX2_readPair_33 ?_
      obtain ⟨z_6, hz_6⟩ : ∃ z, z = f_X0_at p_length p_bytes (a2 + 1) := ⟨_, rfl⟩
      replace hu := hu.trans (kb_of hz_6)
      refine k_callV (As := [.int (a2 + 1)]) (rest := [.int z_5, .int 8, .ref q0]) (wc := [(q7, .inr (0, [.ref q8, .int p_length])), (q8, .inl (aC 1, p_n, .inl p_bytes))]) (wr := [(q0, .inr (2, [.ref q1, .ref q2, .ref q3, .ref q4, .ref q6, .int count, .int captureCount])), (q1, .inl (aC 0, 513, .inl kinds)), (q2, .inl (aC 0, 513, .inl ones)), (q3, .inl (aC 0, 513, .inl twos)), (q4, .inr (1, [.ref q5])), (q5, .inl (aC 2, 2052, .inr (.inl sets_words))), (q6, .inl (aC 0, 32, .inl states))]) (w1 := [(q7, .inr (0, [.ref q8, .int p_length])), (q8, .inl (aC 1, p_n, .inl p_bytes))]) (wn := [(q0, .inr (2, [.ref q1, .ref q2, .ref q3, .ref q4, .ref q6, .int count, .int captureCount])), (q1, .inl (aC 0, 513, .inl kinds)), (q2, .inl (aC 0, 513, .inl ones)), (q3, .inl (aC 0, 513, .inl twos)), (q4, .inr (1, [.ref q5])), (q5, .inl (aC 2, 2052, .inr (.inl sets_words))), (q6, .inl (aC 0, 32, .inl states)), (q7, .inr (0, [.ref q8, .int p_length])), (q8, .inl (aC 1, p_n, .inl p_bytes))]) ⟨hx, hb, hml, hown, hts⟩ (c_X0_at l DD aC tt q7 q8 p_n p_length p_bytes (a2 + 1) hp_1 z_6 hz_6) (cwV 1 hts (gdV w_270 w_259 w_260 w_69 w_261) rfl rfl rfl (by decide +kernel) ⟨Nat.le_of_ble_eq_true rfl, Nat.le_of_ble_eq_true rfl⟩) hP hD hS hA hE [7, 8] [0, 1, 2, 3, 4, 5, 6] [0, 1, 2, 3, 4, 5, 6, 7, 8] rfl rfl rfl (by decide) (by decide) (by decide) (by decide) (ci := 0) (q0 := 0) rfl rfl rfl hl.1 rfl (Nat.le_of_ble_eq_true rfl) dX2_readPair_34 (fun H locs hP hD hS => ?_)
      refine W.eq (g2 := F0 m 37 ls [.int z_6, .int z_5, .int 8, .ref q0]) rfl ?_
      obtain ⟨z_7, hz_7⟩ : ∃ z, z = f_X2_add count kinds ones twos 8 z_5 z_6 := ⟨_, rfl⟩
      replace hu := hu.trans (kb_of hz_7)
      refine k_callV (As := [.int 8, .int z_5, .int z_6]) (rest := []) (wc := [(q0, .inr (2, [.ref q1, .ref q2, .ref q3, .ref q4, .ref q6, .int count, .int captureCount])), (q1, .inl (aC 0, 513, .inl kinds)), (q2, .inl (aC 0, 513, .inl ones)), (q3, .inl (aC 0, 513, .inl twos)), (q4, .inr (1, [.ref q5])), (q5, .inl (aC 2, 2052, .inr (.inl sets_words))), (q6, .inl (aC 0, 32, .inl states))]) (wr := [(q7, .inr (0, [.ref q8, .int p_length])), (q8, .inl (aC 1, p_n, .inl p_bytes))]) (w1 := [(q0, .inr (2, [.ref q1, .ref q2, .ref q3, .ref q4, .ref q6, .int z_7.1, .int captureCount])), (q1, .inl (aC 0, 513, .inl z_7.2.1)), (q2, .inl (aC 0, 513, .inl z_7.2.2.1)), (q3, .inl (aC 0, 513, .inl z_7.2.2.2)), (q4, .inr (1, [.ref q5])), (q5, .inl (aC 2, 2052, .inr (.inl sets_words))), (q6, .inl (aC 0, 32, .inl states))]) (wn := [(q0, .inr (2, [.ref q1, .ref q2, .ref q3, .ref q4, .ref q6, .int z_7.1, .int captureCount])), (q1, .inl (aC 0, 513, .inl z_7.2.1)), (q2, .inl (aC 0, 513, .inl z_7.2.2.1)), (q3, .inl (aC 0, 513, .inl z_7.2.2.2)), (q4, .inr (1, [.ref q5])), (q5, .inl (aC 2, 2052, .inr (.inl sets_words))), (q6, .inl (aC 0, 32, .inl states)), (q7, .inr (0, [.ref q8, .int p_length])), (q8, .inl (aC 1, p_n, .inl p_bytes))]) ⟨hx, hb, hml, hown, hts⟩ (c_X2_add l DD aC tt q0 q1 q2 q3 q4 q5 q6  count captureCount kinds ones twos sets_words states 8 z_5 z_6 hp_0 z_7 hz_7) (cwV 3 hts (gdV w_318 w_320 w_10 w_71 w_321) rfl rfl rfl (by decide +kernel) ⟨Nat.le_of_ble_eq_true rfl, Nat.le_of_ble_eq_true rfl⟩) hP hD hS hA hE [0, 1, 2, 3, 4, 5, 6] [7, 8] [2, 3, 4, 5, 6, 7, 8, 0, 1] rfl rfl rfl (by decide) (by decide) (by decide) (by decide) (ci := 2) (q0 := 0) rfl rfl rfl hl.1 rfl (Nat.le_of_ble_eq_true rfl) dX2_readPair_37 (fun H locs hP hD hS => ?_)
      have hP : va_P DD vwCl [(q0, .inr (2, [.ref q1, .ref q2, .ref q3, .ref q4, .ref q6, .int z_7.1, .int captureCount])), (q1, .inl (aC 0, 513, .inl z_7.2.1)), (q2, .inl (aC 0, 513, .inl z_7.2.2.1)), (q3, .inl (aC 0, 513, .inl z_7.2.2.2)), (q4, .inr (1, [.ref q5])), (q5, .inl (aC 2, 2052, .inr (.inl sets_words))), (q6, .inl (aC 0, 32, .inl states)), (q7, .inr (0, [.ref q8, .int p_length])), (q8, .inl (aC 1, p_n, .inl p_bytes))] H := hP
      have hD : va_D A [(q0, .inr (2, [.ref q1, .ref q2, .ref q3, .ref q4, .ref q6, .int z_7.1, .int captureCount])), (q1, .inl (aC 0, 513, .inl z_7.2.1)), (q2, .inl (aC 0, 513, .inl z_7.2.2.1)), (q3, .inl (aC 0, 513, .inl z_7.2.2.2)), (q4, .inr (1, [.ref q5])), (q5, .inl (aC 2, 2052, .inr (.inl sets_words))), (q6, .inl (aC 0, 32, .inl states)), (q7, .inr (0, [.ref q8, .int p_length])), (q8, .inl (aC 1, p_n, .inl p_bytes))] := hD
      refine W.eq (g2 := F0 m 40 ls []) rfl ?_
      have h_8 := pf_X2_add hp_0 hz_7
      refine lv_iload_n hx hb dX2_readPair_40 rfl (lv_at hl 2 rfl) ?_
      refine lv_iconst (v := 2) hx hb dX2_readPair_41 (by decide) ?_
      refine lv_iadd hx hb dX2_readPair_42 ?_
      subst hu
      exact k_iret hx hb hr hlocks hP hD hS rfl rfl dX2_readPair_43
    · replace hu := hu.trans (if_pos c_4)
      refine lv_iconst (v := (-1)) hx hb dX2_readPair_20 (by decide) ?_
      subst hu
      exact k_iret hx hb hr hlocks hP hD hS rfl rfl dX2_readPair_21
def f_X2_readBorder (count : Int32) (kinds : Nat → Int32) (ones : Nat → Int32) (twos : Nat → Int32) (sets_words : Nat → Int64) (p_length : Int32) (p_bytes : Nat → Int32) (a2 : Int32) : Int32 × Int32 × (Nat → Int32) × (Nat → Int32) × (Nat → Int32) × (Nat → Int64) := (kb (f_X0_at p_length p_bytes a2) (fun z_1 => (if z_1 = 91 then (kb (f_X1_readSingle 2052 sets_words p_length p_bytes count a2) (fun z_3 => (if z_3.1 = (-1) then (z_3.1, count, kinds, ones, twos, z_3.2) else (kb (f_X2_add count kinds ones twos 9 0 0) (fun z_5 => (z_3.1, z_5.1, z_5.2.1, z_5.2.2.1, z_5.2.2.2, z_3.2)))))) else ((-1), count, kinds, ones, twos, sets_words))))
set_option maxHeartbeats 4000000 in
theorem pf_X2_readBorder {p_n : Nat} {count : Int32} {kinds : Nat → Int32} {ones : Nat → Int32} {twos : Nat → Int32} {sets_words : Nat → Int64} {p_length : Int32} {p_bytes : Nat → Int32} {a2 : Int32} (hp_0 : 0 ≤ count.toInt) (hp_1 : p_length.toInt ≤ p_n) (hp_2 : p_n < 1073741824) {u : Int32 × Int32 × (Nat → Int32) × (Nat → Int32) × (Nat → Int32) × (Nat → Int64)} (hu : u = f_X2_readBorder count kinds ones twos sets_words p_length p_bytes a2) : 0 ≤ u.2.1.toInt := by
  unfold f_X2_readBorder at hu
  obtain ⟨z_1, hz_1⟩ : ∃ z, z = f_X0_at p_length p_bytes a2 := ⟨_, rfl⟩
  replace hu := hu.trans (kb_of hz_1)
  rcases Classical.em (z_1 = 91) with c_2 | c_2
  · replace hu := hu.trans (if_pos c_2)
    obtain ⟨z_3, hz_3⟩ : ∃ z, z = f_X1_readSingle 2052 sets_words p_length p_bytes count a2 := ⟨_, rfl⟩
    replace hu := hu.trans (kb_of hz_3)
    rcases Classical.em (z_3.1 = (-1)) with c_4 | c_4
    · replace hu := hu.trans (if_pos c_4)
      rw [hu]
      exact show 0 ≤ count.toInt from hp_0
    · replace hu := hu.trans (if_neg c_4)
      obtain ⟨z_5, hz_5⟩ : ∃ z, z = f_X2_add count kinds ones twos 9 0 0 := ⟨_, rfl⟩
      replace hu := hu.trans (kb_of hz_5)
      have h_6 := pf_X2_add hp_0 hz_5
      rw [hu]
      exact show 0 ≤ z_5.1.toInt from h_6
  · replace hu := hu.trans (if_neg c_2)
    rw [hu]
    exact show 0 ≤ count.toInt from hp_0
abbrev rm_X2_readBorder : Room := { frames := 4, cells := 0, slots := 0, locals := 106 }
set_option maxHeartbeats 4000000 in
set_option maxRecDepth 100000 in
theorem c_X2_readBorder (l : Launch) (DD : va_G) (aC : Nat → ClassId) (tt : Nat → Nat) (q0 q1 q2 q3 q4 q5 q6 q7 q8 p_n : Nat) (count : Int32) (captureCount : Int32) (kinds : Nat → Int32) (ones : Nat → Int32) (twos : Nat → Int32) (sets_words : Nat → Int64) (states : Nat → Int32) (p_length : Int32) (p_bytes : Nat → Int32) (a2 : Int32) (hp_0 : 0 ≤ count.toInt) (hp_1 : p_length.toInt ≤ p_n) (hp_2 : p_n < 1073741824) (u : Int32 × Int32 × (Nat → Int32) × (Nat → Int32) × (Nat → Int32) × (Nat → Int64)) (hu : u = f_X2_readBorder count kinds ones twos sets_words p_length p_bytes a2) : kM l yX2_readBorder wsX2_readBorder rm_X2_readBorder DD aC tt [.ref q0, .ref q7, .int a2] [(q0, .inr (2, [.ref q1, .ref q2, .ref q3, .ref q4, .ref q6, .int count, .int captureCount])), (q1, .inl (aC 0, 513, .inl kinds)), (q2, .inl (aC 0, 513, .inl ones)), (q3, .inl (aC 0, 513, .inl twos)), (q4, .inr (1, [.ref q5])), (q5, .inl (aC 2, 2052, .inr (.inl sets_words))), (q6, .inl (aC 0, 32, .inl states)), (q7, .inr (0, [.ref q8, .int p_length])), (q8, .inl (aC 1, p_n, .inl p_bytes))] (some (.int u.1)) [(q0, .inr (2, [.ref q1, .ref q2, .ref q3, .ref q4, .ref q6, .int u.2.1, .int captureCount])), (q1, .inl (aC 0, 513, .inl u.2.2.1)), (q2, .inl (aC 0, 513, .inl u.2.2.2.1)), (q3, .inl (aC 0, 513, .inl u.2.2.2.2.1)), (q4, .inr (1, [.ref q5])), (q5, .inl (aC 2, 2052, .inr (.inl u.2.2.2.2.2))), (q6, .inl (aC 0, 32, .inl states)), (q7, .inr (0, [.ref q8, .int p_length])), (q8, .inl (aC 1, p_n, .inl p_bytes))] := by
  refine k_start (cc := cX2_readBorder) (maxL := 4) (ret := (some .int)) (own := RX2) (lv0 := [(0, .ref q0), (1, .ref q7), (2, .int a2)]) (by decide) rfl rfl (Nat.le_of_ble_eq_true rfl) rfl (fun p e s m below meth c A ls X hP hD hS hl => ?_)
  obtain ⟨hx, hb, hr, hml, hts, hown, hlocks, hA, hE⟩ := id X
  unfold f_X2_readBorder at hu
  refine lv_aload_n hx hb dX2_readBorder_0 rfl (lv_at hl 1 rfl) ?_
  refine lv_iload_n hx hb dX2_readBorder_1 rfl (lv_at hl 2 rfl) ?_
  obtain ⟨z_1, hz_1⟩ : ∃ z, z = f_X0_at p_length p_bytes a2 := ⟨_, rfl⟩
  replace hu := hu.trans (kb_of hz_1)
  refine k_callV (As := [.int a2]) (rest := []) (wc := [(q7, .inr (0, [.ref q8, .int p_length])), (q8, .inl (aC 1, p_n, .inl p_bytes))]) (wr := [(q0, .inr (2, [.ref q1, .ref q2, .ref q3, .ref q4, .ref q6, .int count, .int captureCount])), (q1, .inl (aC 0, 513, .inl kinds)), (q2, .inl (aC 0, 513, .inl ones)), (q3, .inl (aC 0, 513, .inl twos)), (q4, .inr (1, [.ref q5])), (q5, .inl (aC 2, 2052, .inr (.inl sets_words))), (q6, .inl (aC 0, 32, .inl states))]) (w1 := [(q7, .inr (0, [.ref q8, .int p_length])), (q8, .inl (aC 1, p_n, .inl p_bytes))]) (wn := [(q0, .inr (2, [.ref q1, .ref q2, .ref q3, .ref q4, .ref q6, .int count, .int captureCount])), (q1, .inl (aC 0, 513, .inl kinds)), (q2, .inl (aC 0, 513, .inl ones)), (q3, .inl (aC 0, 513, .inl twos)), (q4, .inr (1, [.ref q5])), (q5, .inl (aC 2, 2052, .inr (.inl sets_words))), (q6, .inl (aC 0, 32, .inl states)), (q7, .inr (0, [.ref q8, .int p_length])), (q8, .inl (aC 1, p_n, .inl p_bytes))]) ⟨hx, hb, hml, hown, hts⟩ (c_X0_at l DD aC tt q7 q8 p_n p_length p_bytes a2 hp_1 z_1 hz_1) (cwV 1 hts (gdV w_270 w_259 w_260 w_69 w_261) rfl rfl rfl (by decide +kernel) ⟨Nat.le_of_ble_eq_true rfl, Nat.le_of_ble_eq_true rfl⟩) hP hD hS hA hE [7, 8] [0, 1, 2, 3, 4, 5, 6] [0, 1, 2, 3, 4, 5, 6, 7, 8] rfl rfl rfl (by decide) (by decide) (by decide) (by decide) (ci := 0) (q0 := 0) rfl rfl rfl hl.1 rfl (Nat.le_of_ble_eq_true rfl) dX2_readBorder_2 (fun H locs hP hD hS => ?_)
  refine W.eq (g2 := F0 m 5 ls [.int z_1]) rfl ?_
  refine lv_bipush (v := 91) hx hb dX2_readBorder_5 (by decide) ?_
  refine lv_icmp_eq (tgt := 12) hx hb dX2_readBorder_7 (by decide) (fun c_2 => ?_) (fun c_2 => ?_)
  · replace hu := hu.trans (if_pos c_2)
    refine lv_aload_n hx hb dX2_readBorder_12 rfl (lv_at hl 0 rfl) ?_
    refine va_get (D := DD) (ci := 2) (v := .ref q4) (C := RX2) (T := TX2) (N := 7) hx hb hts (fun w h => List.mem_cons_of_mem _ (inX2 w h)) hown hE.1 hP 0 rfl rfl 3 (by decide) (hts (.fieldLink "TextPatterns$Items" 26 "TextPatterns$Items" "sets" "LTextPatterns$Sets;") (List.mem_cons_of_mem _ w_122)) (fun _ h9 => h9) rfl dX2_readBorder_13 ?_
    refine lv_aload_n hx hb dX2_readBorder_16 rfl (lv_at hl 0 rfl) ?_
    refine va_get (D := DD) (ci := 2) (v := .int count) (C := RX2) (T := TX2) (N := 7) hx hb hts (fun w h => List.mem_cons_of_mem _ (inX2 w h)) hown hE.1 hP 0 rfl rfl 5 (by decide) (hts (.fieldLink "TextPatterns$Items" 37 "TextPatterns$Items" "count" "I") (List.mem_cons_of_mem _ w_125)) (fun _ h9 => h9) rfl dX2_readBorder_17 ?_
    refine lv_aload_n hx hb dX2_readBorder_20 rfl (lv_at hl 1 rfl) ?_
    refine lv_iload_n hx hb dX2_readBorder_21 rfl (lv_at hl 2 rfl) ?_
    obtain ⟨z_3, hz_3⟩ : ∃ z, z = f_X1_readSingle 2052 sets_words p_length p_bytes count a2 := ⟨_, rfl⟩
    replace hu := hu.trans (kb_of hz_3)
    refine k_callV (As := [.int count, .ref q7, .int a2]) (rest := []) (wc := [(q4, .inr (1, [.ref q5])), (q5, .inl (aC 2, 2052, .inr (.inl sets_words))), (q7, .inr (0, [.ref q8, .int p_length])), (q8, .inl (aC 1, p_n, .inl p_bytes))]) (wr := [(q0, .inr (2, [.ref q1, .ref q2, .ref q3, .ref q4, .ref q6, .int count, .int captureCount])), (q1, .inl (aC 0, 513, .inl kinds)), (q2, .inl (aC 0, 513, .inl ones)), (q3, .inl (aC 0, 513, .inl twos)), (q6, .inl (aC 0, 32, .inl states))]) (w1 := [(q4, .inr (1, [.ref q5])), (q5, .inl (aC 2, 2052, .inr (.inl z_3.2))), (q7, .inr (0, [.ref q8, .int p_length])), (q8, .inl (aC 1, p_n, .inl p_bytes))]) (wn := [(q0, .inr (2, [.ref q1, .ref q2, .ref q3, .ref q4, .ref q6, .int count, .int captureCount])), (q1, .inl (aC 0, 513, .inl kinds)), (q2, .inl (aC 0, 513, .inl ones)), (q3, .inl (aC 0, 513, .inl twos)), (q4, .inr (1, [.ref q5])), (q5, .inl (aC 2, 2052, .inr (.inl z_3.2))), (q6, .inl (aC 0, 32, .inl states)), (q7, .inr (0, [.ref q8, .int p_length])), (q8, .inl (aC 1, p_n, .inl p_bytes))]) ⟨hx, hb, hml, hown, hts⟩ (c_X1_readSingle l DD aC tt q4 q5 q7 q8 2052 p_n sets_words p_length p_bytes count a2 (by decide) hp_1 hp_2 z_3 hz_3) (cwV 3 hts (gdV w_275 w_276 w_277 w_72 w_278) rfl rfl rfl (by decide +kernel) ⟨Nat.le_of_ble_eq_true rfl, Nat.le_of_ble_eq_true rfl⟩) hP hD hS hA hE [4, 5, 7, 8] [0, 1, 2, 3, 6] [0, 1, 2, 3, 5, 6, 4, 7, 8] rfl rfl rfl (by decide) (by decide) (by decide) (by decide) (ci := 1) (q0 := 0) rfl rfl rfl hl.1 rfl (Nat.le_of_ble_eq_true rfl) dX2_readBorder_22 (fun H locs hP hD hS => ?_)
    have hP : va_P DD vwCl [(q0, .inr (2, [.ref q1, .ref q2, .ref q3, .ref q4, .ref q6, .int count, .int captureCount])), (q1, .inl (aC 0, 513, .inl kinds)), (q2, .inl (aC 0, 513, .inl ones)), (q3, .inl (aC 0, 513, .inl twos)), (q4, .inr (1, [.ref q5])), (q5, .inl (aC 2, 2052, .inr (.inl z_3.2))), (q6, .inl (aC 0, 32, .inl states)), (q7, .inr (0, [.ref q8, .int p_length])), (q8, .inl (aC 1, p_n, .inl p_bytes))] H := hP
    have hD : va_D A [(q0, .inr (2, [.ref q1, .ref q2, .ref q3, .ref q4, .ref q6, .int count, .int captureCount])), (q1, .inl (aC 0, 513, .inl kinds)), (q2, .inl (aC 0, 513, .inl ones)), (q3, .inl (aC 0, 513, .inl twos)), (q4, .inr (1, [.ref q5])), (q5, .inl (aC 2, 2052, .inr (.inl z_3.2))), (q6, .inl (aC 0, 32, .inl states)), (q7, .inr (0, [.ref q8, .int p_length])), (q8, .inl (aC 1, p_n, .inl p_bytes))] := hD
    refine W.eq (g2 := F0 m 25 ls [.int z_3.1]) rfl ?_
    refine lv_istore_n (lv' := [(3, .int z_3.1), (0, .ref q0), (1, .ref q7), (2, .int a2)]) hx hb dX2_readBorder_25 rfl hl (by decide) rfl (fun ls hl => ?_)
    refine lv_iload_n hx hb dX2_readBorder_26 rfl (lv_at hl 0 rfl) ?_
    refine lv_iconst (v := (-1)) hx hb dX2_readBorder_27 (by decide) ?_
    refine lv_icmp_eq (tgt := 39) hx hb dX2_readBorder_28 (by decide) (fun c_4 => ?_) (fun c_4 => ?_)
    · replace hu := hu.trans (if_pos c_4)
      refine lv_iload_n hx hb dX2_readBorder_39 rfl (lv_at hl 0 rfl) ?_
      subst hu
      exact k_iret hx hb hr hlocks hP hD hS rfl rfl dX2_readBorder_40
    · replace hu := hu.trans (if_neg c_4)
      refine lv_aload_n hx hb dX2_readBorder_31 rfl (lv_at hl 1 rfl) ?_
      refine lv_bipush (v := 9) hx hb dX2_readBorder_32 (by decide) ?_
      refine lv_iconst (v := 0) hx hb dX2_readBorder_34 (by decide) ?_
      refine lv_iconst (v := 0) hx hb dX2_readBorder_35 (by decide) ?_
      obtain ⟨z_5, hz_5⟩ : ∃ z, z = f_X2_add count kinds ones twos 9 0 0 := ⟨_, rfl⟩
      replace hu := hu.trans (kb_of hz_5)
      refine k_callV (As := [.int 9, .int 0, .int 0]) (rest := []) (wc := [(q0, .inr (2, [.ref q1, .ref q2, .ref q3, .ref q4, .ref q6, .int count, .int captureCount])), (q1, .inl (aC 0, 513, .inl kinds)), (q2, .inl (aC 0, 513, .inl ones)), (q3, .inl (aC 0, 513, .inl twos)), (q4, .inr (1, [.ref q5])), (q5, .inl (aC 2, 2052, .inr (.inl z_3.2))), (q6, .inl (aC 0, 32, .inl states))]) (wr := [(q7, .inr (0, [.ref q8, .int p_length])), (q8, .inl (aC 1, p_n, .inl p_bytes))]) (w1 := [(q0, .inr (2, [.ref q1, .ref q2, .ref q3, .ref q4, .ref q6, .int z_5.1, .int captureCount])), (q1, .inl (aC 0, 513, .inl z_5.2.1)), (q2, .inl (aC 0, 513, .inl z_5.2.2.1)), (q3, .inl (aC 0, 513, .inl z_5.2.2.2)), (q4, .inr (1, [.ref q5])), (q5, .inl (aC 2, 2052, .inr (.inl z_3.2))), (q6, .inl (aC 0, 32, .inl states))]) (wn := [(q0, .inr (2, [.ref q1, .ref q2, .ref q3, .ref q4, .ref q6, .int z_5.1, .int captureCount])), (q1, .inl (aC 0, 513, .inl z_5.2.1)), (q2, .inl (aC 0, 513, .inl z_5.2.2.1)), (q3, .inl (aC 0, 513, .inl z_5.2.2.2)), (q4, .inr (1, [.ref q5])), (q5, .inl (aC 2, 2052, .inr (.inl z_3.2))), (q6, .inl (aC 0, 32, .inl states)), (q7, .inr (0, [.ref q8, .int p_length])), (q8, .inl (aC 1, p_n, .inl p_bytes))]) ⟨hx, hb, hml, hown, hts⟩ (c_X2_add l DD aC tt q0 q1 q2 q3 q4 q5 q6  count captureCount kinds ones twos z_3.2 states 9 0 0 hp_0 z_5 hz_5) (cwV 3 hts (gdV w_318 w_320 w_10 w_71 w_321) rfl rfl rfl (by decide +kernel) ⟨Nat.le_of_ble_eq_true rfl, Nat.le_of_ble_eq_true rfl⟩) hP hD hS hA hE [0, 1, 2, 3, 4, 5, 6] [7, 8] [2, 3, 4, 5, 6, 7, 8, 0, 1] rfl rfl rfl (by decide) (by decide) (by decide) (by decide) (ci := 2) (q0 := 0) rfl rfl rfl hl.1 rfl (Nat.le_of_ble_eq_true rfl) dX2_readBorder_36 (fun H locs hP hD hS => ?_)
      have hP : va_P DD vwCl [(q0, .inr (2, [.ref q1, .ref q2, .ref q3, .ref q4, .ref q6, .int z_5.1, .int captureCount])), (q1, .inl (aC 0, 513, .inl z_5.2.1)), (q2, .inl (aC 0, 513, .inl z_5.2.2.1)), (q3, .inl (aC 0, 513, .inl z_5.2.2.2)), (q4, .inr (1, [.ref q5])), (q5, .inl (aC 2, 2052, .inr (.inl z_3.2))), (q6, .inl (aC 0, 32, .inl states)), (q7, .inr (0, [.ref q8, .int p_length])), (q8, .inl (aC 1, p_n, .inl p_bytes))] H := hP
      have hD : va_D A [(q0, .inr (2, [.ref q1, .ref q2, .ref q3, .ref q4, .ref q6, .int z_5.1, .int captureCount])), (q1, .inl (aC 0, 513, .inl z_5.2.1)), (q2, .inl (aC 0, 513, .inl z_5.2.2.1)), (q3, .inl (aC 0, 513, .inl z_5.2.2.2)), (q4, .inr (1, [.ref q5])), (q5, .inl (aC 2, 2052, .inr (.inl z_3.2))), (q6, .inl (aC 0, 32, .inl states)), (q7, .inr (0, [.ref q8, .int p_length])), (q8, .inl (aC 1, p_n, .inl p_bytes))] := hD
      refine W.eq (g2 := F0 m 39 ls []) rfl ?_
      have h_6 := pf_X2_add hp_0 hz_5
      refine lv_iload_n hx hb dX2_readBorder_39 rfl (lv_at hl 0 rfl) ?_
      subst hu
      exact k_iret hx hb hr hlocks hP hD hS rfl rfl dX2_readBorder_40
  · replace hu := hu.trans (if_neg c_2)
    refine lv_iconst (v := (-1)) hx hb dX2_readBorder_10 (by decide) ?_
    subst hu
    exact k_iret hx hb hr hlocks hP hD hS rfl rfl dX2_readBorder_11
def f_X2_readRepeated (count : Int32) (kinds : Nat → Int32) (ones : Nat → Int32) (twos : Nat → Int32) (sets_words : Nat → Int64) (p_length : Int32) (p_bytes : Nat → Int32) (a2 : Int32) : Int32 × Int32 × (Nat → Int32) × (Nat → Int32) × (Nat → Int32) × (Nat → Int64) := (kb (f_X1_readSingle 2052 sets_words p_length p_bytes count a2) (fun z_1 => (if z_1.1 = (-1) then ((-1), count, kinds, ones, twos, z_1.2) else (kb (f_X0_at p_length p_bytes z_1.1) (fun z_3 => (if z_3 = 42 then (kb (f_X2_add count kinds ones twos 2 0 4096) (fun z_5 => (z_1.1 + 1, z_5.1, z_5.2.1, z_5.2.2.1, z_5.2.2.2, z_1.2))) else (if z_3 = 43 then (kb (f_X2_add count kinds ones twos 2 1 4096) (fun z_8 => (z_1.1 + 1, z_8.1, z_8.2.1, z_8.2.2.1, z_8.2.2.2, z_1.2))) else (if z_3 = 45 then (kb (f_X2_add count kinds ones twos 3 0 0) (fun z_11 => (z_1.1 + 1, z_11.1, z_11.2.1, z_11.2.2.1, z_11.2.2.2, z_1.2))) else (if z_3 = 63 then (kb (f_X2_add count kinds ones twos 2 0 1) (fun z_14 => (z_1.1 + 1, z_14.1, z_14.2.1, z_14.2.2.1, z_14.2.2.2, z_1.2))) else (kb (f_X2_add count kinds ones twos 2 1 1) (fun z_16 => (z_1.1, z_16.1, z_16.2.1, z_16.2.2.1, z_16.2.2.2, z_1.2))))))))))))
set_option maxHeartbeats 4000000 in
theorem pf_X2_readRepeated {p_n : Nat} {count : Int32} {kinds : Nat → Int32} {ones : Nat → Int32} {twos : Nat → Int32} {sets_words : Nat → Int64} {p_length : Int32} {p_bytes : Nat → Int32} {a2 : Int32} (hp_0 : 0 ≤ count.toInt) (hp_1 : p_length.toInt ≤ p_n) (hp_2 : p_n < 1073741824) {u : Int32 × Int32 × (Nat → Int32) × (Nat → Int32) × (Nat → Int32) × (Nat → Int64)} (hu : u = f_X2_readRepeated count kinds ones twos sets_words p_length p_bytes a2) : 0 ≤ u.2.1.toInt := by
  unfold f_X2_readRepeated at hu
  obtain ⟨z_1, hz_1⟩ : ∃ z, z = f_X1_readSingle 2052 sets_words p_length p_bytes count a2 := ⟨_, rfl⟩
  replace hu := hu.trans (kb_of hz_1)
  rcases (Classical.em (z_1.1 = (-1))).symm with c_2 | c_2
  · replace hu := hu.trans (if_neg c_2)
    obtain ⟨z_3, hz_3⟩ : ∃ z, z = f_X0_at p_length p_bytes z_1.1 := ⟨_, rfl⟩
    replace hu := hu.trans (kb_of hz_3)
    by_cases c_4 : z_3 = 42
    · replace hu := hu.trans (if_pos c_4)
      obtain ⟨z_5, hz_5⟩ : ∃ z, z = f_X2_add count kinds ones twos 2 0 4096 := ⟨_, rfl⟩
      replace hu := hu.trans (kb_of hz_5)
      have h_6 := pf_X2_add hp_0 hz_5
      rw [hu]
      exact show 0 ≤ z_5.1.toInt from h_6
    replace hu := hu.trans (if_neg c_4)
    by_cases c_7 : z_3 = 43
    · replace hu := hu.trans (if_pos c_7)
      obtain ⟨z_8, hz_8⟩ : ∃ z, z = f_X2_add count kinds ones twos 2 1 4096 := ⟨_, rfl⟩
      replace hu := hu.trans (kb_of hz_8)
      have h_9 := pf_X2_add hp_0 hz_8
      rw [hu]
      exact show 0 ≤ z_8.1.toInt from h_9
    replace hu := hu.trans (if_neg c_7)
    by_cases c_10 : z_3 = 45
    · replace hu := hu.trans (if_pos c_10)
      obtain ⟨z_11, hz_11⟩ : ∃ z, z = f_X2_add count kinds ones twos 3 0 0 := ⟨_, rfl⟩
      replace hu := hu.trans (kb_of hz_11)
      have h_12 := pf_X2_add hp_0 hz_11
      rw [hu]
      exact show 0 ≤ z_11.1.toInt from h_12
    replace hu := hu.trans (if_neg c_10)
    by_cases c_13 : z_3 = 63
    · replace hu := hu.trans (if_pos c_13)
      obtain ⟨z_14, hz_14⟩ : ∃ z, z = f_X2_add count kinds ones twos 2 0 1 := ⟨_, rfl⟩
      replace hu := hu.trans (kb_of hz_14)
      have h_15 := pf_X2_add hp_0 hz_14
      rw [hu]
      exact show 0 ≤ z_14.1.toInt from h_15
    replace hu := hu.trans (if_neg c_13)
    obtain ⟨z_16, hz_16⟩ : ∃ z, z = f_X2_add count kinds ones twos 2 1 1 := ⟨_, rfl⟩
    replace hu := hu.trans (kb_of hz_16)
    have h_17 := pf_X2_add hp_0 hz_16
    rw [hu]
    exact show 0 ≤ z_16.1.toInt from h_17
  · replace hu := hu.trans (if_pos c_2)
    rw [hu]
    exact show 0 ≤ count.toInt from hp_0
abbrev rm_X2_readRepeated : Room := { frames := 4, cells := 0, slots := 0, locals := 106 }
set_option maxHeartbeats 4000000 in
set_option maxRecDepth 100000 in
theorem c_X2_readRepeated (l : Launch) (DD : va_G) (aC : Nat → ClassId) (tt : Nat → Nat) (q0 q1 q2 q3 q4 q5 q6 q7 q8 p_n : Nat) (count : Int32) (captureCount : Int32) (kinds : Nat → Int32) (ones : Nat → Int32) (twos : Nat → Int32) (sets_words : Nat → Int64) (states : Nat → Int32) (p_length : Int32) (p_bytes : Nat → Int32) (a2 : Int32) (hp_0 : 0 ≤ count.toInt) (hp_1 : p_length.toInt ≤ p_n) (hp_2 : p_n < 1073741824) (u : Int32 × Int32 × (Nat → Int32) × (Nat → Int32) × (Nat → Int32) × (Nat → Int64)) (hu : u = f_X2_readRepeated count kinds ones twos sets_words p_length p_bytes a2) : kM l yX2_readRepeated wsX2_readRepeated rm_X2_readRepeated DD aC tt [.ref q0, .ref q7, .int a2] [(q0, .inr (2, [.ref q1, .ref q2, .ref q3, .ref q4, .ref q6, .int count, .int captureCount])), (q1, .inl (aC 0, 513, .inl kinds)), (q2, .inl (aC 0, 513, .inl ones)), (q3, .inl (aC 0, 513, .inl twos)), (q4, .inr (1, [.ref q5])), (q5, .inl (aC 2, 2052, .inr (.inl sets_words))), (q6, .inl (aC 0, 32, .inl states)), (q7, .inr (0, [.ref q8, .int p_length])), (q8, .inl (aC 1, p_n, .inl p_bytes))] (some (.int u.1)) [(q0, .inr (2, [.ref q1, .ref q2, .ref q3, .ref q4, .ref q6, .int u.2.1, .int captureCount])), (q1, .inl (aC 0, 513, .inl u.2.2.1)), (q2, .inl (aC 0, 513, .inl u.2.2.2.1)), (q3, .inl (aC 0, 513, .inl u.2.2.2.2.1)), (q4, .inr (1, [.ref q5])), (q5, .inl (aC 2, 2052, .inr (.inl u.2.2.2.2.2))), (q6, .inl (aC 0, 32, .inl states)), (q7, .inr (0, [.ref q8, .int p_length])), (q8, .inl (aC 1, p_n, .inl p_bytes))] := by
  refine k_start (cc := cX2_readRepeated) (maxL := 4) (ret := (some .int)) (own := RX2) (lv0 := [(0, .ref q0), (1, .ref q7), (2, .int a2)]) (by decide) rfl rfl (Nat.le_of_ble_eq_true rfl) rfl (fun p e s m below meth c A ls X hP hD hS hl => ?_)
  obtain ⟨hx, hb, hr, hml, hts, hown, hlocks, hA, hE⟩ := id X
  unfold f_X2_readRepeated at hu
  refine lv_aload_n hx hb dX2_readRepeated_0 rfl (lv_at hl 0 rfl) ?_
  refine va_get (D := DD) (ci := 2) (v := .ref q4) (C := RX2) (T := TX2) (N := 7) hx hb hts (fun w h => List.mem_cons_of_mem _ (inX2 w h)) hown hE.1 hP 0 rfl rfl 3 (by decide) (hts (.fieldLink "TextPatterns$Items" 26 "TextPatterns$Items" "sets" "LTextPatterns$Sets;") (List.mem_cons_of_mem _ w_122)) (fun _ h9 => h9) rfl dX2_readRepeated_1 ?_
  refine lv_aload_n hx hb dX2_readRepeated_4 rfl (lv_at hl 0 rfl) ?_
  refine va_get (D := DD) (ci := 2) (v := .int count) (C := RX2) (T := TX2) (N := 7) hx hb hts (fun w h => List.mem_cons_of_mem _ (inX2 w h)) hown hE.1 hP 0 rfl rfl 5 (by decide) (hts (.fieldLink "TextPatterns$Items" 37 "TextPatterns$Items" "count" "I") (List.mem_cons_of_mem _ w_125)) (fun _ h9 => h9) rfl dX2_readRepeated_5 ?_
  refine lv_aload_n hx hb dX2_readRepeated_8 rfl (lv_at hl 1 rfl) ?_
  refine lv_iload_n hx hb dX2_readRepeated_9 rfl (lv_at hl 2 rfl) ?_
  obtain ⟨z_1, hz_1⟩ : ∃ z, z = f_X1_readSingle 2052 sets_words p_length p_bytes count a2 := ⟨_, rfl⟩
  replace hu := hu.trans (kb_of hz_1)
  refine k_callV (As := [.int count, .ref q7, .int a2]) (rest := []) (wc := [(q4, .inr (1, [.ref q5])), (q5, .inl (aC 2, 2052, .inr (.inl sets_words))), (q7, .inr (0, [.ref q8, .int p_length])), (q8, .inl (aC 1, p_n, .inl p_bytes))]) (wr := [(q0, .inr (2, [.ref q1, .ref q2, .ref q3, .ref q4, .ref q6, .int count, .int captureCount])), (q1, .inl (aC 0, 513, .inl kinds)), (q2, .inl (aC 0, 513, .inl ones)), (q3, .inl (aC 0, 513, .inl twos)), (q6, .inl (aC 0, 32, .inl states))]) (w1 := [(q4, .inr (1, [.ref q5])), (q5, .inl (aC 2, 2052, .inr (.inl z_1.2))), (q7, .inr (0, [.ref q8, .int p_length])), (q8, .inl (aC 1, p_n, .inl p_bytes))]) (wn := [(q0, .inr (2, [.ref q1, .ref q2, .ref q3, .ref q4, .ref q6, .int count, .int captureCount])), (q1, .inl (aC 0, 513, .inl kinds)), (q2, .inl (aC 0, 513, .inl ones)), (q3, .inl (aC 0, 513, .inl twos)), (q4, .inr (1, [.ref q5])), (q5, .inl (aC 2, 2052, .inr (.inl z_1.2))), (q6, .inl (aC 0, 32, .inl states)), (q7, .inr (0, [.ref q8, .int p_length])), (q8, .inl (aC 1, p_n, .inl p_bytes))]) ⟨hx, hb, hml, hown, hts⟩ (c_X1_readSingle l DD aC tt q4 q5 q7 q8 2052 p_n sets_words p_length p_bytes count a2 (by decide) hp_1 hp_2 z_1 hz_1) (cwV 3 hts (gdV w_275 w_276 w_277 w_72 w_278) rfl rfl rfl (by decide +kernel) ⟨Nat.le_of_ble_eq_true rfl, Nat.le_of_ble_eq_true rfl⟩) hP hD hS hA hE [4, 5, 7, 8] [0, 1, 2, 3, 6] [0, 1, 2, 3, 5, 6, 4, 7, 8] rfl rfl rfl (by decide) (by decide) (by decide) (by decide) (ci := 1) (q0 := 0) rfl rfl rfl hl.1 rfl (Nat.le_of_ble_eq_true rfl) dX2_readRepeated_10 (fun H locs hP hD hS => ?_)
  have hP : va_P DD vwCl [(q0, .inr (2, [.ref q1, .ref q2, .ref q3, .ref q4, .ref q6, .int count, .int captureCount])), (q1, .inl (aC 0, 513, .inl kinds)), (q2, .inl (aC 0, 513, .inl ones)), (q3, .inl (aC 0, 513, .inl twos)), (q4, .inr (1, [.ref q5])), (q5, .inl (aC 2, 2052, .inr (.inl z_1.2))), (q6, .inl (aC 0, 32, .inl states)), (q7, .inr (0, [.ref q8, .int p_length])), (q8, .inl (aC 1, p_n, .inl p_bytes))] H := hP
  have hD : va_D A [(q0, .inr (2, [.ref q1, .ref q2, .ref q3, .ref q4, .ref q6, .int count, .int captureCount])), (q1, .inl (aC 0, 513, .inl kinds)), (q2, .inl (aC 0, 513, .inl ones)), (q3, .inl (aC 0, 513, .inl twos)), (q4, .inr (1, [.ref q5])), (q5, .inl (aC 2, 2052, .inr (.inl z_1.2))), (q6, .inl (aC 0, 32, .inl states)), (q7, .inr (0, [.ref q8, .int p_length])), (q8, .inl (aC 1, p_n, .inl p_bytes))] := hD
  refine W.eq (g2 := F0 m 13 ls [.int z_1.1]) rfl ?_
  refine lv_istore_n (lv' := [(3, .int z_1.1), (0, .ref q0), (1, .ref q7), (2, .int a2)]) hx hb dX2_readRepeated_13 rfl hl (by decide) rfl (fun ls hl => ?_)
  refine lv_iload_n hx hb dX2_readRepeated_14 rfl (lv_at hl 0 rfl) ?_
  refine lv_iconst (v := (-1)) hx hb dX2_readRepeated_15 (by decide) ?_
  refine lv_icmp_ne (tgt := 21) hx hb dX2_readRepeated_16 (by decide) (fun c_2 => ?_) (fun c_2 => ?_)
  · replace hu := hu.trans (if_neg c_2)
    refine lv_aload_n hx hb dX2_readRepeated_21 rfl (lv_at hl 2 rfl) ?_
    refine lv_iload_n hx hb dX2_readRepeated_22 rfl (lv_at hl 0 rfl) ?_
    obtain ⟨z_3, hz_3⟩ : ∃ z, z = f_X0_at p_length p_bytes z_1.1 := ⟨_, rfl⟩
    replace hu := hu.trans (kb_of hz_3)
    refine k_callV (As := [.int z_1.1]) (rest := []) (wc := [(q7, .inr (0, [.ref q8, .int p_length])), (q8, .inl (aC 1, p_n, .inl p_bytes))]) (wr := [(q0, .inr (2, [.ref q1, .ref q2, .ref q3, .ref q4, .ref q6, .int count, .int captureCount])), (q1, .inl (aC 0, 513, .inl kinds)), (q2, .inl (aC 0, 513, .inl ones)), (q3, .inl (aC 0, 513, .inl twos)), (q4, .inr (1, [.ref q5])), (q5, .inl (aC 2, 2052, .inr (.inl z_1.2))), (q6, .inl (aC 0, 32, .inl states))]) (w1 := [(q7, .inr (0, [.ref q8, .int p_length])), (q8, .inl (aC 1, p_n, .inl p_bytes))]) (wn := [(q0, .inr (2, [.ref q1, .ref q2, .ref q3, .ref q4, .ref q6, .int count, .int captureCount])), (q1, .inl (aC 0, 513, .inl kinds)), (q2, .inl (aC 0, 513, .inl ones)), (q3, .inl (aC 0, 513, .inl twos)), (q4, .inr (1, [.ref q5])), (q5, .inl (aC 2, 2052, .inr (.inl z_1.2))), (q6, .inl (aC 0, 32, .inl states)), (q7, .inr (0, [.ref q8, .int p_length])), (q8, .inl (aC 1, p_n, .inl p_bytes))]) ⟨hx, hb, hml, hown, hts⟩ (c_X0_at l DD aC tt q7 q8 p_n p_length p_bytes z_1.1 hp_1 z_3 hz_3) (cwV 1 hts (gdV w_270 w_259 w_260 w_69 w_261) rfl rfl rfl (by decide +kernel) ⟨Nat.le_of_ble_eq_true rfl, Nat.le_of_ble_eq_true rfl⟩) hP hD hS hA hE [7, 8] [0, 1, 2, 3, 4, 5, 6] [0, 1, 2, 3, 4, 5, 6, 7, 8] rfl rfl rfl (by decide) (by decide) (by decide) (by decide) (ci := 0) (q0 := 0) rfl rfl rfl hl.1 rfl (Nat.le_of_ble_eq_true rfl) dX2_readRepeated_23 (fun H locs hP hD hS => ?_)
    refine W.eq (g2 := F0 m 26 ls [.int z_3]) rfl ?_
    by_cases c_4 : z_3 = 42
    · replace hu := hu.trans (if_pos c_4)
      refine lv_lookup (off := 53) (tgt := 79) hx hb dX2_readRepeated_26 (by decide) (by rw [c_4]; decide) (by decide) ?_
      refine lv_aload_n hx hb dX2_readRepeated_79 rfl (lv_at hl 1 rfl) ?_
      refine lv_iconst (v := 2) hx hb dX2_readRepeated_80 (by decide) ?_
      refine lv_iconst (v := 0) hx hb dX2_readRepeated_81 (by decide) ?_
      refine lv_sipush (v := 4096) hx hb dX2_readRepeated_82 (by decide) ?_
      obtain ⟨z_5, hz_5⟩ : ∃ z, z = f_X2_add count kinds ones twos 2 0 4096 := ⟨_, rfl⟩
      replace hu := hu.trans (kb_of hz_5)
      refine k_callV (As := [.int 2, .int 0, .int 4096]) (rest := []) (wc := [(q0, .inr (2, [.ref q1, .ref q2, .ref q3, .ref q4, .ref q6, .int count, .int captureCount])), (q1, .inl (aC 0, 513, .inl kinds)), (q2, .inl (aC 0, 513, .inl ones)), (q3, .inl (aC 0, 513, .inl twos)), (q4, .inr (1, [.ref q5])), (q5, .inl (aC 2, 2052, .inr (.inl z_1.2))), (q6, .inl (aC 0, 32, .inl states))]) (wr := [(q7, .inr (0, [.ref q8, .int p_length])), (q8, .inl (aC 1, p_n, .inl p_bytes))]) (w1 := [(q0, .inr (2, [.ref q1, .ref q2, .ref q3, .ref q4, .ref q6, .int z_5.1, .int captureCount])), (q1, .inl (aC 0, 513, .inl z_5.2.1)), (q2, .inl (aC 0, 513, .inl z_5.2.2.1)), (q3, .inl (aC 0, 513, .inl z_5.2.2.2)), (q4, .inr (1, [.ref q5])), (q5, .inl (aC 2, 2052, .inr (.inl z_1.2))), (q6, .inl (aC 0, 32, .inl states))]) (wn := [(q0, .inr (2, [.ref q1, .ref q2, .ref q3, .ref q4, .ref q6, .int z_5.1, .int captureCount])), (q1, .inl (aC 0, 513, .inl z_5.2.1)), (q2, .inl (aC 0, 513, .inl z_5.2.2.1)), (q3, .inl (aC 0, 513, .inl z_5.2.2.2)), (q4, .inr (1, [.ref q5])), (q5, .inl (aC 2, 2052, .inr (.inl z_1.2))), (q6, .inl (aC 0, 32, .inl states)), (q7, .inr (0, [.ref q8, .int p_length])), (q8, .inl (aC 1, p_n, .inl p_bytes))]) ⟨hx, hb, hml, hown, hts⟩ (c_X2_add l DD aC tt q0 q1 q2 q3 q4 q5 q6  count captureCount kinds ones twos z_1.2 states 2 0 4096 hp_0 z_5 hz_5) (cwV 3 hts (gdV w_318 w_320 w_10 w_71 w_321) rfl rfl rfl (by decide +kernel) ⟨Nat.le_of_ble_eq_true rfl, Nat.le_of_ble_eq_true rfl⟩) hP hD hS hA hE [0, 1, 2, 3, 4, 5, 6] [7, 8] [2, 3, 4, 5, 6, 7, 8, 0, 1] rfl rfl rfl (by decide) (by decide) (by decide) (by decide) (ci := 2) (q0 := 0) rfl rfl rfl hl.1 rfl (Nat.le_of_ble_eq_true rfl) dX2_readRepeated_85 (fun H locs hP hD hS => ?_)
      have hP : va_P DD vwCl [(q0, .inr (2, [.ref q1, .ref q2, .ref q3, .ref q4, .ref q6, .int z_5.1, .int captureCount])), (q1, .inl (aC 0, 513, .inl z_5.2.1)), (q2, .inl (aC 0, 513, .inl z_5.2.2.1)), (q3, .inl (aC 0, 513, .inl z_5.2.2.2)), (q4, .inr (1, [.ref q5])), (q5, .inl (aC 2, 2052, .inr (.inl z_1.2))), (q6, .inl (aC 0, 32, .inl states)), (q7, .inr (0, [.ref q8, .int p_length])), (q8, .inl (aC 1, p_n, .inl p_bytes))] H := hP
      have hD : va_D A [(q0, .inr (2, [.ref q1, .ref q2, .ref q3, .ref q4, .ref q6, .int z_5.1, .int captureCount])), (q1, .inl (aC 0, 513, .inl z_5.2.1)), (q2, .inl (aC 0, 513, .inl z_5.2.2.1)), (q3, .inl (aC 0, 513, .inl z_5.2.2.2)), (q4, .inr (1, [.ref q5])), (q5, .inl (aC 2, 2052, .inr (.inl z_1.2))), (q6, .inl (aC 0, 32, .inl states)), (q7, .inr (0, [.ref q8, .int p_length])), (q8, .inl (aC 1, p_n, .inl p_bytes))] := hD
      refine W.eq (g2 := F0 m 88 ls []) rfl ?_
      have h_6 := pf_X2_add hp_0 hz_5
      refine lv_iload_n hx hb dX2_readRepeated_88 rfl (lv_at hl 0 rfl) ?_
      refine lv_iconst (v := 1) hx hb dX2_readRepeated_89 (by decide) ?_
      refine lv_iadd hx hb dX2_readRepeated_90 ?_
      subst hu
      exact k_iret hx hb hr hlocks hP hD hS rfl rfl dX2_readRepeated_91
    replace hu := hu.trans (if_neg c_4)
    by_cases c_7 : z_3 = 43
    · replace hu := hu.trans (if_pos c_7)
      refine lv_lookup (off := 66) (tgt := 92) hx hb dX2_readRepeated_26 (by decide) (by rw [c_7]; decide) (by decide) ?_
      refine lv_aload_n hx hb dX2_readRepeated_92 rfl (lv_at hl 1 rfl) ?_
      refine lv_iconst (v := 2) hx hb dX2_readRepeated_93 (by decide) ?_
      refine lv_iconst (v := 1) hx hb dX2_readRepeated_94 (by decide) ?_
      refine lv_sipush (v := 4096) hx hb dX2_readRepeated_95 (by decide) ?_
      obtain ⟨z_8, hz_8⟩ : ∃ z, z = f_X2_add count kinds ones twos 2 1 4096 := ⟨_, rfl⟩
      replace hu := hu.trans (kb_of hz_8)
      refine k_callV (As := [.int 2, .int 1, .int 4096]) (rest := []) (wc := [(q0, .inr (2, [.ref q1, .ref q2, .ref q3, .ref q4, .ref q6, .int count, .int captureCount])), (q1, .inl (aC 0, 513, .inl kinds)), (q2, .inl (aC 0, 513, .inl ones)), (q3, .inl (aC 0, 513, .inl twos)), (q4, .inr (1, [.ref q5])), (q5, .inl (aC 2, 2052, .inr (.inl z_1.2))), (q6, .inl (aC 0, 32, .inl states))]) (wr := [(q7, .inr (0, [.ref q8, .int p_length])), (q8, .inl (aC 1, p_n, .inl p_bytes))]) (w1 := [(q0, .inr (2, [.ref q1, .ref q2, .ref q3, .ref q4, .ref q6, .int z_8.1, .int captureCount])), (q1, .inl (aC 0, 513, .inl z_8.2.1)), (q2, .inl (aC 0, 513, .inl z_8.2.2.1)), (q3, .inl (aC 0, 513, .inl z_8.2.2.2)), (q4, .inr (1, [.ref q5])), (q5, .inl (aC 2, 2052, .inr (.inl z_1.2))), (q6, .inl (aC 0, 32, .inl states))]) (wn := [(q0, .inr (2, [.ref q1, .ref q2, .ref q3, .ref q4, .ref q6, .int z_8.1, .int captureCount])), (q1, .inl (aC 0, 513, .inl z_8.2.1)), (q2, .inl (aC 0, 513, .inl z_8.2.2.1)), (q3, .inl (aC 0, 513, .inl z_8.2.2.2)), (q4, .inr (1, [.ref q5])), (q5, .inl (aC 2, 2052, .inr (.inl z_1.2))), (q6, .inl (aC 0, 32, .inl states)), (q7, .inr (0, [.ref q8, .int p_length])), (q8, .inl (aC 1, p_n, .inl p_bytes))]) ⟨hx, hb, hml, hown, hts⟩ (c_X2_add l DD aC tt q0 q1 q2 q3 q4 q5 q6  count captureCount kinds ones twos z_1.2 states 2 1 4096 hp_0 z_8 hz_8) (cwV 3 hts (gdV w_318 w_320 w_10 w_71 w_321) rfl rfl rfl (by decide +kernel) ⟨Nat.le_of_ble_eq_true rfl, Nat.le_of_ble_eq_true rfl⟩) hP hD hS hA hE [0, 1, 2, 3, 4, 5, 6] [7, 8] [2, 3, 4, 5, 6, 7, 8, 0, 1] rfl rfl rfl (by decide) (by decide) (by decide) (by decide) (ci := 2) (q0 := 0) rfl rfl rfl hl.1 rfl (Nat.le_of_ble_eq_true rfl) dX2_readRepeated_98 (fun H locs hP hD hS => ?_)
      have hP : va_P DD vwCl [(q0, .inr (2, [.ref q1, .ref q2, .ref q3, .ref q4, .ref q6, .int z_8.1, .int captureCount])), (q1, .inl (aC 0, 513, .inl z_8.2.1)), (q2, .inl (aC 0, 513, .inl z_8.2.2.1)), (q3, .inl (aC 0, 513, .inl z_8.2.2.2)), (q4, .inr (1, [.ref q5])), (q5, .inl (aC 2, 2052, .inr (.inl z_1.2))), (q6, .inl (aC 0, 32, .inl states)), (q7, .inr (0, [.ref q8, .int p_length])), (q8, .inl (aC 1, p_n, .inl p_bytes))] H := hP
      have hD : va_D A [(q0, .inr (2, [.ref q1, .ref q2, .ref q3, .ref q4, .ref q6, .int z_8.1, .int captureCount])), (q1, .inl (aC 0, 513, .inl z_8.2.1)), (q2, .inl (aC 0, 513, .inl z_8.2.2.1)), (q3, .inl (aC 0, 513, .inl z_8.2.2.2)), (q4, .inr (1, [.ref q5])), (q5, .inl (aC 2, 2052, .inr (.inl z_1.2))), (q6, .inl (aC 0, 32, .inl states)), (q7, .inr (0, [.ref q8, .int p_length])), (q8, .inl (aC 1, p_n, .inl p_bytes))] := hD
      refine W.eq (g2 := F0 m 101 ls []) rfl ?_
      have h_9 := pf_X2_add hp_0 hz_8
      refine lv_iload_n hx hb dX2_readRepeated_101 rfl (lv_at hl 0 rfl) ?_
      refine lv_iconst (v := 1) hx hb dX2_readRepeated_102 (by decide) ?_
      refine lv_iadd hx hb dX2_readRepeated_103 ?_
      subst hu
      exact k_iret hx hb hr hlocks hP hD hS rfl rfl dX2_readRepeated_104
    replace hu := hu.trans (if_neg c_7)
    by_cases c_10 : z_3 = 45
    · replace hu := hu.trans (if_pos c_10)
      refine lv_lookup (off := 79) (tgt := 105) hx hb dX2_readRepeated_26 (by decide) (by rw [c_10]; decide) (by decide) ?_
      refine lv_aload_n hx hb dX2_readRepeated_105 rfl (lv_at hl 1 rfl) ?_
      refine lv_iconst (v := 3) hx hb dX2_readRepeated_106 (by decide) ?_
      refine lv_iconst (v := 0) hx hb dX2_readRepeated_107 (by decide) ?_
      refine lv_iconst (v := 0) hx hb dX2_readRepeated_108 (by decide) ?_
      obtain ⟨z_11, hz_11⟩ : ∃ z, z = f_X2_add count kinds ones twos 3 0 0 := ⟨_, rfl⟩
      replace hu := hu.trans (kb_of hz_11)
      refine k_callV (As := [.int 3, .int 0, .int 0]) (rest := []) (wc := [(q0, .inr (2, [.ref q1, .ref q2, .ref q3, .ref q4, .ref q6, .int count, .int captureCount])), (q1, .inl (aC 0, 513, .inl kinds)), (q2, .inl (aC 0, 513, .inl ones)), (q3, .inl (aC 0, 513, .inl twos)), (q4, .inr (1, [.ref q5])), (q5, .inl (aC 2, 2052, .inr (.inl z_1.2))), (q6, .inl (aC 0, 32, .inl states))]) (wr := [(q7, .inr (0, [.ref q8, .int p_length])), (q8, .inl (aC 1, p_n, .inl p_bytes))]) (w1 := [(q0, .inr (2, [.ref q1, .ref q2, .ref q3, .ref q4, .ref q6, .int z_11.1, .int captureCount])), (q1, .inl (aC 0, 513, .inl z_11.2.1)), (q2, .inl (aC 0, 513, .inl z_11.2.2.1)), (q3, .inl (aC 0, 513, .inl z_11.2.2.2)), (q4, .inr (1, [.ref q5])), (q5, .inl (aC 2, 2052, .inr (.inl z_1.2))), (q6, .inl (aC 0, 32, .inl states))]) (wn := [(q0, .inr (2, [.ref q1, .ref q2, .ref q3, .ref q4, .ref q6, .int z_11.1, .int captureCount])), (q1, .inl (aC 0, 513, .inl z_11.2.1)), (q2, .inl (aC 0, 513, .inl z_11.2.2.1)), (q3, .inl (aC 0, 513, .inl z_11.2.2.2)), (q4, .inr (1, [.ref q5])), (q5, .inl (aC 2, 2052, .inr (.inl z_1.2))), (q6, .inl (aC 0, 32, .inl states)), (q7, .inr (0, [.ref q8, .int p_length])), (q8, .inl (aC 1, p_n, .inl p_bytes))]) ⟨hx, hb, hml, hown, hts⟩ (c_X2_add l DD aC tt q0 q1 q2 q3 q4 q5 q6  count captureCount kinds ones twos z_1.2 states 3 0 0 hp_0 z_11 hz_11) (cwV 3 hts (gdV w_318 w_320 w_10 w_71 w_321) rfl rfl rfl (by decide +kernel) ⟨Nat.le_of_ble_eq_true rfl, Nat.le_of_ble_eq_true rfl⟩) hP hD hS hA hE [0, 1, 2, 3, 4, 5, 6] [7, 8] [2, 3, 4, 5, 6, 7, 8, 0, 1] rfl rfl rfl (by decide) (by decide) (by decide) (by decide) (ci := 2) (q0 := 0) rfl rfl rfl hl.1 rfl (Nat.le_of_ble_eq_true rfl) dX2_readRepeated_109 (fun H locs hP hD hS => ?_)
      have hP : va_P DD vwCl [(q0, .inr (2, [.ref q1, .ref q2, .ref q3, .ref q4, .ref q6, .int z_11.1, .int captureCount])), (q1, .inl (aC 0, 513, .inl z_11.2.1)), (q2, .inl (aC 0, 513, .inl z_11.2.2.1)), (q3, .inl (aC 0, 513, .inl z_11.2.2.2)), (q4, .inr (1, [.ref q5])), (q5, .inl (aC 2, 2052, .inr (.inl z_1.2))), (q6, .inl (aC 0, 32, .inl states)), (q7, .inr (0, [.ref q8, .int p_length])), (q8, .inl (aC 1, p_n, .inl p_bytes))] H := hP
      have hD : va_D A [(q0, .inr (2, [.ref q1, .ref q2, .ref q3, .ref q4, .ref q6, .int z_11.1, .int captureCount])), (q1, .inl (aC 0, 513, .inl z_11.2.1)), (q2, .inl (aC 0, 513, .inl z_11.2.2.1)), (q3, .inl (aC 0, 513, .inl z_11.2.2.2)), (q4, .inr (1, [.ref q5])), (q5, .inl (aC 2, 2052, .inr (.inl z_1.2))), (q6, .inl (aC 0, 32, .inl states)), (q7, .inr (0, [.ref q8, .int p_length])), (q8, .inl (aC 1, p_n, .inl p_bytes))] := hD
      refine W.eq (g2 := F0 m 112 ls []) rfl ?_
      have h_12 := pf_X2_add hp_0 hz_11
      refine lv_iload_n hx hb dX2_readRepeated_112 rfl (lv_at hl 0 rfl) ?_
      refine lv_iconst (v := 1) hx hb dX2_readRepeated_113 (by decide) ?_
      refine lv_iadd hx hb dX2_readRepeated_114 ?_
      subst hu
      exact k_iret hx hb hr hlocks hP hD hS rfl rfl dX2_readRepeated_115
    replace hu := hu.trans (if_neg c_10)
    by_cases c_13 : z_3 = 63
    · replace hu := hu.trans (if_pos c_13)
      refine lv_lookup (off := 42) (tgt := 68) hx hb dX2_readRepeated_26 (by decide) (by rw [c_13]; decide) (by decide) ?_
      refine lv_aload_n hx hb dX2_readRepeated_68 rfl (lv_at hl 1 rfl) ?_
      refine lv_iconst (v := 2) hx hb dX2_readRepeated_69 (by decide) ?_
      refine lv_iconst (v := 0) hx hb dX2_readRepeated_70 (by decide) ?_
      refine lv_iconst (v := 1) hx hb dX2_readRepeated_71 (by decide) ?_
      obtain ⟨z_14, hz_14⟩ : ∃ z, z = f_X2_add count kinds ones twos 2 0 1 := ⟨_, rfl⟩
      replace hu := hu.trans (kb_of hz_14)
      refine k_callV (As := [.int 2, .int 0, .int 1]) (rest := []) (wc := [(q0, .inr (2, [.ref q1, .ref q2, .ref q3, .ref q4, .ref q6, .int count, .int captureCount])), (q1, .inl (aC 0, 513, .inl kinds)), (q2, .inl (aC 0, 513, .inl ones)), (q3, .inl (aC 0, 513, .inl twos)), (q4, .inr (1, [.ref q5])), (q5, .inl (aC 2, 2052, .inr (.inl z_1.2))), (q6, .inl (aC 0, 32, .inl states))]) (wr := [(q7, .inr (0, [.ref q8, .int p_length])), (q8, .inl (aC 1, p_n, .inl p_bytes))]) (w1 := [(q0, .inr (2, [.ref q1, .ref q2, .ref q3, .ref q4, .ref q6, .int z_14.1, .int captureCount])), (q1, .inl (aC 0, 513, .inl z_14.2.1)), (q2, .inl (aC 0, 513, .inl z_14.2.2.1)), (q3, .inl (aC 0, 513, .inl z_14.2.2.2)), (q4, .inr (1, [.ref q5])), (q5, .inl (aC 2, 2052, .inr (.inl z_1.2))), (q6, .inl (aC 0, 32, .inl states))]) (wn := [(q0, .inr (2, [.ref q1, .ref q2, .ref q3, .ref q4, .ref q6, .int z_14.1, .int captureCount])), (q1, .inl (aC 0, 513, .inl z_14.2.1)), (q2, .inl (aC 0, 513, .inl z_14.2.2.1)), (q3, .inl (aC 0, 513, .inl z_14.2.2.2)), (q4, .inr (1, [.ref q5])), (q5, .inl (aC 2, 2052, .inr (.inl z_1.2))), (q6, .inl (aC 0, 32, .inl states)), (q7, .inr (0, [.ref q8, .int p_length])), (q8, .inl (aC 1, p_n, .inl p_bytes))]) ⟨hx, hb, hml, hown, hts⟩ (c_X2_add l DD aC tt q0 q1 q2 q3 q4 q5 q6  count captureCount kinds ones twos z_1.2 states 2 0 1 hp_0 z_14 hz_14) (cwV 3 hts (gdV w_318 w_320 w_10 w_71 w_321) rfl rfl rfl (by decide +kernel) ⟨Nat.le_of_ble_eq_true rfl, Nat.le_of_ble_eq_true rfl⟩) hP hD hS hA hE [0, 1, 2, 3, 4, 5, 6] [7, 8] [2, 3, 4, 5, 6, 7, 8, 0, 1] rfl rfl rfl (by decide) (by decide) (by decide) (by decide) (ci := 2) (q0 := 0) rfl rfl rfl hl.1 rfl (Nat.le_of_ble_eq_true rfl) dX2_readRepeated_72 (fun H locs hP hD hS => ?_)
      have hP : va_P DD vwCl [(q0, .inr (2, [.ref q1, .ref q2, .ref q3, .ref q4, .ref q6, .int z_14.1, .int captureCount])), (q1, .inl (aC 0, 513, .inl z_14.2.1)), (q2, .inl (aC 0, 513, .inl z_14.2.2.1)), (q3, .inl (aC 0, 513, .inl z_14.2.2.2)), (q4, .inr (1, [.ref q5])), (q5, .inl (aC 2, 2052, .inr (.inl z_1.2))), (q6, .inl (aC 0, 32, .inl states)), (q7, .inr (0, [.ref q8, .int p_length])), (q8, .inl (aC 1, p_n, .inl p_bytes))] H := hP
      have hD : va_D A [(q0, .inr (2, [.ref q1, .ref q2, .ref q3, .ref q4, .ref q6, .int z_14.1, .int captureCount])), (q1, .inl (aC 0, 513, .inl z_14.2.1)), (q2, .inl (aC 0, 513, .inl z_14.2.2.1)), (q3, .inl (aC 0, 513, .inl z_14.2.2.2)), (q4, .inr (1, [.ref q5])), (q5, .inl (aC 2, 2052, .inr (.inl z_1.2))), (q6, .inl (aC 0, 32, .inl states)), (q7, .inr (0, [.ref q8, .int p_length])), (q8, .inl (aC 1, p_n, .inl p_bytes))] := hD
      refine W.eq (g2 := F0 m 75 ls []) rfl ?_
      have h_15 := pf_X2_add hp_0 hz_14
      refine lv_iload_n hx hb dX2_readRepeated_75 rfl (lv_at hl 0 rfl) ?_
      refine lv_iconst (v := 1) hx hb dX2_readRepeated_76 (by decide) ?_
      refine lv_iadd hx hb dX2_readRepeated_77 ?_
      subst hu
      exact k_iret hx hb hr hlocks hP hD hS rfl rfl dX2_readRepeated_78
    replace hu := hu.trans (if_neg c_13)
    refine lv_lookup (off := 90) (tgt := 116) hx hb dX2_readRepeated_26 (by decide) (by exact (lv_osw c_4 (by decide)).trans ((lv_osw c_7 (by decide)).trans ((lv_osw c_10 (by decide)).trans ((lv_osw c_13 (by decide)).trans (rfl))))) (by decide) ?_
    refine lv_aload_n hx hb dX2_readRepeated_116 rfl (lv_at hl 1 rfl) ?_
    refine lv_iconst (v := 2) hx hb dX2_readRepeated_117 (by decide) ?_
    refine lv_iconst (v := 1) hx hb dX2_readRepeated_118 (by decide) ?_
    refine lv_iconst (v := 1) hx hb dX2_readRepeated_119 (by decide) ?_
    obtain ⟨z_16, hz_16⟩ : ∃ z, z = f_X2_add count kinds ones twos 2 1 1 := ⟨_, rfl⟩
    replace hu := hu.trans (kb_of hz_16)
    refine k_callV (As := [.int 2, .int 1, .int 1]) (rest := []) (wc := [(q0, .inr (2, [.ref q1, .ref q2, .ref q3, .ref q4, .ref q6, .int count, .int captureCount])), (q1, .inl (aC 0, 513, .inl kinds)), (q2, .inl (aC 0, 513, .inl ones)), (q3, .inl (aC 0, 513, .inl twos)), (q4, .inr (1, [.ref q5])), (q5, .inl (aC 2, 2052, .inr (.inl z_1.2))), (q6, .inl (aC 0, 32, .inl states))]) (wr := [(q7, .inr (0, [.ref q8, .int p_length])), (q8, .inl (aC 1, p_n, .inl p_bytes))]) (w1 := [(q0, .inr (2, [.ref q1, .ref q2, .ref q3, .ref q4, .ref q6, .int z_16.1, .int captureCount])), (q1, .inl (aC 0, 513, .inl z_16.2.1)), (q2, .inl (aC 0, 513, .inl z_16.2.2.1)), (q3, .inl (aC 0, 513, .inl z_16.2.2.2)), (q4, .inr (1, [.ref q5])), (q5, .inl (aC 2, 2052, .inr (.inl z_1.2))), (q6, .inl (aC 0, 32, .inl states))]) (wn := [(q0, .inr (2, [.ref q1, .ref q2, .ref q3, .ref q4, .ref q6, .int z_16.1, .int captureCount])), (q1, .inl (aC 0, 513, .inl z_16.2.1)), (q2, .inl (aC 0, 513, .inl z_16.2.2.1)), (q3, .inl (aC 0, 513, .inl z_16.2.2.2)), (q4, .inr (1, [.ref q5])), (q5, .inl (aC 2, 2052, .inr (.inl z_1.2))), (q6, .inl (aC 0, 32, .inl states)), (q7, .inr (0, [.ref q8, .int p_length])), (q8, .inl (aC 1, p_n, .inl p_bytes))]) ⟨hx, hb, hml, hown, hts⟩ (c_X2_add l DD aC tt q0 q1 q2 q3 q4 q5 q6  count captureCount kinds ones twos z_1.2 states 2 1 1 hp_0 z_16 hz_16) (cwV 3 hts (gdV w_318 w_320 w_10 w_71 w_321) rfl rfl rfl (by decide +kernel) ⟨Nat.le_of_ble_eq_true rfl, Nat.le_of_ble_eq_true rfl⟩) hP hD hS hA hE [0, 1, 2, 3, 4, 5, 6] [7, 8] [2, 3, 4, 5, 6, 7, 8, 0, 1] rfl rfl rfl (by decide) (by decide) (by decide) (by decide) (ci := 2) (q0 := 0) rfl rfl rfl hl.1 rfl (Nat.le_of_ble_eq_true rfl) dX2_readRepeated_120 (fun H locs hP hD hS => ?_)
    have hP : va_P DD vwCl [(q0, .inr (2, [.ref q1, .ref q2, .ref q3, .ref q4, .ref q6, .int z_16.1, .int captureCount])), (q1, .inl (aC 0, 513, .inl z_16.2.1)), (q2, .inl (aC 0, 513, .inl z_16.2.2.1)), (q3, .inl (aC 0, 513, .inl z_16.2.2.2)), (q4, .inr (1, [.ref q5])), (q5, .inl (aC 2, 2052, .inr (.inl z_1.2))), (q6, .inl (aC 0, 32, .inl states)), (q7, .inr (0, [.ref q8, .int p_length])), (q8, .inl (aC 1, p_n, .inl p_bytes))] H := hP
    have hD : va_D A [(q0, .inr (2, [.ref q1, .ref q2, .ref q3, .ref q4, .ref q6, .int z_16.1, .int captureCount])), (q1, .inl (aC 0, 513, .inl z_16.2.1)), (q2, .inl (aC 0, 513, .inl z_16.2.2.1)), (q3, .inl (aC 0, 513, .inl z_16.2.2.2)), (q4, .inr (1, [.ref q5])), (q5, .inl (aC 2, 2052, .inr (.inl z_1.2))), (q6, .inl (aC 0, 32, .inl states)), (q7, .inr (0, [.ref q8, .int p_length])), (q8, .inl (aC 1, p_n, .inl p_bytes))] := hD
    refine W.eq (g2 := F0 m 123 ls []) rfl ?_
    have h_17 := pf_X2_add hp_0 hz_16
    refine lv_iload_n hx hb dX2_readRepeated_123 rfl (lv_at hl 0 rfl) ?_
    subst hu
    exact k_iret hx hb hr hlocks hP hD hS rfl rfl dX2_readRepeated_124
  · replace hu := hu.trans (if_pos c_2)
    refine lv_iconst (v := (-1)) hx hb dX2_readRepeated_19 (by decide) ?_
    subst hu
    exact k_iret hx hb hr hlocks hP hD hS rfl rfl dX2_readRepeated_20
def f_X2_readSpecial (count : Int32) (captureCount : Int32) (kinds : Nat → Int32) (ones : Nat → Int32) (twos : Nat → Int32) (sets_words : Nat → Int64) (states : Nat → Int32) (p_length : Int32) (p_bytes : Nat → Int32) (a1 : Int32) (a3 : Int32) : Int32 × Int32 × Int32 × (Nat → Int32) × (Nat → Int32) × (Nat → Int32) × (Nat → Int64) × (Nat → Int32) := (if a1 = 4 then (kb (f_X2_readOpening count captureCount kinds ones twos states 4 (a3 + 1)) (fun z_2 => (z_2.1, z_2.2.1, z_2.2.2.1, z_2.2.2.2.1, z_2.2.2.2.2.1, z_2.2.2.2.2.2.1, sets_words, z_2.2.2.2.2.2.2))) else (if a1 = 5 then (kb (f_X2_readClosing count captureCount kinds ones twos states (a3 + 1)) (fun z_5 => (z_5.1, z_5.2.1, captureCount, z_5.2.2.1, z_5.2.2.2.1, z_5.2.2.2.2.1, sets_words, z_5.2.2.2.2.2))) else (if a1 = 6 then (kb (f_X2_readOpening count captureCount kinds ones twos states 6 (a3 + 2)) (fun z_8 => (z_8.1, z_8.2.1, z_8.2.2.1, z_8.2.2.2.1, z_8.2.2.2.2.1, z_8.2.2.2.2.2.1, sets_words, z_8.2.2.2.2.2.2))) else (if a1 = 7 then (kb (f_X0_at p_length p_bytes (a3 + 1)) (fun z_11 => (kb (f_X2_readSame count captureCount kinds ones twos states (z_11 - 49) (a3 + 2)) (fun z_12 => (z_12.1, z_12.2.1, captureCount, z_12.2.2.1, z_12.2.2.2.1, z_12.2.2.2.2, sets_words, states))))) else (if a1 = 8 then (kb (f_X2_readPair count kinds ones twos p_length p_bytes (a3 + 2)) (fun z_15 => (z_15.1, z_15.2.1, captureCount, z_15.2.2.1, z_15.2.2.2.1, z_15.2.2.2.2, sets_words, states))) else (if a1 = 9 then (kb (f_X2_readBorder count kinds ones twos sets_words p_length p_bytes (a3 + 2)) (fun z_18 => (z_18.1, z_18.2.1, captureCount, z_18.2.2.1, z_18.2.2.2.1, z_18.2.2.2.2.1, z_18.2.2.2.2.2, states))) else (kb (f_X2_add count kinds ones twos 10 0 0) (fun z_20 => (a3 + 1, z_20.1, captureCount, z_20.2.1, z_20.2.2.1, z_20.2.2.2, sets_words, states)))))))))
set_option maxHeartbeats 4000000 in
theorem pf_X2_readSpecial {p_n : Nat} {count : Int32} {captureCount : Int32} {kinds : Nat → Int32} {ones : Nat → Int32} {twos : Nat → Int32} {sets_words : Nat → Int64} {states : Nat → Int32} {p_length : Int32} {p_bytes : Nat → Int32} {a1 : Int32} {a3 : Int32} (hp_0 : 0 ≤ count.toInt) (hp_1 : 0 ≤ captureCount.toInt) (hp_2 : p_length.toInt ≤ p_n) (hp_3 : p_n < 1073741824) {u : Int32 × Int32 × Int32 × (Nat → Int32) × (Nat → Int32) × (Nat → Int32) × (Nat → Int64) × (Nat → Int32)} (hu : u = f_X2_readSpecial count captureCount kinds ones twos sets_words states p_length p_bytes a1 a3) : 0 ≤ u.2.1.toInt ∧ 0 ≤ u.2.2.1.toInt := by
  unfold f_X2_readSpecial at hu
  by_cases c_1 : a1 = 4
  · replace hu := hu.trans (if_pos c_1)
    obtain ⟨z_2, hz_2⟩ : ∃ z, z = f_X2_readOpening count captureCount kinds ones twos states 4 (a3 + 1) := ⟨_, rfl⟩
    replace hu := hu.trans (kb_of hz_2)
    have h_3 := pf_X2_readOpening hp_0 hp_1 hz_2
    rw [hu]
    exact show 0 ≤ z_2.2.1.toInt ∧ 0 ≤ z_2.2.2.1.toInt from ⟨h_3.1, h_3.2⟩
  replace hu := hu.trans (if_neg c_1)
  by_cases c_4 : a1 = 5
  · replace hu := hu.trans (if_pos c_4)
    obtain ⟨z_5, hz_5⟩ : ∃ z, z = f_X2_readClosing count captureCount kinds ones twos states (a3 + 1) := ⟨_, rfl⟩
    replace hu := hu.trans (kb_of hz_5)
    have h_6 := pf_X2_readClosing hp_0 hp_1 hz_5
    rw [hu]
    exact show 0 ≤ z_5.2.1.toInt ∧ 0 ≤ captureCount.toInt from ⟨h_6, hp_1⟩
  replace hu := hu.trans (if_neg c_4)
  by_cases c_7 : a1 = 6
  · replace hu := hu.trans (if_pos c_7)
    obtain ⟨z_8, hz_8⟩ : ∃ z, z = f_X2_readOpening count captureCount kinds ones twos states 6 (a3 + 2) := ⟨_, rfl⟩
    replace hu := hu.trans (kb_of hz_8)
    have h_9 := pf_X2_readOpening hp_0 hp_1 hz_8
    rw [hu]
    exact show 0 ≤ z_8.2.1.toInt ∧ 0 ≤ z_8.2.2.1.toInt from ⟨h_9.1, h_9.2⟩
  replace hu := hu.trans (if_neg c_7)
  by_cases c_10 : a1 = 7
  · replace hu := hu.trans (if_pos c_10)
    obtain ⟨z_11, hz_11⟩ : ∃ z, z = f_X0_at p_length p_bytes (a3 + 1) := ⟨_, rfl⟩
    replace hu := hu.trans (kb_of hz_11)
    obtain ⟨z_12, hz_12⟩ : ∃ z, z = f_X2_readSame count captureCount kinds ones twos states (z_11 - 49) (a3 + 2) := ⟨_, rfl⟩
    replace hu := hu.trans (kb_of hz_12)
    have h_13 := pf_X2_readSame hp_0 hz_12
    rw [hu]
    exact show 0 ≤ z_12.2.1.toInt ∧ 0 ≤ captureCount.toInt from ⟨h_13, hp_1⟩
  replace hu := hu.trans (if_neg c_10)
  by_cases c_14 : a1 = 8
  · replace hu := hu.trans (if_pos c_14)
    obtain ⟨z_15, hz_15⟩ : ∃ z, z = f_X2_readPair count kinds ones twos p_length p_bytes (a3 + 2) := ⟨_, rfl⟩
    replace hu := hu.trans (kb_of hz_15)
    have h_16 := pf_X2_readPair hp_0 hp_2 hz_15
    rw [hu]
    exact show 0 ≤ z_15.2.1.toInt ∧ 0 ≤ captureCount.toInt from ⟨h_16, hp_1⟩
  replace hu := hu.trans (if_neg c_14)
  by_cases c_17 : a1 = 9
  · replace hu := hu.trans (if_pos c_17)
    obtain ⟨z_18, hz_18⟩ : ∃ z, z = f_X2_readBorder count kinds ones twos sets_words p_length p_bytes (a3 + 2) := ⟨_, rfl⟩
    replace hu := hu.trans (kb_of hz_18)
    have h_19 := pf_X2_readBorder hp_0 hp_2 hp_3 hz_18
    rw [hu]
    exact show 0 ≤ z_18.2.1.toInt ∧ 0 ≤ captureCount.toInt from ⟨h_19, hp_1⟩
  replace hu := hu.trans (if_neg c_17)
  obtain ⟨z_20, hz_20⟩ : ∃ z, z = f_X2_add count kinds ones twos 10 0 0 := ⟨_, rfl⟩
  replace hu := hu.trans (kb_of hz_20)
  have h_21 := pf_X2_add hp_0 hz_20
  rw [hu]
  exact show 0 ≤ z_20.1.toInt ∧ 0 ≤ captureCount.toInt from ⟨h_21, hp_1⟩
abbrev rm_X2_readSpecial : Room := { frames := 5, cells := 0, slots := 0, locals := 129 }
set_option maxHeartbeats 4000000 in
set_option maxRecDepth 100000 in
theorem c_X2_readSpecial (l : Launch) (DD : va_G) (aC : Nat → ClassId) (tt : Nat → Nat) (q0 q1 q2 q3 q4 q5 q6 q7 q8 p_n : Nat) (count : Int32) (captureCount : Int32) (kinds : Nat → Int32) (ones : Nat → Int32) (twos : Nat → Int32) (sets_words : Nat → Int64) (states : Nat → Int32) (p_length : Int32) (p_bytes : Nat → Int32) (a1 : Int32) (a3 : Int32) (hp_0 : 0 ≤ count.toInt) (hp_1 : 0 ≤ captureCount.toInt) (hp_2 : p_length.toInt ≤ p_n) (hp_3 : p_n < 1073741824) (u : Int32 × Int32 × Int32 × (Nat → Int32) × (Nat → Int32) × (Nat → Int32) × (Nat → Int64) × (Nat → Int32)) (hu : u = f_X2_readSpecial count captureCount kinds ones twos sets_words states p_length p_bytes a1 a3) : kM l yX2_readSpecial wsX2_readSpecial rm_X2_readSpecial DD aC tt [.ref q0, .int a1, .ref q7, .int a3] [(q0, .inr (2, [.ref q1, .ref q2, .ref q3, .ref q4, .ref q6, .int count, .int captureCount])), (q1, .inl (aC 0, 513, .inl kinds)), (q2, .inl (aC 0, 513, .inl ones)), (q3, .inl (aC 0, 513, .inl twos)), (q4, .inr (1, [.ref q5])), (q5, .inl (aC 2, 2052, .inr (.inl sets_words))), (q6, .inl (aC 0, 32, .inl states)), (q7, .inr (0, [.ref q8, .int p_length])), (q8, .inl (aC 1, p_n, .inl p_bytes))] (some (.int u.1)) [(q0, .inr (2, [.ref q1, .ref q2, .ref q3, .ref q4, .ref q6, .int u.2.1, .int u.2.2.1])), (q1, .inl (aC 0, 513, .inl u.2.2.2.1)), (q2, .inl (aC 0, 513, .inl u.2.2.2.2.1)), (q3, .inl (aC 0, 513, .inl u.2.2.2.2.2.1)), (q4, .inr (1, [.ref q5])), (q5, .inl (aC 2, 2052, .inr (.inl u.2.2.2.2.2.2.1))), (q6, .inl (aC 0, 32, .inl u.2.2.2.2.2.2.2)), (q7, .inr (0, [.ref q8, .int p_length])), (q8, .inl (aC 1, p_n, .inl p_bytes))] := by
  refine k_start (cc := cX2_readSpecial) (maxL := 4) (ret := (some .int)) (own := RX2) (lv0 := [(0, .ref q0), (1, .int a1), (2, .ref q7), (3, .int a3)]) (by decide) rfl rfl (Nat.le_of_ble_eq_true rfl) rfl (fun p e s m below meth c A ls X hP hD hS hl => ?_)
  obtain ⟨hx, hb, hr, hml, hts, hown, hlocks, hA, hE⟩ := id X
  unfold f_X2_readSpecial at hu
  refine lv_iload_n hx hb dX2_readSpecial_0 rfl (lv_at hl 1 rfl) ?_
  by_cases c_1 : a1 = 4
  · replace hu := hu.trans (if_pos c_1)
    refine lv_tableIn (off := 39) (tgt := 40) hx hb dX2_readSpecial_1 (by rw [c_1]; decide) (by rw [c_1]; decide) (by rw [c_1]; decide) (by decide) ?_
    refine lv_aload_n hx hb dX2_readSpecial_40 rfl (lv_at hl 0 rfl) ?_
    refine lv_iconst (v := 4) hx hb dX2_readSpecial_41 (by decide) ?_
    refine lv_iload_n hx hb dX2_readSpecial_42 rfl (lv_at hl 3 rfl) ?_
    refine lv_iconst (v := 1) hx hb dX2_readSpecial_43 (by decide) ?_
    refine lv_iadd hx hb dX2_readSpecial_44 ?_
    obtain ⟨z_2, hz_2⟩ : ∃ z, z = f_X2_readOpening count captureCount kinds ones twos states 4 (a3 + 1) := ⟨_, rfl⟩
    replace hu := hu.trans (kb_of hz_2)
    refine k_callV (As := [.int 4, .int (a3 + 1)]) (rest := []) (wc := [(q0, .inr (2, [.ref q1, .ref q2, .ref q3, .ref q4, .ref q6, .int count, .int captureCount])), (q1, .inl (aC 0, 513, .inl kinds)), (q2, .inl (aC 0, 513, .inl ones)), (q3, .inl (aC 0, 513, .inl twos)), (q4, .inr (1, [.ref q5])), (q5, .inl (aC 2, 2052, .inr (.inl sets_words))), (q6, .inl (aC 0, 32, .inl states))]) (wr := [(q7, .inr (0, [.ref q8, .int p_length])), (q8, .inl (aC 1, p_n, .inl p_bytes))]) (w1 := [(q0, .inr (2, [.ref q1, .ref q2, .ref q3, .ref q4, .ref q6, .int z_2.2.1, .int z_2.2.2.1])), (q1, .inl (aC 0, 513, .inl z_2.2.2.2.1)), (q2, .inl (aC 0, 513, .inl z_2.2.2.2.2.1)), (q3, .inl (aC 0, 513, .inl z_2.2.2.2.2.2.1)), (q4, .inr (1, [.ref q5])), (q5, .inl (aC 2, 2052, .inr (.inl sets_words))), (q6, .inl (aC 0, 32, .inl z_2.2.2.2.2.2.2))]) (wn := [(q0, .inr (2, [.ref q1, .ref q2, .ref q3, .ref q4, .ref q6, .int z_2.2.1, .int z_2.2.2.1])), (q1, .inl (aC 0, 513, .inl z_2.2.2.2.1)), (q2, .inl (aC 0, 513, .inl z_2.2.2.2.2.1)), (q3, .inl (aC 0, 513, .inl z_2.2.2.2.2.2.1)), (q4, .inr (1, [.ref q5])), (q5, .inl (aC 2, 2052, .inr (.inl sets_words))), (q6, .inl (aC 0, 32, .inl z_2.2.2.2.2.2.2)), (q7, .inr (0, [.ref q8, .int p_length])), (q8, .inl (aC 1, p_n, .inl p_bytes))]) ⟨hx, hb, hml, hown, hts⟩ (c_X2_readOpening l DD aC tt q0 q1 q2 q3 q4 q5 q6  count captureCount kinds ones twos sets_words states 4 (a3 + 1) hp_0 hp_1 z_2 hz_2) (cwV 2 hts (gdV w_326 w_328 w_12 w_71 w_329) rfl rfl rfl (by decide +kernel) ⟨Nat.le_of_ble_eq_true rfl, Nat.le_of_ble_eq_true rfl⟩) hP hD hS hA hE [0, 1, 2, 3, 4, 5, 6] [7, 8] [2, 3, 4, 5, 6, 7, 8, 0, 1] rfl rfl rfl (by decide) (by decide) (by decide) (by decide) (ci := 2) (q0 := 0) rfl rfl rfl hl.1 rfl (Nat.le_of_ble_eq_true rfl) dX2_readSpecial_45 (fun H locs hP hD hS => ?_)
    have hP : va_P DD vwCl [(q0, .inr (2, [.ref q1, .ref q2, .ref q3, .ref q4, .ref q6, .int z_2.2.1, .int z_2.2.2.1])), (q1, .inl (aC 0, 513, .inl z_2.2.2.2.1)), (q2, .inl (aC 0, 513, .inl z_2.2.2.2.2.1)), (q3, .inl (aC 0, 513, .inl z_2.2.2.2.2.2.1)), (q4, .inr (1, [.ref q5])), (q5, .inl (aC 2, 2052, .inr (.inl sets_words))), (q6, .inl (aC 0, 32, .inl z_2.2.2.2.2.2.2)), (q7, .inr (0, [.ref q8, .int p_length])), (q8, .inl (aC 1, p_n, .inl p_bytes))] H := hP
    have hD : va_D A [(q0, .inr (2, [.ref q1, .ref q2, .ref q3, .ref q4, .ref q6, .int z_2.2.1, .int z_2.2.2.1])), (q1, .inl (aC 0, 513, .inl z_2.2.2.2.1)), (q2, .inl (aC 0, 513, .inl z_2.2.2.2.2.1)), (q3, .inl (aC 0, 513, .inl z_2.2.2.2.2.2.1)), (q4, .inr (1, [.ref q5])), (q5, .inl (aC 2, 2052, .inr (.inl sets_words))), (q6, .inl (aC 0, 32, .inl z_2.2.2.2.2.2.2)), (q7, .inr (0, [.ref q8, .int p_length])), (q8, .inl (aC 1, p_n, .inl p_bytes))] := hD
    refine W.eq (g2 := F0 m 48 ls [.int z_2.1]) rfl ?_
    have h_3 := pf_X2_readOpening hp_0 hp_1 hz_2
    subst hu
    exact k_iret hx hb hr hlocks hP hD hS rfl rfl dX2_readSpecial_48
  replace hu := hu.trans (if_neg c_1)
  by_cases c_4 : a1 = 5
  · replace hu := hu.trans (if_pos c_4)
    refine lv_tableIn (off := 58) (tgt := 59) hx hb dX2_readSpecial_1 (by rw [c_4]; decide) (by rw [c_4]; decide) (by rw [c_4]; decide) (by decide) ?_
    refine lv_aload_n hx hb dX2_readSpecial_59 rfl (lv_at hl 0 rfl) ?_
    refine lv_iload_n hx hb dX2_readSpecial_60 rfl (lv_at hl 3 rfl) ?_
    refine lv_iconst (v := 1) hx hb dX2_readSpecial_61 (by decide) ?_
    refine lv_iadd hx hb dX2_readSpecial_62 ?_
    obtain ⟨z_5, hz_5⟩ : ∃ z, z = f_X2_readClosing count captureCount kinds ones twos states (a3 + 1) := ⟨_, rfl⟩
    replace hu := hu.trans (kb_of hz_5)
    refine k_callV (As := [.int (a3 + 1)]) (rest := []) (wc := [(q0, .inr (2, [.ref q1, .ref q2, .ref q3, .ref q4, .ref q6, .int count, .int captureCount])), (q1, .inl (aC 0, 513, .inl kinds)), (q2, .inl (aC 0, 513, .inl ones)), (q3, .inl (aC 0, 513, .inl twos)), (q4, .inr (1, [.ref q5])), (q5, .inl (aC 2, 2052, .inr (.inl sets_words))), (q6, .inl (aC 0, 32, .inl states))]) (wr := [(q7, .inr (0, [.ref q8, .int p_length])), (q8, .inl (aC 1, p_n, .inl p_bytes))]) (w1 := [(q0, .inr (2, [.ref q1, .ref q2, .ref q3, .ref q4, .ref q6, .int z_5.2.1, .int captureCount])), (q1, .inl (aC 0, 513, .inl z_5.2.2.1)), (q2, .inl (aC 0, 513, .inl z_5.2.2.2.1)), (q3, .inl (aC 0, 513, .inl z_5.2.2.2.2.1)), (q4, .inr (1, [.ref q5])), (q5, .inl (aC 2, 2052, .inr (.inl sets_words))), (q6, .inl (aC 0, 32, .inl z_5.2.2.2.2.2))]) (wn := [(q0, .inr (2, [.ref q1, .ref q2, .ref q3, .ref q4, .ref q6, .int z_5.2.1, .int captureCount])), (q1, .inl (aC 0, 513, .inl z_5.2.2.1)), (q2, .inl (aC 0, 513, .inl z_5.2.2.2.1)), (q3, .inl (aC 0, 513, .inl z_5.2.2.2.2.1)), (q4, .inr (1, [.ref q5])), (q5, .inl (aC 2, 2052, .inr (.inl sets_words))), (q6, .inl (aC 0, 32, .inl z_5.2.2.2.2.2)), (q7, .inr (0, [.ref q8, .int p_length])), (q8, .inl (aC 1, p_n, .inl p_bytes))]) ⟨hx, hb, hml, hown, hts⟩ (c_X2_readClosing l DD aC tt q0 q1 q2 q3 q4 q5 q6  count captureCount kinds ones twos sets_words states (a3 + 1) hp_0 hp_1 z_5 hz_5) (cwV 1 hts (gdV w_330 w_332 w_13 w_71 w_333) rfl rfl rfl (by decide +kernel) ⟨Nat.le_of_ble_eq_true rfl, Nat.le_of_ble_eq_true rfl⟩) hP hD hS hA hE [0, 1, 2, 3, 4, 5, 6] [7, 8] [2, 3, 4, 5, 6, 7, 8, 0, 1] rfl rfl rfl (by decide) (by decide) (by decide) (by decide) (ci := 2) (q0 := 0) rfl rfl rfl hl.1 rfl (Nat.le_of_ble_eq_true rfl) dX2_readSpecial_63 (fun H locs hP hD hS => ?_)
    have hP : va_P DD vwCl [(q0, .inr (2, [.ref q1, .ref q2, .ref q3, .ref q4, .ref q6, .int z_5.2.1, .int captureCount])), (q1, .inl (aC 0, 513, .inl z_5.2.2.1)), (q2, .inl (aC 0, 513, .inl z_5.2.2.2.1)), (q3, .inl (aC 0, 513, .inl z_5.2.2.2.2.1)), (q4, .inr (1, [.ref q5])), (q5, .inl (aC 2, 2052, .inr (.inl sets_words))), (q6, .inl (aC 0, 32, .inl z_5.2.2.2.2.2)), (q7, .inr (0, [.ref q8, .int p_length])), (q8, .inl (aC 1, p_n, .inl p_bytes))] H := hP
    have hD : va_D A [(q0, .inr (2, [.ref q1, .ref q2, .ref q3, .ref q4, .ref q6, .int z_5.2.1, .int captureCount])), (q1, .inl (aC 0, 513, .inl z_5.2.2.1)), (q2, .inl (aC 0, 513, .inl z_5.2.2.2.1)), (q3, .inl (aC 0, 513, .inl z_5.2.2.2.2.1)), (q4, .inr (1, [.ref q5])), (q5, .inl (aC 2, 2052, .inr (.inl sets_words))), (q6, .inl (aC 0, 32, .inl z_5.2.2.2.2.2)), (q7, .inr (0, [.ref q8, .int p_length])), (q8, .inl (aC 1, p_n, .inl p_bytes))] := hD
    refine W.eq (g2 := F0 m 66 ls [.int z_5.1]) rfl ?_
    have h_6 := pf_X2_readClosing hp_0 hp_1 hz_5
    subst hu
    exact k_iret hx hb hr hlocks hP hD hS rfl rfl dX2_readSpecial_66
  replace hu := hu.trans (if_neg c_4)
  by_cases c_7 : a1 = 6
  · replace hu := hu.trans (if_pos c_7)
    refine lv_tableIn (off := 48) (tgt := 49) hx hb dX2_readSpecial_1 (by rw [c_7]; decide) (by rw [c_7]; decide) (by rw [c_7]; decide) (by decide) ?_
    refine lv_aload_n hx hb dX2_readSpecial_49 rfl (lv_at hl 0 rfl) ?_
    refine lv_bipush (v := 6) hx hb dX2_readSpecial_50 (by decide) ?_
    refine lv_iload_n hx hb dX2_readSpecial_52 rfl (lv_at hl 3 rfl) ?_
    refine lv_iconst (v := 2) hx hb dX2_readSpecial_53 (by decide) ?_
    refine lv_iadd hx hb dX2_readSpecial_54 ?_
    obtain ⟨z_8, hz_8⟩ : ∃ z, z = f_X2_readOpening count captureCount kinds ones twos states 6 (a3 + 2) := ⟨_, rfl⟩
    replace hu := hu.trans (kb_of hz_8)
    refine k_callV (As := [.int 6, .int (a3 + 2)]) (rest := []) (wc := [(q0, .inr (2, [.ref q1, .ref q2, .ref q3, .ref q4, .ref q6, .int count, .int captureCount])), (q1, .inl (aC 0, 513, .inl kinds)), (q2, .inl (aC 0, 513, .inl ones)), (q3, .inl (aC 0, 513, .inl twos)), (q4, .inr (1, [.ref q5])), (q5, .inl (aC 2, 2052, .inr (.inl sets_words))), (q6, .inl (aC 0, 32, .inl states))]) (wr := [(q7, .inr (0, [.ref q8, .int p_length])), (q8, .inl (aC 1, p_n, .inl p_bytes))]) (w1 := [(q0, .inr (2, [.ref q1, .ref q2, .ref q3, .ref q4, .ref q6, .int z_8.2.1, .int z_8.2.2.1])), (q1, .inl (aC 0, 513, .inl z_8.2.2.2.1)), (q2, .inl (aC 0, 513, .inl z_8.2.2.2.2.1)), (q3, .inl (aC 0, 513, .inl z_8.2.2.2.2.2.1)), (q4, .inr (1, [.ref q5])), (q5, .inl (aC 2, 2052, .inr (.inl sets_words))), (q6, .inl (aC 0, 32, .inl z_8.2.2.2.2.2.2))]) (wn := [(q0, .inr (2, [.ref q1, .ref q2, .ref q3, .ref q4, .ref q6, .int z_8.2.1, .int z_8.2.2.1])), (q1, .inl (aC 0, 513, .inl z_8.2.2.2.1)), (q2, .inl (aC 0, 513, .inl z_8.2.2.2.2.1)), (q3, .inl (aC 0, 513, .inl z_8.2.2.2.2.2.1)), (q4, .inr (1, [.ref q5])), (q5, .inl (aC 2, 2052, .inr (.inl sets_words))), (q6, .inl (aC 0, 32, .inl z_8.2.2.2.2.2.2)), (q7, .inr (0, [.ref q8, .int p_length])), (q8, .inl (aC 1, p_n, .inl p_bytes))]) ⟨hx, hb, hml, hown, hts⟩ (c_X2_readOpening l DD aC tt q0 q1 q2 q3 q4 q5 q6  count captureCount kinds ones twos sets_words states 6 (a3 + 2) hp_0 hp_1 z_8 hz_8) (cwV 2 hts (gdV w_326 w_328 w_12 w_71 w_329) rfl rfl rfl (by decide +kernel) ⟨Nat.le_of_ble_eq_true rfl, Nat.le_of_ble_eq_true rfl⟩) hP hD hS hA hE [0, 1, 2, 3, 4, 5, 6] [7, 8] [2, 3, 4, 5, 6, 7, 8, 0, 1] rfl rfl rfl (by decide) (by decide) (by decide) (by decide) (ci := 2) (q0 := 0) rfl rfl rfl hl.1 rfl (Nat.le_of_ble_eq_true rfl) dX2_readSpecial_55 (fun H locs hP hD hS => ?_)
    have hP : va_P DD vwCl [(q0, .inr (2, [.ref q1, .ref q2, .ref q3, .ref q4, .ref q6, .int z_8.2.1, .int z_8.2.2.1])), (q1, .inl (aC 0, 513, .inl z_8.2.2.2.1)), (q2, .inl (aC 0, 513, .inl z_8.2.2.2.2.1)), (q3, .inl (aC 0, 513, .inl z_8.2.2.2.2.2.1)), (q4, .inr (1, [.ref q5])), (q5, .inl (aC 2, 2052, .inr (.inl sets_words))), (q6, .inl (aC 0, 32, .inl z_8.2.2.2.2.2.2)), (q7, .inr (0, [.ref q8, .int p_length])), (q8, .inl (aC 1, p_n, .inl p_bytes))] H := hP
    have hD : va_D A [(q0, .inr (2, [.ref q1, .ref q2, .ref q3, .ref q4, .ref q6, .int z_8.2.1, .int z_8.2.2.1])), (q1, .inl (aC 0, 513, .inl z_8.2.2.2.1)), (q2, .inl (aC 0, 513, .inl z_8.2.2.2.2.1)), (q3, .inl (aC 0, 513, .inl z_8.2.2.2.2.2.1)), (q4, .inr (1, [.ref q5])), (q5, .inl (aC 2, 2052, .inr (.inl sets_words))), (q6, .inl (aC 0, 32, .inl z_8.2.2.2.2.2.2)), (q7, .inr (0, [.ref q8, .int p_length])), (q8, .inl (aC 1, p_n, .inl p_bytes))] := hD
    refine W.eq (g2 := F0 m 58 ls [.int z_8.1]) rfl ?_
    have h_9 := pf_X2_readOpening hp_0 hp_1 hz_8
    subst hu
    exact k_iret hx hb hr hlocks hP hD hS rfl rfl dX2_readSpecial_58
  replace hu := hu.trans (if_neg c_7)
  by_cases c_10 : a1 = 7
  · replace hu := hu.trans (if_pos c_10)
    refine lv_tableIn (off := 66) (tgt := 67) hx hb dX2_readSpecial_1 (by rw [c_10]; decide) (by rw [c_10]; decide) (by rw [c_10]; decide) (by decide) ?_
    refine lv_aload_n hx hb dX2_readSpecial_67 rfl (lv_at hl 0 rfl) ?_
    refine lv_aload_n hx hb dX2_readSpecial_68 rfl (lv_at hl 2 rfl) ?_
    refine lv_iload_n hx hb dX2_readSpecial_69 rfl (lv_at hl 3 rfl) ?_
    refine lv_iconst (v := 1) hx hb dX2_readSpecial_70 (by decide) ?_
    refine lv_iadd hx hb dX2_readSpecial_71 ?_
    obtain ⟨z_11, hz_11⟩ : ∃ z, z = f_X0_at p_length p_bytes (a3 + 1) := ⟨_, rfl⟩
    replace hu := hu.trans (kb_of hz_11)
    refine k_callV (As := [.int (a3 + 1)]) (rest := [.ref q0]) (wc := [(q7, .inr (0, [.ref q8, .int p_length])), (q8, .inl (aC 1, p_n, .inl p_bytes))]) (wr := [(q0, .inr (2, [.ref q1, .ref q2, .ref q3, .ref q4, .ref q6, .int count, .int captureCount])), (q1, .inl (aC 0, 513, .inl kinds)), (q2, .inl (aC 0, 513, .inl ones)), (q3, .inl (aC 0, 513, .inl twos)), (q4, .inr (1, [.ref q5])), (q5, .inl (aC 2, 2052, .inr (.inl sets_words))), (q6, .inl (aC 0, 32, .inl states))]) (w1 := [(q7, .inr (0, [.ref q8, .int p_length])), (q8, .inl (aC 1, p_n, .inl p_bytes))]) (wn := [(q0, .inr (2, [.ref q1, .ref q2, .ref q3, .ref q4, .ref q6, .int count, .int captureCount])), (q1, .inl (aC 0, 513, .inl kinds)), (q2, .inl (aC 0, 513, .inl ones)), (q3, .inl (aC 0, 513, .inl twos)), (q4, .inr (1, [.ref q5])), (q5, .inl (aC 2, 2052, .inr (.inl sets_words))), (q6, .inl (aC 0, 32, .inl states)), (q7, .inr (0, [.ref q8, .int p_length])), (q8, .inl (aC 1, p_n, .inl p_bytes))]) ⟨hx, hb, hml, hown, hts⟩ (c_X0_at l DD aC tt q7 q8 p_n p_length p_bytes (a3 + 1) hp_2 z_11 hz_11) (cwV 1 hts (gdV w_270 w_259 w_260 w_69 w_261) rfl rfl rfl (by decide +kernel) ⟨Nat.le_of_ble_eq_true rfl, Nat.le_of_ble_eq_true rfl⟩) hP hD hS hA hE [7, 8] [0, 1, 2, 3, 4, 5, 6] [0, 1, 2, 3, 4, 5, 6, 7, 8] rfl rfl rfl (by decide) (by decide) (by decide) (by decide) (ci := 0) (q0 := 0) rfl rfl rfl hl.1 rfl (Nat.le_of_ble_eq_true rfl) dX2_readSpecial_72 (fun H locs hP hD hS => ?_)
    refine W.eq (g2 := F0 m 75 ls [.int z_11, .ref q0]) rfl ?_
    refine lv_bipush (v := 49) hx hb dX2_readSpecial_75 (by decide) ?_
    refine lv_isub hx hb dX2_readSpecial_77 ?_
    refine lv_iload_n hx hb dX2_readSpecial_78 rfl (lv_at hl 3 rfl) ?_
    refine lv_iconst (v := 2) hx hb dX2_readSpecial_79 (by decide) ?_
    refine lv_iadd hx hb dX2_readSpecial_80 ?_
    obtain ⟨z_12, hz_12⟩ : ∃ z, z = f_X2_readSame count captureCount kinds ones twos states (z_11 - 49) (a3 + 2) := ⟨_, rfl⟩
    replace hu := hu.trans (kb_of hz_12)
    refine k_callV (As := [.int (z_11 - 49), .int (a3 + 2)]) (rest := []) (wc := [(q0, .inr (2, [.ref q1, .ref q2, .ref q3, .ref q4, .ref q6, .int count, .int captureCount])), (q1, .inl (aC 0, 513, .inl kinds)), (q2, .inl (aC 0, 513, .inl ones)), (q3, .inl (aC 0, 513, .inl twos)), (q4, .inr (1, [.ref q5])), (q5, .inl (aC 2, 2052, .inr (.inl sets_words))), (q6, .inl (aC 0, 32, .inl states))]) (wr := [(q7, .inr (0, [.ref q8, .int p_length])), (q8, .inl (aC 1, p_n, .inl p_bytes))]) (w1 := [(q0, .inr (2, [.ref q1, .ref q2, .ref q3, .ref q4, .ref q6, .int z_12.2.1, .int captureCount])), (q1, .inl (aC 0, 513, .inl z_12.2.2.1)), (q2, .inl (aC 0, 513, .inl z_12.2.2.2.1)), (q3, .inl (aC 0, 513, .inl z_12.2.2.2.2)), (q4, .inr (1, [.ref q5])), (q5, .inl (aC 2, 2052, .inr (.inl sets_words))), (q6, .inl (aC 0, 32, .inl states))]) (wn := [(q0, .inr (2, [.ref q1, .ref q2, .ref q3, .ref q4, .ref q6, .int z_12.2.1, .int captureCount])), (q1, .inl (aC 0, 513, .inl z_12.2.2.1)), (q2, .inl (aC 0, 513, .inl z_12.2.2.2.1)), (q3, .inl (aC 0, 513, .inl z_12.2.2.2.2)), (q4, .inr (1, [.ref q5])), (q5, .inl (aC 2, 2052, .inr (.inl sets_words))), (q6, .inl (aC 0, 32, .inl states)), (q7, .inr (0, [.ref q8, .int p_length])), (q8, .inl (aC 1, p_n, .inl p_bytes))]) ⟨hx, hb, hml, hown, hts⟩ (c_X2_readSame l DD aC tt q0 q1 q2 q3 q4 q5 q6  count captureCount kinds ones twos sets_words states (z_11 - 49) (a3 + 2) hp_0 z_12 hz_12) (cwV 2 hts (gdV w_341 w_343 w_15 w_71 w_344) rfl rfl rfl (by decide +kernel) ⟨Nat.le_of_ble_eq_true rfl, Nat.le_of_ble_eq_true rfl⟩) hP hD hS hA hE [0, 1, 2, 3, 4, 5, 6] [7, 8] [2, 3, 4, 5, 6, 7, 8, 0, 1] rfl rfl rfl (by decide) (by decide) (by decide) (by decide) (ci := 2) (q0 := 0) rfl rfl rfl hl.1 rfl (Nat.le_of_ble_eq_true rfl) dX2_readSpecial_81 (fun H locs hP hD hS => ?_)
    have hP : va_P DD vwCl [(q0, .inr (2, [.ref q1, .ref q2, .ref q3, .ref q4, .ref q6, .int z_12.2.1, .int captureCount])), (q1, .inl (aC 0, 513, .inl z_12.2.2.1)), (q2, .inl (aC 0, 513, .inl z_12.2.2.2.1)), (q3, .inl (aC 0, 513, .inl z_12.2.2.2.2)), (q4, .inr (1, [.ref q5])), (q5, .inl (aC 2, 2052, .inr (.inl sets_words))), (q6, .inl (aC 0, 32, .inl states)), (q7, .inr (0, [.ref q8, .int p_length])), (q8, .inl (aC 1, p_n, .inl p_bytes))] H := hP
    have hD : va_D A [(q0, .inr (2, [.ref q1, .ref q2, .ref q3, .ref q4, .ref q6, .int z_12.2.1, .int captureCount])), (q1, .inl (aC 0, 513, .inl z_12.2.2.1)), (q2, .inl (aC 0, 513, .inl z_12.2.2.2.1)), (q3, .inl (aC 0, 513, .inl z_12.2.2.2.2)), (q4, .inr (1, [.ref q5])), (q5, .inl (aC 2, 2052, .inr (.inl sets_words))), (q6, .inl (aC 0, 32, .inl states)), (q7, .inr (0, [.ref q8, .int p_length])), (q8, .inl (aC 1, p_n, .inl p_bytes))] := hD
    refine W.eq (g2 := F0 m 84 ls [.int z_12.1]) rfl ?_
    have h_13 := pf_X2_readSame hp_0 hz_12
    subst hu
    exact k_iret hx hb hr hlocks hP hD hS rfl rfl dX2_readSpecial_84
  replace hu := hu.trans (if_neg c_10)
  by_cases c_14 : a1 = 8
  · replace hu := hu.trans (if_pos c_14)
    refine lv_tableIn (off := 84) (tgt := 85) hx hb dX2_readSpecial_1 (by rw [c_14]; decide) (by rw [c_14]; decide) (by rw [c_14]; decide) (by decide) ?_
    refine lv_aload_n hx hb dX2_readSpecial_85 rfl (lv_at hl 0 rfl) ?_
    refine lv_aload_n hx hb dX2_readSpecial_86 rfl (lv_at hl 2 rfl) ?_
    refine lv_iload_n hx hb dX2_readSpecial_87 rfl (lv_at hl 3 rfl) ?_
    refine lv_iconst (v := 2) hx hb dX2_readSpecial_88 (by decide) ?_
    refine lv_iadd hx hb dX2_readSpecial_89 ?_
    obtain ⟨z_15, hz_15⟩ : ∃ z, z = f_X2_readPair count kinds ones twos p_length p_bytes (a3 + 2) := ⟨_, rfl⟩
    replace hu := hu.trans (kb_of hz_15)
    refine k_callV (As := [.ref q7, .int (a3 + 2)]) (rest := []) (wc := [(q0, .inr (2, [.ref q1, .ref q2, .ref q3, .ref q4, .ref q6, .int count, .int captureCount])), (q1, .inl (aC 0, 513, .inl kinds)), (q2, .inl (aC 0, 513, .inl ones)), (q3, .inl (aC 0, 513, .inl twos)), (q4, .inr (1, [.ref q5])), (q5, .inl (aC 2, 2052, .inr (.inl sets_words))), (q6, .inl (aC 0, 32, .inl states)), (q7, .inr (0, [.ref q8, .int p_length])), (q8, .inl (aC 1, p_n, .inl p_bytes))]) (wr := []) (w1 := [(q0, .inr (2, [.ref q1, .ref q2, .ref q3, .ref q4, .ref q6, .int z_15.2.1, .int captureCount])), (q1, .inl (aC 0, 513, .inl z_15.2.2.1)), (q2, .inl (aC 0, 513, .inl z_15.2.2.2.1)), (q3, .inl (aC 0, 513, .inl z_15.2.2.2.2)), (q4, .inr (1, [.ref q5])), (q5, .inl (aC 2, 2052, .inr (.inl sets_words))), (q6, .inl (aC 0, 32, .inl states)), (q7, .inr (0, [.ref q8, .int p_length])), (q8, .inl (aC 1, p_n, .inl p_bytes))]) (wn := [(q0, .inr (2, [.ref q1, .ref q2, .ref q3, .ref q4, .ref q6, .int z_15.2.1, .int captureCount])), (q1, .inl (aC 0, 513, .inl z_15.2.2.1)), (q2, .inl (aC 0, 513, .inl z_15.2.2.2.1)), (q3, .inl (aC 0, 513, .inl z_15.2.2.2.2)), (q4, .inr (1, [.ref q5])), (q5, .inl (aC 2, 2052, .inr (.inl sets_words))), (q6, .inl (aC 0, 32, .inl states)), (q7, .inr (0, [.ref q8, .int p_length])), (q8, .inl (aC 1, p_n, .inl p_bytes))]) ⟨hx, hb, hml, hown, hts⟩ (c_X2_readPair l DD aC tt q0 q1 q2 q3 q4 q5 q6 q7 q8 p_n count captureCount kinds ones twos sets_words states p_length p_bytes (a3 + 2) hp_0 hp_2 z_15 hz_15) (cwV 2 hts (gdV w_345 w_347 w_16 w_71 w_348) rfl rfl rfl (by decide +kernel) ⟨Nat.le_of_ble_eq_true rfl, Nat.le_of_ble_eq_true rfl⟩) hP hD hS hA hE [0, 1, 2, 3, 4, 5, 6, 7, 8] [] [0, 1, 2, 3, 4, 5, 6, 7, 8] rfl rfl rfl (by decide) (by decide) (by decide) (by decide) (ci := 2) (q0 := 0) rfl rfl rfl hl.1 rfl (Nat.le_of_ble_eq_true rfl) dX2_readSpecial_90 (fun H locs hP hD hS => ?_)
    have hP : va_P DD vwCl [(q0, .inr (2, [.ref q1, .ref q2, .ref q3, .ref q4, .ref q6, .int z_15.2.1, .int captureCount])), (q1, .inl (aC 0, 513, .inl z_15.2.2.1)), (q2, .inl (aC 0, 513, .inl z_15.2.2.2.1)), (q3, .inl (aC 0, 513, .inl z_15.2.2.2.2)), (q4, .inr (1, [.ref q5])), (q5, .inl (aC 2, 2052, .inr (.inl sets_words))), (q6, .inl (aC 0, 32, .inl states)), (q7, .inr (0, [.ref q8, .int p_length])), (q8, .inl (aC 1, p_n, .inl p_bytes))] H := hP
    have hD : va_D A [(q0, .inr (2, [.ref q1, .ref q2, .ref q3, .ref q4, .ref q6, .int z_15.2.1, .int captureCount])), (q1, .inl (aC 0, 513, .inl z_15.2.2.1)), (q2, .inl (aC 0, 513, .inl z_15.2.2.2.1)), (q3, .inl (aC 0, 513, .inl z_15.2.2.2.2)), (q4, .inr (1, [.ref q5])), (q5, .inl (aC 2, 2052, .inr (.inl sets_words))), (q6, .inl (aC 0, 32, .inl states)), (q7, .inr (0, [.ref q8, .int p_length])), (q8, .inl (aC 1, p_n, .inl p_bytes))] := hD
    refine W.eq (g2 := F0 m 93 ls [.int z_15.1]) rfl ?_
    have h_16 := pf_X2_readPair hp_0 hp_2 hz_15
    subst hu
    exact k_iret hx hb hr hlocks hP hD hS rfl rfl dX2_readSpecial_93
  replace hu := hu.trans (if_neg c_14)
  by_cases c_17 : a1 = 9
  · replace hu := hu.trans (if_pos c_17)
    refine lv_tableIn (off := 93) (tgt := 94) hx hb dX2_readSpecial_1 (by rw [c_17]; decide) (by rw [c_17]; decide) (by rw [c_17]; decide) (by decide) ?_
    refine lv_aload_n hx hb dX2_readSpecial_94 rfl (lv_at hl 0 rfl) ?_
    refine lv_aload_n hx hb dX2_readSpecial_95 rfl (lv_at hl 2 rfl) ?_
    refine lv_iload_n hx hb dX2_readSpecial_96 rfl (lv_at hl 3 rfl) ?_
    refine lv_iconst (v := 2) hx hb dX2_readSpecial_97 (by decide) ?_
    refine lv_iadd hx hb dX2_readSpecial_98 ?_
    obtain ⟨z_18, hz_18⟩ : ∃ z, z = f_X2_readBorder count kinds ones twos sets_words p_length p_bytes (a3 + 2) := ⟨_, rfl⟩
    replace hu := hu.trans (kb_of hz_18)
    refine k_callV (As := [.ref q7, .int (a3 + 2)]) (rest := []) (wc := [(q0, .inr (2, [.ref q1, .ref q2, .ref q3, .ref q4, .ref q6, .int count, .int captureCount])), (q1, .inl (aC 0, 513, .inl kinds)), (q2, .inl (aC 0, 513, .inl ones)), (q3, .inl (aC 0, 513, .inl twos)), (q4, .inr (1, [.ref q5])), (q5, .inl (aC 2, 2052, .inr (.inl sets_words))), (q6, .inl (aC 0, 32, .inl states)), (q7, .inr (0, [.ref q8, .int p_length])), (q8, .inl (aC 1, p_n, .inl p_bytes))]) (wr := []) (w1 := [(q0, .inr (2, [.ref q1, .ref q2, .ref q3, .ref q4, .ref q6, .int z_18.2.1, .int captureCount])), (q1, .inl (aC 0, 513, .inl z_18.2.2.1)), (q2, .inl (aC 0, 513, .inl z_18.2.2.2.1)), (q3, .inl (aC 0, 513, .inl z_18.2.2.2.2.1)), (q4, .inr (1, [.ref q5])), (q5, .inl (aC 2, 2052, .inr (.inl z_18.2.2.2.2.2))), (q6, .inl (aC 0, 32, .inl states)), (q7, .inr (0, [.ref q8, .int p_length])), (q8, .inl (aC 1, p_n, .inl p_bytes))]) (wn := [(q0, .inr (2, [.ref q1, .ref q2, .ref q3, .ref q4, .ref q6, .int z_18.2.1, .int captureCount])), (q1, .inl (aC 0, 513, .inl z_18.2.2.1)), (q2, .inl (aC 0, 513, .inl z_18.2.2.2.1)), (q3, .inl (aC 0, 513, .inl z_18.2.2.2.2.1)), (q4, .inr (1, [.ref q5])), (q5, .inl (aC 2, 2052, .inr (.inl z_18.2.2.2.2.2))), (q6, .inl (aC 0, 32, .inl states)), (q7, .inr (0, [.ref q8, .int p_length])), (q8, .inl (aC 1, p_n, .inl p_bytes))]) ⟨hx, hb, hml, hown, hts⟩ (c_X2_readBorder l DD aC tt q0 q1 q2 q3 q4 q5 q6 q7 q8 p_n count captureCount kinds ones twos sets_words states p_length p_bytes (a3 + 2) hp_0 hp_2 hp_3 z_18 hz_18) (cwV 2 hts (gdV w_349 w_351 w_17 w_71 w_352) rfl rfl rfl (by decide +kernel) ⟨Nat.le_of_ble_eq_true rfl, Nat.le_of_ble_eq_true rfl⟩) hP hD hS hA hE [0, 1, 2, 3, 4, 5, 6, 7, 8] [] [0, 1, 2, 3, 4, 5, 6, 7, 8] rfl rfl rfl (by decide) (by decide) (by decide) (by decide) (ci := 2) (q0 := 0) rfl rfl rfl hl.1 rfl (Nat.le_of_ble_eq_true rfl) dX2_readSpecial_99 (fun H locs hP hD hS => ?_)
    have hP : va_P DD vwCl [(q0, .inr (2, [.ref q1, .ref q2, .ref q3, .ref q4, .ref q6, .int z_18.2.1, .int captureCount])), (q1, .inl (aC 0, 513, .inl z_18.2.2.1)), (q2, .inl (aC 0, 513, .inl z_18.2.2.2.1)), (q3, .inl (aC 0, 513, .inl z_18.2.2.2.2.1)), (q4, .inr (1, [.ref q5])), (q5, .inl (aC 2, 2052, .inr (.inl z_18.2.2.2.2.2))), (q6, .inl (aC 0, 32, .inl states)), (q7, .inr (0, [.ref q8, .int p_length])), (q8, .inl (aC 1, p_n, .inl p_bytes))] H := hP
    have hD : va_D A [(q0, .inr (2, [.ref q1, .ref q2, .ref q3, .ref q4, .ref q6, .int z_18.2.1, .int captureCount])), (q1, .inl (aC 0, 513, .inl z_18.2.2.1)), (q2, .inl (aC 0, 513, .inl z_18.2.2.2.1)), (q3, .inl (aC 0, 513, .inl z_18.2.2.2.2.1)), (q4, .inr (1, [.ref q5])), (q5, .inl (aC 2, 2052, .inr (.inl z_18.2.2.2.2.2))), (q6, .inl (aC 0, 32, .inl states)), (q7, .inr (0, [.ref q8, .int p_length])), (q8, .inl (aC 1, p_n, .inl p_bytes))] := hD
    refine W.eq (g2 := F0 m 102 ls [.int z_18.1]) rfl ?_
    have h_19 := pf_X2_readBorder hp_0 hp_2 hp_3 hz_18
    subst hu
    exact k_iret hx hb hr hlocks hP hD hS rfl rfl dX2_readSpecial_102
  replace hu := hu.trans (if_neg c_17)
  refine lv_tableOut (tgt := 103) hx hb dX2_readSpecial_1 (by have e_c_1 := lv_neT c_1 (show (4 : Int32).toInt = 4 by decide); have e_c_4 := lv_neT c_4 (show (5 : Int32).toInt = 5 by decide); have e_c_7 := lv_neT c_7 (show (6 : Int32).toInt = 6 by decide); have e_c_10 := lv_neT c_10 (show (7 : Int32).toInt = 7 by decide); have e_c_14 := lv_neT c_14 (show (8 : Int32).toInt = 8 by decide); have e_c_17 := lv_neT c_17 (show (9 : Int32).toInt = 9 by decide); omega) (by decide) ?_
  refine lv_aload_n hx hb dX2_readSpecial_103 rfl (lv_at hl 0 rfl) ?_
  refine lv_bipush (v := 10) hx hb dX2_readSpecial_104 (by decide) ?_
  refine lv_iconst (v := 0) hx hb dX2_readSpecial_106 (by decide) ?_
  refine lv_iconst (v := 0) hx hb dX2_readSpecial_107 (by decide) ?_
  obtain ⟨z_20, hz_20⟩ : ∃ z, z = f_X2_add count kinds ones twos 10 0 0 := ⟨_, rfl⟩
  replace hu := hu.trans (kb_of hz_20)
  refine k_callV (As := [.int 10, .int 0, .int 0]) (rest := []) (wc := [(q0, .inr (2, [.ref q1, .ref q2, .ref q3, .ref q4, .ref q6, .int count, .int captureCount])), (q1, .inl (aC 0, 513, .inl kinds)), (q2, .inl (aC 0, 513, .inl ones)), (q3, .inl (aC 0, 513, .inl twos)), (q4, .inr (1, [.ref q5])), (q5, .inl (aC 2, 2052, .inr (.inl sets_words))), (q6, .inl (aC 0, 32, .inl states))]) (wr := [(q7, .inr (0, [.ref q8, .int p_length])), (q8, .inl (aC 1, p_n, .inl p_bytes))]) (w1 := [(q0, .inr (2, [.ref q1, .ref q2, .ref q3, .ref q4, .ref q6, .int z_20.1, .int captureCount])), (q1, .inl (aC 0, 513, .inl z_20.2.1)), (q2, .inl (aC 0, 513, .inl z_20.2.2.1)), (q3, .inl (aC 0, 513, .inl z_20.2.2.2)), (q4, .inr (1, [.ref q5])), (q5, .inl (aC 2, 2052, .inr (.inl sets_words))), (q6, .inl (aC 0, 32, .inl states))]) (wn := [(q0, .inr (2, [.ref q1, .ref q2, .ref q3, .ref q4, .ref q6, .int z_20.1, .int captureCount])), (q1, .inl (aC 0, 513, .inl z_20.2.1)), (q2, .inl (aC 0, 513, .inl z_20.2.2.1)), (q3, .inl (aC 0, 513, .inl z_20.2.2.2)), (q4, .inr (1, [.ref q5])), (q5, .inl (aC 2, 2052, .inr (.inl sets_words))), (q6, .inl (aC 0, 32, .inl states)), (q7, .inr (0, [.ref q8, .int p_length])), (q8, .inl (aC 1, p_n, .inl p_bytes))]) ⟨hx, hb, hml, hown, hts⟩ (c_X2_add l DD aC tt q0 q1 q2 q3 q4 q5 q6  count captureCount kinds ones twos sets_words states 10 0 0 hp_0 z_20 hz_20) (cwV 3 hts (gdV w_318 w_320 w_10 w_71 w_321) rfl rfl rfl (by decide +kernel) ⟨Nat.le_of_ble_eq_true rfl, Nat.le_of_ble_eq_true rfl⟩) hP hD hS hA hE [0, 1, 2, 3, 4, 5, 6] [7, 8] [2, 3, 4, 5, 6, 7, 8, 0, 1] rfl rfl rfl (by decide) (by decide) (by decide) (by decide) (ci := 2) (q0 := 0) rfl rfl rfl hl.1 rfl (Nat.le_of_ble_eq_true rfl) dX2_readSpecial_108 (fun H locs hP hD hS => ?_)
  have hP : va_P DD vwCl [(q0, .inr (2, [.ref q1, .ref q2, .ref q3, .ref q4, .ref q6, .int z_20.1, .int captureCount])), (q1, .inl (aC 0, 513, .inl z_20.2.1)), (q2, .inl (aC 0, 513, .inl z_20.2.2.1)), (q3, .inl (aC 0, 513, .inl z_20.2.2.2)), (q4, .inr (1, [.ref q5])), (q5, .inl (aC 2, 2052, .inr (.inl sets_words))), (q6, .inl (aC 0, 32, .inl states)), (q7, .inr (0, [.ref q8, .int p_length])), (q8, .inl (aC 1, p_n, .inl p_bytes))] H := hP
  have hD : va_D A [(q0, .inr (2, [.ref q1, .ref q2, .ref q3, .ref q4, .ref q6, .int z_20.1, .int captureCount])), (q1, .inl (aC 0, 513, .inl z_20.2.1)), (q2, .inl (aC 0, 513, .inl z_20.2.2.1)), (q3, .inl (aC 0, 513, .inl z_20.2.2.2)), (q4, .inr (1, [.ref q5])), (q5, .inl (aC 2, 2052, .inr (.inl sets_words))), (q6, .inl (aC 0, 32, .inl states)), (q7, .inr (0, [.ref q8, .int p_length])), (q8, .inl (aC 1, p_n, .inl p_bytes))] := hD
  refine W.eq (g2 := F0 m 111 ls []) rfl ?_
  have h_21 := pf_X2_add hp_0 hz_20
  refine lv_iload_n hx hb dX2_readSpecial_111 rfl (lv_at hl 3 rfl) ?_
  refine lv_iconst (v := 1) hx hb dX2_readSpecial_112 (by decide) ?_
  refine lv_iadd hx hb dX2_readSpecial_113 ?_
  subst hu
  exact k_iret hx hb hr hlocks hP hD hS rfl rfl dX2_readSpecial_114
def f_X2_read_L0 (k : Nat) (p_length : Int32) (p_bytes : Nat → Int32) (count : Int32) (captureCount : Int32) (kinds : Nat → Int32) (ones : Nat → Int32) (twos : Nat → Int32) (sets_words : Nat → Int64) (states : Nat → Int32) (x2 : Int32) (x3 : Int32) (x4 : Int32) : Int32 × Int32 × (Nat → Int32) × (Nat → Int32) × (Nat → Int32) × (Nat → Int64) × (Nat → Int32) := match k with
  | 0 => (0, 0, fun _ => 0, fun _ => 0, fun _ => 0, fun _ => 0, fun _ => 0)
  | k + 1 => (if (512 : Int32) ≤ x4 then (if x3 = (-1) then (kb (f_X2_add count kinds ones twos 0 0 0) (fun z_3 => (z_3.1, captureCount, z_3.2.1, z_3.2.2.1, z_3.2.2.2, sets_words, states))) else (kb (f_X2_latestOpen captureCount states) (fun z_5 => (if z_5 = (-1) then (kb (f_X2_add count kinds ones twos 1 0 0) (fun z_9 => (z_9.1, captureCount, z_9.2.1, z_9.2.2.1, z_9.2.2.2, sets_words, states))) else (kb (f_X2_add count kinds ones twos 0 0 0) (fun z_7 => (z_7.1, captureCount, z_7.2.1, z_7.2.2.1, z_7.2.2.2, sets_words, states))))))) else (if x3 = (-1) then (kb (f_X2_add count kinds ones twos 0 0 0) (fun z_12 => (z_12.1, captureCount, z_12.2.1, z_12.2.2.1, z_12.2.2.2, sets_words, states))) else (if p_length ≤ x3 then (kb (f_X2_latestOpen captureCount states) (fun z_15 => (if z_15 = (-1) then (kb (f_X2_add count kinds ones twos 1 0 0) (fun z_19 => (z_19.1, captureCount, z_19.2.1, z_19.2.2.1, z_19.2.2.2, sets_words, states))) else (kb (f_X2_add count kinds ones twos 0 0 0) (fun z_17 => (z_17.1, captureCount, z_17.2.1, z_17.2.2.1, z_17.2.2.2, sets_words, states)))))) else (kb (f_X2_kindAt p_length p_bytes x3) (fun z_21 => (if z_21 = 2 then (kb (f_X2_readRepeated count kinds ones twos sets_words p_length p_bytes x3) (fun z_25 => (f_X2_read_L0 k p_length p_bytes z_25.2.1 captureCount z_25.2.2.1 z_25.2.2.2.1 z_25.2.2.2.2.1 z_25.2.2.2.2.2 states x2 z_25.1 (x4 + 1)))) else (kb (f_X2_readSpecial count captureCount kinds ones twos sets_words states p_length p_bytes z_21 x3) (fun z_23 => (f_X2_read_L0 k p_length p_bytes z_23.2.1 z_23.2.2.1 z_23.2.2.2.1 z_23.2.2.2.2.1 z_23.2.2.2.2.2.1 z_23.2.2.2.2.2.2.1 z_23.2.2.2.2.2.2.2 x2 z_23.1 (x4 + 1))))))))))
theorem f_X2_read_L0_s {k : Nat} {p_length : Int32} {p_bytes : Nat → Int32} {count : Int32} {captureCount : Int32} {kinds : Nat → Int32} {ones : Nat → Int32} {twos : Nat → Int32} {sets_words : Nat → Int64} {states : Nat → Int32} {x2 : Int32} {x3 : Int32} {x4 : Int32} : f_X2_read_L0 (k + 1) p_length p_bytes count captureCount kinds ones twos sets_words states x2 x3 x4 = (if (512 : Int32) ≤ x4 then (if x3 = (-1) then (kb (f_X2_add count kinds ones twos 0 0 0) (fun z_3 => (z_3.1, captureCount, z_3.2.1, z_3.2.2.1, z_3.2.2.2, sets_words, states))) else (kb (f_X2_latestOpen captureCount states) (fun z_5 => (if z_5 = (-1) then (kb (f_X2_add count kinds ones twos 1 0 0) (fun z_9 => (z_9.1, captureCount, z_9.2.1, z_9.2.2.1, z_9.2.2.2, sets_words, states))) else (kb (f_X2_add count kinds ones twos 0 0 0) (fun z_7 => (z_7.1, captureCount, z_7.2.1, z_7.2.2.1, z_7.2.2.2, sets_words, states))))))) else (if x3 = (-1) then (kb (f_X2_add count kinds ones twos 0 0 0) (fun z_12 => (z_12.1, captureCount, z_12.2.1, z_12.2.2.1, z_12.2.2.2, sets_words, states))) else (if p_length ≤ x3 then (kb (f_X2_latestOpen captureCount states) (fun z_15 => (if z_15 = (-1) then (kb (f_X2_add count kinds ones twos 1 0 0) (fun z_19 => (z_19.1, captureCount, z_19.2.1, z_19.2.2.1, z_19.2.2.2, sets_words, states))) else (kb (f_X2_add count kinds ones twos 0 0 0) (fun z_17 => (z_17.1, captureCount, z_17.2.1, z_17.2.2.1, z_17.2.2.2, sets_words, states)))))) else (kb (f_X2_kindAt p_length p_bytes x3) (fun z_21 => (if z_21 = 2 then (kb (f_X2_readRepeated count kinds ones twos sets_words p_length p_bytes x3) (fun z_25 => (f_X2_read_L0 k p_length p_bytes z_25.2.1 captureCount z_25.2.2.1 z_25.2.2.2.1 z_25.2.2.2.2.1 z_25.2.2.2.2.2 states x2 z_25.1 (x4 + 1)))) else (kb (f_X2_readSpecial count captureCount kinds ones twos sets_words states p_length p_bytes z_21 x3) (fun z_23 => (f_X2_read_L0 k p_length p_bytes z_23.2.1 z_23.2.2.1 z_23.2.2.2.1 z_23.2.2.2.2.1 z_23.2.2.2.2.2.1 z_23.2.2.2.2.2.2.1 z_23.2.2.2.2.2.2.2 x2 z_23.1 (x4 + 1)))))))))) := rfl
def f_X2_read (count : Int32) (captureCount : Int32) (kinds : Nat → Int32) (ones : Nat → Int32) (twos : Nat → Int32) (sets_words : Nat → Int64) (states : Nat → Int32) (p_length : Int32) (p_bytes : Nat → Int32) (a2 : Int32) : Int32 × Int32 × (Nat → Int32) × (Nat → Int32) × (Nat → Int32) × (Nat → Int64) × (Nat → Int32) := (f_X2_read_L0 (((512 : Int32).toInt - (0 : Int32).toInt).toNat + 1) p_length p_bytes 0 0 kinds ones twos sets_words states a2 a2 0)
set_option maxHeartbeats 4000000 in
theorem pt_X2_read_L0 (p_n : Nat) (p_length : Int32) (p_bytes : Nat → Int32) (a2 : Int32) (hp_2 : p_length.toInt ≤ p_n) (hp_3 : p_n < 1073741824) :
    ∀ (k : Nat) (count : Int32) (captureCount : Int32) (kinds : Nat → Int32) (ones : Nat → Int32) (twos : Nat → Int32) (sets_words : Nat → Int64) (states : Nat → Int32) (x2 : Int32) (x3 : Int32) (x4 : Int32), (0 ≤ count.toInt) → (0 ≤ captureCount.toInt) → ∀ (u : Int32 × Int32 × (Nat → Int32) × (Nat → Int32) × (Nat → Int32) × (Nat → Int64) × (Nat → Int32)), u = f_X2_read_L0 k p_length p_bytes count captureCount kinds ones twos sets_words states x2 x3 x4 → 0 ≤ u.1.toInt ∧ 0 ≤ u.2.1.toInt := by
  intro k
  induction k with
  | zero =>
    intro count captureCount kinds ones twos sets_words states x2 x3 x4 hp_0 hp_1 u hu
    subst hu
    exact ⟨(by first | exact kp_0 | exact kp_n _ | exact Or.inl rfl), (by first | exact kp_0 | exact kp_n _ | exact Or.inl rfl)⟩
  | succ k ih =>
    intro count captureCount kinds ones twos sets_words states x2 x3 x4 hp_0 hp_1 u hu
    replace hu := hu.trans f_X2_read_L0_s
    rcases Classical.em ((512 : Int32) ≤ x4) with c_1 | c_1
    · replace hu := hu.trans (if_pos c_1)
      rcases Classical.em (x3 = (-1)) with c_2 | c_2
      · replace hu := hu.trans (if_pos c_2)
        obtain ⟨z_3, hz_3⟩ : ∃ z, z = f_X2_add count kinds ones twos 0 0 0 := ⟨_, rfl⟩
        replace hu := hu.trans (kb_of hz_3)
        have h_4 := pf_X2_add hp_0 hz_3
        rw [hu]
        exact show 0 ≤ z_3.1.toInt ∧ 0 ≤ captureCount.toInt from ⟨h_4, hp_1⟩
      · replace hu := hu.trans (if_neg c_2)
        obtain ⟨z_5, hz_5⟩ : ∃ z, z = f_X2_latestOpen captureCount states := ⟨_, rfl⟩
        replace hu := hu.trans (kb_of hz_5)
        rcases (Classical.em (z_5 = (-1))).symm with c_6 | c_6
        · replace hu := hu.trans (if_neg c_6)
          obtain ⟨z_7, hz_7⟩ : ∃ z, z = f_X2_add count kinds ones twos 0 0 0 := ⟨_, rfl⟩
          replace hu := hu.trans (kb_of hz_7)
          have h_8 := pf_X2_add hp_0 hz_7
          rw [hu]
          exact show 0 ≤ z_7.1.toInt ∧ 0 ≤ captureCount.toInt from ⟨h_8, hp_1⟩
        · replace hu := hu.trans (if_pos c_6)
          obtain ⟨z_9, hz_9⟩ : ∃ z, z = f_X2_add count kinds ones twos 1 0 0 := ⟨_, rfl⟩
          replace hu := hu.trans (kb_of hz_9)
          have h_10 := pf_X2_add hp_0 hz_9
          rw [hu]
          exact show 0 ≤ z_9.1.toInt ∧ 0 ≤ captureCount.toInt from ⟨h_10, hp_1⟩
    · replace hu := hu.trans (if_neg c_1)
      rcases Classical.em (x3 = (-1)) with c_11 | c_11
      · replace hu := hu.trans (if_pos c_11)
        obtain ⟨z_12, hz_12⟩ : ∃ z, z = f_X2_add count kinds ones twos 0 0 0 := ⟨_, rfl⟩
        replace hu := hu.trans (kb_of hz_12)
        have h_13 := pf_X2_add hp_0 hz_12
        rw [hu]
        exact show 0 ≤ z_12.1.toInt ∧ 0 ≤ captureCount.toInt from ⟨h_13, hp_1⟩
      · replace hu := hu.trans (if_neg c_11)
        rcases Classical.em (p_length ≤ x3) with c_14 | c_14
        · replace hu := hu.trans (if_pos c_14)
          obtain ⟨z_15, hz_15⟩ : ∃ z, z = f_X2_latestOpen captureCount states := ⟨_, rfl⟩
          replace hu := hu.trans (kb_of hz_15)
          rcases (Classical.em (z_15 = (-1))).symm with c_16 | c_16
          · replace hu := hu.trans (if_neg c_16)
            obtain ⟨z_17, hz_17⟩ : ∃ z, z = f_X2_add count kinds ones twos 0 0 0 := ⟨_, rfl⟩
            replace hu := hu.trans (kb_of hz_17)
            have h_18 := pf_X2_add hp_0 hz_17
            rw [hu]
            exact show 0 ≤ z_17.1.toInt ∧ 0 ≤ captureCount.toInt from ⟨h_18, hp_1⟩
          · replace hu := hu.trans (if_pos c_16)
            obtain ⟨z_19, hz_19⟩ : ∃ z, z = f_X2_add count kinds ones twos 1 0 0 := ⟨_, rfl⟩
            replace hu := hu.trans (kb_of hz_19)
            have h_20 := pf_X2_add hp_0 hz_19
            rw [hu]
            exact show 0 ≤ z_19.1.toInt ∧ 0 ≤ captureCount.toInt from ⟨h_20, hp_1⟩
        · replace hu := hu.trans (if_neg c_14)
          obtain ⟨z_21, hz_21⟩ : ∃ z, z = f_X2_kindAt p_length p_bytes x3 := ⟨_, rfl⟩
          replace hu := hu.trans (kb_of hz_21)
          rcases (Classical.em (z_21 = 2)).symm with c_22 | c_22
          · replace hu := hu.trans (if_neg c_22)
            obtain ⟨z_23, hz_23⟩ : ∃ z, z = f_X2_readSpecial count captureCount kinds ones twos sets_words states p_length p_bytes z_21 x3 := ⟨_, rfl⟩
            replace hu := hu.trans (kb_of hz_23)
            have h_24 := pf_X2_readSpecial hp_0 hp_1 hp_2 hp_3 hz_23
            exact ih z_23.2.1 z_23.2.2.1 z_23.2.2.2.1 z_23.2.2.2.2.1 z_23.2.2.2.2.2.1 z_23.2.2.2.2.2.2.1 z_23.2.2.2.2.2.2.2 x2 z_23.1 (x4 + 1) h_24.1 h_24.2 u hu
          · replace hu := hu.trans (if_pos c_22)
            obtain ⟨z_25, hz_25⟩ : ∃ z, z = f_X2_readRepeated count kinds ones twos sets_words p_length p_bytes x3 := ⟨_, rfl⟩
            replace hu := hu.trans (kb_of hz_25)
            have h_26 := pf_X2_readRepeated hp_0 hp_2 hp_3 hz_25
            exact ih z_25.2.1 captureCount z_25.2.2.1 z_25.2.2.2.1 z_25.2.2.2.2.1 z_25.2.2.2.2.2 states x2 z_25.1 (x4 + 1) h_26 hp_1 u hu
set_option maxHeartbeats 4000000 in
theorem pf_X2_read {p_n : Nat} {count : Int32} {captureCount : Int32} {kinds : Nat → Int32} {ones : Nat → Int32} {twos : Nat → Int32} {sets_words : Nat → Int64} {states : Nat → Int32} {p_length : Int32} {p_bytes : Nat → Int32} {a2 : Int32} (hp_0 : 0 ≤ count.toInt) (hp_1 : 0 ≤ captureCount.toInt) (hp_2 : p_length.toInt ≤ p_n) (hp_3 : p_n < 1073741824) {u : Int32 × Int32 × (Nat → Int32) × (Nat → Int32) × (Nat → Int32) × (Nat → Int64) × (Nat → Int32)} (hu : u = f_X2_read count captureCount kinds ones twos sets_words states p_length p_bytes a2) : 0 ≤ u.1.toInt ∧ 0 ≤ u.2.1.toInt := by
  unfold f_X2_read at hu
  exact pt_X2_read_L0 p_n p_length p_bytes a2 hp_2 hp_3 (((512 : Int32).toInt - (0 : Int32).toInt).toNat + 1) 0 0 kinds ones twos sets_words states a2 a2 0 (by decide) (by decide) u hu
abbrev rm_X2_read : Room := { frames := 6, cells := 0, slots := 0, locals := 152 }
set_option maxHeartbeats 4000000 in
set_option maxRecDepth 100000 in
theorem t_X2_read_L0 {l : Launch} {DD : va_G} {aC : Nat → ClassId} {tt : Nat → Nat} {p : Program} {e : Env} {s : State} {m : MethodId} {below : List Frame} {meth : Method} {c : Code} {A : Nat → Prop} {AV : Array Value} (X : kX p s m AV meth c cX2_read none 6 wsX2_read RX2 DD aC tt A) (q0 q1 q2 q3 q4 q5 q6 q7 q8 p_n : Nat) (p_length : Int32) (p_bytes : Nat → Int32) (a2 : Int32) (hp_2 : p_length.toInt ≤ p_n) (hp_3 : p_n < 1073741824) :
    ∀ (k : Nat) (count : Int32) (captureCount : Int32) (kinds : Nat → Int32) (ones : Nat → Int32) (twos : Nat → Int32) (sets_words : Nat → Int64) (states : Nat → Int32) (x2 : Int32) (x3 : Int32) (x4 : Int32), (0 ≤ count.toInt) → (0 ≤ captureCount.toInt) → ((512 : Int32).toInt - x4.toInt).toNat < k → ∀ (u : Int32 × Int32 × (Nat → Int32) × (Nat → Int32) × (Nat → Int32) × (Nat → Int64) × (Nat → Int32)), u = f_X2_read_L0 k p_length p_bytes count captureCount kinds ones twos sets_words states x2 x3 x4 → ∀ (H : Heap) (locs : List Loc) (ls : Array Slot), va_P DD vwCl [(q0, .inr (2, [.ref q1, .ref q2, .ref q3, .ref q4, .ref q6, .int count, .int captureCount])), (q1, .inl (aC 0, 513, .inl kinds)), (q2, .inl (aC 0, 513, .inl ones)), (q3, .inl (aC 0, 513, .inl twos)), (q4, .inr (1, [.ref q5])), (q5, .inl (aC 2, 2052, .inr (.inl sets_words))), (q6, .inl (aC 0, 32, .inl states)), (q7, .inr (0, [.ref q8, .int p_length])), (q8, .inl (aC 1, p_n, .inl p_bytes))] H → va_D A [(q0, .inr (2, [.ref q1, .ref q2, .ref q3, .ref q4, .ref q6, .int count, .int captureCount])), (q1, .inl (aC 0, 513, .inl kinds)), (q2, .inl (aC 0, 513, .inl ones)), (q3, .inl (aC 0, 513, .inl twos)), (q4, .inr (1, [.ref q5])), (q5, .inl (aC 2, 2052, .inr (.inl sets_words))), (q6, .inl (aC 0, 32, .inl states)), (q7, .inr (0, [.ref q8, .int p_length])), (q8, .inl (aC 1, p_n, .inl p_bytes))] → va_S A s.heap H locs → lv_has ls 6 [(0, .ref q0), (1, .ref q7), (2, .int x2), (3, .int x3), (4, .int x4)] → W p l e rm_X2_read s m AV below meth c H locs 0 0 (MQ below (kQ DD vwCl none [(q0, .inr (2, [.ref q1, .ref q2, .ref q3, .ref q4, .ref q6, .int u.1, .int u.2.1])), (q1, .inl (aC 0, 513, .inl u.2.2.1)), (q2, .inl (aC 0, 513, .inl u.2.2.2.1)), (q3, .inl (aC 0, 513, .inl u.2.2.2.2.1)), (q4, .inr (1, [.ref q5])), (q5, .inl (aC 2, 2052, .inr (.inl u.2.2.2.2.2.1))), (q6, .inl (aC 0, 32, .inl u.2.2.2.2.2.2)), (q7, .inr (0, [.ref q8, .int p_length])), (q8, .inl (aC 1, p_n, .inl p_bytes))] A) AV s 0 0 A) (F0 m 15 ls []) := by
  obtain ⟨hx, hb, hr, hml, hts, hown, hlocks, hA, hE⟩ := id X
  intro k
  induction k with
  | zero =>
    intro count captureCount kinds ones twos sets_words states x2 x3 x4 hp_0 hp_1 hk
    exact absurd hk (Nat.not_lt_zero _)
  | succ k ih =>
    intro count captureCount kinds ones twos sets_words states x2 x3 x4 hp_0 hp_1 hk u hu H locs ls hP hD hS hl
    replace hu := hu.trans f_X2_read_L0_s
    refine lv_iload hx hb dX2_read_15 (lv_at hl 4 rfl) ?_
    refine lv_sipush (v := 512) hx hb dX2_read_17 (by decide) ?_
    refine lv_icmp_ge (tgt := 73) hx hb dX2_read_20 (by decide) (fun c_1 => ?_) (fun c_1 => ?_)
    · replace hu := hu.trans (if_pos c_1)
      refine lv_iload_n hx hb dX2_read_73 rfl (lv_at hl 3 rfl) ?_
      refine lv_iconst (v := (-1)) hx hb dX2_read_74 (by decide) ?_
      refine lv_icmp_eq (tgt := 90) hx hb dX2_read_75 (by decide) (fun c_2 => ?_) (fun c_2 => ?_)
      · replace hu := hu.trans (if_pos c_2)
        refine lv_iconst (v := 0) hx hb dX2_read_90 (by decide) ?_
        refine lv_istore (lv' := [(4, .int 0), (0, .ref q0), (1, .ref q7), (2, .int x2), (3, .int x3)]) hx hb dX2_read_91 hl (by decide) rfl (fun ls hl => ?_)
        refine lv_aload_n hx hb dX2_read_93 rfl (lv_at hl 1 rfl) ?_
        refine lv_iload hx hb dX2_read_94 (lv_at hl 0 rfl) ?_
        refine lv_if_eq (tgt := 103) hx hb dX2_read_96 (by decide) (fun _ => ?_) (fun h => absurd (by decide) h)
        refine lv_iconst (v := 0) hx hb dX2_read_103 (by decide) ?_
        refine lv_iconst (v := 0) hx hb dX2_read_104 (by decide) ?_
        refine lv_iconst (v := 0) hx hb dX2_read_105 (by decide) ?_
        obtain ⟨z_3, hz_3⟩ : ∃ z, z = f_X2_add count kinds ones twos 0 0 0 := ⟨_, rfl⟩
        replace hu := hu.trans (kb_of hz_3)
        refine k_callV (As := [.int 0, .int 0, .int 0]) (rest := []) (wc := [(q0, .inr (2, [.ref q1, .ref q2, .ref q3, .ref q4, .ref q6, .int count, .int captureCount])), (q1, .inl (aC 0, 513, .inl kinds)), (q2, .inl (aC 0, 513, .inl ones)), (q3, .inl (aC 0, 513, .inl twos)), (q4, .inr (1, [.ref q5])), (q5, .inl (aC 2, 2052, .inr (.inl sets_words))), (q6, .inl (aC 0, 32, .inl states))]) (wr := [(q7, .inr (0, [.ref q8, .int p_length])), (q8, .inl (aC 1, p_n, .inl p_bytes))]) (w1 := [(q0, .inr (2, [.ref q1, .ref q2, .ref q3, .ref q4, .ref q6, .int z_3.1, .int captureCount])), (q1, .inl (aC 0, 513, .inl z_3.2.1)), (q2, .inl (aC 0, 513, .inl z_3.2.2.1)), (q3, .inl (aC 0, 513, .inl z_3.2.2.2)), (q4, .inr (1, [.ref q5])), (q5, .inl (aC 2, 2052, .inr (.inl sets_words))), (q6, .inl (aC 0, 32, .inl states))]) (wn := [(q0, .inr (2, [.ref q1, .ref q2, .ref q3, .ref q4, .ref q6, .int z_3.1, .int captureCount])), (q1, .inl (aC 0, 513, .inl z_3.2.1)), (q2, .inl (aC 0, 513, .inl z_3.2.2.1)), (q3, .inl (aC 0, 513, .inl z_3.2.2.2)), (q4, .inr (1, [.ref q5])), (q5, .inl (aC 2, 2052, .inr (.inl sets_words))), (q6, .inl (aC 0, 32, .inl states)), (q7, .inr (0, [.ref q8, .int p_length])), (q8, .inl (aC 1, p_n, .inl p_bytes))]) ⟨hx, hb, hml, hown, hts⟩ (c_X2_add l DD aC tt q0 q1 q2 q3 q4 q5 q6  count captureCount kinds ones twos sets_words states 0 0 0 hp_0 z_3 hz_3) (cwV 3 hts (gdV w_318 w_320 w_10 w_71 w_321) rfl rfl rfl (by decide +kernel) ⟨Nat.le_of_ble_eq_true rfl, Nat.le_of_ble_eq_true rfl⟩) hP hD hS hA hE [0, 1, 2, 3, 4, 5, 6] [7, 8] [2, 3, 4, 5, 6, 7, 8, 0, 1] rfl rfl rfl (by decide) (by decide) (by decide) (by decide) (ci := 2) (q0 := 0) rfl rfl rfl hl.1 rfl (Nat.le_of_ble_eq_true rfl) dX2_read_106 (fun H locs hP hD hS => ?_)
        have hP : va_P DD vwCl [(q0, .inr (2, [.ref q1, .ref q2, .ref q3, .ref q4, .ref q6, .int z_3.1, .int captureCount])), (q1, .inl (aC 0, 513, .inl z_3.2.1)), (q2, .inl (aC 0, 513, .inl z_3.2.2.1)), (q3, .inl (aC 0, 513, .inl z_3.2.2.2)), (q4, .inr (1, [.ref q5])), (q5, .inl (aC 2, 2052, .inr (.inl sets_words))), (q6, .inl (aC 0, 32, .inl states)), (q7, .inr (0, [.ref q8, .int p_length])), (q8, .inl (aC 1, p_n, .inl p_bytes))] H := hP
        have hD : va_D A [(q0, .inr (2, [.ref q1, .ref q2, .ref q3, .ref q4, .ref q6, .int z_3.1, .int captureCount])), (q1, .inl (aC 0, 513, .inl z_3.2.1)), (q2, .inl (aC 0, 513, .inl z_3.2.2.1)), (q3, .inl (aC 0, 513, .inl z_3.2.2.2)), (q4, .inr (1, [.ref q5])), (q5, .inl (aC 2, 2052, .inr (.inl sets_words))), (q6, .inl (aC 0, 32, .inl states)), (q7, .inr (0, [.ref q8, .int p_length])), (q8, .inl (aC 1, p_n, .inl p_bytes))] := hD
        refine W.eq (g2 := F0 m 109 ls []) rfl ?_
        have h_4 := pf_X2_add hp_0 hz_3
        subst hu
        exact k_vret hx hb hr hlocks hP hD hS rfl rfl dX2_read_109
      · replace hu := hu.trans (if_neg c_2)
        refine lv_aload_n hx hb dX2_read_78 rfl (lv_at hl 0 rfl) ?_
        obtain ⟨z_5, hz_5⟩ : ∃ z, z = f_X2_latestOpen captureCount states := ⟨_, rfl⟩
        replace hu := hu.trans (kb_of hz_5)
        refine k_callV (As := []) (rest := []) (wc := [(q0, .inr (2, [.ref q1, .ref q2, .ref q3, .ref q4, .ref q6, .int count, .int captureCount])), (q1, .inl (aC 0, 513, .inl kinds)), (q2, .inl (aC 0, 513, .inl ones)), (q3, .inl (aC 0, 513, .inl twos)), (q4, .inr (1, [.ref q5])), (q5, .inl (aC 2, 2052, .inr (.inl sets_words))), (q6, .inl (aC 0, 32, .inl states))]) (wr := [(q7, .inr (0, [.ref q8, .int p_length])), (q8, .inl (aC 1, p_n, .inl p_bytes))]) (w1 := [(q0, .inr (2, [.ref q1, .ref q2, .ref q3, .ref q4, .ref q6, .int count, .int captureCount])), (q1, .inl (aC 0, 513, .inl kinds)), (q2, .inl (aC 0, 513, .inl ones)), (q3, .inl (aC 0, 513, .inl twos)), (q4, .inr (1, [.ref q5])), (q5, .inl (aC 2, 2052, .inr (.inl sets_words))), (q6, .inl (aC 0, 32, .inl states))]) (wn := [(q0, .inr (2, [.ref q1, .ref q2, .ref q3, .ref q4, .ref q6, .int count, .int captureCount])), (q1, .inl (aC 0, 513, .inl kinds)), (q2, .inl (aC 0, 513, .inl ones)), (q3, .inl (aC 0, 513, .inl twos)), (q4, .inr (1, [.ref q5])), (q5, .inl (aC 2, 2052, .inr (.inl sets_words))), (q6, .inl (aC 0, 32, .inl states)), (q7, .inr (0, [.ref q8, .int p_length])), (q8, .inl (aC 1, p_n, .inl p_bytes))]) ⟨hx, hb, hml, hown, hts⟩ (c_X2_latestOpen l DD aC tt q0 q1 q2 q3 q4 q5 q6  count captureCount kinds ones twos sets_words states  hp_1 z_5 hz_5) (cwV 0 hts (gdV w_334 w_336 w_14 w_71 w_337) rfl rfl rfl (by decide +kernel) ⟨Nat.le_of_ble_eq_true rfl, Nat.le_of_ble_eq_true rfl⟩) hP hD hS hA hE [0, 1, 2, 3, 4, 5, 6] [7, 8] [2, 3, 4, 5, 6, 7, 8, 0, 1] rfl rfl rfl (by decide) (by decide) (by decide) (by decide) (ci := 2) (q0 := 0) rfl rfl rfl hl.1 rfl (Nat.le_of_ble_eq_true rfl) dX2_read_79 (fun H locs hP hD hS => ?_)
        refine W.eq (g2 := F0 m 82 ls [.int z_5]) rfl ?_
        refine lv_iconst (v := (-1)) hx hb dX2_read_82 (by decide) ?_
        refine lv_icmp_ne (tgt := 90) hx hb dX2_read_83 (by decide) (fun c_6 => ?_) (fun c_6 => ?_)
        · replace hu := hu.trans (if_neg c_6)
          refine lv_iconst (v := 0) hx hb dX2_read_90 (by decide) ?_
          refine lv_istore (lv' := [(4, .int 0), (0, .ref q0), (1, .ref q7), (2, .int x2), (3, .int x3)]) hx hb dX2_read_91 hl (by decide) rfl (fun ls hl => ?_)
          refine lv_aload_n hx hb dX2_read_93 rfl (lv_at hl 1 rfl) ?_
          refine lv_iload hx hb dX2_read_94 (lv_at hl 0 rfl) ?_
          refine lv_if_eq (tgt := 103) hx hb dX2_read_96 (by decide) (fun _ => ?_) (fun h => absurd (by decide) h)
          refine lv_iconst (v := 0) hx hb dX2_read_103 (by decide) ?_
          refine lv_iconst (v := 0) hx hb dX2_read_104 (by decide) ?_
          refine lv_iconst (v := 0) hx hb dX2_read_105 (by decide) ?_
          obtain ⟨z_7, hz_7⟩ : ∃ z, z = f_X2_add count kinds ones twos 0 0 0 := ⟨_, rfl⟩
          replace hu := hu.trans (kb_of hz_7)
          refine k_callV (As := [.int 0, .int 0, .int 0]) (rest := []) (wc := [(q0, .inr (2, [.ref q1, .ref q2, .ref q3, .ref q4, .ref q6, .int count, .int captureCount])), (q1, .inl (aC 0, 513, .inl kinds)), (q2, .inl (aC 0, 513, .inl ones)), (q3, .inl (aC 0, 513, .inl twos)), (q4, .inr (1, [.ref q5])), (q5, .inl (aC 2, 2052, .inr (.inl sets_words))), (q6, .inl (aC 0, 32, .inl states))]) (wr := [(q7, .inr (0, [.ref q8, .int p_length])), (q8, .inl (aC 1, p_n, .inl p_bytes))]) (w1 := [(q0, .inr (2, [.ref q1, .ref q2, .ref q3, .ref q4, .ref q6, .int z_7.1, .int captureCount])), (q1, .inl (aC 0, 513, .inl z_7.2.1)), (q2, .inl (aC 0, 513, .inl z_7.2.2.1)), (q3, .inl (aC 0, 513, .inl z_7.2.2.2)), (q4, .inr (1, [.ref q5])), (q5, .inl (aC 2, 2052, .inr (.inl sets_words))), (q6, .inl (aC 0, 32, .inl states))]) (wn := [(q0, .inr (2, [.ref q1, .ref q2, .ref q3, .ref q4, .ref q6, .int z_7.1, .int captureCount])), (q1, .inl (aC 0, 513, .inl z_7.2.1)), (q2, .inl (aC 0, 513, .inl z_7.2.2.1)), (q3, .inl (aC 0, 513, .inl z_7.2.2.2)), (q4, .inr (1, [.ref q5])), (q5, .inl (aC 2, 2052, .inr (.inl sets_words))), (q6, .inl (aC 0, 32, .inl states)), (q7, .inr (0, [.ref q8, .int p_length])), (q8, .inl (aC 1, p_n, .inl p_bytes))]) ⟨hx, hb, hml, hown, hts⟩ (c_X2_add l DD aC tt q0 q1 q2 q3 q4 q5 q6  count captureCount kinds ones twos sets_words states 0 0 0 hp_0 z_7 hz_7) (cwV 3 hts (gdV w_318 w_320 w_10 w_71 w_321) rfl rfl rfl (by decide +kernel) ⟨Nat.le_of_ble_eq_true rfl, Nat.le_of_ble_eq_true rfl⟩) hP hD hS hA hE [0, 1, 2, 3, 4, 5, 6] [7, 8] [2, 3, 4, 5, 6, 7, 8, 0, 1] rfl rfl rfl (by decide) (by decide) (by decide) (by decide) (ci := 2) (q0 := 0) rfl rfl rfl hl.1 rfl (Nat.le_of_ble_eq_true rfl) dX2_read_106 (fun H locs hP hD hS => ?_)
          have hP : va_P DD vwCl [(q0, .inr (2, [.ref q1, .ref q2, .ref q3, .ref q4, .ref q6, .int z_7.1, .int captureCount])), (q1, .inl (aC 0, 513, .inl z_7.2.1)), (q2, .inl (aC 0, 513, .inl z_7.2.2.1)), (q3, .inl (aC 0, 513, .inl z_7.2.2.2)), (q4, .inr (1, [.ref q5])), (q5, .inl (aC 2, 2052, .inr (.inl sets_words))), (q6, .inl (aC 0, 32, .inl states)), (q7, .inr (0, [.ref q8, .int p_length])), (q8, .inl (aC 1, p_n, .inl p_bytes))] H := hP
          have hD : va_D A [(q0, .inr (2, [.ref q1, .ref q2, .ref q3, .ref q4, .ref q6, .int z_7.1, .int captureCount])), (q1, .inl (aC 0, 513, .inl z_7.2.1)), (q2, .inl (aC 0, 513, .inl z_7.2.2.1)), (q3, .inl (aC 0, 513, .inl z_7.2.2.2)), (q4, .inr (1, [.ref q5])), (q5, .inl (aC 2, 2052, .inr (.inl sets_words))), (q6, .inl (aC 0, 32, .inl states)), (q7, .inr (0, [.ref q8, .int p_length])), (q8, .inl (aC 1, p_n, .inl p_bytes))] := hD
          refine W.eq (g2 := F0 m 109 ls []) rfl ?_
          have h_8 := pf_X2_add hp_0 hz_7
          subst hu
          exact k_vret hx hb hr hlocks hP hD hS rfl rfl dX2_read_109
        · replace hu := hu.trans (if_pos c_6)
          refine lv_iconst (v := 1) hx hb dX2_read_86 (by decide) ?_
          refine lv_goto (tgt := 91) hx hb dX2_read_87 (by decide) ?_
          refine lv_istore (lv' := [(4, .int 1), (0, .ref q0), (1, .ref q7), (2, .int x2), (3, .int x3)]) hx hb dX2_read_91 hl (by decide) rfl (fun ls hl => ?_)
          refine lv_aload_n hx hb dX2_read_93 rfl (lv_at hl 1 rfl) ?_
          refine lv_iload hx hb dX2_read_94 (lv_at hl 0 rfl) ?_
          refine lv_if_eq (tgt := 103) hx hb dX2_read_96 (by decide) (fun h => absurd h (by decide)) (fun _ => ?_)
          refine lv_iconst (v := 1) hx hb dX2_read_99 (by decide) ?_
          refine lv_goto (tgt := 104) hx hb dX2_read_100 (by decide) ?_
          refine lv_iconst (v := 0) hx hb dX2_read_104 (by decide) ?_
          refine lv_iconst (v := 0) hx hb dX2_read_105 (by decide) ?_
          obtain ⟨z_9, hz_9⟩ : ∃ z, z = f_X2_add count kinds ones twos 1 0 0 := ⟨_, rfl⟩
          replace hu := hu.trans (kb_of hz_9)
          refine k_callV (As := [.int 1, .int 0, .int 0]) (rest := []) (wc := [(q0, .inr (2, [.ref q1, .ref q2, .ref q3, .ref q4, .ref q6, .int count, .int captureCount])), (q1, .inl (aC 0, 513, .inl kinds)), (q2, .inl (aC 0, 513, .inl ones)), (q3, .inl (aC 0, 513, .inl twos)), (q4, .inr (1, [.ref q5])), (q5, .inl (aC 2, 2052, .inr (.inl sets_words))), (q6, .inl (aC 0, 32, .inl states))]) (wr := [(q7, .inr (0, [.ref q8, .int p_length])), (q8, .inl (aC 1, p_n, .inl p_bytes))]) (w1 := [(q0, .inr (2, [.ref q1, .ref q2, .ref q3, .ref q4, .ref q6, .int z_9.1, .int captureCount])), (q1, .inl (aC 0, 513, .inl z_9.2.1)), (q2, .inl (aC 0, 513, .inl z_9.2.2.1)), (q3, .inl (aC 0, 513, .inl z_9.2.2.2)), (q4, .inr (1, [.ref q5])), (q5, .inl (aC 2, 2052, .inr (.inl sets_words))), (q6, .inl (aC 0, 32, .inl states))]) (wn := [(q0, .inr (2, [.ref q1, .ref q2, .ref q3, .ref q4, .ref q6, .int z_9.1, .int captureCount])), (q1, .inl (aC 0, 513, .inl z_9.2.1)), (q2, .inl (aC 0, 513, .inl z_9.2.2.1)), (q3, .inl (aC 0, 513, .inl z_9.2.2.2)), (q4, .inr (1, [.ref q5])), (q5, .inl (aC 2, 2052, .inr (.inl sets_words))), (q6, .inl (aC 0, 32, .inl states)), (q7, .inr (0, [.ref q8, .int p_length])), (q8, .inl (aC 1, p_n, .inl p_bytes))]) ⟨hx, hb, hml, hown, hts⟩ (c_X2_add l DD aC tt q0 q1 q2 q3 q4 q5 q6  count captureCount kinds ones twos sets_words states 1 0 0 hp_0 z_9 hz_9) (cwV 3 hts (gdV w_318 w_320 w_10 w_71 w_321) rfl rfl rfl (by decide +kernel) ⟨Nat.le_of_ble_eq_true rfl, Nat.le_of_ble_eq_true rfl⟩) hP hD hS hA hE [0, 1, 2, 3, 4, 5, 6] [7, 8] [2, 3, 4, 5, 6, 7, 8, 0, 1] rfl rfl rfl (by decide) (by decide) (by decide) (by decide) (ci := 2) (q0 := 0) rfl rfl rfl hl.1 rfl (Nat.le_of_ble_eq_true rfl) dX2_read_106 (fun H locs hP hD hS => ?_)
          have hP : va_P DD vwCl [(q0, .inr (2, [.ref q1, .ref q2, .ref q3, .ref q4, .ref q6, .int z_9.1, .int captureCount])), (q1, .inl (aC 0, 513, .inl z_9.2.1)), (q2, .inl (aC 0, 513, .inl z_9.2.2.1)), (q3, .inl (aC 0, 513, .inl z_9.2.2.2)), (q4, .inr (1, [.ref q5])), (q5, .inl (aC 2, 2052, .inr (.inl sets_words))), (q6, .inl (aC 0, 32, .inl states)), (q7, .inr (0, [.ref q8, .int p_length])), (q8, .inl (aC 1, p_n, .inl p_bytes))] H := hP
          have hD : va_D A [(q0, .inr (2, [.ref q1, .ref q2, .ref q3, .ref q4, .ref q6, .int z_9.1, .int captureCount])), (q1, .inl (aC 0, 513, .inl z_9.2.1)), (q2, .inl (aC 0, 513, .inl z_9.2.2.1)), (q3, .inl (aC 0, 513, .inl z_9.2.2.2)), (q4, .inr (1, [.ref q5])), (q5, .inl (aC 2, 2052, .inr (.inl sets_words))), (q6, .inl (aC 0, 32, .inl states)), (q7, .inr (0, [.ref q8, .int p_length])), (q8, .inl (aC 1, p_n, .inl p_bytes))] := hD
          refine W.eq (g2 := F0 m 109 ls []) rfl ?_
          have h_10 := pf_X2_add hp_0 hz_9
          subst hu
          exact k_vret hx hb hr hlocks hP hD hS rfl rfl dX2_read_109
    · replace hu := hu.trans (if_neg c_1)
      refine lv_iload_n hx hb dX2_read_23 rfl (lv_at hl 3 rfl) ?_
      refine lv_iconst (v := (-1)) hx hb dX2_read_24 (by decide) ?_
      refine lv_icmp_eq (tgt := 73) hx hb dX2_read_25 (by decide) (fun c_11 => ?_) (fun c_11 => ?_)
      · replace hu := hu.trans (if_pos c_11)
        refine lv_iload_n hx hb dX2_read_73 rfl (lv_at hl 3 rfl) ?_
        refine lv_iconst (v := (-1)) hx hb dX2_read_74 (by decide) ?_
        refine lv_icmp_eq (tgt := 90) hx hb dX2_read_75 (by decide) (fun _ => ?_) (fun h => absurd c_11 h)
        refine lv_iconst (v := 0) hx hb dX2_read_90 (by decide) ?_
        refine lv_istore (lv' := [(4, .int 0), (0, .ref q0), (1, .ref q7), (2, .int x2), (3, .int x3)]) hx hb dX2_read_91 hl (by decide) rfl (fun ls hl => ?_)
        refine lv_aload_n hx hb dX2_read_93 rfl (lv_at hl 1 rfl) ?_
        refine lv_iload hx hb dX2_read_94 (lv_at hl 0 rfl) ?_
        refine lv_if_eq (tgt := 103) hx hb dX2_read_96 (by decide) (fun _ => ?_) (fun h => absurd (by decide) h)
        refine lv_iconst (v := 0) hx hb dX2_read_103 (by decide) ?_
        refine lv_iconst (v := 0) hx hb dX2_read_104 (by decide) ?_
        refine lv_iconst (v := 0) hx hb dX2_read_105 (by decide) ?_
        obtain ⟨z_12, hz_12⟩ : ∃ z, z = f_X2_add count kinds ones twos 0 0 0 := ⟨_, rfl⟩
        replace hu := hu.trans (kb_of hz_12)
        refine k_callV (As := [.int 0, .int 0, .int 0]) (rest := []) (wc := [(q0, .inr (2, [.ref q1, .ref q2, .ref q3, .ref q4, .ref q6, .int count, .int captureCount])), (q1, .inl (aC 0, 513, .inl kinds)), (q2, .inl (aC 0, 513, .inl ones)), (q3, .inl (aC 0, 513, .inl twos)), (q4, .inr (1, [.ref q5])), (q5, .inl (aC 2, 2052, .inr (.inl sets_words))), (q6, .inl (aC 0, 32, .inl states))]) (wr := [(q7, .inr (0, [.ref q8, .int p_length])), (q8, .inl (aC 1, p_n, .inl p_bytes))]) (w1 := [(q0, .inr (2, [.ref q1, .ref q2, .ref q3, .ref q4, .ref q6, .int z_12.1, .int captureCount])), (q1, .inl (aC 0, 513, .inl z_12.2.1)), (q2, .inl (aC 0, 513, .inl z_12.2.2.1)), (q3, .inl (aC 0, 513, .inl z_12.2.2.2)), (q4, .inr (1, [.ref q5])), (q5, .inl (aC 2, 2052, .inr (.inl sets_words))), (q6, .inl (aC 0, 32, .inl states))]) (wn := [(q0, .inr (2, [.ref q1, .ref q2, .ref q3, .ref q4, .ref q6, .int z_12.1, .int captureCount])), (q1, .inl (aC 0, 513, .inl z_12.2.1)), (q2, .inl (aC 0, 513, .inl z_12.2.2.1)), (q3, .inl (aC 0, 513, .inl z_12.2.2.2)), (q4, .inr (1, [.ref q5])), (q5, .inl (aC 2, 2052, .inr (.inl sets_words))), (q6, .inl (aC 0, 32, .inl states)), (q7, .inr (0, [.ref q8, .int p_length])), (q8, .inl (aC 1, p_n, .inl p_bytes))]) ⟨hx, hb, hml, hown, hts⟩ (c_X2_add l DD aC tt q0 q1 q2 q3 q4 q5 q6  count captureCount kinds ones twos sets_words states 0 0 0 hp_0 z_12 hz_12) (cwV 3 hts (gdV w_318 w_320 w_10 w_71 w_321) rfl rfl rfl (by decide +kernel) ⟨Nat.le_of_ble_eq_true rfl, Nat.le_of_ble_eq_true rfl⟩) hP hD hS hA hE [0, 1, 2, 3, 4, 5, 6] [7, 8] [2, 3, 4, 5, 6, 7, 8, 0, 1] rfl rfl rfl (by decide) (by decide) (by decide) (by decide) (ci := 2) (q0 := 0) rfl rfl rfl hl.1 rfl (Nat.le_of_ble_eq_true rfl) dX2_read_106 (fun H locs hP hD hS => ?_)
        have hP : va_P DD vwCl [(q0, .inr (2, [.ref q1, .ref q2, .ref q3, .ref q4, .ref q6, .int z_12.1, .int captureCount])), (q1, .inl (aC 0, 513, .inl z_12.2.1)), (q2, .inl (aC 0, 513, .inl z_12.2.2.1)), (q3, .inl (aC 0, 513, .inl z_12.2.2.2)), (q4, .inr (1, [.ref q5])), (q5, .inl (aC 2, 2052, .inr (.inl sets_words))), (q6, .inl (aC 0, 32, .inl states)), (q7, .inr (0, [.ref q8, .int p_length])), (q8, .inl (aC 1, p_n, .inl p_bytes))] H := hP
        have hD : va_D A [(q0, .inr (2, [.ref q1, .ref q2, .ref q3, .ref q4, .ref q6, .int z_12.1, .int captureCount])), (q1, .inl (aC 0, 513, .inl z_12.2.1)), (q2, .inl (aC 0, 513, .inl z_12.2.2.1)), (q3, .inl (aC 0, 513, .inl z_12.2.2.2)), (q4, .inr (1, [.ref q5])), (q5, .inl (aC 2, 2052, .inr (.inl sets_words))), (q6, .inl (aC 0, 32, .inl states)), (q7, .inr (0, [.ref q8, .int p_length])), (q8, .inl (aC 1, p_n, .inl p_bytes))] := hD
        refine W.eq (g2 := F0 m 109 ls []) rfl ?_
        have h_13 := pf_X2_add hp_0 hz_12
        subst hu
        exact k_vret hx hb hr hlocks hP hD hS rfl rfl dX2_read_109
      · replace hu := hu.trans (if_neg c_11)
        refine lv_iload_n hx hb dX2_read_28 rfl (lv_at hl 3 rfl) ?_
        refine lv_aload_n hx hb dX2_read_29 rfl (lv_at hl 1 rfl) ?_
        refine k_callV (As := []) (rest := [.int x3]) (wc := [(q7, .inr (0, [.ref q8, .int p_length])), (q8, .inl (aC 1, p_n, .inl p_bytes))]) (wr := [(q0, .inr (2, [.ref q1, .ref q2, .ref q3, .ref q4, .ref q6, .int count, .int captureCount])), (q1, .inl (aC 0, 513, .inl kinds)), (q2, .inl (aC 0, 513, .inl ones)), (q3, .inl (aC 0, 513, .inl twos)), (q4, .inr (1, [.ref q5])), (q5, .inl (aC 2, 2052, .inr (.inl sets_words))), (q6, .inl (aC 0, 32, .inl states))]) (w1 := [(q7, .inr (0, [.ref q8, .int p_length])), (q8, .inl (aC 1, p_n, .inl p_bytes))]) (wn := [(q0, .inr (2, [.ref q1, .ref q2, .ref q3, .ref q4, .ref q6, .int count, .int captureCount])), (q1, .inl (aC 0, 513, .inl kinds)), (q2, .inl (aC 0, 513, .inl ones)), (q3, .inl (aC 0, 513, .inl twos)), (q4, .inr (1, [.ref q5])), (q5, .inl (aC 2, 2052, .inr (.inl sets_words))), (q6, .inl (aC 0, 32, .inl states)), (q7, .inr (0, [.ref q8, .int p_length])), (q8, .inl (aC 1, p_n, .inl p_bytes))]) ⟨hx, hb, hml, hown, hts⟩ (c_X0_length l DD aC tt q7 q8 p_n p_length p_bytes   p_length rfl) (cwV 0 hts (gdV w_266 w_235 w_236 w_69 w_237) rfl rfl rfl (by decide +kernel) ⟨Nat.le_of_ble_eq_true rfl, Nat.le_of_ble_eq_true rfl⟩) hP hD hS hA hE [7, 8] [0, 1, 2, 3, 4, 5, 6] [0, 1, 2, 3, 4, 5, 6, 7, 8] rfl rfl rfl (by decide) (by decide) (by decide) (by decide) (ci := 0) (q0 := 0) rfl rfl rfl hl.1 rfl (Nat.le_of_ble_eq_true rfl) dX2_read_30 (fun H locs hP hD hS => ?_)
        refine W.eq (g2 := F0 m 33 ls [.int p_length, .int x3]) rfl ?_
        refine lv_icmp_ge (tgt := 73) hx hb dX2_read_33 (by decide) (fun c_14 => ?_) (fun c_14 => ?_)
        · replace hu := hu.trans (if_pos c_14)
          refine lv_iload_n hx hb dX2_read_73 rfl (lv_at hl 3 rfl) ?_
          refine lv_iconst (v := (-1)) hx hb dX2_read_74 (by decide) ?_
          refine lv_icmp_eq (tgt := 90) hx hb dX2_read_75 (by decide) (fun h => absurd h c_11) (fun _ => ?_)
          refine lv_aload_n hx hb dX2_read_78 rfl (lv_at hl 0 rfl) ?_
          obtain ⟨z_15, hz_15⟩ : ∃ z, z = f_X2_latestOpen captureCount states := ⟨_, rfl⟩
          replace hu := hu.trans (kb_of hz_15)
          refine k_callV (As := []) (rest := []) (wc := [(q0, .inr (2, [.ref q1, .ref q2, .ref q3, .ref q4, .ref q6, .int count, .int captureCount])), (q1, .inl (aC 0, 513, .inl kinds)), (q2, .inl (aC 0, 513, .inl ones)), (q3, .inl (aC 0, 513, .inl twos)), (q4, .inr (1, [.ref q5])), (q5, .inl (aC 2, 2052, .inr (.inl sets_words))), (q6, .inl (aC 0, 32, .inl states))]) (wr := [(q7, .inr (0, [.ref q8, .int p_length])), (q8, .inl (aC 1, p_n, .inl p_bytes))]) (w1 := [(q0, .inr (2, [.ref q1, .ref q2, .ref q3, .ref q4, .ref q6, .int count, .int captureCount])), (q1, .inl (aC 0, 513, .inl kinds)), (q2, .inl (aC 0, 513, .inl ones)), (q3, .inl (aC 0, 513, .inl twos)), (q4, .inr (1, [.ref q5])), (q5, .inl (aC 2, 2052, .inr (.inl sets_words))), (q6, .inl (aC 0, 32, .inl states))]) (wn := [(q0, .inr (2, [.ref q1, .ref q2, .ref q3, .ref q4, .ref q6, .int count, .int captureCount])), (q1, .inl (aC 0, 513, .inl kinds)), (q2, .inl (aC 0, 513, .inl ones)), (q3, .inl (aC 0, 513, .inl twos)), (q4, .inr (1, [.ref q5])), (q5, .inl (aC 2, 2052, .inr (.inl sets_words))), (q6, .inl (aC 0, 32, .inl states)), (q7, .inr (0, [.ref q8, .int p_length])), (q8, .inl (aC 1, p_n, .inl p_bytes))]) ⟨hx, hb, hml, hown, hts⟩ (c_X2_latestOpen l DD aC tt q0 q1 q2 q3 q4 q5 q6  count captureCount kinds ones twos sets_words states  hp_1 z_15 hz_15) (cwV 0 hts (gdV w_334 w_336 w_14 w_71 w_337) rfl rfl rfl (by decide +kernel) ⟨Nat.le_of_ble_eq_true rfl, Nat.le_of_ble_eq_true rfl⟩) hP hD hS hA hE [0, 1, 2, 3, 4, 5, 6] [7, 8] [2, 3, 4, 5, 6, 7, 8, 0, 1] rfl rfl rfl (by decide) (by decide) (by decide) (by decide) (ci := 2) (q0 := 0) rfl rfl rfl hl.1 rfl (Nat.le_of_ble_eq_true rfl) dX2_read_79 (fun H locs hP hD hS => ?_)
          refine W.eq (g2 := F0 m 82 ls [.int z_15]) rfl ?_
          refine lv_iconst (v := (-1)) hx hb dX2_read_82 (by decide) ?_
          refine lv_icmp_ne (tgt := 90) hx hb dX2_read_83 (by decide) (fun c_16 => ?_) (fun c_16 => ?_)
          · replace hu := hu.trans (if_neg c_16)
            refine lv_iconst (v := 0) hx hb dX2_read_90 (by decide) ?_
            refine lv_istore (lv' := [(4, .int 0), (0, .ref q0), (1, .ref q7), (2, .int x2), (3, .int x3)]) hx hb dX2_read_91 hl (by decide) rfl (fun ls hl => ?_)
            refine lv_aload_n hx hb dX2_read_93 rfl (lv_at hl 1 rfl) ?_
            refine lv_iload hx hb dX2_read_94 (lv_at hl 0 rfl) ?_
            refine lv_if_eq (tgt := 103) hx hb dX2_read_96 (by decide) (fun _ => ?_) (fun h => absurd (by decide) h)
            refine lv_iconst (v := 0) hx hb dX2_read_103 (by decide) ?_
            refine lv_iconst (v := 0) hx hb dX2_read_104 (by decide) ?_
            refine lv_iconst (v := 0) hx hb dX2_read_105 (by decide) ?_
            obtain ⟨z_17, hz_17⟩ : ∃ z, z = f_X2_add count kinds ones twos 0 0 0 := ⟨_, rfl⟩
            replace hu := hu.trans (kb_of hz_17)
            refine k_callV (As := [.int 0, .int 0, .int 0]) (rest := []) (wc := [(q0, .inr (2, [.ref q1, .ref q2, .ref q3, .ref q4, .ref q6, .int count, .int captureCount])), (q1, .inl (aC 0, 513, .inl kinds)), (q2, .inl (aC 0, 513, .inl ones)), (q3, .inl (aC 0, 513, .inl twos)), (q4, .inr (1, [.ref q5])), (q5, .inl (aC 2, 2052, .inr (.inl sets_words))), (q6, .inl (aC 0, 32, .inl states))]) (wr := [(q7, .inr (0, [.ref q8, .int p_length])), (q8, .inl (aC 1, p_n, .inl p_bytes))]) (w1 := [(q0, .inr (2, [.ref q1, .ref q2, .ref q3, .ref q4, .ref q6, .int z_17.1, .int captureCount])), (q1, .inl (aC 0, 513, .inl z_17.2.1)), (q2, .inl (aC 0, 513, .inl z_17.2.2.1)), (q3, .inl (aC 0, 513, .inl z_17.2.2.2)), (q4, .inr (1, [.ref q5])), (q5, .inl (aC 2, 2052, .inr (.inl sets_words))), (q6, .inl (aC 0, 32, .inl states))]) (wn := [(q0, .inr (2, [.ref q1, .ref q2, .ref q3, .ref q4, .ref q6, .int z_17.1, .int captureCount])), (q1, .inl (aC 0, 513, .inl z_17.2.1)), (q2, .inl (aC 0, 513, .inl z_17.2.2.1)), (q3, .inl (aC 0, 513, .inl z_17.2.2.2)), (q4, .inr (1, [.ref q5])), (q5, .inl (aC 2, 2052, .inr (.inl sets_words))), (q6, .inl (aC 0, 32, .inl states)), (q7, .inr (0, [.ref q8, .int p_length])), (q8, .inl (aC 1, p_n, .inl p_bytes))]) ⟨hx, hb, hml, hown, hts⟩ (c_X2_add l DD aC tt q0 q1 q2 q3 q4 q5 q6  count captureCount kinds ones twos sets_words states 0 0 0 hp_0 z_17 hz_17) (cwV 3 hts (gdV w_318 w_320 w_10 w_71 w_321) rfl rfl rfl (by decide +kernel) ⟨Nat.le_of_ble_eq_true rfl, Nat.le_of_ble_eq_true rfl⟩) hP hD hS hA hE [0, 1, 2, 3, 4, 5, 6] [7, 8] [2, 3, 4, 5, 6, 7, 8, 0, 1] rfl rfl rfl (by decide) (by decide) (by decide) (by decide) (ci := 2) (q0 := 0) rfl rfl rfl hl.1 rfl (Nat.le_of_ble_eq_true rfl) dX2_read_106 (fun H locs hP hD hS => ?_)
            have hP : va_P DD vwCl [(q0, .inr (2, [.ref q1, .ref q2, .ref q3, .ref q4, .ref q6, .int z_17.1, .int captureCount])), (q1, .inl (aC 0, 513, .inl z_17.2.1)), (q2, .inl (aC 0, 513, .inl z_17.2.2.1)), (q3, .inl (aC 0, 513, .inl z_17.2.2.2)), (q4, .inr (1, [.ref q5])), (q5, .inl (aC 2, 2052, .inr (.inl sets_words))), (q6, .inl (aC 0, 32, .inl states)), (q7, .inr (0, [.ref q8, .int p_length])), (q8, .inl (aC 1, p_n, .inl p_bytes))] H := hP
            have hD : va_D A [(q0, .inr (2, [.ref q1, .ref q2, .ref q3, .ref q4, .ref q6, .int z_17.1, .int captureCount])), (q1, .inl (aC 0, 513, .inl z_17.2.1)), (q2, .inl (aC 0, 513, .inl z_17.2.2.1)), (q3, .inl (aC 0, 513, .inl z_17.2.2.2)), (q4, .inr (1, [.ref q5])), (q5, .inl (aC 2, 2052, .inr (.inl sets_words))), (q6, .inl (aC 0, 32, .inl states)), (q7, .inr (0, [.ref q8, .int p_length])), (q8, .inl (aC 1, p_n, .inl p_bytes))] := hD
            refine W.eq (g2 := F0 m 109 ls []) rfl ?_
            have h_18 := pf_X2_add hp_0 hz_17
            subst hu
            exact k_vret hx hb hr hlocks hP hD hS rfl rfl dX2_read_109
          · replace hu := hu.trans (if_pos c_16)
            refine lv_iconst (v := 1) hx hb dX2_read_86 (by decide) ?_
            refine lv_goto (tgt := 91) hx hb dX2_read_87 (by decide) ?_
            refine lv_istore (lv' := [(4, .int 1), (0, .ref q0), (1, .ref q7), (2, .int x2), (3, .int x3)]) hx hb dX2_read_91 hl (by decide) rfl (fun ls hl => ?_)
            refine lv_aload_n hx hb dX2_read_93 rfl (lv_at hl 1 rfl) ?_
            refine lv_iload hx hb dX2_read_94 (lv_at hl 0 rfl) ?_
            refine lv_if_eq (tgt := 103) hx hb dX2_read_96 (by decide) (fun h => absurd h (by decide)) (fun _ => ?_)
            refine lv_iconst (v := 1) hx hb dX2_read_99 (by decide) ?_
            refine lv_goto (tgt := 104) hx hb dX2_read_100 (by decide) ?_
            refine lv_iconst (v := 0) hx hb dX2_read_104 (by decide) ?_
            refine lv_iconst (v := 0) hx hb dX2_read_105 (by decide) ?_
            obtain ⟨z_19, hz_19⟩ : ∃ z, z = f_X2_add count kinds ones twos 1 0 0 := ⟨_, rfl⟩
            replace hu := hu.trans (kb_of hz_19)
            refine k_callV (As := [.int 1, .int 0, .int 0]) (rest := []) (wc := [(q0, .inr (2, [.ref q1, .ref q2, .ref q3, .ref q4, .ref q6, .int count, .int captureCount])), (q1, .inl (aC 0, 513, .inl kinds)), (q2, .inl (aC 0, 513, .inl ones)), (q3, .inl (aC 0, 513, .inl twos)), (q4, .inr (1, [.ref q5])), (q5, .inl (aC 2, 2052, .inr (.inl sets_words))), (q6, .inl (aC 0, 32, .inl states))]) (wr := [(q7, .inr (0, [.ref q8, .int p_length])), (q8, .inl (aC 1, p_n, .inl p_bytes))]) (w1 := [(q0, .inr (2, [.ref q1, .ref q2, .ref q3, .ref q4, .ref q6, .int z_19.1, .int captureCount])), (q1, .inl (aC 0, 513, .inl z_19.2.1)), (q2, .inl (aC 0, 513, .inl z_19.2.2.1)), (q3, .inl (aC 0, 513, .inl z_19.2.2.2)), (q4, .inr (1, [.ref q5])), (q5, .inl (aC 2, 2052, .inr (.inl sets_words))), (q6, .inl (aC 0, 32, .inl states))]) (wn := [(q0, .inr (2, [.ref q1, .ref q2, .ref q3, .ref q4, .ref q6, .int z_19.1, .int captureCount])), (q1, .inl (aC 0, 513, .inl z_19.2.1)), (q2, .inl (aC 0, 513, .inl z_19.2.2.1)), (q3, .inl (aC 0, 513, .inl z_19.2.2.2)), (q4, .inr (1, [.ref q5])), (q5, .inl (aC 2, 2052, .inr (.inl sets_words))), (q6, .inl (aC 0, 32, .inl states)), (q7, .inr (0, [.ref q8, .int p_length])), (q8, .inl (aC 1, p_n, .inl p_bytes))]) ⟨hx, hb, hml, hown, hts⟩ (c_X2_add l DD aC tt q0 q1 q2 q3 q4 q5 q6  count captureCount kinds ones twos sets_words states 1 0 0 hp_0 z_19 hz_19) (cwV 3 hts (gdV w_318 w_320 w_10 w_71 w_321) rfl rfl rfl (by decide +kernel) ⟨Nat.le_of_ble_eq_true rfl, Nat.le_of_ble_eq_true rfl⟩) hP hD hS hA hE [0, 1, 2, 3, 4, 5, 6] [7, 8] [2, 3, 4, 5, 6, 7, 8, 0, 1] rfl rfl rfl (by decide) (by decide) (by decide) (by decide) (ci := 2) (q0 := 0) rfl rfl rfl hl.1 rfl (Nat.le_of_ble_eq_true rfl) dX2_read_106 (fun H locs hP hD hS => ?_)
            have hP : va_P DD vwCl [(q0, .inr (2, [.ref q1, .ref q2, .ref q3, .ref q4, .ref q6, .int z_19.1, .int captureCount])), (q1, .inl (aC 0, 513, .inl z_19.2.1)), (q2, .inl (aC 0, 513, .inl z_19.2.2.1)), (q3, .inl (aC 0, 513, .inl z_19.2.2.2)), (q4, .inr (1, [.ref q5])), (q5, .inl (aC 2, 2052, .inr (.inl sets_words))), (q6, .inl (aC 0, 32, .inl states)), (q7, .inr (0, [.ref q8, .int p_length])), (q8, .inl (aC 1, p_n, .inl p_bytes))] H := hP
            have hD : va_D A [(q0, .inr (2, [.ref q1, .ref q2, .ref q3, .ref q4, .ref q6, .int z_19.1, .int captureCount])), (q1, .inl (aC 0, 513, .inl z_19.2.1)), (q2, .inl (aC 0, 513, .inl z_19.2.2.1)), (q3, .inl (aC 0, 513, .inl z_19.2.2.2)), (q4, .inr (1, [.ref q5])), (q5, .inl (aC 2, 2052, .inr (.inl sets_words))), (q6, .inl (aC 0, 32, .inl states)), (q7, .inr (0, [.ref q8, .int p_length])), (q8, .inl (aC 1, p_n, .inl p_bytes))] := hD
            refine W.eq (g2 := F0 m 109 ls []) rfl ?_
            have h_20 := pf_X2_add hp_0 hz_19
            subst hu
            exact k_vret hx hb hr hlocks hP hD hS rfl rfl dX2_read_109
        · replace hu := hu.trans (if_neg c_14)
          refine lv_aload_n hx hb dX2_read_36 rfl (lv_at hl 1 rfl) ?_
          refine lv_iload_n hx hb dX2_read_37 rfl (lv_at hl 3 rfl) ?_
          obtain ⟨z_21, hz_21⟩ : ∃ z, z = f_X2_kindAt p_length p_bytes x3 := ⟨_, rfl⟩
          replace hu := hu.trans (kb_of hz_21)
          refine k_callS (As := [.ref q7, .int x3]) (rest := []) (wc := [(q7, .inr (0, [.ref q8, .int p_length])), (q8, .inl (aC 1, p_n, .inl p_bytes))]) (wr := [(q0, .inr (2, [.ref q1, .ref q2, .ref q3, .ref q4, .ref q6, .int count, .int captureCount])), (q1, .inl (aC 0, 513, .inl kinds)), (q2, .inl (aC 0, 513, .inl ones)), (q3, .inl (aC 0, 513, .inl twos)), (q4, .inr (1, [.ref q5])), (q5, .inl (aC 2, 2052, .inr (.inl sets_words))), (q6, .inl (aC 0, 32, .inl states))]) (w1 := [(q7, .inr (0, [.ref q8, .int p_length])), (q8, .inl (aC 1, p_n, .inl p_bytes))]) (wn := [(q0, .inr (2, [.ref q1, .ref q2, .ref q3, .ref q4, .ref q6, .int count, .int captureCount])), (q1, .inl (aC 0, 513, .inl kinds)), (q2, .inl (aC 0, 513, .inl ones)), (q3, .inl (aC 0, 513, .inl twos)), (q4, .inr (1, [.ref q5])), (q5, .inl (aC 2, 2052, .inr (.inl sets_words))), (q6, .inl (aC 0, 32, .inl states)), (q7, .inr (0, [.ref q8, .int p_length])), (q8, .inl (aC 1, p_n, .inl p_bytes))]) ⟨hx, hb, hml, hown, hts⟩ (c_X2_kindAt l DD aC tt q7 q8 p_n p_length p_bytes x3 hp_2 z_21 hz_21) (cwS 2 hts (gdS w_267 w_268 w_71 w_269) rfl rfl rfl (by decide +kernel) ⟨Nat.le_of_ble_eq_true rfl, Nat.le_of_ble_eq_true rfl⟩) hP hD hS hA hE [7, 8] [0, 1, 2, 3, 4, 5, 6] [0, 1, 2, 3, 4, 5, 6, 7, 8] rfl rfl rfl (by decide) (by decide) (by decide) (by decide) rfl hl.1 rfl (Nat.le_of_ble_eq_true rfl) dX2_read_38 (fun H locs hP hD hS => ?_)
          refine W.eq (g2 := F0 m 41 ls [.int z_21]) rfl ?_
          refine lv_istore (lv' := [(5, .int z_21), (0, .ref q0), (1, .ref q7), (2, .int x2), (3, .int x3), (4, .int x4)]) hx hb dX2_read_41 hl (by decide) rfl (fun ls hl => ?_)
          refine lv_iload hx hb dX2_read_43 (lv_at hl 0 rfl) ?_
          refine lv_iconst (v := 2) hx hb dX2_read_45 (by decide) ?_
          refine lv_icmp_ne (tgt := 58) hx hb dX2_read_46 (by decide) (fun c_22 => ?_) (fun c_22 => ?_)
          · replace hu := hu.trans (if_neg c_22)
            refine lv_aload_n hx hb dX2_read_58 rfl (lv_at hl 1 rfl) ?_
            refine lv_iload hx hb dX2_read_59 (lv_at hl 0 rfl) ?_
            refine lv_aload_n hx hb dX2_read_61 rfl (lv_at hl 2 rfl) ?_
            refine lv_iload_n hx hb dX2_read_62 rfl (lv_at hl 4 rfl) ?_
            obtain ⟨z_23, hz_23⟩ : ∃ z, z = f_X2_readSpecial count captureCount kinds ones twos sets_words states p_length p_bytes z_21 x3 := ⟨_, rfl⟩
            replace hu := hu.trans (kb_of hz_23)
            refine k_callV (As := [.int z_21, .ref q7, .int x3]) (rest := []) (wc := [(q0, .inr (2, [.ref q1, .ref q2, .ref q3, .ref q4, .ref q6, .int count, .int captureCount])), (q1, .inl (aC 0, 513, .inl kinds)), (q2, .inl (aC 0, 513, .inl ones)), (q3, .inl (aC 0, 513, .inl twos)), (q4, .inr (1, [.ref q5])), (q5, .inl (aC 2, 2052, .inr (.inl sets_words))), (q6, .inl (aC 0, 32, .inl states)), (q7, .inr (0, [.ref q8, .int p_length])), (q8, .inl (aC 1, p_n, .inl p_bytes))]) (wr := []) (w1 := [(q0, .inr (2, [.ref q1, .ref q2, .ref q3, .ref q4, .ref q6, .int z_23.2.1, .int z_23.2.2.1])), (q1, .inl (aC 0, 513, .inl z_23.2.2.2.1)), (q2, .inl (aC 0, 513, .inl z_23.2.2.2.2.1)), (q3, .inl (aC 0, 513, .inl z_23.2.2.2.2.2.1)), (q4, .inr (1, [.ref q5])), (q5, .inl (aC 2, 2052, .inr (.inl z_23.2.2.2.2.2.2.1))), (q6, .inl (aC 0, 32, .inl z_23.2.2.2.2.2.2.2)), (q7, .inr (0, [.ref q8, .int p_length])), (q8, .inl (aC 1, p_n, .inl p_bytes))]) (wn := [(q0, .inr (2, [.ref q1, .ref q2, .ref q3, .ref q4, .ref q6, .int z_23.2.1, .int z_23.2.2.1])), (q1, .inl (aC 0, 513, .inl z_23.2.2.2.1)), (q2, .inl (aC 0, 513, .inl z_23.2.2.2.2.1)), (q3, .inl (aC 0, 513, .inl z_23.2.2.2.2.2.1)), (q4, .inr (1, [.ref q5])), (q5, .inl (aC 2, 2052, .inr (.inl z_23.2.2.2.2.2.2.1))), (q6, .inl (aC 0, 32, .inl z_23.2.2.2.2.2.2.2)), (q7, .inr (0, [.ref q8, .int p_length])), (q8, .inl (aC 1, p_n, .inl p_bytes))]) ⟨hx, hb, hml, hown, hts⟩ (c_X2_readSpecial l DD aC tt q0 q1 q2 q3 q4 q5 q6 q7 q8 p_n count captureCount kinds ones twos sets_words states p_length p_bytes z_21 x3 hp_0 hp_1 hp_2 hp_3 z_23 hz_23) (cwV 3 hts (gdV w_322 w_324 w_11 w_71 w_325) rfl rfl rfl (by decide +kernel) ⟨Nat.le_of_ble_eq_true rfl, Nat.le_of_ble_eq_true rfl⟩) hP hD hS hA hE [0, 1, 2, 3, 4, 5, 6, 7, 8] [] [0, 1, 2, 3, 4, 5, 6, 7, 8] rfl rfl rfl (by decide) (by decide) (by decide) (by decide) (ci := 2) (q0 := 0) rfl rfl rfl hl.1 rfl (Nat.le_of_ble_eq_true rfl) dX2_read_63 (fun H locs hP hD hS => ?_)
            have hP : va_P DD vwCl [(q0, .inr (2, [.ref q1, .ref q2, .ref q3, .ref q4, .ref q6, .int z_23.2.1, .int z_23.2.2.1])), (q1, .inl (aC 0, 513, .inl z_23.2.2.2.1)), (q2, .inl (aC 0, 513, .inl z_23.2.2.2.2.1)), (q3, .inl (aC 0, 513, .inl z_23.2.2.2.2.2.1)), (q4, .inr (1, [.ref q5])), (q5, .inl (aC 2, 2052, .inr (.inl z_23.2.2.2.2.2.2.1))), (q6, .inl (aC 0, 32, .inl z_23.2.2.2.2.2.2.2)), (q7, .inr (0, [.ref q8, .int p_length])), (q8, .inl (aC 1, p_n, .inl p_bytes))] H := hP
            have hD : va_D A [(q0, .inr (2, [.ref q1, .ref q2, .ref q3, .ref q4, .ref q6, .int z_23.2.1, .int z_23.2.2.1])), (q1, .inl (aC 0, 513, .inl z_23.2.2.2.1)), (q2, .inl (aC 0, 513, .inl z_23.2.2.2.2.1)), (q3, .inl (aC 0, 513, .inl z_23.2.2.2.2.2.1)), (q4, .inr (1, [.ref q5])), (q5, .inl (aC 2, 2052, .inr (.inl z_23.2.2.2.2.2.2.1))), (q6, .inl (aC 0, 32, .inl z_23.2.2.2.2.2.2.2)), (q7, .inr (0, [.ref q8, .int p_length])), (q8, .inl (aC 1, p_n, .inl p_bytes))] := hD
            refine W.eq (g2 := F0 m 66 ls [.int z_23.1]) rfl ?_
            have h_24 := pf_X2_readSpecial hp_0 hp_1 hp_2 hp_3 hz_23
            refine lv_istore_n (lv' := [(3, .int z_23.1), (5, .int z_21), (0, .ref q0), (1, .ref q7), (2, .int x2), (4, .int x4)]) hx hb dX2_read_66 rfl hl (by decide) rfl (fun ls hl => ?_)
            refine lv_iinc (v := x4 + 1) (lv' := [(4, .int (x4 + 1)), (3, .int z_23.1), (5, .int z_21), (0, .ref q0), (1, .ref q7), (2, .int x2)]) hx hb dX2_read_67 hl (k := 5) rfl rfl (by decide) rfl (fun ls hl => ?_)
            refine lv_goto (tgt := 15) hx hb dX2_read_70 (by decide) ?_
            exact ih z_23.2.1 z_23.2.2.1 z_23.2.2.2.1 z_23.2.2.2.2.1 z_23.2.2.2.2.2.1 z_23.2.2.2.2.2.2.1 z_23.2.2.2.2.2.2.2 x2 z_23.1 (x4 + 1) h_24.1 h_24.2 (Nat.lt_of_lt_of_le (kmu_up c_1) (Nat.le_of_lt_succ hk)) u hu _ _ _ hP hD hS (lv_sub hl [3, 4, 5, 1, 0] rfl)
          · replace hu := hu.trans (if_pos c_22)
            refine lv_aload_n hx hb dX2_read_49 rfl (lv_at hl 1 rfl) ?_
            refine lv_aload_n hx hb dX2_read_50 rfl (lv_at hl 2 rfl) ?_
            refine lv_iload_n hx hb dX2_read_51 rfl (lv_at hl 4 rfl) ?_
            obtain ⟨z_25, hz_25⟩ : ∃ z, z = f_X2_readRepeated count kinds ones twos sets_words p_length p_bytes x3 := ⟨_, rfl⟩
            replace hu := hu.trans (kb_of hz_25)
            refine k_callV (As := [.ref q7, .int x3]) (rest := []) (wc := [(q0, .inr (2, [.ref q1, .ref q2, .ref q3, .ref q4, .ref q6, .int count, .int captureCount])), (q1, .inl (aC 0, 513, .inl kinds)), (q2, .inl (aC 0, 513, .inl ones)), (q3, .inl (aC 0, 513, .inl twos)), (q4, .inr (1, [.ref q5])), (q5, .inl (aC 2, 2052, .inr (.inl sets_words))), (q6, .inl (aC 0, 32, .inl states)), (q7, .inr (0, [.ref q8, .int p_length])), (q8, .inl (aC 1, p_n, .inl p_bytes))]) (wr := []) (w1 := [(q0, .inr (2, [.ref q1, .ref q2, .ref q3, .ref q4, .ref q6, .int z_25.2.1, .int captureCount])), (q1, .inl (aC 0, 513, .inl z_25.2.2.1)), (q2, .inl (aC 0, 513, .inl z_25.2.2.2.1)), (q3, .inl (aC 0, 513, .inl z_25.2.2.2.2.1)), (q4, .inr (1, [.ref q5])), (q5, .inl (aC 2, 2052, .inr (.inl z_25.2.2.2.2.2))), (q6, .inl (aC 0, 32, .inl states)), (q7, .inr (0, [.ref q8, .int p_length])), (q8, .inl (aC 1, p_n, .inl p_bytes))]) (wn := [(q0, .inr (2, [.ref q1, .ref q2, .ref q3, .ref q4, .ref q6, .int z_25.2.1, .int captureCount])), (q1, .inl (aC 0, 513, .inl z_25.2.2.1)), (q2, .inl (aC 0, 513, .inl z_25.2.2.2.1)), (q3, .inl (aC 0, 513, .inl z_25.2.2.2.2.1)), (q4, .inr (1, [.ref q5])), (q5, .inl (aC 2, 2052, .inr (.inl z_25.2.2.2.2.2))), (q6, .inl (aC 0, 32, .inl states)), (q7, .inr (0, [.ref q8, .int p_length])), (q8, .inl (aC 1, p_n, .inl p_bytes))]) ⟨hx, hb, hml, hown, hts⟩ (c_X2_readRepeated l DD aC tt q0 q1 q2 q3 q4 q5 q6 q7 q8 p_n count captureCount kinds ones twos sets_words states p_length p_bytes x3 hp_0 hp_2 hp_3 z_25 hz_25) (cwV 2 hts (gdV w_271 w_273 w_2 w_71 w_274) rfl rfl rfl (by decide +kernel) ⟨Nat.le_of_ble_eq_true rfl, Nat.le_of_ble_eq_true rfl⟩) hP hD hS hA hE [0, 1, 2, 3, 4, 5, 6, 7, 8] [] [0, 1, 2, 3, 4, 5, 6, 7, 8] rfl rfl rfl (by decide) (by decide) (by decide) (by decide) (ci := 2) (q0 := 0) rfl rfl rfl hl.1 rfl (Nat.le_of_ble_eq_true rfl) dX2_read_52 (fun H locs hP hD hS => ?_)
            have hP : va_P DD vwCl [(q0, .inr (2, [.ref q1, .ref q2, .ref q3, .ref q4, .ref q6, .int z_25.2.1, .int captureCount])), (q1, .inl (aC 0, 513, .inl z_25.2.2.1)), (q2, .inl (aC 0, 513, .inl z_25.2.2.2.1)), (q3, .inl (aC 0, 513, .inl z_25.2.2.2.2.1)), (q4, .inr (1, [.ref q5])), (q5, .inl (aC 2, 2052, .inr (.inl z_25.2.2.2.2.2))), (q6, .inl (aC 0, 32, .inl states)), (q7, .inr (0, [.ref q8, .int p_length])), (q8, .inl (aC 1, p_n, .inl p_bytes))] H := hP
            have hD : va_D A [(q0, .inr (2, [.ref q1, .ref q2, .ref q3, .ref q4, .ref q6, .int z_25.2.1, .int captureCount])), (q1, .inl (aC 0, 513, .inl z_25.2.2.1)), (q2, .inl (aC 0, 513, .inl z_25.2.2.2.1)), (q3, .inl (aC 0, 513, .inl z_25.2.2.2.2.1)), (q4, .inr (1, [.ref q5])), (q5, .inl (aC 2, 2052, .inr (.inl z_25.2.2.2.2.2))), (q6, .inl (aC 0, 32, .inl states)), (q7, .inr (0, [.ref q8, .int p_length])), (q8, .inl (aC 1, p_n, .inl p_bytes))] := hD
            refine W.eq (g2 := F0 m 55 ls [.int z_25.1]) rfl ?_
            have h_26 := pf_X2_readRepeated hp_0 hp_2 hp_3 hz_25
            refine lv_goto (tgt := 66) hx hb dX2_read_55 (by decide) ?_
            refine lv_istore_n (lv' := [(3, .int z_25.1), (5, .int z_21), (0, .ref q0), (1, .ref q7), (2, .int x2), (4, .int x4)]) hx hb dX2_read_66 rfl hl (by decide) rfl (fun ls hl => ?_)
            refine lv_iinc (v := x4 + 1) (lv' := [(4, .int (x4 + 1)), (3, .int z_25.1), (5, .int z_21), (0, .ref q0), (1, .ref q7), (2, .int x2)]) hx hb dX2_read_67 hl (k := 5) rfl rfl (by decide) rfl (fun ls hl => ?_)
            refine lv_goto (tgt := 15) hx hb dX2_read_70 (by decide) ?_
            exact ih z_25.2.1 captureCount z_25.2.2.1 z_25.2.2.2.1 z_25.2.2.2.2.1 z_25.2.2.2.2.2 states x2 z_25.1 (x4 + 1) h_26 hp_1 (Nat.lt_of_lt_of_le (kmu_up c_1) (Nat.le_of_lt_succ hk)) u hu _ _ _ hP hD hS (lv_sub hl [3, 4, 5, 1, 0] rfl)
set_option maxHeartbeats 4000000 in
set_option maxRecDepth 100000 in
theorem c_X2_read (l : Launch) (DD : va_G) (aC : Nat → ClassId) (tt : Nat → Nat) (q0 q1 q2 q3 q4 q5 q6 q7 q8 p_n : Nat) (count : Int32) (captureCount : Int32) (kinds : Nat → Int32) (ones : Nat → Int32) (twos : Nat → Int32) (sets_words : Nat → Int64) (states : Nat → Int32) (p_length : Int32) (p_bytes : Nat → Int32) (a2 : Int32) (hp_0 : 0 ≤ count.toInt) (hp_1 : 0 ≤ captureCount.toInt) (hp_2 : p_length.toInt ≤ p_n) (hp_3 : p_n < 1073741824) (u : Int32 × Int32 × (Nat → Int32) × (Nat → Int32) × (Nat → Int32) × (Nat → Int64) × (Nat → Int32)) (hu : u = f_X2_read count captureCount kinds ones twos sets_words states p_length p_bytes a2) : kM l yX2_read wsX2_read rm_X2_read DD aC tt [.ref q0, .ref q7, .int a2] [(q0, .inr (2, [.ref q1, .ref q2, .ref q3, .ref q4, .ref q6, .int count, .int captureCount])), (q1, .inl (aC 0, 513, .inl kinds)), (q2, .inl (aC 0, 513, .inl ones)), (q3, .inl (aC 0, 513, .inl twos)), (q4, .inr (1, [.ref q5])), (q5, .inl (aC 2, 2052, .inr (.inl sets_words))), (q6, .inl (aC 0, 32, .inl states)), (q7, .inr (0, [.ref q8, .int p_length])), (q8, .inl (aC 1, p_n, .inl p_bytes))] none [(q0, .inr (2, [.ref q1, .ref q2, .ref q3, .ref q4, .ref q6, .int u.1, .int u.2.1])), (q1, .inl (aC 0, 513, .inl u.2.2.1)), (q2, .inl (aC 0, 513, .inl u.2.2.2.1)), (q3, .inl (aC 0, 513, .inl u.2.2.2.2.1)), (q4, .inr (1, [.ref q5])), (q5, .inl (aC 2, 2052, .inr (.inl u.2.2.2.2.2.1))), (q6, .inl (aC 0, 32, .inl u.2.2.2.2.2.2)), (q7, .inr (0, [.ref q8, .int p_length])), (q8, .inl (aC 1, p_n, .inl p_bytes))] := by
  refine k_start (cc := cX2_read) (maxL := 6) (ret := none) (own := RX2) (lv0 := [(0, .ref q0), (1, .ref q7), (2, .int a2)]) (by decide) rfl rfl (Nat.le_of_ble_eq_true rfl) rfl (fun p e s m below meth c A ls X hP hD hS hl => ?_)
  obtain ⟨hx, hb, hr, hml, hts, hown, hlocks, hA, hE⟩ := id X
  unfold f_X2_read at hu
  refine lv_aload_n hx hb dX2_read_0 rfl (lv_at hl 0 rfl) ?_
  refine lv_iconst (v := 0) hx hb dX2_read_1 (by decide) ?_
  refine va_put (D := DD) (ci := 2) (v := .int 0) (ty := .int) (C := RX2) (T := TX2) (N := 7) hx hb hts (fun w h => List.mem_cons_of_mem _ (inX2 w h)) tyX2 tyX2_ok nmX2 hown hE.1 hP hD hS 0 rfl rfl 5 (by decide) (hts (.fieldLink "TextPatterns$Items" 37 "TextPatterns$Items" "count" "I") (List.mem_cons_of_mem _ w_125)) (fun _ h9 => h9) rfl (by decide +kernel) rfl rfl (Nat.le_of_ble_eq_true rfl) dX2_read_2 (fun H locs hP hD hS => ?_)
  have hP : va_P DD vwCl [(q0, .inr (2, [.ref q1, .ref q2, .ref q3, .ref q4, .ref q6, .int 0, .int captureCount])), (q1, .inl (aC 0, 513, .inl kinds)), (q2, .inl (aC 0, 513, .inl ones)), (q3, .inl (aC 0, 513, .inl twos)), (q4, .inr (1, [.ref q5])), (q5, .inl (aC 2, 2052, .inr (.inl sets_words))), (q6, .inl (aC 0, 32, .inl states)), (q7, .inr (0, [.ref q8, .int p_length])), (q8, .inl (aC 1, p_n, .inl p_bytes))] H := hP
  have hD : va_D A [(q0, .inr (2, [.ref q1, .ref q2, .ref q3, .ref q4, .ref q6, .int 0, .int captureCount])), (q1, .inl (aC 0, 513, .inl kinds)), (q2, .inl (aC 0, 513, .inl ones)), (q3, .inl (aC 0, 513, .inl twos)), (q4, .inr (1, [.ref q5])), (q5, .inl (aC 2, 2052, .inr (.inl sets_words))), (q6, .inl (aC 0, 32, .inl states)), (q7, .inr (0, [.ref q8, .int p_length])), (q8, .inl (aC 1, p_n, .inl p_bytes))] := hD
  refine lv_aload_n hx hb dX2_read_5 rfl (lv_at hl 0 rfl) ?_
  refine lv_iconst (v := 0) hx hb dX2_read_6 (by decide) ?_
  refine va_put (D := DD) (ci := 2) (v := .int 0) (ty := .int) (C := RX2) (T := TX2) (N := 7) hx hb hts (fun w h => List.mem_cons_of_mem _ (inX2 w h)) tyX2 tyX2_ok nmX2 hown hE.1 hP hD hS 0 rfl rfl 6 (by decide) (hts (.fieldLink "TextPatterns$Items" 33 "TextPatterns$Items" "captureCount" "I") (List.mem_cons_of_mem _ w_126)) (fun _ h9 => h9) rfl (by decide +kernel) rfl rfl (Nat.le_of_ble_eq_true rfl) dX2_read_7 (fun H locs hP hD hS => ?_)
  have hP : va_P DD vwCl [(q0, .inr (2, [.ref q1, .ref q2, .ref q3, .ref q4, .ref q6, .int 0, .int 0])), (q1, .inl (aC 0, 513, .inl kinds)), (q2, .inl (aC 0, 513, .inl ones)), (q3, .inl (aC 0, 513, .inl twos)), (q4, .inr (1, [.ref q5])), (q5, .inl (aC 2, 2052, .inr (.inl sets_words))), (q6, .inl (aC 0, 32, .inl states)), (q7, .inr (0, [.ref q8, .int p_length])), (q8, .inl (aC 1, p_n, .inl p_bytes))] H := hP
  have hD : va_D A [(q0, .inr (2, [.ref q1, .ref q2, .ref q3, .ref q4, .ref q6, .int 0, .int 0])), (q1, .inl (aC 0, 513, .inl kinds)), (q2, .inl (aC 0, 513, .inl ones)), (q3, .inl (aC 0, 513, .inl twos)), (q4, .inr (1, [.ref q5])), (q5, .inl (aC 2, 2052, .inr (.inl sets_words))), (q6, .inl (aC 0, 32, .inl states)), (q7, .inr (0, [.ref q8, .int p_length])), (q8, .inl (aC 1, p_n, .inl p_bytes))] := hD
  refine lv_iload_n hx hb dX2_read_10 rfl (lv_at hl 2 rfl) ?_
  refine lv_istore_n (lv' := [(3, .int a2), (0, .ref q0), (1, .ref q7), (2, .int a2)]) hx hb dX2_read_11 rfl hl (by decide) rfl (fun ls hl => ?_)
  refine lv_iconst (v := 0) hx hb dX2_read_12 (by decide) ?_
  refine lv_istore (lv' := [(4, .int 0), (3, .int a2), (0, .ref q0), (1, .ref q7), (2, .int a2)]) hx hb dX2_read_13 hl (by decide) rfl (fun ls hl => ?_)
  exact t_X2_read_L0 X q0 q1 q2 q3 q4 q5 q6 q7 q8 p_n p_length p_bytes a2 hp_2 hp_3 (((512 : Int32).toInt - (0 : Int32).toInt).toNat + 1) 0 0 kinds ones twos sets_words states a2 a2 0 (by decide) (by decide) (Nat.lt_succ_self _) u hu _ _ _ hP hD hS (lv_sub hl [2, 3, 4, 1, 0] rfl)

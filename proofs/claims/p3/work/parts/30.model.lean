def f_X5_beginOf_0 : Int32 := 0
abbrev rm_X5_beginOf_0 : Room := { frames := 0, cells := 0, slots := 0, locals := 0 }
set_option maxHeartbeats 4000000 in
set_option maxRecDepth 100000 in
theorem c_X5_beginOf_0 (l : Launch) (DD : va_G) (aC : Nat → ClassId) (tt : Nat → Nat) (u : Int32) (hu : u = f_X5_beginOf_0) : kM l yX5_beginOf wsX5_beginOf rm_X5_beginOf_0 DD aC tt [.int 0] [] (some (.int u)) [] := by
  refine k_start (cc := cX5_beginOf) (maxL := 1) (ret := (some .int)) (own := RX5) (lv0 := [(0, .int 0)]) (by decide) rfl rfl (Nat.le_of_ble_eq_true rfl) rfl (fun p e s m below meth c A ls X hP hD hS hl => ?_)
  obtain ⟨hx, hb, hr, hml, hts, hown, hlocks, hA, hE⟩ := id X
  unfold f_X5_beginOf_0 at hu
  refine lv_iload_n hx hb dX5_beginOf_0 rfl (lv_at hl 0 rfl) ?_
  refine lv_if_ne (tgt := 8) hx hb dX5_beginOf_1 (by decide) (fun h => absurd (by decide) h) (fun _ => ?_)
  refine lv_iconst (v := 0) hx hb dX5_beginOf_4 (by decide) ?_
  refine lv_goto (tgt := 22) hx hb dX5_beginOf_5 (by decide) ?_
  subst hu
  exact k_iret hx hb hr hlocks hP hD hS rfl rfl dX5_beginOf_22
def f_X5_beginOf_1 : Int32 := 4096
abbrev rm_X5_beginOf_1 : Room := { frames := 0, cells := 0, slots := 0, locals := 0 }
set_option maxHeartbeats 4000000 in
set_option maxRecDepth 100000 in
theorem c_X5_beginOf_1 (l : Launch) (DD : va_G) (aC : Nat → ClassId) (tt : Nat → Nat) (u : Int32) (hu : u = f_X5_beginOf_1) : kM l yX5_beginOf wsX5_beginOf rm_X5_beginOf_1 DD aC tt [.int 1] [] (some (.int u)) [] := by
  refine k_start (cc := cX5_beginOf) (maxL := 1) (ret := (some .int)) (own := RX5) (lv0 := [(0, .int 1)]) (by decide) rfl rfl (Nat.le_of_ble_eq_true rfl) rfl (fun p e s m below meth c A ls X hP hD hS hl => ?_)
  obtain ⟨hx, hb, hr, hml, hts, hown, hlocks, hA, hE⟩ := id X
  unfold f_X5_beginOf_1 at hu
  refine lv_iload_n hx hb dX5_beginOf_0 rfl (lv_at hl 0 rfl) ?_
  refine lv_if_ne (tgt := 8) hx hb dX5_beginOf_1 (by decide) (fun _ => ?_) (fun h => absurd h (by decide))
  refine lv_iload_n hx hb dX5_beginOf_8 rfl (lv_at hl 0 rfl) ?_
  refine lv_iconst (v := 1) hx hb dX5_beginOf_9 (by decide) ?_
  refine lv_icmp_ne (tgt := 19) hx hb dX5_beginOf_10 (by decide) (fun h => absurd (by decide) h) (fun _ => ?_)
  refine lv_sipush (v := 4096) hx hb dX5_beginOf_13 (by decide) ?_
  refine lv_goto (tgt := 22) hx hb dX5_beginOf_16 (by decide) ?_
  subst hu
  exact k_iret hx hb hr hlocks hP hD hS rfl rfl dX5_beginOf_22
def f_X5_beginOf_2 : Int32 := 4608
abbrev rm_X5_beginOf_2 : Room := { frames := 0, cells := 0, slots := 0, locals := 0 }
set_option maxHeartbeats 4000000 in
set_option maxRecDepth 100000 in
theorem c_X5_beginOf_2 (l : Launch) (DD : va_G) (aC : Nat → ClassId) (tt : Nat → Nat) (u : Int32) (hu : u = f_X5_beginOf_2) : kM l yX5_beginOf wsX5_beginOf rm_X5_beginOf_2 DD aC tt [.int 2] [] (some (.int u)) [] := by
  refine k_start (cc := cX5_beginOf) (maxL := 1) (ret := (some .int)) (own := RX5) (lv0 := [(0, .int 2)]) (by decide) rfl rfl (Nat.le_of_ble_eq_true rfl) rfl (fun p e s m below meth c A ls X hP hD hS hl => ?_)
  obtain ⟨hx, hb, hr, hml, hts, hown, hlocks, hA, hE⟩ := id X
  unfold f_X5_beginOf_2 at hu
  refine lv_iload_n hx hb dX5_beginOf_0 rfl (lv_at hl 0 rfl) ?_
  refine lv_if_ne (tgt := 8) hx hb dX5_beginOf_1 (by decide) (fun _ => ?_) (fun h => absurd h (by decide))
  refine lv_iload_n hx hb dX5_beginOf_8 rfl (lv_at hl 0 rfl) ?_
  refine lv_iconst (v := 1) hx hb dX5_beginOf_9 (by decide) ?_
  refine lv_icmp_ne (tgt := 19) hx hb dX5_beginOf_10 (by decide) (fun _ => ?_) (fun h => absurd h (by decide))
  refine lv_sipush (v := 4608) hx hb dX5_beginOf_19 (by decide) ?_
  subst hu
  exact k_iret hx hb hr hlocks hP hD hS rfl rfl dX5_beginOf_22
def f_X5_most_0 : Int32 := 4096
abbrev rm_X5_most_0 : Room := { frames := 0, cells := 0, slots := 0, locals := 0 }
set_option maxHeartbeats 4000000 in
set_option maxRecDepth 100000 in
theorem c_X5_most_0 (l : Launch) (DD : va_G) (aC : Nat → ClassId) (tt : Nat → Nat) (u : Int32) (hu : u = f_X5_most_0) : kM l yX5_most wsX5_most rm_X5_most_0 DD aC tt [.int 0] [] (some (.int u)) [] := by
  refine k_start (cc := cX5_most) (maxL := 1) (ret := (some .int)) (own := RX5) (lv0 := [(0, .int 0)]) (by decide) rfl rfl (Nat.le_of_ble_eq_true rfl) rfl (fun p e s m below meth c A ls X hP hD hS hl => ?_)
  obtain ⟨hx, hb, hr, hml, hts, hown, hlocks, hA, hE⟩ := id X
  unfold f_X5_most_0 at hu
  refine lv_iload_n hx hb dX5_most_0 rfl (lv_at hl 0 rfl) ?_
  refine lv_if_ne (tgt := 10) hx hb dX5_most_1 (by decide) (fun h => absurd (by decide) h) (fun _ => ?_)
  refine lv_sipush (v := 4096) hx hb dX5_most_4 (by decide) ?_
  refine lv_goto (tgt := 13) hx hb dX5_most_7 (by decide) ?_
  subst hu
  exact k_iret hx hb hr hlocks hP hD hS rfl rfl dX5_most_13
def f_X5_most_1 : Int32 := 512
abbrev rm_X5_most_1 : Room := { frames := 0, cells := 0, slots := 0, locals := 0 }
set_option maxHeartbeats 4000000 in
set_option maxRecDepth 100000 in
theorem c_X5_most_1 (l : Launch) (DD : va_G) (aC : Nat → ClassId) (tt : Nat → Nat) (u : Int32) (hu : u = f_X5_most_1) : kM l yX5_most wsX5_most rm_X5_most_1 DD aC tt [.int 1] [] (some (.int u)) [] := by
  refine k_start (cc := cX5_most) (maxL := 1) (ret := (some .int)) (own := RX5) (lv0 := [(0, .int 1)]) (by decide) rfl rfl (Nat.le_of_ble_eq_true rfl) rfl (fun p e s m below meth c A ls X hP hD hS hl => ?_)
  obtain ⟨hx, hb, hr, hml, hts, hown, hlocks, hA, hE⟩ := id X
  unfold f_X5_most_1 at hu
  refine lv_iload_n hx hb dX5_most_0 rfl (lv_at hl 0 rfl) ?_
  refine lv_if_ne (tgt := 10) hx hb dX5_most_1 (by decide) (fun _ => ?_) (fun h => absurd h (by decide))
  refine lv_sipush (v := 512) hx hb dX5_most_10 (by decide) ?_
  subst hu
  exact k_iret hx hb hr hlocks hP hD hS rfl rfl dX5_most_13
def f_X5_most_2 : Int32 := 512
abbrev rm_X5_most_2 : Room := { frames := 0, cells := 0, slots := 0, locals := 0 }
set_option maxHeartbeats 4000000 in
set_option maxRecDepth 100000 in
theorem c_X5_most_2 (l : Launch) (DD : va_G) (aC : Nat → ClassId) (tt : Nat → Nat) (u : Int32) (hu : u = f_X5_most_2) : kM l yX5_most wsX5_most rm_X5_most_2 DD aC tt [.int 2] [] (some (.int u)) [] := by
  refine k_start (cc := cX5_most) (maxL := 1) (ret := (some .int)) (own := RX5) (lv0 := [(0, .int 2)]) (by decide) rfl rfl (Nat.le_of_ble_eq_true rfl) rfl (fun p e s m below meth c A ls X hP hD hS hl => ?_)
  obtain ⟨hx, hb, hr, hml, hts, hown, hlocks, hA, hE⟩ := id X
  unfold f_X5_most_2 at hu
  refine lv_iload_n hx hb dX5_most_0 rfl (lv_at hl 0 rfl) ?_
  refine lv_if_ne (tgt := 10) hx hb dX5_most_1 (by decide) (fun _ => ?_) (fun h => absurd h (by decide))
  refine lv_sipush (v := 512) hx hb dX5_most_10 (by decide) ?_
  subst hu
  exact k_iret hx hb hr hlocks hP hD hS rfl rfl dX5_most_13
def f_X5_beginOf (a0 : Int32) : Int32 := (if a0 = 0 then 0 else (if a0 = 1 then 4096 else 4608))
abbrev rm_X5_beginOf : Room := { frames := 0, cells := 0, slots := 0, locals := 0 }
set_option maxHeartbeats 4000000 in
set_option maxRecDepth 100000 in
theorem c_X5_beginOf (l : Launch) (DD : va_G) (aC : Nat → ClassId) (tt : Nat → Nat) (a0 : Int32) (u : Int32) (hu : u = f_X5_beginOf a0) : kM l yX5_beginOf wsX5_beginOf rm_X5_beginOf DD aC tt [.int a0] [] (some (.int u)) [] := by
  refine k_start (cc := cX5_beginOf) (maxL := 1) (ret := (some .int)) (own := RX5) (lv0 := [(0, .int a0)]) (by decide) rfl rfl (Nat.le_of_ble_eq_true rfl) rfl (fun p e s m below meth c A ls X hP hD hS hl => ?_)
  obtain ⟨hx, hb, hr, hml, hts, hown, hlocks, hA, hE⟩ := id X
  unfold f_X5_beginOf at hu
  refine lv_iload_n hx hb dX5_beginOf_0 rfl (lv_at hl 0 rfl) ?_
  refine lv_if_ne (tgt := 8) hx hb dX5_beginOf_1 (by decide) (fun c_1 => ?_) (fun c_1 => ?_)
  · replace hu := hu.trans (if_neg c_1)
    refine lv_iload_n hx hb dX5_beginOf_8 rfl (lv_at hl 0 rfl) ?_
    refine lv_iconst (v := 1) hx hb dX5_beginOf_9 (by decide) ?_
    refine lv_icmp_ne (tgt := 19) hx hb dX5_beginOf_10 (by decide) (fun c_2 => ?_) (fun c_2 => ?_)
    · replace hu := hu.trans (if_neg c_2)
      refine lv_sipush (v := 4608) hx hb dX5_beginOf_19 (by decide) ?_
      subst hu
      exact k_iret hx hb hr hlocks hP hD hS rfl rfl dX5_beginOf_22
    · replace hu := hu.trans (if_pos c_2)
      refine lv_sipush (v := 4096) hx hb dX5_beginOf_13 (by decide) ?_
      refine lv_goto (tgt := 22) hx hb dX5_beginOf_16 (by decide) ?_
      subst hu
      exact k_iret hx hb hr hlocks hP hD hS rfl rfl dX5_beginOf_22
  · replace hu := hu.trans (if_pos c_1)
    refine lv_iconst (v := 0) hx hb dX5_beginOf_4 (by decide) ?_
    refine lv_goto (tgt := 22) hx hb dX5_beginOf_5 (by decide) ?_
    subst hu
    exact k_iret hx hb hr hlocks hP hD hS rfl rfl dX5_beginOf_22
def f_X5_most (a0 : Int32) : Int32 := (if a0 = 0 then 4096 else 512)
abbrev rm_X5_most : Room := { frames := 0, cells := 0, slots := 0, locals := 0 }
set_option maxHeartbeats 4000000 in
set_option maxRecDepth 100000 in
theorem c_X5_most (l : Launch) (DD : va_G) (aC : Nat → ClassId) (tt : Nat → Nat) (a0 : Int32) (u : Int32) (hu : u = f_X5_most a0) : kM l yX5_most wsX5_most rm_X5_most DD aC tt [.int a0] [] (some (.int u)) [] := by
  refine k_start (cc := cX5_most) (maxL := 1) (ret := (some .int)) (own := RX5) (lv0 := [(0, .int a0)]) (by decide) rfl rfl (Nat.le_of_ble_eq_true rfl) rfl (fun p e s m below meth c A ls X hP hD hS hl => ?_)
  obtain ⟨hx, hb, hr, hml, hts, hown, hlocks, hA, hE⟩ := id X
  unfold f_X5_most at hu
  refine lv_iload_n hx hb dX5_most_0 rfl (lv_at hl 0 rfl) ?_
  refine lv_if_ne (tgt := 10) hx hb dX5_most_1 (by decide) (fun c_1 => ?_) (fun c_1 => ?_)
  · replace hu := hu.trans (if_neg c_1)
    refine lv_sipush (v := 512) hx hb dX5_most_10 (by decide) ?_
    subst hu
    exact k_iret hx hb hr hlocks hP hD hS rfl rfl dX5_most_13
  · replace hu := hu.trans (if_pos c_1)
    refine lv_sipush (v := 4096) hx hb dX5_most_4 (by decide) ?_
    refine lv_goto (tgt := 13) hx hb dX5_most_7 (by decide) ?_
    subst hu
    exact k_iret hx hb hr hlocks hP hD hS rfl rfl dX5_most_13
def f_X5_at_0 (m_rows : Nat → Int32) (m_sizes : Nat → Int32) (a2 : Int32) : Int32 := (if (m_sizes 0) ≤ a2 then (-1) else ((m_rows (0 + a2).toNatClampNeg) &&& 255))
abbrev rm_X5_at_0 : Room := { frames := 1, cells := 0, slots := 0, locals := 20 }
set_option maxHeartbeats 4000000 in
set_option maxRecDepth 100000 in
theorem c_X5_at_0 (l : Launch) (DD : va_G) (aC : Nat → ClassId) (tt : Nat → Nat) (q0 q1 q2 q3 q4 q5 q6 q7 q8 q9 q10 q11 : Nat) (m_madeSize : Int32) (m_depth : Int32) (m_end : Int32) (m_captureCount : Int32) (m_looks : Int32) (m_trouble : Int32) (m_found : Int32) (m_first : Int32) (m_from : Int32) (m_ended : Int32) (m_rows : Nat → Int32) (m_sizes : Nat → Int32) (m_made : Nat → Int32) (m_begins : Nat → Int32) (m_places : Nat → Int32) (m_kinds : Nat → Int32) (m_nexts : Nat → Int32) (m_choices : Nat → Int32) (m_leasts : Nat → Int32) (m_captureBegins : Nat → Int32) (m_captureLengths : Nat → Int32) (a2 : Int32) (hz1 : (m_sizes 0).toInt ≤ 4096) (hk : 0 ≤ a2.toInt) (u : Int32) (hu : u = f_X5_at_0 m_rows m_sizes a2) : kM l yX5_at wsX5_at rm_X5_at_0 DD aC tt [.ref q0, .int 0, .int a2] [(q0, .inr (5, [.ref q1, .ref q2, .ref q3, .int m_madeSize, .ref q4, .ref q5, .ref q6, .ref q7, .ref q8, .ref q9, .int m_depth, .int m_end, .ref q10, .ref q11, .int m_captureCount, .int m_looks, .int m_trouble, .int m_found, .int m_first, .int m_from, .int m_ended])), (q1, .inl (aC 1, 5632, .inl m_rows)), (q2, .inl (aC 0, 3, .inl m_sizes)), (q3, .inl (aC 1, 8192, .inl m_made)), (q4, .inl (aC 0, 520, .inl m_begins)), (q5, .inl (aC 0, 520, .inl m_places)), (q6, .inl (aC 0, 520, .inl m_kinds)), (q7, .inl (aC 0, 520, .inl m_nexts)), (q8, .inl (aC 0, 520, .inl m_choices)), (q9, .inl (aC 0, 520, .inl m_leasts)), (q10, .inl (aC 0, 33, .inl m_captureBegins)), (q11, .inl (aC 0, 33, .inl m_captureLengths))] (some (.int u)) [(q0, .inr (5, [.ref q1, .ref q2, .ref q3, .int m_madeSize, .ref q4, .ref q5, .ref q6, .ref q7, .ref q8, .ref q9, .int m_depth, .int m_end, .ref q10, .ref q11, .int m_captureCount, .int m_looks, .int m_trouble, .int m_found, .int m_first, .int m_from, .int m_ended])), (q1, .inl (aC 1, 5632, .inl m_rows)), (q2, .inl (aC 0, 3, .inl m_sizes)), (q3, .inl (aC 1, 8192, .inl m_made)), (q4, .inl (aC 0, 520, .inl m_begins)), (q5, .inl (aC 0, 520, .inl m_places)), (q6, .inl (aC 0, 520, .inl m_kinds)), (q7, .inl (aC 0, 520, .inl m_nexts)), (q8, .inl (aC 0, 520, .inl m_choices)), (q9, .inl (aC 0, 520, .inl m_leasts)), (q10, .inl (aC 0, 33, .inl m_captureBegins)), (q11, .inl (aC 0, 33, .inl m_captureLengths))] := by
  refine k_start (cc := cX5_at) (maxL := 3) (ret := (some .int)) (own := RX5) (lv0 := [(0, .ref q0), (1, .int 0), (2, .int a2)]) (by decide) rfl rfl (Nat.le_of_ble_eq_true rfl) rfl (fun p e s m below meth c A ls X hP hD hS hl => ?_)
  obtain ⟨hx, hb, hr, hml, hts, hown, hlocks, hA, hE⟩ := id X
  unfold f_X5_at_0 at hu
  refine lv_iload_n hx hb dX5_at_0 rfl (lv_at hl 2 rfl) ?_
  refine lv_aload_n hx hb dX5_at_1 rfl (lv_at hl 0 rfl) ?_
  refine va_get (D := DD) (ci := 5) (v := .ref q2) (C := RX5) (T := TX5) (N := 21) hx hb hts (fun w h => List.mem_cons_of_mem _ (inX5 w h)) hown hE.1 hP 0 rfl rfl 1 (by decide) (hts (.fieldLink "TextPatternsModel" 13 "TextPatternsModel" "sizes" "[I") (List.mem_cons_of_mem _ w_532)) (fun _ h9 => h9) rfl dX5_at_2 ?_
  refine lv_iload_n hx hb dX5_at_5 rfl (lv_at hl 1 rfl) ?_
  refine va_iald hx hb hE.1 hP 2 0 rfl rfl (kb_c (by decide) (by decide)) dX5_at_6 ?_
  refine W.eq (g2 := F0 m 7 ls [.int (m_sizes 0), .int a2]) rfl ?_
  refine lv_icmp_ge (tgt := 28) hx hb dX5_at_7 (by decide) (fun c_1 => ?_) (fun c_1 => ?_)
  · replace hu := hu.trans (if_pos c_1)
    refine lv_iconst (v := (-1)) hx hb dX5_at_28 (by decide) ?_
    subst hu
    exact k_iret hx hb hr hlocks hP hD hS rfl rfl dX5_at_29
  · replace hu := hu.trans (if_neg c_1)
    refine lv_aload_n hx hb dX5_at_10 rfl (lv_at hl 0 rfl) ?_
    refine va_get (D := DD) (ci := 5) (v := .ref q1) (C := RX5) (T := TX5) (N := 21) hx hb hts (fun w h => List.mem_cons_of_mem _ (inX5 w h)) hown hE.1 hP 0 rfl rfl 0 (by decide) (hts (.fieldLink "TextPatternsModel" 7 "TextPatternsModel" "rows" "[B") (List.mem_cons_of_mem _ w_531)) (fun _ h9 => h9) rfl dX5_at_11 ?_
    refine lv_iload_n hx hb dX5_at_14 rfl (lv_at hl 1 rfl) ?_
    refine k_callS (As := [.int 0]) (rest := [.ref q1]) (wc := []) (wr := [(q0, .inr (5, [.ref q1, .ref q2, .ref q3, .int m_madeSize, .ref q4, .ref q5, .ref q6, .ref q7, .ref q8, .ref q9, .int m_depth, .int m_end, .ref q10, .ref q11, .int m_captureCount, .int m_looks, .int m_trouble, .int m_found, .int m_first, .int m_from, .int m_ended])), (q1, .inl (aC 1, 5632, .inl m_rows)), (q2, .inl (aC 0, 3, .inl m_sizes)), (q3, .inl (aC 1, 8192, .inl m_made)), (q4, .inl (aC 0, 520, .inl m_begins)), (q5, .inl (aC 0, 520, .inl m_places)), (q6, .inl (aC 0, 520, .inl m_kinds)), (q7, .inl (aC 0, 520, .inl m_nexts)), (q8, .inl (aC 0, 520, .inl m_choices)), (q9, .inl (aC 0, 520, .inl m_leasts)), (q10, .inl (aC 0, 33, .inl m_captureBegins)), (q11, .inl (aC 0, 33, .inl m_captureLengths))]) (w1 := []) (wn := [(q0, .inr (5, [.ref q1, .ref q2, .ref q3, .int m_madeSize, .ref q4, .ref q5, .ref q6, .ref q7, .ref q8, .ref q9, .int m_depth, .int m_end, .ref q10, .ref q11, .int m_captureCount, .int m_looks, .int m_trouble, .int m_found, .int m_first, .int m_from, .int m_ended])), (q1, .inl (aC 1, 5632, .inl m_rows)), (q2, .inl (aC 0, 3, .inl m_sizes)), (q3, .inl (aC 1, 8192, .inl m_made)), (q4, .inl (aC 0, 520, .inl m_begins)), (q5, .inl (aC 0, 520, .inl m_places)), (q6, .inl (aC 0, 520, .inl m_kinds)), (q7, .inl (aC 0, 520, .inl m_nexts)), (q8, .inl (aC 0, 520, .inl m_choices)), (q9, .inl (aC 0, 520, .inl m_leasts)), (q10, .inl (aC 0, 33, .inl m_captureBegins)), (q11, .inl (aC 0, 33, .inl m_captureLengths))]) ⟨hx, hb, hml, hown, hts⟩ (c_X5_beginOf_0 l DD aC tt      0 rfl) (cwS 1 hts (gdS w_602 w_603 w_74 w_604) rfl rfl rfl (by decide +kernel) ⟨Nat.le_of_ble_eq_true rfl, Nat.le_of_ble_eq_true rfl⟩) hP hD hS hA hE [] [0, 1, 2, 3, 4, 5, 6, 7, 8, 9, 10, 11] [0, 1, 2, 3, 4, 5, 6, 7, 8, 9, 10, 11] rfl rfl rfl (by decide) (by decide) (by decide) (by decide) rfl hl.1 rfl (Nat.le_of_ble_eq_true rfl) dX5_at_15 (fun H locs hP hD hS => ?_)
    refine W.eq (g2 := F0 m 18 ls [.int 0, .ref q1]) rfl ?_
    refine lv_iload_n hx hb dX5_at_18 rfl (lv_at hl 2 rfl) ?_
    refine lv_iadd hx hb dX5_at_19 ?_
    refine va_bald hx hb hE.1 hP 1 1 rfl rfl (kb_in (by have i1 := kx_nle c_1; have i2 := kx_rng (0 + a2); have i3 : (0 : Int32).toInt = 0 := (by decide); have i4 := kx_rng (a2); have i6 := kx_rng (m_sizes 0); first | omega | (have i5 := kx_addD 0 a2; omega)) (by have i1 := kx_nle c_1; have i2 := kx_rng (0 + a2); have i3 : (0 : Int32).toInt = 0 := (by decide); have i4 := kx_rng (a2); have i6 := kx_rng (m_sizes 0); first | omega | (have i5 := kx_addD 0 a2; omega))) dX5_at_20 ?_
    refine lv_sipush (v := 255) hx hb dX5_at_21 (by decide) ?_
    refine lv_iand hx hb dX5_at_24 ?_
    refine lv_goto (tgt := 29) hx hb dX5_at_25 (by decide) ?_
    subst hu
    exact k_iret hx hb hr hlocks hP hD hS rfl rfl dX5_at_29
theorem pf_X5_at_0 {m_rows m_sizes : Nat → Int32} {a2 z : Int32} (hz : z = f_X5_at_0 m_rows m_sizes a2) : (z.toInt = -1 ∧ (m_sizes 0).toInt ≤ a2.toInt) ∨ (0 ≤ z.toInt ∧ z.toInt ≤ 255 ∧ a2.toInt < (m_sizes 0).toInt) := by
  subst hz; unfold f_X5_at_0
  split
  · next h => exact Or.inl ⟨(by decide), Int32.le_iff_toInt_le.mp h⟩
  · next h => exact Or.inr ⟨(kx_b255 _).1, (kx_b255 _).2, by have := kx_nle h; omega⟩
def f_X5_at_1 (m_rows : Nat → Int32) (m_sizes : Nat → Int32) (a2 : Int32) : Int32 := (if (m_sizes 1) ≤ a2 then (-1) else ((m_rows (4096 + a2).toNatClampNeg) &&& 255))
abbrev rm_X5_at_1 : Room := { frames := 1, cells := 0, slots := 0, locals := 20 }
set_option maxHeartbeats 4000000 in
set_option maxRecDepth 100000 in
theorem c_X5_at_1 (l : Launch) (DD : va_G) (aC : Nat → ClassId) (tt : Nat → Nat) (q0 q1 q2 q3 q4 q5 q6 q7 q8 q9 q10 q11 : Nat) (m_madeSize : Int32) (m_depth : Int32) (m_end : Int32) (m_captureCount : Int32) (m_looks : Int32) (m_trouble : Int32) (m_found : Int32) (m_first : Int32) (m_from : Int32) (m_ended : Int32) (m_rows : Nat → Int32) (m_sizes : Nat → Int32) (m_made : Nat → Int32) (m_begins : Nat → Int32) (m_places : Nat → Int32) (m_kinds : Nat → Int32) (m_nexts : Nat → Int32) (m_choices : Nat → Int32) (m_leasts : Nat → Int32) (m_captureBegins : Nat → Int32) (m_captureLengths : Nat → Int32) (a2 : Int32) (hz3 : (m_sizes 1).toInt ≤ 512) (hk : 0 ≤ a2.toInt) (u : Int32) (hu : u = f_X5_at_1 m_rows m_sizes a2) : kM l yX5_at wsX5_at rm_X5_at_1 DD aC tt [.ref q0, .int 1, .int a2] [(q0, .inr (5, [.ref q1, .ref q2, .ref q3, .int m_madeSize, .ref q4, .ref q5, .ref q6, .ref q7, .ref q8, .ref q9, .int m_depth, .int m_end, .ref q10, .ref q11, .int m_captureCount, .int m_looks, .int m_trouble, .int m_found, .int m_first, .int m_from, .int m_ended])), (q1, .inl (aC 1, 5632, .inl m_rows)), (q2, .inl (aC 0, 3, .inl m_sizes)), (q3, .inl (aC 1, 8192, .inl m_made)), (q4, .inl (aC 0, 520, .inl m_begins)), (q5, .inl (aC 0, 520, .inl m_places)), (q6, .inl (aC 0, 520, .inl m_kinds)), (q7, .inl (aC 0, 520, .inl m_nexts)), (q8, .inl (aC 0, 520, .inl m_choices)), (q9, .inl (aC 0, 520, .inl m_leasts)), (q10, .inl (aC 0, 33, .inl m_captureBegins)), (q11, .inl (aC 0, 33, .inl m_captureLengths))] (some (.int u)) [(q0, .inr (5, [.ref q1, .ref q2, .ref q3, .int m_madeSize, .ref q4, .ref q5, .ref q6, .ref q7, .ref q8, .ref q9, .int m_depth, .int m_end, .ref q10, .ref q11, .int m_captureCount, .int m_looks, .int m_trouble, .int m_found, .int m_first, .int m_from, .int m_ended])), (q1, .inl (aC 1, 5632, .inl m_rows)), (q2, .inl (aC 0, 3, .inl m_sizes)), (q3, .inl (aC 1, 8192, .inl m_made)), (q4, .inl (aC 0, 520, .inl m_begins)), (q5, .inl (aC 0, 520, .inl m_places)), (q6, .inl (aC 0, 520, .inl m_kinds)), (q7, .inl (aC 0, 520, .inl m_nexts)), (q8, .inl (aC 0, 520, .inl m_choices)), (q9, .inl (aC 0, 520, .inl m_leasts)), (q10, .inl (aC 0, 33, .inl m_captureBegins)), (q11, .inl (aC 0, 33, .inl m_captureLengths))] := by
  refine k_start (cc := cX5_at) (maxL := 3) (ret := (some .int)) (own := RX5) (lv0 := [(0, .ref q0), (1, .int 1), (2, .int a2)]) (by decide) rfl rfl (Nat.le_of_ble_eq_true rfl) rfl (fun p e s m below meth c A ls X hP hD hS hl => ?_)
  obtain ⟨hx, hb, hr, hml, hts, hown, hlocks, hA, hE⟩ := id X
  unfold f_X5_at_1 at hu
  refine lv_iload_n hx hb dX5_at_0 rfl (lv_at hl 2 rfl) ?_
  refine lv_aload_n hx hb dX5_at_1 rfl (lv_at hl 0 rfl) ?_
  refine va_get (D := DD) (ci := 5) (v := .ref q2) (C := RX5) (T := TX5) (N := 21) hx hb hts (fun w h => List.mem_cons_of_mem _ (inX5 w h)) hown hE.1 hP 0 rfl rfl 1 (by decide) (hts (.fieldLink "TextPatternsModel" 13 "TextPatternsModel" "sizes" "[I") (List.mem_cons_of_mem _ w_532)) (fun _ h9 => h9) rfl dX5_at_2 ?_
  refine lv_iload_n hx hb dX5_at_5 rfl (lv_at hl 1 rfl) ?_
  refine va_iald hx hb hE.1 hP 2 0 rfl rfl (kb_c (by decide) (by decide)) dX5_at_6 ?_
  refine W.eq (g2 := F0 m 7 ls [.int (m_sizes 1), .int a2]) rfl ?_
  refine lv_icmp_ge (tgt := 28) hx hb dX5_at_7 (by decide) (fun c_1 => ?_) (fun c_1 => ?_)
  · replace hu := hu.trans (if_pos c_1)
    refine lv_iconst (v := (-1)) hx hb dX5_at_28 (by decide) ?_
    subst hu
    exact k_iret hx hb hr hlocks hP hD hS rfl rfl dX5_at_29
  · replace hu := hu.trans (if_neg c_1)
    refine lv_aload_n hx hb dX5_at_10 rfl (lv_at hl 0 rfl) ?_
    refine va_get (D := DD) (ci := 5) (v := .ref q1) (C := RX5) (T := TX5) (N := 21) hx hb hts (fun w h => List.mem_cons_of_mem _ (inX5 w h)) hown hE.1 hP 0 rfl rfl 0 (by decide) (hts (.fieldLink "TextPatternsModel" 7 "TextPatternsModel" "rows" "[B") (List.mem_cons_of_mem _ w_531)) (fun _ h9 => h9) rfl dX5_at_11 ?_
    refine lv_iload_n hx hb dX5_at_14 rfl (lv_at hl 1 rfl) ?_
    refine k_callS (As := [.int 1]) (rest := [.ref q1]) (wc := []) (wr := [(q0, .inr (5, [.ref q1, .ref q2, .ref q3, .int m_madeSize, .ref q4, .ref q5, .ref q6, .ref q7, .ref q8, .ref q9, .int m_depth, .int m_end, .ref q10, .ref q11, .int m_captureCount, .int m_looks, .int m_trouble, .int m_found, .int m_first, .int m_from, .int m_ended])), (q1, .inl (aC 1, 5632, .inl m_rows)), (q2, .inl (aC 0, 3, .inl m_sizes)), (q3, .inl (aC 1, 8192, .inl m_made)), (q4, .inl (aC 0, 520, .inl m_begins)), (q5, .inl (aC 0, 520, .inl m_places)), (q6, .inl (aC 0, 520, .inl m_kinds)), (q7, .inl (aC 0, 520, .inl m_nexts)), (q8, .inl (aC 0, 520, .inl m_choices)), (q9, .inl (aC 0, 520, .inl m_leasts)), (q10, .inl (aC 0, 33, .inl m_captureBegins)), (q11, .inl (aC 0, 33, .inl m_captureLengths))]) (w1 := []) (wn := [(q0, .inr (5, [.ref q1, .ref q2, .ref q3, .int m_madeSize, .ref q4, .ref q5, .ref q6, .ref q7, .ref q8, .ref q9, .int m_depth, .int m_end, .ref q10, .ref q11, .int m_captureCount, .int m_looks, .int m_trouble, .int m_found, .int m_first, .int m_from, .int m_ended])), (q1, .inl (aC 1, 5632, .inl m_rows)), (q2, .inl (aC 0, 3, .inl m_sizes)), (q3, .inl (aC 1, 8192, .inl m_made)), (q4, .inl (aC 0, 520, .inl m_begins)), (q5, .inl (aC 0, 520, .inl m_places)), (q6, .inl (aC 0, 520, .inl m_kinds)), (q7, .inl (aC 0, 520, .inl m_nexts)), (q8, .inl (aC 0, 520, .inl m_choices)), (q9, .inl (aC 0, 520, .inl m_leasts)), (q10, .inl (aC 0, 33, .inl m_captureBegins)), (q11, .inl (aC 0, 33, .inl m_captureLengths))]) ⟨hx, hb, hml, hown, hts⟩ (c_X5_beginOf_1 l DD aC tt      4096 rfl) (cwS 1 hts (gdS w_602 w_603 w_74 w_604) rfl rfl rfl (by decide +kernel) ⟨Nat.le_of_ble_eq_true rfl, Nat.le_of_ble_eq_true rfl⟩) hP hD hS hA hE [] [0, 1, 2, 3, 4, 5, 6, 7, 8, 9, 10, 11] [0, 1, 2, 3, 4, 5, 6, 7, 8, 9, 10, 11] rfl rfl rfl (by decide) (by decide) (by decide) (by decide) rfl hl.1 rfl (Nat.le_of_ble_eq_true rfl) dX5_at_15 (fun H locs hP hD hS => ?_)
    refine W.eq (g2 := F0 m 18 ls [.int 4096, .ref q1]) rfl ?_
    refine lv_iload_n hx hb dX5_at_18 rfl (lv_at hl 2 rfl) ?_
    refine lv_iadd hx hb dX5_at_19 ?_
    refine va_bald hx hb hE.1 hP 1 1 rfl rfl (kb_in (by have i1 := kx_nle c_1; have i2 := kx_rng (4096 + a2); have i3 : (4096 : Int32).toInt = 4096 := (by decide); have i4 := kx_rng (a2); have i6 := kx_rng (m_sizes 1); first | omega | (have i5 := kx_addD 4096 a2; omega)) (by have i1 := kx_nle c_1; have i2 := kx_rng (4096 + a2); have i3 : (4096 : Int32).toInt = 4096 := (by decide); have i4 := kx_rng (a2); have i6 := kx_rng (m_sizes 1); first | omega | (have i5 := kx_addD 4096 a2; omega))) dX5_at_20 ?_
    refine lv_sipush (v := 255) hx hb dX5_at_21 (by decide) ?_
    refine lv_iand hx hb dX5_at_24 ?_
    refine lv_goto (tgt := 29) hx hb dX5_at_25 (by decide) ?_
    subst hu
    exact k_iret hx hb hr hlocks hP hD hS rfl rfl dX5_at_29
theorem pf_X5_at_1 {m_rows m_sizes : Nat → Int32} {a2 z : Int32} (hz : z = f_X5_at_1 m_rows m_sizes a2) : (z.toInt = -1 ∧ (m_sizes 1).toInt ≤ a2.toInt) ∨ (0 ≤ z.toInt ∧ z.toInt ≤ 255 ∧ a2.toInt < (m_sizes 1).toInt) := by
  subst hz; unfold f_X5_at_1
  split
  · next h => exact Or.inl ⟨(by decide), Int32.le_iff_toInt_le.mp h⟩
  · next h => exact Or.inr ⟨(kx_b255 _).1, (kx_b255 _).2, by have := kx_nle h; omega⟩
def f_X5_at_2 (m_rows : Nat → Int32) (m_sizes : Nat → Int32) (a2 : Int32) : Int32 := (if (m_sizes 2) ≤ a2 then (-1) else ((m_rows (4608 + a2).toNatClampNeg) &&& 255))
abbrev rm_X5_at_2 : Room := { frames := 1, cells := 0, slots := 0, locals := 20 }
set_option maxHeartbeats 4000000 in
set_option maxRecDepth 100000 in
theorem c_X5_at_2 (l : Launch) (DD : va_G) (aC : Nat → ClassId) (tt : Nat → Nat) (q0 q1 q2 q3 q4 q5 q6 q7 q8 q9 q10 q11 : Nat) (m_madeSize : Int32) (m_depth : Int32) (m_end : Int32) (m_captureCount : Int32) (m_looks : Int32) (m_trouble : Int32) (m_found : Int32) (m_first : Int32) (m_from : Int32) (m_ended : Int32) (m_rows : Nat → Int32) (m_sizes : Nat → Int32) (m_made : Nat → Int32) (m_begins : Nat → Int32) (m_places : Nat → Int32) (m_kinds : Nat → Int32) (m_nexts : Nat → Int32) (m_choices : Nat → Int32) (m_leasts : Nat → Int32) (m_captureBegins : Nat → Int32) (m_captureLengths : Nat → Int32) (a2 : Int32) (hz5 : (m_sizes 2).toInt ≤ 512) (hk : 0 ≤ a2.toInt) (u : Int32) (hu : u = f_X5_at_2 m_rows m_sizes a2) : kM l yX5_at wsX5_at rm_X5_at_2 DD aC tt [.ref q0, .int 2, .int a2] [(q0, .inr (5, [.ref q1, .ref q2, .ref q3, .int m_madeSize, .ref q4, .ref q5, .ref q6, .ref q7, .ref q8, .ref q9, .int m_depth, .int m_end, .ref q10, .ref q11, .int m_captureCount, .int m_looks, .int m_trouble, .int m_found, .int m_first, .int m_from, .int m_ended])), (q1, .inl (aC 1, 5632, .inl m_rows)), (q2, .inl (aC 0, 3, .inl m_sizes)), (q3, .inl (aC 1, 8192, .inl m_made)), (q4, .inl (aC 0, 520, .inl m_begins)), (q5, .inl (aC 0, 520, .inl m_places)), (q6, .inl (aC 0, 520, .inl m_kinds)), (q7, .inl (aC 0, 520, .inl m_nexts)), (q8, .inl (aC 0, 520, .inl m_choices)), (q9, .inl (aC 0, 520, .inl m_leasts)), (q10, .inl (aC 0, 33, .inl m_captureBegins)), (q11, .inl (aC 0, 33, .inl m_captureLengths))] (some (.int u)) [(q0, .inr (5, [.ref q1, .ref q2, .ref q3, .int m_madeSize, .ref q4, .ref q5, .ref q6, .ref q7, .ref q8, .ref q9, .int m_depth, .int m_end, .ref q10, .ref q11, .int m_captureCount, .int m_looks, .int m_trouble, .int m_found, .int m_first, .int m_from, .int m_ended])), (q1, .inl (aC 1, 5632, .inl m_rows)), (q2, .inl (aC 0, 3, .inl m_sizes)), (q3, .inl (aC 1, 8192, .inl m_made)), (q4, .inl (aC 0, 520, .inl m_begins)), (q5, .inl (aC 0, 520, .inl m_places)), (q6, .inl (aC 0, 520, .inl m_kinds)), (q7, .inl (aC 0, 520, .inl m_nexts)), (q8, .inl (aC 0, 520, .inl m_choices)), (q9, .inl (aC 0, 520, .inl m_leasts)), (q10, .inl (aC 0, 33, .inl m_captureBegins)), (q11, .inl (aC 0, 33, .inl m_captureLengths))] := by
  refine k_start (cc := cX5_at) (maxL := 3) (ret := (some .int)) (own := RX5) (lv0 := [(0, .ref q0), (1, .int 2), (2, .int a2)]) (by decide) rfl rfl (Nat.le_of_ble_eq_true rfl) rfl (fun p e s m below meth c A ls X hP hD hS hl => ?_)
  obtain ⟨hx, hb, hr, hml, hts, hown, hlocks, hA, hE⟩ := id X
  unfold f_X5_at_2 at hu
  refine lv_iload_n hx hb dX5_at_0 rfl (lv_at hl 2 rfl) ?_
  refine lv_aload_n hx hb dX5_at_1 rfl (lv_at hl 0 rfl) ?_
  refine va_get (D := DD) (ci := 5) (v := .ref q2) (C := RX5) (T := TX5) (N := 21) hx hb hts (fun w h => List.mem_cons_of_mem _ (inX5 w h)) hown hE.1 hP 0 rfl rfl 1 (by decide) (hts (.fieldLink "TextPatternsModel" 13 "TextPatternsModel" "sizes" "[I") (List.mem_cons_of_mem _ w_532)) (fun _ h9 => h9) rfl dX5_at_2 ?_
  refine lv_iload_n hx hb dX5_at_5 rfl (lv_at hl 1 rfl) ?_
  refine va_iald hx hb hE.1 hP 2 0 rfl rfl (kb_c (by decide) (by decide)) dX5_at_6 ?_
  refine W.eq (g2 := F0 m 7 ls [.int (m_sizes 2), .int a2]) rfl ?_
  refine lv_icmp_ge (tgt := 28) hx hb dX5_at_7 (by decide) (fun c_1 => ?_) (fun c_1 => ?_)
  · replace hu := hu.trans (if_pos c_1)
    refine lv_iconst (v := (-1)) hx hb dX5_at_28 (by decide) ?_
    subst hu
    exact k_iret hx hb hr hlocks hP hD hS rfl rfl dX5_at_29
  · replace hu := hu.trans (if_neg c_1)
    refine lv_aload_n hx hb dX5_at_10 rfl (lv_at hl 0 rfl) ?_
    refine va_get (D := DD) (ci := 5) (v := .ref q1) (C := RX5) (T := TX5) (N := 21) hx hb hts (fun w h => List.mem_cons_of_mem _ (inX5 w h)) hown hE.1 hP 0 rfl rfl 0 (by decide) (hts (.fieldLink "TextPatternsModel" 7 "TextPatternsModel" "rows" "[B") (List.mem_cons_of_mem _ w_531)) (fun _ h9 => h9) rfl dX5_at_11 ?_
    refine lv_iload_n hx hb dX5_at_14 rfl (lv_at hl 1 rfl) ?_
    refine k_callS (As := [.int 2]) (rest := [.ref q1]) (wc := []) (wr := [(q0, .inr (5, [.ref q1, .ref q2, .ref q3, .int m_madeSize, .ref q4, .ref q5, .ref q6, .ref q7, .ref q8, .ref q9, .int m_depth, .int m_end, .ref q10, .ref q11, .int m_captureCount, .int m_looks, .int m_trouble, .int m_found, .int m_first, .int m_from, .int m_ended])), (q1, .inl (aC 1, 5632, .inl m_rows)), (q2, .inl (aC 0, 3, .inl m_sizes)), (q3, .inl (aC 1, 8192, .inl m_made)), (q4, .inl (aC 0, 520, .inl m_begins)), (q5, .inl (aC 0, 520, .inl m_places)), (q6, .inl (aC 0, 520, .inl m_kinds)), (q7, .inl (aC 0, 520, .inl m_nexts)), (q8, .inl (aC 0, 520, .inl m_choices)), (q9, .inl (aC 0, 520, .inl m_leasts)), (q10, .inl (aC 0, 33, .inl m_captureBegins)), (q11, .inl (aC 0, 33, .inl m_captureLengths))]) (w1 := []) (wn := [(q0, .inr (5, [.ref q1, .ref q2, .ref q3, .int m_madeSize, .ref q4, .ref q5, .ref q6, .ref q7, .ref q8, .ref q9, .int m_depth, .int m_end, .ref q10, .ref q11, .int m_captureCount, .int m_looks, .int m_trouble, .int m_found, .int m_first, .int m_from, .int m_ended])), (q1, .inl (aC 1, 5632, .inl m_rows)), (q2, .inl (aC 0, 3, .inl m_sizes)), (q3, .inl (aC 1, 8192, .inl m_made)), (q4, .inl (aC 0, 520, .inl m_begins)), (q5, .inl (aC 0, 520, .inl m_places)), (q6, .inl (aC 0, 520, .inl m_kinds)), (q7, .inl (aC 0, 520, .inl m_nexts)), (q8, .inl (aC 0, 520, .inl m_choices)), (q9, .inl (aC 0, 520, .inl m_leasts)), (q10, .inl (aC 0, 33, .inl m_captureBegins)), (q11, .inl (aC 0, 33, .inl m_captureLengths))]) ⟨hx, hb, hml, hown, hts⟩ (c_X5_beginOf_2 l DD aC tt      4608 rfl) (cwS 1 hts (gdS w_602 w_603 w_74 w_604) rfl rfl rfl (by decide +kernel) ⟨Nat.le_of_ble_eq_true rfl, Nat.le_of_ble_eq_true rfl⟩) hP hD hS hA hE [] [0, 1, 2, 3, 4, 5, 6, 7, 8, 9, 10, 11] [0, 1, 2, 3, 4, 5, 6, 7, 8, 9, 10, 11] rfl rfl rfl (by decide) (by decide) (by decide) (by decide) rfl hl.1 rfl (Nat.le_of_ble_eq_true rfl) dX5_at_15 (fun H locs hP hD hS => ?_)
    refine W.eq (g2 := F0 m 18 ls [.int 4608, .ref q1]) rfl ?_
    refine lv_iload_n hx hb dX5_at_18 rfl (lv_at hl 2 rfl) ?_
    refine lv_iadd hx hb dX5_at_19 ?_
    refine va_bald hx hb hE.1 hP 1 1 rfl rfl (kb_in (by have i1 := kx_nle c_1; have i2 := kx_rng (4608 + a2); have i3 : (4608 : Int32).toInt = 4608 := (by decide); have i4 := kx_rng (a2); have i6 := kx_rng (m_sizes 2); first | omega | (have i5 := kx_addD 4608 a2; omega)) (by have i1 := kx_nle c_1; have i2 := kx_rng (4608 + a2); have i3 : (4608 : Int32).toInt = 4608 := (by decide); have i4 := kx_rng (a2); have i6 := kx_rng (m_sizes 2); first | omega | (have i5 := kx_addD 4608 a2; omega))) dX5_at_20 ?_
    refine lv_sipush (v := 255) hx hb dX5_at_21 (by decide) ?_
    refine lv_iand hx hb dX5_at_24 ?_
    refine lv_goto (tgt := 29) hx hb dX5_at_25 (by decide) ?_
    subst hu
    exact k_iret hx hb hr hlocks hP hD hS rfl rfl dX5_at_29
theorem pf_X5_at_2 {m_rows m_sizes : Nat → Int32} {a2 z : Int32} (hz : z = f_X5_at_2 m_rows m_sizes a2) : (z.toInt = -1 ∧ (m_sizes 2).toInt ≤ a2.toInt) ∨ (0 ≤ z.toInt ∧ z.toInt ≤ 255 ∧ a2.toInt < (m_sizes 2).toInt) := by
  subst hz; unfold f_X5_at_2
  split
  · next h => exact Or.inl ⟨(by decide), Int32.le_iff_toInt_le.mp h⟩
  · next h => exact Or.inr ⟨(kx_b255 _).1, (kx_b255 _).2, by have := kx_nle h; omega⟩
def f_X5_pattern (m_rows : Nat → Int32) (m_sizes : Nat → Int32) (a1 : Int32) : Int32 := (kb (f_X5_at_1 m_rows m_sizes a1) (fun z_1 => z_1))
abbrev rm_X5_pattern : Room := { frames := 2, cells := 0, slots := 0, locals := 42 }
set_option maxHeartbeats 4000000 in
set_option maxRecDepth 100000 in
theorem c_X5_pattern (l : Launch) (DD : va_G) (aC : Nat → ClassId) (tt : Nat → Nat) (q0 q1 q2 q3 q4 q5 q6 q7 q8 q9 q10 q11 : Nat) (m_madeSize : Int32) (m_depth : Int32) (m_end : Int32) (m_captureCount : Int32) (m_looks : Int32) (m_trouble : Int32) (m_found : Int32) (m_first : Int32) (m_from : Int32) (m_ended : Int32) (m_rows : Nat → Int32) (m_sizes : Nat → Int32) (m_made : Nat → Int32) (m_begins : Nat → Int32) (m_places : Nat → Int32) (m_kinds : Nat → Int32) (m_nexts : Nat → Int32) (m_choices : Nat → Int32) (m_leasts : Nat → Int32) (m_captureBegins : Nat → Int32) (m_captureLengths : Nat → Int32) (a1 : Int32) (hz3 : (m_sizes 1).toInt ≤ 512) (hk : 0 ≤ a1.toInt) (u : Int32) (hu : u = f_X5_pattern m_rows m_sizes a1) : kM l yX5_pattern wsX5_pattern rm_X5_pattern DD aC tt [.ref q0, .int a1] [(q0, .inr (5, [.ref q1, .ref q2, .ref q3, .int m_madeSize, .ref q4, .ref q5, .ref q6, .ref q7, .ref q8, .ref q9, .int m_depth, .int m_end, .ref q10, .ref q11, .int m_captureCount, .int m_looks, .int m_trouble, .int m_found, .int m_first, .int m_from, .int m_ended])), (q1, .inl (aC 1, 5632, .inl m_rows)), (q2, .inl (aC 0, 3, .inl m_sizes)), (q3, .inl (aC 1, 8192, .inl m_made)), (q4, .inl (aC 0, 520, .inl m_begins)), (q5, .inl (aC 0, 520, .inl m_places)), (q6, .inl (aC 0, 520, .inl m_kinds)), (q7, .inl (aC 0, 520, .inl m_nexts)), (q8, .inl (aC 0, 520, .inl m_choices)), (q9, .inl (aC 0, 520, .inl m_leasts)), (q10, .inl (aC 0, 33, .inl m_captureBegins)), (q11, .inl (aC 0, 33, .inl m_captureLengths))] (some (.int u)) [(q0, .inr (5, [.ref q1, .ref q2, .ref q3, .int m_madeSize, .ref q4, .ref q5, .ref q6, .ref q7, .ref q8, .ref q9, .int m_depth, .int m_end, .ref q10, .ref q11, .int m_captureCount, .int m_looks, .int m_trouble, .int m_found, .int m_first, .int m_from, .int m_ended])), (q1, .inl (aC 1, 5632, .inl m_rows)), (q2, .inl (aC 0, 3, .inl m_sizes)), (q3, .inl (aC 1, 8192, .inl m_made)), (q4, .inl (aC 0, 520, .inl m_begins)), (q5, .inl (aC 0, 520, .inl m_places)), (q6, .inl (aC 0, 520, .inl m_kinds)), (q7, .inl (aC 0, 520, .inl m_nexts)), (q8, .inl (aC 0, 520, .inl m_choices)), (q9, .inl (aC 0, 520, .inl m_leasts)), (q10, .inl (aC 0, 33, .inl m_captureBegins)), (q11, .inl (aC 0, 33, .inl m_captureLengths))] := by
  refine k_start (cc := cX5_pattern) (maxL := 2) (ret := (some .int)) (own := RX5) (lv0 := [(0, .ref q0), (1, .int a1)]) (by decide) rfl rfl (Nat.le_of_ble_eq_true rfl) rfl (fun p e s m below meth c A ls X hP hD hS hl => ?_)
  obtain ⟨hx, hb, hr, hml, hts, hown, hlocks, hA, hE⟩ := id X
  unfold f_X5_pattern at hu
  refine lv_aload_n hx hb dX5_pattern_0 rfl (lv_at hl 0 rfl) ?_
  refine lv_iconst (v := 1) hx hb dX5_pattern_1 (by decide) ?_
  refine lv_iload_n hx hb dX5_pattern_2 rfl (lv_at hl 1 rfl) ?_
  obtain ⟨z_1, hz_1⟩ : ∃ z, z = f_X5_at_1 m_rows m_sizes a1 := ⟨_, rfl⟩
  replace hu := hu.trans (kb_of hz_1)
  refine k_callV (As := [.int 1, .int a1]) (rest := []) (wc := [(q0, .inr (5, [.ref q1, .ref q2, .ref q3, .int m_madeSize, .ref q4, .ref q5, .ref q6, .ref q7, .ref q8, .ref q9, .int m_depth, .int m_end, .ref q10, .ref q11, .int m_captureCount, .int m_looks, .int m_trouble, .int m_found, .int m_first, .int m_from, .int m_ended])), (q1, .inl (aC 1, 5632, .inl m_rows)), (q2, .inl (aC 0, 3, .inl m_sizes)), (q3, .inl (aC 1, 8192, .inl m_made)), (q4, .inl (aC 0, 520, .inl m_begins)), (q5, .inl (aC 0, 520, .inl m_places)), (q6, .inl (aC 0, 520, .inl m_kinds)), (q7, .inl (aC 0, 520, .inl m_nexts)), (q8, .inl (aC 0, 520, .inl m_choices)), (q9, .inl (aC 0, 520, .inl m_leasts)), (q10, .inl (aC 0, 33, .inl m_captureBegins)), (q11, .inl (aC 0, 33, .inl m_captureLengths))]) (wr := []) (w1 := [(q0, .inr (5, [.ref q1, .ref q2, .ref q3, .int m_madeSize, .ref q4, .ref q5, .ref q6, .ref q7, .ref q8, .ref q9, .int m_depth, .int m_end, .ref q10, .ref q11, .int m_captureCount, .int m_looks, .int m_trouble, .int m_found, .int m_first, .int m_from, .int m_ended])), (q1, .inl (aC 1, 5632, .inl m_rows)), (q2, .inl (aC 0, 3, .inl m_sizes)), (q3, .inl (aC 1, 8192, .inl m_made)), (q4, .inl (aC 0, 520, .inl m_begins)), (q5, .inl (aC 0, 520, .inl m_places)), (q6, .inl (aC 0, 520, .inl m_kinds)), (q7, .inl (aC 0, 520, .inl m_nexts)), (q8, .inl (aC 0, 520, .inl m_choices)), (q9, .inl (aC 0, 520, .inl m_leasts)), (q10, .inl (aC 0, 33, .inl m_captureBegins)), (q11, .inl (aC 0, 33, .inl m_captureLengths))]) (wn := [(q0, .inr (5, [.ref q1, .ref q2, .ref q3, .int m_madeSize, .ref q4, .ref q5, .ref q6, .ref q7, .ref q8, .ref q9, .int m_depth, .int m_end, .ref q10, .ref q11, .int m_captureCount, .int m_looks, .int m_trouble, .int m_found, .int m_first, .int m_from, .int m_ended])), (q1, .inl (aC 1, 5632, .inl m_rows)), (q2, .inl (aC 0, 3, .inl m_sizes)), (q3, .inl (aC 1, 8192, .inl m_made)), (q4, .inl (aC 0, 520, .inl m_begins)), (q5, .inl (aC 0, 520, .inl m_places)), (q6, .inl (aC 0, 520, .inl m_kinds)), (q7, .inl (aC 0, 520, .inl m_nexts)), (q8, .inl (aC 0, 520, .inl m_choices)), (q9, .inl (aC 0, 520, .inl m_leasts)), (q10, .inl (aC 0, 33, .inl m_captureBegins)), (q11, .inl (aC 0, 33, .inl m_captureLengths))]) ⟨hx, hb, hml, hown, hts⟩ (c_X5_at_1 l DD aC tt q0 q1 q2 q3 q4 q5 q6 q7 q8 q9 q10 q11  m_madeSize m_depth m_end m_captureCount m_looks m_trouble m_found m_first m_from m_ended m_rows m_sizes m_made m_begins m_places m_kinds m_nexts m_choices m_leasts m_captureBegins m_captureLengths a1 hz3 hk z_1 hz_1) (cwV 2 hts (gdV w_621 w_623 w_40 w_74 w_624) rfl rfl rfl (by decide +kernel) ⟨Nat.le_of_ble_eq_true rfl, Nat.le_of_ble_eq_true rfl⟩) hP hD hS hA hE [0, 1, 2, 3, 4, 5, 6, 7, 8, 9, 10, 11] [] [0, 1, 2, 3, 4, 5, 6, 7, 8, 9, 10, 11] rfl rfl rfl (by decide) (by decide) (by decide) (by decide) (ci := 5) (q0 := 0) rfl rfl rfl hl.1 rfl (Nat.le_of_ble_eq_true rfl) dX5_pattern_3 (fun H locs hP hD hS => ?_)
  refine W.eq (g2 := F0 m 6 ls [.int z_1]) rfl ?_
  have h_2 := pf_X5_at_1 hz_1
  subst hu
  exact k_iret hx hb hr hlocks hP hD hS rfl rfl dX5_pattern_6
theorem pf_X5_pattern {m_rows m_sizes : Nat → Int32} {a1 z : Int32} (hz : z = f_X5_pattern m_rows m_sizes a1) : (z.toInt = -1 ∧ (m_sizes 1).toInt ≤ a1.toInt) ∨ (0 ≤ z.toInt ∧ z.toInt ≤ 255 ∧ a1.toInt < (m_sizes 1).toInt) := by
  subst hz; unfold f_X5_pattern; exact pf_X5_at_1 rfl
def f_X5_isBetween (a0 : Int32) (a1 : Int32) (a2 : Int32) : Int32 := (if a0 < a1 then 0 else (if a2 < a0 then 0 else 1))
set_option maxHeartbeats 4000000 in
theorem pf_X5_isBetween {a0 : Int32} {a1 : Int32} {a2 : Int32} {u : Int32} (hu : u = f_X5_isBetween a0 a1 a2) : (u = 0 ∨ u = 1) := by
  unfold f_X5_isBetween at hu
  rcases Classical.em (a0 < a1) with c_1 | c_1
  · replace hu := hu.trans (if_pos c_1)
    rw [hu]
    exact show ((0 : Int32) = 0 ∨ (0 : Int32) = 1) from (Or.inl rfl)
  · replace hu := hu.trans (if_neg c_1)
    rcases Classical.em (a2 < a0) with c_2 | c_2
    · replace hu := hu.trans (if_pos c_2)
      rw [hu]
      exact show ((0 : Int32) = 0 ∨ (0 : Int32) = 1) from (Or.inl rfl)
    · replace hu := hu.trans (if_neg c_2)
      rw [hu]
      exact show ((1 : Int32) = 0 ∨ (1 : Int32) = 1) from (Or.inr rfl)
abbrev rm_X5_isBetween : Room := { frames := 0, cells := 0, slots := 0, locals := 0 }
set_option maxHeartbeats 4000000 in
set_option maxRecDepth 100000 in
theorem c_X5_isBetween (l : Launch) (DD : va_G) (aC : Nat → ClassId) (tt : Nat → Nat) (a0 : Int32) (a1 : Int32) (a2 : Int32) (u : Int32) (hu : u = f_X5_isBetween a0 a1 a2) : kM l yX5_isBetween wsX5_isBetween rm_X5_isBetween DD aC tt [.int a0, .int a1, .int a2] [] (some (.int u)) [] := by
  refine k_start (cc := cX5_isBetween) (maxL := 3) (ret := (some .boolean)) (own := RX5) (lv0 := [(0, .int a0), (1, .int a1), (2, .int a2)]) (by decide) rfl rfl (Nat.le_of_ble_eq_true rfl) rfl (fun p e s m below meth c A ls X hP hD hS hl => ?_)
  obtain ⟨hx, hb, hr, hml, hts, hown, hlocks, hA, hE⟩ := id X
  unfold f_X5_isBetween at hu
  refine lv_iload_n hx hb dX5_isBetween_0 rfl (lv_at hl 0 rfl) ?_
  refine lv_iload_n hx hb dX5_isBetween_1 rfl (lv_at hl 1 rfl) ?_
  refine lv_icmp_lt (tgt := 14) hx hb dX5_isBetween_2 (by decide) (fun c_1 => ?_) (fun c_1 => ?_)
  · replace hu := hu.trans (if_pos c_1)
    refine lv_iconst (v := 0) hx hb dX5_isBetween_14 (by decide) ?_
    subst hu
    exact k_zret hx hb hr (by decide) hlocks hP hD hS rfl rfl dX5_isBetween_15
  · replace hu := hu.trans (if_neg c_1)
    refine lv_iload_n hx hb dX5_isBetween_5 rfl (lv_at hl 0 rfl) ?_
    refine lv_iload_n hx hb dX5_isBetween_6 rfl (lv_at hl 2 rfl) ?_
    refine lv_icmp_gt (tgt := 14) hx hb dX5_isBetween_7 (by decide) (fun c_2 => ?_) (fun c_2 => ?_)
    · replace hu := hu.trans (if_pos c_2)
      refine lv_iconst (v := 0) hx hb dX5_isBetween_14 (by decide) ?_
      subst hu
      exact k_zret hx hb hr (by decide) hlocks hP hD hS rfl rfl dX5_isBetween_15
    · replace hu := hu.trans (if_neg c_2)
      refine lv_iconst (v := 1) hx hb dX5_isBetween_10 (by decide) ?_
      refine lv_goto (tgt := 15) hx hb dX5_isBetween_11 (by decide) ?_
      subst hu
      exact k_zret hx hb hr (by decide) hlocks hP hD hS rfl rfl dX5_isBetween_15
def f_X5_isLetter (a0 : Int32) : Int32 := (kb (f_X5_isBetween a0 97 122) (fun z_1 => (if z_1 = 0 then (kb (f_X5_isBetween a0 65 90) (fun z_4 => (if z_4 = 0 then 0 else 1))) else 1)))
set_option maxHeartbeats 4000000 in
theorem pf_X5_isLetter {a0 : Int32} {u : Int32} (hu : u = f_X5_isLetter a0) : (u = 0 ∨ u = 1) := by
  unfold f_X5_isLetter at hu
  obtain ⟨z_1, hz_1⟩ : ∃ z, z = f_X5_isBetween a0 97 122 := ⟨_, rfl⟩
  replace hu := hu.trans (kb_of hz_1)
  have h_2 := pf_X5_isBetween hz_1
  rcases (Classical.em (z_1 = 0)).symm with c_3 | c_3
  · replace hu := hu.trans (if_neg c_3)
    rw [hu]
    exact show ((1 : Int32) = 0 ∨ (1 : Int32) = 1) from (Or.inr rfl)
  · replace hu := hu.trans (if_pos c_3)
    obtain ⟨z_4, hz_4⟩ : ∃ z, z = f_X5_isBetween a0 65 90 := ⟨_, rfl⟩
    replace hu := hu.trans (kb_of hz_4)
    have h_5 := pf_X5_isBetween hz_4
    rcases Classical.em (z_4 = 0) with c_6 | c_6
    · replace hu := hu.trans (if_pos c_6)
      rw [hu]
      exact show ((0 : Int32) = 0 ∨ (0 : Int32) = 1) from (Or.inl rfl)
    · replace hu := hu.trans (if_neg c_6)
      rw [hu]
      exact show ((1 : Int32) = 0 ∨ (1 : Int32) = 1) from (Or.inr rfl)
abbrev rm_X5_isLetter : Room := { frames := 1, cells := 0, slots := 0, locals := 22 }
set_option maxHeartbeats 4000000 in
set_option maxRecDepth 100000 in
theorem c_X5_isLetter (l : Launch) (DD : va_G) (aC : Nat → ClassId) (tt : Nat → Nat) (a0 : Int32) (u : Int32) (hu : u = f_X5_isLetter a0) : kM l yX5_isLetter wsX5_isLetter rm_X5_isLetter DD aC tt [.int a0] [] (some (.int u)) [] := by
  refine k_start (cc := cX5_isLetter) (maxL := 1) (ret := (some .boolean)) (own := RX5) (lv0 := [(0, .int a0)]) (by decide) rfl rfl (Nat.le_of_ble_eq_true rfl) rfl (fun p e s m below meth c A ls X hP hD hS hl => ?_)
  obtain ⟨hx, hb, hr, hml, hts, hown, hlocks, hA, hE⟩ := id X
  unfold f_X5_isLetter at hu
  refine lv_iload_n hx hb dX5_isLetter_0 rfl (lv_at hl 0 rfl) ?_
  refine lv_bipush (v := 97) hx hb dX5_isLetter_1 (by decide) ?_
  refine lv_bipush (v := 122) hx hb dX5_isLetter_3 (by decide) ?_
  obtain ⟨z_1, hz_1⟩ : ∃ z, z = f_X5_isBetween a0 97 122 := ⟨_, rfl⟩
  replace hu := hu.trans (kb_of hz_1)
  refine k_callS (As := [.int a0, .int 97, .int 122]) (rest := []) (wc := []) (wr := []) (w1 := []) (wn := []) ⟨hx, hb, hml, hown, hts⟩ (c_X5_isBetween l DD aC tt    a0 97 122  z_1 hz_1) (cwS 3 hts (gdS w_685 w_686 w_74 w_687) rfl rfl rfl (by decide +kernel) ⟨Nat.le_of_ble_eq_true rfl, Nat.le_of_ble_eq_true rfl⟩) hP hD hS hA hE [] [] [] rfl rfl rfl (by decide) (by decide) (by decide) (by decide) rfl hl.1 rfl (Nat.le_of_ble_eq_true rfl) dX5_isLetter_5 (fun H locs hP hD hS => ?_)
  refine W.eq (g2 := F0 m 8 ls [.int z_1]) rfl ?_
  have h_2 := pf_X5_isBetween hz_1
  refine lv_if_ne (tgt := 22) hx hb dX5_isLetter_8 (by decide) (fun c_3 => ?_) (fun c_3 => ?_)
  · replace hu := hu.trans (if_neg c_3)
    refine lv_iconst (v := 1) hx hb dX5_isLetter_22 (by decide) ?_
    refine lv_goto (tgt := 27) hx hb dX5_isLetter_23 (by decide) ?_
    subst hu
    exact k_zret hx hb hr (by decide) hlocks hP hD hS rfl rfl dX5_isLetter_27
  · replace hu := hu.trans (if_pos c_3)
    refine lv_iload_n hx hb dX5_isLetter_11 rfl (lv_at hl 0 rfl) ?_
    refine lv_bipush (v := 65) hx hb dX5_isLetter_12 (by decide) ?_
    refine lv_bipush (v := 90) hx hb dX5_isLetter_14 (by decide) ?_
    obtain ⟨z_4, hz_4⟩ : ∃ z, z = f_X5_isBetween a0 65 90 := ⟨_, rfl⟩
    replace hu := hu.trans (kb_of hz_4)
    refine k_callS (As := [.int a0, .int 65, .int 90]) (rest := []) (wc := []) (wr := []) (w1 := []) (wn := []) ⟨hx, hb, hml, hown, hts⟩ (c_X5_isBetween l DD aC tt    a0 65 90  z_4 hz_4) (cwS 3 hts (gdS w_685 w_686 w_74 w_687) rfl rfl rfl (by decide +kernel) ⟨Nat.le_of_ble_eq_true rfl, Nat.le_of_ble_eq_true rfl⟩) hP hD hS hA hE [] [] [] rfl rfl rfl (by decide) (by decide) (by decide) (by decide) rfl hl.1 rfl (Nat.le_of_ble_eq_true rfl) dX5_isLetter_16 (fun H locs hP hD hS => ?_)
    refine W.eq (g2 := F0 m 19 ls [.int z_4]) rfl ?_
    have h_5 := pf_X5_isBetween hz_4
    refine lv_if_eq (tgt := 26) hx hb dX5_isLetter_19 (by decide) (fun c_6 => ?_) (fun c_6 => ?_)
    · replace hu := hu.trans (if_pos c_6)
      refine lv_iconst (v := 0) hx hb dX5_isLetter_26 (by decide) ?_
      subst hu
      exact k_zret hx hb hr (by decide) hlocks hP hD hS rfl rfl dX5_isLetter_27
    · replace hu := hu.trans (if_neg c_6)
      refine lv_iconst (v := 1) hx hb dX5_isLetter_22 (by decide) ?_
      refine lv_goto (tgt := 27) hx hb dX5_isLetter_23 (by decide) ?_
      subst hu
      exact k_zret hx hb hr (by decide) hlocks hP hD hS rfl rfl dX5_isLetter_27
def f_X5_isDigit (a0 : Int32) : Int32 := (kb (f_X5_isBetween a0 48 57) (fun z_1 => z_1))
set_option maxHeartbeats 4000000 in
theorem pf_X5_isDigit {a0 : Int32} {u : Int32} (hu : u = f_X5_isDigit a0) : (u = 0 ∨ u = 1) := by
  unfold f_X5_isDigit at hu
  obtain ⟨z_1, hz_1⟩ : ∃ z, z = f_X5_isBetween a0 48 57 := ⟨_, rfl⟩
  replace hu := hu.trans (kb_of hz_1)
  have h_2 := pf_X5_isBetween hz_1
  rw [hu]
  exact show (z_1 = 0 ∨ z_1 = 1) from h_2
abbrev rm_X5_isDigit : Room := { frames := 1, cells := 0, slots := 0, locals := 22 }
set_option maxHeartbeats 4000000 in
set_option maxRecDepth 100000 in
theorem c_X5_isDigit (l : Launch) (DD : va_G) (aC : Nat → ClassId) (tt : Nat → Nat) (a0 : Int32) (u : Int32) (hu : u = f_X5_isDigit a0) : kM l yX5_isDigit wsX5_isDigit rm_X5_isDigit DD aC tt [.int a0] [] (some (.int u)) [] := by
  refine k_start (cc := cX5_isDigit) (maxL := 1) (ret := (some .boolean)) (own := RX5) (lv0 := [(0, .int a0)]) (by decide) rfl rfl (Nat.le_of_ble_eq_true rfl) rfl (fun p e s m below meth c A ls X hP hD hS hl => ?_)
  obtain ⟨hx, hb, hr, hml, hts, hown, hlocks, hA, hE⟩ := id X
  unfold f_X5_isDigit at hu
  refine lv_iload_n hx hb dX5_isDigit_0 rfl (lv_at hl 0 rfl) ?_
  refine lv_bipush (v := 48) hx hb dX5_isDigit_1 (by decide) ?_
  refine lv_bipush (v := 57) hx hb dX5_isDigit_3 (by decide) ?_
  obtain ⟨z_1, hz_1⟩ : ∃ z, z = f_X5_isBetween a0 48 57 := ⟨_, rfl⟩
  replace hu := hu.trans (kb_of hz_1)
  refine k_callS (As := [.int a0, .int 48, .int 57]) (rest := []) (wc := []) (wr := []) (w1 := []) (wn := []) ⟨hx, hb, hml, hown, hts⟩ (c_X5_isBetween l DD aC tt    a0 48 57  z_1 hz_1) (cwS 3 hts (gdS w_685 w_686 w_74 w_687) rfl rfl rfl (by decide +kernel) ⟨Nat.le_of_ble_eq_true rfl, Nat.le_of_ble_eq_true rfl⟩) hP hD hS hA hE [] [] [] rfl rfl rfl (by decide) (by decide) (by decide) (by decide) rfl hl.1 rfl (Nat.le_of_ble_eq_true rfl) dX5_isDigit_5 (fun H locs hP hD hS => ?_)
  refine W.eq (g2 := F0 m 8 ls [.int z_1]) rfl ?_
  have h_2 := pf_X5_isBetween hz_1
  subst hu
  exact k_zret hx hb hr (kz_nar h_2) hlocks hP hD hS rfl rfl dX5_isDigit_8
def f_X5_classHas (a0 : Int32) (a1 : Int32) : Int32 := (kb (f_X5_isBetween a0 65 90) (fun z_1 => (if z_1 = 0 then (if a0 = 97 then (kb (f_X5_isLetter a1) (fun z_5 => (if z_5 = 1 then 1 else 0))) else (if a0 = 99 then (if a1 < 32 then 1 else (if a1 = 127 then 1 else 0)) else (if a0 = 100 then (kb (f_X5_isDigit a1) (fun z_12 => (if z_12 = 1 then 1 else 0))) else (if a0 = 103 then (kb (f_X5_isBetween a1 33 126) (fun z_16 => (if z_16 = 1 then 1 else 0))) else (if a0 = 108 then (kb (f_X5_isBetween a1 97 122) (fun z_20 => (if z_20 = 1 then 1 else 0))) else (if a0 = 112 then (kb (f_X5_isBetween a1 33 126) (fun z_24 => (if z_24 = 0 then 0 else (kb (f_X5_isLetter a1) (fun z_27 => (if z_27 = 0 then (kb (f_X5_isDigit a1) (fun z_30 => (if z_30 = 0 then 1 else 0))) else 0)))))) else (if a0 = 115 then (if a1 = 32 then 1 else (kb (f_X5_isBetween a1 9 13) (fun z_35 => (if z_35 = 0 then 0 else 1)))) else (if a0 = 117 then (kb (f_X5_isBetween a1 65 90) (fun z_39 => (if z_39 = 1 then 1 else 0))) else (if a0 = 119 then (kb (f_X5_isLetter a1) (fun z_43 => (if z_43 = 0 then (kb (f_X5_isDigit a1) (fun z_46 => (if z_46 = 0 then 0 else 1))) else 1))) else (if a0 = 120 then (kb (f_X5_isDigit a1) (fun z_50 => (if z_50 = 0 then (kb (f_X5_isBetween a1 97 102) (fun z_53 => (if z_53 = 0 then (kb (f_X5_isBetween a1 65 70) (fun z_56 => (if z_56 = 0 then 0 else 1))) else 1))) else 1))) else (if a0 = a1 then 1 else 0))))))))))) else (if (a0 + 32) = 97 then (kb (f_X5_isLetter a1) (fun z_61 => (if (a0 + 32) = a0 then (if z_61 = 1 then 1 else 0) else (if z_61 = 0 then 1 else 0)))) else (if (a0 + 32) = 99 then (if a1 < 32 then (if (a0 + 32) = a0 then 1 else 0) else (if a1 = 127 then (if (a0 + 32) = a0 then 1 else 0) else (if (a0 + 32) = a0 then 0 else 1))) else (if (a0 + 32) = 100 then (kb (f_X5_isDigit a1) (fun z_73 => (if (a0 + 32) = a0 then (if z_73 = 1 then 1 else 0) else (if z_73 = 0 then 1 else 0)))) else (if (a0 + 32) = 103 then (kb (f_X5_isBetween a1 33 126) (fun z_79 => (if (a0 + 32) = a0 then (if z_79 = 1 then 1 else 0) else (if z_79 = 0 then 1 else 0)))) else (if (a0 + 32) = 108 then (kb (f_X5_isBetween a1 97 122) (fun z_85 => (if (a0 + 32) = a0 then (if z_85 = 1 then 1 else 0) else (if z_85 = 0 then 1 else 0)))) else (if (a0 + 32) = 112 then (kb (f_X5_isBetween a1 33 126) (fun z_91 => (if z_91 = 0 then (if (a0 + 32) = a0 then 0 else 1) else (kb (f_X5_isLetter a1) (fun z_95 => (if z_95 = 0 then (kb (f_X5_isDigit a1) (fun z_99 => (if z_99 = 0 then (if (a0 + 32) = a0 then 1 else 0) else (if (a0 + 32) = a0 then 0 else 1)))) else (if (a0 + 32) = a0 then 0 else 1))))))) else (if (a0 + 32) = 115 then (if a1 = 32 then (if (a0 + 32) = a0 then 1 else 0) else (kb (f_X5_isBetween a1 9 13) (fun z_107 => (if z_107 = 0 then (if (a0 + 32) = a0 then 0 else 1) else (if (a0 + 32) = a0 then 1 else 0))))) else (if (a0 + 32) = 117 then (kb (f_X5_isBetween a1 65 90) (fun z_113 => (if (a0 + 32) = a0 then (if z_113 = 1 then 1 else 0) else (if z_113 = 0 then 1 else 0)))) else (if (a0 + 32) = 119 then (kb (f_X5_isLetter a1) (fun z_119 => (if z_119 = 0 then (kb (f_X5_isDigit a1) (fun z_123 => (if z_123 = 0 then (if (a0 + 32) = a0 then 0 else 1) else (if (a0 + 32) = a0 then 1 else 0)))) else (if (a0 + 32) = a0 then 1 else 0)))) else (if (a0 + 32) = 120 then (kb (f_X5_isDigit a1) (fun z_129 => (if z_129 = 0 then (kb (f_X5_isBetween a1 97 102) (fun z_133 => (if z_133 = 0 then (kb (f_X5_isBetween a1 65 70) (fun z_137 => (if z_137 = 0 then (if (a0 + 32) = a0 then 0 else 1) else (if (a0 + 32) = a0 then 1 else 0)))) else (if (a0 + 32) = a0 then 1 else 0)))) else (if (a0 + 32) = a0 then 1 else 0)))) else (if a0 = a1 then 1 else 0))))))))))))))
set_option maxHeartbeats 4000000 in
theorem pf_X5_classHas {a0 : Int32} {a1 : Int32} {u : Int32} (hu : u = f_X5_classHas a0 a1) : (u = 0 ∨ u = 1) := by
  unfold f_X5_classHas at hu
  obtain ⟨z_1, hz_1⟩ : ∃ z, z = f_X5_isBetween a0 65 90 := ⟨_, rfl⟩
  replace hu := hu.trans (kb_of hz_1)
  have h_2 := pf_X5_isBetween hz_1
  rcases Classical.em (z_1 = 0) with c_3 | c_3
  · replace hu := hu.trans (if_pos c_3)
    by_cases c_4 : a0 = 97
    · replace hu := hu.trans (if_pos c_4)
      obtain ⟨z_5, hz_5⟩ : ∃ z, z = f_X5_isLetter a1 := ⟨_, rfl⟩
      replace hu := hu.trans (kb_of hz_5)
      have h_6 := pf_X5_isLetter hz_5
      rcases (Classical.em (z_5 = 1)).symm with c_7 | c_7
      · replace hu := hu.trans (if_neg c_7)
        rw [hu]
        exact show ((0 : Int32) = 0 ∨ (0 : Int32) = 1) from (Or.inl rfl)
      · replace hu := hu.trans (if_pos c_7)
        rw [hu]
        exact show ((1 : Int32) = 0 ∨ (1 : Int32) = 1) from (Or.inr rfl)
    replace hu := hu.trans (if_neg c_4)
    by_cases c_8 : a0 = 99
    · replace hu := hu.trans (if_pos c_8)
      rcases Classical.em (a1 < 32) with c_9 | c_9
      · replace hu := hu.trans (if_pos c_9)
        rw [hu]
        exact show ((1 : Int32) = 0 ∨ (1 : Int32) = 1) from (Or.inr rfl)
      · replace hu := hu.trans (if_neg c_9)
        rcases (Classical.em (a1 = 127)).symm with c_10 | c_10
        · replace hu := hu.trans (if_neg c_10)
          rw [hu]
          exact show ((0 : Int32) = 0 ∨ (0 : Int32) = 1) from (Or.inl rfl)
        · replace hu := hu.trans (if_pos c_10)
          rw [hu]
          exact show ((1 : Int32) = 0 ∨ (1 : Int32) = 1) from (Or.inr rfl)
    replace hu := hu.trans (if_neg c_8)
    by_cases c_11 : a0 = 100
    · replace hu := hu.trans (if_pos c_11)
      obtain ⟨z_12, hz_12⟩ : ∃ z, z = f_X5_isDigit a1 := ⟨_, rfl⟩
      replace hu := hu.trans (kb_of hz_12)
      have h_13 := pf_X5_isDigit hz_12
      rcases (Classical.em (z_12 = 1)).symm with c_14 | c_14
      · replace hu := hu.trans (if_neg c_14)
        rw [hu]
        exact show ((0 : Int32) = 0 ∨ (0 : Int32) = 1) from (Or.inl rfl)
      · replace hu := hu.trans (if_pos c_14)
        rw [hu]
        exact show ((1 : Int32) = 0 ∨ (1 : Int32) = 1) from (Or.inr rfl)
    replace hu := hu.trans (if_neg c_11)
    by_cases c_15 : a0 = 103
    · replace hu := hu.trans (if_pos c_15)
      obtain ⟨z_16, hz_16⟩ : ∃ z, z = f_X5_isBetween a1 33 126 := ⟨_, rfl⟩
      replace hu := hu.trans (kb_of hz_16)
      have h_17 := pf_X5_isBetween hz_16
      rcases (Classical.em (z_16 = 1)).symm with c_18 | c_18
      · replace hu := hu.trans (if_neg c_18)
        rw [hu]
        exact show ((0 : Int32) = 0 ∨ (0 : Int32) = 1) from (Or.inl rfl)
      · replace hu := hu.trans (if_pos c_18)
        rw [hu]
        exact show ((1 : Int32) = 0 ∨ (1 : Int32) = 1) from (Or.inr rfl)
    replace hu := hu.trans (if_neg c_15)
    by_cases c_19 : a0 = 108
    · replace hu := hu.trans (if_pos c_19)
      obtain ⟨z_20, hz_20⟩ : ∃ z, z = f_X5_isBetween a1 97 122 := ⟨_, rfl⟩
      replace hu := hu.trans (kb_of hz_20)
      have h_21 := pf_X5_isBetween hz_20
      rcases (Classical.em (z_20 = 1)).symm with c_22 | c_22
      · replace hu := hu.trans (if_neg c_22)
        rw [hu]
        exact show ((0 : Int32) = 0 ∨ (0 : Int32) = 1) from (Or.inl rfl)
      · replace hu := hu.trans (if_pos c_22)
        rw [hu]
        exact show ((1 : Int32) = 0 ∨ (1 : Int32) = 1) from (Or.inr rfl)
    replace hu := hu.trans (if_neg c_19)
    by_cases c_23 : a0 = 112
    · replace hu := hu.trans (if_pos c_23)
      obtain ⟨z_24, hz_24⟩ : ∃ z, z = f_X5_isBetween a1 33 126 := ⟨_, rfl⟩
      replace hu := hu.trans (kb_of hz_24)
      have h_25 := pf_X5_isBetween hz_24
      rcases Classical.em (z_24 = 0) with c_26 | c_26
      · replace hu := hu.trans (if_pos c_26)
        rw [hu]
        exact show ((0 : Int32) = 0 ∨ (0 : Int32) = 1) from (Or.inl rfl)
      · replace hu := hu.trans (if_neg c_26)
        obtain ⟨z_27, hz_27⟩ : ∃ z, z = f_X5_isLetter a1 := ⟨_, rfl⟩
        replace hu := hu.trans (kb_of hz_27)
        have h_28 := pf_X5_isLetter hz_27
        rcases (Classical.em (z_27 = 0)).symm with c_29 | c_29
        · replace hu := hu.trans (if_neg c_29)
          rw [hu]
          exact show ((0 : Int32) = 0 ∨ (0 : Int32) = 1) from (Or.inl rfl)
        · replace hu := hu.trans (if_pos c_29)
          obtain ⟨z_30, hz_30⟩ : ∃ z, z = f_X5_isDigit a1 := ⟨_, rfl⟩
          replace hu := hu.trans (kb_of hz_30)
          have h_31 := pf_X5_isDigit hz_30
          rcases (Classical.em (z_30 = 0)).symm with c_32 | c_32
          · replace hu := hu.trans (if_neg c_32)
            rw [hu]
            exact show ((0 : Int32) = 0 ∨ (0 : Int32) = 1) from (Or.inl rfl)
          · replace hu := hu.trans (if_pos c_32)
            rw [hu]
            exact show ((1 : Int32) = 0 ∨ (1 : Int32) = 1) from (Or.inr rfl)
    replace hu := hu.trans (if_neg c_23)
    by_cases c_33 : a0 = 115
    · replace hu := hu.trans (if_pos c_33)
      rcases Classical.em (a1 = 32) with c_34 | c_34
      · replace hu := hu.trans (if_pos c_34)
        rw [hu]
        exact show ((1 : Int32) = 0 ∨ (1 : Int32) = 1) from (Or.inr rfl)
      · replace hu := hu.trans (if_neg c_34)
        obtain ⟨z_35, hz_35⟩ : ∃ z, z = f_X5_isBetween a1 9 13 := ⟨_, rfl⟩
        replace hu := hu.trans (kb_of hz_35)
        have h_36 := pf_X5_isBetween hz_35
        rcases Classical.em (z_35 = 0) with c_37 | c_37
        · replace hu := hu.trans (if_pos c_37)
          rw [hu]
          exact show ((0 : Int32) = 0 ∨ (0 : Int32) = 1) from (Or.inl rfl)
        · replace hu := hu.trans (if_neg c_37)
          rw [hu]
          exact show ((1 : Int32) = 0 ∨ (1 : Int32) = 1) from (Or.inr rfl)
    replace hu := hu.trans (if_neg c_33)
    by_cases c_38 : a0 = 117
    · replace hu := hu.trans (if_pos c_38)
      obtain ⟨z_39, hz_39⟩ : ∃ z, z = f_X5_isBetween a1 65 90 := ⟨_, rfl⟩
      replace hu := hu.trans (kb_of hz_39)
      have h_40 := pf_X5_isBetween hz_39
      rcases (Classical.em (z_39 = 1)).symm with c_41 | c_41
      · replace hu := hu.trans (if_neg c_41)
        rw [hu]
        exact show ((0 : Int32) = 0 ∨ (0 : Int32) = 1) from (Or.inl rfl)
      · replace hu := hu.trans (if_pos c_41)
        rw [hu]
        exact show ((1 : Int32) = 0 ∨ (1 : Int32) = 1) from (Or.inr rfl)
    replace hu := hu.trans (if_neg c_38)
    by_cases c_42 : a0 = 119
    · replace hu := hu.trans (if_pos c_42)
      obtain ⟨z_43, hz_43⟩ : ∃ z, z = f_X5_isLetter a1 := ⟨_, rfl⟩
      replace hu := hu.trans (kb_of hz_43)
      have h_44 := pf_X5_isLetter hz_43
      rcases (Classical.em (z_43 = 0)).symm with c_45 | c_45
      · replace hu := hu.trans (if_neg c_45)
        rw [hu]
        exact show ((1 : Int32) = 0 ∨ (1 : Int32) = 1) from (Or.inr rfl)
      · replace hu := hu.trans (if_pos c_45)
        obtain ⟨z_46, hz_46⟩ : ∃ z, z = f_X5_isDigit a1 := ⟨_, rfl⟩
        replace hu := hu.trans (kb_of hz_46)
        have h_47 := pf_X5_isDigit hz_46
        rcases Classical.em (z_46 = 0) with c_48 | c_48
        · replace hu := hu.trans (if_pos c_48)
          rw [hu]
          exact show ((0 : Int32) = 0 ∨ (0 : Int32) = 1) from (Or.inl rfl)
        · replace hu := hu.trans (if_neg c_48)
          rw [hu]
          exact show ((1 : Int32) = 0 ∨ (1 : Int32) = 1) from (Or.inr rfl)
    replace hu := hu.trans (if_neg c_42)
    by_cases c_49 : a0 = 120
    · replace hu := hu.trans (if_pos c_49)
      obtain ⟨z_50, hz_50⟩ : ∃ z, z = f_X5_isDigit a1 := ⟨_, rfl⟩
      replace hu := hu.trans (kb_of hz_50)
      have h_51 := pf_X5_isDigit hz_50
      rcases (Classical.em (z_50 = 0)).symm with c_52 | c_52
      · replace hu := hu.trans (if_neg c_52)
        rw [hu]
        exact show ((1 : Int32) = 0 ∨ (1 : Int32) = 1) from (Or.inr rfl)
      · replace hu := hu.trans (if_pos c_52)
        obtain ⟨z_53, hz_53⟩ : ∃ z, z = f_X5_isBetween a1 97 102 := ⟨_, rfl⟩
        replace hu := hu.trans (kb_of hz_53)
        have h_54 := pf_X5_isBetween hz_53
        rcases (Classical.em (z_53 = 0)).symm with c_55 | c_55
        · replace hu := hu.trans (if_neg c_55)
          rw [hu]
          exact show ((1 : Int32) = 0 ∨ (1 : Int32) = 1) from (Or.inr rfl)
        · replace hu := hu.trans (if_pos c_55)
          obtain ⟨z_56, hz_56⟩ : ∃ z, z = f_X5_isBetween a1 65 70 := ⟨_, rfl⟩
          replace hu := hu.trans (kb_of hz_56)
          have h_57 := pf_X5_isBetween hz_56
          rcases Classical.em (z_56 = 0) with c_58 | c_58
          · replace hu := hu.trans (if_pos c_58)
            rw [hu]
            exact show ((0 : Int32) = 0 ∨ (0 : Int32) = 1) from (Or.inl rfl)
          · replace hu := hu.trans (if_neg c_58)
            rw [hu]
            exact show ((1 : Int32) = 0 ∨ (1 : Int32) = 1) from (Or.inr rfl)
    replace hu := hu.trans (if_neg c_49)
    rcases (Classical.em (a0 = a1)).symm with c_59 | c_59
    · replace hu := hu.trans (if_neg c_59)
      rw [hu]
      exact show ((0 : Int32) = 0 ∨ (0 : Int32) = 1) from (Or.inl rfl)
    · replace hu := hu.trans (if_pos c_59)
      rw [hu]
      exact show ((1 : Int32) = 0 ∨ (1 : Int32) = 1) from (Or.inr rfl)
  · replace hu := hu.trans (if_neg c_3)
    by_cases c_60 : (a0 + 32) = 97
    · replace hu := hu.trans (if_pos c_60)
      obtain ⟨z_61, hz_61⟩ : ∃ z, z = f_X5_isLetter a1 := ⟨_, rfl⟩
      replace hu := hu.trans (kb_of hz_61)
      have h_62 := pf_X5_isLetter hz_61
      rcases (Classical.em ((a0 + 32) = a0)).symm with c_63 | c_63
      · replace hu := hu.trans (if_neg c_63)
        rcases (Classical.em (z_61 = 0)).symm with c_64 | c_64
        · replace hu := hu.trans (if_neg c_64)
          rw [hu]
          exact show ((0 : Int32) = 0 ∨ (0 : Int32) = 1) from (Or.inl rfl)
        · replace hu := hu.trans (if_pos c_64)
          rw [hu]
          exact show ((1 : Int32) = 0 ∨ (1 : Int32) = 1) from (Or.inr rfl)
      · replace hu := hu.trans (if_pos c_63)
        rcases (Classical.em (z_61 = 1)).symm with c_65 | c_65
        · replace hu := hu.trans (if_neg c_65)
          rw [hu]
          exact show ((0 : Int32) = 0 ∨ (0 : Int32) = 1) from (Or.inl rfl)
        · replace hu := hu.trans (if_pos c_65)
          rw [hu]
          exact show ((1 : Int32) = 0 ∨ (1 : Int32) = 1) from (Or.inr rfl)
    replace hu := hu.trans (if_neg c_60)
    by_cases c_66 : (a0 + 32) = 99
    · replace hu := hu.trans (if_pos c_66)
      rcases Classical.em (a1 < 32) with c_67 | c_67
      · replace hu := hu.trans (if_pos c_67)
        rcases (Classical.em ((a0 + 32) = a0)).symm with c_68 | c_68
        · replace hu := hu.trans (if_neg c_68)
          rw [hu]
          exact show ((0 : Int32) = 0 ∨ (0 : Int32) = 1) from (Or.inl rfl)
        · replace hu := hu.trans (if_pos c_68)
          rw [hu]
          exact show ((1 : Int32) = 0 ∨ (1 : Int32) = 1) from (Or.inr rfl)
      · replace hu := hu.trans (if_neg c_67)
        rcases (Classical.em (a1 = 127)).symm with c_69 | c_69
        · replace hu := hu.trans (if_neg c_69)
          rcases (Classical.em ((a0 + 32) = a0)).symm with c_70 | c_70
          · replace hu := hu.trans (if_neg c_70)
            rw [hu]
            exact show ((1 : Int32) = 0 ∨ (1 : Int32) = 1) from (Or.inr rfl)
          · replace hu := hu.trans (if_pos c_70)
            rw [hu]
            exact show ((0 : Int32) = 0 ∨ (0 : Int32) = 1) from (Or.inl rfl)
        · replace hu := hu.trans (if_pos c_69)
          rcases (Classical.em ((a0 + 32) = a0)).symm with c_71 | c_71
          · replace hu := hu.trans (if_neg c_71)
            rw [hu]
            exact show ((0 : Int32) = 0 ∨ (0 : Int32) = 1) from (Or.inl rfl)
          · replace hu := hu.trans (if_pos c_71)
            rw [hu]
            exact show ((1 : Int32) = 0 ∨ (1 : Int32) = 1) from (Or.inr rfl)
    replace hu := hu.trans (if_neg c_66)
    by_cases c_72 : (a0 + 32) = 100
    · replace hu := hu.trans (if_pos c_72)
      obtain ⟨z_73, hz_73⟩ : ∃ z, z = f_X5_isDigit a1 := ⟨_, rfl⟩
      replace hu := hu.trans (kb_of hz_73)
      have h_74 := pf_X5_isDigit hz_73
      rcases (Classical.em ((a0 + 32) = a0)).symm with c_75 | c_75
      · replace hu := hu.trans (if_neg c_75)
        rcases (Classical.em (z_73 = 0)).symm with c_76 | c_76
        · replace hu := hu.trans (if_neg c_76)
          rw [hu]
          exact show ((0 : Int32) = 0 ∨ (0 : Int32) = 1) from (Or.inl rfl)
        · replace hu := hu.trans (if_pos c_76)
          rw [hu]
          exact show ((1 : Int32) = 0 ∨ (1 : Int32) = 1) from (Or.inr rfl)
      · replace hu := hu.trans (if_pos c_75)
        rcases (Classical.em (z_73 = 1)).symm with c_77 | c_77
        · replace hu := hu.trans (if_neg c_77)
          rw [hu]
          exact show ((0 : Int32) = 0 ∨ (0 : Int32) = 1) from (Or.inl rfl)
        · replace hu := hu.trans (if_pos c_77)
          rw [hu]
          exact show ((1 : Int32) = 0 ∨ (1 : Int32) = 1) from (Or.inr rfl)
    replace hu := hu.trans (if_neg c_72)
    by_cases c_78 : (a0 + 32) = 103
    · replace hu := hu.trans (if_pos c_78)
      obtain ⟨z_79, hz_79⟩ : ∃ z, z = f_X5_isBetween a1 33 126 := ⟨_, rfl⟩
      replace hu := hu.trans (kb_of hz_79)
      have h_80 := pf_X5_isBetween hz_79
      rcases (Classical.em ((a0 + 32) = a0)).symm with c_81 | c_81
      · replace hu := hu.trans (if_neg c_81)
        rcases (Classical.em (z_79 = 0)).symm with c_82 | c_82
        · replace hu := hu.trans (if_neg c_82)
          rw [hu]
          exact show ((0 : Int32) = 0 ∨ (0 : Int32) = 1) from (Or.inl rfl)
        · replace hu := hu.trans (if_pos c_82)
          rw [hu]
          exact show ((1 : Int32) = 0 ∨ (1 : Int32) = 1) from (Or.inr rfl)
      · replace hu := hu.trans (if_pos c_81)
        rcases (Classical.em (z_79 = 1)).symm with c_83 | c_83
        · replace hu := hu.trans (if_neg c_83)
          rw [hu]
          exact show ((0 : Int32) = 0 ∨ (0 : Int32) = 1) from (Or.inl rfl)
        · replace hu := hu.trans (if_pos c_83)
          rw [hu]
          exact show ((1 : Int32) = 0 ∨ (1 : Int32) = 1) from (Or.inr rfl)
    replace hu := hu.trans (if_neg c_78)
    by_cases c_84 : (a0 + 32) = 108
    · replace hu := hu.trans (if_pos c_84)
      obtain ⟨z_85, hz_85⟩ : ∃ z, z = f_X5_isBetween a1 97 122 := ⟨_, rfl⟩
      replace hu := hu.trans (kb_of hz_85)
      have h_86 := pf_X5_isBetween hz_85
      rcases (Classical.em ((a0 + 32) = a0)).symm with c_87 | c_87
      · replace hu := hu.trans (if_neg c_87)
        rcases (Classical.em (z_85 = 0)).symm with c_88 | c_88
        · replace hu := hu.trans (if_neg c_88)
          rw [hu]
          exact show ((0 : Int32) = 0 ∨ (0 : Int32) = 1) from (Or.inl rfl)
        · replace hu := hu.trans (if_pos c_88)
          rw [hu]
          exact show ((1 : Int32) = 0 ∨ (1 : Int32) = 1) from (Or.inr rfl)
      · replace hu := hu.trans (if_pos c_87)
        rcases (Classical.em (z_85 = 1)).symm with c_89 | c_89
        · replace hu := hu.trans (if_neg c_89)
          rw [hu]
          exact show ((0 : Int32) = 0 ∨ (0 : Int32) = 1) from (Or.inl rfl)
        · replace hu := hu.trans (if_pos c_89)
          rw [hu]
          exact show ((1 : Int32) = 0 ∨ (1 : Int32) = 1) from (Or.inr rfl)
    replace hu := hu.trans (if_neg c_84)
    by_cases c_90 : (a0 + 32) = 112
    · replace hu := hu.trans (if_pos c_90)
      obtain ⟨z_91, hz_91⟩ : ∃ z, z = f_X5_isBetween a1 33 126 := ⟨_, rfl⟩
      replace hu := hu.trans (kb_of hz_91)
      have h_92 := pf_X5_isBetween hz_91
      rcases Classical.em (z_91 = 0) with c_93 | c_93
      · replace hu := hu.trans (if_pos c_93)
        rcases (Classical.em ((a0 + 32) = a0)).symm with c_94 | c_94
        · replace hu := hu.trans (if_neg c_94)
          rw [hu]
          exact show ((1 : Int32) = 0 ∨ (1 : Int32) = 1) from (Or.inr rfl)
        · replace hu := hu.trans (if_pos c_94)
          rw [hu]
          exact show ((0 : Int32) = 0 ∨ (0 : Int32) = 1) from (Or.inl rfl)
      · replace hu := hu.trans (if_neg c_93)
        obtain ⟨z_95, hz_95⟩ : ∃ z, z = f_X5_isLetter a1 := ⟨_, rfl⟩
        replace hu := hu.trans (kb_of hz_95)
        have h_96 := pf_X5_isLetter hz_95
        rcases (Classical.em (z_95 = 0)).symm with c_97 | c_97
        · replace hu := hu.trans (if_neg c_97)
          rcases (Classical.em ((a0 + 32) = a0)).symm with c_98 | c_98
          · replace hu := hu.trans (if_neg c_98)
            rw [hu]
            exact show ((1 : Int32) = 0 ∨ (1 : Int32) = 1) from (Or.inr rfl)
          · replace hu := hu.trans (if_pos c_98)
            rw [hu]
            exact show ((0 : Int32) = 0 ∨ (0 : Int32) = 1) from (Or.inl rfl)
        · replace hu := hu.trans (if_pos c_97)
          obtain ⟨z_99, hz_99⟩ : ∃ z, z = f_X5_isDigit a1 := ⟨_, rfl⟩
          replace hu := hu.trans (kb_of hz_99)
          have h_100 := pf_X5_isDigit hz_99
          rcases (Classical.em (z_99 = 0)).symm with c_101 | c_101
          · replace hu := hu.trans (if_neg c_101)
            rcases (Classical.em ((a0 + 32) = a0)).symm with c_102 | c_102
            · replace hu := hu.trans (if_neg c_102)
              rw [hu]
              exact show ((1 : Int32) = 0 ∨ (1 : Int32) = 1) from (Or.inr rfl)
            · replace hu := hu.trans (if_pos c_102)
              rw [hu]
              exact show ((0 : Int32) = 0 ∨ (0 : Int32) = 1) from (Or.inl rfl)
          · replace hu := hu.trans (if_pos c_101)
            rcases (Classical.em ((a0 + 32) = a0)).symm with c_103 | c_103
            · replace hu := hu.trans (if_neg c_103)
              rw [hu]
              exact show ((0 : Int32) = 0 ∨ (0 : Int32) = 1) from (Or.inl rfl)
            · replace hu := hu.trans (if_pos c_103)
              rw [hu]
              exact show ((1 : Int32) = 0 ∨ (1 : Int32) = 1) from (Or.inr rfl)
    replace hu := hu.trans (if_neg c_90)
    by_cases c_104 : (a0 + 32) = 115
    · replace hu := hu.trans (if_pos c_104)
      rcases Classical.em (a1 = 32) with c_105 | c_105
      · replace hu := hu.trans (if_pos c_105)
        rcases (Classical.em ((a0 + 32) = a0)).symm with c_106 | c_106
        · replace hu := hu.trans (if_neg c_106)
          rw [hu]
          exact show ((0 : Int32) = 0 ∨ (0 : Int32) = 1) from (Or.inl rfl)
        · replace hu := hu.trans (if_pos c_106)
          rw [hu]
          exact show ((1 : Int32) = 0 ∨ (1 : Int32) = 1) from (Or.inr rfl)
      · replace hu := hu.trans (if_neg c_105)
        obtain ⟨z_107, hz_107⟩ : ∃ z, z = f_X5_isBetween a1 9 13 := ⟨_, rfl⟩
        replace hu := hu.trans (kb_of hz_107)
        have h_108 := pf_X5_isBetween hz_107
        rcases Classical.em (z_107 = 0) with c_109 | c_109
        · replace hu := hu.trans (if_pos c_109)
          rcases (Classical.em ((a0 + 32) = a0)).symm with c_110 | c_110
          · replace hu := hu.trans (if_neg c_110)
            rw [hu]
            exact show ((1 : Int32) = 0 ∨ (1 : Int32) = 1) from (Or.inr rfl)
          · replace hu := hu.trans (if_pos c_110)
            rw [hu]
            exact show ((0 : Int32) = 0 ∨ (0 : Int32) = 1) from (Or.inl rfl)
        · replace hu := hu.trans (if_neg c_109)
          rcases (Classical.em ((a0 + 32) = a0)).symm with c_111 | c_111
          · replace hu := hu.trans (if_neg c_111)
            rw [hu]
            exact show ((0 : Int32) = 0 ∨ (0 : Int32) = 1) from (Or.inl rfl)
          · replace hu := hu.trans (if_pos c_111)
            rw [hu]
            exact show ((1 : Int32) = 0 ∨ (1 : Int32) = 1) from (Or.inr rfl)
    replace hu := hu.trans (if_neg c_104)
    by_cases c_112 : (a0 + 32) = 117
    · replace hu := hu.trans (if_pos c_112)
      obtain ⟨z_113, hz_113⟩ : ∃ z, z = f_X5_isBetween a1 65 90 := ⟨_, rfl⟩
      replace hu := hu.trans (kb_of hz_113)
      have h_114 := pf_X5_isBetween hz_113
      rcases (Classical.em ((a0 + 32) = a0)).symm with c_115 | c_115
      · replace hu := hu.trans (if_neg c_115)
        rcases (Classical.em (z_113 = 0)).symm with c_116 | c_116
        · replace hu := hu.trans (if_neg c_116)
          rw [hu]
          exact show ((0 : Int32) = 0 ∨ (0 : Int32) = 1) from (Or.inl rfl)
        · replace hu := hu.trans (if_pos c_116)
          rw [hu]
          exact show ((1 : Int32) = 0 ∨ (1 : Int32) = 1) from (Or.inr rfl)
      · replace hu := hu.trans (if_pos c_115)
        rcases (Classical.em (z_113 = 1)).symm with c_117 | c_117
        · replace hu := hu.trans (if_neg c_117)
          rw [hu]
          exact show ((0 : Int32) = 0 ∨ (0 : Int32) = 1) from (Or.inl rfl)
        · replace hu := hu.trans (if_pos c_117)
          rw [hu]
          exact show ((1 : Int32) = 0 ∨ (1 : Int32) = 1) from (Or.inr rfl)
    replace hu := hu.trans (if_neg c_112)
    by_cases c_118 : (a0 + 32) = 119
    · replace hu := hu.trans (if_pos c_118)
      obtain ⟨z_119, hz_119⟩ : ∃ z, z = f_X5_isLetter a1 := ⟨_, rfl⟩
      replace hu := hu.trans (kb_of hz_119)
      have h_120 := pf_X5_isLetter hz_119
      rcases (Classical.em (z_119 = 0)).symm with c_121 | c_121
      · replace hu := hu.trans (if_neg c_121)
        rcases (Classical.em ((a0 + 32) = a0)).symm with c_122 | c_122
        · replace hu := hu.trans (if_neg c_122)
          rw [hu]
          exact show ((0 : Int32) = 0 ∨ (0 : Int32) = 1) from (Or.inl rfl)
        · replace hu := hu.trans (if_pos c_122)
          rw [hu]
          exact show ((1 : Int32) = 0 ∨ (1 : Int32) = 1) from (Or.inr rfl)
      · replace hu := hu.trans (if_pos c_121)
        obtain ⟨z_123, hz_123⟩ : ∃ z, z = f_X5_isDigit a1 := ⟨_, rfl⟩
        replace hu := hu.trans (kb_of hz_123)
        have h_124 := pf_X5_isDigit hz_123
        rcases Classical.em (z_123 = 0) with c_125 | c_125
        · replace hu := hu.trans (if_pos c_125)
          rcases (Classical.em ((a0 + 32) = a0)).symm with c_126 | c_126
          · replace hu := hu.trans (if_neg c_126)
            rw [hu]
            exact show ((1 : Int32) = 0 ∨ (1 : Int32) = 1) from (Or.inr rfl)
          · replace hu := hu.trans (if_pos c_126)
            rw [hu]
            exact show ((0 : Int32) = 0 ∨ (0 : Int32) = 1) from (Or.inl rfl)
        · replace hu := hu.trans (if_neg c_125)
          rcases (Classical.em ((a0 + 32) = a0)).symm with c_127 | c_127
          · replace hu := hu.trans (if_neg c_127)
            rw [hu]
            exact show ((0 : Int32) = 0 ∨ (0 : Int32) = 1) from (Or.inl rfl)
          · replace hu := hu.trans (if_pos c_127)
            rw [hu]
            exact show ((1 : Int32) = 0 ∨ (1 : Int32) = 1) from (Or.inr rfl)
    replace hu := hu.trans (if_neg c_118)
    by_cases c_128 : (a0 + 32) = 120
    · replace hu := hu.trans (if_pos c_128)
      obtain ⟨z_129, hz_129⟩ : ∃ z, z = f_X5_isDigit a1 := ⟨_, rfl⟩
      replace hu := hu.trans (kb_of hz_129)
      have h_130 := pf_X5_isDigit hz_129
      rcases (Classical.em (z_129 = 0)).symm with c_131 | c_131
      · replace hu := hu.trans (if_neg c_131)
        rcases (Classical.em ((a0 + 32) = a0)).symm with c_132 | c_132
        · replace hu := hu.trans (if_neg c_132)
          rw [hu]
          exact show ((0 : Int32) = 0 ∨ (0 : Int32) = 1) from (Or.inl rfl)
        · replace hu := hu.trans (if_pos c_132)
          rw [hu]
          exact show ((1 : Int32) = 0 ∨ (1 : Int32) = 1) from (Or.inr rfl)
      · replace hu := hu.trans (if_pos c_131)
        obtain ⟨z_133, hz_133⟩ : ∃ z, z = f_X5_isBetween a1 97 102 := ⟨_, rfl⟩
        replace hu := hu.trans (kb_of hz_133)
        have h_134 := pf_X5_isBetween hz_133
        rcases (Classical.em (z_133 = 0)).symm with c_135 | c_135
        · replace hu := hu.trans (if_neg c_135)
          rcases (Classical.em ((a0 + 32) = a0)).symm with c_136 | c_136
          · replace hu := hu.trans (if_neg c_136)
            rw [hu]
            exact show ((0 : Int32) = 0 ∨ (0 : Int32) = 1) from (Or.inl rfl)
          · replace hu := hu.trans (if_pos c_136)
            rw [hu]
            exact show ((1 : Int32) = 0 ∨ (1 : Int32) = 1) from (Or.inr rfl)
        · replace hu := hu.trans (if_pos c_135)
          obtain ⟨z_137, hz_137⟩ : ∃ z, z = f_X5_isBetween a1 65 70 := ⟨_, rfl⟩
          replace hu := hu.trans (kb_of hz_137)
          have h_138 := pf_X5_isBetween hz_137
          rcases Classical.em (z_137 = 0) with c_139 | c_139
          · replace hu := hu.trans (if_pos c_139)
            rcases (Classical.em ((a0 + 32) = a0)).symm with c_140 | c_140
            · replace hu := hu.trans (if_neg c_140)
              rw [hu]
              exact show ((1 : Int32) = 0 ∨ (1 : Int32) = 1) from (Or.inr rfl)
            · replace hu := hu.trans (if_pos c_140)
              rw [hu]
              exact show ((0 : Int32) = 0 ∨ (0 : Int32) = 1) from (Or.inl rfl)
          · replace hu := hu.trans (if_neg c_139)
            rcases (Classical.em ((a0 + 32) = a0)).symm with c_141 | c_141
            · replace hu := hu.trans (if_neg c_141)
              rw [hu]
              exact show ((0 : Int32) = 0 ∨ (0 : Int32) = 1) from (Or.inl rfl)
            · replace hu := hu.trans (if_pos c_141)
              rw [hu]
              exact show ((1 : Int32) = 0 ∨ (1 : Int32) = 1) from (Or.inr rfl)
    replace hu := hu.trans (if_neg c_128)
    rcases (Classical.em (a0 = a1)).symm with c_142 | c_142
    · replace hu := hu.trans (if_neg c_142)
      rw [hu]
      exact show ((0 : Int32) = 0 ∨ (0 : Int32) = 1) from (Or.inl rfl)
    · replace hu := hu.trans (if_pos c_142)
      rw [hu]
      exact show ((1 : Int32) = 0 ∨ (1 : Int32) = 1) from (Or.inr rfl)
abbrev rm_X5_classHas : Room := { frames := 2, cells := 0, slots := 0, locals := 42 }
set_option maxHeartbeats 4000000 in
set_option maxRecDepth 100000 in
theorem c_X5_classHas (l : Launch) (DD : va_G) (aC : Nat → ClassId) (tt : Nat → Nat) (a0 : Int32) (a1 : Int32) (u : Int32) (hu : u = f_X5_classHas a0 a1) : kM l yX5_classHas wsX5_classHas rm_X5_classHas DD aC tt [.int a0, .int a1] [] (some (.int u)) [] := by
  refine k_start (cc := cX5_classHas) (maxL := 4) (ret := (some .boolean)) (own := RX5) (lv0 := [(0, .int a0), (1, .int a1)]) (by decide) rfl rfl (Nat.le_of_ble_eq_true rfl) rfl (fun p e s m below meth c A ls X hP hD hS hl => ?_)
  obtain ⟨hx, hb, hr, hml, hts, hown, hlocks, hA, hE⟩ := id X
  unfold f_X5_classHas at hu
  refine lv_iload_n hx hb dX5_classHas_0 rfl (lv_at hl 0 rfl) ?_
  refine lv_bipush (v := 65) hx hb dX5_classHas_1 (by decide) ?_
  refine lv_bipush (v := 90) hx hb dX5_classHas_3 (by decide) ?_
  obtain ⟨z_1, hz_1⟩ : ∃ z, z = f_X5_isBetween a0 65 90 := ⟨_, rfl⟩
  replace hu := hu.trans (kb_of hz_1)
  refine k_callS (As := [.int a0, .int 65, .int 90]) (rest := []) (wc := []) (wr := []) (w1 := []) (wn := []) ⟨hx, hb, hml, hown, hts⟩ (c_X5_isBetween l DD aC tt    a0 65 90  z_1 hz_1) (cwS 3 hts (gdS w_685 w_686 w_74 w_687) rfl rfl rfl (by decide +kernel) ⟨Nat.le_of_ble_eq_true rfl, Nat.le_of_ble_eq_true rfl⟩) hP hD hS hA hE [] [] [] rfl rfl rfl (by decide) (by decide) (by decide) (by decide) rfl hl.1 rfl (Nat.le_of_ble_eq_true rfl) dX5_classHas_5 (fun H locs hP hD hS => ?_)
  refine W.eq (g2 := F0 m 8 ls [.int z_1]) rfl ?_
  have h_2 := pf_X5_isBetween hz_1
  refine lv_if_eq (tgt := 18) hx hb dX5_classHas_8 (by decide) (fun c_3 => ?_) (fun c_3 => ?_)
  · replace hu := hu.trans (if_pos c_3)
    refine lv_iload_n hx hb dX5_classHas_18 rfl (lv_at hl 0 rfl) ?_
    refine lv_istore_n (lv' := [(2, .int a0), (0, .int a0), (1, .int a1)]) hx hb dX5_classHas_19 rfl hl (by decide) rfl (fun ls hl => ?_)
    refine lv_iconst (v := 0) hx hb dX5_classHas_20 (by decide) ?_
    refine lv_istore_n (lv' := [(3, .int 0), (2, .int a0), (0, .int a0), (1, .int a1)]) hx hb dX5_classHas_21 rfl hl (by decide) rfl (fun ls hl => ?_)
    refine lv_iload_n hx hb dX5_classHas_22 rfl (lv_at hl 1 rfl) ?_
    by_cases c_4 : a0 = 97
    · replace hu := hu.trans (if_pos c_4)
      refine lv_tableIn (off := 109) (tgt := 132) hx hb dX5_classHas_23 (by rw [c_4]; decide) (by rw [c_4]; decide) (by rw [c_4]; decide) (by decide) ?_
      refine lv_iload_n hx hb dX5_classHas_132 rfl (lv_at hl 3 rfl) ?_
      obtain ⟨z_5, hz_5⟩ : ∃ z, z = f_X5_isLetter a1 := ⟨_, rfl⟩
      replace hu := hu.trans (kb_of hz_5)
      refine k_callS (As := [.int a1]) (rest := []) (wc := []) (wr := []) (w1 := []) (wn := []) ⟨hx, hb, hml, hown, hts⟩ (c_X5_isLetter l DD aC tt    a1  z_5 hz_5) (cwS 1 hts (gdS w_688 w_689 w_74 w_690) rfl rfl rfl (by decide +kernel) ⟨Nat.le_of_ble_eq_true rfl, Nat.le_of_ble_eq_true rfl⟩) hP hD hS hA hE [] [] [] rfl rfl rfl (by decide) (by decide) (by decide) (by decide) rfl hl.1 rfl (Nat.le_of_ble_eq_true rfl) dX5_classHas_133 (fun H locs hP hD hS => ?_)
      refine W.eq (g2 := F0 m 136 ls [.int z_5]) rfl ?_
      have h_6 := pf_X5_isLetter hz_5
      refine lv_istore_n (lv' := [(3, .int z_5), (2, .int a0), (0, .int a0), (1, .int a1)]) hx hb dX5_classHas_136 rfl hl (by decide) rfl (fun ls hl => ?_)
      refine lv_goto (tgt := 337) hx hb dX5_classHas_137 (by decide) ?_
      refine lv_iload_n hx hb dX5_classHas_337 rfl (lv_at hl 0 rfl) ?_
      refine lv_iload_n hx hb dX5_classHas_338 rfl (lv_at hl 1 rfl) ?_
      refine lv_iload_n hx hb dX5_classHas_339 rfl (lv_at hl 2 rfl) ?_
      refine lv_icmp_ne (tgt := 347) hx hb dX5_classHas_340 (by decide) (fun h => absurd rfl h) (fun _ => ?_)
      refine lv_iconst (v := 1) hx hb dX5_classHas_343 (by decide) ?_
      refine lv_goto (tgt := 348) hx hb dX5_classHas_344 (by decide) ?_
      refine lv_icmp_ne (tgt := 355) hx hb dX5_classHas_348 (by decide) (fun c_7 => ?_) (fun c_7 => ?_)
      · replace hu := hu.trans (if_neg c_7)
        refine lv_iconst (v := 0) hx hb dX5_classHas_355 (by decide) ?_
        subst hu
        exact k_zret hx hb hr (by decide) hlocks hP hD hS rfl rfl dX5_classHas_356
      · replace hu := hu.trans (if_pos c_7)
        refine lv_iconst (v := 1) hx hb dX5_classHas_351 (by decide) ?_
        refine lv_goto (tgt := 356) hx hb dX5_classHas_352 (by decide) ?_
        subst hu
        exact k_zret hx hb hr (by decide) hlocks hP hD hS rfl rfl dX5_classHas_356
    replace hu := hu.trans (if_neg c_4)
    by_cases c_8 : a0 = 99
    · replace hu := hu.trans (if_pos c_8)
      refine lv_tableIn (off := 282) (tgt := 305) hx hb dX5_classHas_23 (by rw [c_8]; decide) (by rw [c_8]; decide) (by rw [c_8]; decide) (by decide) ?_
      refine lv_iload_n hx hb dX5_classHas_305 rfl (lv_at hl 3 rfl) ?_
      refine lv_bipush (v := 32) hx hb dX5_classHas_306 (by decide) ?_
      refine lv_icmp_lt (tgt := 317) hx hb dX5_classHas_308 (by decide) (fun c_9 => ?_) (fun c_9 => ?_)
      · replace hu := hu.trans (if_pos c_9)
        refine lv_iconst (v := 1) hx hb dX5_classHas_317 (by decide) ?_
        refine lv_goto (tgt := 322) hx hb dX5_classHas_318 (by decide) ?_
        refine lv_istore_n (lv' := [(3, .int 1), (2, .int a0), (0, .int a0), (1, .int a1)]) hx hb dX5_classHas_322 rfl hl (by decide) rfl (fun ls hl => ?_)
        refine lv_goto (tgt := 337) hx hb dX5_classHas_323 (by decide) ?_
        refine lv_iload_n hx hb dX5_classHas_337 rfl (lv_at hl 0 rfl) ?_
        refine lv_iload_n hx hb dX5_classHas_338 rfl (lv_at hl 1 rfl) ?_
        refine lv_iload_n hx hb dX5_classHas_339 rfl (lv_at hl 2 rfl) ?_
        refine lv_icmp_ne (tgt := 347) hx hb dX5_classHas_340 (by decide) (fun h => absurd rfl h) (fun _ => ?_)
        refine lv_iconst (v := 1) hx hb dX5_classHas_343 (by decide) ?_
        refine lv_goto (tgt := 348) hx hb dX5_classHas_344 (by decide) ?_
        refine lv_icmp_ne (tgt := 355) hx hb dX5_classHas_348 (by decide) (fun h => absurd (by decide) h) (fun _ => ?_)
        refine lv_iconst (v := 1) hx hb dX5_classHas_351 (by decide) ?_
        refine lv_goto (tgt := 356) hx hb dX5_classHas_352 (by decide) ?_
        subst hu
        exact k_zret hx hb hr (by decide) hlocks hP hD hS rfl rfl dX5_classHas_356
      · replace hu := hu.trans (if_neg c_9)
        refine lv_iload_n hx hb dX5_classHas_311 rfl (lv_at hl 3 rfl) ?_
        refine lv_bipush (v := 127) hx hb dX5_classHas_312 (by decide) ?_
        refine lv_icmp_ne (tgt := 321) hx hb dX5_classHas_314 (by decide) (fun c_10 => ?_) (fun c_10 => ?_)
        · replace hu := hu.trans (if_neg c_10)
          refine lv_iconst (v := 0) hx hb dX5_classHas_321 (by decide) ?_
          refine lv_istore_n (lv' := [(3, .int 0), (2, .int a0), (0, .int a0), (1, .int a1)]) hx hb dX5_classHas_322 rfl hl (by decide) rfl (fun ls hl => ?_)
          refine lv_goto (tgt := 337) hx hb dX5_classHas_323 (by decide) ?_
          refine lv_iload_n hx hb dX5_classHas_337 rfl (lv_at hl 0 rfl) ?_
          refine lv_iload_n hx hb dX5_classHas_338 rfl (lv_at hl 1 rfl) ?_
          refine lv_iload_n hx hb dX5_classHas_339 rfl (lv_at hl 2 rfl) ?_
          refine lv_icmp_ne (tgt := 347) hx hb dX5_classHas_340 (by decide) (fun h => absurd rfl h) (fun _ => ?_)
          refine lv_iconst (v := 1) hx hb dX5_classHas_343 (by decide) ?_
          refine lv_goto (tgt := 348) hx hb dX5_classHas_344 (by decide) ?_
          refine lv_icmp_ne (tgt := 355) hx hb dX5_classHas_348 (by decide) (fun _ => ?_) (fun h => absurd h (by decide))
          refine lv_iconst (v := 0) hx hb dX5_classHas_355 (by decide) ?_
          subst hu
          exact k_zret hx hb hr (by decide) hlocks hP hD hS rfl rfl dX5_classHas_356
        · replace hu := hu.trans (if_pos c_10)
          refine lv_iconst (v := 1) hx hb dX5_classHas_317 (by decide) ?_
          refine lv_goto (tgt := 322) hx hb dX5_classHas_318 (by decide) ?_
          refine lv_istore_n (lv' := [(3, .int 1), (2, .int a0), (0, .int a0), (1, .int a1)]) hx hb dX5_classHas_322 rfl hl (by decide) rfl (fun ls hl => ?_)
          refine lv_goto (tgt := 337) hx hb dX5_classHas_323 (by decide) ?_
          refine lv_iload_n hx hb dX5_classHas_337 rfl (lv_at hl 0 rfl) ?_
          refine lv_iload_n hx hb dX5_classHas_338 rfl (lv_at hl 1 rfl) ?_
          refine lv_iload_n hx hb dX5_classHas_339 rfl (lv_at hl 2 rfl) ?_
          refine lv_icmp_ne (tgt := 347) hx hb dX5_classHas_340 (by decide) (fun h => absurd rfl h) (fun _ => ?_)
          refine lv_iconst (v := 1) hx hb dX5_classHas_343 (by decide) ?_
          refine lv_goto (tgt := 348) hx hb dX5_classHas_344 (by decide) ?_
          refine lv_icmp_ne (tgt := 355) hx hb dX5_classHas_348 (by decide) (fun h => absurd (by decide) h) (fun _ => ?_)
          refine lv_iconst (v := 1) hx hb dX5_classHas_351 (by decide) ?_
          refine lv_goto (tgt := 356) hx hb dX5_classHas_352 (by decide) ?_
          subst hu
          exact k_zret hx hb hr (by decide) hlocks hP hD hS rfl rfl dX5_classHas_356
    replace hu := hu.trans (if_neg c_8)
    by_cases c_11 : a0 = 100
    · replace hu := hu.trans (if_pos c_11)
      refine lv_tableIn (off := 117) (tgt := 140) hx hb dX5_classHas_23 (by rw [c_11]; decide) (by rw [c_11]; decide) (by rw [c_11]; decide) (by decide) ?_
      refine lv_iload_n hx hb dX5_classHas_140 rfl (lv_at hl 3 rfl) ?_
      obtain ⟨z_12, hz_12⟩ : ∃ z, z = f_X5_isDigit a1 := ⟨_, rfl⟩
      replace hu := hu.trans (kb_of hz_12)
      refine k_callS (As := [.int a1]) (rest := []) (wc := []) (wr := []) (w1 := []) (wn := []) ⟨hx, hb, hml, hown, hts⟩ (c_X5_isDigit l DD aC tt    a1  z_12 hz_12) (cwS 1 hts (gdS w_691 w_692 w_74 w_693) rfl rfl rfl (by decide +kernel) ⟨Nat.le_of_ble_eq_true rfl, Nat.le_of_ble_eq_true rfl⟩) hP hD hS hA hE [] [] [] rfl rfl rfl (by decide) (by decide) (by decide) (by decide) rfl hl.1 rfl (Nat.le_of_ble_eq_true rfl) dX5_classHas_141 (fun H locs hP hD hS => ?_)
      refine W.eq (g2 := F0 m 144 ls [.int z_12]) rfl ?_
      have h_13 := pf_X5_isDigit hz_12
      refine lv_istore_n (lv' := [(3, .int z_12), (2, .int a0), (0, .int a0), (1, .int a1)]) hx hb dX5_classHas_144 rfl hl (by decide) rfl (fun ls hl => ?_)
      refine lv_goto (tgt := 337) hx hb dX5_classHas_145 (by decide) ?_
      refine lv_iload_n hx hb dX5_classHas_337 rfl (lv_at hl 0 rfl) ?_
      refine lv_iload_n hx hb dX5_classHas_338 rfl (lv_at hl 1 rfl) ?_
      refine lv_iload_n hx hb dX5_classHas_339 rfl (lv_at hl 2 rfl) ?_
      refine lv_icmp_ne (tgt := 347) hx hb dX5_classHas_340 (by decide) (fun h => absurd rfl h) (fun _ => ?_)
      refine lv_iconst (v := 1) hx hb dX5_classHas_343 (by decide) ?_
      refine lv_goto (tgt := 348) hx hb dX5_classHas_344 (by decide) ?_
      refine lv_icmp_ne (tgt := 355) hx hb dX5_classHas_348 (by decide) (fun c_14 => ?_) (fun c_14 => ?_)
      · replace hu := hu.trans (if_neg c_14)
        refine lv_iconst (v := 0) hx hb dX5_classHas_355 (by decide) ?_
        subst hu
        exact k_zret hx hb hr (by decide) hlocks hP hD hS rfl rfl dX5_classHas_356
      · replace hu := hu.trans (if_pos c_14)
        refine lv_iconst (v := 1) hx hb dX5_classHas_351 (by decide) ?_
        refine lv_goto (tgt := 356) hx hb dX5_classHas_352 (by decide) ?_
        subst hu
        exact k_zret hx hb hr (by decide) hlocks hP hD hS rfl rfl dX5_classHas_356
    replace hu := hu.trans (if_neg c_11)
    by_cases c_15 : a0 = 103
    · replace hu := hu.trans (if_pos c_15)
      refine lv_tableIn (off := 236) (tgt := 259) hx hb dX5_classHas_23 (by rw [c_15]; decide) (by rw [c_15]; decide) (by rw [c_15]; decide) (by decide) ?_
      refine lv_iload_n hx hb dX5_classHas_259 rfl (lv_at hl 3 rfl) ?_
      refine lv_bipush (v := 33) hx hb dX5_classHas_260 (by decide) ?_
      refine lv_bipush (v := 126) hx hb dX5_classHas_262 (by decide) ?_
      obtain ⟨z_16, hz_16⟩ : ∃ z, z = f_X5_isBetween a1 33 126 := ⟨_, rfl⟩
      replace hu := hu.trans (kb_of hz_16)
      refine k_callS (As := [.int a1, .int 33, .int 126]) (rest := []) (wc := []) (wr := []) (w1 := []) (wn := []) ⟨hx, hb, hml, hown, hts⟩ (c_X5_isBetween l DD aC tt    a1 33 126  z_16 hz_16) (cwS 3 hts (gdS w_685 w_686 w_74 w_687) rfl rfl rfl (by decide +kernel) ⟨Nat.le_of_ble_eq_true rfl, Nat.le_of_ble_eq_true rfl⟩) hP hD hS hA hE [] [] [] rfl rfl rfl (by decide) (by decide) (by decide) (by decide) rfl hl.1 rfl (Nat.le_of_ble_eq_true rfl) dX5_classHas_264 (fun H locs hP hD hS => ?_)
      refine W.eq (g2 := F0 m 267 ls [.int z_16]) rfl ?_
      have h_17 := pf_X5_isBetween hz_16
      refine lv_istore_n (lv' := [(3, .int z_16), (2, .int a0), (0, .int a0), (1, .int a1)]) hx hb dX5_classHas_267 rfl hl (by decide) rfl (fun ls hl => ?_)
      refine lv_goto (tgt := 337) hx hb dX5_classHas_268 (by decide) ?_
      refine lv_iload_n hx hb dX5_classHas_337 rfl (lv_at hl 0 rfl) ?_
      refine lv_iload_n hx hb dX5_classHas_338 rfl (lv_at hl 1 rfl) ?_
      refine lv_iload_n hx hb dX5_classHas_339 rfl (lv_at hl 2 rfl) ?_
      refine lv_icmp_ne (tgt := 347) hx hb dX5_classHas_340 (by decide) (fun h => absurd rfl h) (fun _ => ?_)
      refine lv_iconst (v := 1) hx hb dX5_classHas_343 (by decide) ?_
      refine lv_goto (tgt := 348) hx hb dX5_classHas_344 (by decide) ?_
      refine lv_icmp_ne (tgt := 355) hx hb dX5_classHas_348 (by decide) (fun c_18 => ?_) (fun c_18 => ?_)
      · replace hu := hu.trans (if_neg c_18)
        refine lv_iconst (v := 0) hx hb dX5_classHas_355 (by decide) ?_
        subst hu
        exact k_zret hx hb hr (by decide) hlocks hP hD hS rfl rfl dX5_classHas_356
      · replace hu := hu.trans (if_pos c_18)
        refine lv_iconst (v := 1) hx hb dX5_classHas_351 (by decide) ?_
        refine lv_goto (tgt := 356) hx hb dX5_classHas_352 (by decide) ?_
        subst hu
        exact k_zret hx hb hr (by decide) hlocks hP hD hS rfl rfl dX5_classHas_356
    replace hu := hu.trans (if_neg c_15)
    by_cases c_19 : a0 = 108
    · replace hu := hu.trans (if_pos c_19)
      refine lv_tableIn (off := 125) (tgt := 148) hx hb dX5_classHas_23 (by rw [c_19]; decide) (by rw [c_19]; decide) (by rw [c_19]; decide) (by decide) ?_
      refine lv_iload_n hx hb dX5_classHas_148 rfl (lv_at hl 3 rfl) ?_
      refine lv_bipush (v := 97) hx hb dX5_classHas_149 (by decide) ?_
      refine lv_bipush (v := 122) hx hb dX5_classHas_151 (by decide) ?_
      obtain ⟨z_20, hz_20⟩ : ∃ z, z = f_X5_isBetween a1 97 122 := ⟨_, rfl⟩
      replace hu := hu.trans (kb_of hz_20)
      refine k_callS (As := [.int a1, .int 97, .int 122]) (rest := []) (wc := []) (wr := []) (w1 := []) (wn := []) ⟨hx, hb, hml, hown, hts⟩ (c_X5_isBetween l DD aC tt    a1 97 122  z_20 hz_20) (cwS 3 hts (gdS w_685 w_686 w_74 w_687) rfl rfl rfl (by decide +kernel) ⟨Nat.le_of_ble_eq_true rfl, Nat.le_of_ble_eq_true rfl⟩) hP hD hS hA hE [] [] [] rfl rfl rfl (by decide) (by decide) (by decide) (by decide) rfl hl.1 rfl (Nat.le_of_ble_eq_true rfl) dX5_classHas_153 (fun H locs hP hD hS => ?_)
      refine W.eq (g2 := F0 m 156 ls [.int z_20]) rfl ?_
      have h_21 := pf_X5_isBetween hz_20
      refine lv_istore_n (lv' := [(3, .int z_20), (2, .int a0), (0, .int a0), (1, .int a1)]) hx hb dX5_classHas_156 rfl hl (by decide) rfl (fun ls hl => ?_)
      refine lv_goto (tgt := 337) hx hb dX5_classHas_157 (by decide) ?_
      refine lv_iload_n hx hb dX5_classHas_337 rfl (lv_at hl 0 rfl) ?_
      refine lv_iload_n hx hb dX5_classHas_338 rfl (lv_at hl 1 rfl) ?_
      refine lv_iload_n hx hb dX5_classHas_339 rfl (lv_at hl 2 rfl) ?_
      refine lv_icmp_ne (tgt := 347) hx hb dX5_classHas_340 (by decide) (fun h => absurd rfl h) (fun _ => ?_)
      refine lv_iconst (v := 1) hx hb dX5_classHas_343 (by decide) ?_
      refine lv_goto (tgt := 348) hx hb dX5_classHas_344 (by decide) ?_
      refine lv_icmp_ne (tgt := 355) hx hb dX5_classHas_348 (by decide) (fun c_22 => ?_) (fun c_22 => ?_)
      · replace hu := hu.trans (if_neg c_22)
        refine lv_iconst (v := 0) hx hb dX5_classHas_355 (by decide) ?_
        subst hu
        exact k_zret hx hb hr (by decide) hlocks hP hD hS rfl rfl dX5_classHas_356
      · replace hu := hu.trans (if_pos c_22)
        refine lv_iconst (v := 1) hx hb dX5_classHas_351 (by decide) ?_
        refine lv_goto (tgt := 356) hx hb dX5_classHas_352 (by decide) ?_
        subst hu
        exact k_zret hx hb hr (by decide) hlocks hP hD hS rfl rfl dX5_classHas_356
    replace hu := hu.trans (if_neg c_19)
    by_cases c_23 : a0 = 112
    · replace hu := hu.trans (if_pos c_23)
      refine lv_tableIn (off := 248) (tgt := 271) hx hb dX5_classHas_23 (by rw [c_23]; decide) (by rw [c_23]; decide) (by rw [c_23]; decide) (by decide) ?_
      refine lv_iload_n hx hb dX5_classHas_271 rfl (lv_at hl 3 rfl) ?_
      refine lv_bipush (v := 33) hx hb dX5_classHas_272 (by decide) ?_
      refine lv_bipush (v := 126) hx hb dX5_classHas_274 (by decide) ?_
      obtain ⟨z_24, hz_24⟩ : ∃ z, z = f_X5_isBetween a1 33 126 := ⟨_, rfl⟩
      replace hu := hu.trans (kb_of hz_24)
      refine k_callS (As := [.int a1, .int 33, .int 126]) (rest := []) (wc := []) (wr := []) (w1 := []) (wn := []) ⟨hx, hb, hml, hown, hts⟩ (c_X5_isBetween l DD aC tt    a1 33 126  z_24 hz_24) (cwS 3 hts (gdS w_685 w_686 w_74 w_687) rfl rfl rfl (by decide +kernel) ⟨Nat.le_of_ble_eq_true rfl, Nat.le_of_ble_eq_true rfl⟩) hP hD hS hA hE [] [] [] rfl rfl rfl (by decide) (by decide) (by decide) (by decide) rfl hl.1 rfl (Nat.le_of_ble_eq_true rfl) dX5_classHas_276 (fun H locs hP hD hS => ?_)
      refine W.eq (g2 := F0 m 279 ls [.int z_24]) rfl ?_
      have h_25 := pf_X5_isBetween hz_24
      refine lv_if_eq (tgt := 300) hx hb dX5_classHas_279 (by decide) (fun c_26 => ?_) (fun c_26 => ?_)
      · replace hu := hu.trans (if_pos c_26)
        refine lv_iconst (v := 0) hx hb dX5_classHas_300 (by decide) ?_
        refine lv_istore_n (lv' := [(3, .int 0), (2, .int a0), (0, .int a0), (1, .int a1)]) hx hb dX5_classHas_301 rfl hl (by decide) rfl (fun ls hl => ?_)
        refine lv_goto (tgt := 337) hx hb dX5_classHas_302 (by decide) ?_
        refine lv_iload_n hx hb dX5_classHas_337 rfl (lv_at hl 0 rfl) ?_
        refine lv_iload_n hx hb dX5_classHas_338 rfl (lv_at hl 1 rfl) ?_
        refine lv_iload_n hx hb dX5_classHas_339 rfl (lv_at hl 2 rfl) ?_
        refine lv_icmp_ne (tgt := 347) hx hb dX5_classHas_340 (by decide) (fun h => absurd rfl h) (fun _ => ?_)
        refine lv_iconst (v := 1) hx hb dX5_classHas_343 (by decide) ?_
        refine lv_goto (tgt := 348) hx hb dX5_classHas_344 (by decide) ?_
        refine lv_icmp_ne (tgt := 355) hx hb dX5_classHas_348 (by decide) (fun _ => ?_) (fun h => absurd h (by decide))
        refine lv_iconst (v := 0) hx hb dX5_classHas_355 (by decide) ?_
        subst hu
        exact k_zret hx hb hr (by decide) hlocks hP hD hS rfl rfl dX5_classHas_356
      · replace hu := hu.trans (if_neg c_26)
        refine lv_iload_n hx hb dX5_classHas_282 rfl (lv_at hl 3 rfl) ?_
        obtain ⟨z_27, hz_27⟩ : ∃ z, z = f_X5_isLetter a1 := ⟨_, rfl⟩
        replace hu := hu.trans (kb_of hz_27)
        refine k_callS (As := [.int a1]) (rest := []) (wc := []) (wr := []) (w1 := []) (wn := []) ⟨hx, hb, hml, hown, hts⟩ (c_X5_isLetter l DD aC tt    a1  z_27 hz_27) (cwS 1 hts (gdS w_688 w_689 w_74 w_690) rfl rfl rfl (by decide +kernel) ⟨Nat.le_of_ble_eq_true rfl, Nat.le_of_ble_eq_true rfl⟩) hP hD hS hA hE [] [] [] rfl rfl rfl (by decide) (by decide) (by decide) (by decide) rfl hl.1 rfl (Nat.le_of_ble_eq_true rfl) dX5_classHas_283 (fun H locs hP hD hS => ?_)
        refine W.eq (g2 := F0 m 286 ls [.int z_27]) rfl ?_
        have h_28 := pf_X5_isLetter hz_27
        refine lv_if_ne (tgt := 300) hx hb dX5_classHas_286 (by decide) (fun c_29 => ?_) (fun c_29 => ?_)
        · replace hu := hu.trans (if_neg c_29)
          refine lv_iconst (v := 0) hx hb dX5_classHas_300 (by decide) ?_
          refine lv_istore_n (lv' := [(3, .int 0), (2, .int a0), (0, .int a0), (1, .int a1)]) hx hb dX5_classHas_301 rfl hl (by decide) rfl (fun ls hl => ?_)
          refine lv_goto (tgt := 337) hx hb dX5_classHas_302 (by decide) ?_
          refine lv_iload_n hx hb dX5_classHas_337 rfl (lv_at hl 0 rfl) ?_
          refine lv_iload_n hx hb dX5_classHas_338 rfl (lv_at hl 1 rfl) ?_
          refine lv_iload_n hx hb dX5_classHas_339 rfl (lv_at hl 2 rfl) ?_
          refine lv_icmp_ne (tgt := 347) hx hb dX5_classHas_340 (by decide) (fun h => absurd rfl h) (fun _ => ?_)
          refine lv_iconst (v := 1) hx hb dX5_classHas_343 (by decide) ?_
          refine lv_goto (tgt := 348) hx hb dX5_classHas_344 (by decide) ?_
          refine lv_icmp_ne (tgt := 355) hx hb dX5_classHas_348 (by decide) (fun _ => ?_) (fun h => absurd h (by decide))
          refine lv_iconst (v := 0) hx hb dX5_classHas_355 (by decide) ?_
          subst hu
          exact k_zret hx hb hr (by decide) hlocks hP hD hS rfl rfl dX5_classHas_356
        · replace hu := hu.trans (if_pos c_29)
          refine lv_iload_n hx hb dX5_classHas_289 rfl (lv_at hl 3 rfl) ?_
          obtain ⟨z_30, hz_30⟩ : ∃ z, z = f_X5_isDigit a1 := ⟨_, rfl⟩
          replace hu := hu.trans (kb_of hz_30)
          refine k_callS (As := [.int a1]) (rest := []) (wc := []) (wr := []) (w1 := []) (wn := []) ⟨hx, hb, hml, hown, hts⟩ (c_X5_isDigit l DD aC tt    a1  z_30 hz_30) (cwS 1 hts (gdS w_691 w_692 w_74 w_693) rfl rfl rfl (by decide +kernel) ⟨Nat.le_of_ble_eq_true rfl, Nat.le_of_ble_eq_true rfl⟩) hP hD hS hA hE [] [] [] rfl rfl rfl (by decide) (by decide) (by decide) (by decide) rfl hl.1 rfl (Nat.le_of_ble_eq_true rfl) dX5_classHas_290 (fun H locs hP hD hS => ?_)
          refine W.eq (g2 := F0 m 293 ls [.int z_30]) rfl ?_
          have h_31 := pf_X5_isDigit hz_30
          refine lv_if_ne (tgt := 300) hx hb dX5_classHas_293 (by decide) (fun c_32 => ?_) (fun c_32 => ?_)
          · replace hu := hu.trans (if_neg c_32)
            refine lv_iconst (v := 0) hx hb dX5_classHas_300 (by decide) ?_
            refine lv_istore_n (lv' := [(3, .int 0), (2, .int a0), (0, .int a0), (1, .int a1)]) hx hb dX5_classHas_301 rfl hl (by decide) rfl (fun ls hl => ?_)
            refine lv_goto (tgt := 337) hx hb dX5_classHas_302 (by decide) ?_
            refine lv_iload_n hx hb dX5_classHas_337 rfl (lv_at hl 0 rfl) ?_
            refine lv_iload_n hx hb dX5_classHas_338 rfl (lv_at hl 1 rfl) ?_
            refine lv_iload_n hx hb dX5_classHas_339 rfl (lv_at hl 2 rfl) ?_
            refine lv_icmp_ne (tgt := 347) hx hb dX5_classHas_340 (by decide) (fun h => absurd rfl h) (fun _ => ?_)
            refine lv_iconst (v := 1) hx hb dX5_classHas_343 (by decide) ?_
            refine lv_goto (tgt := 348) hx hb dX5_classHas_344 (by decide) ?_
            refine lv_icmp_ne (tgt := 355) hx hb dX5_classHas_348 (by decide) (fun _ => ?_) (fun h => absurd h (by decide))
            refine lv_iconst (v := 0) hx hb dX5_classHas_355 (by decide) ?_
            subst hu
            exact k_zret hx hb hr (by decide) hlocks hP hD hS rfl rfl dX5_classHas_356
          · replace hu := hu.trans (if_pos c_32)
            refine lv_iconst (v := 1) hx hb dX5_classHas_296 (by decide) ?_
            refine lv_goto (tgt := 301) hx hb dX5_classHas_297 (by decide) ?_
            refine lv_istore_n (lv' := [(3, .int 1), (2, .int a0), (0, .int a0), (1, .int a1)]) hx hb dX5_classHas_301 rfl hl (by decide) rfl (fun ls hl => ?_)
            refine lv_goto (tgt := 337) hx hb dX5_classHas_302 (by decide) ?_
            refine lv_iload_n hx hb dX5_classHas_337 rfl (lv_at hl 0 rfl) ?_
            refine lv_iload_n hx hb dX5_classHas_338 rfl (lv_at hl 1 rfl) ?_
            refine lv_iload_n hx hb dX5_classHas_339 rfl (lv_at hl 2 rfl) ?_
            refine lv_icmp_ne (tgt := 347) hx hb dX5_classHas_340 (by decide) (fun h => absurd rfl h) (fun _ => ?_)
            refine lv_iconst (v := 1) hx hb dX5_classHas_343 (by decide) ?_
            refine lv_goto (tgt := 348) hx hb dX5_classHas_344 (by decide) ?_
            refine lv_icmp_ne (tgt := 355) hx hb dX5_classHas_348 (by decide) (fun h => absurd (by decide) h) (fun _ => ?_)
            refine lv_iconst (v := 1) hx hb dX5_classHas_351 (by decide) ?_
            refine lv_goto (tgt := 356) hx hb dX5_classHas_352 (by decide) ?_
            subst hu
            exact k_zret hx hb hr (by decide) hlocks hP hD hS rfl rfl dX5_classHas_356
    replace hu := hu.trans (if_neg c_23)
    by_cases c_33 : a0 = 115
    · replace hu := hu.trans (if_pos c_33)
      refine lv_tableIn (off := 172) (tgt := 195) hx hb dX5_classHas_23 (by rw [c_33]; decide) (by rw [c_33]; decide) (by rw [c_33]; decide) (by decide) ?_
      refine lv_iload_n hx hb dX5_classHas_195 rfl (lv_at hl 3 rfl) ?_
      refine lv_bipush (v := 32) hx hb dX5_classHas_196 (by decide) ?_
      refine lv_icmp_eq (tgt := 212) hx hb dX5_classHas_198 (by decide) (fun c_34 => ?_) (fun c_34 => ?_)
      · replace hu := hu.trans (if_pos c_34)
        refine lv_iconst (v := 1) hx hb dX5_classHas_212 (by decide) ?_
        refine lv_goto (tgt := 217) hx hb dX5_classHas_213 (by decide) ?_
        refine lv_istore_n (lv' := [(3, .int 1), (2, .int a0), (0, .int a0), (1, .int a1)]) hx hb dX5_classHas_217 rfl hl (by decide) rfl (fun ls hl => ?_)
        refine lv_goto (tgt := 337) hx hb dX5_classHas_218 (by decide) ?_
        refine lv_iload_n hx hb dX5_classHas_337 rfl (lv_at hl 0 rfl) ?_
        refine lv_iload_n hx hb dX5_classHas_338 rfl (lv_at hl 1 rfl) ?_
        refine lv_iload_n hx hb dX5_classHas_339 rfl (lv_at hl 2 rfl) ?_
        refine lv_icmp_ne (tgt := 347) hx hb dX5_classHas_340 (by decide) (fun h => absurd rfl h) (fun _ => ?_)
        refine lv_iconst (v := 1) hx hb dX5_classHas_343 (by decide) ?_
        refine lv_goto (tgt := 348) hx hb dX5_classHas_344 (by decide) ?_
        refine lv_icmp_ne (tgt := 355) hx hb dX5_classHas_348 (by decide) (fun h => absurd (by decide) h) (fun _ => ?_)
        refine lv_iconst (v := 1) hx hb dX5_classHas_351 (by decide) ?_
        refine lv_goto (tgt := 356) hx hb dX5_classHas_352 (by decide) ?_
        subst hu
        exact k_zret hx hb hr (by decide) hlocks hP hD hS rfl rfl dX5_classHas_356
      · replace hu := hu.trans (if_neg c_34)
        refine lv_iload_n hx hb dX5_classHas_201 rfl (lv_at hl 3 rfl) ?_
        refine lv_bipush (v := 9) hx hb dX5_classHas_202 (by decide) ?_
        refine lv_bipush (v := 13) hx hb dX5_classHas_204 (by decide) ?_
        obtain ⟨z_35, hz_35⟩ : ∃ z, z = f_X5_isBetween a1 9 13 := ⟨_, rfl⟩
        replace hu := hu.trans (kb_of hz_35)
        refine k_callS (As := [.int a1, .int 9, .int 13]) (rest := []) (wc := []) (wr := []) (w1 := []) (wn := []) ⟨hx, hb, hml, hown, hts⟩ (c_X5_isBetween l DD aC tt    a1 9 13  z_35 hz_35) (cwS 3 hts (gdS w_685 w_686 w_74 w_687) rfl rfl rfl (by decide +kernel) ⟨Nat.le_of_ble_eq_true rfl, Nat.le_of_ble_eq_true rfl⟩) hP hD hS hA hE [] [] [] rfl rfl rfl (by decide) (by decide) (by decide) (by decide) rfl hl.1 rfl (Nat.le_of_ble_eq_true rfl) dX5_classHas_206 (fun H locs hP hD hS => ?_)
        refine W.eq (g2 := F0 m 209 ls [.int z_35]) rfl ?_
        have h_36 := pf_X5_isBetween hz_35
        refine lv_if_eq (tgt := 216) hx hb dX5_classHas_209 (by decide) (fun c_37 => ?_) (fun c_37 => ?_)
        · replace hu := hu.trans (if_pos c_37)
          refine lv_iconst (v := 0) hx hb dX5_classHas_216 (by decide) ?_
          refine lv_istore_n (lv' := [(3, .int 0), (2, .int a0), (0, .int a0), (1, .int a1)]) hx hb dX5_classHas_217 rfl hl (by decide) rfl (fun ls hl => ?_)
          refine lv_goto (tgt := 337) hx hb dX5_classHas_218 (by decide) ?_
          refine lv_iload_n hx hb dX5_classHas_337 rfl (lv_at hl 0 rfl) ?_
          refine lv_iload_n hx hb dX5_classHas_338 rfl (lv_at hl 1 rfl) ?_
          refine lv_iload_n hx hb dX5_classHas_339 rfl (lv_at hl 2 rfl) ?_
          refine lv_icmp_ne (tgt := 347) hx hb dX5_classHas_340 (by decide) (fun h => absurd rfl h) (fun _ => ?_)
          refine lv_iconst (v := 1) hx hb dX5_classHas_343 (by decide) ?_
          refine lv_goto (tgt := 348) hx hb dX5_classHas_344 (by decide) ?_
          refine lv_icmp_ne (tgt := 355) hx hb dX5_classHas_348 (by decide) (fun _ => ?_) (fun h => absurd h (by decide))
          refine lv_iconst (v := 0) hx hb dX5_classHas_355 (by decide) ?_
          subst hu
          exact k_zret hx hb hr (by decide) hlocks hP hD hS rfl rfl dX5_classHas_356
        · replace hu := hu.trans (if_neg c_37)
          refine lv_iconst (v := 1) hx hb dX5_classHas_212 (by decide) ?_
          refine lv_goto (tgt := 217) hx hb dX5_classHas_213 (by decide) ?_
          refine lv_istore_n (lv' := [(3, .int 1), (2, .int a0), (0, .int a0), (1, .int a1)]) hx hb dX5_classHas_217 rfl hl (by decide) rfl (fun ls hl => ?_)
          refine lv_goto (tgt := 337) hx hb dX5_classHas_218 (by decide) ?_
          refine lv_iload_n hx hb dX5_classHas_337 rfl (lv_at hl 0 rfl) ?_
          refine lv_iload_n hx hb dX5_classHas_338 rfl (lv_at hl 1 rfl) ?_
          refine lv_iload_n hx hb dX5_classHas_339 rfl (lv_at hl 2 rfl) ?_
          refine lv_icmp_ne (tgt := 347) hx hb dX5_classHas_340 (by decide) (fun h => absurd rfl h) (fun _ => ?_)
          refine lv_iconst (v := 1) hx hb dX5_classHas_343 (by decide) ?_
          refine lv_goto (tgt := 348) hx hb dX5_classHas_344 (by decide) ?_
          refine lv_icmp_ne (tgt := 355) hx hb dX5_classHas_348 (by decide) (fun h => absurd (by decide) h) (fun _ => ?_)
          refine lv_iconst (v := 1) hx hb dX5_classHas_351 (by decide) ?_
          refine lv_goto (tgt := 356) hx hb dX5_classHas_352 (by decide) ?_
          subst hu
          exact k_zret hx hb hr (by decide) hlocks hP hD hS rfl rfl dX5_classHas_356
    replace hu := hu.trans (if_neg c_33)
    by_cases c_38 : a0 = 117
    · replace hu := hu.trans (if_pos c_38)
      refine lv_tableIn (off := 137) (tgt := 160) hx hb dX5_classHas_23 (by rw [c_38]; decide) (by rw [c_38]; decide) (by rw [c_38]; decide) (by decide) ?_
      refine lv_iload_n hx hb dX5_classHas_160 rfl (lv_at hl 3 rfl) ?_
      refine lv_bipush (v := 65) hx hb dX5_classHas_161 (by decide) ?_
      refine lv_bipush (v := 90) hx hb dX5_classHas_163 (by decide) ?_
      obtain ⟨z_39, hz_39⟩ : ∃ z, z = f_X5_isBetween a1 65 90 := ⟨_, rfl⟩
      replace hu := hu.trans (kb_of hz_39)
      refine k_callS (As := [.int a1, .int 65, .int 90]) (rest := []) (wc := []) (wr := []) (w1 := []) (wn := []) ⟨hx, hb, hml, hown, hts⟩ (c_X5_isBetween l DD aC tt    a1 65 90  z_39 hz_39) (cwS 3 hts (gdS w_685 w_686 w_74 w_687) rfl rfl rfl (by decide +kernel) ⟨Nat.le_of_ble_eq_true rfl, Nat.le_of_ble_eq_true rfl⟩) hP hD hS hA hE [] [] [] rfl rfl rfl (by decide) (by decide) (by decide) (by decide) rfl hl.1 rfl (Nat.le_of_ble_eq_true rfl) dX5_classHas_165 (fun H locs hP hD hS => ?_)
      refine W.eq (g2 := F0 m 168 ls [.int z_39]) rfl ?_
      have h_40 := pf_X5_isBetween hz_39
      refine lv_istore_n (lv' := [(3, .int z_39), (2, .int a0), (0, .int a0), (1, .int a1)]) hx hb dX5_classHas_168 rfl hl (by decide) rfl (fun ls hl => ?_)
      refine lv_goto (tgt := 337) hx hb dX5_classHas_169 (by decide) ?_
      refine lv_iload_n hx hb dX5_classHas_337 rfl (lv_at hl 0 rfl) ?_
      refine lv_iload_n hx hb dX5_classHas_338 rfl (lv_at hl 1 rfl) ?_
      refine lv_iload_n hx hb dX5_classHas_339 rfl (lv_at hl 2 rfl) ?_
      refine lv_icmp_ne (tgt := 347) hx hb dX5_classHas_340 (by decide) (fun h => absurd rfl h) (fun _ => ?_)
      refine lv_iconst (v := 1) hx hb dX5_classHas_343 (by decide) ?_
      refine lv_goto (tgt := 348) hx hb dX5_classHas_344 (by decide) ?_
      refine lv_icmp_ne (tgt := 355) hx hb dX5_classHas_348 (by decide) (fun c_41 => ?_) (fun c_41 => ?_)
      · replace hu := hu.trans (if_neg c_41)
        refine lv_iconst (v := 0) hx hb dX5_classHas_355 (by decide) ?_
        subst hu
        exact k_zret hx hb hr (by decide) hlocks hP hD hS rfl rfl dX5_classHas_356
      · replace hu := hu.trans (if_pos c_41)
        refine lv_iconst (v := 1) hx hb dX5_classHas_351 (by decide) ?_
        refine lv_goto (tgt := 356) hx hb dX5_classHas_352 (by decide) ?_
        subst hu
        exact k_zret hx hb hr (by decide) hlocks hP hD hS rfl rfl dX5_classHas_356
    replace hu := hu.trans (if_neg c_38)
    by_cases c_42 : a0 = 119
    · replace hu := hu.trans (if_pos c_42)
      refine lv_tableIn (off := 149) (tgt := 172) hx hb dX5_classHas_23 (by rw [c_42]; decide) (by rw [c_42]; decide) (by rw [c_42]; decide) (by decide) ?_
      refine lv_iload_n hx hb dX5_classHas_172 rfl (lv_at hl 3 rfl) ?_
      obtain ⟨z_43, hz_43⟩ : ∃ z, z = f_X5_isLetter a1 := ⟨_, rfl⟩
      replace hu := hu.trans (kb_of hz_43)
      refine k_callS (As := [.int a1]) (rest := []) (wc := []) (wr := []) (w1 := []) (wn := []) ⟨hx, hb, hml, hown, hts⟩ (c_X5_isLetter l DD aC tt    a1  z_43 hz_43) (cwS 1 hts (gdS w_688 w_689 w_74 w_690) rfl rfl rfl (by decide +kernel) ⟨Nat.le_of_ble_eq_true rfl, Nat.le_of_ble_eq_true rfl⟩) hP hD hS hA hE [] [] [] rfl rfl rfl (by decide) (by decide) (by decide) (by decide) rfl hl.1 rfl (Nat.le_of_ble_eq_true rfl) dX5_classHas_173 (fun H locs hP hD hS => ?_)
      refine W.eq (g2 := F0 m 176 ls [.int z_43]) rfl ?_
      have h_44 := pf_X5_isLetter hz_43
      refine lv_if_ne (tgt := 186) hx hb dX5_classHas_176 (by decide) (fun c_45 => ?_) (fun c_45 => ?_)
      · replace hu := hu.trans (if_neg c_45)
        refine lv_iconst (v := 1) hx hb dX5_classHas_186 (by decide) ?_
        refine lv_goto (tgt := 191) hx hb dX5_classHas_187 (by decide) ?_
        refine lv_istore_n (lv' := [(3, .int 1), (2, .int a0), (0, .int a0), (1, .int a1)]) hx hb dX5_classHas_191 rfl hl (by decide) rfl (fun ls hl => ?_)
        refine lv_goto (tgt := 337) hx hb dX5_classHas_192 (by decide) ?_
        refine lv_iload_n hx hb dX5_classHas_337 rfl (lv_at hl 0 rfl) ?_
        refine lv_iload_n hx hb dX5_classHas_338 rfl (lv_at hl 1 rfl) ?_
        refine lv_iload_n hx hb dX5_classHas_339 rfl (lv_at hl 2 rfl) ?_
        refine lv_icmp_ne (tgt := 347) hx hb dX5_classHas_340 (by decide) (fun h => absurd rfl h) (fun _ => ?_)
        refine lv_iconst (v := 1) hx hb dX5_classHas_343 (by decide) ?_
        refine lv_goto (tgt := 348) hx hb dX5_classHas_344 (by decide) ?_
        refine lv_icmp_ne (tgt := 355) hx hb dX5_classHas_348 (by decide) (fun h => absurd (by decide) h) (fun _ => ?_)
        refine lv_iconst (v := 1) hx hb dX5_classHas_351 (by decide) ?_
        refine lv_goto (tgt := 356) hx hb dX5_classHas_352 (by decide) ?_
        subst hu
        exact k_zret hx hb hr (by decide) hlocks hP hD hS rfl rfl dX5_classHas_356
      · replace hu := hu.trans (if_pos c_45)
        refine lv_iload_n hx hb dX5_classHas_179 rfl (lv_at hl 3 rfl) ?_
        obtain ⟨z_46, hz_46⟩ : ∃ z, z = f_X5_isDigit a1 := ⟨_, rfl⟩
        replace hu := hu.trans (kb_of hz_46)
        refine k_callS (As := [.int a1]) (rest := []) (wc := []) (wr := []) (w1 := []) (wn := []) ⟨hx, hb, hml, hown, hts⟩ (c_X5_isDigit l DD aC tt    a1  z_46 hz_46) (cwS 1 hts (gdS w_691 w_692 w_74 w_693) rfl rfl rfl (by decide +kernel) ⟨Nat.le_of_ble_eq_true rfl, Nat.le_of_ble_eq_true rfl⟩) hP hD hS hA hE [] [] [] rfl rfl rfl (by decide) (by decide) (by decide) (by decide) rfl hl.1 rfl (Nat.le_of_ble_eq_true rfl) dX5_classHas_180 (fun H locs hP hD hS => ?_)
        refine W.eq (g2 := F0 m 183 ls [.int z_46]) rfl ?_
        have h_47 := pf_X5_isDigit hz_46
        refine lv_if_eq (tgt := 190) hx hb dX5_classHas_183 (by decide) (fun c_48 => ?_) (fun c_48 => ?_)
        · replace hu := hu.trans (if_pos c_48)
          refine lv_iconst (v := 0) hx hb dX5_classHas_190 (by decide) ?_
          refine lv_istore_n (lv' := [(3, .int 0), (2, .int a0), (0, .int a0), (1, .int a1)]) hx hb dX5_classHas_191 rfl hl (by decide) rfl (fun ls hl => ?_)
          refine lv_goto (tgt := 337) hx hb dX5_classHas_192 (by decide) ?_
          refine lv_iload_n hx hb dX5_classHas_337 rfl (lv_at hl 0 rfl) ?_
          refine lv_iload_n hx hb dX5_classHas_338 rfl (lv_at hl 1 rfl) ?_
          refine lv_iload_n hx hb dX5_classHas_339 rfl (lv_at hl 2 rfl) ?_
          refine lv_icmp_ne (tgt := 347) hx hb dX5_classHas_340 (by decide) (fun h => absurd rfl h) (fun _ => ?_)
          refine lv_iconst (v := 1) hx hb dX5_classHas_343 (by decide) ?_
          refine lv_goto (tgt := 348) hx hb dX5_classHas_344 (by decide) ?_
          refine lv_icmp_ne (tgt := 355) hx hb dX5_classHas_348 (by decide) (fun _ => ?_) (fun h => absurd h (by decide))
          refine lv_iconst (v := 0) hx hb dX5_classHas_355 (by decide) ?_
          subst hu
          exact k_zret hx hb hr (by decide) hlocks hP hD hS rfl rfl dX5_classHas_356
        · replace hu := hu.trans (if_neg c_48)
          refine lv_iconst (v := 1) hx hb dX5_classHas_186 (by decide) ?_
          refine lv_goto (tgt := 191) hx hb dX5_classHas_187 (by decide) ?_
          refine lv_istore_n (lv' := [(3, .int 1), (2, .int a0), (0, .int a0), (1, .int a1)]) hx hb dX5_classHas_191 rfl hl (by decide) rfl (fun ls hl => ?_)
          refine lv_goto (tgt := 337) hx hb dX5_classHas_192 (by decide) ?_
          refine lv_iload_n hx hb dX5_classHas_337 rfl (lv_at hl 0 rfl) ?_
          refine lv_iload_n hx hb dX5_classHas_338 rfl (lv_at hl 1 rfl) ?_
          refine lv_iload_n hx hb dX5_classHas_339 rfl (lv_at hl 2 rfl) ?_
          refine lv_icmp_ne (tgt := 347) hx hb dX5_classHas_340 (by decide) (fun h => absurd rfl h) (fun _ => ?_)
          refine lv_iconst (v := 1) hx hb dX5_classHas_343 (by decide) ?_
          refine lv_goto (tgt := 348) hx hb dX5_classHas_344 (by decide) ?_
          refine lv_icmp_ne (tgt := 355) hx hb dX5_classHas_348 (by decide) (fun h => absurd (by decide) h) (fun _ => ?_)
          refine lv_iconst (v := 1) hx hb dX5_classHas_351 (by decide) ?_
          refine lv_goto (tgt := 356) hx hb dX5_classHas_352 (by decide) ?_
          subst hu
          exact k_zret hx hb hr (by decide) hlocks hP hD hS rfl rfl dX5_classHas_356
    replace hu := hu.trans (if_neg c_42)
    by_cases c_49 : a0 = 120
    · replace hu := hu.trans (if_pos c_49)
      refine lv_tableIn (off := 198) (tgt := 221) hx hb dX5_classHas_23 (by rw [c_49]; decide) (by rw [c_49]; decide) (by rw [c_49]; decide) (by decide) ?_
      refine lv_iload_n hx hb dX5_classHas_221 rfl (lv_at hl 3 rfl) ?_
      obtain ⟨z_50, hz_50⟩ : ∃ z, z = f_X5_isDigit a1 := ⟨_, rfl⟩
      replace hu := hu.trans (kb_of hz_50)
      refine k_callS (As := [.int a1]) (rest := []) (wc := []) (wr := []) (w1 := []) (wn := []) ⟨hx, hb, hml, hown, hts⟩ (c_X5_isDigit l DD aC tt    a1  z_50 hz_50) (cwS 1 hts (gdS w_691 w_692 w_74 w_693) rfl rfl rfl (by decide +kernel) ⟨Nat.le_of_ble_eq_true rfl, Nat.le_of_ble_eq_true rfl⟩) hP hD hS hA hE [] [] [] rfl rfl rfl (by decide) (by decide) (by decide) (by decide) rfl hl.1 rfl (Nat.le_of_ble_eq_true rfl) dX5_classHas_222 (fun H locs hP hD hS => ?_)
      refine W.eq (g2 := F0 m 225 ls [.int z_50]) rfl ?_
      have h_51 := pf_X5_isDigit hz_50
      refine lv_if_ne (tgt := 250) hx hb dX5_classHas_225 (by decide) (fun c_52 => ?_) (fun c_52 => ?_)
      · replace hu := hu.trans (if_neg c_52)
        refine lv_iconst (v := 1) hx hb dX5_classHas_250 (by decide) ?_
        refine lv_goto (tgt := 255) hx hb dX5_classHas_251 (by decide) ?_
        refine lv_istore_n (lv' := [(3, .int 1), (2, .int a0), (0, .int a0), (1, .int a1)]) hx hb dX5_classHas_255 rfl hl (by decide) rfl (fun ls hl => ?_)
        refine lv_goto (tgt := 337) hx hb dX5_classHas_256 (by decide) ?_
        refine lv_iload_n hx hb dX5_classHas_337 rfl (lv_at hl 0 rfl) ?_
        refine lv_iload_n hx hb dX5_classHas_338 rfl (lv_at hl 1 rfl) ?_
        refine lv_iload_n hx hb dX5_classHas_339 rfl (lv_at hl 2 rfl) ?_
        refine lv_icmp_ne (tgt := 347) hx hb dX5_classHas_340 (by decide) (fun h => absurd rfl h) (fun _ => ?_)
        refine lv_iconst (v := 1) hx hb dX5_classHas_343 (by decide) ?_
        refine lv_goto (tgt := 348) hx hb dX5_classHas_344 (by decide) ?_
        refine lv_icmp_ne (tgt := 355) hx hb dX5_classHas_348 (by decide) (fun h => absurd (by decide) h) (fun _ => ?_)
        refine lv_iconst (v := 1) hx hb dX5_classHas_351 (by decide) ?_
        refine lv_goto (tgt := 356) hx hb dX5_classHas_352 (by decide) ?_
        subst hu
        exact k_zret hx hb hr (by decide) hlocks hP hD hS rfl rfl dX5_classHas_356
      · replace hu := hu.trans (if_pos c_52)
        refine lv_iload_n hx hb dX5_classHas_228 rfl (lv_at hl 3 rfl) ?_
        refine lv_bipush (v := 97) hx hb dX5_classHas_229 (by decide) ?_
        refine lv_bipush (v := 102) hx hb dX5_classHas_231 (by decide) ?_
        obtain ⟨z_53, hz_53⟩ : ∃ z, z = f_X5_isBetween a1 97 102 := ⟨_, rfl⟩
        replace hu := hu.trans (kb_of hz_53)
        refine k_callS (As := [.int a1, .int 97, .int 102]) (rest := []) (wc := []) (wr := []) (w1 := []) (wn := []) ⟨hx, hb, hml, hown, hts⟩ (c_X5_isBetween l DD aC tt    a1 97 102  z_53 hz_53) (cwS 3 hts (gdS w_685 w_686 w_74 w_687) rfl rfl rfl (by decide +kernel) ⟨Nat.le_of_ble_eq_true rfl, Nat.le_of_ble_eq_true rfl⟩) hP hD hS hA hE [] [] [] rfl rfl rfl (by decide) (by decide) (by decide) (by decide) rfl hl.1 rfl (Nat.le_of_ble_eq_true rfl) dX5_classHas_233 (fun H locs hP hD hS => ?_)
        refine W.eq (g2 := F0 m 236 ls [.int z_53]) rfl ?_
        have h_54 := pf_X5_isBetween hz_53
        refine lv_if_ne (tgt := 250) hx hb dX5_classHas_236 (by decide) (fun c_55 => ?_) (fun c_55 => ?_)
        · replace hu := hu.trans (if_neg c_55)
          refine lv_iconst (v := 1) hx hb dX5_classHas_250 (by decide) ?_
          refine lv_goto (tgt := 255) hx hb dX5_classHas_251 (by decide) ?_
          refine lv_istore_n (lv' := [(3, .int 1), (2, .int a0), (0, .int a0), (1, .int a1)]) hx hb dX5_classHas_255 rfl hl (by decide) rfl (fun ls hl => ?_)
          refine lv_goto (tgt := 337) hx hb dX5_classHas_256 (by decide) ?_
          refine lv_iload_n hx hb dX5_classHas_337 rfl (lv_at hl 0 rfl) ?_
          refine lv_iload_n hx hb dX5_classHas_338 rfl (lv_at hl 1 rfl) ?_
          refine lv_iload_n hx hb dX5_classHas_339 rfl (lv_at hl 2 rfl) ?_
          refine lv_icmp_ne (tgt := 347) hx hb dX5_classHas_340 (by decide) (fun h => absurd rfl h) (fun _ => ?_)
          refine lv_iconst (v := 1) hx hb dX5_classHas_343 (by decide) ?_
          refine lv_goto (tgt := 348) hx hb dX5_classHas_344 (by decide) ?_
          refine lv_icmp_ne (tgt := 355) hx hb dX5_classHas_348 (by decide) (fun h => absurd (by decide) h) (fun _ => ?_)
          refine lv_iconst (v := 1) hx hb dX5_classHas_351 (by decide) ?_
          refine lv_goto (tgt := 356) hx hb dX5_classHas_352 (by decide) ?_
          subst hu
          exact k_zret hx hb hr (by decide) hlocks hP hD hS rfl rfl dX5_classHas_356
        · replace hu := hu.trans (if_pos c_55)
          refine lv_iload_n hx hb dX5_classHas_239 rfl (lv_at hl 3 rfl) ?_
          refine lv_bipush (v := 65) hx hb dX5_classHas_240 (by decide) ?_
          refine lv_bipush (v := 70) hx hb dX5_classHas_242 (by decide) ?_
          obtain ⟨z_56, hz_56⟩ : ∃ z, z = f_X5_isBetween a1 65 70 := ⟨_, rfl⟩
          replace hu := hu.trans (kb_of hz_56)
          refine k_callS (As := [.int a1, .int 65, .int 70]) (rest := []) (wc := []) (wr := []) (w1 := []) (wn := []) ⟨hx, hb, hml, hown, hts⟩ (c_X5_isBetween l DD aC tt    a1 65 70  z_56 hz_56) (cwS 3 hts (gdS w_685 w_686 w_74 w_687) rfl rfl rfl (by decide +kernel) ⟨Nat.le_of_ble_eq_true rfl, Nat.le_of_ble_eq_true rfl⟩) hP hD hS hA hE [] [] [] rfl rfl rfl (by decide) (by decide) (by decide) (by decide) rfl hl.1 rfl (Nat.le_of_ble_eq_true rfl) dX5_classHas_244 (fun H locs hP hD hS => ?_)
          refine W.eq (g2 := F0 m 247 ls [.int z_56]) rfl ?_
          have h_57 := pf_X5_isBetween hz_56
          refine lv_if_eq (tgt := 254) hx hb dX5_classHas_247 (by decide) (fun c_58 => ?_) (fun c_58 => ?_)
          · replace hu := hu.trans (if_pos c_58)
            refine lv_iconst (v := 0) hx hb dX5_classHas_254 (by decide) ?_
            refine lv_istore_n (lv' := [(3, .int 0), (2, .int a0), (0, .int a0), (1, .int a1)]) hx hb dX5_classHas_255 rfl hl (by decide) rfl (fun ls hl => ?_)
            refine lv_goto (tgt := 337) hx hb dX5_classHas_256 (by decide) ?_
            refine lv_iload_n hx hb dX5_classHas_337 rfl (lv_at hl 0 rfl) ?_
            refine lv_iload_n hx hb dX5_classHas_338 rfl (lv_at hl 1 rfl) ?_
            refine lv_iload_n hx hb dX5_classHas_339 rfl (lv_at hl 2 rfl) ?_
            refine lv_icmp_ne (tgt := 347) hx hb dX5_classHas_340 (by decide) (fun h => absurd rfl h) (fun _ => ?_)
            refine lv_iconst (v := 1) hx hb dX5_classHas_343 (by decide) ?_
            refine lv_goto (tgt := 348) hx hb dX5_classHas_344 (by decide) ?_
            refine lv_icmp_ne (tgt := 355) hx hb dX5_classHas_348 (by decide) (fun _ => ?_) (fun h => absurd h (by decide))
            refine lv_iconst (v := 0) hx hb dX5_classHas_355 (by decide) ?_
            subst hu
            exact k_zret hx hb hr (by decide) hlocks hP hD hS rfl rfl dX5_classHas_356
          · replace hu := hu.trans (if_neg c_58)
            refine lv_iconst (v := 1) hx hb dX5_classHas_250 (by decide) ?_
            refine lv_goto (tgt := 255) hx hb dX5_classHas_251 (by decide) ?_
            refine lv_istore_n (lv' := [(3, .int 1), (2, .int a0), (0, .int a0), (1, .int a1)]) hx hb dX5_classHas_255 rfl hl (by decide) rfl (fun ls hl => ?_)
            refine lv_goto (tgt := 337) hx hb dX5_classHas_256 (by decide) ?_
            refine lv_iload_n hx hb dX5_classHas_337 rfl (lv_at hl 0 rfl) ?_
            refine lv_iload_n hx hb dX5_classHas_338 rfl (lv_at hl 1 rfl) ?_
            refine lv_iload_n hx hb dX5_classHas_339 rfl (lv_at hl 2 rfl) ?_
            refine lv_icmp_ne (tgt := 347) hx hb dX5_classHas_340 (by decide) (fun h => absurd rfl h) (fun _ => ?_)
            refine lv_iconst (v := 1) hx hb dX5_classHas_343 (by decide) ?_
            refine lv_goto (tgt := 348) hx hb dX5_classHas_344 (by decide) ?_
            refine lv_icmp_ne (tgt := 355) hx hb dX5_classHas_348 (by decide) (fun h => absurd (by decide) h) (fun _ => ?_)
            refine lv_iconst (v := 1) hx hb dX5_classHas_351 (by decide) ?_
            refine lv_goto (tgt := 356) hx hb dX5_classHas_352 (by decide) ?_
            subst hu
            exact k_zret hx hb hr (by decide) hlocks hP hD hS rfl rfl dX5_classHas_356
    replace hu := hu.trans (if_neg c_49)
    refine kx_tab (off := 303) (tgt := 326) hx hb dX5_classHas_23 (fun _ => rfl) (fun h1 h2 => by have e_c_4 := lv_neT c_4 (show (97 : Int32).toInt = 97 by decide); have e_c_8 := lv_neT c_8 (show (99 : Int32).toInt = 99 by decide); have e_c_11 := lv_neT c_11 (show (100 : Int32).toInt = 100 by decide); have e_c_15 := lv_neT c_15 (show (103 : Int32).toInt = 103 by decide); have e_c_19 := lv_neT c_19 (show (108 : Int32).toInt = 108 by decide); have e_c_23 := lv_neT c_23 (show (112 : Int32).toInt = 112 by decide); have e_c_33 := lv_neT c_33 (show (115 : Int32).toInt = 115 by decide); have e_c_38 := lv_neT c_38 (show (117 : Int32).toInt = 117 by decide); have e_c_42 := lv_neT c_42 (show (119 : Int32).toInt = 119 by decide); have e_c_49 := lv_neT c_49 (show (120 : Int32).toInt = 120 by decide); rcases (show a0.toInt = 98 ∨ a0.toInt = 101 ∨ a0.toInt = 102 ∨ a0.toInt = 104 ∨ a0.toInt = 105 ∨ a0.toInt = 106 ∨ a0.toInt = 107 ∨ a0.toInt = 109 ∨ a0.toInt = 110 ∨ a0.toInt = 111 ∨ a0.toInt = 113 ∨ a0.toInt = 114 ∨ a0.toInt = 116 ∨ a0.toInt = 118 by omega) with h3 | h3 | h3 | h3 | h3 | h3 | h3 | h3 | h3 | h3 | h3 | h3 | h3 | h3 <;> rw [h3] <;> decide) (by decide) ?_
    refine lv_iload_n hx hb dX5_classHas_326 rfl (lv_at hl 2 rfl) ?_
    refine lv_iload_n hx hb dX5_classHas_327 rfl (lv_at hl 3 rfl) ?_
    refine lv_icmp_ne (tgt := 335) hx hb dX5_classHas_328 (by decide) (fun c_59 => ?_) (fun c_59 => ?_)
    · replace hu := hu.trans (if_neg c_59)
      refine lv_iconst (v := 0) hx hb dX5_classHas_335 (by decide) ?_
      subst hu
      exact k_zret hx hb hr (by decide) hlocks hP hD hS rfl rfl dX5_classHas_336
    · replace hu := hu.trans (if_pos c_59)
      refine lv_iconst (v := 1) hx hb dX5_classHas_331 (by decide) ?_
      refine lv_goto (tgt := 336) hx hb dX5_classHas_332 (by decide) ?_
      subst hu
      exact k_zret hx hb hr (by decide) hlocks hP hD hS rfl rfl dX5_classHas_336
  · replace hu := hu.trans (if_neg c_3)
    refine lv_iload_n hx hb dX5_classHas_11 rfl (lv_at hl 0 rfl) ?_
    refine lv_bipush (v := 32) hx hb dX5_classHas_12 (by decide) ?_
    refine lv_iadd hx hb dX5_classHas_14 ?_
    refine lv_goto (tgt := 19) hx hb dX5_classHas_15 (by decide) ?_
    refine lv_istore_n (lv' := [(2, .int (a0 + 32)), (0, .int a0), (1, .int a1)]) hx hb dX5_classHas_19 rfl hl (by decide) rfl (fun ls hl => ?_)
    refine lv_iconst (v := 0) hx hb dX5_classHas_20 (by decide) ?_
    refine lv_istore_n (lv' := [(3, .int 0), (2, .int (a0 + 32)), (0, .int a0), (1, .int a1)]) hx hb dX5_classHas_21 rfl hl (by decide) rfl (fun ls hl => ?_)
    refine lv_iload_n hx hb dX5_classHas_22 rfl (lv_at hl 1 rfl) ?_
    by_cases c_60 : (a0 + 32) = 97
    · replace hu := hu.trans (if_pos c_60)
      refine lv_tableIn (off := 109) (tgt := 132) hx hb dX5_classHas_23 (by rw [c_60]; decide) (by rw [c_60]; decide) (by rw [c_60]; decide) (by decide) ?_
      refine lv_iload_n hx hb dX5_classHas_132 rfl (lv_at hl 3 rfl) ?_
      obtain ⟨z_61, hz_61⟩ : ∃ z, z = f_X5_isLetter a1 := ⟨_, rfl⟩
      replace hu := hu.trans (kb_of hz_61)
      refine k_callS (As := [.int a1]) (rest := []) (wc := []) (wr := []) (w1 := []) (wn := []) ⟨hx, hb, hml, hown, hts⟩ (c_X5_isLetter l DD aC tt    a1  z_61 hz_61) (cwS 1 hts (gdS w_688 w_689 w_74 w_690) rfl rfl rfl (by decide +kernel) ⟨Nat.le_of_ble_eq_true rfl, Nat.le_of_ble_eq_true rfl⟩) hP hD hS hA hE [] [] [] rfl rfl rfl (by decide) (by decide) (by decide) (by decide) rfl hl.1 rfl (Nat.le_of_ble_eq_true rfl) dX5_classHas_133 (fun H locs hP hD hS => ?_)
      refine W.eq (g2 := F0 m 136 ls [.int z_61]) rfl ?_
      have h_62 := pf_X5_isLetter hz_61
      refine lv_istore_n (lv' := [(3, .int z_61), (2, .int (a0 + 32)), (0, .int a0), (1, .int a1)]) hx hb dX5_classHas_136 rfl hl (by decide) rfl (fun ls hl => ?_)
      refine lv_goto (tgt := 337) hx hb dX5_classHas_137 (by decide) ?_
      refine lv_iload_n hx hb dX5_classHas_337 rfl (lv_at hl 0 rfl) ?_
      refine lv_iload_n hx hb dX5_classHas_338 rfl (lv_at hl 1 rfl) ?_
      refine lv_iload_n hx hb dX5_classHas_339 rfl (lv_at hl 2 rfl) ?_
      refine lv_icmp_ne (tgt := 347) hx hb dX5_classHas_340 (by decide) (fun c_63 => ?_) (fun c_63 => ?_)
      · replace hu := hu.trans (if_neg c_63)
        refine lv_iconst (v := 0) hx hb dX5_classHas_347 (by decide) ?_
        refine lv_icmp_ne (tgt := 355) hx hb dX5_classHas_348 (by decide) (fun c_64 => ?_) (fun c_64 => ?_)
        · replace hu := hu.trans (if_neg c_64)
          refine lv_iconst (v := 0) hx hb dX5_classHas_355 (by decide) ?_
          subst hu
          exact k_zret hx hb hr (by decide) hlocks hP hD hS rfl rfl dX5_classHas_356
        · replace hu := hu.trans (if_pos c_64)
          refine lv_iconst (v := 1) hx hb dX5_classHas_351 (by decide) ?_
          refine lv_goto (tgt := 356) hx hb dX5_classHas_352 (by decide) ?_
          subst hu
          exact k_zret hx hb hr (by decide) hlocks hP hD hS rfl rfl dX5_classHas_356
      · replace hu := hu.trans (if_pos c_63)
        refine lv_iconst (v := 1) hx hb dX5_classHas_343 (by decide) ?_
        refine lv_goto (tgt := 348) hx hb dX5_classHas_344 (by decide) ?_
        refine lv_icmp_ne (tgt := 355) hx hb dX5_classHas_348 (by decide) (fun c_65 => ?_) (fun c_65 => ?_)
        · replace hu := hu.trans (if_neg c_65)
          refine lv_iconst (v := 0) hx hb dX5_classHas_355 (by decide) ?_
          subst hu
          exact k_zret hx hb hr (by decide) hlocks hP hD hS rfl rfl dX5_classHas_356
        · replace hu := hu.trans (if_pos c_65)
          refine lv_iconst (v := 1) hx hb dX5_classHas_351 (by decide) ?_
          refine lv_goto (tgt := 356) hx hb dX5_classHas_352 (by decide) ?_
          subst hu
          exact k_zret hx hb hr (by decide) hlocks hP hD hS rfl rfl dX5_classHas_356
    replace hu := hu.trans (if_neg c_60)
    by_cases c_66 : (a0 + 32) = 99
    · replace hu := hu.trans (if_pos c_66)
      refine lv_tableIn (off := 282) (tgt := 305) hx hb dX5_classHas_23 (by rw [c_66]; decide) (by rw [c_66]; decide) (by rw [c_66]; decide) (by decide) ?_
      refine lv_iload_n hx hb dX5_classHas_305 rfl (lv_at hl 3 rfl) ?_
      refine lv_bipush (v := 32) hx hb dX5_classHas_306 (by decide) ?_
      refine lv_icmp_lt (tgt := 317) hx hb dX5_classHas_308 (by decide) (fun c_67 => ?_) (fun c_67 => ?_)
      · replace hu := hu.trans (if_pos c_67)
        refine lv_iconst (v := 1) hx hb dX5_classHas_317 (by decide) ?_
        refine lv_goto (tgt := 322) hx hb dX5_classHas_318 (by decide) ?_
        refine lv_istore_n (lv' := [(3, .int 1), (2, .int (a0 + 32)), (0, .int a0), (1, .int a1)]) hx hb dX5_classHas_322 rfl hl (by decide) rfl (fun ls hl => ?_)
        refine lv_goto (tgt := 337) hx hb dX5_classHas_323 (by decide) ?_
        refine lv_iload_n hx hb dX5_classHas_337 rfl (lv_at hl 0 rfl) ?_
        refine lv_iload_n hx hb dX5_classHas_338 rfl (lv_at hl 1 rfl) ?_
        refine lv_iload_n hx hb dX5_classHas_339 rfl (lv_at hl 2 rfl) ?_
        refine lv_icmp_ne (tgt := 347) hx hb dX5_classHas_340 (by decide) (fun c_68 => ?_) (fun c_68 => ?_)
        · replace hu := hu.trans (if_neg c_68)
          refine lv_iconst (v := 0) hx hb dX5_classHas_347 (by decide) ?_
          refine lv_icmp_ne (tgt := 355) hx hb dX5_classHas_348 (by decide) (fun _ => ?_) (fun h => absurd h (by decide))
          refine lv_iconst (v := 0) hx hb dX5_classHas_355 (by decide) ?_
          subst hu
          exact k_zret hx hb hr (by decide) hlocks hP hD hS rfl rfl dX5_classHas_356
        · replace hu := hu.trans (if_pos c_68)
          refine lv_iconst (v := 1) hx hb dX5_classHas_343 (by decide) ?_
          refine lv_goto (tgt := 348) hx hb dX5_classHas_344 (by decide) ?_
          refine lv_icmp_ne (tgt := 355) hx hb dX5_classHas_348 (by decide) (fun h => absurd (by decide) h) (fun _ => ?_)
          refine lv_iconst (v := 1) hx hb dX5_classHas_351 (by decide) ?_
          refine lv_goto (tgt := 356) hx hb dX5_classHas_352 (by decide) ?_
          subst hu
          exact k_zret hx hb hr (by decide) hlocks hP hD hS rfl rfl dX5_classHas_356
      · replace hu := hu.trans (if_neg c_67)
        refine lv_iload_n hx hb dX5_classHas_311 rfl (lv_at hl 3 rfl) ?_
        refine lv_bipush (v := 127) hx hb dX5_classHas_312 (by decide) ?_
        refine lv_icmp_ne (tgt := 321) hx hb dX5_classHas_314 (by decide) (fun c_69 => ?_) (fun c_69 => ?_)
        · replace hu := hu.trans (if_neg c_69)
          refine lv_iconst (v := 0) hx hb dX5_classHas_321 (by decide) ?_
          refine lv_istore_n (lv' := [(3, .int 0), (2, .int (a0 + 32)), (0, .int a0), (1, .int a1)]) hx hb dX5_classHas_322 rfl hl (by decide) rfl (fun ls hl => ?_)
          refine lv_goto (tgt := 337) hx hb dX5_classHas_323 (by decide) ?_
          refine lv_iload_n hx hb dX5_classHas_337 rfl (lv_at hl 0 rfl) ?_
          refine lv_iload_n hx hb dX5_classHas_338 rfl (lv_at hl 1 rfl) ?_
          refine lv_iload_n hx hb dX5_classHas_339 rfl (lv_at hl 2 rfl) ?_
          refine lv_icmp_ne (tgt := 347) hx hb dX5_classHas_340 (by decide) (fun c_70 => ?_) (fun c_70 => ?_)
          · replace hu := hu.trans (if_neg c_70)
            refine lv_iconst (v := 0) hx hb dX5_classHas_347 (by decide) ?_
            refine lv_icmp_ne (tgt := 355) hx hb dX5_classHas_348 (by decide) (fun h => absurd (by decide) h) (fun _ => ?_)
            refine lv_iconst (v := 1) hx hb dX5_classHas_351 (by decide) ?_
            refine lv_goto (tgt := 356) hx hb dX5_classHas_352 (by decide) ?_
            subst hu
            exact k_zret hx hb hr (by decide) hlocks hP hD hS rfl rfl dX5_classHas_356
          · replace hu := hu.trans (if_pos c_70)
            refine lv_iconst (v := 1) hx hb dX5_classHas_343 (by decide) ?_
            refine lv_goto (tgt := 348) hx hb dX5_classHas_344 (by decide) ?_
            refine lv_icmp_ne (tgt := 355) hx hb dX5_classHas_348 (by decide) (fun _ => ?_) (fun h => absurd h (by decide))
            refine lv_iconst (v := 0) hx hb dX5_classHas_355 (by decide) ?_
            subst hu
            exact k_zret hx hb hr (by decide) hlocks hP hD hS rfl rfl dX5_classHas_356
        · replace hu := hu.trans (if_pos c_69)
          refine lv_iconst (v := 1) hx hb dX5_classHas_317 (by decide) ?_
          refine lv_goto (tgt := 322) hx hb dX5_classHas_318 (by decide) ?_
          refine lv_istore_n (lv' := [(3, .int 1), (2, .int (a0 + 32)), (0, .int a0), (1, .int a1)]) hx hb dX5_classHas_322 rfl hl (by decide) rfl (fun ls hl => ?_)
          refine lv_goto (tgt := 337) hx hb dX5_classHas_323 (by decide) ?_
          refine lv_iload_n hx hb dX5_classHas_337 rfl (lv_at hl 0 rfl) ?_
          refine lv_iload_n hx hb dX5_classHas_338 rfl (lv_at hl 1 rfl) ?_
          refine lv_iload_n hx hb dX5_classHas_339 rfl (lv_at hl 2 rfl) ?_
          refine lv_icmp_ne (tgt := 347) hx hb dX5_classHas_340 (by decide) (fun c_71 => ?_) (fun c_71 => ?_)
          · replace hu := hu.trans (if_neg c_71)
            refine lv_iconst (v := 0) hx hb dX5_classHas_347 (by decide) ?_
            refine lv_icmp_ne (tgt := 355) hx hb dX5_classHas_348 (by decide) (fun _ => ?_) (fun h => absurd h (by decide))
            refine lv_iconst (v := 0) hx hb dX5_classHas_355 (by decide) ?_
            subst hu
            exact k_zret hx hb hr (by decide) hlocks hP hD hS rfl rfl dX5_classHas_356
          · replace hu := hu.trans (if_pos c_71)
            refine lv_iconst (v := 1) hx hb dX5_classHas_343 (by decide) ?_
            refine lv_goto (tgt := 348) hx hb dX5_classHas_344 (by decide) ?_
            refine lv_icmp_ne (tgt := 355) hx hb dX5_classHas_348 (by decide) (fun h => absurd (by decide) h) (fun _ => ?_)
            refine lv_iconst (v := 1) hx hb dX5_classHas_351 (by decide) ?_
            refine lv_goto (tgt := 356) hx hb dX5_classHas_352 (by decide) ?_
            subst hu
            exact k_zret hx hb hr (by decide) hlocks hP hD hS rfl rfl dX5_classHas_356
    replace hu := hu.trans (if_neg c_66)
    by_cases c_72 : (a0 + 32) = 100
    · replace hu := hu.trans (if_pos c_72)
      refine lv_tableIn (off := 117) (tgt := 140) hx hb dX5_classHas_23 (by rw [c_72]; decide) (by rw [c_72]; decide) (by rw [c_72]; decide) (by decide) ?_
      refine lv_iload_n hx hb dX5_classHas_140 rfl (lv_at hl 3 rfl) ?_
      obtain ⟨z_73, hz_73⟩ : ∃ z, z = f_X5_isDigit a1 := ⟨_, rfl⟩
      replace hu := hu.trans (kb_of hz_73)
      refine k_callS (As := [.int a1]) (rest := []) (wc := []) (wr := []) (w1 := []) (wn := []) ⟨hx, hb, hml, hown, hts⟩ (c_X5_isDigit l DD aC tt    a1  z_73 hz_73) (cwS 1 hts (gdS w_691 w_692 w_74 w_693) rfl rfl rfl (by decide +kernel) ⟨Nat.le_of_ble_eq_true rfl, Nat.le_of_ble_eq_true rfl⟩) hP hD hS hA hE [] [] [] rfl rfl rfl (by decide) (by decide) (by decide) (by decide) rfl hl.1 rfl (Nat.le_of_ble_eq_true rfl) dX5_classHas_141 (fun H locs hP hD hS => ?_)
      refine W.eq (g2 := F0 m 144 ls [.int z_73]) rfl ?_
      have h_74 := pf_X5_isDigit hz_73
      refine lv_istore_n (lv' := [(3, .int z_73), (2, .int (a0 + 32)), (0, .int a0), (1, .int a1)]) hx hb dX5_classHas_144 rfl hl (by decide) rfl (fun ls hl => ?_)
      refine lv_goto (tgt := 337) hx hb dX5_classHas_145 (by decide) ?_
      refine lv_iload_n hx hb dX5_classHas_337 rfl (lv_at hl 0 rfl) ?_
      refine lv_iload_n hx hb dX5_classHas_338 rfl (lv_at hl 1 rfl) ?_
      refine lv_iload_n hx hb dX5_classHas_339 rfl (lv_at hl 2 rfl) ?_
      refine lv_icmp_ne (tgt := 347) hx hb dX5_classHas_340 (by decide) (fun c_75 => ?_) (fun c_75 => ?_)
      · replace hu := hu.trans (if_neg c_75)
        refine lv_iconst (v := 0) hx hb dX5_classHas_347 (by decide) ?_
        refine lv_icmp_ne (tgt := 355) hx hb dX5_classHas_348 (by decide) (fun c_76 => ?_) (fun c_76 => ?_)
        · replace hu := hu.trans (if_neg c_76)
          refine lv_iconst (v := 0) hx hb dX5_classHas_355 (by decide) ?_
          subst hu
          exact k_zret hx hb hr (by decide) hlocks hP hD hS rfl rfl dX5_classHas_356
        · replace hu := hu.trans (if_pos c_76)
          refine lv_iconst (v := 1) hx hb dX5_classHas_351 (by decide) ?_
          refine lv_goto (tgt := 356) hx hb dX5_classHas_352 (by decide) ?_
          subst hu
          exact k_zret hx hb hr (by decide) hlocks hP hD hS rfl rfl dX5_classHas_356
      · replace hu := hu.trans (if_pos c_75)
        refine lv_iconst (v := 1) hx hb dX5_classHas_343 (by decide) ?_
        refine lv_goto (tgt := 348) hx hb dX5_classHas_344 (by decide) ?_
        refine lv_icmp_ne (tgt := 355) hx hb dX5_classHas_348 (by decide) (fun c_77 => ?_) (fun c_77 => ?_)
        · replace hu := hu.trans (if_neg c_77)
          refine lv_iconst (v := 0) hx hb dX5_classHas_355 (by decide) ?_
          subst hu
          exact k_zret hx hb hr (by decide) hlocks hP hD hS rfl rfl dX5_classHas_356
        · replace hu := hu.trans (if_pos c_77)
          refine lv_iconst (v := 1) hx hb dX5_classHas_351 (by decide) ?_
          refine lv_goto (tgt := 356) hx hb dX5_classHas_352 (by decide) ?_
          subst hu
          exact k_zret hx hb hr (by decide) hlocks hP hD hS rfl rfl dX5_classHas_356
    replace hu := hu.trans (if_neg c_72)
    by_cases c_78 : (a0 + 32) = 103
    · replace hu := hu.trans (if_pos c_78)
      refine lv_tableIn (off := 236) (tgt := 259) hx hb dX5_classHas_23 (by rw [c_78]; decide) (by rw [c_78]; decide) (by rw [c_78]; decide) (by decide) ?_
      refine lv_iload_n hx hb dX5_classHas_259 rfl (lv_at hl 3 rfl) ?_
      refine lv_bipush (v := 33) hx hb dX5_classHas_260 (by decide) ?_
      refine lv_bipush (v := 126) hx hb dX5_classHas_262 (by decide) ?_
      obtain ⟨z_79, hz_79⟩ : ∃ z, z = f_X5_isBetween a1 33 126 := ⟨_, rfl⟩
      replace hu := hu.trans (kb_of hz_79)
      refine k_callS (As := [.int a1, .int 33, .int 126]) (rest := []) (wc := []) (wr := []) (w1 := []) (wn := []) ⟨hx, hb, hml, hown, hts⟩ (c_X5_isBetween l DD aC tt    a1 33 126  z_79 hz_79) (cwS 3 hts (gdS w_685 w_686 w_74 w_687) rfl rfl rfl (by decide +kernel) ⟨Nat.le_of_ble_eq_true rfl, Nat.le_of_ble_eq_true rfl⟩) hP hD hS hA hE [] [] [] rfl rfl rfl (by decide) (by decide) (by decide) (by decide) rfl hl.1 rfl (Nat.le_of_ble_eq_true rfl) dX5_classHas_264 (fun H locs hP hD hS => ?_)
      refine W.eq (g2 := F0 m 267 ls [.int z_79]) rfl ?_
      have h_80 := pf_X5_isBetween hz_79
      refine lv_istore_n (lv' := [(3, .int z_79), (2, .int (a0 + 32)), (0, .int a0), (1, .int a1)]) hx hb dX5_classHas_267 rfl hl (by decide) rfl (fun ls hl => ?_)
      refine lv_goto (tgt := 337) hx hb dX5_classHas_268 (by decide) ?_
      refine lv_iload_n hx hb dX5_classHas_337 rfl (lv_at hl 0 rfl) ?_
      refine lv_iload_n hx hb dX5_classHas_338 rfl (lv_at hl 1 rfl) ?_
      refine lv_iload_n hx hb dX5_classHas_339 rfl (lv_at hl 2 rfl) ?_
      refine lv_icmp_ne (tgt := 347) hx hb dX5_classHas_340 (by decide) (fun c_81 => ?_) (fun c_81 => ?_)
      · replace hu := hu.trans (if_neg c_81)
        refine lv_iconst (v := 0) hx hb dX5_classHas_347 (by decide) ?_
        refine lv_icmp_ne (tgt := 355) hx hb dX5_classHas_348 (by decide) (fun c_82 => ?_) (fun c_82 => ?_)
        · replace hu := hu.trans (if_neg c_82)
          refine lv_iconst (v := 0) hx hb dX5_classHas_355 (by decide) ?_
          subst hu
          exact k_zret hx hb hr (by decide) hlocks hP hD hS rfl rfl dX5_classHas_356
        · replace hu := hu.trans (if_pos c_82)
          refine lv_iconst (v := 1) hx hb dX5_classHas_351 (by decide) ?_
          refine lv_goto (tgt := 356) hx hb dX5_classHas_352 (by decide) ?_
          subst hu
          exact k_zret hx hb hr (by decide) hlocks hP hD hS rfl rfl dX5_classHas_356
      · replace hu := hu.trans (if_pos c_81)
        refine lv_iconst (v := 1) hx hb dX5_classHas_343 (by decide) ?_
        refine lv_goto (tgt := 348) hx hb dX5_classHas_344 (by decide) ?_
        refine lv_icmp_ne (tgt := 355) hx hb dX5_classHas_348 (by decide) (fun c_83 => ?_) (fun c_83 => ?_)
        · replace hu := hu.trans (if_neg c_83)
          refine lv_iconst (v := 0) hx hb dX5_classHas_355 (by decide) ?_
          subst hu
          exact k_zret hx hb hr (by decide) hlocks hP hD hS rfl rfl dX5_classHas_356
        · replace hu := hu.trans (if_pos c_83)
          refine lv_iconst (v := 1) hx hb dX5_classHas_351 (by decide) ?_
          refine lv_goto (tgt := 356) hx hb dX5_classHas_352 (by decide) ?_
          subst hu
          exact k_zret hx hb hr (by decide) hlocks hP hD hS rfl rfl dX5_classHas_356
    replace hu := hu.trans (if_neg c_78)
    by_cases c_84 : (a0 + 32) = 108
    · replace hu := hu.trans (if_pos c_84)
      refine lv_tableIn (off := 125) (tgt := 148) hx hb dX5_classHas_23 (by rw [c_84]; decide) (by rw [c_84]; decide) (by rw [c_84]; decide) (by decide) ?_
      refine lv_iload_n hx hb dX5_classHas_148 rfl (lv_at hl 3 rfl) ?_
      refine lv_bipush (v := 97) hx hb dX5_classHas_149 (by decide) ?_
      refine lv_bipush (v := 122) hx hb dX5_classHas_151 (by decide) ?_
      obtain ⟨z_85, hz_85⟩ : ∃ z, z = f_X5_isBetween a1 97 122 := ⟨_, rfl⟩
      replace hu := hu.trans (kb_of hz_85)
      refine k_callS (As := [.int a1, .int 97, .int 122]) (rest := []) (wc := []) (wr := []) (w1 := []) (wn := []) ⟨hx, hb, hml, hown, hts⟩ (c_X5_isBetween l DD aC tt    a1 97 122  z_85 hz_85) (cwS 3 hts (gdS w_685 w_686 w_74 w_687) rfl rfl rfl (by decide +kernel) ⟨Nat.le_of_ble_eq_true rfl, Nat.le_of_ble_eq_true rfl⟩) hP hD hS hA hE [] [] [] rfl rfl rfl (by decide) (by decide) (by decide) (by decide) rfl hl.1 rfl (Nat.le_of_ble_eq_true rfl) dX5_classHas_153 (fun H locs hP hD hS => ?_)
      refine W.eq (g2 := F0 m 156 ls [.int z_85]) rfl ?_
      have h_86 := pf_X5_isBetween hz_85
      refine lv_istore_n (lv' := [(3, .int z_85), (2, .int (a0 + 32)), (0, .int a0), (1, .int a1)]) hx hb dX5_classHas_156 rfl hl (by decide) rfl (fun ls hl => ?_)
      refine lv_goto (tgt := 337) hx hb dX5_classHas_157 (by decide) ?_
      refine lv_iload_n hx hb dX5_classHas_337 rfl (lv_at hl 0 rfl) ?_
      refine lv_iload_n hx hb dX5_classHas_338 rfl (lv_at hl 1 rfl) ?_
      refine lv_iload_n hx hb dX5_classHas_339 rfl (lv_at hl 2 rfl) ?_
      refine lv_icmp_ne (tgt := 347) hx hb dX5_classHas_340 (by decide) (fun c_87 => ?_) (fun c_87 => ?_)
      · replace hu := hu.trans (if_neg c_87)
        refine lv_iconst (v := 0) hx hb dX5_classHas_347 (by decide) ?_
        refine lv_icmp_ne (tgt := 355) hx hb dX5_classHas_348 (by decide) (fun c_88 => ?_) (fun c_88 => ?_)
        · replace hu := hu.trans (if_neg c_88)
          refine lv_iconst (v := 0) hx hb dX5_classHas_355 (by decide) ?_
          subst hu
          exact k_zret hx hb hr (by decide) hlocks hP hD hS rfl rfl dX5_classHas_356
        · replace hu := hu.trans (if_pos c_88)
          refine lv_iconst (v := 1) hx hb dX5_classHas_351 (by decide) ?_
          refine lv_goto (tgt := 356) hx hb dX5_classHas_352 (by decide) ?_
          subst hu
          exact k_zret hx hb hr (by decide) hlocks hP hD hS rfl rfl dX5_classHas_356
      · replace hu := hu.trans (if_pos c_87)
        refine lv_iconst (v := 1) hx hb dX5_classHas_343 (by decide) ?_
        refine lv_goto (tgt := 348) hx hb dX5_classHas_344 (by decide) ?_
        refine lv_icmp_ne (tgt := 355) hx hb dX5_classHas_348 (by decide) (fun c_89 => ?_) (fun c_89 => ?_)
        · replace hu := hu.trans (if_neg c_89)
          refine lv_iconst (v := 0) hx hb dX5_classHas_355 (by decide) ?_
          subst hu
          exact k_zret hx hb hr (by decide) hlocks hP hD hS rfl rfl dX5_classHas_356
        · replace hu := hu.trans (if_pos c_89)
          refine lv_iconst (v := 1) hx hb dX5_classHas_351 (by decide) ?_
          refine lv_goto (tgt := 356) hx hb dX5_classHas_352 (by decide) ?_
          subst hu
          exact k_zret hx hb hr (by decide) hlocks hP hD hS rfl rfl dX5_classHas_356
    replace hu := hu.trans (if_neg c_84)
    by_cases c_90 : (a0 + 32) = 112
    · replace hu := hu.trans (if_pos c_90)
      refine lv_tableIn (off := 248) (tgt := 271) hx hb dX5_classHas_23 (by rw [c_90]; decide) (by rw [c_90]; decide) (by rw [c_90]; decide) (by decide) ?_
      refine lv_iload_n hx hb dX5_classHas_271 rfl (lv_at hl 3 rfl) ?_
      refine lv_bipush (v := 33) hx hb dX5_classHas_272 (by decide) ?_
      refine lv_bipush (v := 126) hx hb dX5_classHas_274 (by decide) ?_
      obtain ⟨z_91, hz_91⟩ : ∃ z, z = f_X5_isBetween a1 33 126 := ⟨_, rfl⟩
      replace hu := hu.trans (kb_of hz_91)
      refine k_callS (As := [.int a1, .int 33, .int 126]) (rest := []) (wc := []) (wr := []) (w1 := []) (wn := []) ⟨hx, hb, hml, hown, hts⟩ (c_X5_isBetween l DD aC tt    a1 33 126  z_91 hz_91) (cwS 3 hts (gdS w_685 w_686 w_74 w_687) rfl rfl rfl (by decide +kernel) ⟨Nat.le_of_ble_eq_true rfl, Nat.le_of_ble_eq_true rfl⟩) hP hD hS hA hE [] [] [] rfl rfl rfl (by decide) (by decide) (by decide) (by decide) rfl hl.1 rfl (Nat.le_of_ble_eq_true rfl) dX5_classHas_276 (fun H locs hP hD hS => ?_)
      refine W.eq (g2 := F0 m 279 ls [.int z_91]) rfl ?_
      have h_92 := pf_X5_isBetween hz_91
      refine lv_if_eq (tgt := 300) hx hb dX5_classHas_279 (by decide) (fun c_93 => ?_) (fun c_93 => ?_)
      · replace hu := hu.trans (if_pos c_93)
        refine lv_iconst (v := 0) hx hb dX5_classHas_300 (by decide) ?_
        refine lv_istore_n (lv' := [(3, .int 0), (2, .int (a0 + 32)), (0, .int a0), (1, .int a1)]) hx hb dX5_classHas_301 rfl hl (by decide) rfl (fun ls hl => ?_)
        refine lv_goto (tgt := 337) hx hb dX5_classHas_302 (by decide) ?_
        refine lv_iload_n hx hb dX5_classHas_337 rfl (lv_at hl 0 rfl) ?_
        refine lv_iload_n hx hb dX5_classHas_338 rfl (lv_at hl 1 rfl) ?_
        refine lv_iload_n hx hb dX5_classHas_339 rfl (lv_at hl 2 rfl) ?_
        refine lv_icmp_ne (tgt := 347) hx hb dX5_classHas_340 (by decide) (fun c_94 => ?_) (fun c_94 => ?_)
        · replace hu := hu.trans (if_neg c_94)
          refine lv_iconst (v := 0) hx hb dX5_classHas_347 (by decide) ?_
          refine lv_icmp_ne (tgt := 355) hx hb dX5_classHas_348 (by decide) (fun h => absurd (by decide) h) (fun _ => ?_)
          refine lv_iconst (v := 1) hx hb dX5_classHas_351 (by decide) ?_
          refine lv_goto (tgt := 356) hx hb dX5_classHas_352 (by decide) ?_
          subst hu
          exact k_zret hx hb hr (by decide) hlocks hP hD hS rfl rfl dX5_classHas_356
        · replace hu := hu.trans (if_pos c_94)
          refine lv_iconst (v := 1) hx hb dX5_classHas_343 (by decide) ?_
          refine lv_goto (tgt := 348) hx hb dX5_classHas_344 (by decide) ?_
          refine lv_icmp_ne (tgt := 355) hx hb dX5_classHas_348 (by decide) (fun _ => ?_) (fun h => absurd h (by decide))
          refine lv_iconst (v := 0) hx hb dX5_classHas_355 (by decide) ?_
          subst hu
          exact k_zret hx hb hr (by decide) hlocks hP hD hS rfl rfl dX5_classHas_356
      · replace hu := hu.trans (if_neg c_93)
        refine lv_iload_n hx hb dX5_classHas_282 rfl (lv_at hl 3 rfl) ?_
        obtain ⟨z_95, hz_95⟩ : ∃ z, z = f_X5_isLetter a1 := ⟨_, rfl⟩
        replace hu := hu.trans (kb_of hz_95)
        refine k_callS (As := [.int a1]) (rest := []) (wc := []) (wr := []) (w1 := []) (wn := []) ⟨hx, hb, hml, hown, hts⟩ (c_X5_isLetter l DD aC tt    a1  z_95 hz_95) (cwS 1 hts (gdS w_688 w_689 w_74 w_690) rfl rfl rfl (by decide +kernel) ⟨Nat.le_of_ble_eq_true rfl, Nat.le_of_ble_eq_true rfl⟩) hP hD hS hA hE [] [] [] rfl rfl rfl (by decide) (by decide) (by decide) (by decide) rfl hl.1 rfl (Nat.le_of_ble_eq_true rfl) dX5_classHas_283 (fun H locs hP hD hS => ?_)
        refine W.eq (g2 := F0 m 286 ls [.int z_95]) rfl ?_
        have h_96 := pf_X5_isLetter hz_95
        refine lv_if_ne (tgt := 300) hx hb dX5_classHas_286 (by decide) (fun c_97 => ?_) (fun c_97 => ?_)
        · replace hu := hu.trans (if_neg c_97)
          refine lv_iconst (v := 0) hx hb dX5_classHas_300 (by decide) ?_
          refine lv_istore_n (lv' := [(3, .int 0), (2, .int (a0 + 32)), (0, .int a0), (1, .int a1)]) hx hb dX5_classHas_301 rfl hl (by decide) rfl (fun ls hl => ?_)
          refine lv_goto (tgt := 337) hx hb dX5_classHas_302 (by decide) ?_
          refine lv_iload_n hx hb dX5_classHas_337 rfl (lv_at hl 0 rfl) ?_
          refine lv_iload_n hx hb dX5_classHas_338 rfl (lv_at hl 1 rfl) ?_
          refine lv_iload_n hx hb dX5_classHas_339 rfl (lv_at hl 2 rfl) ?_
          refine lv_icmp_ne (tgt := 347) hx hb dX5_classHas_340 (by decide) (fun c_98 => ?_) (fun c_98 => ?_)
          · replace hu := hu.trans (if_neg c_98)
            refine lv_iconst (v := 0) hx hb dX5_classHas_347 (by decide) ?_
            refine lv_icmp_ne (tgt := 355) hx hb dX5_classHas_348 (by decide) (fun h => absurd (by decide) h) (fun _ => ?_)
            refine lv_iconst (v := 1) hx hb dX5_classHas_351 (by decide) ?_
            refine lv_goto (tgt := 356) hx hb dX5_classHas_352 (by decide) ?_
            subst hu
            exact k_zret hx hb hr (by decide) hlocks hP hD hS rfl rfl dX5_classHas_356
          · replace hu := hu.trans (if_pos c_98)
            refine lv_iconst (v := 1) hx hb dX5_classHas_343 (by decide) ?_
            refine lv_goto (tgt := 348) hx hb dX5_classHas_344 (by decide) ?_
            refine lv_icmp_ne (tgt := 355) hx hb dX5_classHas_348 (by decide) (fun _ => ?_) (fun h => absurd h (by decide))
            refine lv_iconst (v := 0) hx hb dX5_classHas_355 (by decide) ?_
            subst hu
            exact k_zret hx hb hr (by decide) hlocks hP hD hS rfl rfl dX5_classHas_356
        · replace hu := hu.trans (if_pos c_97)
          refine lv_iload_n hx hb dX5_classHas_289 rfl (lv_at hl 3 rfl) ?_
          obtain ⟨z_99, hz_99⟩ : ∃ z, z = f_X5_isDigit a1 := ⟨_, rfl⟩
          replace hu := hu.trans (kb_of hz_99)
          refine k_callS (As := [.int a1]) (rest := []) (wc := []) (wr := []) (w1 := []) (wn := []) ⟨hx, hb, hml, hown, hts⟩ (c_X5_isDigit l DD aC tt    a1  z_99 hz_99) (cwS 1 hts (gdS w_691 w_692 w_74 w_693) rfl rfl rfl (by decide +kernel) ⟨Nat.le_of_ble_eq_true rfl, Nat.le_of_ble_eq_true rfl⟩) hP hD hS hA hE [] [] [] rfl rfl rfl (by decide) (by decide) (by decide) (by decide) rfl hl.1 rfl (Nat.le_of_ble_eq_true rfl) dX5_classHas_290 (fun H locs hP hD hS => ?_)
          refine W.eq (g2 := F0 m 293 ls [.int z_99]) rfl ?_
          have h_100 := pf_X5_isDigit hz_99
          refine lv_if_ne (tgt := 300) hx hb dX5_classHas_293 (by decide) (fun c_101 => ?_) (fun c_101 => ?_)
          · replace hu := hu.trans (if_neg c_101)
            refine lv_iconst (v := 0) hx hb dX5_classHas_300 (by decide) ?_
            refine lv_istore_n (lv' := [(3, .int 0), (2, .int (a0 + 32)), (0, .int a0), (1, .int a1)]) hx hb dX5_classHas_301 rfl hl (by decide) rfl (fun ls hl => ?_)
            refine lv_goto (tgt := 337) hx hb dX5_classHas_302 (by decide) ?_
            refine lv_iload_n hx hb dX5_classHas_337 rfl (lv_at hl 0 rfl) ?_
            refine lv_iload_n hx hb dX5_classHas_338 rfl (lv_at hl 1 rfl) ?_
            refine lv_iload_n hx hb dX5_classHas_339 rfl (lv_at hl 2 rfl) ?_
            refine lv_icmp_ne (tgt := 347) hx hb dX5_classHas_340 (by decide) (fun c_102 => ?_) (fun c_102 => ?_)
            · replace hu := hu.trans (if_neg c_102)
              refine lv_iconst (v := 0) hx hb dX5_classHas_347 (by decide) ?_
              refine lv_icmp_ne (tgt := 355) hx hb dX5_classHas_348 (by decide) (fun h => absurd (by decide) h) (fun _ => ?_)
              refine lv_iconst (v := 1) hx hb dX5_classHas_351 (by decide) ?_
              refine lv_goto (tgt := 356) hx hb dX5_classHas_352 (by decide) ?_
              subst hu
              exact k_zret hx hb hr (by decide) hlocks hP hD hS rfl rfl dX5_classHas_356
            · replace hu := hu.trans (if_pos c_102)
              refine lv_iconst (v := 1) hx hb dX5_classHas_343 (by decide) ?_
              refine lv_goto (tgt := 348) hx hb dX5_classHas_344 (by decide) ?_
              refine lv_icmp_ne (tgt := 355) hx hb dX5_classHas_348 (by decide) (fun _ => ?_) (fun h => absurd h (by decide))
              refine lv_iconst (v := 0) hx hb dX5_classHas_355 (by decide) ?_
              subst hu
              exact k_zret hx hb hr (by decide) hlocks hP hD hS rfl rfl dX5_classHas_356
          · replace hu := hu.trans (if_pos c_101)
            refine lv_iconst (v := 1) hx hb dX5_classHas_296 (by decide) ?_
            refine lv_goto (tgt := 301) hx hb dX5_classHas_297 (by decide) ?_
            refine lv_istore_n (lv' := [(3, .int 1), (2, .int (a0 + 32)), (0, .int a0), (1, .int a1)]) hx hb dX5_classHas_301 rfl hl (by decide) rfl (fun ls hl => ?_)
            refine lv_goto (tgt := 337) hx hb dX5_classHas_302 (by decide) ?_
            refine lv_iload_n hx hb dX5_classHas_337 rfl (lv_at hl 0 rfl) ?_
            refine lv_iload_n hx hb dX5_classHas_338 rfl (lv_at hl 1 rfl) ?_
            refine lv_iload_n hx hb dX5_classHas_339 rfl (lv_at hl 2 rfl) ?_
            refine lv_icmp_ne (tgt := 347) hx hb dX5_classHas_340 (by decide) (fun c_103 => ?_) (fun c_103 => ?_)
            · replace hu := hu.trans (if_neg c_103)
              refine lv_iconst (v := 0) hx hb dX5_classHas_347 (by decide) ?_
              refine lv_icmp_ne (tgt := 355) hx hb dX5_classHas_348 (by decide) (fun _ => ?_) (fun h => absurd h (by decide))
              refine lv_iconst (v := 0) hx hb dX5_classHas_355 (by decide) ?_
              subst hu
              exact k_zret hx hb hr (by decide) hlocks hP hD hS rfl rfl dX5_classHas_356
            · replace hu := hu.trans (if_pos c_103)
              refine lv_iconst (v := 1) hx hb dX5_classHas_343 (by decide) ?_
              refine lv_goto (tgt := 348) hx hb dX5_classHas_344 (by decide) ?_
              refine lv_icmp_ne (tgt := 355) hx hb dX5_classHas_348 (by decide) (fun h => absurd (by decide) h) (fun _ => ?_)
              refine lv_iconst (v := 1) hx hb dX5_classHas_351 (by decide) ?_
              refine lv_goto (tgt := 356) hx hb dX5_classHas_352 (by decide) ?_
              subst hu
              exact k_zret hx hb hr (by decide) hlocks hP hD hS rfl rfl dX5_classHas_356
    replace hu := hu.trans (if_neg c_90)
    by_cases c_104 : (a0 + 32) = 115
    · replace hu := hu.trans (if_pos c_104)
      refine lv_tableIn (off := 172) (tgt := 195) hx hb dX5_classHas_23 (by rw [c_104]; decide) (by rw [c_104]; decide) (by rw [c_104]; decide) (by decide) ?_
      refine lv_iload_n hx hb dX5_classHas_195 rfl (lv_at hl 3 rfl) ?_
      refine lv_bipush (v := 32) hx hb dX5_classHas_196 (by decide) ?_
      refine lv_icmp_eq (tgt := 212) hx hb dX5_classHas_198 (by decide) (fun c_105 => ?_) (fun c_105 => ?_)
      · replace hu := hu.trans (if_pos c_105)
        refine lv_iconst (v := 1) hx hb dX5_classHas_212 (by decide) ?_
        refine lv_goto (tgt := 217) hx hb dX5_classHas_213 (by decide) ?_
        refine lv_istore_n (lv' := [(3, .int 1), (2, .int (a0 + 32)), (0, .int a0), (1, .int a1)]) hx hb dX5_classHas_217 rfl hl (by decide) rfl (fun ls hl => ?_)
        refine lv_goto (tgt := 337) hx hb dX5_classHas_218 (by decide) ?_
        refine lv_iload_n hx hb dX5_classHas_337 rfl (lv_at hl 0 rfl) ?_
        refine lv_iload_n hx hb dX5_classHas_338 rfl (lv_at hl 1 rfl) ?_
        refine lv_iload_n hx hb dX5_classHas_339 rfl (lv_at hl 2 rfl) ?_
        refine lv_icmp_ne (tgt := 347) hx hb dX5_classHas_340 (by decide) (fun c_106 => ?_) (fun c_106 => ?_)
        · replace hu := hu.trans (if_neg c_106)
          refine lv_iconst (v := 0) hx hb dX5_classHas_347 (by decide) ?_
          refine lv_icmp_ne (tgt := 355) hx hb dX5_classHas_348 (by decide) (fun _ => ?_) (fun h => absurd h (by decide))
          refine lv_iconst (v := 0) hx hb dX5_classHas_355 (by decide) ?_
          subst hu
          exact k_zret hx hb hr (by decide) hlocks hP hD hS rfl rfl dX5_classHas_356
        · replace hu := hu.trans (if_pos c_106)
          refine lv_iconst (v := 1) hx hb dX5_classHas_343 (by decide) ?_
          refine lv_goto (tgt := 348) hx hb dX5_classHas_344 (by decide) ?_
          refine lv_icmp_ne (tgt := 355) hx hb dX5_classHas_348 (by decide) (fun h => absurd (by decide) h) (fun _ => ?_)
          refine lv_iconst (v := 1) hx hb dX5_classHas_351 (by decide) ?_
          refine lv_goto (tgt := 356) hx hb dX5_classHas_352 (by decide) ?_
          subst hu
          exact k_zret hx hb hr (by decide) hlocks hP hD hS rfl rfl dX5_classHas_356
      · replace hu := hu.trans (if_neg c_105)
        refine lv_iload_n hx hb dX5_classHas_201 rfl (lv_at hl 3 rfl) ?_
        refine lv_bipush (v := 9) hx hb dX5_classHas_202 (by decide) ?_
        refine lv_bipush (v := 13) hx hb dX5_classHas_204 (by decide) ?_
        obtain ⟨z_107, hz_107⟩ : ∃ z, z = f_X5_isBetween a1 9 13 := ⟨_, rfl⟩
        replace hu := hu.trans (kb_of hz_107)
        refine k_callS (As := [.int a1, .int 9, .int 13]) (rest := []) (wc := []) (wr := []) (w1 := []) (wn := []) ⟨hx, hb, hml, hown, hts⟩ (c_X5_isBetween l DD aC tt    a1 9 13  z_107 hz_107) (cwS 3 hts (gdS w_685 w_686 w_74 w_687) rfl rfl rfl (by decide +kernel) ⟨Nat.le_of_ble_eq_true rfl, Nat.le_of_ble_eq_true rfl⟩) hP hD hS hA hE [] [] [] rfl rfl rfl (by decide) (by decide) (by decide) (by decide) rfl hl.1 rfl (Nat.le_of_ble_eq_true rfl) dX5_classHas_206 (fun H locs hP hD hS => ?_)
        refine W.eq (g2 := F0 m 209 ls [.int z_107]) rfl ?_
        have h_108 := pf_X5_isBetween hz_107
        refine lv_if_eq (tgt := 216) hx hb dX5_classHas_209 (by decide) (fun c_109 => ?_) (fun c_109 => ?_)
        · replace hu := hu.trans (if_pos c_109)
          refine lv_iconst (v := 0) hx hb dX5_classHas_216 (by decide) ?_
          refine lv_istore_n (lv' := [(3, .int 0), (2, .int (a0 + 32)), (0, .int a0), (1, .int a1)]) hx hb dX5_classHas_217 rfl hl (by decide) rfl (fun ls hl => ?_)
          refine lv_goto (tgt := 337) hx hb dX5_classHas_218 (by decide) ?_
          refine lv_iload_n hx hb dX5_classHas_337 rfl (lv_at hl 0 rfl) ?_
          refine lv_iload_n hx hb dX5_classHas_338 rfl (lv_at hl 1 rfl) ?_
          refine lv_iload_n hx hb dX5_classHas_339 rfl (lv_at hl 2 rfl) ?_
          refine lv_icmp_ne (tgt := 347) hx hb dX5_classHas_340 (by decide) (fun c_110 => ?_) (fun c_110 => ?_)
          · replace hu := hu.trans (if_neg c_110)
            refine lv_iconst (v := 0) hx hb dX5_classHas_347 (by decide) ?_
            refine lv_icmp_ne (tgt := 355) hx hb dX5_classHas_348 (by decide) (fun h => absurd (by decide) h) (fun _ => ?_)
            refine lv_iconst (v := 1) hx hb dX5_classHas_351 (by decide) ?_
            refine lv_goto (tgt := 356) hx hb dX5_classHas_352 (by decide) ?_
            subst hu
            exact k_zret hx hb hr (by decide) hlocks hP hD hS rfl rfl dX5_classHas_356
          · replace hu := hu.trans (if_pos c_110)
            refine lv_iconst (v := 1) hx hb dX5_classHas_343 (by decide) ?_
            refine lv_goto (tgt := 348) hx hb dX5_classHas_344 (by decide) ?_
            refine lv_icmp_ne (tgt := 355) hx hb dX5_classHas_348 (by decide) (fun _ => ?_) (fun h => absurd h (by decide))
            refine lv_iconst (v := 0) hx hb dX5_classHas_355 (by decide) ?_
            subst hu
            exact k_zret hx hb hr (by decide) hlocks hP hD hS rfl rfl dX5_classHas_356
        · replace hu := hu.trans (if_neg c_109)
          refine lv_iconst (v := 1) hx hb dX5_classHas_212 (by decide) ?_
          refine lv_goto (tgt := 217) hx hb dX5_classHas_213 (by decide) ?_
          refine lv_istore_n (lv' := [(3, .int 1), (2, .int (a0 + 32)), (0, .int a0), (1, .int a1)]) hx hb dX5_classHas_217 rfl hl (by decide) rfl (fun ls hl => ?_)
          refine lv_goto (tgt := 337) hx hb dX5_classHas_218 (by decide) ?_
          refine lv_iload_n hx hb dX5_classHas_337 rfl (lv_at hl 0 rfl) ?_
          refine lv_iload_n hx hb dX5_classHas_338 rfl (lv_at hl 1 rfl) ?_
          refine lv_iload_n hx hb dX5_classHas_339 rfl (lv_at hl 2 rfl) ?_
          refine lv_icmp_ne (tgt := 347) hx hb dX5_classHas_340 (by decide) (fun c_111 => ?_) (fun c_111 => ?_)
          · replace hu := hu.trans (if_neg c_111)
            refine lv_iconst (v := 0) hx hb dX5_classHas_347 (by decide) ?_
            refine lv_icmp_ne (tgt := 355) hx hb dX5_classHas_348 (by decide) (fun _ => ?_) (fun h => absurd h (by decide))
            refine lv_iconst (v := 0) hx hb dX5_classHas_355 (by decide) ?_
            subst hu
            exact k_zret hx hb hr (by decide) hlocks hP hD hS rfl rfl dX5_classHas_356
          · replace hu := hu.trans (if_pos c_111)
            refine lv_iconst (v := 1) hx hb dX5_classHas_343 (by decide) ?_
            refine lv_goto (tgt := 348) hx hb dX5_classHas_344 (by decide) ?_
            refine lv_icmp_ne (tgt := 355) hx hb dX5_classHas_348 (by decide) (fun h => absurd (by decide) h) (fun _ => ?_)
            refine lv_iconst (v := 1) hx hb dX5_classHas_351 (by decide) ?_
            refine lv_goto (tgt := 356) hx hb dX5_classHas_352 (by decide) ?_
            subst hu
            exact k_zret hx hb hr (by decide) hlocks hP hD hS rfl rfl dX5_classHas_356
    replace hu := hu.trans (if_neg c_104)
    by_cases c_112 : (a0 + 32) = 117
    · replace hu := hu.trans (if_pos c_112)
      refine lv_tableIn (off := 137) (tgt := 160) hx hb dX5_classHas_23 (by rw [c_112]; decide) (by rw [c_112]; decide) (by rw [c_112]; decide) (by decide) ?_
      refine lv_iload_n hx hb dX5_classHas_160 rfl (lv_at hl 3 rfl) ?_
      refine lv_bipush (v := 65) hx hb dX5_classHas_161 (by decide) ?_
      refine lv_bipush (v := 90) hx hb dX5_classHas_163 (by decide) ?_
      obtain ⟨z_113, hz_113⟩ : ∃ z, z = f_X5_isBetween a1 65 90 := ⟨_, rfl⟩
      replace hu := hu.trans (kb_of hz_113)
      refine k_callS (As := [.int a1, .int 65, .int 90]) (rest := []) (wc := []) (wr := []) (w1 := []) (wn := []) ⟨hx, hb, hml, hown, hts⟩ (c_X5_isBetween l DD aC tt    a1 65 90  z_113 hz_113) (cwS 3 hts (gdS w_685 w_686 w_74 w_687) rfl rfl rfl (by decide +kernel) ⟨Nat.le_of_ble_eq_true rfl, Nat.le_of_ble_eq_true rfl⟩) hP hD hS hA hE [] [] [] rfl rfl rfl (by decide) (by decide) (by decide) (by decide) rfl hl.1 rfl (Nat.le_of_ble_eq_true rfl) dX5_classHas_165 (fun H locs hP hD hS => ?_)
      refine W.eq (g2 := F0 m 168 ls [.int z_113]) rfl ?_
      have h_114 := pf_X5_isBetween hz_113
      refine lv_istore_n (lv' := [(3, .int z_113), (2, .int (a0 + 32)), (0, .int a0), (1, .int a1)]) hx hb dX5_classHas_168 rfl hl (by decide) rfl (fun ls hl => ?_)
      refine lv_goto (tgt := 337) hx hb dX5_classHas_169 (by decide) ?_
      refine lv_iload_n hx hb dX5_classHas_337 rfl (lv_at hl 0 rfl) ?_
      refine lv_iload_n hx hb dX5_classHas_338 rfl (lv_at hl 1 rfl) ?_
      refine lv_iload_n hx hb dX5_classHas_339 rfl (lv_at hl 2 rfl) ?_
      refine lv_icmp_ne (tgt := 347) hx hb dX5_classHas_340 (by decide) (fun c_115 => ?_) (fun c_115 => ?_)
      · replace hu := hu.trans (if_neg c_115)
        refine lv_iconst (v := 0) hx hb dX5_classHas_347 (by decide) ?_
        refine lv_icmp_ne (tgt := 355) hx hb dX5_classHas_348 (by decide) (fun c_116 => ?_) (fun c_116 => ?_)
        · replace hu := hu.trans (if_neg c_116)
          refine lv_iconst (v := 0) hx hb dX5_classHas_355 (by decide) ?_
          subst hu
          exact k_zret hx hb hr (by decide) hlocks hP hD hS rfl rfl dX5_classHas_356
        · replace hu := hu.trans (if_pos c_116)
          refine lv_iconst (v := 1) hx hb dX5_classHas_351 (by decide) ?_
          refine lv_goto (tgt := 356) hx hb dX5_classHas_352 (by decide) ?_
          subst hu
          exact k_zret hx hb hr (by decide) hlocks hP hD hS rfl rfl dX5_classHas_356
      · replace hu := hu.trans (if_pos c_115)
        refine lv_iconst (v := 1) hx hb dX5_classHas_343 (by decide) ?_
        refine lv_goto (tgt := 348) hx hb dX5_classHas_344 (by decide) ?_
        refine lv_icmp_ne (tgt := 355) hx hb dX5_classHas_348 (by decide) (fun c_117 => ?_) (fun c_117 => ?_)
        · replace hu := hu.trans (if_neg c_117)
          refine lv_iconst (v := 0) hx hb dX5_classHas_355 (by decide) ?_
          subst hu
          exact k_zret hx hb hr (by decide) hlocks hP hD hS rfl rfl dX5_classHas_356
        · replace hu := hu.trans (if_pos c_117)
          refine lv_iconst (v := 1) hx hb dX5_classHas_351 (by decide) ?_
          refine lv_goto (tgt := 356) hx hb dX5_classHas_352 (by decide) ?_
          subst hu
          exact k_zret hx hb hr (by decide) hlocks hP hD hS rfl rfl dX5_classHas_356
    replace hu := hu.trans (if_neg c_112)
    by_cases c_118 : (a0 + 32) = 119
    · replace hu := hu.trans (if_pos c_118)
      refine lv_tableIn (off := 149) (tgt := 172) hx hb dX5_classHas_23 (by rw [c_118]; decide) (by rw [c_118]; decide) (by rw [c_118]; decide) (by decide) ?_
      refine lv_iload_n hx hb dX5_classHas_172 rfl (lv_at hl 3 rfl) ?_
      obtain ⟨z_119, hz_119⟩ : ∃ z, z = f_X5_isLetter a1 := ⟨_, rfl⟩
      replace hu := hu.trans (kb_of hz_119)
      refine k_callS (As := [.int a1]) (rest := []) (wc := []) (wr := []) (w1 := []) (wn := []) ⟨hx, hb, hml, hown, hts⟩ (c_X5_isLetter l DD aC tt    a1  z_119 hz_119) (cwS 1 hts (gdS w_688 w_689 w_74 w_690) rfl rfl rfl (by decide +kernel) ⟨Nat.le_of_ble_eq_true rfl, Nat.le_of_ble_eq_true rfl⟩) hP hD hS hA hE [] [] [] rfl rfl rfl (by decide) (by decide) (by decide) (by decide) rfl hl.1 rfl (Nat.le_of_ble_eq_true rfl) dX5_classHas_173 (fun H locs hP hD hS => ?_)
      refine W.eq (g2 := F0 m 176 ls [.int z_119]) rfl ?_
      have h_120 := pf_X5_isLetter hz_119
      refine lv_if_ne (tgt := 186) hx hb dX5_classHas_176 (by decide) (fun c_121 => ?_) (fun c_121 => ?_)
      · replace hu := hu.trans (if_neg c_121)
        refine lv_iconst (v := 1) hx hb dX5_classHas_186 (by decide) ?_
        refine lv_goto (tgt := 191) hx hb dX5_classHas_187 (by decide) ?_
        refine lv_istore_n (lv' := [(3, .int 1), (2, .int (a0 + 32)), (0, .int a0), (1, .int a1)]) hx hb dX5_classHas_191 rfl hl (by decide) rfl (fun ls hl => ?_)
        refine lv_goto (tgt := 337) hx hb dX5_classHas_192 (by decide) ?_
        refine lv_iload_n hx hb dX5_classHas_337 rfl (lv_at hl 0 rfl) ?_
        refine lv_iload_n hx hb dX5_classHas_338 rfl (lv_at hl 1 rfl) ?_
        refine lv_iload_n hx hb dX5_classHas_339 rfl (lv_at hl 2 rfl) ?_
        refine lv_icmp_ne (tgt := 347) hx hb dX5_classHas_340 (by decide) (fun c_122 => ?_) (fun c_122 => ?_)
        · replace hu := hu.trans (if_neg c_122)
          refine lv_iconst (v := 0) hx hb dX5_classHas_347 (by decide) ?_
          refine lv_icmp_ne (tgt := 355) hx hb dX5_classHas_348 (by decide) (fun _ => ?_) (fun h => absurd h (by decide))
          refine lv_iconst (v := 0) hx hb dX5_classHas_355 (by decide) ?_
          subst hu
          exact k_zret hx hb hr (by decide) hlocks hP hD hS rfl rfl dX5_classHas_356
        · replace hu := hu.trans (if_pos c_122)
          refine lv_iconst (v := 1) hx hb dX5_classHas_343 (by decide) ?_
          refine lv_goto (tgt := 348) hx hb dX5_classHas_344 (by decide) ?_
          refine lv_icmp_ne (tgt := 355) hx hb dX5_classHas_348 (by decide) (fun h => absurd (by decide) h) (fun _ => ?_)
          refine lv_iconst (v := 1) hx hb dX5_classHas_351 (by decide) ?_
          refine lv_goto (tgt := 356) hx hb dX5_classHas_352 (by decide) ?_
          subst hu
          exact k_zret hx hb hr (by decide) hlocks hP hD hS rfl rfl dX5_classHas_356
      · replace hu := hu.trans (if_pos c_121)
        refine lv_iload_n hx hb dX5_classHas_179 rfl (lv_at hl 3 rfl) ?_
        obtain ⟨z_123, hz_123⟩ : ∃ z, z = f_X5_isDigit a1 := ⟨_, rfl⟩
        replace hu := hu.trans (kb_of hz_123)
        refine k_callS (As := [.int a1]) (rest := []) (wc := []) (wr := []) (w1 := []) (wn := []) ⟨hx, hb, hml, hown, hts⟩ (c_X5_isDigit l DD aC tt    a1  z_123 hz_123) (cwS 1 hts (gdS w_691 w_692 w_74 w_693) rfl rfl rfl (by decide +kernel) ⟨Nat.le_of_ble_eq_true rfl, Nat.le_of_ble_eq_true rfl⟩) hP hD hS hA hE [] [] [] rfl rfl rfl (by decide) (by decide) (by decide) (by decide) rfl hl.1 rfl (Nat.le_of_ble_eq_true rfl) dX5_classHas_180 (fun H locs hP hD hS => ?_)
        refine W.eq (g2 := F0 m 183 ls [.int z_123]) rfl ?_
        have h_124 := pf_X5_isDigit hz_123
        refine lv_if_eq (tgt := 190) hx hb dX5_classHas_183 (by decide) (fun c_125 => ?_) (fun c_125 => ?_)
        · replace hu := hu.trans (if_pos c_125)
          refine lv_iconst (v := 0) hx hb dX5_classHas_190 (by decide) ?_
          refine lv_istore_n (lv' := [(3, .int 0), (2, .int (a0 + 32)), (0, .int a0), (1, .int a1)]) hx hb dX5_classHas_191 rfl hl (by decide) rfl (fun ls hl => ?_)
          refine lv_goto (tgt := 337) hx hb dX5_classHas_192 (by decide) ?_
          refine lv_iload_n hx hb dX5_classHas_337 rfl (lv_at hl 0 rfl) ?_
          refine lv_iload_n hx hb dX5_classHas_338 rfl (lv_at hl 1 rfl) ?_
          refine lv_iload_n hx hb dX5_classHas_339 rfl (lv_at hl 2 rfl) ?_
          refine lv_icmp_ne (tgt := 347) hx hb dX5_classHas_340 (by decide) (fun c_126 => ?_) (fun c_126 => ?_)
          · replace hu := hu.trans (if_neg c_126)
            refine lv_iconst (v := 0) hx hb dX5_classHas_347 (by decide) ?_
            refine lv_icmp_ne (tgt := 355) hx hb dX5_classHas_348 (by decide) (fun h => absurd (by decide) h) (fun _ => ?_)
            refine lv_iconst (v := 1) hx hb dX5_classHas_351 (by decide) ?_
            refine lv_goto (tgt := 356) hx hb dX5_classHas_352 (by decide) ?_
            subst hu
            exact k_zret hx hb hr (by decide) hlocks hP hD hS rfl rfl dX5_classHas_356
          · replace hu := hu.trans (if_pos c_126)
            refine lv_iconst (v := 1) hx hb dX5_classHas_343 (by decide) ?_
            refine lv_goto (tgt := 348) hx hb dX5_classHas_344 (by decide) ?_
            refine lv_icmp_ne (tgt := 355) hx hb dX5_classHas_348 (by decide) (fun _ => ?_) (fun h => absurd h (by decide))
            refine lv_iconst (v := 0) hx hb dX5_classHas_355 (by decide) ?_
            subst hu
            exact k_zret hx hb hr (by decide) hlocks hP hD hS rfl rfl dX5_classHas_356
        · replace hu := hu.trans (if_neg c_125)
          refine lv_iconst (v := 1) hx hb dX5_classHas_186 (by decide) ?_
          refine lv_goto (tgt := 191) hx hb dX5_classHas_187 (by decide) ?_
          refine lv_istore_n (lv' := [(3, .int 1), (2, .int (a0 + 32)), (0, .int a0), (1, .int a1)]) hx hb dX5_classHas_191 rfl hl (by decide) rfl (fun ls hl => ?_)
          refine lv_goto (tgt := 337) hx hb dX5_classHas_192 (by decide) ?_
          refine lv_iload_n hx hb dX5_classHas_337 rfl (lv_at hl 0 rfl) ?_
          refine lv_iload_n hx hb dX5_classHas_338 rfl (lv_at hl 1 rfl) ?_
          refine lv_iload_n hx hb dX5_classHas_339 rfl (lv_at hl 2 rfl) ?_
          refine lv_icmp_ne (tgt := 347) hx hb dX5_classHas_340 (by decide) (fun c_127 => ?_) (fun c_127 => ?_)
          · replace hu := hu.trans (if_neg c_127)
            refine lv_iconst (v := 0) hx hb dX5_classHas_347 (by decide) ?_
            refine lv_icmp_ne (tgt := 355) hx hb dX5_classHas_348 (by decide) (fun _ => ?_) (fun h => absurd h (by decide))
            refine lv_iconst (v := 0) hx hb dX5_classHas_355 (by decide) ?_
            subst hu
            exact k_zret hx hb hr (by decide) hlocks hP hD hS rfl rfl dX5_classHas_356
          · replace hu := hu.trans (if_pos c_127)
            refine lv_iconst (v := 1) hx hb dX5_classHas_343 (by decide) ?_
            refine lv_goto (tgt := 348) hx hb dX5_classHas_344 (by decide) ?_
            refine lv_icmp_ne (tgt := 355) hx hb dX5_classHas_348 (by decide) (fun h => absurd (by decide) h) (fun _ => ?_)
            refine lv_iconst (v := 1) hx hb dX5_classHas_351 (by decide) ?_
            refine lv_goto (tgt := 356) hx hb dX5_classHas_352 (by decide) ?_
            subst hu
            exact k_zret hx hb hr (by decide) hlocks hP hD hS rfl rfl dX5_classHas_356
    replace hu := hu.trans (if_neg c_118)
    by_cases c_128 : (a0 + 32) = 120
    · replace hu := hu.trans (if_pos c_128)
      refine lv_tableIn (off := 198) (tgt := 221) hx hb dX5_classHas_23 (by rw [c_128]; decide) (by rw [c_128]; decide) (by rw [c_128]; decide) (by decide) ?_
      refine lv_iload_n hx hb dX5_classHas_221 rfl (lv_at hl 3 rfl) ?_
      obtain ⟨z_129, hz_129⟩ : ∃ z, z = f_X5_isDigit a1 := ⟨_, rfl⟩
      replace hu := hu.trans (kb_of hz_129)
      refine k_callS (As := [.int a1]) (rest := []) (wc := []) (wr := []) (w1 := []) (wn := []) ⟨hx, hb, hml, hown, hts⟩ (c_X5_isDigit l DD aC tt    a1  z_129 hz_129) (cwS 1 hts (gdS w_691 w_692 w_74 w_693) rfl rfl rfl (by decide +kernel) ⟨Nat.le_of_ble_eq_true rfl, Nat.le_of_ble_eq_true rfl⟩) hP hD hS hA hE [] [] [] rfl rfl rfl (by decide) (by decide) (by decide) (by decide) rfl hl.1 rfl (Nat.le_of_ble_eq_true rfl) dX5_classHas_222 (fun H locs hP hD hS => ?_)
      refine W.eq (g2 := F0 m 225 ls [.int z_129]) rfl ?_
      have h_130 := pf_X5_isDigit hz_129
      refine lv_if_ne (tgt := 250) hx hb dX5_classHas_225 (by decide) (fun c_131 => ?_) (fun c_131 => ?_)
      · replace hu := hu.trans (if_neg c_131)
        refine lv_iconst (v := 1) hx hb dX5_classHas_250 (by decide) ?_
        refine lv_goto (tgt := 255) hx hb dX5_classHas_251 (by decide) ?_
        refine lv_istore_n (lv' := [(3, .int 1), (2, .int (a0 + 32)), (0, .int a0), (1, .int a1)]) hx hb dX5_classHas_255 rfl hl (by decide) rfl (fun ls hl => ?_)
        refine lv_goto (tgt := 337) hx hb dX5_classHas_256 (by decide) ?_
        refine lv_iload_n hx hb dX5_classHas_337 rfl (lv_at hl 0 rfl) ?_
        refine lv_iload_n hx hb dX5_classHas_338 rfl (lv_at hl 1 rfl) ?_
        refine lv_iload_n hx hb dX5_classHas_339 rfl (lv_at hl 2 rfl) ?_
        refine lv_icmp_ne (tgt := 347) hx hb dX5_classHas_340 (by decide) (fun c_132 => ?_) (fun c_132 => ?_)
        · replace hu := hu.trans (if_neg c_132)
          refine lv_iconst (v := 0) hx hb dX5_classHas_347 (by decide) ?_
          refine lv_icmp_ne (tgt := 355) hx hb dX5_classHas_348 (by decide) (fun _ => ?_) (fun h => absurd h (by decide))
          refine lv_iconst (v := 0) hx hb dX5_classHas_355 (by decide) ?_
          subst hu
          exact k_zret hx hb hr (by decide) hlocks hP hD hS rfl rfl dX5_classHas_356
        · replace hu := hu.trans (if_pos c_132)
          refine lv_iconst (v := 1) hx hb dX5_classHas_343 (by decide) ?_
          refine lv_goto (tgt := 348) hx hb dX5_classHas_344 (by decide) ?_
          refine lv_icmp_ne (tgt := 355) hx hb dX5_classHas_348 (by decide) (fun h => absurd (by decide) h) (fun _ => ?_)
          refine lv_iconst (v := 1) hx hb dX5_classHas_351 (by decide) ?_
          refine lv_goto (tgt := 356) hx hb dX5_classHas_352 (by decide) ?_
          subst hu
          exact k_zret hx hb hr (by decide) hlocks hP hD hS rfl rfl dX5_classHas_356
      · replace hu := hu.trans (if_pos c_131)
        refine lv_iload_n hx hb dX5_classHas_228 rfl (lv_at hl 3 rfl) ?_
        refine lv_bipush (v := 97) hx hb dX5_classHas_229 (by decide) ?_
        refine lv_bipush (v := 102) hx hb dX5_classHas_231 (by decide) ?_
        obtain ⟨z_133, hz_133⟩ : ∃ z, z = f_X5_isBetween a1 97 102 := ⟨_, rfl⟩
        replace hu := hu.trans (kb_of hz_133)
        refine k_callS (As := [.int a1, .int 97, .int 102]) (rest := []) (wc := []) (wr := []) (w1 := []) (wn := []) ⟨hx, hb, hml, hown, hts⟩ (c_X5_isBetween l DD aC tt    a1 97 102  z_133 hz_133) (cwS 3 hts (gdS w_685 w_686 w_74 w_687) rfl rfl rfl (by decide +kernel) ⟨Nat.le_of_ble_eq_true rfl, Nat.le_of_ble_eq_true rfl⟩) hP hD hS hA hE [] [] [] rfl rfl rfl (by decide) (by decide) (by decide) (by decide) rfl hl.1 rfl (Nat.le_of_ble_eq_true rfl) dX5_classHas_233 (fun H locs hP hD hS => ?_)
        refine W.eq (g2 := F0 m 236 ls [.int z_133]) rfl ?_
        have h_134 := pf_X5_isBetween hz_133
        refine lv_if_ne (tgt := 250) hx hb dX5_classHas_236 (by decide) (fun c_135 => ?_) (fun c_135 => ?_)
        · replace hu := hu.trans (if_neg c_135)
          refine lv_iconst (v := 1) hx hb dX5_classHas_250 (by decide) ?_
          refine lv_goto (tgt := 255) hx hb dX5_classHas_251 (by decide) ?_
          refine lv_istore_n (lv' := [(3, .int 1), (2, .int (a0 + 32)), (0, .int a0), (1, .int a1)]) hx hb dX5_classHas_255 rfl hl (by decide) rfl (fun ls hl => ?_)
          refine lv_goto (tgt := 337) hx hb dX5_classHas_256 (by decide) ?_
          refine lv_iload_n hx hb dX5_classHas_337 rfl (lv_at hl 0 rfl) ?_
          refine lv_iload_n hx hb dX5_classHas_338 rfl (lv_at hl 1 rfl) ?_
          refine lv_iload_n hx hb dX5_classHas_339 rfl (lv_at hl 2 rfl) ?_
          refine lv_icmp_ne (tgt := 347) hx hb dX5_classHas_340 (by decide) (fun c_136 => ?_) (fun c_136 => ?_)
          · replace hu := hu.trans (if_neg c_136)
            refine lv_iconst (v := 0) hx hb dX5_classHas_347 (by decide) ?_
            refine lv_icmp_ne (tgt := 355) hx hb dX5_classHas_348 (by decide) (fun _ => ?_) (fun h => absurd h (by decide))
            refine lv_iconst (v := 0) hx hb dX5_classHas_355 (by decide) ?_
            subst hu
            exact k_zret hx hb hr (by decide) hlocks hP hD hS rfl rfl dX5_classHas_356
          · replace hu := hu.trans (if_pos c_136)
            refine lv_iconst (v := 1) hx hb dX5_classHas_343 (by decide) ?_
            refine lv_goto (tgt := 348) hx hb dX5_classHas_344 (by decide) ?_
            refine lv_icmp_ne (tgt := 355) hx hb dX5_classHas_348 (by decide) (fun h => absurd (by decide) h) (fun _ => ?_)
            refine lv_iconst (v := 1) hx hb dX5_classHas_351 (by decide) ?_
            refine lv_goto (tgt := 356) hx hb dX5_classHas_352 (by decide) ?_
            subst hu
            exact k_zret hx hb hr (by decide) hlocks hP hD hS rfl rfl dX5_classHas_356
        · replace hu := hu.trans (if_pos c_135)
          refine lv_iload_n hx hb dX5_classHas_239 rfl (lv_at hl 3 rfl) ?_
          refine lv_bipush (v := 65) hx hb dX5_classHas_240 (by decide) ?_
          refine lv_bipush (v := 70) hx hb dX5_classHas_242 (by decide) ?_
          obtain ⟨z_137, hz_137⟩ : ∃ z, z = f_X5_isBetween a1 65 70 := ⟨_, rfl⟩
          replace hu := hu.trans (kb_of hz_137)
          refine k_callS (As := [.int a1, .int 65, .int 70]) (rest := []) (wc := []) (wr := []) (w1 := []) (wn := []) ⟨hx, hb, hml, hown, hts⟩ (c_X5_isBetween l DD aC tt    a1 65 70  z_137 hz_137) (cwS 3 hts (gdS w_685 w_686 w_74 w_687) rfl rfl rfl (by decide +kernel) ⟨Nat.le_of_ble_eq_true rfl, Nat.le_of_ble_eq_true rfl⟩) hP hD hS hA hE [] [] [] rfl rfl rfl (by decide) (by decide) (by decide) (by decide) rfl hl.1 rfl (Nat.le_of_ble_eq_true rfl) dX5_classHas_244 (fun H locs hP hD hS => ?_)
          refine W.eq (g2 := F0 m 247 ls [.int z_137]) rfl ?_
          have h_138 := pf_X5_isBetween hz_137
          refine lv_if_eq (tgt := 254) hx hb dX5_classHas_247 (by decide) (fun c_139 => ?_) (fun c_139 => ?_)
          · replace hu := hu.trans (if_pos c_139)
            refine lv_iconst (v := 0) hx hb dX5_classHas_254 (by decide) ?_
            refine lv_istore_n (lv' := [(3, .int 0), (2, .int (a0 + 32)), (0, .int a0), (1, .int a1)]) hx hb dX5_classHas_255 rfl hl (by decide) rfl (fun ls hl => ?_)
            refine lv_goto (tgt := 337) hx hb dX5_classHas_256 (by decide) ?_
            refine lv_iload_n hx hb dX5_classHas_337 rfl (lv_at hl 0 rfl) ?_
            refine lv_iload_n hx hb dX5_classHas_338 rfl (lv_at hl 1 rfl) ?_
            refine lv_iload_n hx hb dX5_classHas_339 rfl (lv_at hl 2 rfl) ?_
            refine lv_icmp_ne (tgt := 347) hx hb dX5_classHas_340 (by decide) (fun c_140 => ?_) (fun c_140 => ?_)
            · replace hu := hu.trans (if_neg c_140)
              refine lv_iconst (v := 0) hx hb dX5_classHas_347 (by decide) ?_
              refine lv_icmp_ne (tgt := 355) hx hb dX5_classHas_348 (by decide) (fun h => absurd (by decide) h) (fun _ => ?_)
              refine lv_iconst (v := 1) hx hb dX5_classHas_351 (by decide) ?_
              refine lv_goto (tgt := 356) hx hb dX5_classHas_352 (by decide) ?_
              subst hu
              exact k_zret hx hb hr (by decide) hlocks hP hD hS rfl rfl dX5_classHas_356
            · replace hu := hu.trans (if_pos c_140)
              refine lv_iconst (v := 1) hx hb dX5_classHas_343 (by decide) ?_
              refine lv_goto (tgt := 348) hx hb dX5_classHas_344 (by decide) ?_
              refine lv_icmp_ne (tgt := 355) hx hb dX5_classHas_348 (by decide) (fun _ => ?_) (fun h => absurd h (by decide))
              refine lv_iconst (v := 0) hx hb dX5_classHas_355 (by decide) ?_
              subst hu
              exact k_zret hx hb hr (by decide) hlocks hP hD hS rfl rfl dX5_classHas_356
          · replace hu := hu.trans (if_neg c_139)
            refine lv_iconst (v := 1) hx hb dX5_classHas_250 (by decide) ?_
            refine lv_goto (tgt := 255) hx hb dX5_classHas_251 (by decide) ?_
            refine lv_istore_n (lv' := [(3, .int 1), (2, .int (a0 + 32)), (0, .int a0), (1, .int a1)]) hx hb dX5_classHas_255 rfl hl (by decide) rfl (fun ls hl => ?_)
            refine lv_goto (tgt := 337) hx hb dX5_classHas_256 (by decide) ?_
            refine lv_iload_n hx hb dX5_classHas_337 rfl (lv_at hl 0 rfl) ?_
            refine lv_iload_n hx hb dX5_classHas_338 rfl (lv_at hl 1 rfl) ?_
            refine lv_iload_n hx hb dX5_classHas_339 rfl (lv_at hl 2 rfl) ?_
            refine lv_icmp_ne (tgt := 347) hx hb dX5_classHas_340 (by decide) (fun c_141 => ?_) (fun c_141 => ?_)
            · replace hu := hu.trans (if_neg c_141)
              refine lv_iconst (v := 0) hx hb dX5_classHas_347 (by decide) ?_
              refine lv_icmp_ne (tgt := 355) hx hb dX5_classHas_348 (by decide) (fun _ => ?_) (fun h => absurd h (by decide))
              refine lv_iconst (v := 0) hx hb dX5_classHas_355 (by decide) ?_
              subst hu
              exact k_zret hx hb hr (by decide) hlocks hP hD hS rfl rfl dX5_classHas_356
            · replace hu := hu.trans (if_pos c_141)
              refine lv_iconst (v := 1) hx hb dX5_classHas_343 (by decide) ?_
              refine lv_goto (tgt := 348) hx hb dX5_classHas_344 (by decide) ?_
              refine lv_icmp_ne (tgt := 355) hx hb dX5_classHas_348 (by decide) (fun h => absurd (by decide) h) (fun _ => ?_)
              refine lv_iconst (v := 1) hx hb dX5_classHas_351 (by decide) ?_
              refine lv_goto (tgt := 356) hx hb dX5_classHas_352 (by decide) ?_
              subst hu
              exact k_zret hx hb hr (by decide) hlocks hP hD hS rfl rfl dX5_classHas_356
    replace hu := hu.trans (if_neg c_128)
    refine kx_tab (off := 303) (tgt := 326) hx hb dX5_classHas_23 (fun _ => rfl) (fun h1 h2 => by have e_c_60 := lv_neT c_60 (show (97 : Int32).toInt = 97 by decide); have e_c_66 := lv_neT c_66 (show (99 : Int32).toInt = 99 by decide); have e_c_72 := lv_neT c_72 (show (100 : Int32).toInt = 100 by decide); have e_c_78 := lv_neT c_78 (show (103 : Int32).toInt = 103 by decide); have e_c_84 := lv_neT c_84 (show (108 : Int32).toInt = 108 by decide); have e_c_90 := lv_neT c_90 (show (112 : Int32).toInt = 112 by decide); have e_c_104 := lv_neT c_104 (show (115 : Int32).toInt = 115 by decide); have e_c_112 := lv_neT c_112 (show (117 : Int32).toInt = 117 by decide); have e_c_118 := lv_neT c_118 (show (119 : Int32).toInt = 119 by decide); have e_c_128 := lv_neT c_128 (show (120 : Int32).toInt = 120 by decide); rcases (show (a0 + 32).toInt = 98 ∨ (a0 + 32).toInt = 101 ∨ (a0 + 32).toInt = 102 ∨ (a0 + 32).toInt = 104 ∨ (a0 + 32).toInt = 105 ∨ (a0 + 32).toInt = 106 ∨ (a0 + 32).toInt = 107 ∨ (a0 + 32).toInt = 109 ∨ (a0 + 32).toInt = 110 ∨ (a0 + 32).toInt = 111 ∨ (a0 + 32).toInt = 113 ∨ (a0 + 32).toInt = 114 ∨ (a0 + 32).toInt = 116 ∨ (a0 + 32).toInt = 118 by omega) with h3 | h3 | h3 | h3 | h3 | h3 | h3 | h3 | h3 | h3 | h3 | h3 | h3 | h3 <;> rw [h3] <;> decide) (by decide) ?_
    refine lv_iload_n hx hb dX5_classHas_326 rfl (lv_at hl 2 rfl) ?_
    refine lv_iload_n hx hb dX5_classHas_327 rfl (lv_at hl 3 rfl) ?_
    refine lv_icmp_ne (tgt := 335) hx hb dX5_classHas_328 (by decide) (fun c_142 => ?_) (fun c_142 => ?_)
    · replace hu := hu.trans (if_neg c_142)
      refine lv_iconst (v := 0) hx hb dX5_classHas_335 (by decide) ?_
      subst hu
      exact k_zret hx hb hr (by decide) hlocks hP hD hS rfl rfl dX5_classHas_336
    · replace hu := hu.trans (if_pos c_142)
      refine lv_iconst (v := 1) hx hb dX5_classHas_331 (by decide) ?_
      refine lv_goto (tgt := 336) hx hb dX5_classHas_332 (by decide) ?_
      subst hu
      exact k_zret hx hb hr (by decide) hlocks hP hD hS rfl rfl dX5_classHas_336
def f_X5_closing_L0 (k : Nat) (m_rows : Nat → Int32) (m_sizes : Nat → Int32) (x1 : Int32) (x2 : Int32) (x3 : Int32) : Int32 := match k with
  | 0 => 0
  | k + 1 => (kb (f_X5_pattern m_rows m_sizes x2) (fun z_4 => (if z_4 < 0 then (kb (f_X5_pattern m_rows m_sizes x2) (fun z_7 => (if (0 : Int32) ≤ z_7 then x2 else (-1)))) else (if x2 = x3 then (kb (f_X5_pattern m_rows m_sizes x2) (fun z_11 => (if z_11 = 37 then (f_X5_closing_L0 k m_rows m_sizes x1 (x2 + 2) x3) else (f_X5_closing_L0 k m_rows m_sizes x1 (x2 + 1) x3)))) else (kb (f_X5_pattern m_rows m_sizes x2) (fun z_14 => (if z_14 = 93 then (kb (f_X5_pattern m_rows m_sizes x2) (fun z_17 => (if (0 : Int32) ≤ z_17 then x2 else (-1)))) else (kb (f_X5_pattern m_rows m_sizes x2) (fun z_20 => (if z_20 = 37 then (f_X5_closing_L0 k m_rows m_sizes x1 (x2 + 2) x3) else (f_X5_closing_L0 k m_rows m_sizes x1 (x2 + 1) x3)))))))))))
theorem f_X5_closing_L0_s {k : Nat} {m_rows : Nat → Int32} {m_sizes : Nat → Int32} {x1 : Int32} {x2 : Int32} {x3 : Int32} : f_X5_closing_L0 (k + 1) m_rows m_sizes x1 x2 x3 = (kb (f_X5_pattern m_rows m_sizes x2) (fun z_4 => (if z_4 < 0 then (kb (f_X5_pattern m_rows m_sizes x2) (fun z_7 => (if (0 : Int32) ≤ z_7 then x2 else (-1)))) else (if x2 = x3 then (kb (f_X5_pattern m_rows m_sizes x2) (fun z_11 => (if z_11 = 37 then (f_X5_closing_L0 k m_rows m_sizes x1 (x2 + 2) x3) else (f_X5_closing_L0 k m_rows m_sizes x1 (x2 + 1) x3)))) else (kb (f_X5_pattern m_rows m_sizes x2) (fun z_14 => (if z_14 = 93 then (kb (f_X5_pattern m_rows m_sizes x2) (fun z_17 => (if (0 : Int32) ≤ z_17 then x2 else (-1)))) else (kb (f_X5_pattern m_rows m_sizes x2) (fun z_20 => (if z_20 = 37 then (f_X5_closing_L0 k m_rows m_sizes x1 (x2 + 2) x3) else (f_X5_closing_L0 k m_rows m_sizes x1 (x2 + 1) x3))))))))))) := rfl
def f_X5_closing (m_rows : Nat → Int32) (m_sizes : Nat → Int32) (a1 : Int32) : Int32 := (kb (f_X5_pattern m_rows m_sizes (a1 + 1)) (fun z_1 => (if z_1 = 94 then (f_X5_closing_L0 (((m_sizes 1).toInt - (a1 + 2).toInt).toNat + 1) m_rows m_sizes a1 (a1 + 2) (a1 + 2)) else (f_X5_closing_L0 (((m_sizes 1).toInt - (a1 + 1).toInt).toNat + 1) m_rows m_sizes a1 (a1 + 1) (a1 + 1)))))
abbrev rm_X5_closing : Room := { frames := 3, cells := 0, slots := 0, locals := 63 }
set_option maxHeartbeats 4000000 in
set_option maxRecDepth 100000 in
theorem t_X5_closing_L0 {l : Launch} {DD : va_G} {aC : Nat → ClassId} {tt : Nat → Nat} {p : Program} {e : Env} {s : State} {m : MethodId} {below : List Frame} {meth : Method} {c : Code} {A : Nat → Prop} {AV : Array Value} (X : kX p s m AV meth c cX5_closing (some .int) 4 wsX5_closing RX5 DD aC tt A) (q0 q1 q2 q3 q4 q5 q6 q7 q8 q9 q10 q11 : Nat) (m_madeSize : Int32) (m_depth : Int32) (m_end : Int32) (m_captureCount : Int32) (m_looks : Int32) (m_trouble : Int32) (m_found : Int32) (m_first : Int32) (m_from : Int32) (m_ended : Int32) (m_rows : Nat → Int32) (m_sizes : Nat → Int32) (m_made : Nat → Int32) (m_begins : Nat → Int32) (m_places : Nat → Int32) (m_kinds : Nat → Int32) (m_nexts : Nat → Int32) (m_choices : Nat → Int32) (m_leasts : Nat → Int32) (m_captureBegins : Nat → Int32) (m_captureLengths : Nat → Int32) (a1 : Int32) (hz3 : (m_sizes 1).toInt ≤ 512) (hk : 0 ≤ a1.toInt) (hk2 : a1.toInt ≤ 600) :
    ∀ (k : Nat) (x1 : Int32) (x2 : Int32) (x3 : Int32), (0 ≤ x2.toInt) → (x2.toInt ≤ 700) → ((m_sizes 1).toInt - x2.toInt).toNat < k → ∀ (u : Int32), u = f_X5_closing_L0 k m_rows m_sizes x1 x2 x3 → ∀ (H : Heap) (locs : List Loc) (ls : Array Slot), va_P DD vwCl [(q0, .inr (5, [.ref q1, .ref q2, .ref q3, .int m_madeSize, .ref q4, .ref q5, .ref q6, .ref q7, .ref q8, .ref q9, .int m_depth, .int m_end, .ref q10, .ref q11, .int m_captureCount, .int m_looks, .int m_trouble, .int m_found, .int m_first, .int m_from, .int m_ended])), (q1, .inl (aC 1, 5632, .inl m_rows)), (q2, .inl (aC 0, 3, .inl m_sizes)), (q3, .inl (aC 1, 8192, .inl m_made)), (q4, .inl (aC 0, 520, .inl m_begins)), (q5, .inl (aC 0, 520, .inl m_places)), (q6, .inl (aC 0, 520, .inl m_kinds)), (q7, .inl (aC 0, 520, .inl m_nexts)), (q8, .inl (aC 0, 520, .inl m_choices)), (q9, .inl (aC 0, 520, .inl m_leasts)), (q10, .inl (aC 0, 33, .inl m_captureBegins)), (q11, .inl (aC 0, 33, .inl m_captureLengths))] H → va_D A [(q0, .inr (5, [.ref q1, .ref q2, .ref q3, .int m_madeSize, .ref q4, .ref q5, .ref q6, .ref q7, .ref q8, .ref q9, .int m_depth, .int m_end, .ref q10, .ref q11, .int m_captureCount, .int m_looks, .int m_trouble, .int m_found, .int m_first, .int m_from, .int m_ended])), (q1, .inl (aC 1, 5632, .inl m_rows)), (q2, .inl (aC 0, 3, .inl m_sizes)), (q3, .inl (aC 1, 8192, .inl m_made)), (q4, .inl (aC 0, 520, .inl m_begins)), (q5, .inl (aC 0, 520, .inl m_places)), (q6, .inl (aC 0, 520, .inl m_kinds)), (q7, .inl (aC 0, 520, .inl m_nexts)), (q8, .inl (aC 0, 520, .inl m_choices)), (q9, .inl (aC 0, 520, .inl m_leasts)), (q10, .inl (aC 0, 33, .inl m_captureBegins)), (q11, .inl (aC 0, 33, .inl m_captureLengths))] → va_S A s.heap H locs → lv_has ls 4 [(0, .ref q0), (1, .int x1), (2, .int x2), (3, .int x3)] → W p l e rm_X5_closing s m AV below meth c H locs 0 0 (MQ below (kQ DD vwCl (some (.int u)) [(q0, .inr (5, [.ref q1, .ref q2, .ref q3, .int m_madeSize, .ref q4, .ref q5, .ref q6, .ref q7, .ref q8, .ref q9, .int m_depth, .int m_end, .ref q10, .ref q11, .int m_captureCount, .int m_looks, .int m_trouble, .int m_found, .int m_first, .int m_from, .int m_ended])), (q1, .inl (aC 1, 5632, .inl m_rows)), (q2, .inl (aC 0, 3, .inl m_sizes)), (q3, .inl (aC 1, 8192, .inl m_made)), (q4, .inl (aC 0, 520, .inl m_begins)), (q5, .inl (aC 0, 520, .inl m_places)), (q6, .inl (aC 0, 520, .inl m_kinds)), (q7, .inl (aC 0, 520, .inl m_nexts)), (q8, .inl (aC 0, 520, .inl m_choices)), (q9, .inl (aC 0, 520, .inl m_leasts)), (q10, .inl (aC 0, 33, .inl m_captureBegins)), (q11, .inl (aC 0, 33, .inl m_captureLengths))] A) AV s 0 0 A) (F0 m 24 ls []) := by
  obtain ⟨hx, hb, hr, hml, hts, hown, hlocks, hA, hE⟩ := id X
  intro k
  induction k with
  | zero =>
    intro x1 x2 x3 hq0 hq1 hk
    exact absurd hk (Nat.not_lt_zero _)
  | succ k ih =>
    intro x1 x2 x3 hq0 hq1 hk u hu H locs ls hP hD hS hl
    replace hu := hu.trans f_X5_closing_L0_s
    refine lv_aload_n hx hb dX5_closing_24 rfl (lv_at hl 0 rfl) ?_
    refine lv_iload_n hx hb dX5_closing_25 rfl (lv_at hl 2 rfl) ?_
    obtain ⟨z_4, hz_4⟩ : ∃ z, z = f_X5_pattern m_rows m_sizes x2 := ⟨_, rfl⟩
    replace hu := hu.trans (kb_of hz_4)
    refine k_callV (As := [.int x2]) (rest := []) (wc := [(q0, .inr (5, [.ref q1, .ref q2, .ref q3, .int m_madeSize, .ref q4, .ref q5, .ref q6, .ref q7, .ref q8, .ref q9, .int m_depth, .int m_end, .ref q10, .ref q11, .int m_captureCount, .int m_looks, .int m_trouble, .int m_found, .int m_first, .int m_from, .int m_ended])), (q1, .inl (aC 1, 5632, .inl m_rows)), (q2, .inl (aC 0, 3, .inl m_sizes)), (q3, .inl (aC 1, 8192, .inl m_made)), (q4, .inl (aC 0, 520, .inl m_begins)), (q5, .inl (aC 0, 520, .inl m_places)), (q6, .inl (aC 0, 520, .inl m_kinds)), (q7, .inl (aC 0, 520, .inl m_nexts)), (q8, .inl (aC 0, 520, .inl m_choices)), (q9, .inl (aC 0, 520, .inl m_leasts)), (q10, .inl (aC 0, 33, .inl m_captureBegins)), (q11, .inl (aC 0, 33, .inl m_captureLengths))]) (wr := []) (w1 := [(q0, .inr (5, [.ref q1, .ref q2, .ref q3, .int m_madeSize, .ref q4, .ref q5, .ref q6, .ref q7, .ref q8, .ref q9, .int m_depth, .int m_end, .ref q10, .ref q11, .int m_captureCount, .int m_looks, .int m_trouble, .int m_found, .int m_first, .int m_from, .int m_ended])), (q1, .inl (aC 1, 5632, .inl m_rows)), (q2, .inl (aC 0, 3, .inl m_sizes)), (q3, .inl (aC 1, 8192, .inl m_made)), (q4, .inl (aC 0, 520, .inl m_begins)), (q5, .inl (aC 0, 520, .inl m_places)), (q6, .inl (aC 0, 520, .inl m_kinds)), (q7, .inl (aC 0, 520, .inl m_nexts)), (q8, .inl (aC 0, 520, .inl m_choices)), (q9, .inl (aC 0, 520, .inl m_leasts)), (q10, .inl (aC 0, 33, .inl m_captureBegins)), (q11, .inl (aC 0, 33, .inl m_captureLengths))]) (wn := [(q0, .inr (5, [.ref q1, .ref q2, .ref q3, .int m_madeSize, .ref q4, .ref q5, .ref q6, .ref q7, .ref q8, .ref q9, .int m_depth, .int m_end, .ref q10, .ref q11, .int m_captureCount, .int m_looks, .int m_trouble, .int m_found, .int m_first, .int m_from, .int m_ended])), (q1, .inl (aC 1, 5632, .inl m_rows)), (q2, .inl (aC 0, 3, .inl m_sizes)), (q3, .inl (aC 1, 8192, .inl m_made)), (q4, .inl (aC 0, 520, .inl m_begins)), (q5, .inl (aC 0, 520, .inl m_places)), (q6, .inl (aC 0, 520, .inl m_kinds)), (q7, .inl (aC 0, 520, .inl m_nexts)), (q8, .inl (aC 0, 520, .inl m_choices)), (q9, .inl (aC 0, 520, .inl m_leasts)), (q10, .inl (aC 0, 33, .inl m_captureBegins)), (q11, .inl (aC 0, 33, .inl m_captureLengths))]) ⟨hx, hb, hml, hown, hts⟩ (c_X5_pattern l DD aC tt q0 q1 q2 q3 q4 q5 q6 q7 q8 q9 q10 q11  m_madeSize m_depth m_end m_captureCount m_looks m_trouble m_found m_first m_from m_ended m_rows m_sizes m_made m_begins m_places m_kinds m_nexts m_choices m_leasts m_captureBegins m_captureLengths x2 hz3 hq0 z_4 hz_4) (cwV 1 hts (gdV w_617 w_619 w_39 w_74 w_620) rfl rfl rfl (by decide +kernel) ⟨Nat.le_of_ble_eq_true rfl, Nat.le_of_ble_eq_true rfl⟩) hP hD hS hA hE [0, 1, 2, 3, 4, 5, 6, 7, 8, 9, 10, 11] [] [0, 1, 2, 3, 4, 5, 6, 7, 8, 9, 10, 11] rfl rfl rfl (by decide) (by decide) (by decide) (by decide) (ci := 5) (q0 := 0) rfl rfl rfl hl.1 rfl (Nat.le_of_ble_eq_true rfl) dX5_closing_26 (fun H locs hP hD hS => ?_)
    refine W.eq (g2 := F0 m 29 ls [.int z_4]) rfl ?_
    have h_5 := pf_X5_pattern hz_4
    refine lv_if_lt (tgt := 68) hx hb dX5_closing_29 (by decide) (fun c_6 => ?_) (fun c_6 => ?_)
    · replace hu := hu.trans (if_pos c_6)
      refine lv_aload_n hx hb dX5_closing_68 rfl (lv_at hl 0 rfl) ?_
      refine lv_iload_n hx hb dX5_closing_69 rfl (lv_at hl 2 rfl) ?_
      obtain ⟨z_7, hz_7⟩ : ∃ z, z = f_X5_pattern m_rows m_sizes x2 := ⟨_, rfl⟩
      replace hu := hu.trans (kb_of hz_7)
      refine k_callV (As := [.int x2]) (rest := []) (wc := [(q0, .inr (5, [.ref q1, .ref q2, .ref q3, .int m_madeSize, .ref q4, .ref q5, .ref q6, .ref q7, .ref q8, .ref q9, .int m_depth, .int m_end, .ref q10, .ref q11, .int m_captureCount, .int m_looks, .int m_trouble, .int m_found, .int m_first, .int m_from, .int m_ended])), (q1, .inl (aC 1, 5632, .inl m_rows)), (q2, .inl (aC 0, 3, .inl m_sizes)), (q3, .inl (aC 1, 8192, .inl m_made)), (q4, .inl (aC 0, 520, .inl m_begins)), (q5, .inl (aC 0, 520, .inl m_places)), (q6, .inl (aC 0, 520, .inl m_kinds)), (q7, .inl (aC 0, 520, .inl m_nexts)), (q8, .inl (aC 0, 520, .inl m_choices)), (q9, .inl (aC 0, 520, .inl m_leasts)), (q10, .inl (aC 0, 33, .inl m_captureBegins)), (q11, .inl (aC 0, 33, .inl m_captureLengths))]) (wr := []) (w1 := [(q0, .inr (5, [.ref q1, .ref q2, .ref q3, .int m_madeSize, .ref q4, .ref q5, .ref q6, .ref q7, .ref q8, .ref q9, .int m_depth, .int m_end, .ref q10, .ref q11, .int m_captureCount, .int m_looks, .int m_trouble, .int m_found, .int m_first, .int m_from, .int m_ended])), (q1, .inl (aC 1, 5632, .inl m_rows)), (q2, .inl (aC 0, 3, .inl m_sizes)), (q3, .inl (aC 1, 8192, .inl m_made)), (q4, .inl (aC 0, 520, .inl m_begins)), (q5, .inl (aC 0, 520, .inl m_places)), (q6, .inl (aC 0, 520, .inl m_kinds)), (q7, .inl (aC 0, 520, .inl m_nexts)), (q8, .inl (aC 0, 520, .inl m_choices)), (q9, .inl (aC 0, 520, .inl m_leasts)), (q10, .inl (aC 0, 33, .inl m_captureBegins)), (q11, .inl (aC 0, 33, .inl m_captureLengths))]) (wn := [(q0, .inr (5, [.ref q1, .ref q2, .ref q3, .int m_madeSize, .ref q4, .ref q5, .ref q6, .ref q7, .ref q8, .ref q9, .int m_depth, .int m_end, .ref q10, .ref q11, .int m_captureCount, .int m_looks, .int m_trouble, .int m_found, .int m_first, .int m_from, .int m_ended])), (q1, .inl (aC 1, 5632, .inl m_rows)), (q2, .inl (aC 0, 3, .inl m_sizes)), (q3, .inl (aC 1, 8192, .inl m_made)), (q4, .inl (aC 0, 520, .inl m_begins)), (q5, .inl (aC 0, 520, .inl m_places)), (q6, .inl (aC 0, 520, .inl m_kinds)), (q7, .inl (aC 0, 520, .inl m_nexts)), (q8, .inl (aC 0, 520, .inl m_choices)), (q9, .inl (aC 0, 520, .inl m_leasts)), (q10, .inl (aC 0, 33, .inl m_captureBegins)), (q11, .inl (aC 0, 33, .inl m_captureLengths))]) ⟨hx, hb, hml, hown, hts⟩ (c_X5_pattern l DD aC tt q0 q1 q2 q3 q4 q5 q6 q7 q8 q9 q10 q11  m_madeSize m_depth m_end m_captureCount m_looks m_trouble m_found m_first m_from m_ended m_rows m_sizes m_made m_begins m_places m_kinds m_nexts m_choices m_leasts m_captureBegins m_captureLengths x2 hz3 hq0 z_7 hz_7) (cwV 1 hts (gdV w_617 w_619 w_39 w_74 w_620) rfl rfl rfl (by decide +kernel) ⟨Nat.le_of_ble_eq_true rfl, Nat.le_of_ble_eq_true rfl⟩) hP hD hS hA hE [0, 1, 2, 3, 4, 5, 6, 7, 8, 9, 10, 11] [] [0, 1, 2, 3, 4, 5, 6, 7, 8, 9, 10, 11] rfl rfl rfl (by decide) (by decide) (by decide) (by decide) (ci := 5) (q0 := 0) rfl rfl rfl hl.1 rfl (Nat.le_of_ble_eq_true rfl) dX5_closing_70 (fun H locs hP hD hS => ?_)
      refine W.eq (g2 := F0 m 73 ls [.int z_7]) rfl ?_
      have h_8 := pf_X5_pattern hz_7
      refine lv_if_ge (tgt := 80) hx hb dX5_closing_73 (by decide) (fun c_9 => ?_) (fun c_9 => ?_)
      · replace hu := hu.trans (if_pos c_9)
        refine lv_iload_n hx hb dX5_closing_80 rfl (lv_at hl 2 rfl) ?_
        subst hu
        exact k_iret hx hb hr hlocks hP hD hS rfl rfl dX5_closing_81
      · replace hu := hu.trans (if_neg c_9)
        refine lv_iconst (v := (-1)) hx hb dX5_closing_76 (by decide) ?_
        refine lv_goto (tgt := 81) hx hb dX5_closing_77 (by decide) ?_
        subst hu
        exact k_iret hx hb hr hlocks hP hD hS rfl rfl dX5_closing_81
    · replace hu := hu.trans (if_neg c_6)
      refine lv_iload_n hx hb dX5_closing_32 rfl (lv_at hl 2 rfl) ?_
      refine lv_iload_n hx hb dX5_closing_33 rfl (lv_at hl 3 rfl) ?_
      refine lv_icmp_eq (tgt := 47) hx hb dX5_closing_34 (by decide) (fun c_10 => ?_) (fun c_10 => ?_)
      · replace hu := hu.trans (if_pos c_10)
        refine lv_iload_n hx hb dX5_closing_47 rfl (lv_at hl 2 rfl) ?_
        refine lv_aload_n hx hb dX5_closing_48 rfl (lv_at hl 0 rfl) ?_
        refine lv_iload_n hx hb dX5_closing_49 rfl (lv_at hl 2 rfl) ?_
        obtain ⟨z_11, hz_11⟩ : ∃ z, z = f_X5_pattern m_rows m_sizes x2 := ⟨_, rfl⟩
        replace hu := hu.trans (kb_of hz_11)
        refine k_callV (As := [.int x2]) (rest := [.int x2]) (wc := [(q0, .inr (5, [.ref q1, .ref q2, .ref q3, .int m_madeSize, .ref q4, .ref q5, .ref q6, .ref q7, .ref q8, .ref q9, .int m_depth, .int m_end, .ref q10, .ref q11, .int m_captureCount, .int m_looks, .int m_trouble, .int m_found, .int m_first, .int m_from, .int m_ended])), (q1, .inl (aC 1, 5632, .inl m_rows)), (q2, .inl (aC 0, 3, .inl m_sizes)), (q3, .inl (aC 1, 8192, .inl m_made)), (q4, .inl (aC 0, 520, .inl m_begins)), (q5, .inl (aC 0, 520, .inl m_places)), (q6, .inl (aC 0, 520, .inl m_kinds)), (q7, .inl (aC 0, 520, .inl m_nexts)), (q8, .inl (aC 0, 520, .inl m_choices)), (q9, .inl (aC 0, 520, .inl m_leasts)), (q10, .inl (aC 0, 33, .inl m_captureBegins)), (q11, .inl (aC 0, 33, .inl m_captureLengths))]) (wr := []) (w1 := [(q0, .inr (5, [.ref q1, .ref q2, .ref q3, .int m_madeSize, .ref q4, .ref q5, .ref q6, .ref q7, .ref q8, .ref q9, .int m_depth, .int m_end, .ref q10, .ref q11, .int m_captureCount, .int m_looks, .int m_trouble, .int m_found, .int m_first, .int m_from, .int m_ended])), (q1, .inl (aC 1, 5632, .inl m_rows)), (q2, .inl (aC 0, 3, .inl m_sizes)), (q3, .inl (aC 1, 8192, .inl m_made)), (q4, .inl (aC 0, 520, .inl m_begins)), (q5, .inl (aC 0, 520, .inl m_places)), (q6, .inl (aC 0, 520, .inl m_kinds)), (q7, .inl (aC 0, 520, .inl m_nexts)), (q8, .inl (aC 0, 520, .inl m_choices)), (q9, .inl (aC 0, 520, .inl m_leasts)), (q10, .inl (aC 0, 33, .inl m_captureBegins)), (q11, .inl (aC 0, 33, .inl m_captureLengths))]) (wn := [(q0, .inr (5, [.ref q1, .ref q2, .ref q3, .int m_madeSize, .ref q4, .ref q5, .ref q6, .ref q7, .ref q8, .ref q9, .int m_depth, .int m_end, .ref q10, .ref q11, .int m_captureCount, .int m_looks, .int m_trouble, .int m_found, .int m_first, .int m_from, .int m_ended])), (q1, .inl (aC 1, 5632, .inl m_rows)), (q2, .inl (aC 0, 3, .inl m_sizes)), (q3, .inl (aC 1, 8192, .inl m_made)), (q4, .inl (aC 0, 520, .inl m_begins)), (q5, .inl (aC 0, 520, .inl m_places)), (q6, .inl (aC 0, 520, .inl m_kinds)), (q7, .inl (aC 0, 520, .inl m_nexts)), (q8, .inl (aC 0, 520, .inl m_choices)), (q9, .inl (aC 0, 520, .inl m_leasts)), (q10, .inl (aC 0, 33, .inl m_captureBegins)), (q11, .inl (aC 0, 33, .inl m_captureLengths))]) ⟨hx, hb, hml, hown, hts⟩ (c_X5_pattern l DD aC tt q0 q1 q2 q3 q4 q5 q6 q7 q8 q9 q10 q11  m_madeSize m_depth m_end m_captureCount m_looks m_trouble m_found m_first m_from m_ended m_rows m_sizes m_made m_begins m_places m_kinds m_nexts m_choices m_leasts m_captureBegins m_captureLengths x2 hz3 hq0 z_11 hz_11) (cwV 1 hts (gdV w_617 w_619 w_39 w_74 w_620) rfl rfl rfl (by decide +kernel) ⟨Nat.le_of_ble_eq_true rfl, Nat.le_of_ble_eq_true rfl⟩) hP hD hS hA hE [0, 1, 2, 3, 4, 5, 6, 7, 8, 9, 10, 11] [] [0, 1, 2, 3, 4, 5, 6, 7, 8, 9, 10, 11] rfl rfl rfl (by decide) (by decide) (by decide) (by decide) (ci := 5) (q0 := 0) rfl rfl rfl hl.1 rfl (Nat.le_of_ble_eq_true rfl) dX5_closing_50 (fun H locs hP hD hS => ?_)
        refine W.eq (g2 := F0 m 53 ls [.int z_11, .int x2]) rfl ?_
        have h_12 := pf_X5_pattern hz_11
        refine lv_bipush (v := 37) hx hb dX5_closing_53 (by decide) ?_
        refine lv_icmp_ne (tgt := 62) hx hb dX5_closing_55 (by decide) (fun c_13 => ?_) (fun c_13 => ?_)
        · replace hu := hu.trans (if_neg c_13)
          refine lv_iconst (v := 1) hx hb dX5_closing_62 (by decide) ?_
          refine lv_iadd hx hb dX5_closing_63 ?_
          refine lv_istore_n (lv' := [(2, .int (x2 + 1)), (0, .ref q0), (1, .int x1), (3, .int x3)]) hx hb dX5_closing_64 rfl hl (by decide) rfl (fun ls hl => ?_)
          refine lv_goto (tgt := 24) hx hb dX5_closing_65 (by decide) ?_
          exact ih x1 (x2 + 1) x3 (show 0 ≤ (x2 + 1).toInt from (by have i1 := kx_nlt c_6; have i2 := congrArg Int32.toInt c_10; have i3 := kx_ne c_13; have i4 := kx_rng (x2 + 1); have i5 := kx_rng (x2); have i7 := kx_rng (z_4); have i8 : (0 : Int32).toInt = 0 := (by decide); have i9 := kx_rng (x3); have i10 := kx_rng (z_11); have i11 : (37 : Int32).toInt = 37 := (by decide); first | omega | (have i6 := kx_addK x2 (y := 1) (k := 1) (by decide); omega))) (show (x2 + 1).toInt ≤ 700 from (by have i1 := kx_nlt c_6; have i2 := congrArg Int32.toInt c_10; have i3 := kx_ne c_13; have i4 := kx_rng (x2 + 1); have i5 := kx_rng (x2); have i7 := kx_rng (z_4); have i8 : (0 : Int32).toInt = 0 := (by decide); have i9 := kx_rng (x3); have i10 := kx_rng (z_11); have i11 : (37 : Int32).toInt = 37 := (by decide); first | omega | (have i6 := kx_addK x2 (y := 1) (k := 1) (by decide); omega))) (Nat.lt_of_lt_of_le (by have i1 := kx_nlt c_6; have i2 := congrArg Int32.toInt c_10; have i3 := kx_ne c_13; have i4 := kx_rng (m_sizes 1); have i5 := kx_rng (x2); have i6 := kx_rng (x2 + 1); have i8 := kx_rng (z_4); have i9 : (0 : Int32).toInt = 0 := (by decide); have i10 := kx_rng (x3); have i11 := kx_rng (z_11); have i12 : (37 : Int32).toInt = 37 := (by decide); first | omega | (have i7 := kx_addK x2 (y := 1) (k := 1) (by decide); omega)) (Nat.le_of_lt_succ hk)) u hu _ _ _ hP hD hS (lv_sub hl [1, 2, 0, 3] rfl)
        · replace hu := hu.trans (if_pos c_13)
          refine lv_iconst (v := 2) hx hb dX5_closing_58 (by decide) ?_
          refine lv_goto (tgt := 63) hx hb dX5_closing_59 (by decide) ?_
          refine lv_iadd hx hb dX5_closing_63 ?_
          refine lv_istore_n (lv' := [(2, .int (x2 + 2)), (0, .ref q0), (1, .int x1), (3, .int x3)]) hx hb dX5_closing_64 rfl hl (by decide) rfl (fun ls hl => ?_)
          refine lv_goto (tgt := 24) hx hb dX5_closing_65 (by decide) ?_
          exact ih x1 (x2 + 2) x3 (show 0 ≤ (x2 + 2).toInt from (by have i1 := kx_nlt c_6; have i2 := congrArg Int32.toInt c_10; have i3 := congrArg Int32.toInt c_13; have i4 := kx_rng (x2 + 2); have i5 := kx_rng (x2); have i7 := kx_rng (z_4); have i8 : (0 : Int32).toInt = 0 := (by decide); have i9 := kx_rng (x3); have i10 := kx_rng (z_11); have i11 : (37 : Int32).toInt = 37 := (by decide); first | omega | (have i6 := kx_addK x2 (y := 2) (k := 2) (by decide); omega))) (show (x2 + 2).toInt ≤ 700 from (by have i1 := kx_nlt c_6; have i2 := congrArg Int32.toInt c_10; have i3 := congrArg Int32.toInt c_13; have i4 := kx_rng (x2 + 2); have i5 := kx_rng (x2); have i7 := kx_rng (z_4); have i8 : (0 : Int32).toInt = 0 := (by decide); have i9 := kx_rng (x3); have i10 := kx_rng (z_11); have i11 : (37 : Int32).toInt = 37 := (by decide); first | omega | (have i6 := kx_addK x2 (y := 2) (k := 2) (by decide); omega))) (Nat.lt_of_lt_of_le (by have i1 := kx_nlt c_6; have i2 := congrArg Int32.toInt c_10; have i3 := congrArg Int32.toInt c_13; have i4 := kx_rng (m_sizes 1); have i5 := kx_rng (x2); have i6 := kx_rng (x2 + 2); have i8 := kx_rng (z_4); have i9 : (0 : Int32).toInt = 0 := (by decide); have i10 := kx_rng (x3); have i11 := kx_rng (z_11); have i12 : (37 : Int32).toInt = 37 := (by decide); first | omega | (have i7 := kx_addK x2 (y := 2) (k := 2) (by decide); omega)) (Nat.le_of_lt_succ hk)) u hu _ _ _ hP hD hS (lv_sub hl [1, 2, 0, 3] rfl)
      · replace hu := hu.trans (if_neg c_10)
        refine lv_aload_n hx hb dX5_closing_37 rfl (lv_at hl 0 rfl) ?_
        refine lv_iload_n hx hb dX5_closing_38 rfl (lv_at hl 2 rfl) ?_
        obtain ⟨z_14, hz_14⟩ : ∃ z, z = f_X5_pattern m_rows m_sizes x2 := ⟨_, rfl⟩
        replace hu := hu.trans (kb_of hz_14)
        refine k_callV (As := [.int x2]) (rest := []) (wc := [(q0, .inr (5, [.ref q1, .ref q2, .ref q3, .int m_madeSize, .ref q4, .ref q5, .ref q6, .ref q7, .ref q8, .ref q9, .int m_depth, .int m_end, .ref q10, .ref q11, .int m_captureCount, .int m_looks, .int m_trouble, .int m_found, .int m_first, .int m_from, .int m_ended])), (q1, .inl (aC 1, 5632, .inl m_rows)), (q2, .inl (aC 0, 3, .inl m_sizes)), (q3, .inl (aC 1, 8192, .inl m_made)), (q4, .inl (aC 0, 520, .inl m_begins)), (q5, .inl (aC 0, 520, .inl m_places)), (q6, .inl (aC 0, 520, .inl m_kinds)), (q7, .inl (aC 0, 520, .inl m_nexts)), (q8, .inl (aC 0, 520, .inl m_choices)), (q9, .inl (aC 0, 520, .inl m_leasts)), (q10, .inl (aC 0, 33, .inl m_captureBegins)), (q11, .inl (aC 0, 33, .inl m_captureLengths))]) (wr := []) (w1 := [(q0, .inr (5, [.ref q1, .ref q2, .ref q3, .int m_madeSize, .ref q4, .ref q5, .ref q6, .ref q7, .ref q8, .ref q9, .int m_depth, .int m_end, .ref q10, .ref q11, .int m_captureCount, .int m_looks, .int m_trouble, .int m_found, .int m_first, .int m_from, .int m_ended])), (q1, .inl (aC 1, 5632, .inl m_rows)), (q2, .inl (aC 0, 3, .inl m_sizes)), (q3, .inl (aC 1, 8192, .inl m_made)), (q4, .inl (aC 0, 520, .inl m_begins)), (q5, .inl (aC 0, 520, .inl m_places)), (q6, .inl (aC 0, 520, .inl m_kinds)), (q7, .inl (aC 0, 520, .inl m_nexts)), (q8, .inl (aC 0, 520, .inl m_choices)), (q9, .inl (aC 0, 520, .inl m_leasts)), (q10, .inl (aC 0, 33, .inl m_captureBegins)), (q11, .inl (aC 0, 33, .inl m_captureLengths))]) (wn := [(q0, .inr (5, [.ref q1, .ref q2, .ref q3, .int m_madeSize, .ref q4, .ref q5, .ref q6, .ref q7, .ref q8, .ref q9, .int m_depth, .int m_end, .ref q10, .ref q11, .int m_captureCount, .int m_looks, .int m_trouble, .int m_found, .int m_first, .int m_from, .int m_ended])), (q1, .inl (aC 1, 5632, .inl m_rows)), (q2, .inl (aC 0, 3, .inl m_sizes)), (q3, .inl (aC 1, 8192, .inl m_made)), (q4, .inl (aC 0, 520, .inl m_begins)), (q5, .inl (aC 0, 520, .inl m_places)), (q6, .inl (aC 0, 520, .inl m_kinds)), (q7, .inl (aC 0, 520, .inl m_nexts)), (q8, .inl (aC 0, 520, .inl m_choices)), (q9, .inl (aC 0, 520, .inl m_leasts)), (q10, .inl (aC 0, 33, .inl m_captureBegins)), (q11, .inl (aC 0, 33, .inl m_captureLengths))]) ⟨hx, hb, hml, hown, hts⟩ (c_X5_pattern l DD aC tt q0 q1 q2 q3 q4 q5 q6 q7 q8 q9 q10 q11  m_madeSize m_depth m_end m_captureCount m_looks m_trouble m_found m_first m_from m_ended m_rows m_sizes m_made m_begins m_places m_kinds m_nexts m_choices m_leasts m_captureBegins m_captureLengths x2 hz3 hq0 z_14 hz_14) (cwV 1 hts (gdV w_617 w_619 w_39 w_74 w_620) rfl rfl rfl (by decide +kernel) ⟨Nat.le_of_ble_eq_true rfl, Nat.le_of_ble_eq_true rfl⟩) hP hD hS hA hE [0, 1, 2, 3, 4, 5, 6, 7, 8, 9, 10, 11] [] [0, 1, 2, 3, 4, 5, 6, 7, 8, 9, 10, 11] rfl rfl rfl (by decide) (by decide) (by decide) (by decide) (ci := 5) (q0 := 0) rfl rfl rfl hl.1 rfl (Nat.le_of_ble_eq_true rfl) dX5_closing_39 (fun H locs hP hD hS => ?_)
        refine W.eq (g2 := F0 m 42 ls [.int z_14]) rfl ?_
        have h_15 := pf_X5_pattern hz_14
        refine lv_bipush (v := 93) hx hb dX5_closing_42 (by decide) ?_
        refine lv_icmp_eq (tgt := 68) hx hb dX5_closing_44 (by decide) (fun c_16 => ?_) (fun c_16 => ?_)
        · replace hu := hu.trans (if_pos c_16)
          refine lv_aload_n hx hb dX5_closing_68 rfl (lv_at hl 0 rfl) ?_
          refine lv_iload_n hx hb dX5_closing_69 rfl (lv_at hl 2 rfl) ?_
          obtain ⟨z_17, hz_17⟩ : ∃ z, z = f_X5_pattern m_rows m_sizes x2 := ⟨_, rfl⟩
          replace hu := hu.trans (kb_of hz_17)
          refine k_callV (As := [.int x2]) (rest := []) (wc := [(q0, .inr (5, [.ref q1, .ref q2, .ref q3, .int m_madeSize, .ref q4, .ref q5, .ref q6, .ref q7, .ref q8, .ref q9, .int m_depth, .int m_end, .ref q10, .ref q11, .int m_captureCount, .int m_looks, .int m_trouble, .int m_found, .int m_first, .int m_from, .int m_ended])), (q1, .inl (aC 1, 5632, .inl m_rows)), (q2, .inl (aC 0, 3, .inl m_sizes)), (q3, .inl (aC 1, 8192, .inl m_made)), (q4, .inl (aC 0, 520, .inl m_begins)), (q5, .inl (aC 0, 520, .inl m_places)), (q6, .inl (aC 0, 520, .inl m_kinds)), (q7, .inl (aC 0, 520, .inl m_nexts)), (q8, .inl (aC 0, 520, .inl m_choices)), (q9, .inl (aC 0, 520, .inl m_leasts)), (q10, .inl (aC 0, 33, .inl m_captureBegins)), (q11, .inl (aC 0, 33, .inl m_captureLengths))]) (wr := []) (w1 := [(q0, .inr (5, [.ref q1, .ref q2, .ref q3, .int m_madeSize, .ref q4, .ref q5, .ref q6, .ref q7, .ref q8, .ref q9, .int m_depth, .int m_end, .ref q10, .ref q11, .int m_captureCount, .int m_looks, .int m_trouble, .int m_found, .int m_first, .int m_from, .int m_ended])), (q1, .inl (aC 1, 5632, .inl m_rows)), (q2, .inl (aC 0, 3, .inl m_sizes)), (q3, .inl (aC 1, 8192, .inl m_made)), (q4, .inl (aC 0, 520, .inl m_begins)), (q5, .inl (aC 0, 520, .inl m_places)), (q6, .inl (aC 0, 520, .inl m_kinds)), (q7, .inl (aC 0, 520, .inl m_nexts)), (q8, .inl (aC 0, 520, .inl m_choices)), (q9, .inl (aC 0, 520, .inl m_leasts)), (q10, .inl (aC 0, 33, .inl m_captureBegins)), (q11, .inl (aC 0, 33, .inl m_captureLengths))]) (wn := [(q0, .inr (5, [.ref q1, .ref q2, .ref q3, .int m_madeSize, .ref q4, .ref q5, .ref q6, .ref q7, .ref q8, .ref q9, .int m_depth, .int m_end, .ref q10, .ref q11, .int m_captureCount, .int m_looks, .int m_trouble, .int m_found, .int m_first, .int m_from, .int m_ended])), (q1, .inl (aC 1, 5632, .inl m_rows)), (q2, .inl (aC 0, 3, .inl m_sizes)), (q3, .inl (aC 1, 8192, .inl m_made)), (q4, .inl (aC 0, 520, .inl m_begins)), (q5, .inl (aC 0, 520, .inl m_places)), (q6, .inl (aC 0, 520, .inl m_kinds)), (q7, .inl (aC 0, 520, .inl m_nexts)), (q8, .inl (aC 0, 520, .inl m_choices)), (q9, .inl (aC 0, 520, .inl m_leasts)), (q10, .inl (aC 0, 33, .inl m_captureBegins)), (q11, .inl (aC 0, 33, .inl m_captureLengths))]) ⟨hx, hb, hml, hown, hts⟩ (c_X5_pattern l DD aC tt q0 q1 q2 q3 q4 q5 q6 q7 q8 q9 q10 q11  m_madeSize m_depth m_end m_captureCount m_looks m_trouble m_found m_first m_from m_ended m_rows m_sizes m_made m_begins m_places m_kinds m_nexts m_choices m_leasts m_captureBegins m_captureLengths x2 hz3 hq0 z_17 hz_17) (cwV 1 hts (gdV w_617 w_619 w_39 w_74 w_620) rfl rfl rfl (by decide +kernel) ⟨Nat.le_of_ble_eq_true rfl, Nat.le_of_ble_eq_true rfl⟩) hP hD hS hA hE [0, 1, 2, 3, 4, 5, 6, 7, 8, 9, 10, 11] [] [0, 1, 2, 3, 4, 5, 6, 7, 8, 9, 10, 11] rfl rfl rfl (by decide) (by decide) (by decide) (by decide) (ci := 5) (q0 := 0) rfl rfl rfl hl.1 rfl (Nat.le_of_ble_eq_true rfl) dX5_closing_70 (fun H locs hP hD hS => ?_)
          refine W.eq (g2 := F0 m 73 ls [.int z_17]) rfl ?_
          have h_18 := pf_X5_pattern hz_17
          refine lv_if_ge (tgt := 80) hx hb dX5_closing_73 (by decide) (fun c_19 => ?_) (fun c_19 => ?_)
          · replace hu := hu.trans (if_pos c_19)
            refine lv_iload_n hx hb dX5_closing_80 rfl (lv_at hl 2 rfl) ?_
            subst hu
            exact k_iret hx hb hr hlocks hP hD hS rfl rfl dX5_closing_81
          · replace hu := hu.trans (if_neg c_19)
            refine lv_iconst (v := (-1)) hx hb dX5_closing_76 (by decide) ?_
            refine lv_goto (tgt := 81) hx hb dX5_closing_77 (by decide) ?_
            subst hu
            exact k_iret hx hb hr hlocks hP hD hS rfl rfl dX5_closing_81
        · replace hu := hu.trans (if_neg c_16)
          refine lv_iload_n hx hb dX5_closing_47 rfl (lv_at hl 2 rfl) ?_
          refine lv_aload_n hx hb dX5_closing_48 rfl (lv_at hl 0 rfl) ?_
          refine lv_iload_n hx hb dX5_closing_49 rfl (lv_at hl 2 rfl) ?_
          obtain ⟨z_20, hz_20⟩ : ∃ z, z = f_X5_pattern m_rows m_sizes x2 := ⟨_, rfl⟩
          replace hu := hu.trans (kb_of hz_20)
          refine k_callV (As := [.int x2]) (rest := [.int x2]) (wc := [(q0, .inr (5, [.ref q1, .ref q2, .ref q3, .int m_madeSize, .ref q4, .ref q5, .ref q6, .ref q7, .ref q8, .ref q9, .int m_depth, .int m_end, .ref q10, .ref q11, .int m_captureCount, .int m_looks, .int m_trouble, .int m_found, .int m_first, .int m_from, .int m_ended])), (q1, .inl (aC 1, 5632, .inl m_rows)), (q2, .inl (aC 0, 3, .inl m_sizes)), (q3, .inl (aC 1, 8192, .inl m_made)), (q4, .inl (aC 0, 520, .inl m_begins)), (q5, .inl (aC 0, 520, .inl m_places)), (q6, .inl (aC 0, 520, .inl m_kinds)), (q7, .inl (aC 0, 520, .inl m_nexts)), (q8, .inl (aC 0, 520, .inl m_choices)), (q9, .inl (aC 0, 520, .inl m_leasts)), (q10, .inl (aC 0, 33, .inl m_captureBegins)), (q11, .inl (aC 0, 33, .inl m_captureLengths))]) (wr := []) (w1 := [(q0, .inr (5, [.ref q1, .ref q2, .ref q3, .int m_madeSize, .ref q4, .ref q5, .ref q6, .ref q7, .ref q8, .ref q9, .int m_depth, .int m_end, .ref q10, .ref q11, .int m_captureCount, .int m_looks, .int m_trouble, .int m_found, .int m_first, .int m_from, .int m_ended])), (q1, .inl (aC 1, 5632, .inl m_rows)), (q2, .inl (aC 0, 3, .inl m_sizes)), (q3, .inl (aC 1, 8192, .inl m_made)), (q4, .inl (aC 0, 520, .inl m_begins)), (q5, .inl (aC 0, 520, .inl m_places)), (q6, .inl (aC 0, 520, .inl m_kinds)), (q7, .inl (aC 0, 520, .inl m_nexts)), (q8, .inl (aC 0, 520, .inl m_choices)), (q9, .inl (aC 0, 520, .inl m_leasts)), (q10, .inl (aC 0, 33, .inl m_captureBegins)), (q11, .inl (aC 0, 33, .inl m_captureLengths))]) (wn := [(q0, .inr (5, [.ref q1, .ref q2, .ref q3, .int m_madeSize, .ref q4, .ref q5, .ref q6, .ref q7, .ref q8, .ref q9, .int m_depth, .int m_end, .ref q10, .ref q11, .int m_captureCount, .int m_looks, .int m_trouble, .int m_found, .int m_first, .int m_from, .int m_ended])), (q1, .inl (aC 1, 5632, .inl m_rows)), (q2, .inl (aC 0, 3, .inl m_sizes)), (q3, .inl (aC 1, 8192, .inl m_made)), (q4, .inl (aC 0, 520, .inl m_begins)), (q5, .inl (aC 0, 520, .inl m_places)), (q6, .inl (aC 0, 520, .inl m_kinds)), (q7, .inl (aC 0, 520, .inl m_nexts)), (q8, .inl (aC 0, 520, .inl m_choices)), (q9, .inl (aC 0, 520, .inl m_leasts)), (q10, .inl (aC 0, 33, .inl m_captureBegins)), (q11, .inl (aC 0, 33, .inl m_captureLengths))]) ⟨hx, hb, hml, hown, hts⟩ (c_X5_pattern l DD aC tt q0 q1 q2 q3 q4 q5 q6 q7 q8 q9 q10 q11  m_madeSize m_depth m_end m_captureCount m_looks m_trouble m_found m_first m_from m_ended m_rows m_sizes m_made m_begins m_places m_kinds m_nexts m_choices m_leasts m_captureBegins m_captureLengths x2 hz3 hq0 z_20 hz_20) (cwV 1 hts (gdV w_617 w_619 w_39 w_74 w_620) rfl rfl rfl (by decide +kernel) ⟨Nat.le_of_ble_eq_true rfl, Nat.le_of_ble_eq_true rfl⟩) hP hD hS hA hE [0, 1, 2, 3, 4, 5, 6, 7, 8, 9, 10, 11] [] [0, 1, 2, 3, 4, 5, 6, 7, 8, 9, 10, 11] rfl rfl rfl (by decide) (by decide) (by decide) (by decide) (ci := 5) (q0 := 0) rfl rfl rfl hl.1 rfl (Nat.le_of_ble_eq_true rfl) dX5_closing_50 (fun H locs hP hD hS => ?_)
          refine W.eq (g2 := F0 m 53 ls [.int z_20, .int x2]) rfl ?_
          have h_21 := pf_X5_pattern hz_20
          refine lv_bipush (v := 37) hx hb dX5_closing_53 (by decide) ?_
          refine lv_icmp_ne (tgt := 62) hx hb dX5_closing_55 (by decide) (fun c_22 => ?_) (fun c_22 => ?_)
          · replace hu := hu.trans (if_neg c_22)
            refine lv_iconst (v := 1) hx hb dX5_closing_62 (by decide) ?_
            refine lv_iadd hx hb dX5_closing_63 ?_
            refine lv_istore_n (lv' := [(2, .int (x2 + 1)), (0, .ref q0), (1, .int x1), (3, .int x3)]) hx hb dX5_closing_64 rfl hl (by decide) rfl (fun ls hl => ?_)
            refine lv_goto (tgt := 24) hx hb dX5_closing_65 (by decide) ?_
            exact ih x1 (x2 + 1) x3 (show 0 ≤ (x2 + 1).toInt from (by have i1 := kx_nlt c_6; have i2 := kx_ne c_10; have i3 := kx_ne c_16; have i4 := kx_ne c_22; have i5 := kx_rng (x2 + 1); have i6 := kx_rng (x2); have i8 := kx_rng (z_4); have i9 : (0 : Int32).toInt = 0 := (by decide); have i10 := kx_rng (x3); have i11 := kx_rng (z_14); have i12 : (93 : Int32).toInt = 93 := (by decide); have i13 := kx_rng (z_20); have i14 : (37 : Int32).toInt = 37 := (by decide); first | omega | (have i7 := kx_addK x2 (y := 1) (k := 1) (by decide); omega))) (show (x2 + 1).toInt ≤ 700 from (by have i1 := kx_nlt c_6; have i2 := kx_ne c_10; have i3 := kx_ne c_16; have i4 := kx_ne c_22; have i5 := kx_rng (x2 + 1); have i6 := kx_rng (x2); have i8 := kx_rng (z_4); have i9 : (0 : Int32).toInt = 0 := (by decide); have i10 := kx_rng (x3); have i11 := kx_rng (z_14); have i12 : (93 : Int32).toInt = 93 := (by decide); have i13 := kx_rng (z_20); have i14 : (37 : Int32).toInt = 37 := (by decide); first | omega | (have i7 := kx_addK x2 (y := 1) (k := 1) (by decide); omega))) (Nat.lt_of_lt_of_le (by have i1 := kx_nlt c_6; have i2 := kx_ne c_10; have i3 := kx_ne c_16; have i4 := kx_ne c_22; have i5 := kx_rng (m_sizes 1); have i6 := kx_rng (x2); have i7 := kx_rng (x2 + 1); have i9 := kx_rng (z_4); have i10 : (0 : Int32).toInt = 0 := (by decide); have i11 := kx_rng (x3); have i12 := kx_rng (z_14); have i13 : (93 : Int32).toInt = 93 := (by decide); have i14 := kx_rng (z_20); have i15 : (37 : Int32).toInt = 37 := (by decide); first | omega | (have i8 := kx_addK x2 (y := 1) (k := 1) (by decide); omega)) (Nat.le_of_lt_succ hk)) u hu _ _ _ hP hD hS (lv_sub hl [1, 2, 0, 3] rfl)
          · replace hu := hu.trans (if_pos c_22)
            refine lv_iconst (v := 2) hx hb dX5_closing_58 (by decide) ?_
            refine lv_goto (tgt := 63) hx hb dX5_closing_59 (by decide) ?_
            refine lv_iadd hx hb dX5_closing_63 ?_
            refine lv_istore_n (lv' := [(2, .int (x2 + 2)), (0, .ref q0), (1, .int x1), (3, .int x3)]) hx hb dX5_closing_64 rfl hl (by decide) rfl (fun ls hl => ?_)
            refine lv_goto (tgt := 24) hx hb dX5_closing_65 (by decide) ?_
            exact ih x1 (x2 + 2) x3 (show 0 ≤ (x2 + 2).toInt from (by have i1 := kx_nlt c_6; have i2 := kx_ne c_10; have i3 := kx_ne c_16; have i4 := congrArg Int32.toInt c_22; have i5 := kx_rng (x2 + 2); have i6 := kx_rng (x2); have i8 := kx_rng (z_4); have i9 : (0 : Int32).toInt = 0 := (by decide); have i10 := kx_rng (x3); have i11 := kx_rng (z_14); have i12 : (93 : Int32).toInt = 93 := (by decide); have i13 := kx_rng (z_20); have i14 : (37 : Int32).toInt = 37 := (by decide); first | omega | (have i7 := kx_addK x2 (y := 2) (k := 2) (by decide); omega))) (show (x2 + 2).toInt ≤ 700 from (by have i1 := kx_nlt c_6; have i2 := kx_ne c_10; have i3 := kx_ne c_16; have i4 := congrArg Int32.toInt c_22; have i5 := kx_rng (x2 + 2); have i6 := kx_rng (x2); have i8 := kx_rng (z_4); have i9 : (0 : Int32).toInt = 0 := (by decide); have i10 := kx_rng (x3); have i11 := kx_rng (z_14); have i12 : (93 : Int32).toInt = 93 := (by decide); have i13 := kx_rng (z_20); have i14 : (37 : Int32).toInt = 37 := (by decide); first | omega | (have i7 := kx_addK x2 (y := 2) (k := 2) (by decide); omega))) (Nat.lt_of_lt_of_le (by have i1 := kx_nlt c_6; have i2 := kx_ne c_10; have i3 := kx_ne c_16; have i4 := congrArg Int32.toInt c_22; have i5 := kx_rng (m_sizes 1); have i6 := kx_rng (x2); have i7 := kx_rng (x2 + 2); have i9 := kx_rng (z_4); have i10 : (0 : Int32).toInt = 0 := (by decide); have i11 := kx_rng (x3); have i12 := kx_rng (z_14); have i13 : (93 : Int32).toInt = 93 := (by decide); have i14 := kx_rng (z_20); have i15 : (37 : Int32).toInt = 37 := (by decide); first | omega | (have i8 := kx_addK x2 (y := 2) (k := 2) (by decide); omega)) (Nat.le_of_lt_succ hk)) u hu _ _ _ hP hD hS (lv_sub hl [1, 2, 0, 3] rfl)
set_option maxHeartbeats 4000000 in
set_option maxRecDepth 100000 in
theorem c_X5_closing (l : Launch) (DD : va_G) (aC : Nat → ClassId) (tt : Nat → Nat) (q0 q1 q2 q3 q4 q5 q6 q7 q8 q9 q10 q11 : Nat) (m_madeSize : Int32) (m_depth : Int32) (m_end : Int32) (m_captureCount : Int32) (m_looks : Int32) (m_trouble : Int32) (m_found : Int32) (m_first : Int32) (m_from : Int32) (m_ended : Int32) (m_rows : Nat → Int32) (m_sizes : Nat → Int32) (m_made : Nat → Int32) (m_begins : Nat → Int32) (m_places : Nat → Int32) (m_kinds : Nat → Int32) (m_nexts : Nat → Int32) (m_choices : Nat → Int32) (m_leasts : Nat → Int32) (m_captureBegins : Nat → Int32) (m_captureLengths : Nat → Int32) (a1 : Int32) (hz3 : (m_sizes 1).toInt ≤ 512) (hk : 0 ≤ a1.toInt) (hk2 : a1.toInt ≤ 600) (u : Int32) (hu : u = f_X5_closing m_rows m_sizes a1) : kM l yX5_closing wsX5_closing rm_X5_closing DD aC tt [.ref q0, .int a1] [(q0, .inr (5, [.ref q1, .ref q2, .ref q3, .int m_madeSize, .ref q4, .ref q5, .ref q6, .ref q7, .ref q8, .ref q9, .int m_depth, .int m_end, .ref q10, .ref q11, .int m_captureCount, .int m_looks, .int m_trouble, .int m_found, .int m_first, .int m_from, .int m_ended])), (q1, .inl (aC 1, 5632, .inl m_rows)), (q2, .inl (aC 0, 3, .inl m_sizes)), (q3, .inl (aC 1, 8192, .inl m_made)), (q4, .inl (aC 0, 520, .inl m_begins)), (q5, .inl (aC 0, 520, .inl m_places)), (q6, .inl (aC 0, 520, .inl m_kinds)), (q7, .inl (aC 0, 520, .inl m_nexts)), (q8, .inl (aC 0, 520, .inl m_choices)), (q9, .inl (aC 0, 520, .inl m_leasts)), (q10, .inl (aC 0, 33, .inl m_captureBegins)), (q11, .inl (aC 0, 33, .inl m_captureLengths))] (some (.int u)) [(q0, .inr (5, [.ref q1, .ref q2, .ref q3, .int m_madeSize, .ref q4, .ref q5, .ref q6, .ref q7, .ref q8, .ref q9, .int m_depth, .int m_end, .ref q10, .ref q11, .int m_captureCount, .int m_looks, .int m_trouble, .int m_found, .int m_first, .int m_from, .int m_ended])), (q1, .inl (aC 1, 5632, .inl m_rows)), (q2, .inl (aC 0, 3, .inl m_sizes)), (q3, .inl (aC 1, 8192, .inl m_made)), (q4, .inl (aC 0, 520, .inl m_begins)), (q5, .inl (aC 0, 520, .inl m_places)), (q6, .inl (aC 0, 520, .inl m_kinds)), (q7, .inl (aC 0, 520, .inl m_nexts)), (q8, .inl (aC 0, 520, .inl m_choices)), (q9, .inl (aC 0, 520, .inl m_leasts)), (q10, .inl (aC 0, 33, .inl m_captureBegins)), (q11, .inl (aC 0, 33, .inl m_captureLengths))] := by
  refine k_start (cc := cX5_closing) (maxL := 4) (ret := (some .int)) (own := RX5) (lv0 := [(0, .ref q0), (1, .int a1)]) (by decide) rfl rfl (Nat.le_of_ble_eq_true rfl) rfl (fun p e s m below meth c A ls X hP hD hS hl => ?_)
  obtain ⟨hx, hb, hr, hml, hts, hown, hlocks, hA, hE⟩ := id X
  unfold f_X5_closing at hu
  refine lv_aload_n hx hb dX5_closing_0 rfl (lv_at hl 0 rfl) ?_
  refine lv_iload_n hx hb dX5_closing_1 rfl (lv_at hl 1 rfl) ?_
  refine lv_iconst (v := 1) hx hb dX5_closing_2 (by decide) ?_
  refine lv_iadd hx hb dX5_closing_3 ?_
  obtain ⟨z_1, hz_1⟩ : ∃ z, z = f_X5_pattern m_rows m_sizes (a1 + 1) := ⟨_, rfl⟩
  replace hu := hu.trans (kb_of hz_1)
  refine k_callV (As := [.int (a1 + 1)]) (rest := []) (wc := [(q0, .inr (5, [.ref q1, .ref q2, .ref q3, .int m_madeSize, .ref q4, .ref q5, .ref q6, .ref q7, .ref q8, .ref q9, .int m_depth, .int m_end, .ref q10, .ref q11, .int m_captureCount, .int m_looks, .int m_trouble, .int m_found, .int m_first, .int m_from, .int m_ended])), (q1, .inl (aC 1, 5632, .inl m_rows)), (q2, .inl (aC 0, 3, .inl m_sizes)), (q3, .inl (aC 1, 8192, .inl m_made)), (q4, .inl (aC 0, 520, .inl m_begins)), (q5, .inl (aC 0, 520, .inl m_places)), (q6, .inl (aC 0, 520, .inl m_kinds)), (q7, .inl (aC 0, 520, .inl m_nexts)), (q8, .inl (aC 0, 520, .inl m_choices)), (q9, .inl (aC 0, 520, .inl m_leasts)), (q10, .inl (aC 0, 33, .inl m_captureBegins)), (q11, .inl (aC 0, 33, .inl m_captureLengths))]) (wr := []) (w1 := [(q0, .inr (5, [.ref q1, .ref q2, .ref q3, .int m_madeSize, .ref q4, .ref q5, .ref q6, .ref q7, .ref q8, .ref q9, .int m_depth, .int m_end, .ref q10, .ref q11, .int m_captureCount, .int m_looks, .int m_trouble, .int m_found, .int m_first, .int m_from, .int m_ended])), (q1, .inl (aC 1, 5632, .inl m_rows)), (q2, .inl (aC 0, 3, .inl m_sizes)), (q3, .inl (aC 1, 8192, .inl m_made)), (q4, .inl (aC 0, 520, .inl m_begins)), (q5, .inl (aC 0, 520, .inl m_places)), (q6, .inl (aC 0, 520, .inl m_kinds)), (q7, .inl (aC 0, 520, .inl m_nexts)), (q8, .inl (aC 0, 520, .inl m_choices)), (q9, .inl (aC 0, 520, .inl m_leasts)), (q10, .inl (aC 0, 33, .inl m_captureBegins)), (q11, .inl (aC 0, 33, .inl m_captureLengths))]) (wn := [(q0, .inr (5, [.ref q1, .ref q2, .ref q3, .int m_madeSize, .ref q4, .ref q5, .ref q6, .ref q7, .ref q8, .ref q9, .int m_depth, .int m_end, .ref q10, .ref q11, .int m_captureCount, .int m_looks, .int m_trouble, .int m_found, .int m_first, .int m_from, .int m_ended])), (q1, .inl (aC 1, 5632, .inl m_rows)), (q2, .inl (aC 0, 3, .inl m_sizes)), (q3, .inl (aC 1, 8192, .inl m_made)), (q4, .inl (aC 0, 520, .inl m_begins)), (q5, .inl (aC 0, 520, .inl m_places)), (q6, .inl (aC 0, 520, .inl m_kinds)), (q7, .inl (aC 0, 520, .inl m_nexts)), (q8, .inl (aC 0, 520, .inl m_choices)), (q9, .inl (aC 0, 520, .inl m_leasts)), (q10, .inl (aC 0, 33, .inl m_captureBegins)), (q11, .inl (aC 0, 33, .inl m_captureLengths))]) ⟨hx, hb, hml, hown, hts⟩ (c_X5_pattern l DD aC tt q0 q1 q2 q3 q4 q5 q6 q7 q8 q9 q10 q11  m_madeSize m_depth m_end m_captureCount m_looks m_trouble m_found m_first m_from m_ended m_rows m_sizes m_made m_begins m_places m_kinds m_nexts m_choices m_leasts m_captureBegins m_captureLengths (a1 + 1) hz3 (show 0 ≤ (a1 + 1).toInt from (by have i1 := kx_rng (a1 + 1); have i2 := kx_rng (a1); first | omega | (have i3 := kx_addK a1 (y := 1) (k := 1) (by decide); omega))) z_1 hz_1) (cwV 1 hts (gdV w_617 w_619 w_39 w_74 w_620) rfl rfl rfl (by decide +kernel) ⟨Nat.le_of_ble_eq_true rfl, Nat.le_of_ble_eq_true rfl⟩) hP hD hS hA hE [0, 1, 2, 3, 4, 5, 6, 7, 8, 9, 10, 11] [] [0, 1, 2, 3, 4, 5, 6, 7, 8, 9, 10, 11] rfl rfl rfl (by decide) (by decide) (by decide) (by decide) (ci := 5) (q0 := 0) rfl rfl rfl hl.1 rfl (Nat.le_of_ble_eq_true rfl) dX5_closing_4 (fun H locs hP hD hS => ?_)
  refine W.eq (g2 := F0 m 7 ls [.int z_1]) rfl ?_
  have h_2 := pf_X5_pattern hz_1
  refine lv_bipush (v := 94) hx hb dX5_closing_7 (by decide) ?_
  refine lv_icmp_ne (tgt := 18) hx hb dX5_closing_9 (by decide) (fun c_3 => ?_) (fun c_3 => ?_)
  · replace hu := hu.trans (if_neg c_3)
    refine lv_iload_n hx hb dX5_closing_18 rfl (lv_at hl 1 rfl) ?_
    refine lv_iconst (v := 1) hx hb dX5_closing_19 (by decide) ?_
    refine lv_iadd hx hb dX5_closing_20 ?_
    refine lv_istore_n (lv' := [(2, .int (a1 + 1)), (0, .ref q0), (1, .int a1)]) hx hb dX5_closing_21 rfl hl (by decide) rfl (fun ls hl => ?_)
    refine lv_iload_n hx hb dX5_closing_22 rfl (lv_at hl 0 rfl) ?_
    refine lv_istore_n (lv' := [(3, .int (a1 + 1)), (2, .int (a1 + 1)), (0, .ref q0), (1, .int a1)]) hx hb dX5_closing_23 rfl hl (by decide) rfl (fun ls hl => ?_)
    exact t_X5_closing_L0 X q0 q1 q2 q3 q4 q5 q6 q7 q8 q9 q10 q11 m_madeSize m_depth m_end m_captureCount m_looks m_trouble m_found m_first m_from m_ended m_rows m_sizes m_made m_begins m_places m_kinds m_nexts m_choices m_leasts m_captureBegins m_captureLengths a1 hz3 hk hk2 (((m_sizes 1).toInt - (a1 + 1).toInt).toNat + 1) a1 (a1 + 1) (a1 + 1) (show 0 ≤ (a1 + 1).toInt from (by have i1 := kx_ne c_3; have i2 := kx_rng (a1 + 1); have i3 := kx_rng (a1); have i5 := kx_rng (z_1); have i6 : (94 : Int32).toInt = 94 := (by decide); first | omega | (have i4 := kx_addK a1 (y := 1) (k := 1) (by decide); omega))) (show (a1 + 1).toInt ≤ 700 from (by have i1 := kx_ne c_3; have i2 := kx_rng (a1 + 1); have i3 := kx_rng (a1); have i5 := kx_rng (z_1); have i6 : (94 : Int32).toInt = 94 := (by decide); first | omega | (have i4 := kx_addK a1 (y := 1) (k := 1) (by decide); omega))) (Nat.lt_succ_self _) u hu _ _ _ hP hD hS (lv_sub hl [2, 3, 1, 0] rfl)
  · replace hu := hu.trans (if_pos c_3)
    refine lv_iload_n hx hb dX5_closing_12 rfl (lv_at hl 1 rfl) ?_
    refine lv_iconst (v := 2) hx hb dX5_closing_13 (by decide) ?_
    refine lv_iadd hx hb dX5_closing_14 ?_
    refine lv_goto (tgt := 21) hx hb dX5_closing_15 (by decide) ?_
    refine lv_istore_n (lv' := [(2, .int (a1 + 2)), (0, .ref q0), (1, .int a1)]) hx hb dX5_closing_21 rfl hl (by decide) rfl (fun ls hl => ?_)
    refine lv_iload_n hx hb dX5_closing_22 rfl (lv_at hl 0 rfl) ?_
    refine lv_istore_n (lv' := [(3, .int (a1 + 2)), (2, .int (a1 + 2)), (0, .ref q0), (1, .int a1)]) hx hb dX5_closing_23 rfl hl (by decide) rfl (fun ls hl => ?_)
    exact t_X5_closing_L0 X q0 q1 q2 q3 q4 q5 q6 q7 q8 q9 q10 q11 m_madeSize m_depth m_end m_captureCount m_looks m_trouble m_found m_first m_from m_ended m_rows m_sizes m_made m_begins m_places m_kinds m_nexts m_choices m_leasts m_captureBegins m_captureLengths a1 hz3 hk hk2 (((m_sizes 1).toInt - (a1 + 2).toInt).toNat + 1) a1 (a1 + 2) (a1 + 2) (show 0 ≤ (a1 + 2).toInt from (by have i1 := congrArg Int32.toInt c_3; have i2 := kx_rng (a1 + 2); have i3 := kx_rng (a1); have i5 := kx_rng (z_1); have i6 : (94 : Int32).toInt = 94 := (by decide); first | omega | (have i4 := kx_addK a1 (y := 2) (k := 2) (by decide); omega))) (show (a1 + 2).toInt ≤ 700 from (by have i1 := congrArg Int32.toInt c_3; have i2 := kx_rng (a1 + 2); have i3 := kx_rng (a1); have i5 := kx_rng (z_1); have i6 : (94 : Int32).toInt = 94 := (by decide); first | omega | (have i4 := kx_addK a1 (y := 2) (k := 2) (by decide); omega))) (Nat.lt_succ_self _) u hu _ _ _ hP hD hS (lv_sub hl [2, 3, 1, 0] rfl)
theorem pf_X5_closing_L0 (m_rows m_sizes : Nat → Int32) (x1 x3 : Int32) : ∀ (k : Nat) (x2 : Int32), (f_X5_closing_L0 k m_rows m_sizes x1 x2 x3).toInt ≤ 0 ∨ (f_X5_closing_L0 k m_rows m_sizes x1 x2 x3).toInt < (m_sizes 1).toInt := by
  intro k
  induction k with
  | zero => intro x2; exact Or.inl (show (0 : Int32).toInt ≤ 0 by decide)
  | succ k ih =>
    intro x2
    rw [f_X5_closing_L0_s]
    have key : ∀ z, z = f_X5_pattern m_rows m_sizes x2 → 0 ≤ z → x2.toInt < (m_sizes 1).toInt := by
      intro z hz h
      have h1 := pf_X5_pattern hz
      have h2 := kb_le0 h
      omega
    have key2 : ∀ z, z = f_X5_pattern m_rows m_sizes x2 → ¬ z < 0 → x2.toInt < (m_sizes 1).toInt := by
      intro z hz h
      have h1 := pf_X5_pattern hz
      have h2 := kb_nlt0 h
      omega
    unfold kb
    dsimp only
    repeat' split
    all_goals first | exact ih _ | exact Or.inl (by decide) | exact Or.inr (key _ rfl (by assumption)) | exact Or.inr (key2 _ rfl (by assumption)) | skip
theorem pf_X5_closing {m_rows m_sizes : Nat → Int32} {a1 z : Int32} (hz : z = f_X5_closing m_rows m_sizes a1) : z.toInt ≤ 0 ∨ z.toInt < (m_sizes 1).toInt := by
  subst hz
  unfold f_X5_closing kb
  dsimp only
  repeat' split
  all_goals exact pf_X5_closing_L0 _ _ _ _ _ _
def f_X5_setHas_L0 (k : Nat) (m_rows : Nat → Int32) (m_sizes : Nat → Int32) (x1 : Int32) (x2 : Int32) (x3 : Int32) (x4 : Int32) (x5 : Int32) (x6 : Int32) : Int32 := match k with
  | 0 => 0
  | k + 1 => (if x2 ≤ x5 then (if x6 = x4 then 0 else 1) else (kb (f_X5_pattern m_rows m_sizes x5) (fun z_6 => (if z_6 = 37 then (if x6 = 0 then (kb (f_X5_pattern m_rows m_sizes (x5 + 1)) (fun z_30 => (kb (f_X5_classHas z_30 x3) (fun z_32 => (if z_32 = 0 then (f_X5_setHas_L0 k m_rows m_sizes x1 x2 x3 x4 (x5 + 2) 0) else (f_X5_setHas_L0 k m_rows m_sizes x1 x2 x3 x4 (x5 + 2) 1)))))) else (f_X5_setHas_L0 k m_rows m_sizes x1 x2 x3 x4 (x5 + 2) 1)) else (if x2 ≤ (x5 + 2) then (if x6 = 0 then (kb (f_X5_pattern m_rows m_sizes x5) (fun z_11 => (if z_11 = x3 then (f_X5_setHas_L0 k m_rows m_sizes x1 x2 x3 x4 (x5 + 1) 1) else (f_X5_setHas_L0 k m_rows m_sizes x1 x2 x3 x4 (x5 + 1) 0)))) else (f_X5_setHas_L0 k m_rows m_sizes x1 x2 x3 x4 (x5 + 1) 1)) else (kb (f_X5_pattern m_rows m_sizes (x5 + 1)) (fun z_14 => (if z_14 = 45 then (if x6 = 0 then (kb (f_X5_pattern m_rows m_sizes x5) (fun z_22 => (kb (f_X5_pattern m_rows m_sizes (x5 + 2)) (fun z_24 => (kb (f_X5_isBetween x3 z_22 z_24) (fun z_26 => (if z_26 = 0 then (f_X5_setHas_L0 k m_rows m_sizes x1 x2 x3 x4 (x5 + 3) 0) else (f_X5_setHas_L0 k m_rows m_sizes x1 x2 x3 x4 (x5 + 3) 1)))))))) else (f_X5_setHas_L0 k m_rows m_sizes x1 x2 x3 x4 (x5 + 3) 1)) else (if x6 = 0 then (kb (f_X5_pattern m_rows m_sizes x5) (fun z_18 => (if z_18 = x3 then (f_X5_setHas_L0 k m_rows m_sizes x1 x2 x3 x4 (x5 + 1) 1) else (f_X5_setHas_L0 k m_rows m_sizes x1 x2 x3 x4 (x5 + 1) 0)))) else (f_X5_setHas_L0 k m_rows m_sizes x1 x2 x3 x4 (x5 + 1) 1))))))))))
theorem f_X5_setHas_L0_s {k : Nat} {m_rows : Nat → Int32} {m_sizes : Nat → Int32} {x1 : Int32} {x2 : Int32} {x3 : Int32} {x4 : Int32} {x5 : Int32} {x6 : Int32} : f_X5_setHas_L0 (k + 1) m_rows m_sizes x1 x2 x3 x4 x5 x6 = (if x2 ≤ x5 then (if x6 = x4 then 0 else 1) else (kb (f_X5_pattern m_rows m_sizes x5) (fun z_6 => (if z_6 = 37 then (if x6 = 0 then (kb (f_X5_pattern m_rows m_sizes (x5 + 1)) (fun z_30 => (kb (f_X5_classHas z_30 x3) (fun z_32 => (if z_32 = 0 then (f_X5_setHas_L0 k m_rows m_sizes x1 x2 x3 x4 (x5 + 2) 0) else (f_X5_setHas_L0 k m_rows m_sizes x1 x2 x3 x4 (x5 + 2) 1)))))) else (f_X5_setHas_L0 k m_rows m_sizes x1 x2 x3 x4 (x5 + 2) 1)) else (if x2 ≤ (x5 + 2) then (if x6 = 0 then (kb (f_X5_pattern m_rows m_sizes x5) (fun z_11 => (if z_11 = x3 then (f_X5_setHas_L0 k m_rows m_sizes x1 x2 x3 x4 (x5 + 1) 1) else (f_X5_setHas_L0 k m_rows m_sizes x1 x2 x3 x4 (x5 + 1) 0)))) else (f_X5_setHas_L0 k m_rows m_sizes x1 x2 x3 x4 (x5 + 1) 1)) else (kb (f_X5_pattern m_rows m_sizes (x5 + 1)) (fun z_14 => (if z_14 = 45 then (if x6 = 0 then (kb (f_X5_pattern m_rows m_sizes x5) (fun z_22 => (kb (f_X5_pattern m_rows m_sizes (x5 + 2)) (fun z_24 => (kb (f_X5_isBetween x3 z_22 z_24) (fun z_26 => (if z_26 = 0 then (f_X5_setHas_L0 k m_rows m_sizes x1 x2 x3 x4 (x5 + 3) 0) else (f_X5_setHas_L0 k m_rows m_sizes x1 x2 x3 x4 (x5 + 3) 1)))))))) else (f_X5_setHas_L0 k m_rows m_sizes x1 x2 x3 x4 (x5 + 3) 1)) else (if x6 = 0 then (kb (f_X5_pattern m_rows m_sizes x5) (fun z_18 => (if z_18 = x3 then (f_X5_setHas_L0 k m_rows m_sizes x1 x2 x3 x4 (x5 + 1) 1) else (f_X5_setHas_L0 k m_rows m_sizes x1 x2 x3 x4 (x5 + 1) 0)))) else (f_X5_setHas_L0 k m_rows m_sizes x1 x2 x3 x4 (x5 + 1) 1)))))))))) := rfl
def f_X5_setHas (m_rows : Nat → Int32) (m_sizes : Nat → Int32) (a1 : Int32) (a2 : Int32) (a3 : Int32) : Int32 := (kb (f_X5_pattern m_rows m_sizes (a1 + 1)) (fun z_1 => (if z_1 = 94 then (f_X5_setHas_L0 ((a2.toInt - (a1 + 2).toInt).toNat + 1) m_rows m_sizes a1 a2 a3 1 (a1 + 2) 0) else (f_X5_setHas_L0 ((a2.toInt - (a1 + 1).toInt).toNat + 1) m_rows m_sizes a1 a2 a3 0 (a1 + 1) 0))))
set_option maxHeartbeats 4000000 in
theorem pt_X5_setHas_L0 (m_rows : Nat → Int32) (m_sizes : Nat → Int32) (a1 : Int32) (a2 : Int32) (a3 : Int32) (hz3 : (m_sizes 1).toInt ≤ 512) (hk : 0 ≤ a1.toInt) (hk2 : a1.toInt ≤ 600) (hc : a2.toInt ≤ 600) :
    ∀ (k : Nat) (x1 : Int32) (x2 : Int32) (x3 : Int32) (x4 : Int32) (x5 : Int32) (x6 : Int32), (0 ≤ x5.toInt) → (x2.toInt ≤ 600) → ∀ (u : Int32), u = f_X5_setHas_L0 k m_rows m_sizes x1 x2 x3 x4 x5 x6 → (u = 0 ∨ u = 1) := by
  intro k
  induction k with
  | zero =>
    intro x1 x2 x3 x4 x5 x6 hq0 hq1 u hu
    subst hu
    exact (by first | exact kp_0 | exact kp_n _ | exact Or.inl rfl)
  | succ k ih =>
    intro x1 x2 x3 x4 x5 x6 hq0 hq1 u hu
    replace hu := hu.trans f_X5_setHas_L0_s
    rcases Classical.em (x2 ≤ x5) with c_4 | c_4
    · replace hu := hu.trans (if_pos c_4)
      rcases Classical.em (x6 = x4) with c_5 | c_5
      · replace hu := hu.trans (if_pos c_5)
        rw [hu]
        exact show ((0 : Int32) = 0 ∨ (0 : Int32) = 1) from (Or.inl rfl)
      · replace hu := hu.trans (if_neg c_5)
        rw [hu]
        exact show ((1 : Int32) = 0 ∨ (1 : Int32) = 1) from (Or.inr rfl)
    · replace hu := hu.trans (if_neg c_4)
      obtain ⟨z_6, hz_6⟩ : ∃ z, z = f_X5_pattern m_rows m_sizes x5 := ⟨_, rfl⟩
      replace hu := hu.trans (kb_of hz_6)
      have h_7 := pf_X5_pattern hz_6
      rcases (Classical.em (z_6 = 37)).symm with c_8 | c_8
      · replace hu := hu.trans (if_neg c_8)
        rcases Classical.em (x2 ≤ (x5 + 2)) with c_9 | c_9
        · replace hu := hu.trans (if_pos c_9)
          rcases (Classical.em (x6 = 0)).symm with c_10 | c_10
          · replace hu := hu.trans (if_neg c_10)
            exact ih x1 x2 x3 x4 (x5 + 1) 1 (show 0 ≤ (x5 + 1).toInt from (by have i1 := kx_nle c_4; have i2 := kx_ne c_8; have i3 := Int32.le_iff_toInt_le.mp c_9; have i4 := kx_ne c_10; have i5 := kx_rng (x5 + 1); have i6 := kx_rng (x5); have i8 := kx_rng (x2); have i9 := kx_rng (z_6); have i10 : (37 : Int32).toInt = 37 := (by decide); have i11 := kx_rng (x5 + 2); have i13 := kx_rng (x6); have i14 : (0 : Int32).toInt = 0 := (by decide); first | omega | (have i7 := kx_addK x5 (y := 1) (k := 1) (by decide); have i12 := kx_addK x5 (y := 2) (k := 2) (by decide); omega))) hq1 u hu
          · replace hu := hu.trans (if_pos c_10)
            obtain ⟨z_11, hz_11⟩ : ∃ z, z = f_X5_pattern m_rows m_sizes x5 := ⟨_, rfl⟩
            replace hu := hu.trans (kb_of hz_11)
            have h_12 := pf_X5_pattern hz_11
            rcases (Classical.em (z_11 = x3)).symm with c_13 | c_13
            · replace hu := hu.trans (if_neg c_13)
              exact ih x1 x2 x3 x4 (x5 + 1) 0 (show 0 ≤ (x5 + 1).toInt from (by have i1 := kx_nle c_4; have i2 := kx_ne c_8; have i3 := Int32.le_iff_toInt_le.mp c_9; have i4 := congrArg Int32.toInt c_10; have i5 := kx_ne c_13; have i6 := kx_rng (x5 + 1); have i7 := kx_rng (x5); have i9 := kx_rng (x2); have i10 := kx_rng (z_6); have i11 : (37 : Int32).toInt = 37 := (by decide); have i12 := kx_rng (x5 + 2); have i14 := kx_rng (x6); have i15 : (0 : Int32).toInt = 0 := (by decide); have i16 := kx_rng (z_11); have i17 := kx_rng (x3); first | omega | (have i8 := kx_addK x5 (y := 1) (k := 1) (by decide); have i13 := kx_addK x5 (y := 2) (k := 2) (by decide); omega))) hq1 u hu
            · replace hu := hu.trans (if_pos c_13)
              exact ih x1 x2 x3 x4 (x5 + 1) 1 (show 0 ≤ (x5 + 1).toInt from (by have i1 := kx_nle c_4; have i2 := kx_ne c_8; have i3 := Int32.le_iff_toInt_le.mp c_9; have i4 := congrArg Int32.toInt c_10; have i5 := congrArg Int32.toInt c_13; have i6 := kx_rng (x5 + 1); have i7 := kx_rng (x5); have i9 := kx_rng (x2); have i10 := kx_rng (z_6); have i11 : (37 : Int32).toInt = 37 := (by decide); have i12 := kx_rng (x5 + 2); have i14 := kx_rng (x6); have i15 : (0 : Int32).toInt = 0 := (by decide); have i16 := kx_rng (z_11); have i17 := kx_rng (x3); first | omega | (have i8 := kx_addK x5 (y := 1) (k := 1) (by decide); have i13 := kx_addK x5 (y := 2) (k := 2) (by decide); omega))) hq1 u hu
        · replace hu := hu.trans (if_neg c_9)
          obtain ⟨z_14, hz_14⟩ : ∃ z, z = f_X5_pattern m_rows m_sizes (x5 + 1) := ⟨_, rfl⟩
          replace hu := hu.trans (kb_of hz_14)
          have h_15 := pf_X5_pattern hz_14
          rcases (Classical.em (z_14 = 45)).symm with c_16 | c_16
          · replace hu := hu.trans (if_neg c_16)
            rcases (Classical.em (x6 = 0)).symm with c_17 | c_17
            · replace hu := hu.trans (if_neg c_17)
              exact ih x1 x2 x3 x4 (x5 + 1) 1 (show 0 ≤ (x5 + 1).toInt from (by have i1 := kx_nle c_4; have i2 := kx_ne c_8; have i3 := kx_nle c_9; have i4 := kx_ne c_16; have i5 := kx_ne c_17; have i6 := kx_rng (x5 + 1); have i7 := kx_rng (x5); have i9 := kx_rng (x2); have i10 := kx_rng (z_6); have i11 : (37 : Int32).toInt = 37 := (by decide); have i12 := kx_rng (x5 + 2); have i14 := kx_rng (z_14); have i15 : (45 : Int32).toInt = 45 := (by decide); have i16 := kx_rng (x6); have i17 : (0 : Int32).toInt = 0 := (by decide); first | omega | (have i8 := kx_addK x5 (y := 1) (k := 1) (by decide); have i13 := kx_addK x5 (y := 2) (k := 2) (by decide); omega))) hq1 u hu
            · replace hu := hu.trans (if_pos c_17)
              obtain ⟨z_18, hz_18⟩ : ∃ z, z = f_X5_pattern m_rows m_sizes x5 := ⟨_, rfl⟩
              replace hu := hu.trans (kb_of hz_18)
              have h_19 := pf_X5_pattern hz_18
              rcases (Classical.em (z_18 = x3)).symm with c_20 | c_20
              · replace hu := hu.trans (if_neg c_20)
                exact ih x1 x2 x3 x4 (x5 + 1) 0 (show 0 ≤ (x5 + 1).toInt from (by have i1 := kx_nle c_4; have i2 := kx_ne c_8; have i3 := kx_nle c_9; have i4 := kx_ne c_16; have i5 := congrArg Int32.toInt c_17; have i6 := kx_ne c_20; have i7 := kx_rng (x5 + 1); have i8 := kx_rng (x5); have i10 := kx_rng (x2); have i11 := kx_rng (z_6); have i12 : (37 : Int32).toInt = 37 := (by decide); have i13 := kx_rng (x5 + 2); have i15 := kx_rng (z_14); have i16 : (45 : Int32).toInt = 45 := (by decide); have i17 := kx_rng (x6); have i18 : (0 : Int32).toInt = 0 := (by decide); have i19 := kx_rng (z_18); have i20 := kx_rng (x3); first | omega | (have i9 := kx_addK x5 (y := 1) (k := 1) (by decide); have i14 := kx_addK x5 (y := 2) (k := 2) (by decide); omega))) hq1 u hu
              · replace hu := hu.trans (if_pos c_20)
                exact ih x1 x2 x3 x4 (x5 + 1) 1 (show 0 ≤ (x5 + 1).toInt from (by have i1 := kx_nle c_4; have i2 := kx_ne c_8; have i3 := kx_nle c_9; have i4 := kx_ne c_16; have i5 := congrArg Int32.toInt c_17; have i6 := congrArg Int32.toInt c_20; have i7 := kx_rng (x5 + 1); have i8 := kx_rng (x5); have i10 := kx_rng (x2); have i11 := kx_rng (z_6); have i12 : (37 : Int32).toInt = 37 := (by decide); have i13 := kx_rng (x5 + 2); have i15 := kx_rng (z_14); have i16 : (45 : Int32).toInt = 45 := (by decide); have i17 := kx_rng (x6); have i18 : (0 : Int32).toInt = 0 := (by decide); have i19 := kx_rng (z_18); have i20 := kx_rng (x3); first | omega | (have i9 := kx_addK x5 (y := 1) (k := 1) (by decide); have i14 := kx_addK x5 (y := 2) (k := 2) (by decide); omega))) hq1 u hu
          · replace hu := hu.trans (if_pos c_16)
            rcases (Classical.em (x6 = 0)).symm with c_21 | c_21
            · replace hu := hu.trans (if_neg c_21)
              exact ih x1 x2 x3 x4 (x5 + 3) 1 (show 0 ≤ (x5 + 3).toInt from (by have i1 := kx_nle c_4; have i2 := kx_ne c_8; have i3 := kx_nle c_9; have i4 := congrArg Int32.toInt c_16; have i5 := kx_ne c_21; have i6 := kx_rng (x5 + 3); have i7 := kx_rng (x5); have i9 := kx_rng (x2); have i10 := kx_rng (z_6); have i11 : (37 : Int32).toInt = 37 := (by decide); have i12 := kx_rng (x5 + 2); have i14 := kx_rng (z_14); have i15 : (45 : Int32).toInt = 45 := (by decide); have i16 := kx_rng (x6); have i17 : (0 : Int32).toInt = 0 := (by decide); first | omega | (have i8 := kx_addK x5 (y := 3) (k := 3) (by decide); have i13 := kx_addK x5 (y := 2) (k := 2) (by decide); omega))) hq1 u hu
            · replace hu := hu.trans (if_pos c_21)
              obtain ⟨z_22, hz_22⟩ : ∃ z, z = f_X5_pattern m_rows m_sizes x5 := ⟨_, rfl⟩
              replace hu := hu.trans (kb_of hz_22)
              have h_23 := pf_X5_pattern hz_22
              obtain ⟨z_24, hz_24⟩ : ∃ z, z = f_X5_pattern m_rows m_sizes (x5 + 2) := ⟨_, rfl⟩
              replace hu := hu.trans (kb_of hz_24)
              have h_25 := pf_X5_pattern hz_24
              obtain ⟨z_26, hz_26⟩ : ∃ z, z = f_X5_isBetween x3 z_22 z_24 := ⟨_, rfl⟩
              replace hu := hu.trans (kb_of hz_26)
              have h_27 := pf_X5_isBetween hz_26
              rcases Classical.em (z_26 = 0) with c_28 | c_28
              · replace hu := hu.trans (if_pos c_28)
                exact ih x1 x2 x3 x4 (x5 + 3) 0 (show 0 ≤ (x5 + 3).toInt from (by have i1 := kx_nle c_4; have i2 := kx_ne c_8; have i3 := kx_nle c_9; have i4 := congrArg Int32.toInt c_16; have i5 := congrArg Int32.toInt c_21; have i6 := congrArg Int32.toInt c_28; have i7 := kx_rng (x5 + 3); have i8 := kx_rng (x5); have i10 := kx_rng (x2); have i11 := kx_rng (z_6); have i12 : (37 : Int32).toInt = 37 := (by decide); have i13 := kx_rng (x5 + 2); have i15 := kx_rng (z_14); have i16 : (45 : Int32).toInt = 45 := (by decide); have i17 := kx_rng (x6); have i18 : (0 : Int32).toInt = 0 := (by decide); have i19 := kx_rng (z_26); first | omega | (have i9 := kx_addK x5 (y := 3) (k := 3) (by decide); have i14 := kx_addK x5 (y := 2) (k := 2) (by decide); omega))) hq1 u hu
              · replace hu := hu.trans (if_neg c_28)
                exact ih x1 x2 x3 x4 (x5 + 3) 1 (show 0 ≤ (x5 + 3).toInt from (by have i1 := kx_nle c_4; have i2 := kx_ne c_8; have i3 := kx_nle c_9; have i4 := congrArg Int32.toInt c_16; have i5 := congrArg Int32.toInt c_21; have i6 := kx_ne c_28; have i7 := kx_rng (x5 + 3); have i8 := kx_rng (x5); have i10 := kx_rng (x2); have i11 := kx_rng (z_6); have i12 : (37 : Int32).toInt = 37 := (by decide); have i13 := kx_rng (x5 + 2); have i15 := kx_rng (z_14); have i16 : (45 : Int32).toInt = 45 := (by decide); have i17 := kx_rng (x6); have i18 : (0 : Int32).toInt = 0 := (by decide); have i19 := kx_rng (z_26); first | omega | (have i9 := kx_addK x5 (y := 3) (k := 3) (by decide); have i14 := kx_addK x5 (y := 2) (k := 2) (by decide); omega))) hq1 u hu
      · replace hu := hu.trans (if_pos c_8)
        rcases (Classical.em (x6 = 0)).symm with c_29 | c_29
        · replace hu := hu.trans (if_neg c_29)
          exact ih x1 x2 x3 x4 (x5 + 2) 1 (show 0 ≤ (x5 + 2).toInt from (by have i1 := kx_nle c_4; have i2 := congrArg Int32.toInt c_8; have i3 := kx_ne c_29; have i4 := kx_rng (x5 + 2); have i5 := kx_rng (x5); have i7 := kx_rng (x2); have i8 := kx_rng (z_6); have i9 : (37 : Int32).toInt = 37 := (by decide); have i10 := kx_rng (x6); have i11 : (0 : Int32).toInt = 0 := (by decide); first | omega | (have i6 := kx_addK x5 (y := 2) (k := 2) (by decide); omega))) hq1 u hu
        · replace hu := hu.trans (if_pos c_29)
          obtain ⟨z_30, hz_30⟩ : ∃ z, z = f_X5_pattern m_rows m_sizes (x5 + 1) := ⟨_, rfl⟩
          replace hu := hu.trans (kb_of hz_30)
          have h_31 := pf_X5_pattern hz_30
          obtain ⟨z_32, hz_32⟩ : ∃ z, z = f_X5_classHas z_30 x3 := ⟨_, rfl⟩
          replace hu := hu.trans (kb_of hz_32)
          have h_33 := pf_X5_classHas hz_32
          rcases Classical.em (z_32 = 0) with c_34 | c_34
          · replace hu := hu.trans (if_pos c_34)
            exact ih x1 x2 x3 x4 (x5 + 2) 0 (show 0 ≤ (x5 + 2).toInt from (by have i1 := kx_nle c_4; have i2 := congrArg Int32.toInt c_8; have i3 := congrArg Int32.toInt c_29; have i4 := congrArg Int32.toInt c_34; have i5 := kx_rng (x5 + 2); have i6 := kx_rng (x5); have i8 := kx_rng (x2); have i9 := kx_rng (z_6); have i10 : (37 : Int32).toInt = 37 := (by decide); have i11 := kx_rng (x6); have i12 : (0 : Int32).toInt = 0 := (by decide); have i13 := kx_rng (z_32); first | omega | (have i7 := kx_addK x5 (y := 2) (k := 2) (by decide); omega))) hq1 u hu
          · replace hu := hu.trans (if_neg c_34)
            exact ih x1 x2 x3 x4 (x5 + 2) 1 (show 0 ≤ (x5 + 2).toInt from (by have i1 := kx_nle c_4; have i2 := congrArg Int32.toInt c_8; have i3 := congrArg Int32.toInt c_29; have i4 := kx_ne c_34; have i5 := kx_rng (x5 + 2); have i6 := kx_rng (x5); have i8 := kx_rng (x2); have i9 := kx_rng (z_6); have i10 : (37 : Int32).toInt = 37 := (by decide); have i11 := kx_rng (x6); have i12 : (0 : Int32).toInt = 0 := (by decide); have i13 := kx_rng (z_32); first | omega | (have i7 := kx_addK x5 (y := 2) (k := 2) (by decide); omega))) hq1 u hu
set_option maxHeartbeats 4000000 in
theorem pf_X5_setHas {m_rows : Nat → Int32} {m_sizes : Nat → Int32} {a1 : Int32} {a2 : Int32} {a3 : Int32} (hz3 : (m_sizes 1).toInt ≤ 512) (hk : 0 ≤ a1.toInt) (hk2 : a1.toInt ≤ 600) (hc : a2.toInt ≤ 600) {u : Int32} (hu : u = f_X5_setHas m_rows m_sizes a1 a2 a3) : (u = 0 ∨ u = 1) := by
  unfold f_X5_setHas at hu
  obtain ⟨z_1, hz_1⟩ : ∃ z, z = f_X5_pattern m_rows m_sizes (a1 + 1) := ⟨_, rfl⟩
  replace hu := hu.trans (kb_of hz_1)
  have h_2 := pf_X5_pattern hz_1
  rcases (Classical.em (z_1 = 94)).symm with c_3 | c_3
  · replace hu := hu.trans (if_neg c_3)
    exact pt_X5_setHas_L0 m_rows m_sizes a1 a2 a3 hz3 hk hk2 hc ((a2.toInt - (a1 + 1).toInt).toNat + 1) a1 a2 a3 0 (a1 + 1) 0 (show 0 ≤ (a1 + 1).toInt from (by have i1 := kx_ne c_3; have i2 := kx_rng (a1 + 1); have i3 := kx_rng (a1); have i5 := kx_rng (z_1); have i6 : (94 : Int32).toInt = 94 := (by decide); first | omega | (have i4 := kx_addK a1 (y := 1) (k := 1) (by decide); omega))) hc u hu
  · replace hu := hu.trans (if_pos c_3)
    exact pt_X5_setHas_L0 m_rows m_sizes a1 a2 a3 hz3 hk hk2 hc ((a2.toInt - (a1 + 2).toInt).toNat + 1) a1 a2 a3 1 (a1 + 2) 0 (show 0 ≤ (a1 + 2).toInt from (by have i1 := congrArg Int32.toInt c_3; have i2 := kx_rng (a1 + 2); have i3 := kx_rng (a1); have i5 := kx_rng (z_1); have i6 : (94 : Int32).toInt = 94 := (by decide); first | omega | (have i4 := kx_addK a1 (y := 2) (k := 2) (by decide); omega))) hc u hu
abbrev rm_X5_setHas : Room := { frames := 3, cells := 0, slots := 0, locals := 65 }
set_option maxHeartbeats 4000000 in
set_option maxRecDepth 100000 in
theorem t_X5_setHas_L0 {l : Launch} {DD : va_G} {aC : Nat → ClassId} {tt : Nat → Nat} {p : Program} {e : Env} {s : State} {m : MethodId} {below : List Frame} {meth : Method} {c : Code} {A : Nat → Prop} {AV : Array Value} (X : kX p s m AV meth c cX5_setHas (some .boolean) 7 wsX5_setHas RX5 DD aC tt A) (q0 q1 q2 q3 q4 q5 q6 q7 q8 q9 q10 q11 : Nat) (m_madeSize : Int32) (m_depth : Int32) (m_end : Int32) (m_captureCount : Int32) (m_looks : Int32) (m_trouble : Int32) (m_found : Int32) (m_first : Int32) (m_from : Int32) (m_ended : Int32) (m_rows : Nat → Int32) (m_sizes : Nat → Int32) (m_made : Nat → Int32) (m_begins : Nat → Int32) (m_places : Nat → Int32) (m_kinds : Nat → Int32) (m_nexts : Nat → Int32) (m_choices : Nat → Int32) (m_leasts : Nat → Int32) (m_captureBegins : Nat → Int32) (m_captureLengths : Nat → Int32) (a1 : Int32) (a2 : Int32) (a3 : Int32) (hz3 : (m_sizes 1).toInt ≤ 512) (hk : 0 ≤ a1.toInt) (hk2 : a1.toInt ≤ 600) (hc : a2.toInt ≤ 600) :
    ∀ (k : Nat) (x1 : Int32) (x2 : Int32) (x3 : Int32) (x4 : Int32) (x5 : Int32) (x6 : Int32), (0 ≤ x5.toInt) → (x2.toInt ≤ 600) → (x2.toInt - x5.toInt).toNat < k → ∀ (u : Int32), u = f_X5_setHas_L0 k m_rows m_sizes x1 x2 x3 x4 x5 x6 → ∀ (H : Heap) (locs : List Loc) (ls : Array Slot), va_P DD vwCl [(q0, .inr (5, [.ref q1, .ref q2, .ref q3, .int m_madeSize, .ref q4, .ref q5, .ref q6, .ref q7, .ref q8, .ref q9, .int m_depth, .int m_end, .ref q10, .ref q11, .int m_captureCount, .int m_looks, .int m_trouble, .int m_found, .int m_first, .int m_from, .int m_ended])), (q1, .inl (aC 1, 5632, .inl m_rows)), (q2, .inl (aC 0, 3, .inl m_sizes)), (q3, .inl (aC 1, 8192, .inl m_made)), (q4, .inl (aC 0, 520, .inl m_begins)), (q5, .inl (aC 0, 520, .inl m_places)), (q6, .inl (aC 0, 520, .inl m_kinds)), (q7, .inl (aC 0, 520, .inl m_nexts)), (q8, .inl (aC 0, 520, .inl m_choices)), (q9, .inl (aC 0, 520, .inl m_leasts)), (q10, .inl (aC 0, 33, .inl m_captureBegins)), (q11, .inl (aC 0, 33, .inl m_captureLengths))] H → va_D A [(q0, .inr (5, [.ref q1, .ref q2, .ref q3, .int m_madeSize, .ref q4, .ref q5, .ref q6, .ref q7, .ref q8, .ref q9, .int m_depth, .int m_end, .ref q10, .ref q11, .int m_captureCount, .int m_looks, .int m_trouble, .int m_found, .int m_first, .int m_from, .int m_ended])), (q1, .inl (aC 1, 5632, .inl m_rows)), (q2, .inl (aC 0, 3, .inl m_sizes)), (q3, .inl (aC 1, 8192, .inl m_made)), (q4, .inl (aC 0, 520, .inl m_begins)), (q5, .inl (aC 0, 520, .inl m_places)), (q6, .inl (aC 0, 520, .inl m_kinds)), (q7, .inl (aC 0, 520, .inl m_nexts)), (q8, .inl (aC 0, 520, .inl m_choices)), (q9, .inl (aC 0, 520, .inl m_leasts)), (q10, .inl (aC 0, 33, .inl m_captureBegins)), (q11, .inl (aC 0, 33, .inl m_captureLengths))] → va_S A s.heap H locs → lv_has ls 7 [(0, .ref q0), (1, .int x1), (2, .int x2), (3, .int x3), (4, .int x4), (5, .int x5), (6, .int x6)] → W p l e rm_X5_setHas s m AV below meth c H locs 0 0 (MQ below (kQ DD vwCl (some (.int u)) [(q0, .inr (5, [.ref q1, .ref q2, .ref q3, .int m_madeSize, .ref q4, .ref q5, .ref q6, .ref q7, .ref q8, .ref q9, .int m_depth, .int m_end, .ref q10, .ref q11, .int m_captureCount, .int m_looks, .int m_trouble, .int m_found, .int m_first, .int m_from, .int m_ended])), (q1, .inl (aC 1, 5632, .inl m_rows)), (q2, .inl (aC 0, 3, .inl m_sizes)), (q3, .inl (aC 1, 8192, .inl m_made)), (q4, .inl (aC 0, 520, .inl m_begins)), (q5, .inl (aC 0, 520, .inl m_places)), (q6, .inl (aC 0, 520, .inl m_kinds)), (q7, .inl (aC 0, 520, .inl m_nexts)), (q8, .inl (aC 0, 520, .inl m_choices)), (q9, .inl (aC 0, 520, .inl m_leasts)), (q10, .inl (aC 0, 33, .inl m_captureBegins)), (q11, .inl (aC 0, 33, .inl m_captureLengths))] A) AV s 0 0 A) (F0 m 38 ls []) := by
  obtain ⟨hx, hb, hr, hml, hts, hown, hlocks, hA, hE⟩ := id X
  intro k
  induction k with
  | zero =>
    intro x1 x2 x3 x4 x5 x6 hq0 hq1 hk
    exact absurd hk (Nat.not_lt_zero _)
  | succ k ih =>
    intro x1 x2 x3 x4 x5 x6 hq0 hq1 hk u hu H locs ls hP hD hS hl
    replace hu := hu.trans f_X5_setHas_L0_s
    refine lv_iload hx hb dX5_setHas_38 (lv_at hl 5 rfl) ?_
    refine lv_iload_n hx hb dX5_setHas_40 rfl (lv_at hl 2 rfl) ?_
    refine lv_icmp_ge (tgt := 176) hx hb dX5_setHas_41 (by decide) (fun c_4 => ?_) (fun c_4 => ?_)
    · replace hu := hu.trans (if_pos c_4)
      refine lv_iload hx hb dX5_setHas_176 (lv_at hl 6 rfl) ?_
      refine lv_iload hx hb dX5_setHas_178 (lv_at hl 4 rfl) ?_
      refine lv_icmp_eq (tgt := 187) hx hb dX5_setHas_180 (by decide) (fun c_5 => ?_) (fun c_5 => ?_)
      · replace hu := hu.trans (if_pos c_5)
        refine lv_iconst (v := 0) hx hb dX5_setHas_187 (by decide) ?_
        subst hu
        exact k_zret hx hb hr (by decide) hlocks hP hD hS rfl rfl dX5_setHas_188
      · replace hu := hu.trans (if_neg c_5)
        refine lv_iconst (v := 1) hx hb dX5_setHas_183 (by decide) ?_
        refine lv_goto (tgt := 188) hx hb dX5_setHas_184 (by decide) ?_
        subst hu
        exact k_zret hx hb hr (by decide) hlocks hP hD hS rfl rfl dX5_setHas_188
    · replace hu := hu.trans (if_neg c_4)
      refine lv_aload_n hx hb dX5_setHas_44 rfl (lv_at hl 0 rfl) ?_
      refine lv_iload hx hb dX5_setHas_45 (lv_at hl 5 rfl) ?_
      obtain ⟨z_6, hz_6⟩ : ∃ z, z = f_X5_pattern m_rows m_sizes x5 := ⟨_, rfl⟩
      replace hu := hu.trans (kb_of hz_6)
      refine k_callV (As := [.int x5]) (rest := []) (wc := [(q0, .inr (5, [.ref q1, .ref q2, .ref q3, .int m_madeSize, .ref q4, .ref q5, .ref q6, .ref q7, .ref q8, .ref q9, .int m_depth, .int m_end, .ref q10, .ref q11, .int m_captureCount, .int m_looks, .int m_trouble, .int m_found, .int m_first, .int m_from, .int m_ended])), (q1, .inl (aC 1, 5632, .inl m_rows)), (q2, .inl (aC 0, 3, .inl m_sizes)), (q3, .inl (aC 1, 8192, .inl m_made)), (q4, .inl (aC 0, 520, .inl m_begins)), (q5, .inl (aC 0, 520, .inl m_places)), (q6, .inl (aC 0, 520, .inl m_kinds)), (q7, .inl (aC 0, 520, .inl m_nexts)), (q8, .inl (aC 0, 520, .inl m_choices)), (q9, .inl (aC 0, 520, .inl m_leasts)), (q10, .inl (aC 0, 33, .inl m_captureBegins)), (q11, .inl (aC 0, 33, .inl m_captureLengths))]) (wr := []) (w1 := [(q0, .inr (5, [.ref q1, .ref q2, .ref q3, .int m_madeSize, .ref q4, .ref q5, .ref q6, .ref q7, .ref q8, .ref q9, .int m_depth, .int m_end, .ref q10, .ref q11, .int m_captureCount, .int m_looks, .int m_trouble, .int m_found, .int m_first, .int m_from, .int m_ended])), (q1, .inl (aC 1, 5632, .inl m_rows)), (q2, .inl (aC 0, 3, .inl m_sizes)), (q3, .inl (aC 1, 8192, .inl m_made)), (q4, .inl (aC 0, 520, .inl m_begins)), (q5, .inl (aC 0, 520, .inl m_places)), (q6, .inl (aC 0, 520, .inl m_kinds)), (q7, .inl (aC 0, 520, .inl m_nexts)), (q8, .inl (aC 0, 520, .inl m_choices)), (q9, .inl (aC 0, 520, .inl m_leasts)), (q10, .inl (aC 0, 33, .inl m_captureBegins)), (q11, .inl (aC 0, 33, .inl m_captureLengths))]) (wn := [(q0, .inr (5, [.ref q1, .ref q2, .ref q3, .int m_madeSize, .ref q4, .ref q5, .ref q6, .ref q7, .ref q8, .ref q9, .int m_depth, .int m_end, .ref q10, .ref q11, .int m_captureCount, .int m_looks, .int m_trouble, .int m_found, .int m_first, .int m_from, .int m_ended])), (q1, .inl (aC 1, 5632, .inl m_rows)), (q2, .inl (aC 0, 3, .inl m_sizes)), (q3, .inl (aC 1, 8192, .inl m_made)), (q4, .inl (aC 0, 520, .inl m_begins)), (q5, .inl (aC 0, 520, .inl m_places)), (q6, .inl (aC 0, 520, .inl m_kinds)), (q7, .inl (aC 0, 520, .inl m_nexts)), (q8, .inl (aC 0, 520, .inl m_choices)), (q9, .inl (aC 0, 520, .inl m_leasts)), (q10, .inl (aC 0, 33, .inl m_captureBegins)), (q11, .inl (aC 0, 33, .inl m_captureLengths))]) ⟨hx, hb, hml, hown, hts⟩ (c_X5_pattern l DD aC tt q0 q1 q2 q3 q4 q5 q6 q7 q8 q9 q10 q11  m_madeSize m_depth m_end m_captureCount m_looks m_trouble m_found m_first m_from m_ended m_rows m_sizes m_made m_begins m_places m_kinds m_nexts m_choices m_leasts m_captureBegins m_captureLengths x5 hz3 hq0 z_6 hz_6) (cwV 1 hts (gdV w_617 w_619 w_39 w_74 w_620) rfl rfl rfl (by decide +kernel) ⟨Nat.le_of_ble_eq_true rfl, Nat.le_of_ble_eq_true rfl⟩) hP hD hS hA hE [0, 1, 2, 3, 4, 5, 6, 7, 8, 9, 10, 11] [] [0, 1, 2, 3, 4, 5, 6, 7, 8, 9, 10, 11] rfl rfl rfl (by decide) (by decide) (by decide) (by decide) (ci := 5) (q0 := 0) rfl rfl rfl hl.1 rfl (Nat.le_of_ble_eq_true rfl) dX5_setHas_47 (fun H locs hP hD hS => ?_)
      refine W.eq (g2 := F0 m 50 ls [.int z_6]) rfl ?_
      have h_7 := pf_X5_pattern hz_6
      refine lv_bipush (v := 37) hx hb dX5_setHas_50 (by decide) ?_
      refine lv_icmp_ne (tgt := 88) hx hb dX5_setHas_52 (by decide) (fun c_8 => ?_) (fun c_8 => ?_)
      · replace hu := hu.trans (if_neg c_8)
        refine lv_iload hx hb dX5_setHas_88 (lv_at hl 5 rfl) ?_
        refine lv_iconst (v := 2) hx hb dX5_setHas_90 (by decide) ?_
        refine lv_iadd hx hb dX5_setHas_91 ?_
        refine lv_iload_n hx hb dX5_setHas_92 rfl (lv_at hl 2 rfl) ?_
        refine lv_icmp_ge (tgt := 148) hx hb dX5_setHas_93 (by decide) (fun c_9 => ?_) (fun c_9 => ?_)
        · replace hu := hu.trans (if_pos c_9)
          refine lv_iload hx hb dX5_setHas_148 (lv_at hl 6 rfl) ?_
          refine lv_if_ne (tgt := 163) hx hb dX5_setHas_150 (by decide) (fun c_10 => ?_) (fun c_10 => ?_)
          · replace hu := hu.trans (if_neg c_10)
            refine lv_iconst (v := 1) hx hb dX5_setHas_163 (by decide) ?_
            refine lv_goto (tgt := 168) hx hb dX5_setHas_164 (by decide) ?_
            refine lv_istore (lv' := [(6, .int 1), (0, .ref q0), (1, .int x1), (2, .int x2), (3, .int x3), (4, .int x4), (5, .int x5)]) hx hb dX5_setHas_168 hl (by decide) rfl (fun ls hl => ?_)
            refine lv_iinc (v := x5 + 1) (lv' := [(5, .int (x5 + 1)), (6, .int 1), (0, .ref q0), (1, .int x1), (2, .int x2), (3, .int x3), (4, .int x4)]) hx hb dX5_setHas_170 hl (k := 6) rfl rfl (by decide) rfl (fun ls hl => ?_)
            refine lv_goto (tgt := 38) hx hb dX5_setHas_173 (by decide) ?_
            exact ih x1 x2 x3 x4 (x5 + 1) 1 (show 0 ≤ (x5 + 1).toInt from (by have i1 := kx_nle c_4; have i2 := kx_ne c_8; have i3 := Int32.le_iff_toInt_le.mp c_9; have i4 := kx_ne c_10; have i5 := kx_rng (x5 + 1); have i6 := kx_rng (x5); have i8 := kx_rng (x2); have i9 := kx_rng (z_6); have i10 : (37 : Int32).toInt = 37 := (by decide); have i11 := kx_rng (x5 + 2); have i13 := kx_rng (x6); have i14 : (0 : Int32).toInt = 0 := (by decide); first | omega | (have i7 := kx_addK x5 (y := 1) (k := 1) (by decide); have i12 := kx_addK x5 (y := 2) (k := 2) (by decide); omega))) hq1 (Nat.lt_of_lt_of_le (kmu_up c_4) (Nat.le_of_lt_succ hk)) u hu _ _ _ hP hD hS (lv_sub hl [2, 3, 4, 5, 6, 0, 1] rfl)
          · replace hu := hu.trans (if_pos c_10)
            refine lv_aload_n hx hb dX5_setHas_153 rfl (lv_at hl 0 rfl) ?_
            refine lv_iload hx hb dX5_setHas_154 (lv_at hl 5 rfl) ?_
            obtain ⟨z_11, hz_11⟩ : ∃ z, z = f_X5_pattern m_rows m_sizes x5 := ⟨_, rfl⟩
            replace hu := hu.trans (kb_of hz_11)
            refine k_callV (As := [.int x5]) (rest := []) (wc := [(q0, .inr (5, [.ref q1, .ref q2, .ref q3, .int m_madeSize, .ref q4, .ref q5, .ref q6, .ref q7, .ref q8, .ref q9, .int m_depth, .int m_end, .ref q10, .ref q11, .int m_captureCount, .int m_looks, .int m_trouble, .int m_found, .int m_first, .int m_from, .int m_ended])), (q1, .inl (aC 1, 5632, .inl m_rows)), (q2, .inl (aC 0, 3, .inl m_sizes)), (q3, .inl (aC 1, 8192, .inl m_made)), (q4, .inl (aC 0, 520, .inl m_begins)), (q5, .inl (aC 0, 520, .inl m_places)), (q6, .inl (aC 0, 520, .inl m_kinds)), (q7, .inl (aC 0, 520, .inl m_nexts)), (q8, .inl (aC 0, 520, .inl m_choices)), (q9, .inl (aC 0, 520, .inl m_leasts)), (q10, .inl (aC 0, 33, .inl m_captureBegins)), (q11, .inl (aC 0, 33, .inl m_captureLengths))]) (wr := []) (w1 := [(q0, .inr (5, [.ref q1, .ref q2, .ref q3, .int m_madeSize, .ref q4, .ref q5, .ref q6, .ref q7, .ref q8, .ref q9, .int m_depth, .int m_end, .ref q10, .ref q11, .int m_captureCount, .int m_looks, .int m_trouble, .int m_found, .int m_first, .int m_from, .int m_ended])), (q1, .inl (aC 1, 5632, .inl m_rows)), (q2, .inl (aC 0, 3, .inl m_sizes)), (q3, .inl (aC 1, 8192, .inl m_made)), (q4, .inl (aC 0, 520, .inl m_begins)), (q5, .inl (aC 0, 520, .inl m_places)), (q6, .inl (aC 0, 520, .inl m_kinds)), (q7, .inl (aC 0, 520, .inl m_nexts)), (q8, .inl (aC 0, 520, .inl m_choices)), (q9, .inl (aC 0, 520, .inl m_leasts)), (q10, .inl (aC 0, 33, .inl m_captureBegins)), (q11, .inl (aC 0, 33, .inl m_captureLengths))]) (wn := [(q0, .inr (5, [.ref q1, .ref q2, .ref q3, .int m_madeSize, .ref q4, .ref q5, .ref q6, .ref q7, .ref q8, .ref q9, .int m_depth, .int m_end, .ref q10, .ref q11, .int m_captureCount, .int m_looks, .int m_trouble, .int m_found, .int m_first, .int m_from, .int m_ended])), (q1, .inl (aC 1, 5632, .inl m_rows)), (q2, .inl (aC 0, 3, .inl m_sizes)), (q3, .inl (aC 1, 8192, .inl m_made)), (q4, .inl (aC 0, 520, .inl m_begins)), (q5, .inl (aC 0, 520, .inl m_places)), (q6, .inl (aC 0, 520, .inl m_kinds)), (q7, .inl (aC 0, 520, .inl m_nexts)), (q8, .inl (aC 0, 520, .inl m_choices)), (q9, .inl (aC 0, 520, .inl m_leasts)), (q10, .inl (aC 0, 33, .inl m_captureBegins)), (q11, .inl (aC 0, 33, .inl m_captureLengths))]) ⟨hx, hb, hml, hown, hts⟩ (c_X5_pattern l DD aC tt q0 q1 q2 q3 q4 q5 q6 q7 q8 q9 q10 q11  m_madeSize m_depth m_end m_captureCount m_looks m_trouble m_found m_first m_from m_ended m_rows m_sizes m_made m_begins m_places m_kinds m_nexts m_choices m_leasts m_captureBegins m_captureLengths x5 hz3 hq0 z_11 hz_11) (cwV 1 hts (gdV w_617 w_619 w_39 w_74 w_620) rfl rfl rfl (by decide +kernel) ⟨Nat.le_of_ble_eq_true rfl, Nat.le_of_ble_eq_true rfl⟩) hP hD hS hA hE [0, 1, 2, 3, 4, 5, 6, 7, 8, 9, 10, 11] [] [0, 1, 2, 3, 4, 5, 6, 7, 8, 9, 10, 11] rfl rfl rfl (by decide) (by decide) (by decide) (by decide) (ci := 5) (q0 := 0) rfl rfl rfl hl.1 rfl (Nat.le_of_ble_eq_true rfl) dX5_setHas_156 (fun H locs hP hD hS => ?_)
            refine W.eq (g2 := F0 m 159 ls [.int z_11]) rfl ?_
            have h_12 := pf_X5_pattern hz_11
            refine lv_iload_n hx hb dX5_setHas_159 rfl (lv_at hl 3 rfl) ?_
            refine lv_icmp_ne (tgt := 167) hx hb dX5_setHas_160 (by decide) (fun c_13 => ?_) (fun c_13 => ?_)
            · replace hu := hu.trans (if_neg c_13)
              refine lv_iconst (v := 0) hx hb dX5_setHas_167 (by decide) ?_
              refine lv_istore (lv' := [(6, .int 0), (0, .ref q0), (1, .int x1), (2, .int x2), (3, .int x3), (4, .int x4), (5, .int x5)]) hx hb dX5_setHas_168 hl (by decide) rfl (fun ls hl => ?_)
              refine lv_iinc (v := x5 + 1) (lv' := [(5, .int (x5 + 1)), (6, .int 0), (0, .ref q0), (1, .int x1), (2, .int x2), (3, .int x3), (4, .int x4)]) hx hb dX5_setHas_170 hl (k := 6) rfl rfl (by decide) rfl (fun ls hl => ?_)
              refine lv_goto (tgt := 38) hx hb dX5_setHas_173 (by decide) ?_
              exact ih x1 x2 x3 x4 (x5 + 1) 0 (show 0 ≤ (x5 + 1).toInt from (by have i1 := kx_nle c_4; have i2 := kx_ne c_8; have i3 := Int32.le_iff_toInt_le.mp c_9; have i4 := congrArg Int32.toInt c_10; have i5 := kx_ne c_13; have i6 := kx_rng (x5 + 1); have i7 := kx_rng (x5); have i9 := kx_rng (x2); have i10 := kx_rng (z_6); have i11 : (37 : Int32).toInt = 37 := (by decide); have i12 := kx_rng (x5 + 2); have i14 := kx_rng (x6); have i15 : (0 : Int32).toInt = 0 := (by decide); have i16 := kx_rng (z_11); have i17 := kx_rng (x3); first | omega | (have i8 := kx_addK x5 (y := 1) (k := 1) (by decide); have i13 := kx_addK x5 (y := 2) (k := 2) (by decide); omega))) hq1 (Nat.lt_of_lt_of_le (kmu_up c_4) (Nat.le_of_lt_succ hk)) u hu _ _ _ hP hD hS (lv_sub hl [2, 3, 4, 5, 6, 0, 1] rfl)
            · replace hu := hu.trans (if_pos c_13)
              refine lv_iconst (v := 1) hx hb dX5_setHas_163 (by decide) ?_
              refine lv_goto (tgt := 168) hx hb dX5_setHas_164 (by decide) ?_
              refine lv_istore (lv' := [(6, .int 1), (0, .ref q0), (1, .int x1), (2, .int x2), (3, .int x3), (4, .int x4), (5, .int x5)]) hx hb dX5_setHas_168 hl (by decide) rfl (fun ls hl => ?_)
              refine lv_iinc (v := x5 + 1) (lv' := [(5, .int (x5 + 1)), (6, .int 1), (0, .ref q0), (1, .int x1), (2, .int x2), (3, .int x3), (4, .int x4)]) hx hb dX5_setHas_170 hl (k := 6) rfl rfl (by decide) rfl (fun ls hl => ?_)
              refine lv_goto (tgt := 38) hx hb dX5_setHas_173 (by decide) ?_
              exact ih x1 x2 x3 x4 (x5 + 1) 1 (show 0 ≤ (x5 + 1).toInt from (by have i1 := kx_nle c_4; have i2 := kx_ne c_8; have i3 := Int32.le_iff_toInt_le.mp c_9; have i4 := congrArg Int32.toInt c_10; have i5 := congrArg Int32.toInt c_13; have i6 := kx_rng (x5 + 1); have i7 := kx_rng (x5); have i9 := kx_rng (x2); have i10 := kx_rng (z_6); have i11 : (37 : Int32).toInt = 37 := (by decide); have i12 := kx_rng (x5 + 2); have i14 := kx_rng (x6); have i15 : (0 : Int32).toInt = 0 := (by decide); have i16 := kx_rng (z_11); have i17 := kx_rng (x3); first | omega | (have i8 := kx_addK x5 (y := 1) (k := 1) (by decide); have i13 := kx_addK x5 (y := 2) (k := 2) (by decide); omega))) hq1 (Nat.lt_of_lt_of_le (kmu_up c_4) (Nat.le_of_lt_succ hk)) u hu _ _ _ hP hD hS (lv_sub hl [2, 3, 4, 5, 6, 0, 1] rfl)
        · replace hu := hu.trans (if_neg c_9)
          refine lv_aload_n hx hb dX5_setHas_96 rfl (lv_at hl 0 rfl) ?_
          refine lv_iload hx hb dX5_setHas_97 (lv_at hl 5 rfl) ?_
          refine lv_iconst (v := 1) hx hb dX5_setHas_99 (by decide) ?_
          refine lv_iadd hx hb dX5_setHas_100 ?_
          obtain ⟨z_14, hz_14⟩ : ∃ z, z = f_X5_pattern m_rows m_sizes (x5 + 1) := ⟨_, rfl⟩
          replace hu := hu.trans (kb_of hz_14)
          refine k_callV (As := [.int (x5 + 1)]) (rest := []) (wc := [(q0, .inr (5, [.ref q1, .ref q2, .ref q3, .int m_madeSize, .ref q4, .ref q5, .ref q6, .ref q7, .ref q8, .ref q9, .int m_depth, .int m_end, .ref q10, .ref q11, .int m_captureCount, .int m_looks, .int m_trouble, .int m_found, .int m_first, .int m_from, .int m_ended])), (q1, .inl (aC 1, 5632, .inl m_rows)), (q2, .inl (aC 0, 3, .inl m_sizes)), (q3, .inl (aC 1, 8192, .inl m_made)), (q4, .inl (aC 0, 520, .inl m_begins)), (q5, .inl (aC 0, 520, .inl m_places)), (q6, .inl (aC 0, 520, .inl m_kinds)), (q7, .inl (aC 0, 520, .inl m_nexts)), (q8, .inl (aC 0, 520, .inl m_choices)), (q9, .inl (aC 0, 520, .inl m_leasts)), (q10, .inl (aC 0, 33, .inl m_captureBegins)), (q11, .inl (aC 0, 33, .inl m_captureLengths))]) (wr := []) (w1 := [(q0, .inr (5, [.ref q1, .ref q2, .ref q3, .int m_madeSize, .ref q4, .ref q5, .ref q6, .ref q7, .ref q8, .ref q9, .int m_depth, .int m_end, .ref q10, .ref q11, .int m_captureCount, .int m_looks, .int m_trouble, .int m_found, .int m_first, .int m_from, .int m_ended])), (q1, .inl (aC 1, 5632, .inl m_rows)), (q2, .inl (aC 0, 3, .inl m_sizes)), (q3, .inl (aC 1, 8192, .inl m_made)), (q4, .inl (aC 0, 520, .inl m_begins)), (q5, .inl (aC 0, 520, .inl m_places)), (q6, .inl (aC 0, 520, .inl m_kinds)), (q7, .inl (aC 0, 520, .inl m_nexts)), (q8, .inl (aC 0, 520, .inl m_choices)), (q9, .inl (aC 0, 520, .inl m_leasts)), (q10, .inl (aC 0, 33, .inl m_captureBegins)), (q11, .inl (aC 0, 33, .inl m_captureLengths))]) (wn := [(q0, .inr (5, [.ref q1, .ref q2, .ref q3, .int m_madeSize, .ref q4, .ref q5, .ref q6, .ref q7, .ref q8, .ref q9, .int m_depth, .int m_end, .ref q10, .ref q11, .int m_captureCount, .int m_looks, .int m_trouble, .int m_found, .int m_first, .int m_from, .int m_ended])), (q1, .inl (aC 1, 5632, .inl m_rows)), (q2, .inl (aC 0, 3, .inl m_sizes)), (q3, .inl (aC 1, 8192, .inl m_made)), (q4, .inl (aC 0, 520, .inl m_begins)), (q5, .inl (aC 0, 520, .inl m_places)), (q6, .inl (aC 0, 520, .inl m_kinds)), (q7, .inl (aC 0, 520, .inl m_nexts)), (q8, .inl (aC 0, 520, .inl m_choices)), (q9, .inl (aC 0, 520, .inl m_leasts)), (q10, .inl (aC 0, 33, .inl m_captureBegins)), (q11, .inl (aC 0, 33, .inl m_captureLengths))]) ⟨hx, hb, hml, hown, hts⟩ (c_X5_pattern l DD aC tt q0 q1 q2 q3 q4 q5 q6 q7 q8 q9 q10 q11  m_madeSize m_depth m_end m_captureCount m_looks m_trouble m_found m_first m_from m_ended m_rows m_sizes m_made m_begins m_places m_kinds m_nexts m_choices m_leasts m_captureBegins m_captureLengths (x5 + 1) hz3 (show 0 ≤ (x5 + 1).toInt from (by have i1 := kx_nle c_4; have i2 := kx_ne c_8; have i3 := kx_nle c_9; have i4 := kx_rng (x5 + 1); have i5 := kx_rng (x5); have i7 := kx_rng (x2); have i8 := kx_rng (z_6); have i9 : (37 : Int32).toInt = 37 := (by decide); have i10 := kx_rng (x5 + 2); first | omega | (have i6 := kx_addK x5 (y := 1) (k := 1) (by decide); have i11 := kx_addK x5 (y := 2) (k := 2) (by decide); omega))) z_14 hz_14) (cwV 1 hts (gdV w_617 w_619 w_39 w_74 w_620) rfl rfl rfl (by decide +kernel) ⟨Nat.le_of_ble_eq_true rfl, Nat.le_of_ble_eq_true rfl⟩) hP hD hS hA hE [0, 1, 2, 3, 4, 5, 6, 7, 8, 9, 10, 11] [] [0, 1, 2, 3, 4, 5, 6, 7, 8, 9, 10, 11] rfl rfl rfl (by decide) (by decide) (by decide) (by decide) (ci := 5) (q0 := 0) rfl rfl rfl hl.1 rfl (Nat.le_of_ble_eq_true rfl) dX5_setHas_101 (fun H locs hP hD hS => ?_)
          refine W.eq (g2 := F0 m 104 ls [.int z_14]) rfl ?_
          have h_15 := pf_X5_pattern hz_14
          refine lv_bipush (v := 45) hx hb dX5_setHas_104 (by decide) ?_
          refine lv_icmp_ne (tgt := 148) hx hb dX5_setHas_106 (by decide) (fun c_16 => ?_) (fun c_16 => ?_)
          · replace hu := hu.trans (if_neg c_16)
            refine lv_iload hx hb dX5_setHas_148 (lv_at hl 6 rfl) ?_
            refine lv_if_ne (tgt := 163) hx hb dX5_setHas_150 (by decide) (fun c_17 => ?_) (fun c_17 => ?_)
            · replace hu := hu.trans (if_neg c_17)
              refine lv_iconst (v := 1) hx hb dX5_setHas_163 (by decide) ?_
              refine lv_goto (tgt := 168) hx hb dX5_setHas_164 (by decide) ?_
              refine lv_istore (lv' := [(6, .int 1), (0, .ref q0), (1, .int x1), (2, .int x2), (3, .int x3), (4, .int x4), (5, .int x5)]) hx hb dX5_setHas_168 hl (by decide) rfl (fun ls hl => ?_)
              refine lv_iinc (v := x5 + 1) (lv' := [(5, .int (x5 + 1)), (6, .int 1), (0, .ref q0), (1, .int x1), (2, .int x2), (3, .int x3), (4, .int x4)]) hx hb dX5_setHas_170 hl (k := 6) rfl rfl (by decide) rfl (fun ls hl => ?_)
              refine lv_goto (tgt := 38) hx hb dX5_setHas_173 (by decide) ?_
              exact ih x1 x2 x3 x4 (x5 + 1) 1 (show 0 ≤ (x5 + 1).toInt from (by have i1 := kx_nle c_4; have i2 := kx_ne c_8; have i3 := kx_nle c_9; have i4 := kx_ne c_16; have i5 := kx_ne c_17; have i6 := kx_rng (x5 + 1); have i7 := kx_rng (x5); have i9 := kx_rng (x2); have i10 := kx_rng (z_6); have i11 : (37 : Int32).toInt = 37 := (by decide); have i12 := kx_rng (x5 + 2); have i14 := kx_rng (z_14); have i15 : (45 : Int32).toInt = 45 := (by decide); have i16 := kx_rng (x6); have i17 : (0 : Int32).toInt = 0 := (by decide); first | omega | (have i8 := kx_addK x5 (y := 1) (k := 1) (by decide); have i13 := kx_addK x5 (y := 2) (k := 2) (by decide); omega))) hq1 (Nat.lt_of_lt_of_le (kmu_up c_4) (Nat.le_of_lt_succ hk)) u hu _ _ _ hP hD hS (lv_sub hl [2, 3, 4, 5, 6, 0, 1] rfl)
            · replace hu := hu.trans (if_pos c_17)
              refine lv_aload_n hx hb dX5_setHas_153 rfl (lv_at hl 0 rfl) ?_
              refine lv_iload hx hb dX5_setHas_154 (lv_at hl 5 rfl) ?_
              obtain ⟨z_18, hz_18⟩ : ∃ z, z = f_X5_pattern m_rows m_sizes x5 := ⟨_, rfl⟩
              replace hu := hu.trans (kb_of hz_18)
              refine k_callV (As := [.int x5]) (rest := []) (wc := [(q0, .inr (5, [.ref q1, .ref q2, .ref q3, .int m_madeSize, .ref q4, .ref q5, .ref q6, .ref q7, .ref q8, .ref q9, .int m_depth, .int m_end, .ref q10, .ref q11, .int m_captureCount, .int m_looks, .int m_trouble, .int m_found, .int m_first, .int m_from, .int m_ended])), (q1, .inl (aC 1, 5632, .inl m_rows)), (q2, .inl (aC 0, 3, .inl m_sizes)), (q3, .inl (aC 1, 8192, .inl m_made)), (q4, .inl (aC 0, 520, .inl m_begins)), (q5, .inl (aC 0, 520, .inl m_places)), (q6, .inl (aC 0, 520, .inl m_kinds)), (q7, .inl (aC 0, 520, .inl m_nexts)), (q8, .inl (aC 0, 520, .inl m_choices)), (q9, .inl (aC 0, 520, .inl m_leasts)), (q10, .inl (aC 0, 33, .inl m_captureBegins)), (q11, .inl (aC 0, 33, .inl m_captureLengths))]) (wr := []) (w1 := [(q0, .inr (5, [.ref q1, .ref q2, .ref q3, .int m_madeSize, .ref q4, .ref q5, .ref q6, .ref q7, .ref q8, .ref q9, .int m_depth, .int m_end, .ref q10, .ref q11, .int m_captureCount, .int m_looks, .int m_trouble, .int m_found, .int m_first, .int m_from, .int m_ended])), (q1, .inl (aC 1, 5632, .inl m_rows)), (q2, .inl (aC 0, 3, .inl m_sizes)), (q3, .inl (aC 1, 8192, .inl m_made)), (q4, .inl (aC 0, 520, .inl m_begins)), (q5, .inl (aC 0, 520, .inl m_places)), (q6, .inl (aC 0, 520, .inl m_kinds)), (q7, .inl (aC 0, 520, .inl m_nexts)), (q8, .inl (aC 0, 520, .inl m_choices)), (q9, .inl (aC 0, 520, .inl m_leasts)), (q10, .inl (aC 0, 33, .inl m_captureBegins)), (q11, .inl (aC 0, 33, .inl m_captureLengths))]) (wn := [(q0, .inr (5, [.ref q1, .ref q2, .ref q3, .int m_madeSize, .ref q4, .ref q5, .ref q6, .ref q7, .ref q8, .ref q9, .int m_depth, .int m_end, .ref q10, .ref q11, .int m_captureCount, .int m_looks, .int m_trouble, .int m_found, .int m_first, .int m_from, .int m_ended])), (q1, .inl (aC 1, 5632, .inl m_rows)), (q2, .inl (aC 0, 3, .inl m_sizes)), (q3, .inl (aC 1, 8192, .inl m_made)), (q4, .inl (aC 0, 520, .inl m_begins)), (q5, .inl (aC 0, 520, .inl m_places)), (q6, .inl (aC 0, 520, .inl m_kinds)), (q7, .inl (aC 0, 520, .inl m_nexts)), (q8, .inl (aC 0, 520, .inl m_choices)), (q9, .inl (aC 0, 520, .inl m_leasts)), (q10, .inl (aC 0, 33, .inl m_captureBegins)), (q11, .inl (aC 0, 33, .inl m_captureLengths))]) ⟨hx, hb, hml, hown, hts⟩ (c_X5_pattern l DD aC tt q0 q1 q2 q3 q4 q5 q6 q7 q8 q9 q10 q11  m_madeSize m_depth m_end m_captureCount m_looks m_trouble m_found m_first m_from m_ended m_rows m_sizes m_made m_begins m_places m_kinds m_nexts m_choices m_leasts m_captureBegins m_captureLengths x5 hz3 hq0 z_18 hz_18) (cwV 1 hts (gdV w_617 w_619 w_39 w_74 w_620) rfl rfl rfl (by decide +kernel) ⟨Nat.le_of_ble_eq_true rfl, Nat.le_of_ble_eq_true rfl⟩) hP hD hS hA hE [0, 1, 2, 3, 4, 5, 6, 7, 8, 9, 10, 11] [] [0, 1, 2, 3, 4, 5, 6, 7, 8, 9, 10, 11] rfl rfl rfl (by decide) (by decide) (by decide) (by decide) (ci := 5) (q0 := 0) rfl rfl rfl hl.1 rfl (Nat.le_of_ble_eq_true rfl) dX5_setHas_156 (fun H locs hP hD hS => ?_)
              refine W.eq (g2 := F0 m 159 ls [.int z_18]) rfl ?_
              have h_19 := pf_X5_pattern hz_18
              refine lv_iload_n hx hb dX5_setHas_159 rfl (lv_at hl 3 rfl) ?_
              refine lv_icmp_ne (tgt := 167) hx hb dX5_setHas_160 (by decide) (fun c_20 => ?_) (fun c_20 => ?_)
              · replace hu := hu.trans (if_neg c_20)
                refine lv_iconst (v := 0) hx hb dX5_setHas_167 (by decide) ?_
                refine lv_istore (lv' := [(6, .int 0), (0, .ref q0), (1, .int x1), (2, .int x2), (3, .int x3), (4, .int x4), (5, .int x5)]) hx hb dX5_setHas_168 hl (by decide) rfl (fun ls hl => ?_)
                refine lv_iinc (v := x5 + 1) (lv' := [(5, .int (x5 + 1)), (6, .int 0), (0, .ref q0), (1, .int x1), (2, .int x2), (3, .int x3), (4, .int x4)]) hx hb dX5_setHas_170 hl (k := 6) rfl rfl (by decide) rfl (fun ls hl => ?_)
                refine lv_goto (tgt := 38) hx hb dX5_setHas_173 (by decide) ?_
                exact ih x1 x2 x3 x4 (x5 + 1) 0 (show 0 ≤ (x5 + 1).toInt from (by have i1 := kx_nle c_4; have i2 := kx_ne c_8; have i3 := kx_nle c_9; have i4 := kx_ne c_16; have i5 := congrArg Int32.toInt c_17; have i6 := kx_ne c_20; have i7 := kx_rng (x5 + 1); have i8 := kx_rng (x5); have i10 := kx_rng (x2); have i11 := kx_rng (z_6); have i12 : (37 : Int32).toInt = 37 := (by decide); have i13 := kx_rng (x5 + 2); have i15 := kx_rng (z_14); have i16 : (45 : Int32).toInt = 45 := (by decide); have i17 := kx_rng (x6); have i18 : (0 : Int32).toInt = 0 := (by decide); have i19 := kx_rng (z_18); have i20 := kx_rng (x3); first | omega | (have i9 := kx_addK x5 (y := 1) (k := 1) (by decide); have i14 := kx_addK x5 (y := 2) (k := 2) (by decide); omega))) hq1 (Nat.lt_of_lt_of_le (kmu_up c_4) (Nat.le_of_lt_succ hk)) u hu _ _ _ hP hD hS (lv_sub hl [2, 3, 4, 5, 6, 0, 1] rfl)
              · replace hu := hu.trans (if_pos c_20)
                refine lv_iconst (v := 1) hx hb dX5_setHas_163 (by decide) ?_
                refine lv_goto (tgt := 168) hx hb dX5_setHas_164 (by decide) ?_
                refine lv_istore (lv' := [(6, .int 1), (0, .ref q0), (1, .int x1), (2, .int x2), (3, .int x3), (4, .int x4), (5, .int x5)]) hx hb dX5_setHas_168 hl (by decide) rfl (fun ls hl => ?_)
                refine lv_iinc (v := x5 + 1) (lv' := [(5, .int (x5 + 1)), (6, .int 1), (0, .ref q0), (1, .int x1), (2, .int x2), (3, .int x3), (4, .int x4)]) hx hb dX5_setHas_170 hl (k := 6) rfl rfl (by decide) rfl (fun ls hl => ?_)
                refine lv_goto (tgt := 38) hx hb dX5_setHas_173 (by decide) ?_
                exact ih x1 x2 x3 x4 (x5 + 1) 1 (show 0 ≤ (x5 + 1).toInt from (by have i1 := kx_nle c_4; have i2 := kx_ne c_8; have i3 := kx_nle c_9; have i4 := kx_ne c_16; have i5 := congrArg Int32.toInt c_17; have i6 := congrArg Int32.toInt c_20; have i7 := kx_rng (x5 + 1); have i8 := kx_rng (x5); have i10 := kx_rng (x2); have i11 := kx_rng (z_6); have i12 : (37 : Int32).toInt = 37 := (by decide); have i13 := kx_rng (x5 + 2); have i15 := kx_rng (z_14); have i16 : (45 : Int32).toInt = 45 := (by decide); have i17 := kx_rng (x6); have i18 : (0 : Int32).toInt = 0 := (by decide); have i19 := kx_rng (z_18); have i20 := kx_rng (x3); first | omega | (have i9 := kx_addK x5 (y := 1) (k := 1) (by decide); have i14 := kx_addK x5 (y := 2) (k := 2) (by decide); omega))) hq1 (Nat.lt_of_lt_of_le (kmu_up c_4) (Nat.le_of_lt_succ hk)) u hu _ _ _ hP hD hS (lv_sub hl [2, 3, 4, 5, 6, 0, 1] rfl)
          · replace hu := hu.trans (if_pos c_16)
            refine lv_iload hx hb dX5_setHas_109 (lv_at hl 6 rfl) ?_
            refine lv_if_ne (tgt := 135) hx hb dX5_setHas_111 (by decide) (fun c_21 => ?_) (fun c_21 => ?_)
            · replace hu := hu.trans (if_neg c_21)
              refine lv_iconst (v := 1) hx hb dX5_setHas_135 (by decide) ?_
              refine lv_goto (tgt := 140) hx hb dX5_setHas_136 (by decide) ?_
              refine lv_istore (lv' := [(6, .int 1), (0, .ref q0), (1, .int x1), (2, .int x2), (3, .int x3), (4, .int x4), (5, .int x5)]) hx hb dX5_setHas_140 hl (by decide) rfl (fun ls hl => ?_)
              refine lv_iinc (v := x5 + 3) (lv' := [(5, .int (x5 + 3)), (6, .int 1), (0, .ref q0), (1, .int x1), (2, .int x2), (3, .int x3), (4, .int x4)]) hx hb dX5_setHas_142 hl (k := 6) rfl rfl (by decide) rfl (fun ls hl => ?_)
              refine lv_goto (tgt := 38) hx hb dX5_setHas_145 (by decide) ?_
              exact ih x1 x2 x3 x4 (x5 + 3) 1 (show 0 ≤ (x5 + 3).toInt from (by have i1 := kx_nle c_4; have i2 := kx_ne c_8; have i3 := kx_nle c_9; have i4 := congrArg Int32.toInt c_16; have i5 := kx_ne c_21; have i6 := kx_rng (x5 + 3); have i7 := kx_rng (x5); have i9 := kx_rng (x2); have i10 := kx_rng (z_6); have i11 : (37 : Int32).toInt = 37 := (by decide); have i12 := kx_rng (x5 + 2); have i14 := kx_rng (z_14); have i15 : (45 : Int32).toInt = 45 := (by decide); have i16 := kx_rng (x6); have i17 : (0 : Int32).toInt = 0 := (by decide); first | omega | (have i8 := kx_addK x5 (y := 3) (k := 3) (by decide); have i13 := kx_addK x5 (y := 2) (k := 2) (by decide); omega))) hq1 (Nat.lt_of_lt_of_le (by have i1 := kx_nle c_4; have i2 := kx_ne c_8; have i3 := kx_nle c_9; have i4 := congrArg Int32.toInt c_16; have i5 := kx_ne c_21; have i6 := kx_rng (x2); have i7 := kx_rng (x5); have i8 := kx_rng (x5 + 3); have i10 := kx_rng (z_6); have i11 : (37 : Int32).toInt = 37 := (by decide); have i12 := kx_rng (x5 + 2); have i14 := kx_rng (z_14); have i15 : (45 : Int32).toInt = 45 := (by decide); have i16 := kx_rng (x6); have i17 : (0 : Int32).toInt = 0 := (by decide); first | omega | (have i9 := kx_addK x5 (y := 3) (k := 3) (by decide); have i13 := kx_addK x5 (y := 2) (k := 2) (by decide); omega)) (Nat.le_of_lt_succ hk)) u hu _ _ _ hP hD hS (lv_sub hl [2, 3, 4, 5, 6, 0, 1] rfl)
            · replace hu := hu.trans (if_pos c_21)
              refine lv_iload_n hx hb dX5_setHas_114 rfl (lv_at hl 3 rfl) ?_
              refine lv_aload_n hx hb dX5_setHas_115 rfl (lv_at hl 0 rfl) ?_
              refine lv_iload hx hb dX5_setHas_116 (lv_at hl 5 rfl) ?_
              obtain ⟨z_22, hz_22⟩ : ∃ z, z = f_X5_pattern m_rows m_sizes x5 := ⟨_, rfl⟩
              replace hu := hu.trans (kb_of hz_22)
              refine k_callV (As := [.int x5]) (rest := [.int x3]) (wc := [(q0, .inr (5, [.ref q1, .ref q2, .ref q3, .int m_madeSize, .ref q4, .ref q5, .ref q6, .ref q7, .ref q8, .ref q9, .int m_depth, .int m_end, .ref q10, .ref q11, .int m_captureCount, .int m_looks, .int m_trouble, .int m_found, .int m_first, .int m_from, .int m_ended])), (q1, .inl (aC 1, 5632, .inl m_rows)), (q2, .inl (aC 0, 3, .inl m_sizes)), (q3, .inl (aC 1, 8192, .inl m_made)), (q4, .inl (aC 0, 520, .inl m_begins)), (q5, .inl (aC 0, 520, .inl m_places)), (q6, .inl (aC 0, 520, .inl m_kinds)), (q7, .inl (aC 0, 520, .inl m_nexts)), (q8, .inl (aC 0, 520, .inl m_choices)), (q9, .inl (aC 0, 520, .inl m_leasts)), (q10, .inl (aC 0, 33, .inl m_captureBegins)), (q11, .inl (aC 0, 33, .inl m_captureLengths))]) (wr := []) (w1 := [(q0, .inr (5, [.ref q1, .ref q2, .ref q3, .int m_madeSize, .ref q4, .ref q5, .ref q6, .ref q7, .ref q8, .ref q9, .int m_depth, .int m_end, .ref q10, .ref q11, .int m_captureCount, .int m_looks, .int m_trouble, .int m_found, .int m_first, .int m_from, .int m_ended])), (q1, .inl (aC 1, 5632, .inl m_rows)), (q2, .inl (aC 0, 3, .inl m_sizes)), (q3, .inl (aC 1, 8192, .inl m_made)), (q4, .inl (aC 0, 520, .inl m_begins)), (q5, .inl (aC 0, 520, .inl m_places)), (q6, .inl (aC 0, 520, .inl m_kinds)), (q7, .inl (aC 0, 520, .inl m_nexts)), (q8, .inl (aC 0, 520, .inl m_choices)), (q9, .inl (aC 0, 520, .inl m_leasts)), (q10, .inl (aC 0, 33, .inl m_captureBegins)), (q11, .inl (aC 0, 33, .inl m_captureLengths))]) (wn := [(q0, .inr (5, [.ref q1, .ref q2, .ref q3, .int m_madeSize, .ref q4, .ref q5, .ref q6, .ref q7, .ref q8, .ref q9, .int m_depth, .int m_end, .ref q10, .ref q11, .int m_captureCount, .int m_looks, .int m_trouble, .int m_found, .int m_first, .int m_from, .int m_ended])), (q1, .inl (aC 1, 5632, .inl m_rows)), (q2, .inl (aC 0, 3, .inl m_sizes)), (q3, .inl (aC 1, 8192, .inl m_made)), (q4, .inl (aC 0, 520, .inl m_begins)), (q5, .inl (aC 0, 520, .inl m_places)), (q6, .inl (aC 0, 520, .inl m_kinds)), (q7, .inl (aC 0, 520, .inl m_nexts)), (q8, .inl (aC 0, 520, .inl m_choices)), (q9, .inl (aC 0, 520, .inl m_leasts)), (q10, .inl (aC 0, 33, .inl m_captureBegins)), (q11, .inl (aC 0, 33, .inl m_captureLengths))]) ⟨hx, hb, hml, hown, hts⟩ (c_X5_pattern l DD aC tt q0 q1 q2 q3 q4 q5 q6 q7 q8 q9 q10 q11  m_madeSize m_depth m_end m_captureCount m_looks m_trouble m_found m_first m_from m_ended m_rows m_sizes m_made m_begins m_places m_kinds m_nexts m_choices m_leasts m_captureBegins m_captureLengths x5 hz3 hq0 z_22 hz_22) (cwV 1 hts (gdV w_617 w_619 w_39 w_74 w_620) rfl rfl rfl (by decide +kernel) ⟨Nat.le_of_ble_eq_true rfl, Nat.le_of_ble_eq_true rfl⟩) hP hD hS hA hE [0, 1, 2, 3, 4, 5, 6, 7, 8, 9, 10, 11] [] [0, 1, 2, 3, 4, 5, 6, 7, 8, 9, 10, 11] rfl rfl rfl (by decide) (by decide) (by decide) (by decide) (ci := 5) (q0 := 0) rfl rfl rfl hl.1 rfl (Nat.le_of_ble_eq_true rfl) dX5_setHas_118 (fun H locs hP hD hS => ?_)
              refine W.eq (g2 := F0 m 121 ls [.int z_22, .int x3]) rfl ?_
              have h_23 := pf_X5_pattern hz_22
              refine lv_aload_n hx hb dX5_setHas_121 rfl (lv_at hl 0 rfl) ?_
              refine lv_iload hx hb dX5_setHas_122 (lv_at hl 5 rfl) ?_
              refine lv_iconst (v := 2) hx hb dX5_setHas_124 (by decide) ?_
              refine lv_iadd hx hb dX5_setHas_125 ?_
              obtain ⟨z_24, hz_24⟩ : ∃ z, z = f_X5_pattern m_rows m_sizes (x5 + 2) := ⟨_, rfl⟩
              replace hu := hu.trans (kb_of hz_24)
              refine k_callV (As := [.int (x5 + 2)]) (rest := [.int z_22, .int x3]) (wc := [(q0, .inr (5, [.ref q1, .ref q2, .ref q3, .int m_madeSize, .ref q4, .ref q5, .ref q6, .ref q7, .ref q8, .ref q9, .int m_depth, .int m_end, .ref q10, .ref q11, .int m_captureCount, .int m_looks, .int m_trouble, .int m_found, .int m_first, .int m_from, .int m_ended])), (q1, .inl (aC 1, 5632, .inl m_rows)), (q2, .inl (aC 0, 3, .inl m_sizes)), (q3, .inl (aC 1, 8192, .inl m_made)), (q4, .inl (aC 0, 520, .inl m_begins)), (q5, .inl (aC 0, 520, .inl m_places)), (q6, .inl (aC 0, 520, .inl m_kinds)), (q7, .inl (aC 0, 520, .inl m_nexts)), (q8, .inl (aC 0, 520, .inl m_choices)), (q9, .inl (aC 0, 520, .inl m_leasts)), (q10, .inl (aC 0, 33, .inl m_captureBegins)), (q11, .inl (aC 0, 33, .inl m_captureLengths))]) (wr := []) (w1 := [(q0, .inr (5, [.ref q1, .ref q2, .ref q3, .int m_madeSize, .ref q4, .ref q5, .ref q6, .ref q7, .ref q8, .ref q9, .int m_depth, .int m_end, .ref q10, .ref q11, .int m_captureCount, .int m_looks, .int m_trouble, .int m_found, .int m_first, .int m_from, .int m_ended])), (q1, .inl (aC 1, 5632, .inl m_rows)), (q2, .inl (aC 0, 3, .inl m_sizes)), (q3, .inl (aC 1, 8192, .inl m_made)), (q4, .inl (aC 0, 520, .inl m_begins)), (q5, .inl (aC 0, 520, .inl m_places)), (q6, .inl (aC 0, 520, .inl m_kinds)), (q7, .inl (aC 0, 520, .inl m_nexts)), (q8, .inl (aC 0, 520, .inl m_choices)), (q9, .inl (aC 0, 520, .inl m_leasts)), (q10, .inl (aC 0, 33, .inl m_captureBegins)), (q11, .inl (aC 0, 33, .inl m_captureLengths))]) (wn := [(q0, .inr (5, [.ref q1, .ref q2, .ref q3, .int m_madeSize, .ref q4, .ref q5, .ref q6, .ref q7, .ref q8, .ref q9, .int m_depth, .int m_end, .ref q10, .ref q11, .int m_captureCount, .int m_looks, .int m_trouble, .int m_found, .int m_first, .int m_from, .int m_ended])), (q1, .inl (aC 1, 5632, .inl m_rows)), (q2, .inl (aC 0, 3, .inl m_sizes)), (q3, .inl (aC 1, 8192, .inl m_made)), (q4, .inl (aC 0, 520, .inl m_begins)), (q5, .inl (aC 0, 520, .inl m_places)), (q6, .inl (aC 0, 520, .inl m_kinds)), (q7, .inl (aC 0, 520, .inl m_nexts)), (q8, .inl (aC 0, 520, .inl m_choices)), (q9, .inl (aC 0, 520, .inl m_leasts)), (q10, .inl (aC 0, 33, .inl m_captureBegins)), (q11, .inl (aC 0, 33, .inl m_captureLengths))]) ⟨hx, hb, hml, hown, hts⟩ (c_X5_pattern l DD aC tt q0 q1 q2 q3 q4 q5 q6 q7 q8 q9 q10 q11  m_madeSize m_depth m_end m_captureCount m_looks m_trouble m_found m_first m_from m_ended m_rows m_sizes m_made m_begins m_places m_kinds m_nexts m_choices m_leasts m_captureBegins m_captureLengths (x5 + 2) hz3 (show 0 ≤ (x5 + 2).toInt from (by have i1 := kx_nle c_4; have i2 := kx_ne c_8; have i3 := kx_nle c_9; have i4 := congrArg Int32.toInt c_16; have i5 := congrArg Int32.toInt c_21; have i6 := kx_rng (x5 + 2); have i7 := kx_rng (x5); have i9 := kx_rng (x2); have i10 := kx_rng (z_6); have i11 : (37 : Int32).toInt = 37 := (by decide); have i12 := kx_rng (z_14); have i13 : (45 : Int32).toInt = 45 := (by decide); have i14 := kx_rng (x6); have i15 : (0 : Int32).toInt = 0 := (by decide); first | omega | (have i8 := kx_addK x5 (y := 2) (k := 2) (by decide); omega))) z_24 hz_24) (cwV 1 hts (gdV w_617 w_619 w_39 w_74 w_620) rfl rfl rfl (by decide +kernel) ⟨Nat.le_of_ble_eq_true rfl, Nat.le_of_ble_eq_true rfl⟩) hP hD hS hA hE [0, 1, 2, 3, 4, 5, 6, 7, 8, 9, 10, 11] [] [0, 1, 2, 3, 4, 5, 6, 7, 8, 9, 10, 11] rfl rfl rfl (by decide) (by decide) (by decide) (by decide) (ci := 5) (q0 := 0) rfl rfl rfl hl.1 rfl (Nat.le_of_ble_eq_true rfl) dX5_setHas_126 (fun H locs hP hD hS => ?_)
              refine W.eq (g2 := F0 m 129 ls [.int z_24, .int z_22, .int x3]) rfl ?_
              have h_25 := pf_X5_pattern hz_24
              obtain ⟨z_26, hz_26⟩ : ∃ z, z = f_X5_isBetween x3 z_22 z_24 := ⟨_, rfl⟩
              replace hu := hu.trans (kb_of hz_26)
              refine k_callS (As := [.int x3, .int z_22, .int z_24]) (rest := []) (wc := []) (wr := [(q0, .inr (5, [.ref q1, .ref q2, .ref q3, .int m_madeSize, .ref q4, .ref q5, .ref q6, .ref q7, .ref q8, .ref q9, .int m_depth, .int m_end, .ref q10, .ref q11, .int m_captureCount, .int m_looks, .int m_trouble, .int m_found, .int m_first, .int m_from, .int m_ended])), (q1, .inl (aC 1, 5632, .inl m_rows)), (q2, .inl (aC 0, 3, .inl m_sizes)), (q3, .inl (aC 1, 8192, .inl m_made)), (q4, .inl (aC 0, 520, .inl m_begins)), (q5, .inl (aC 0, 520, .inl m_places)), (q6, .inl (aC 0, 520, .inl m_kinds)), (q7, .inl (aC 0, 520, .inl m_nexts)), (q8, .inl (aC 0, 520, .inl m_choices)), (q9, .inl (aC 0, 520, .inl m_leasts)), (q10, .inl (aC 0, 33, .inl m_captureBegins)), (q11, .inl (aC 0, 33, .inl m_captureLengths))]) (w1 := []) (wn := [(q0, .inr (5, [.ref q1, .ref q2, .ref q3, .int m_madeSize, .ref q4, .ref q5, .ref q6, .ref q7, .ref q8, .ref q9, .int m_depth, .int m_end, .ref q10, .ref q11, .int m_captureCount, .int m_looks, .int m_trouble, .int m_found, .int m_first, .int m_from, .int m_ended])), (q1, .inl (aC 1, 5632, .inl m_rows)), (q2, .inl (aC 0, 3, .inl m_sizes)), (q3, .inl (aC 1, 8192, .inl m_made)), (q4, .inl (aC 0, 520, .inl m_begins)), (q5, .inl (aC 0, 520, .inl m_places)), (q6, .inl (aC 0, 520, .inl m_kinds)), (q7, .inl (aC 0, 520, .inl m_nexts)), (q8, .inl (aC 0, 520, .inl m_choices)), (q9, .inl (aC 0, 520, .inl m_leasts)), (q10, .inl (aC 0, 33, .inl m_captureBegins)), (q11, .inl (aC 0, 33, .inl m_captureLengths))]) ⟨hx, hb, hml, hown, hts⟩ (c_X5_isBetween l DD aC tt    x3 z_22 z_24  z_26 hz_26) (cwS 3 hts (gdS w_685 w_686 w_74 w_687) rfl rfl rfl (by decide +kernel) ⟨Nat.le_of_ble_eq_true rfl, Nat.le_of_ble_eq_true rfl⟩) hP hD hS hA hE [] [0, 1, 2, 3, 4, 5, 6, 7, 8, 9, 10, 11] [0, 1, 2, 3, 4, 5, 6, 7, 8, 9, 10, 11] rfl rfl rfl (by decide) (by decide) (by decide) (by decide) rfl hl.1 rfl (Nat.le_of_ble_eq_true rfl) dX5_setHas_129 (fun H locs hP hD hS => ?_)
              refine W.eq (g2 := F0 m 132 ls [.int z_26]) rfl ?_
              have h_27 := pf_X5_isBetween hz_26
              refine lv_if_eq (tgt := 139) hx hb dX5_setHas_132 (by decide) (fun c_28 => ?_) (fun c_28 => ?_)
              · replace hu := hu.trans (if_pos c_28)
                refine lv_iconst (v := 0) hx hb dX5_setHas_139 (by decide) ?_
                refine lv_istore (lv' := [(6, .int 0), (0, .ref q0), (1, .int x1), (2, .int x2), (3, .int x3), (4, .int x4), (5, .int x5)]) hx hb dX5_setHas_140 hl (by decide) rfl (fun ls hl => ?_)
                refine lv_iinc (v := x5 + 3) (lv' := [(5, .int (x5 + 3)), (6, .int 0), (0, .ref q0), (1, .int x1), (2, .int x2), (3, .int x3), (4, .int x4)]) hx hb dX5_setHas_142 hl (k := 6) rfl rfl (by decide) rfl (fun ls hl => ?_)
                refine lv_goto (tgt := 38) hx hb dX5_setHas_145 (by decide) ?_
                exact ih x1 x2 x3 x4 (x5 + 3) 0 (show 0 ≤ (x5 + 3).toInt from (by have i1 := kx_nle c_4; have i2 := kx_ne c_8; have i3 := kx_nle c_9; have i4 := congrArg Int32.toInt c_16; have i5 := congrArg Int32.toInt c_21; have i6 := congrArg Int32.toInt c_28; have i7 := kx_rng (x5 + 3); have i8 := kx_rng (x5); have i10 := kx_rng (x2); have i11 := kx_rng (z_6); have i12 : (37 : Int32).toInt = 37 := (by decide); have i13 := kx_rng (x5 + 2); have i15 := kx_rng (z_14); have i16 : (45 : Int32).toInt = 45 := (by decide); have i17 := kx_rng (x6); have i18 : (0 : Int32).toInt = 0 := (by decide); have i19 := kx_rng (z_26); first | omega | (have i9 := kx_addK x5 (y := 3) (k := 3) (by decide); have i14 := kx_addK x5 (y := 2) (k := 2) (by decide); omega))) hq1 (Nat.lt_of_lt_of_le (by have i1 := kx_nle c_4; have i2 := kx_ne c_8; have i3 := kx_nle c_9; have i4 := congrArg Int32.toInt c_16; have i5 := congrArg Int32.toInt c_21; have i6 := congrArg Int32.toInt c_28; have i7 := kx_rng (x2); have i8 := kx_rng (x5); have i9 := kx_rng (x5 + 3); have i11 := kx_rng (z_6); have i12 : (37 : Int32).toInt = 37 := (by decide); have i13 := kx_rng (x5 + 2); have i15 := kx_rng (z_14); have i16 : (45 : Int32).toInt = 45 := (by decide); have i17 := kx_rng (x6); have i18 : (0 : Int32).toInt = 0 := (by decide); have i19 := kx_rng (z_26); first | omega | (have i10 := kx_addK x5 (y := 3) (k := 3) (by decide); have i14 := kx_addK x5 (y := 2) (k := 2) (by decide); omega)) (Nat.le_of_lt_succ hk)) u hu _ _ _ hP hD hS (lv_sub hl [2, 3, 4, 5, 6, 0, 1] rfl)
              · replace hu := hu.trans (if_neg c_28)
                refine lv_iconst (v := 1) hx hb dX5_setHas_135 (by decide) ?_
                refine lv_goto (tgt := 140) hx hb dX5_setHas_136 (by decide) ?_
                refine lv_istore (lv' := [(6, .int 1), (0, .ref q0), (1, .int x1), (2, .int x2), (3, .int x3), (4, .int x4), (5, .int x5)]) hx hb dX5_setHas_140 hl (by decide) rfl (fun ls hl => ?_)
                refine lv_iinc (v := x5 + 3) (lv' := [(5, .int (x5 + 3)), (6, .int 1), (0, .ref q0), (1, .int x1), (2, .int x2), (3, .int x3), (4, .int x4)]) hx hb dX5_setHas_142 hl (k := 6) rfl rfl (by decide) rfl (fun ls hl => ?_)
                refine lv_goto (tgt := 38) hx hb dX5_setHas_145 (by decide) ?_
                exact ih x1 x2 x3 x4 (x5 + 3) 1 (show 0 ≤ (x5 + 3).toInt from (by have i1 := kx_nle c_4; have i2 := kx_ne c_8; have i3 := kx_nle c_9; have i4 := congrArg Int32.toInt c_16; have i5 := congrArg Int32.toInt c_21; have i6 := kx_ne c_28; have i7 := kx_rng (x5 + 3); have i8 := kx_rng (x5); have i10 := kx_rng (x2); have i11 := kx_rng (z_6); have i12 : (37 : Int32).toInt = 37 := (by decide); have i13 := kx_rng (x5 + 2); have i15 := kx_rng (z_14); have i16 : (45 : Int32).toInt = 45 := (by decide); have i17 := kx_rng (x6); have i18 : (0 : Int32).toInt = 0 := (by decide); have i19 := kx_rng (z_26); first | omega | (have i9 := kx_addK x5 (y := 3) (k := 3) (by decide); have i14 := kx_addK x5 (y := 2) (k := 2) (by decide); omega))) hq1 (Nat.lt_of_lt_of_le (by have i1 := kx_nle c_4; have i2 := kx_ne c_8; have i3 := kx_nle c_9; have i4 := congrArg Int32.toInt c_16; have i5 := congrArg Int32.toInt c_21; have i6 := kx_ne c_28; have i7 := kx_rng (x2); have i8 := kx_rng (x5); have i9 := kx_rng (x5 + 3); have i11 := kx_rng (z_6); have i12 : (37 : Int32).toInt = 37 := (by decide); have i13 := kx_rng (x5 + 2); have i15 := kx_rng (z_14); have i16 : (45 : Int32).toInt = 45 := (by decide); have i17 := kx_rng (x6); have i18 : (0 : Int32).toInt = 0 := (by decide); have i19 := kx_rng (z_26); first | omega | (have i10 := kx_addK x5 (y := 3) (k := 3) (by decide); have i14 := kx_addK x5 (y := 2) (k := 2) (by decide); omega)) (Nat.le_of_lt_succ hk)) u hu _ _ _ hP hD hS (lv_sub hl [2, 3, 4, 5, 6, 0, 1] rfl)
      · replace hu := hu.trans (if_pos c_8)
        refine lv_iload hx hb dX5_setHas_55 (lv_at hl 6 rfl) ?_
        refine lv_if_ne (tgt := 75) hx hb dX5_setHas_57 (by decide) (fun c_29 => ?_) (fun c_29 => ?_)
        · replace hu := hu.trans (if_neg c_29)
          refine lv_iconst (v := 1) hx hb dX5_setHas_75 (by decide) ?_
          refine lv_goto (tgt := 80) hx hb dX5_setHas_76 (by decide) ?_
          refine lv_istore (lv' := [(6, .int 1), (0, .ref q0), (1, .int x1), (2, .int x2), (3, .int x3), (4, .int x4), (5, .int x5)]) hx hb dX5_setHas_80 hl (by decide) rfl (fun ls hl => ?_)
          refine lv_iinc (v := x5 + 2) (lv' := [(5, .int (x5 + 2)), (6, .int 1), (0, .ref q0), (1, .int x1), (2, .int x2), (3, .int x3), (4, .int x4)]) hx hb dX5_setHas_82 hl (k := 6) rfl rfl (by decide) rfl (fun ls hl => ?_)
          refine lv_goto (tgt := 38) hx hb dX5_setHas_85 (by decide) ?_
          exact ih x1 x2 x3 x4 (x5 + 2) 1 (show 0 ≤ (x5 + 2).toInt from (by have i1 := kx_nle c_4; have i2 := congrArg Int32.toInt c_8; have i3 := kx_ne c_29; have i4 := kx_rng (x5 + 2); have i5 := kx_rng (x5); have i7 := kx_rng (x2); have i8 := kx_rng (z_6); have i9 : (37 : Int32).toInt = 37 := (by decide); have i10 := kx_rng (x6); have i11 : (0 : Int32).toInt = 0 := (by decide); first | omega | (have i6 := kx_addK x5 (y := 2) (k := 2) (by decide); omega))) hq1 (Nat.lt_of_lt_of_le (by have i1 := kx_nle c_4; have i2 := congrArg Int32.toInt c_8; have i3 := kx_ne c_29; have i4 := kx_rng (x2); have i5 := kx_rng (x5); have i6 := kx_rng (x5 + 2); have i8 := kx_rng (z_6); have i9 : (37 : Int32).toInt = 37 := (by decide); have i10 := kx_rng (x6); have i11 : (0 : Int32).toInt = 0 := (by decide); first | omega | (have i7 := kx_addK x5 (y := 2) (k := 2) (by decide); omega)) (Nat.le_of_lt_succ hk)) u hu _ _ _ hP hD hS (lv_sub hl [2, 3, 4, 5, 6, 0, 1] rfl)
        · replace hu := hu.trans (if_pos c_29)
          refine lv_aload_n hx hb dX5_setHas_60 rfl (lv_at hl 0 rfl) ?_
          refine lv_iload hx hb dX5_setHas_61 (lv_at hl 5 rfl) ?_
          refine lv_iconst (v := 1) hx hb dX5_setHas_63 (by decide) ?_
          refine lv_iadd hx hb dX5_setHas_64 ?_
          obtain ⟨z_30, hz_30⟩ : ∃ z, z = f_X5_pattern m_rows m_sizes (x5 + 1) := ⟨_, rfl⟩
          replace hu := hu.trans (kb_of hz_30)
          refine k_callV (As := [.int (x5 + 1)]) (rest := []) (wc := [(q0, .inr (5, [.ref q1, .ref q2, .ref q3, .int m_madeSize, .ref q4, .ref q5, .ref q6, .ref q7, .ref q8, .ref q9, .int m_depth, .int m_end, .ref q10, .ref q11, .int m_captureCount, .int m_looks, .int m_trouble, .int m_found, .int m_first, .int m_from, .int m_ended])), (q1, .inl (aC 1, 5632, .inl m_rows)), (q2, .inl (aC 0, 3, .inl m_sizes)), (q3, .inl (aC 1, 8192, .inl m_made)), (q4, .inl (aC 0, 520, .inl m_begins)), (q5, .inl (aC 0, 520, .inl m_places)), (q6, .inl (aC 0, 520, .inl m_kinds)), (q7, .inl (aC 0, 520, .inl m_nexts)), (q8, .inl (aC 0, 520, .inl m_choices)), (q9, .inl (aC 0, 520, .inl m_leasts)), (q10, .inl (aC 0, 33, .inl m_captureBegins)), (q11, .inl (aC 0, 33, .inl m_captureLengths))]) (wr := []) (w1 := [(q0, .inr (5, [.ref q1, .ref q2, .ref q3, .int m_madeSize, .ref q4, .ref q5, .ref q6, .ref q7, .ref q8, .ref q9, .int m_depth, .int m_end, .ref q10, .ref q11, .int m_captureCount, .int m_looks, .int m_trouble, .int m_found, .int m_first, .int m_from, .int m_ended])), (q1, .inl (aC 1, 5632, .inl m_rows)), (q2, .inl (aC 0, 3, .inl m_sizes)), (q3, .inl (aC 1, 8192, .inl m_made)), (q4, .inl (aC 0, 520, .inl m_begins)), (q5, .inl (aC 0, 520, .inl m_places)), (q6, .inl (aC 0, 520, .inl m_kinds)), (q7, .inl (aC 0, 520, .inl m_nexts)), (q8, .inl (aC 0, 520, .inl m_choices)), (q9, .inl (aC 0, 520, .inl m_leasts)), (q10, .inl (aC 0, 33, .inl m_captureBegins)), (q11, .inl (aC 0, 33, .inl m_captureLengths))]) (wn := [(q0, .inr (5, [.ref q1, .ref q2, .ref q3, .int m_madeSize, .ref q4, .ref q5, .ref q6, .ref q7, .ref q8, .ref q9, .int m_depth, .int m_end, .ref q10, .ref q11, .int m_captureCount, .int m_looks, .int m_trouble, .int m_found, .int m_first, .int m_from, .int m_ended])), (q1, .inl (aC 1, 5632, .inl m_rows)), (q2, .inl (aC 0, 3, .inl m_sizes)), (q3, .inl (aC 1, 8192, .inl m_made)), (q4, .inl (aC 0, 520, .inl m_begins)), (q5, .inl (aC 0, 520, .inl m_places)), (q6, .inl (aC 0, 520, .inl m_kinds)), (q7, .inl (aC 0, 520, .inl m_nexts)), (q8, .inl (aC 0, 520, .inl m_choices)), (q9, .inl (aC 0, 520, .inl m_leasts)), (q10, .inl (aC 0, 33, .inl m_captureBegins)), (q11, .inl (aC 0, 33, .inl m_captureLengths))]) ⟨hx, hb, hml, hown, hts⟩ (c_X5_pattern l DD aC tt q0 q1 q2 q3 q4 q5 q6 q7 q8 q9 q10 q11  m_madeSize m_depth m_end m_captureCount m_looks m_trouble m_found m_first m_from m_ended m_rows m_sizes m_made m_begins m_places m_kinds m_nexts m_choices m_leasts m_captureBegins m_captureLengths (x5 + 1) hz3 (show 0 ≤ (x5 + 1).toInt from (by have i1 := kx_nle c_4; have i2 := congrArg Int32.toInt c_8; have i3 := congrArg Int32.toInt c_29; have i4 := kx_rng (x5 + 1); have i5 := kx_rng (x5); have i7 := kx_rng (x2); have i8 := kx_rng (z_6); have i9 : (37 : Int32).toInt = 37 := (by decide); have i10 := kx_rng (x6); have i11 : (0 : Int32).toInt = 0 := (by decide); first | omega | (have i6 := kx_addK x5 (y := 1) (k := 1) (by decide); omega))) z_30 hz_30) (cwV 1 hts (gdV w_617 w_619 w_39 w_74 w_620) rfl rfl rfl (by decide +kernel) ⟨Nat.le_of_ble_eq_true rfl, Nat.le_of_ble_eq_true rfl⟩) hP hD hS hA hE [0, 1, 2, 3, 4, 5, 6, 7, 8, 9, 10, 11] [] [0, 1, 2, 3, 4, 5, 6, 7, 8, 9, 10, 11] rfl rfl rfl (by decide) (by decide) (by decide) (by decide) (ci := 5) (q0 := 0) rfl rfl rfl hl.1 rfl (Nat.le_of_ble_eq_true rfl) dX5_setHas_65 (fun H locs hP hD hS => ?_)
          refine W.eq (g2 := F0 m 68 ls [.int z_30]) rfl ?_
          have h_31 := pf_X5_pattern hz_30
          refine lv_iload_n hx hb dX5_setHas_68 rfl (lv_at hl 3 rfl) ?_
          obtain ⟨z_32, hz_32⟩ : ∃ z, z = f_X5_classHas z_30 x3 := ⟨_, rfl⟩
          replace hu := hu.trans (kb_of hz_32)
          refine k_callS (As := [.int z_30, .int x3]) (rest := []) (wc := []) (wr := [(q0, .inr (5, [.ref q1, .ref q2, .ref q3, .int m_madeSize, .ref q4, .ref q5, .ref q6, .ref q7, .ref q8, .ref q9, .int m_depth, .int m_end, .ref q10, .ref q11, .int m_captureCount, .int m_looks, .int m_trouble, .int m_found, .int m_first, .int m_from, .int m_ended])), (q1, .inl (aC 1, 5632, .inl m_rows)), (q2, .inl (aC 0, 3, .inl m_sizes)), (q3, .inl (aC 1, 8192, .inl m_made)), (q4, .inl (aC 0, 520, .inl m_begins)), (q5, .inl (aC 0, 520, .inl m_places)), (q6, .inl (aC 0, 520, .inl m_kinds)), (q7, .inl (aC 0, 520, .inl m_nexts)), (q8, .inl (aC 0, 520, .inl m_choices)), (q9, .inl (aC 0, 520, .inl m_leasts)), (q10, .inl (aC 0, 33, .inl m_captureBegins)), (q11, .inl (aC 0, 33, .inl m_captureLengths))]) (w1 := []) (wn := [(q0, .inr (5, [.ref q1, .ref q2, .ref q3, .int m_madeSize, .ref q4, .ref q5, .ref q6, .ref q7, .ref q8, .ref q9, .int m_depth, .int m_end, .ref q10, .ref q11, .int m_captureCount, .int m_looks, .int m_trouble, .int m_found, .int m_first, .int m_from, .int m_ended])), (q1, .inl (aC 1, 5632, .inl m_rows)), (q2, .inl (aC 0, 3, .inl m_sizes)), (q3, .inl (aC 1, 8192, .inl m_made)), (q4, .inl (aC 0, 520, .inl m_begins)), (q5, .inl (aC 0, 520, .inl m_places)), (q6, .inl (aC 0, 520, .inl m_kinds)), (q7, .inl (aC 0, 520, .inl m_nexts)), (q8, .inl (aC 0, 520, .inl m_choices)), (q9, .inl (aC 0, 520, .inl m_leasts)), (q10, .inl (aC 0, 33, .inl m_captureBegins)), (q11, .inl (aC 0, 33, .inl m_captureLengths))]) ⟨hx, hb, hml, hown, hts⟩ (c_X5_classHas l DD aC tt    z_30 x3  z_32 hz_32) (cwS 2 hts (gdS w_682 w_683 w_74 w_684) rfl rfl rfl (by decide +kernel) ⟨Nat.le_of_ble_eq_true rfl, Nat.le_of_ble_eq_true rfl⟩) hP hD hS hA hE [] [0, 1, 2, 3, 4, 5, 6, 7, 8, 9, 10, 11] [0, 1, 2, 3, 4, 5, 6, 7, 8, 9, 10, 11] rfl rfl rfl (by decide) (by decide) (by decide) (by decide) rfl hl.1 rfl (Nat.le_of_ble_eq_true rfl) dX5_setHas_69 (fun H locs hP hD hS => ?_)
          refine W.eq (g2 := F0 m 72 ls [.int z_32]) rfl ?_
          have h_33 := pf_X5_classHas hz_32
          refine lv_if_eq (tgt := 79) hx hb dX5_setHas_72 (by decide) (fun c_34 => ?_) (fun c_34 => ?_)
          · replace hu := hu.trans (if_pos c_34)
            refine lv_iconst (v := 0) hx hb dX5_setHas_79 (by decide) ?_
            refine lv_istore (lv' := [(6, .int 0), (0, .ref q0), (1, .int x1), (2, .int x2), (3, .int x3), (4, .int x4), (5, .int x5)]) hx hb dX5_setHas_80 hl (by decide) rfl (fun ls hl => ?_)
            refine lv_iinc (v := x5 + 2) (lv' := [(5, .int (x5 + 2)), (6, .int 0), (0, .ref q0), (1, .int x1), (2, .int x2), (3, .int x3), (4, .int x4)]) hx hb dX5_setHas_82 hl (k := 6) rfl rfl (by decide) rfl (fun ls hl => ?_)
            refine lv_goto (tgt := 38) hx hb dX5_setHas_85 (by decide) ?_
            exact ih x1 x2 x3 x4 (x5 + 2) 0 (show 0 ≤ (x5 + 2).toInt from (by have i1 := kx_nle c_4; have i2 := congrArg Int32.toInt c_8; have i3 := congrArg Int32.toInt c_29; have i4 := congrArg Int32.toInt c_34; have i5 := kx_rng (x5 + 2); have i6 := kx_rng (x5); have i8 := kx_rng (x2); have i9 := kx_rng (z_6); have i10 : (37 : Int32).toInt = 37 := (by decide); have i11 := kx_rng (x6); have i12 : (0 : Int32).toInt = 0 := (by decide); have i13 := kx_rng (z_32); first | omega | (have i7 := kx_addK x5 (y := 2) (k := 2) (by decide); omega))) hq1 (Nat.lt_of_lt_of_le (by have i1 := kx_nle c_4; have i2 := congrArg Int32.toInt c_8; have i3 := congrArg Int32.toInt c_29; have i4 := congrArg Int32.toInt c_34; have i5 := kx_rng (x2); have i6 := kx_rng (x5); have i7 := kx_rng (x5 + 2); have i9 := kx_rng (z_6); have i10 : (37 : Int32).toInt = 37 := (by decide); have i11 := kx_rng (x6); have i12 : (0 : Int32).toInt = 0 := (by decide); have i13 := kx_rng (z_32); first | omega | (have i8 := kx_addK x5 (y := 2) (k := 2) (by decide); omega)) (Nat.le_of_lt_succ hk)) u hu _ _ _ hP hD hS (lv_sub hl [2, 3, 4, 5, 6, 0, 1] rfl)
          · replace hu := hu.trans (if_neg c_34)
            refine lv_iconst (v := 1) hx hb dX5_setHas_75 (by decide) ?_
            refine lv_goto (tgt := 80) hx hb dX5_setHas_76 (by decide) ?_
            refine lv_istore (lv' := [(6, .int 1), (0, .ref q0), (1, .int x1), (2, .int x2), (3, .int x3), (4, .int x4), (5, .int x5)]) hx hb dX5_setHas_80 hl (by decide) rfl (fun ls hl => ?_)
            refine lv_iinc (v := x5 + 2) (lv' := [(5, .int (x5 + 2)), (6, .int 1), (0, .ref q0), (1, .int x1), (2, .int x2), (3, .int x3), (4, .int x4)]) hx hb dX5_setHas_82 hl (k := 6) rfl rfl (by decide) rfl (fun ls hl => ?_)
            refine lv_goto (tgt := 38) hx hb dX5_setHas_85 (by decide) ?_
            exact ih x1 x2 x3 x4 (x5 + 2) 1 (show 0 ≤ (x5 + 2).toInt from (by have i1 := kx_nle c_4; have i2 := congrArg Int32.toInt c_8; have i3 := congrArg Int32.toInt c_29; have i4 := kx_ne c_34; have i5 := kx_rng (x5 + 2); have i6 := kx_rng (x5); have i8 := kx_rng (x2); have i9 := kx_rng (z_6); have i10 : (37 : Int32).toInt = 37 := (by decide); have i11 := kx_rng (x6); have i12 : (0 : Int32).toInt = 0 := (by decide); have i13 := kx_rng (z_32); first | omega | (have i7 := kx_addK x5 (y := 2) (k := 2) (by decide); omega))) hq1 (Nat.lt_of_lt_of_le (by have i1 := kx_nle c_4; have i2 := congrArg Int32.toInt c_8; have i3 := congrArg Int32.toInt c_29; have i4 := kx_ne c_34; have i5 := kx_rng (x2); have i6 := kx_rng (x5); have i7 := kx_rng (x5 + 2); have i9 := kx_rng (z_6); have i10 : (37 : Int32).toInt = 37 := (by decide); have i11 := kx_rng (x6); have i12 : (0 : Int32).toInt = 0 := (by decide); have i13 := kx_rng (z_32); first | omega | (have i8 := kx_addK x5 (y := 2) (k := 2) (by decide); omega)) (Nat.le_of_lt_succ hk)) u hu _ _ _ hP hD hS (lv_sub hl [2, 3, 4, 5, 6, 0, 1] rfl)
set_option maxHeartbeats 4000000 in
set_option maxRecDepth 100000 in
theorem c_X5_setHas (l : Launch) (DD : va_G) (aC : Nat → ClassId) (tt : Nat → Nat) (q0 q1 q2 q3 q4 q5 q6 q7 q8 q9 q10 q11 : Nat) (m_madeSize : Int32) (m_depth : Int32) (m_end : Int32) (m_captureCount : Int32) (m_looks : Int32) (m_trouble : Int32) (m_found : Int32) (m_first : Int32) (m_from : Int32) (m_ended : Int32) (m_rows : Nat → Int32) (m_sizes : Nat → Int32) (m_made : Nat → Int32) (m_begins : Nat → Int32) (m_places : Nat → Int32) (m_kinds : Nat → Int32) (m_nexts : Nat → Int32) (m_choices : Nat → Int32) (m_leasts : Nat → Int32) (m_captureBegins : Nat → Int32) (m_captureLengths : Nat → Int32) (a1 : Int32) (a2 : Int32) (a3 : Int32) (hz3 : (m_sizes 1).toInt ≤ 512) (hk : 0 ≤ a1.toInt) (hk2 : a1.toInt ≤ 600) (hc : a2.toInt ≤ 600) (u : Int32) (hu : u = f_X5_setHas m_rows m_sizes a1 a2 a3) : kM l yX5_setHas wsX5_setHas rm_X5_setHas DD aC tt [.ref q0, .int a1, .int a2, .int a3] [(q0, .inr (5, [.ref q1, .ref q2, .ref q3, .int m_madeSize, .ref q4, .ref q5, .ref q6, .ref q7, .ref q8, .ref q9, .int m_depth, .int m_end, .ref q10, .ref q11, .int m_captureCount, .int m_looks, .int m_trouble, .int m_found, .int m_first, .int m_from, .int m_ended])), (q1, .inl (aC 1, 5632, .inl m_rows)), (q2, .inl (aC 0, 3, .inl m_sizes)), (q3, .inl (aC 1, 8192, .inl m_made)), (q4, .inl (aC 0, 520, .inl m_begins)), (q5, .inl (aC 0, 520, .inl m_places)), (q6, .inl (aC 0, 520, .inl m_kinds)), (q7, .inl (aC 0, 520, .inl m_nexts)), (q8, .inl (aC 0, 520, .inl m_choices)), (q9, .inl (aC 0, 520, .inl m_leasts)), (q10, .inl (aC 0, 33, .inl m_captureBegins)), (q11, .inl (aC 0, 33, .inl m_captureLengths))] (some (.int u)) [(q0, .inr (5, [.ref q1, .ref q2, .ref q3, .int m_madeSize, .ref q4, .ref q5, .ref q6, .ref q7, .ref q8, .ref q9, .int m_depth, .int m_end, .ref q10, .ref q11, .int m_captureCount, .int m_looks, .int m_trouble, .int m_found, .int m_first, .int m_from, .int m_ended])), (q1, .inl (aC 1, 5632, .inl m_rows)), (q2, .inl (aC 0, 3, .inl m_sizes)), (q3, .inl (aC 1, 8192, .inl m_made)), (q4, .inl (aC 0, 520, .inl m_begins)), (q5, .inl (aC 0, 520, .inl m_places)), (q6, .inl (aC 0, 520, .inl m_kinds)), (q7, .inl (aC 0, 520, .inl m_nexts)), (q8, .inl (aC 0, 520, .inl m_choices)), (q9, .inl (aC 0, 520, .inl m_leasts)), (q10, .inl (aC 0, 33, .inl m_captureBegins)), (q11, .inl (aC 0, 33, .inl m_captureLengths))] := by
  refine k_start (cc := cX5_setHas) (maxL := 7) (ret := (some .boolean)) (own := RX5) (lv0 := [(0, .ref q0), (1, .int a1), (2, .int a2), (3, .int a3)]) (by decide) rfl rfl (Nat.le_of_ble_eq_true rfl) rfl (fun p e s m below meth c A ls X hP hD hS hl => ?_)
  obtain ⟨hx, hb, hr, hml, hts, hown, hlocks, hA, hE⟩ := id X
  unfold f_X5_setHas at hu
  refine lv_aload_n hx hb dX5_setHas_0 rfl (lv_at hl 0 rfl) ?_
  refine lv_iload_n hx hb dX5_setHas_1 rfl (lv_at hl 1 rfl) ?_
  refine lv_iconst (v := 1) hx hb dX5_setHas_2 (by decide) ?_
  refine lv_iadd hx hb dX5_setHas_3 ?_
  obtain ⟨z_1, hz_1⟩ : ∃ z, z = f_X5_pattern m_rows m_sizes (a1 + 1) := ⟨_, rfl⟩
  replace hu := hu.trans (kb_of hz_1)
  refine k_callV (As := [.int (a1 + 1)]) (rest := []) (wc := [(q0, .inr (5, [.ref q1, .ref q2, .ref q3, .int m_madeSize, .ref q4, .ref q5, .ref q6, .ref q7, .ref q8, .ref q9, .int m_depth, .int m_end, .ref q10, .ref q11, .int m_captureCount, .int m_looks, .int m_trouble, .int m_found, .int m_first, .int m_from, .int m_ended])), (q1, .inl (aC 1, 5632, .inl m_rows)), (q2, .inl (aC 0, 3, .inl m_sizes)), (q3, .inl (aC 1, 8192, .inl m_made)), (q4, .inl (aC 0, 520, .inl m_begins)), (q5, .inl (aC 0, 520, .inl m_places)), (q6, .inl (aC 0, 520, .inl m_kinds)), (q7, .inl (aC 0, 520, .inl m_nexts)), (q8, .inl (aC 0, 520, .inl m_choices)), (q9, .inl (aC 0, 520, .inl m_leasts)), (q10, .inl (aC 0, 33, .inl m_captureBegins)), (q11, .inl (aC 0, 33, .inl m_captureLengths))]) (wr := []) (w1 := [(q0, .inr (5, [.ref q1, .ref q2, .ref q3, .int m_madeSize, .ref q4, .ref q5, .ref q6, .ref q7, .ref q8, .ref q9, .int m_depth, .int m_end, .ref q10, .ref q11, .int m_captureCount, .int m_looks, .int m_trouble, .int m_found, .int m_first, .int m_from, .int m_ended])), (q1, .inl (aC 1, 5632, .inl m_rows)), (q2, .inl (aC 0, 3, .inl m_sizes)), (q3, .inl (aC 1, 8192, .inl m_made)), (q4, .inl (aC 0, 520, .inl m_begins)), (q5, .inl (aC 0, 520, .inl m_places)), (q6, .inl (aC 0, 520, .inl m_kinds)), (q7, .inl (aC 0, 520, .inl m_nexts)), (q8, .inl (aC 0, 520, .inl m_choices)), (q9, .inl (aC 0, 520, .inl m_leasts)), (q10, .inl (aC 0, 33, .inl m_captureBegins)), (q11, .inl (aC 0, 33, .inl m_captureLengths))]) (wn := [(q0, .inr (5, [.ref q1, .ref q2, .ref q3, .int m_madeSize, .ref q4, .ref q5, .ref q6, .ref q7, .ref q8, .ref q9, .int m_depth, .int m_end, .ref q10, .ref q11, .int m_captureCount, .int m_looks, .int m_trouble, .int m_found, .int m_first, .int m_from, .int m_ended])), (q1, .inl (aC 1, 5632, .inl m_rows)), (q2, .inl (aC 0, 3, .inl m_sizes)), (q3, .inl (aC 1, 8192, .inl m_made)), (q4, .inl (aC 0, 520, .inl m_begins)), (q5, .inl (aC 0, 520, .inl m_places)), (q6, .inl (aC 0, 520, .inl m_kinds)), (q7, .inl (aC 0, 520, .inl m_nexts)), (q8, .inl (aC 0, 520, .inl m_choices)), (q9, .inl (aC 0, 520, .inl m_leasts)), (q10, .inl (aC 0, 33, .inl m_captureBegins)), (q11, .inl (aC 0, 33, .inl m_captureLengths))]) ⟨hx, hb, hml, hown, hts⟩ (c_X5_pattern l DD aC tt q0 q1 q2 q3 q4 q5 q6 q7 q8 q9 q10 q11  m_madeSize m_depth m_end m_captureCount m_looks m_trouble m_found m_first m_from m_ended m_rows m_sizes m_made m_begins m_places m_kinds m_nexts m_choices m_leasts m_captureBegins m_captureLengths (a1 + 1) hz3 (show 0 ≤ (a1 + 1).toInt from (by have i1 := kx_rng (a1 + 1); have i2 := kx_rng (a1); first | omega | (have i3 := kx_addK a1 (y := 1) (k := 1) (by decide); omega))) z_1 hz_1) (cwV 1 hts (gdV w_617 w_619 w_39 w_74 w_620) rfl rfl rfl (by decide +kernel) ⟨Nat.le_of_ble_eq_true rfl, Nat.le_of_ble_eq_true rfl⟩) hP hD hS hA hE [0, 1, 2, 3, 4, 5, 6, 7, 8, 9, 10, 11] [] [0, 1, 2, 3, 4, 5, 6, 7, 8, 9, 10, 11] rfl rfl rfl (by decide) (by decide) (by decide) (by decide) (ci := 5) (q0 := 0) rfl rfl rfl hl.1 rfl (Nat.le_of_ble_eq_true rfl) dX5_setHas_4 (fun H locs hP hD hS => ?_)
  refine W.eq (g2 := F0 m 7 ls [.int z_1]) rfl ?_
  have h_2 := pf_X5_pattern hz_1
  refine lv_bipush (v := 94) hx hb dX5_setHas_7 (by decide) ?_
  refine lv_icmp_ne (tgt := 16) hx hb dX5_setHas_9 (by decide) (fun c_3 => ?_) (fun c_3 => ?_)
  · replace hu := hu.trans (if_neg c_3)
    refine lv_iconst (v := 0) hx hb dX5_setHas_16 (by decide) ?_
    refine lv_istore (lv' := [(4, .int 0), (0, .ref q0), (1, .int a1), (2, .int a2), (3, .int a3)]) hx hb dX5_setHas_17 hl (by decide) rfl (fun ls hl => ?_)
    refine lv_iload hx hb dX5_setHas_19 (lv_at hl 0 rfl) ?_
    refine lv_if_eq (tgt := 30) hx hb dX5_setHas_21 (by decide) (fun _ => ?_) (fun h => absurd (by decide) h)
    refine lv_iload_n hx hb dX5_setHas_30 rfl (lv_at hl 2 rfl) ?_
    refine lv_iconst (v := 1) hx hb dX5_setHas_31 (by decide) ?_
    refine lv_iadd hx hb dX5_setHas_32 ?_
    refine lv_istore (lv' := [(5, .int (a1 + 1)), (4, .int 0), (0, .ref q0), (1, .int a1), (2, .int a2), (3, .int a3)]) hx hb dX5_setHas_33 hl (by decide) rfl (fun ls hl => ?_)
    refine lv_iconst (v := 0) hx hb dX5_setHas_35 (by decide) ?_
    refine lv_istore (lv' := [(6, .int 0), (5, .int (a1 + 1)), (4, .int 0), (0, .ref q0), (1, .int a1), (2, .int a2), (3, .int a3)]) hx hb dX5_setHas_36 hl (by decide) rfl (fun ls hl => ?_)
    exact t_X5_setHas_L0 X q0 q1 q2 q3 q4 q5 q6 q7 q8 q9 q10 q11 m_madeSize m_depth m_end m_captureCount m_looks m_trouble m_found m_first m_from m_ended m_rows m_sizes m_made m_begins m_places m_kinds m_nexts m_choices m_leasts m_captureBegins m_captureLengths a1 a2 a3 hz3 hk hk2 hc ((a2.toInt - (a1 + 1).toInt).toNat + 1) a1 a2 a3 0 (a1 + 1) 0 (show 0 ≤ (a1 + 1).toInt from (by have i1 := kx_ne c_3; have i2 := kx_rng (a1 + 1); have i3 := kx_rng (a1); have i5 := kx_rng (z_1); have i6 : (94 : Int32).toInt = 94 := (by decide); first | omega | (have i4 := kx_addK a1 (y := 1) (k := 1) (by decide); omega))) hc (Nat.lt_succ_self _) u hu _ _ _ hP hD hS (lv_sub hl [3, 4, 5, 6, 2, 1, 0] rfl)
  · replace hu := hu.trans (if_pos c_3)
    refine lv_iconst (v := 1) hx hb dX5_setHas_12 (by decide) ?_
    refine lv_goto (tgt := 17) hx hb dX5_setHas_13 (by decide) ?_
    refine lv_istore (lv' := [(4, .int 1), (0, .ref q0), (1, .int a1), (2, .int a2), (3, .int a3)]) hx hb dX5_setHas_17 hl (by decide) rfl (fun ls hl => ?_)
    refine lv_iload hx hb dX5_setHas_19 (lv_at hl 0 rfl) ?_
    refine lv_if_eq (tgt := 30) hx hb dX5_setHas_21 (by decide) (fun h => absurd h (by decide)) (fun _ => ?_)
    refine lv_iload_n hx hb dX5_setHas_24 rfl (lv_at hl 2 rfl) ?_
    refine lv_iconst (v := 2) hx hb dX5_setHas_25 (by decide) ?_
    refine lv_iadd hx hb dX5_setHas_26 ?_
    refine lv_goto (tgt := 33) hx hb dX5_setHas_27 (by decide) ?_
    refine lv_istore (lv' := [(5, .int (a1 + 2)), (4, .int 1), (0, .ref q0), (1, .int a1), (2, .int a2), (3, .int a3)]) hx hb dX5_setHas_33 hl (by decide) rfl (fun ls hl => ?_)
    refine lv_iconst (v := 0) hx hb dX5_setHas_35 (by decide) ?_
    refine lv_istore (lv' := [(6, .int 0), (5, .int (a1 + 2)), (4, .int 1), (0, .ref q0), (1, .int a1), (2, .int a2), (3, .int a3)]) hx hb dX5_setHas_36 hl (by decide) rfl (fun ls hl => ?_)
    exact t_X5_setHas_L0 X q0 q1 q2 q3 q4 q5 q6 q7 q8 q9 q10 q11 m_madeSize m_depth m_end m_captureCount m_looks m_trouble m_found m_first m_from m_ended m_rows m_sizes m_made m_begins m_places m_kinds m_nexts m_choices m_leasts m_captureBegins m_captureLengths a1 a2 a3 hz3 hk hk2 hc ((a2.toInt - (a1 + 2).toInt).toNat + 1) a1 a2 a3 1 (a1 + 2) 0 (show 0 ≤ (a1 + 2).toInt from (by have i1 := congrArg Int32.toInt c_3; have i2 := kx_rng (a1 + 2); have i3 := kx_rng (a1); have i5 := kx_rng (z_1); have i6 : (94 : Int32).toInt = 94 := (by decide); first | omega | (have i4 := kx_addK a1 (y := 2) (k := 2) (by decide); omega))) hc (Nat.lt_succ_self _) u hu _ _ _ hP hD hS (lv_sub hl [3, 4, 5, 6, 2, 1, 0] rfl)
def f_X5_behindSingle (m_rows : Nat → Int32) (m_sizes : Nat → Int32) (a1 : Int32) : Int32 := (kb (f_X5_pattern m_rows m_sizes a1) (fun z_1 => (if z_1 = 91 then (kb (f_X5_closing m_rows m_sizes a1) (fun z_10 => (if (0 : Int32) ≤ z_10 then (kb (f_X5_closing m_rows m_sizes a1) (fun z_13 => (z_13 + 1))) else (-1)))) else (kb (f_X5_pattern m_rows m_sizes a1) (fun z_4 => (if z_4 = 37 then (kb (f_X5_pattern m_rows m_sizes (a1 + 1)) (fun z_7 => (if (0 : Int32) ≤ z_7 then (a1 + 2) else (-1)))) else (a1 + 1)))))))
abbrev rm_X5_behindSingle : Room := { frames := 4, cells := 0, slots := 0, locals := 86 }
set_option maxHeartbeats 4000000 in
set_option maxRecDepth 100000 in
theorem c_X5_behindSingle (l : Launch) (DD : va_G) (aC : Nat → ClassId) (tt : Nat → Nat) (q0 q1 q2 q3 q4 q5 q6 q7 q8 q9 q10 q11 : Nat) (m_madeSize : Int32) (m_depth : Int32) (m_end : Int32) (m_captureCount : Int32) (m_looks : Int32) (m_trouble : Int32) (m_found : Int32) (m_first : Int32) (m_from : Int32) (m_ended : Int32) (m_rows : Nat → Int32) (m_sizes : Nat → Int32) (m_made : Nat → Int32) (m_begins : Nat → Int32) (m_places : Nat → Int32) (m_kinds : Nat → Int32) (m_nexts : Nat → Int32) (m_choices : Nat → Int32) (m_leasts : Nat → Int32) (m_captureBegins : Nat → Int32) (m_captureLengths : Nat → Int32) (a1 : Int32) (hz3 : (m_sizes 1).toInt ≤ 512) (hk : 0 ≤ a1.toInt) (hk2 : a1.toInt ≤ 600) (u : Int32) (hu : u = f_X5_behindSingle m_rows m_sizes a1) : kM l yX5_behindSingle wsX5_behindSingle rm_X5_behindSingle DD aC tt [.ref q0, .int a1] [(q0, .inr (5, [.ref q1, .ref q2, .ref q3, .int m_madeSize, .ref q4, .ref q5, .ref q6, .ref q7, .ref q8, .ref q9, .int m_depth, .int m_end, .ref q10, .ref q11, .int m_captureCount, .int m_looks, .int m_trouble, .int m_found, .int m_first, .int m_from, .int m_ended])), (q1, .inl (aC 1, 5632, .inl m_rows)), (q2, .inl (aC 0, 3, .inl m_sizes)), (q3, .inl (aC 1, 8192, .inl m_made)), (q4, .inl (aC 0, 520, .inl m_begins)), (q5, .inl (aC 0, 520, .inl m_places)), (q6, .inl (aC 0, 520, .inl m_kinds)), (q7, .inl (aC 0, 520, .inl m_nexts)), (q8, .inl (aC 0, 520, .inl m_choices)), (q9, .inl (aC 0, 520, .inl m_leasts)), (q10, .inl (aC 0, 33, .inl m_captureBegins)), (q11, .inl (aC 0, 33, .inl m_captureLengths))] (some (.int u)) [(q0, .inr (5, [.ref q1, .ref q2, .ref q3, .int m_madeSize, .ref q4, .ref q5, .ref q6, .ref q7, .ref q8, .ref q9, .int m_depth, .int m_end, .ref q10, .ref q11, .int m_captureCount, .int m_looks, .int m_trouble, .int m_found, .int m_first, .int m_from, .int m_ended])), (q1, .inl (aC 1, 5632, .inl m_rows)), (q2, .inl (aC 0, 3, .inl m_sizes)), (q3, .inl (aC 1, 8192, .inl m_made)), (q4, .inl (aC 0, 520, .inl m_begins)), (q5, .inl (aC 0, 520, .inl m_places)), (q6, .inl (aC 0, 520, .inl m_kinds)), (q7, .inl (aC 0, 520, .inl m_nexts)), (q8, .inl (aC 0, 520, .inl m_choices)), (q9, .inl (aC 0, 520, .inl m_leasts)), (q10, .inl (aC 0, 33, .inl m_captureBegins)), (q11, .inl (aC 0, 33, .inl m_captureLengths))] := by
  refine k_start (cc := cX5_behindSingle) (maxL := 2) (ret := (some .int)) (own := RX5) (lv0 := [(0, .ref q0), (1, .int a1)]) (by decide) rfl rfl (Nat.le_of_ble_eq_true rfl) rfl (fun p e s m below meth c A ls X hP hD hS hl => ?_)
  obtain ⟨hx, hb, hr, hml, hts, hown, hlocks, hA, hE⟩ := id X
  unfold f_X5_behindSingle at hu
  refine lv_aload_n hx hb dX5_behindSingle_0 rfl (lv_at hl 0 rfl) ?_
  refine lv_iload_n hx hb dX5_behindSingle_1 rfl (lv_at hl 1 rfl) ?_
  obtain ⟨z_1, hz_1⟩ : ∃ z, z = f_X5_pattern m_rows m_sizes a1 := ⟨_, rfl⟩
  replace hu := hu.trans (kb_of hz_1)
  refine k_callV (As := [.int a1]) (rest := []) (wc := [(q0, .inr (5, [.ref q1, .ref q2, .ref q3, .int m_madeSize, .ref q4, .ref q5, .ref q6, .ref q7, .ref q8, .ref q9, .int m_depth, .int m_end, .ref q10, .ref q11, .int m_captureCount, .int m_looks, .int m_trouble, .int m_found, .int m_first, .int m_from, .int m_ended])), (q1, .inl (aC 1, 5632, .inl m_rows)), (q2, .inl (aC 0, 3, .inl m_sizes)), (q3, .inl (aC 1, 8192, .inl m_made)), (q4, .inl (aC 0, 520, .inl m_begins)), (q5, .inl (aC 0, 520, .inl m_places)), (q6, .inl (aC 0, 520, .inl m_kinds)), (q7, .inl (aC 0, 520, .inl m_nexts)), (q8, .inl (aC 0, 520, .inl m_choices)), (q9, .inl (aC 0, 520, .inl m_leasts)), (q10, .inl (aC 0, 33, .inl m_captureBegins)), (q11, .inl (aC 0, 33, .inl m_captureLengths))]) (wr := []) (w1 := [(q0, .inr (5, [.ref q1, .ref q2, .ref q3, .int m_madeSize, .ref q4, .ref q5, .ref q6, .ref q7, .ref q8, .ref q9, .int m_depth, .int m_end, .ref q10, .ref q11, .int m_captureCount, .int m_looks, .int m_trouble, .int m_found, .int m_first, .int m_from, .int m_ended])), (q1, .inl (aC 1, 5632, .inl m_rows)), (q2, .inl (aC 0, 3, .inl m_sizes)), (q3, .inl (aC 1, 8192, .inl m_made)), (q4, .inl (aC 0, 520, .inl m_begins)), (q5, .inl (aC 0, 520, .inl m_places)), (q6, .inl (aC 0, 520, .inl m_kinds)), (q7, .inl (aC 0, 520, .inl m_nexts)), (q8, .inl (aC 0, 520, .inl m_choices)), (q9, .inl (aC 0, 520, .inl m_leasts)), (q10, .inl (aC 0, 33, .inl m_captureBegins)), (q11, .inl (aC 0, 33, .inl m_captureLengths))]) (wn := [(q0, .inr (5, [.ref q1, .ref q2, .ref q3, .int m_madeSize, .ref q4, .ref q5, .ref q6, .ref q7, .ref q8, .ref q9, .int m_depth, .int m_end, .ref q10, .ref q11, .int m_captureCount, .int m_looks, .int m_trouble, .int m_found, .int m_first, .int m_from, .int m_ended])), (q1, .inl (aC 1, 5632, .inl m_rows)), (q2, .inl (aC 0, 3, .inl m_sizes)), (q3, .inl (aC 1, 8192, .inl m_made)), (q4, .inl (aC 0, 520, .inl m_begins)), (q5, .inl (aC 0, 520, .inl m_places)), (q6, .inl (aC 0, 520, .inl m_kinds)), (q7, .inl (aC 0, 520, .inl m_nexts)), (q8, .inl (aC 0, 520, .inl m_choices)), (q9, .inl (aC 0, 520, .inl m_leasts)), (q10, .inl (aC 0, 33, .inl m_captureBegins)), (q11, .inl (aC 0, 33, .inl m_captureLengths))]) ⟨hx, hb, hml, hown, hts⟩ (c_X5_pattern l DD aC tt q0 q1 q2 q3 q4 q5 q6 q7 q8 q9 q10 q11  m_madeSize m_depth m_end m_captureCount m_looks m_trouble m_found m_first m_from m_ended m_rows m_sizes m_made m_begins m_places m_kinds m_nexts m_choices m_leasts m_captureBegins m_captureLengths a1 hz3 hk z_1 hz_1) (cwV 1 hts (gdV w_617 w_619 w_39 w_74 w_620) rfl rfl rfl (by decide +kernel) ⟨Nat.le_of_ble_eq_true rfl, Nat.le_of_ble_eq_true rfl⟩) hP hD hS hA hE [0, 1, 2, 3, 4, 5, 6, 7, 8, 9, 10, 11] [] [0, 1, 2, 3, 4, 5, 6, 7, 8, 9, 10, 11] rfl rfl rfl (by decide) (by decide) (by decide) (by decide) (ci := 5) (q0 := 0) rfl rfl rfl hl.1 rfl (Nat.le_of_ble_eq_true rfl) dX5_behindSingle_2 (fun H locs hP hD hS => ?_)
  refine W.eq (g2 := F0 m 5 ls [.int z_1]) rfl ?_
  have h_2 := pf_X5_pattern hz_1
  refine lv_bipush (v := 91) hx hb dX5_behindSingle_5 (by decide) ?_
  refine lv_icmp_ne (tgt := 30) hx hb dX5_behindSingle_7 (by decide) (fun c_3 => ?_) (fun c_3 => ?_)
  · replace hu := hu.trans (if_neg c_3)
    refine lv_aload_n hx hb dX5_behindSingle_30 rfl (lv_at hl 0 rfl) ?_
    refine lv_iload_n hx hb dX5_behindSingle_31 rfl (lv_at hl 1 rfl) ?_
    obtain ⟨z_4, hz_4⟩ : ∃ z, z = f_X5_pattern m_rows m_sizes a1 := ⟨_, rfl⟩
    replace hu := hu.trans (kb_of hz_4)
    refine k_callV (As := [.int a1]) (rest := []) (wc := [(q0, .inr (5, [.ref q1, .ref q2, .ref q3, .int m_madeSize, .ref q4, .ref q5, .ref q6, .ref q7, .ref q8, .ref q9, .int m_depth, .int m_end, .ref q10, .ref q11, .int m_captureCount, .int m_looks, .int m_trouble, .int m_found, .int m_first, .int m_from, .int m_ended])), (q1, .inl (aC 1, 5632, .inl m_rows)), (q2, .inl (aC 0, 3, .inl m_sizes)), (q3, .inl (aC 1, 8192, .inl m_made)), (q4, .inl (aC 0, 520, .inl m_begins)), (q5, .inl (aC 0, 520, .inl m_places)), (q6, .inl (aC 0, 520, .inl m_kinds)), (q7, .inl (aC 0, 520, .inl m_nexts)), (q8, .inl (aC 0, 520, .inl m_choices)), (q9, .inl (aC 0, 520, .inl m_leasts)), (q10, .inl (aC 0, 33, .inl m_captureBegins)), (q11, .inl (aC 0, 33, .inl m_captureLengths))]) (wr := []) (w1 := [(q0, .inr (5, [.ref q1, .ref q2, .ref q3, .int m_madeSize, .ref q4, .ref q5, .ref q6, .ref q7, .ref q8, .ref q9, .int m_depth, .int m_end, .ref q10, .ref q11, .int m_captureCount, .int m_looks, .int m_trouble, .int m_found, .int m_first, .int m_from, .int m_ended])), (q1, .inl (aC 1, 5632, .inl m_rows)), (q2, .inl (aC 0, 3, .inl m_sizes)), (q3, .inl (aC 1, 8192, .inl m_made)), (q4, .inl (aC 0, 520, .inl m_begins)), (q5, .inl (aC 0, 520, .inl m_places)), (q6, .inl (aC 0, 520, .inl m_kinds)), (q7, .inl (aC 0, 520, .inl m_nexts)), (q8, .inl (aC 0, 520, .inl m_choices)), (q9, .inl (aC 0, 520, .inl m_leasts)), (q10, .inl (aC 0, 33, .inl m_captureBegins)), (q11, .inl (aC 0, 33, .inl m_captureLengths))]) (wn := [(q0, .inr (5, [.ref q1, .ref q2, .ref q3, .int m_madeSize, .ref q4, .ref q5, .ref q6, .ref q7, .ref q8, .ref q9, .int m_depth, .int m_end, .ref q10, .ref q11, .int m_captureCount, .int m_looks, .int m_trouble, .int m_found, .int m_first, .int m_from, .int m_ended])), (q1, .inl (aC 1, 5632, .inl m_rows)), (q2, .inl (aC 0, 3, .inl m_sizes)), (q3, .inl (aC 1, 8192, .inl m_made)), (q4, .inl (aC 0, 520, .inl m_begins)), (q5, .inl (aC 0, 520, .inl m_places)), (q6, .inl (aC 0, 520, .inl m_kinds)), (q7, .inl (aC 0, 520, .inl m_nexts)), (q8, .inl (aC 0, 520, .inl m_choices)), (q9, .inl (aC 0, 520, .inl m_leasts)), (q10, .inl (aC 0, 33, .inl m_captureBegins)), (q11, .inl (aC 0, 33, .inl m_captureLengths))]) ⟨hx, hb, hml, hown, hts⟩ (c_X5_pattern l DD aC tt q0 q1 q2 q3 q4 q5 q6 q7 q8 q9 q10 q11  m_madeSize m_depth m_end m_captureCount m_looks m_trouble m_found m_first m_from m_ended m_rows m_sizes m_made m_begins m_places m_kinds m_nexts m_choices m_leasts m_captureBegins m_captureLengths a1 hz3 hk z_4 hz_4) (cwV 1 hts (gdV w_617 w_619 w_39 w_74 w_620) rfl rfl rfl (by decide +kernel) ⟨Nat.le_of_ble_eq_true rfl, Nat.le_of_ble_eq_true rfl⟩) hP hD hS hA hE [0, 1, 2, 3, 4, 5, 6, 7, 8, 9, 10, 11] [] [0, 1, 2, 3, 4, 5, 6, 7, 8, 9, 10, 11] rfl rfl rfl (by decide) (by decide) (by decide) (by decide) (ci := 5) (q0 := 0) rfl rfl rfl hl.1 rfl (Nat.le_of_ble_eq_true rfl) dX5_behindSingle_32 (fun H locs hP hD hS => ?_)
    refine W.eq (g2 := F0 m 35 ls [.int z_4]) rfl ?_
    have h_5 := pf_X5_pattern hz_4
    refine lv_bipush (v := 37) hx hb dX5_behindSingle_35 (by decide) ?_
    refine lv_icmp_eq (tgt := 44) hx hb dX5_behindSingle_37 (by decide) (fun c_6 => ?_) (fun c_6 => ?_)
    · replace hu := hu.trans (if_pos c_6)
      refine lv_aload_n hx hb dX5_behindSingle_44 rfl (lv_at hl 0 rfl) ?_
      refine lv_iload_n hx hb dX5_behindSingle_45 rfl (lv_at hl 1 rfl) ?_
      refine lv_iconst (v := 1) hx hb dX5_behindSingle_46 (by decide) ?_
      refine lv_iadd hx hb dX5_behindSingle_47 ?_
      obtain ⟨z_7, hz_7⟩ : ∃ z, z = f_X5_pattern m_rows m_sizes (a1 + 1) := ⟨_, rfl⟩
      replace hu := hu.trans (kb_of hz_7)
      refine k_callV (As := [.int (a1 + 1)]) (rest := []) (wc := [(q0, .inr (5, [.ref q1, .ref q2, .ref q3, .int m_madeSize, .ref q4, .ref q5, .ref q6, .ref q7, .ref q8, .ref q9, .int m_depth, .int m_end, .ref q10, .ref q11, .int m_captureCount, .int m_looks, .int m_trouble, .int m_found, .int m_first, .int m_from, .int m_ended])), (q1, .inl (aC 1, 5632, .inl m_rows)), (q2, .inl (aC 0, 3, .inl m_sizes)), (q3, .inl (aC 1, 8192, .inl m_made)), (q4, .inl (aC 0, 520, .inl m_begins)), (q5, .inl (aC 0, 520, .inl m_places)), (q6, .inl (aC 0, 520, .inl m_kinds)), (q7, .inl (aC 0, 520, .inl m_nexts)), (q8, .inl (aC 0, 520, .inl m_choices)), (q9, .inl (aC 0, 520, .inl m_leasts)), (q10, .inl (aC 0, 33, .inl m_captureBegins)), (q11, .inl (aC 0, 33, .inl m_captureLengths))]) (wr := []) (w1 := [(q0, .inr (5, [.ref q1, .ref q2, .ref q3, .int m_madeSize, .ref q4, .ref q5, .ref q6, .ref q7, .ref q8, .ref q9, .int m_depth, .int m_end, .ref q10, .ref q11, .int m_captureCount, .int m_looks, .int m_trouble, .int m_found, .int m_first, .int m_from, .int m_ended])), (q1, .inl (aC 1, 5632, .inl m_rows)), (q2, .inl (aC 0, 3, .inl m_sizes)), (q3, .inl (aC 1, 8192, .inl m_made)), (q4, .inl (aC 0, 520, .inl m_begins)), (q5, .inl (aC 0, 520, .inl m_places)), (q6, .inl (aC 0, 520, .inl m_kinds)), (q7, .inl (aC 0, 520, .inl m_nexts)), (q8, .inl (aC 0, 520, .inl m_choices)), (q9, .inl (aC 0, 520, .inl m_leasts)), (q10, .inl (aC 0, 33, .inl m_captureBegins)), (q11, .inl (aC 0, 33, .inl m_captureLengths))]) (wn := [(q0, .inr (5, [.ref q1, .ref q2, .ref q3, .int m_madeSize, .ref q4, .ref q5, .ref q6, .ref q7, .ref q8, .ref q9, .int m_depth, .int m_end, .ref q10, .ref q11, .int m_captureCount, .int m_looks, .int m_trouble, .int m_found, .int m_first, .int m_from, .int m_ended])), (q1, .inl (aC 1, 5632, .inl m_rows)), (q2, .inl (aC 0, 3, .inl m_sizes)), (q3, .inl (aC 1, 8192, .inl m_made)), (q4, .inl (aC 0, 520, .inl m_begins)), (q5, .inl (aC 0, 520, .inl m_places)), (q6, .inl (aC 0, 520, .inl m_kinds)), (q7, .inl (aC 0, 520, .inl m_nexts)), (q8, .inl (aC 0, 520, .inl m_choices)), (q9, .inl (aC 0, 520, .inl m_leasts)), (q10, .inl (aC 0, 33, .inl m_captureBegins)), (q11, .inl (aC 0, 33, .inl m_captureLengths))]) ⟨hx, hb, hml, hown, hts⟩ (c_X5_pattern l DD aC tt q0 q1 q2 q3 q4 q5 q6 q7 q8 q9 q10 q11  m_madeSize m_depth m_end m_captureCount m_looks m_trouble m_found m_first m_from m_ended m_rows m_sizes m_made m_begins m_places m_kinds m_nexts m_choices m_leasts m_captureBegins m_captureLengths (a1 + 1) hz3 (show 0 ≤ (a1 + 1).toInt from (by have i1 := kx_ne c_3; have i2 := congrArg Int32.toInt c_6; have i3 := kx_rng (a1 + 1); have i4 := kx_rng (a1); have i6 := kx_rng (z_1); have i7 : (91 : Int32).toInt = 91 := (by decide); have i8 := kx_rng (z_4); have i9 : (37 : Int32).toInt = 37 := (by decide); first | omega | (have i5 := kx_addK a1 (y := 1) (k := 1) (by decide); omega))) z_7 hz_7) (cwV 1 hts (gdV w_617 w_619 w_39 w_74 w_620) rfl rfl rfl (by decide +kernel) ⟨Nat.le_of_ble_eq_true rfl, Nat.le_of_ble_eq_true rfl⟩) hP hD hS hA hE [0, 1, 2, 3, 4, 5, 6, 7, 8, 9, 10, 11] [] [0, 1, 2, 3, 4, 5, 6, 7, 8, 9, 10, 11] rfl rfl rfl (by decide) (by decide) (by decide) (by decide) (ci := 5) (q0 := 0) rfl rfl rfl hl.1 rfl (Nat.le_of_ble_eq_true rfl) dX5_behindSingle_48 (fun H locs hP hD hS => ?_)
      refine W.eq (g2 := F0 m 51 ls [.int z_7]) rfl ?_
      have h_8 := pf_X5_pattern hz_7
      refine lv_if_ge (tgt := 58) hx hb dX5_behindSingle_51 (by decide) (fun c_9 => ?_) (fun c_9 => ?_)
      · replace hu := hu.trans (if_pos c_9)
        refine lv_iload_n hx hb dX5_behindSingle_58 rfl (lv_at hl 1 rfl) ?_
        refine lv_iconst (v := 2) hx hb dX5_behindSingle_59 (by decide) ?_
        refine lv_iadd hx hb dX5_behindSingle_60 ?_
        subst hu
        exact k_iret hx hb hr hlocks hP hD hS rfl rfl dX5_behindSingle_61
      · replace hu := hu.trans (if_neg c_9)
        refine lv_iconst (v := (-1)) hx hb dX5_behindSingle_54 (by decide) ?_
        refine lv_goto (tgt := 61) hx hb dX5_behindSingle_55 (by decide) ?_
        subst hu
        exact k_iret hx hb hr hlocks hP hD hS rfl rfl dX5_behindSingle_61
    · replace hu := hu.trans (if_neg c_6)
      refine lv_iload_n hx hb dX5_behindSingle_40 rfl (lv_at hl 1 rfl) ?_
      refine lv_iconst (v := 1) hx hb dX5_behindSingle_41 (by decide) ?_
      refine lv_iadd hx hb dX5_behindSingle_42 ?_
      subst hu
      exact k_iret hx hb hr hlocks hP hD hS rfl rfl dX5_behindSingle_43
  · replace hu := hu.trans (if_pos c_3)
    refine lv_aload_n hx hb dX5_behindSingle_10 rfl (lv_at hl 0 rfl) ?_
    refine lv_iload_n hx hb dX5_behindSingle_11 rfl (lv_at hl 1 rfl) ?_
    obtain ⟨z_10, hz_10⟩ : ∃ z, z = f_X5_closing m_rows m_sizes a1 := ⟨_, rfl⟩
    replace hu := hu.trans (kb_of hz_10)
    refine k_callV (As := [.int a1]) (rest := []) (wc := [(q0, .inr (5, [.ref q1, .ref q2, .ref q3, .int m_madeSize, .ref q4, .ref q5, .ref q6, .ref q7, .ref q8, .ref q9, .int m_depth, .int m_end, .ref q10, .ref q11, .int m_captureCount, .int m_looks, .int m_trouble, .int m_found, .int m_first, .int m_from, .int m_ended])), (q1, .inl (aC 1, 5632, .inl m_rows)), (q2, .inl (aC 0, 3, .inl m_sizes)), (q3, .inl (aC 1, 8192, .inl m_made)), (q4, .inl (aC 0, 520, .inl m_begins)), (q5, .inl (aC 0, 520, .inl m_places)), (q6, .inl (aC 0, 520, .inl m_kinds)), (q7, .inl (aC 0, 520, .inl m_nexts)), (q8, .inl (aC 0, 520, .inl m_choices)), (q9, .inl (aC 0, 520, .inl m_leasts)), (q10, .inl (aC 0, 33, .inl m_captureBegins)), (q11, .inl (aC 0, 33, .inl m_captureLengths))]) (wr := []) (w1 := [(q0, .inr (5, [.ref q1, .ref q2, .ref q3, .int m_madeSize, .ref q4, .ref q5, .ref q6, .ref q7, .ref q8, .ref q9, .int m_depth, .int m_end, .ref q10, .ref q11, .int m_captureCount, .int m_looks, .int m_trouble, .int m_found, .int m_first, .int m_from, .int m_ended])), (q1, .inl (aC 1, 5632, .inl m_rows)), (q2, .inl (aC 0, 3, .inl m_sizes)), (q3, .inl (aC 1, 8192, .inl m_made)), (q4, .inl (aC 0, 520, .inl m_begins)), (q5, .inl (aC 0, 520, .inl m_places)), (q6, .inl (aC 0, 520, .inl m_kinds)), (q7, .inl (aC 0, 520, .inl m_nexts)), (q8, .inl (aC 0, 520, .inl m_choices)), (q9, .inl (aC 0, 520, .inl m_leasts)), (q10, .inl (aC 0, 33, .inl m_captureBegins)), (q11, .inl (aC 0, 33, .inl m_captureLengths))]) (wn := [(q0, .inr (5, [.ref q1, .ref q2, .ref q3, .int m_madeSize, .ref q4, .ref q5, .ref q6, .ref q7, .ref q8, .ref q9, .int m_depth, .int m_end, .ref q10, .ref q11, .int m_captureCount, .int m_looks, .int m_trouble, .int m_found, .int m_first, .int m_from, .int m_ended])), (q1, .inl (aC 1, 5632, .inl m_rows)), (q2, .inl (aC 0, 3, .inl m_sizes)), (q3, .inl (aC 1, 8192, .inl m_made)), (q4, .inl (aC 0, 520, .inl m_begins)), (q5, .inl (aC 0, 520, .inl m_places)), (q6, .inl (aC 0, 520, .inl m_kinds)), (q7, .inl (aC 0, 520, .inl m_nexts)), (q8, .inl (aC 0, 520, .inl m_choices)), (q9, .inl (aC 0, 520, .inl m_leasts)), (q10, .inl (aC 0, 33, .inl m_captureBegins)), (q11, .inl (aC 0, 33, .inl m_captureLengths))]) ⟨hx, hb, hml, hown, hts⟩ (c_X5_closing l DD aC tt q0 q1 q2 q3 q4 q5 q6 q7 q8 q9 q10 q11  m_madeSize m_depth m_end m_captureCount m_looks m_trouble m_found m_first m_from m_ended m_rows m_sizes m_made m_begins m_places m_kinds m_nexts m_choices m_leasts m_captureBegins m_captureLengths a1 hz3 hk hk2 z_10 hz_10) (cwV 1 hts (gdV w_674 w_676 w_53 w_74 w_677) rfl rfl rfl (by decide +kernel) ⟨Nat.le_of_ble_eq_true rfl, Nat.le_of_ble_eq_true rfl⟩) hP hD hS hA hE [0, 1, 2, 3, 4, 5, 6, 7, 8, 9, 10, 11] [] [0, 1, 2, 3, 4, 5, 6, 7, 8, 9, 10, 11] rfl rfl rfl (by decide) (by decide) (by decide) (by decide) (ci := 5) (q0 := 0) rfl rfl rfl hl.1 rfl (Nat.le_of_ble_eq_true rfl) dX5_behindSingle_12 (fun H locs hP hD hS => ?_)
    refine W.eq (g2 := F0 m 15 ls [.int z_10]) rfl ?_
    have h_11 := pf_X5_closing hz_10
    refine lv_if_ge (tgt := 22) hx hb dX5_behindSingle_15 (by decide) (fun c_12 => ?_) (fun c_12 => ?_)
    · replace hu := hu.trans (if_pos c_12)
      refine lv_aload_n hx hb dX5_behindSingle_22 rfl (lv_at hl 0 rfl) ?_
      refine lv_iload_n hx hb dX5_behindSingle_23 rfl (lv_at hl 1 rfl) ?_
      obtain ⟨z_13, hz_13⟩ : ∃ z, z = f_X5_closing m_rows m_sizes a1 := ⟨_, rfl⟩
      replace hu := hu.trans (kb_of hz_13)
      refine k_callV (As := [.int a1]) (rest := []) (wc := [(q0, .inr (5, [.ref q1, .ref q2, .ref q3, .int m_madeSize, .ref q4, .ref q5, .ref q6, .ref q7, .ref q8, .ref q9, .int m_depth, .int m_end, .ref q10, .ref q11, .int m_captureCount, .int m_looks, .int m_trouble, .int m_found, .int m_first, .int m_from, .int m_ended])), (q1, .inl (aC 1, 5632, .inl m_rows)), (q2, .inl (aC 0, 3, .inl m_sizes)), (q3, .inl (aC 1, 8192, .inl m_made)), (q4, .inl (aC 0, 520, .inl m_begins)), (q5, .inl (aC 0, 520, .inl m_places)), (q6, .inl (aC 0, 520, .inl m_kinds)), (q7, .inl (aC 0, 520, .inl m_nexts)), (q8, .inl (aC 0, 520, .inl m_choices)), (q9, .inl (aC 0, 520, .inl m_leasts)), (q10, .inl (aC 0, 33, .inl m_captureBegins)), (q11, .inl (aC 0, 33, .inl m_captureLengths))]) (wr := []) (w1 := [(q0, .inr (5, [.ref q1, .ref q2, .ref q3, .int m_madeSize, .ref q4, .ref q5, .ref q6, .ref q7, .ref q8, .ref q9, .int m_depth, .int m_end, .ref q10, .ref q11, .int m_captureCount, .int m_looks, .int m_trouble, .int m_found, .int m_first, .int m_from, .int m_ended])), (q1, .inl (aC 1, 5632, .inl m_rows)), (q2, .inl (aC 0, 3, .inl m_sizes)), (q3, .inl (aC 1, 8192, .inl m_made)), (q4, .inl (aC 0, 520, .inl m_begins)), (q5, .inl (aC 0, 520, .inl m_places)), (q6, .inl (aC 0, 520, .inl m_kinds)), (q7, .inl (aC 0, 520, .inl m_nexts)), (q8, .inl (aC 0, 520, .inl m_choices)), (q9, .inl (aC 0, 520, .inl m_leasts)), (q10, .inl (aC 0, 33, .inl m_captureBegins)), (q11, .inl (aC 0, 33, .inl m_captureLengths))]) (wn := [(q0, .inr (5, [.ref q1, .ref q2, .ref q3, .int m_madeSize, .ref q4, .ref q5, .ref q6, .ref q7, .ref q8, .ref q9, .int m_depth, .int m_end, .ref q10, .ref q11, .int m_captureCount, .int m_looks, .int m_trouble, .int m_found, .int m_first, .int m_from, .int m_ended])), (q1, .inl (aC 1, 5632, .inl m_rows)), (q2, .inl (aC 0, 3, .inl m_sizes)), (q3, .inl (aC 1, 8192, .inl m_made)), (q4, .inl (aC 0, 520, .inl m_begins)), (q5, .inl (aC 0, 520, .inl m_places)), (q6, .inl (aC 0, 520, .inl m_kinds)), (q7, .inl (aC 0, 520, .inl m_nexts)), (q8, .inl (aC 0, 520, .inl m_choices)), (q9, .inl (aC 0, 520, .inl m_leasts)), (q10, .inl (aC 0, 33, .inl m_captureBegins)), (q11, .inl (aC 0, 33, .inl m_captureLengths))]) ⟨hx, hb, hml, hown, hts⟩ (c_X5_closing l DD aC tt q0 q1 q2 q3 q4 q5 q6 q7 q8 q9 q10 q11  m_madeSize m_depth m_end m_captureCount m_looks m_trouble m_found m_first m_from m_ended m_rows m_sizes m_made m_begins m_places m_kinds m_nexts m_choices m_leasts m_captureBegins m_captureLengths a1 hz3 hk hk2 z_13 hz_13) (cwV 1 hts (gdV w_674 w_676 w_53 w_74 w_677) rfl rfl rfl (by decide +kernel) ⟨Nat.le_of_ble_eq_true rfl, Nat.le_of_ble_eq_true rfl⟩) hP hD hS hA hE [0, 1, 2, 3, 4, 5, 6, 7, 8, 9, 10, 11] [] [0, 1, 2, 3, 4, 5, 6, 7, 8, 9, 10, 11] rfl rfl rfl (by decide) (by decide) (by decide) (by decide) (ci := 5) (q0 := 0) rfl rfl rfl hl.1 rfl (Nat.le_of_ble_eq_true rfl) dX5_behindSingle_24 (fun H locs hP hD hS => ?_)
      refine W.eq (g2 := F0 m 27 ls [.int z_13]) rfl ?_
      have h_14 := pf_X5_closing hz_13
      refine lv_iconst (v := 1) hx hb dX5_behindSingle_27 (by decide) ?_
      refine lv_iadd hx hb dX5_behindSingle_28 ?_
      subst hu
      exact k_iret hx hb hr hlocks hP hD hS rfl rfl dX5_behindSingle_29
    · replace hu := hu.trans (if_neg c_12)
      refine lv_iconst (v := (-1)) hx hb dX5_behindSingle_18 (by decide) ?_
      refine lv_goto (tgt := 29) hx hb dX5_behindSingle_19 (by decide) ?_
      subst hu
      exact k_iret hx hb hr hlocks hP hD hS rfl rfl dX5_behindSingle_29
def f_X5_singleHas (m_rows : Nat → Int32) (m_sizes : Nat → Int32) (a1 : Int32) (a2 : Int32) : Int32 := (kb (f_X5_pattern m_rows m_sizes a1) (fun z_1 => (if z_1 = 46 then 1 else (if z_1 = 91 then (kb (f_X5_closing m_rows m_sizes a1) (fun z_11 => (kb (f_X5_setHas m_rows m_sizes a1 z_11 a2) (fun z_13 => z_13)))) else (if z_1 = 37 then (kb (f_X5_pattern m_rows m_sizes (a1 + 1)) (fun z_7 => (kb (f_X5_classHas z_7 a2) (fun z_9 => z_9)))) else (if z_1 = a2 then 1 else 0))))))
set_option maxHeartbeats 4000000 in
theorem pf_X5_singleHas {m_rows : Nat → Int32} {m_sizes : Nat → Int32} {a1 : Int32} {a2 : Int32} (hz3 : (m_sizes 1).toInt ≤ 512) (hk : 0 ≤ a1.toInt) (hk2 : a1.toInt ≤ 600) {u : Int32} (hu : u = f_X5_singleHas m_rows m_sizes a1 a2) : (u = 0 ∨ u = 1) := by
  unfold f_X5_singleHas at hu
  obtain ⟨z_1, hz_1⟩ : ∃ z, z = f_X5_pattern m_rows m_sizes a1 := ⟨_, rfl⟩
  replace hu := hu.trans (kb_of hz_1)
  have h_2 := pf_X5_pattern hz_1
  rcases (Classical.em (z_1 = 46)).symm with c_3 | c_3
  · replace hu := hu.trans (if_neg c_3)
    rcases (Classical.em (z_1 = 91)).symm with c_4 | c_4
    · replace hu := hu.trans (if_neg c_4)
      rcases (Classical.em (z_1 = 37)).symm with c_5 | c_5
      · replace hu := hu.trans (if_neg c_5)
        rcases (Classical.em (z_1 = a2)).symm with c_6 | c_6
        · replace hu := hu.trans (if_neg c_6)
          rw [hu]
          exact show ((0 : Int32) = 0 ∨ (0 : Int32) = 1) from (Or.inl rfl)
        · replace hu := hu.trans (if_pos c_6)
          rw [hu]
          exact show ((1 : Int32) = 0 ∨ (1 : Int32) = 1) from (Or.inr rfl)
      · replace hu := hu.trans (if_pos c_5)
        obtain ⟨z_7, hz_7⟩ : ∃ z, z = f_X5_pattern m_rows m_sizes (a1 + 1) := ⟨_, rfl⟩
        replace hu := hu.trans (kb_of hz_7)
        have h_8 := pf_X5_pattern hz_7
        obtain ⟨z_9, hz_9⟩ : ∃ z, z = f_X5_classHas z_7 a2 := ⟨_, rfl⟩
        replace hu := hu.trans (kb_of hz_9)
        have h_10 := pf_X5_classHas hz_9
        rw [hu]
        exact show (z_9 = 0 ∨ z_9 = 1) from h_10
    · replace hu := hu.trans (if_pos c_4)
      obtain ⟨z_11, hz_11⟩ : ∃ z, z = f_X5_closing m_rows m_sizes a1 := ⟨_, rfl⟩
      replace hu := hu.trans (kb_of hz_11)
      have h_12 := pf_X5_closing hz_11
      obtain ⟨z_13, hz_13⟩ : ∃ z, z = f_X5_setHas m_rows m_sizes a1 z_11 a2 := ⟨_, rfl⟩
      replace hu := hu.trans (kb_of hz_13)
      have h_14 := pf_X5_setHas hz3 hk hk2 (show z_11.toInt ≤ 600 from (by have i1 := kx_ne c_3; have i2 := congrArg Int32.toInt c_4; have i3 := kx_rng (z_11); have i4 := kx_rng (z_1); have i5 : (46 : Int32).toInt = 46 := (by decide); have i6 : (91 : Int32).toInt = 91 := (by decide); omega)) hz_13
      rw [hu]
      exact show (z_13 = 0 ∨ z_13 = 1) from h_14
  · replace hu := hu.trans (if_pos c_3)
    rw [hu]
    exact show ((1 : Int32) = 0 ∨ (1 : Int32) = 1) from (Or.inr rfl)
abbrev rm_X5_singleHas : Room := { frames := 4, cells := 0, slots := 0, locals := 91 }
set_option maxHeartbeats 4000000 in
set_option maxRecDepth 100000 in
theorem c_X5_singleHas (l : Launch) (DD : va_G) (aC : Nat → ClassId) (tt : Nat → Nat) (q0 q1 q2 q3 q4 q5 q6 q7 q8 q9 q10 q11 : Nat) (m_madeSize : Int32) (m_depth : Int32) (m_end : Int32) (m_captureCount : Int32) (m_looks : Int32) (m_trouble : Int32) (m_found : Int32) (m_first : Int32) (m_from : Int32) (m_ended : Int32) (m_rows : Nat → Int32) (m_sizes : Nat → Int32) (m_made : Nat → Int32) (m_begins : Nat → Int32) (m_places : Nat → Int32) (m_kinds : Nat → Int32) (m_nexts : Nat → Int32) (m_choices : Nat → Int32) (m_leasts : Nat → Int32) (m_captureBegins : Nat → Int32) (m_captureLengths : Nat → Int32) (a1 : Int32) (a2 : Int32) (hz3 : (m_sizes 1).toInt ≤ 512) (hk : 0 ≤ a1.toInt) (hk2 : a1.toInt ≤ 600) (u : Int32) (hu : u = f_X5_singleHas m_rows m_sizes a1 a2) : kM l yX5_singleHas wsX5_singleHas rm_X5_singleHas DD aC tt [.ref q0, .int a1, .int a2] [(q0, .inr (5, [.ref q1, .ref q2, .ref q3, .int m_madeSize, .ref q4, .ref q5, .ref q6, .ref q7, .ref q8, .ref q9, .int m_depth, .int m_end, .ref q10, .ref q11, .int m_captureCount, .int m_looks, .int m_trouble, .int m_found, .int m_first, .int m_from, .int m_ended])), (q1, .inl (aC 1, 5632, .inl m_rows)), (q2, .inl (aC 0, 3, .inl m_sizes)), (q3, .inl (aC 1, 8192, .inl m_made)), (q4, .inl (aC 0, 520, .inl m_begins)), (q5, .inl (aC 0, 520, .inl m_places)), (q6, .inl (aC 0, 520, .inl m_kinds)), (q7, .inl (aC 0, 520, .inl m_nexts)), (q8, .inl (aC 0, 520, .inl m_choices)), (q9, .inl (aC 0, 520, .inl m_leasts)), (q10, .inl (aC 0, 33, .inl m_captureBegins)), (q11, .inl (aC 0, 33, .inl m_captureLengths))] (some (.int u)) [(q0, .inr (5, [.ref q1, .ref q2, .ref q3, .int m_madeSize, .ref q4, .ref q5, .ref q6, .ref q7, .ref q8, .ref q9, .int m_depth, .int m_end, .ref q10, .ref q11, .int m_captureCount, .int m_looks, .int m_trouble, .int m_found, .int m_first, .int m_from, .int m_ended])), (q1, .inl (aC 1, 5632, .inl m_rows)), (q2, .inl (aC 0, 3, .inl m_sizes)), (q3, .inl (aC 1, 8192, .inl m_made)), (q4, .inl (aC 0, 520, .inl m_begins)), (q5, .inl (aC 0, 520, .inl m_places)), (q6, .inl (aC 0, 520, .inl m_kinds)), (q7, .inl (aC 0, 520, .inl m_nexts)), (q8, .inl (aC 0, 520, .inl m_choices)), (q9, .inl (aC 0, 520, .inl m_leasts)), (q10, .inl (aC 0, 33, .inl m_captureBegins)), (q11, .inl (aC 0, 33, .inl m_captureLengths))] := by
  refine k_start (cc := cX5_singleHas) (maxL := 4) (ret := (some .boolean)) (own := RX5) (lv0 := [(0, .ref q0), (1, .int a1), (2, .int a2)]) (by decide) rfl rfl (Nat.le_of_ble_eq_true rfl) rfl (fun p e s m below meth c A ls X hP hD hS hl => ?_)
  obtain ⟨hx, hb, hr, hml, hts, hown, hlocks, hA, hE⟩ := id X
  unfold f_X5_singleHas at hu
  refine lv_aload_n hx hb dX5_singleHas_0 rfl (lv_at hl 0 rfl) ?_
  refine lv_iload_n hx hb dX5_singleHas_1 rfl (lv_at hl 1 rfl) ?_
  obtain ⟨z_1, hz_1⟩ : ∃ z, z = f_X5_pattern m_rows m_sizes a1 := ⟨_, rfl⟩
  replace hu := hu.trans (kb_of hz_1)
  refine k_callV (As := [.int a1]) (rest := []) (wc := [(q0, .inr (5, [.ref q1, .ref q2, .ref q3, .int m_madeSize, .ref q4, .ref q5, .ref q6, .ref q7, .ref q8, .ref q9, .int m_depth, .int m_end, .ref q10, .ref q11, .int m_captureCount, .int m_looks, .int m_trouble, .int m_found, .int m_first, .int m_from, .int m_ended])), (q1, .inl (aC 1, 5632, .inl m_rows)), (q2, .inl (aC 0, 3, .inl m_sizes)), (q3, .inl (aC 1, 8192, .inl m_made)), (q4, .inl (aC 0, 520, .inl m_begins)), (q5, .inl (aC 0, 520, .inl m_places)), (q6, .inl (aC 0, 520, .inl m_kinds)), (q7, .inl (aC 0, 520, .inl m_nexts)), (q8, .inl (aC 0, 520, .inl m_choices)), (q9, .inl (aC 0, 520, .inl m_leasts)), (q10, .inl (aC 0, 33, .inl m_captureBegins)), (q11, .inl (aC 0, 33, .inl m_captureLengths))]) (wr := []) (w1 := [(q0, .inr (5, [.ref q1, .ref q2, .ref q3, .int m_madeSize, .ref q4, .ref q5, .ref q6, .ref q7, .ref q8, .ref q9, .int m_depth, .int m_end, .ref q10, .ref q11, .int m_captureCount, .int m_looks, .int m_trouble, .int m_found, .int m_first, .int m_from, .int m_ended])), (q1, .inl (aC 1, 5632, .inl m_rows)), (q2, .inl (aC 0, 3, .inl m_sizes)), (q3, .inl (aC 1, 8192, .inl m_made)), (q4, .inl (aC 0, 520, .inl m_begins)), (q5, .inl (aC 0, 520, .inl m_places)), (q6, .inl (aC 0, 520, .inl m_kinds)), (q7, .inl (aC 0, 520, .inl m_nexts)), (q8, .inl (aC 0, 520, .inl m_choices)), (q9, .inl (aC 0, 520, .inl m_leasts)), (q10, .inl (aC 0, 33, .inl m_captureBegins)), (q11, .inl (aC 0, 33, .inl m_captureLengths))]) (wn := [(q0, .inr (5, [.ref q1, .ref q2, .ref q3, .int m_madeSize, .ref q4, .ref q5, .ref q6, .ref q7, .ref q8, .ref q9, .int m_depth, .int m_end, .ref q10, .ref q11, .int m_captureCount, .int m_looks, .int m_trouble, .int m_found, .int m_first, .int m_from, .int m_ended])), (q1, .inl (aC 1, 5632, .inl m_rows)), (q2, .inl (aC 0, 3, .inl m_sizes)), (q3, .inl (aC 1, 8192, .inl m_made)), (q4, .inl (aC 0, 520, .inl m_begins)), (q5, .inl (aC 0, 520, .inl m_places)), (q6, .inl (aC 0, 520, .inl m_kinds)), (q7, .inl (aC 0, 520, .inl m_nexts)), (q8, .inl (aC 0, 520, .inl m_choices)), (q9, .inl (aC 0, 520, .inl m_leasts)), (q10, .inl (aC 0, 33, .inl m_captureBegins)), (q11, .inl (aC 0, 33, .inl m_captureLengths))]) ⟨hx, hb, hml, hown, hts⟩ (c_X5_pattern l DD aC tt q0 q1 q2 q3 q4 q5 q6 q7 q8 q9 q10 q11  m_madeSize m_depth m_end m_captureCount m_looks m_trouble m_found m_first m_from m_ended m_rows m_sizes m_made m_begins m_places m_kinds m_nexts m_choices m_leasts m_captureBegins m_captureLengths a1 hz3 hk z_1 hz_1) (cwV 1 hts (gdV w_617 w_619 w_39 w_74 w_620) rfl rfl rfl (by decide +kernel) ⟨Nat.le_of_ble_eq_true rfl, Nat.le_of_ble_eq_true rfl⟩) hP hD hS hA hE [0, 1, 2, 3, 4, 5, 6, 7, 8, 9, 10, 11] [] [0, 1, 2, 3, 4, 5, 6, 7, 8, 9, 10, 11] rfl rfl rfl (by decide) (by decide) (by decide) (by decide) (ci := 5) (q0 := 0) rfl rfl rfl hl.1 rfl (Nat.le_of_ble_eq_true rfl) dX5_singleHas_2 (fun H locs hP hD hS => ?_)
  refine W.eq (g2 := F0 m 5 ls [.int z_1]) rfl ?_
  have h_2 := pf_X5_pattern hz_1
  refine lv_istore_n (lv' := [(3, .int z_1), (0, .ref q0), (1, .int a1), (2, .int a2)]) hx hb dX5_singleHas_5 rfl hl (by decide) rfl (fun ls hl => ?_)
  refine lv_iload_n hx hb dX5_singleHas_6 rfl (lv_at hl 0 rfl) ?_
  refine lv_bipush (v := 46) hx hb dX5_singleHas_7 (by decide) ?_
  refine lv_icmp_ne (tgt := 14) hx hb dX5_singleHas_9 (by decide) (fun c_3 => ?_) (fun c_3 => ?_)
  · replace hu := hu.trans (if_neg c_3)
    refine lv_iload_n hx hb dX5_singleHas_14 rfl (lv_at hl 0 rfl) ?_
    refine lv_bipush (v := 91) hx hb dX5_singleHas_15 (by decide) ?_
    refine lv_icmp_ne (tgt := 32) hx hb dX5_singleHas_17 (by decide) (fun c_4 => ?_) (fun c_4 => ?_)
    · replace hu := hu.trans (if_neg c_4)
      refine lv_iload_n hx hb dX5_singleHas_32 rfl (lv_at hl 0 rfl) ?_
      refine lv_bipush (v := 37) hx hb dX5_singleHas_33 (by decide) ?_
      refine lv_icmp_ne (tgt := 52) hx hb dX5_singleHas_35 (by decide) (fun c_5 => ?_) (fun c_5 => ?_)
      · replace hu := hu.trans (if_neg c_5)
        refine lv_iload_n hx hb dX5_singleHas_52 rfl (lv_at hl 0 rfl) ?_
        refine lv_iload_n hx hb dX5_singleHas_53 rfl (lv_at hl 3 rfl) ?_
        refine lv_icmp_ne (tgt := 61) hx hb dX5_singleHas_54 (by decide) (fun c_6 => ?_) (fun c_6 => ?_)
        · replace hu := hu.trans (if_neg c_6)
          refine lv_iconst (v := 0) hx hb dX5_singleHas_61 (by decide) ?_
          subst hu
          exact k_zret hx hb hr (by decide) hlocks hP hD hS rfl rfl dX5_singleHas_62
        · replace hu := hu.trans (if_pos c_6)
          refine lv_iconst (v := 1) hx hb dX5_singleHas_57 (by decide) ?_
          refine lv_goto (tgt := 62) hx hb dX5_singleHas_58 (by decide) ?_
          subst hu
          exact k_zret hx hb hr (by decide) hlocks hP hD hS rfl rfl dX5_singleHas_62
      · replace hu := hu.trans (if_pos c_5)
        refine lv_aload_n hx hb dX5_singleHas_38 rfl (lv_at hl 1 rfl) ?_
        refine lv_iload_n hx hb dX5_singleHas_39 rfl (lv_at hl 2 rfl) ?_
        refine lv_iconst (v := 1) hx hb dX5_singleHas_40 (by decide) ?_
        refine lv_iadd hx hb dX5_singleHas_41 ?_
        obtain ⟨z_7, hz_7⟩ : ∃ z, z = f_X5_pattern m_rows m_sizes (a1 + 1) := ⟨_, rfl⟩
        replace hu := hu.trans (kb_of hz_7)
        refine k_callV (As := [.int (a1 + 1)]) (rest := []) (wc := [(q0, .inr (5, [.ref q1, .ref q2, .ref q3, .int m_madeSize, .ref q4, .ref q5, .ref q6, .ref q7, .ref q8, .ref q9, .int m_depth, .int m_end, .ref q10, .ref q11, .int m_captureCount, .int m_looks, .int m_trouble, .int m_found, .int m_first, .int m_from, .int m_ended])), (q1, .inl (aC 1, 5632, .inl m_rows)), (q2, .inl (aC 0, 3, .inl m_sizes)), (q3, .inl (aC 1, 8192, .inl m_made)), (q4, .inl (aC 0, 520, .inl m_begins)), (q5, .inl (aC 0, 520, .inl m_places)), (q6, .inl (aC 0, 520, .inl m_kinds)), (q7, .inl (aC 0, 520, .inl m_nexts)), (q8, .inl (aC 0, 520, .inl m_choices)), (q9, .inl (aC 0, 520, .inl m_leasts)), (q10, .inl (aC 0, 33, .inl m_captureBegins)), (q11, .inl (aC 0, 33, .inl m_captureLengths))]) (wr := []) (w1 := [(q0, .inr (5, [.ref q1, .ref q2, .ref q3, .int m_madeSize, .ref q4, .ref q5, .ref q6, .ref q7, .ref q8, .ref q9, .int m_depth, .int m_end, .ref q10, .ref q11, .int m_captureCount, .int m_looks, .int m_trouble, .int m_found, .int m_first, .int m_from, .int m_ended])), (q1, .inl (aC 1, 5632, .inl m_rows)), (q2, .inl (aC 0, 3, .inl m_sizes)), (q3, .inl (aC 1, 8192, .inl m_made)), (q4, .inl (aC 0, 520, .inl m_begins)), (q5, .inl (aC 0, 520, .inl m_places)), (q6, .inl (aC 0, 520, .inl m_kinds)), (q7, .inl (aC 0, 520, .inl m_nexts)), (q8, .inl (aC 0, 520, .inl m_choices)), (q9, .inl (aC 0, 520, .inl m_leasts)), (q10, .inl (aC 0, 33, .inl m_captureBegins)), (q11, .inl (aC 0, 33, .inl m_captureLengths))]) (wn := [(q0, .inr (5, [.ref q1, .ref q2, .ref q3, .int m_madeSize, .ref q4, .ref q5, .ref q6, .ref q7, .ref q8, .ref q9, .int m_depth, .int m_end, .ref q10, .ref q11, .int m_captureCount, .int m_looks, .int m_trouble, .int m_found, .int m_first, .int m_from, .int m_ended])), (q1, .inl (aC 1, 5632, .inl m_rows)), (q2, .inl (aC 0, 3, .inl m_sizes)), (q3, .inl (aC 1, 8192, .inl m_made)), (q4, .inl (aC 0, 520, .inl m_begins)), (q5, .inl (aC 0, 520, .inl m_places)), (q6, .inl (aC 0, 520, .inl m_kinds)), (q7, .inl (aC 0, 520, .inl m_nexts)), (q8, .inl (aC 0, 520, .inl m_choices)), (q9, .inl (aC 0, 520, .inl m_leasts)), (q10, .inl (aC 0, 33, .inl m_captureBegins)), (q11, .inl (aC 0, 33, .inl m_captureLengths))]) ⟨hx, hb, hml, hown, hts⟩ (c_X5_pattern l DD aC tt q0 q1 q2 q3 q4 q5 q6 q7 q8 q9 q10 q11  m_madeSize m_depth m_end m_captureCount m_looks m_trouble m_found m_first m_from m_ended m_rows m_sizes m_made m_begins m_places m_kinds m_nexts m_choices m_leasts m_captureBegins m_captureLengths (a1 + 1) hz3 (show 0 ≤ (a1 + 1).toInt from (by have i1 := kx_ne c_3; have i2 := kx_ne c_4; have i3 := congrArg Int32.toInt c_5; have i4 := kx_rng (a1 + 1); have i5 := kx_rng (a1); have i7 := kx_rng (z_1); have i8 : (46 : Int32).toInt = 46 := (by decide); have i9 : (91 : Int32).toInt = 91 := (by decide); have i10 : (37 : Int32).toInt = 37 := (by decide); first | omega | (have i6 := kx_addK a1 (y := 1) (k := 1) (by decide); omega))) z_7 hz_7) (cwV 1 hts (gdV w_617 w_619 w_39 w_74 w_620) rfl rfl rfl (by decide +kernel) ⟨Nat.le_of_ble_eq_true rfl, Nat.le_of_ble_eq_true rfl⟩) hP hD hS hA hE [0, 1, 2, 3, 4, 5, 6, 7, 8, 9, 10, 11] [] [0, 1, 2, 3, 4, 5, 6, 7, 8, 9, 10, 11] rfl rfl rfl (by decide) (by decide) (by decide) (by decide) (ci := 5) (q0 := 0) rfl rfl rfl hl.1 rfl (Nat.le_of_ble_eq_true rfl) dX5_singleHas_42 (fun H locs hP hD hS => ?_)
        refine W.eq (g2 := F0 m 45 ls [.int z_7]) rfl ?_
        have h_8 := pf_X5_pattern hz_7
        refine lv_iload_n hx hb dX5_singleHas_45 rfl (lv_at hl 3 rfl) ?_
        obtain ⟨z_9, hz_9⟩ : ∃ z, z = f_X5_classHas z_7 a2 := ⟨_, rfl⟩
        replace hu := hu.trans (kb_of hz_9)
        refine k_callS (As := [.int z_7, .int a2]) (rest := []) (wc := []) (wr := [(q0, .inr (5, [.ref q1, .ref q2, .ref q3, .int m_madeSize, .ref q4, .ref q5, .ref q6, .ref q7, .ref q8, .ref q9, .int m_depth, .int m_end, .ref q10, .ref q11, .int m_captureCount, .int m_looks, .int m_trouble, .int m_found, .int m_first, .int m_from, .int m_ended])), (q1, .inl (aC 1, 5632, .inl m_rows)), (q2, .inl (aC 0, 3, .inl m_sizes)), (q3, .inl (aC 1, 8192, .inl m_made)), (q4, .inl (aC 0, 520, .inl m_begins)), (q5, .inl (aC 0, 520, .inl m_places)), (q6, .inl (aC 0, 520, .inl m_kinds)), (q7, .inl (aC 0, 520, .inl m_nexts)), (q8, .inl (aC 0, 520, .inl m_choices)), (q9, .inl (aC 0, 520, .inl m_leasts)), (q10, .inl (aC 0, 33, .inl m_captureBegins)), (q11, .inl (aC 0, 33, .inl m_captureLengths))]) (w1 := []) (wn := [(q0, .inr (5, [.ref q1, .ref q2, .ref q3, .int m_madeSize, .ref q4, .ref q5, .ref q6, .ref q7, .ref q8, .ref q9, .int m_depth, .int m_end, .ref q10, .ref q11, .int m_captureCount, .int m_looks, .int m_trouble, .int m_found, .int m_first, .int m_from, .int m_ended])), (q1, .inl (aC 1, 5632, .inl m_rows)), (q2, .inl (aC 0, 3, .inl m_sizes)), (q3, .inl (aC 1, 8192, .inl m_made)), (q4, .inl (aC 0, 520, .inl m_begins)), (q5, .inl (aC 0, 520, .inl m_places)), (q6, .inl (aC 0, 520, .inl m_kinds)), (q7, .inl (aC 0, 520, .inl m_nexts)), (q8, .inl (aC 0, 520, .inl m_choices)), (q9, .inl (aC 0, 520, .inl m_leasts)), (q10, .inl (aC 0, 33, .inl m_captureBegins)), (q11, .inl (aC 0, 33, .inl m_captureLengths))]) ⟨hx, hb, hml, hown, hts⟩ (c_X5_classHas l DD aC tt    z_7 a2  z_9 hz_9) (cwS 2 hts (gdS w_682 w_683 w_74 w_684) rfl rfl rfl (by decide +kernel) ⟨Nat.le_of_ble_eq_true rfl, Nat.le_of_ble_eq_true rfl⟩) hP hD hS hA hE [] [0, 1, 2, 3, 4, 5, 6, 7, 8, 9, 10, 11] [0, 1, 2, 3, 4, 5, 6, 7, 8, 9, 10, 11] rfl rfl rfl (by decide) (by decide) (by decide) (by decide) rfl hl.1 rfl (Nat.le_of_ble_eq_true rfl) dX5_singleHas_46 (fun H locs hP hD hS => ?_)
        refine W.eq (g2 := F0 m 49 ls [.int z_9]) rfl ?_
        have h_10 := pf_X5_classHas hz_9
        refine lv_goto (tgt := 62) hx hb dX5_singleHas_49 (by decide) ?_
        subst hu
        exact k_zret hx hb hr (kz_nar h_10) hlocks hP hD hS rfl rfl dX5_singleHas_62
    · replace hu := hu.trans (if_pos c_4)
      refine lv_aload_n hx hb dX5_singleHas_20 rfl (lv_at hl 1 rfl) ?_
      refine lv_iload_n hx hb dX5_singleHas_21 rfl (lv_at hl 2 rfl) ?_
      refine lv_aload_n hx hb dX5_singleHas_22 rfl (lv_at hl 1 rfl) ?_
      refine lv_iload_n hx hb dX5_singleHas_23 rfl (lv_at hl 2 rfl) ?_
      obtain ⟨z_11, hz_11⟩ : ∃ z, z = f_X5_closing m_rows m_sizes a1 := ⟨_, rfl⟩
      replace hu := hu.trans (kb_of hz_11)
      refine k_callV (As := [.int a1]) (rest := [.int a1, .ref q0]) (wc := [(q0, .inr (5, [.ref q1, .ref q2, .ref q3, .int m_madeSize, .ref q4, .ref q5, .ref q6, .ref q7, .ref q8, .ref q9, .int m_depth, .int m_end, .ref q10, .ref q11, .int m_captureCount, .int m_looks, .int m_trouble, .int m_found, .int m_first, .int m_from, .int m_ended])), (q1, .inl (aC 1, 5632, .inl m_rows)), (q2, .inl (aC 0, 3, .inl m_sizes)), (q3, .inl (aC 1, 8192, .inl m_made)), (q4, .inl (aC 0, 520, .inl m_begins)), (q5, .inl (aC 0, 520, .inl m_places)), (q6, .inl (aC 0, 520, .inl m_kinds)), (q7, .inl (aC 0, 520, .inl m_nexts)), (q8, .inl (aC 0, 520, .inl m_choices)), (q9, .inl (aC 0, 520, .inl m_leasts)), (q10, .inl (aC 0, 33, .inl m_captureBegins)), (q11, .inl (aC 0, 33, .inl m_captureLengths))]) (wr := []) (w1 := [(q0, .inr (5, [.ref q1, .ref q2, .ref q3, .int m_madeSize, .ref q4, .ref q5, .ref q6, .ref q7, .ref q8, .ref q9, .int m_depth, .int m_end, .ref q10, .ref q11, .int m_captureCount, .int m_looks, .int m_trouble, .int m_found, .int m_first, .int m_from, .int m_ended])), (q1, .inl (aC 1, 5632, .inl m_rows)), (q2, .inl (aC 0, 3, .inl m_sizes)), (q3, .inl (aC 1, 8192, .inl m_made)), (q4, .inl (aC 0, 520, .inl m_begins)), (q5, .inl (aC 0, 520, .inl m_places)), (q6, .inl (aC 0, 520, .inl m_kinds)), (q7, .inl (aC 0, 520, .inl m_nexts)), (q8, .inl (aC 0, 520, .inl m_choices)), (q9, .inl (aC 0, 520, .inl m_leasts)), (q10, .inl (aC 0, 33, .inl m_captureBegins)), (q11, .inl (aC 0, 33, .inl m_captureLengths))]) (wn := [(q0, .inr (5, [.ref q1, .ref q2, .ref q3, .int m_madeSize, .ref q4, .ref q5, .ref q6, .ref q7, .ref q8, .ref q9, .int m_depth, .int m_end, .ref q10, .ref q11, .int m_captureCount, .int m_looks, .int m_trouble, .int m_found, .int m_first, .int m_from, .int m_ended])), (q1, .inl (aC 1, 5632, .inl m_rows)), (q2, .inl (aC 0, 3, .inl m_sizes)), (q3, .inl (aC 1, 8192, .inl m_made)), (q4, .inl (aC 0, 520, .inl m_begins)), (q5, .inl (aC 0, 520, .inl m_places)), (q6, .inl (aC 0, 520, .inl m_kinds)), (q7, .inl (aC 0, 520, .inl m_nexts)), (q8, .inl (aC 0, 520, .inl m_choices)), (q9, .inl (aC 0, 520, .inl m_leasts)), (q10, .inl (aC 0, 33, .inl m_captureBegins)), (q11, .inl (aC 0, 33, .inl m_captureLengths))]) ⟨hx, hb, hml, hown, hts⟩ (c_X5_closing l DD aC tt q0 q1 q2 q3 q4 q5 q6 q7 q8 q9 q10 q11  m_madeSize m_depth m_end m_captureCount m_looks m_trouble m_found m_first m_from m_ended m_rows m_sizes m_made m_begins m_places m_kinds m_nexts m_choices m_leasts m_captureBegins m_captureLengths a1 hz3 hk hk2 z_11 hz_11) (cwV 1 hts (gdV w_674 w_676 w_53 w_74 w_677) rfl rfl rfl (by decide +kernel) ⟨Nat.le_of_ble_eq_true rfl, Nat.le_of_ble_eq_true rfl⟩) hP hD hS hA hE [0, 1, 2, 3, 4, 5, 6, 7, 8, 9, 10, 11] [] [0, 1, 2, 3, 4, 5, 6, 7, 8, 9, 10, 11] rfl rfl rfl (by decide) (by decide) (by decide) (by decide) (ci := 5) (q0 := 0) rfl rfl rfl hl.1 rfl (Nat.le_of_ble_eq_true rfl) dX5_singleHas_24 (fun H locs hP hD hS => ?_)
      refine W.eq (g2 := F0 m 27 ls [.int z_11, .int a1, .ref q0]) rfl ?_
      have h_12 := pf_X5_closing hz_11
      refine lv_iload_n hx hb dX5_singleHas_27 rfl (lv_at hl 3 rfl) ?_
      obtain ⟨z_13, hz_13⟩ : ∃ z, z = f_X5_setHas m_rows m_sizes a1 z_11 a2 := ⟨_, rfl⟩
      replace hu := hu.trans (kb_of hz_13)
      refine k_callV (As := [.int a1, .int z_11, .int a2]) (rest := []) (wc := [(q0, .inr (5, [.ref q1, .ref q2, .ref q3, .int m_madeSize, .ref q4, .ref q5, .ref q6, .ref q7, .ref q8, .ref q9, .int m_depth, .int m_end, .ref q10, .ref q11, .int m_captureCount, .int m_looks, .int m_trouble, .int m_found, .int m_first, .int m_from, .int m_ended])), (q1, .inl (aC 1, 5632, .inl m_rows)), (q2, .inl (aC 0, 3, .inl m_sizes)), (q3, .inl (aC 1, 8192, .inl m_made)), (q4, .inl (aC 0, 520, .inl m_begins)), (q5, .inl (aC 0, 520, .inl m_places)), (q6, .inl (aC 0, 520, .inl m_kinds)), (q7, .inl (aC 0, 520, .inl m_nexts)), (q8, .inl (aC 0, 520, .inl m_choices)), (q9, .inl (aC 0, 520, .inl m_leasts)), (q10, .inl (aC 0, 33, .inl m_captureBegins)), (q11, .inl (aC 0, 33, .inl m_captureLengths))]) (wr := []) (w1 := [(q0, .inr (5, [.ref q1, .ref q2, .ref q3, .int m_madeSize, .ref q4, .ref q5, .ref q6, .ref q7, .ref q8, .ref q9, .int m_depth, .int m_end, .ref q10, .ref q11, .int m_captureCount, .int m_looks, .int m_trouble, .int m_found, .int m_first, .int m_from, .int m_ended])), (q1, .inl (aC 1, 5632, .inl m_rows)), (q2, .inl (aC 0, 3, .inl m_sizes)), (q3, .inl (aC 1, 8192, .inl m_made)), (q4, .inl (aC 0, 520, .inl m_begins)), (q5, .inl (aC 0, 520, .inl m_places)), (q6, .inl (aC 0, 520, .inl m_kinds)), (q7, .inl (aC 0, 520, .inl m_nexts)), (q8, .inl (aC 0, 520, .inl m_choices)), (q9, .inl (aC 0, 520, .inl m_leasts)), (q10, .inl (aC 0, 33, .inl m_captureBegins)), (q11, .inl (aC 0, 33, .inl m_captureLengths))]) (wn := [(q0, .inr (5, [.ref q1, .ref q2, .ref q3, .int m_madeSize, .ref q4, .ref q5, .ref q6, .ref q7, .ref q8, .ref q9, .int m_depth, .int m_end, .ref q10, .ref q11, .int m_captureCount, .int m_looks, .int m_trouble, .int m_found, .int m_first, .int m_from, .int m_ended])), (q1, .inl (aC 1, 5632, .inl m_rows)), (q2, .inl (aC 0, 3, .inl m_sizes)), (q3, .inl (aC 1, 8192, .inl m_made)), (q4, .inl (aC 0, 520, .inl m_begins)), (q5, .inl (aC 0, 520, .inl m_places)), (q6, .inl (aC 0, 520, .inl m_kinds)), (q7, .inl (aC 0, 520, .inl m_nexts)), (q8, .inl (aC 0, 520, .inl m_choices)), (q9, .inl (aC 0, 520, .inl m_leasts)), (q10, .inl (aC 0, 33, .inl m_captureBegins)), (q11, .inl (aC 0, 33, .inl m_captureLengths))]) ⟨hx, hb, hml, hown, hts⟩ (c_X5_setHas l DD aC tt q0 q1 q2 q3 q4 q5 q6 q7 q8 q9 q10 q11  m_madeSize m_depth m_end m_captureCount m_looks m_trouble m_found m_first m_from m_ended m_rows m_sizes m_made m_begins m_places m_kinds m_nexts m_choices m_leasts m_captureBegins m_captureLengths a1 z_11 a2 hz3 hk hk2 (show z_11.toInt ≤ 600 from (by have i1 := kx_ne c_3; have i2 := congrArg Int32.toInt c_4; have i3 := kx_rng (z_11); have i4 := kx_rng (z_1); have i5 : (46 : Int32).toInt = 46 := (by decide); have i6 : (91 : Int32).toInt = 91 := (by decide); omega)) z_13 hz_13) (cwV 3 hts (gdV w_678 w_680 w_54 w_74 w_681) rfl rfl rfl (by decide +kernel) ⟨Nat.le_of_ble_eq_true rfl, Nat.le_of_ble_eq_true rfl⟩) hP hD hS hA hE [0, 1, 2, 3, 4, 5, 6, 7, 8, 9, 10, 11] [] [0, 1, 2, 3, 4, 5, 6, 7, 8, 9, 10, 11] rfl rfl rfl (by decide) (by decide) (by decide) (by decide) (ci := 5) (q0 := 0) rfl rfl rfl hl.1 rfl (Nat.le_of_ble_eq_true rfl) dX5_singleHas_28 (fun H locs hP hD hS => ?_)
      refine W.eq (g2 := F0 m 31 ls [.int z_13]) rfl ?_
      have h_14 := pf_X5_setHas hz3 hk hk2 (show z_11.toInt ≤ 600 from (by have i1 := kx_ne c_3; have i2 := congrArg Int32.toInt c_4; have i3 := kx_rng (z_11); have i4 := kx_rng (z_1); have i5 : (46 : Int32).toInt = 46 := (by decide); have i6 : (91 : Int32).toInt = 91 := (by decide); omega)) hz_13
      subst hu
      exact k_zret hx hb hr (kz_nar h_14) hlocks hP hD hS rfl rfl dX5_singleHas_31
  · replace hu := hu.trans (if_pos c_3)
    refine lv_iconst (v := 1) hx hb dX5_singleHas_12 (by decide) ?_
    subst hu
    exact k_zret hx hb hr (by decide) hlocks hP hD hS rfl rfl dX5_singleHas_13
def f_X5_look (m_looks : Int32) (m_trouble : Int32) : Int32 × Int32 × Int32 := (if m_looks = 100000 then (0, m_looks, (-4)) else (1, m_looks + 1, m_trouble))
set_option maxHeartbeats 4000000 in
theorem pf_X5_look {m_looks : Int32} {m_trouble : Int32} {u : Int32 × Int32 × Int32} (hu : u = f_X5_look m_looks m_trouble) : (u.1 = 0 ∨ u.1 = 1) := by
  unfold f_X5_look at hu
  rcases (Classical.em (m_looks = 100000)).symm with c_1 | c_1
  · replace hu := hu.trans (if_neg c_1)
    rw [hu]
    exact show ((1 : Int32) = 0 ∨ (1 : Int32) = 1) from (Or.inr rfl)
  · replace hu := hu.trans (if_pos c_1)
    rw [hu]
    exact show ((0 : Int32) = 0 ∨ (0 : Int32) = 1) from (Or.inl rfl)
abbrev rm_X5_look : Room := { frames := 0, cells := 0, slots := 0, locals := 0 }
set_option maxHeartbeats 4000000 in
set_option maxRecDepth 100000 in
theorem c_X5_look (l : Launch) (DD : va_G) (aC : Nat → ClassId) (tt : Nat → Nat) (q0 q1 q2 q3 q4 q5 q6 q7 q8 q9 q10 q11 : Nat) (m_madeSize : Int32) (m_depth : Int32) (m_end : Int32) (m_captureCount : Int32) (m_looks : Int32) (m_trouble : Int32) (m_found : Int32) (m_first : Int32) (m_from : Int32) (m_ended : Int32) (m_rows : Nat → Int32) (m_sizes : Nat → Int32) (m_made : Nat → Int32) (m_begins : Nat → Int32) (m_places : Nat → Int32) (m_kinds : Nat → Int32) (m_nexts : Nat → Int32) (m_choices : Nat → Int32) (m_leasts : Nat → Int32) (m_captureBegins : Nat → Int32) (m_captureLengths : Nat → Int32) (u : Int32 × Int32 × Int32) (hu : u = f_X5_look m_looks m_trouble) : kM l yX5_look wsX5_look rm_X5_look DD aC tt [.ref q0] [(q0, .inr (5, [.ref q1, .ref q2, .ref q3, .int m_madeSize, .ref q4, .ref q5, .ref q6, .ref q7, .ref q8, .ref q9, .int m_depth, .int m_end, .ref q10, .ref q11, .int m_captureCount, .int m_looks, .int m_trouble, .int m_found, .int m_first, .int m_from, .int m_ended])), (q1, .inl (aC 1, 5632, .inl m_rows)), (q2, .inl (aC 0, 3, .inl m_sizes)), (q3, .inl (aC 1, 8192, .inl m_made)), (q4, .inl (aC 0, 520, .inl m_begins)), (q5, .inl (aC 0, 520, .inl m_places)), (q6, .inl (aC 0, 520, .inl m_kinds)), (q7, .inl (aC 0, 520, .inl m_nexts)), (q8, .inl (aC 0, 520, .inl m_choices)), (q9, .inl (aC 0, 520, .inl m_leasts)), (q10, .inl (aC 0, 33, .inl m_captureBegins)), (q11, .inl (aC 0, 33, .inl m_captureLengths))] (some (.int u.1)) [(q0, .inr (5, [.ref q1, .ref q2, .ref q3, .int m_madeSize, .ref q4, .ref q5, .ref q6, .ref q7, .ref q8, .ref q9, .int m_depth, .int m_end, .ref q10, .ref q11, .int m_captureCount, .int u.2.1, .int u.2.2, .int m_found, .int m_first, .int m_from, .int m_ended])), (q1, .inl (aC 1, 5632, .inl m_rows)), (q2, .inl (aC 0, 3, .inl m_sizes)), (q3, .inl (aC 1, 8192, .inl m_made)), (q4, .inl (aC 0, 520, .inl m_begins)), (q5, .inl (aC 0, 520, .inl m_places)), (q6, .inl (aC 0, 520, .inl m_kinds)), (q7, .inl (aC 0, 520, .inl m_nexts)), (q8, .inl (aC 0, 520, .inl m_choices)), (q9, .inl (aC 0, 520, .inl m_leasts)), (q10, .inl (aC 0, 33, .inl m_captureBegins)), (q11, .inl (aC 0, 33, .inl m_captureLengths))] := by
  refine k_start (cc := cX5_look) (maxL := 1) (ret := (some .boolean)) (own := RX5) (lv0 := [(0, .ref q0)]) (by decide) rfl rfl (Nat.le_of_ble_eq_true rfl) rfl (fun p e s m below meth c A ls X hP hD hS hl => ?_)
  obtain ⟨hx, hb, hr, hml, hts, hown, hlocks, hA, hE⟩ := id X
  unfold f_X5_look at hu
  refine lv_aload_n hx hb dX5_look_0 rfl (lv_at hl 0 rfl) ?_
  refine va_get (D := DD) (ci := 5) (v := .int m_looks) (C := RX5) (T := TX5) (N := 21) hx hb hts (fun w h => List.mem_cons_of_mem _ (inX5 w h)) hown hE.1 hP 0 rfl rfl 15 (by decide) (hts (.fieldLink "TextPatternsModel" 87 "TextPatternsModel" "looks" "I") (List.mem_cons_of_mem _ w_546)) (fun _ h9 => h9) rfl dX5_look_1 ?_
  refine lv_ldc hx hb hown (hts (.constant "TextPatternsModel" 90 100000) (List.mem_cons_of_mem _ w_669)) dX5_look_4 ?_
  refine lv_icmp_ne (tgt := 17) hx hb dX5_look_6 (by decide) (fun c_1 => ?_) (fun c_1 => ?_)
  · replace hu := hu.trans (if_neg c_1)
    refine lv_aload_n hx hb dX5_look_17 rfl (lv_at hl 0 rfl) ?_
    refine lv_dup hx hb dX5_look_18 rfl ?_
    refine va_get (D := DD) (ci := 5) (v := .int m_looks) (C := RX5) (T := TX5) (N := 21) hx hb hts (fun w h => List.mem_cons_of_mem _ (inX5 w h)) hown hE.1 hP 0 rfl rfl 15 (by decide) (hts (.fieldLink "TextPatternsModel" 87 "TextPatternsModel" "looks" "I") (List.mem_cons_of_mem _ w_546)) (fun _ h9 => h9) rfl dX5_look_19 ?_
    refine lv_iconst (v := 1) hx hb dX5_look_22 (by decide) ?_
    refine lv_iadd hx hb dX5_look_23 ?_
    refine va_put (D := DD) (ci := 5) (v := .int (m_looks + 1)) (ty := .int) (C := RX5) (T := TX5) (N := 21) hx hb hts (fun w h => List.mem_cons_of_mem _ (inX5 w h)) tyX5 tyX5_ok nmX5 hown hE.1 hP hD hS 0 rfl rfl 15 (by decide) (hts (.fieldLink "TextPatternsModel" 87 "TextPatternsModel" "looks" "I") (List.mem_cons_of_mem _ w_546)) (fun _ h9 => h9) rfl (by decide +kernel) rfl rfl (Nat.le_of_ble_eq_true rfl) dX5_look_24 (fun H locs hP hD hS => ?_)
    have hP : va_P DD vwCl [(q0, .inr (5, [.ref q1, .ref q2, .ref q3, .int m_madeSize, .ref q4, .ref q5, .ref q6, .ref q7, .ref q8, .ref q9, .int m_depth, .int m_end, .ref q10, .ref q11, .int m_captureCount, .int (m_looks + 1), .int m_trouble, .int m_found, .int m_first, .int m_from, .int m_ended])), (q1, .inl (aC 1, 5632, .inl m_rows)), (q2, .inl (aC 0, 3, .inl m_sizes)), (q3, .inl (aC 1, 8192, .inl m_made)), (q4, .inl (aC 0, 520, .inl m_begins)), (q5, .inl (aC 0, 520, .inl m_places)), (q6, .inl (aC 0, 520, .inl m_kinds)), (q7, .inl (aC 0, 520, .inl m_nexts)), (q8, .inl (aC 0, 520, .inl m_choices)), (q9, .inl (aC 0, 520, .inl m_leasts)), (q10, .inl (aC 0, 33, .inl m_captureBegins)), (q11, .inl (aC 0, 33, .inl m_captureLengths))] H := hP
    have hD : va_D A [(q0, .inr (5, [.ref q1, .ref q2, .ref q3, .int m_madeSize, .ref q4, .ref q5, .ref q6, .ref q7, .ref q8, .ref q9, .int m_depth, .int m_end, .ref q10, .ref q11, .int m_captureCount, .int (m_looks + 1), .int m_trouble, .int m_found, .int m_first, .int m_from, .int m_ended])), (q1, .inl (aC 1, 5632, .inl m_rows)), (q2, .inl (aC 0, 3, .inl m_sizes)), (q3, .inl (aC 1, 8192, .inl m_made)), (q4, .inl (aC 0, 520, .inl m_begins)), (q5, .inl (aC 0, 520, .inl m_places)), (q6, .inl (aC 0, 520, .inl m_kinds)), (q7, .inl (aC 0, 520, .inl m_nexts)), (q8, .inl (aC 0, 520, .inl m_choices)), (q9, .inl (aC 0, 520, .inl m_leasts)), (q10, .inl (aC 0, 33, .inl m_captureBegins)), (q11, .inl (aC 0, 33, .inl m_captureLengths))] := hD
    refine lv_iconst (v := 1) hx hb dX5_look_27 (by decide) ?_
    subst hu
    exact k_zret hx hb hr (by decide) hlocks hP hD hS rfl rfl dX5_look_28
  · replace hu := hu.trans (if_pos c_1)
    refine lv_aload_n hx hb dX5_look_9 rfl (lv_at hl 0 rfl) ?_
    refine lv_bipush (v := (-4)) hx hb dX5_look_10 (by decide) ?_
    refine va_put (D := DD) (ci := 5) (v := .int (-4)) (ty := .int) (C := RX5) (T := TX5) (N := 21) hx hb hts (fun w h => List.mem_cons_of_mem _ (inX5 w h)) tyX5 tyX5_ok nmX5 hown hE.1 hP hD hS 0 rfl rfl 16 (by decide) (hts (.fieldLink "TextPatternsModel" 91 "TextPatternsModel" "trouble" "I") (List.mem_cons_of_mem _ w_547)) (fun _ h9 => h9) rfl (by decide +kernel) rfl rfl (Nat.le_of_ble_eq_true rfl) dX5_look_12 (fun H locs hP hD hS => ?_)
    have hP : va_P DD vwCl [(q0, .inr (5, [.ref q1, .ref q2, .ref q3, .int m_madeSize, .ref q4, .ref q5, .ref q6, .ref q7, .ref q8, .ref q9, .int m_depth, .int m_end, .ref q10, .ref q11, .int m_captureCount, .int m_looks, .int (-4), .int m_found, .int m_first, .int m_from, .int m_ended])), (q1, .inl (aC 1, 5632, .inl m_rows)), (q2, .inl (aC 0, 3, .inl m_sizes)), (q3, .inl (aC 1, 8192, .inl m_made)), (q4, .inl (aC 0, 520, .inl m_begins)), (q5, .inl (aC 0, 520, .inl m_places)), (q6, .inl (aC 0, 520, .inl m_kinds)), (q7, .inl (aC 0, 520, .inl m_nexts)), (q8, .inl (aC 0, 520, .inl m_choices)), (q9, .inl (aC 0, 520, .inl m_leasts)), (q10, .inl (aC 0, 33, .inl m_captureBegins)), (q11, .inl (aC 0, 33, .inl m_captureLengths))] H := hP
    have hD : va_D A [(q0, .inr (5, [.ref q1, .ref q2, .ref q3, .int m_madeSize, .ref q4, .ref q5, .ref q6, .ref q7, .ref q8, .ref q9, .int m_depth, .int m_end, .ref q10, .ref q11, .int m_captureCount, .int m_looks, .int (-4), .int m_found, .int m_first, .int m_from, .int m_ended])), (q1, .inl (aC 1, 5632, .inl m_rows)), (q2, .inl (aC 0, 3, .inl m_sizes)), (q3, .inl (aC 1, 8192, .inl m_made)), (q4, .inl (aC 0, 520, .inl m_begins)), (q5, .inl (aC 0, 520, .inl m_places)), (q6, .inl (aC 0, 520, .inl m_kinds)), (q7, .inl (aC 0, 520, .inl m_nexts)), (q8, .inl (aC 0, 520, .inl m_choices)), (q9, .inl (aC 0, 520, .inl m_leasts)), (q10, .inl (aC 0, 33, .inl m_captureBegins)), (q11, .inl (aC 0, 33, .inl m_captureLengths))] := hD
    refine lv_iconst (v := 0) hx hb dX5_look_15 (by decide) ?_
    subst hu
    exact k_zret hx hb hr (by decide) hlocks hP hD hS rfl rfl dX5_look_16
def f_X5_isThere (m_looks : Int32) (m_trouble : Int32) (m_rows : Nat → Int32) (m_sizes : Nat → Int32) (a1 : Int32) (a2 : Int32) : Int32 × Int32 × Int32 := (if (m_sizes 0) ≤ a2 then (0, m_looks, m_trouble) else (kb (f_X5_look m_looks m_trouble) (fun z_2 => (if z_2.1 = 0 then (0, z_2.2.1, z_2.2.2) else (kb (f_X5_at_0 m_rows m_sizes a2) (fun z_5 => (kb (f_X5_singleHas m_rows m_sizes a1 z_5) (fun z_7 => (if z_7 = 0 then (0, z_2.2.1, z_2.2.2) else (1, z_2.2.1, z_2.2.2))))))))))
set_option maxHeartbeats 4000000 in
theorem pf_X5_isThere {m_looks : Int32} {m_trouble : Int32} {m_rows : Nat → Int32} {m_sizes : Nat → Int32} {a1 : Int32} {a2 : Int32} (hz3 : (m_sizes 1).toInt ≤ 512) (hk : 0 ≤ a1.toInt) (hk2 : a1.toInt ≤ 600) (hz1 : (m_sizes 0).toInt ≤ 4096) (hs0 : 0 ≤ a2.toInt) {u : Int32 × Int32 × Int32} (hu : u = f_X5_isThere m_looks m_trouble m_rows m_sizes a1 a2) : (u.1 = 0 ∨ u.1 = 1) := by
  unfold f_X5_isThere at hu
  rcases Classical.em ((m_sizes 0) ≤ a2) with c_1 | c_1
  · replace hu := hu.trans (if_pos c_1)
    rw [hu]
    exact show ((0 : Int32) = 0 ∨ (0 : Int32) = 1) from (Or.inl rfl)
  · replace hu := hu.trans (if_neg c_1)
    obtain ⟨z_2, hz_2⟩ : ∃ z, z = f_X5_look m_looks m_trouble := ⟨_, rfl⟩
    replace hu := hu.trans (kb_of hz_2)
    have h_3 := pf_X5_look hz_2
    rcases Classical.em (z_2.1 = 0) with c_4 | c_4
    · replace hu := hu.trans (if_pos c_4)
      rw [hu]
      exact show ((0 : Int32) = 0 ∨ (0 : Int32) = 1) from (Or.inl rfl)
    · replace hu := hu.trans (if_neg c_4)
      obtain ⟨z_5, hz_5⟩ : ∃ z, z = f_X5_at_0 m_rows m_sizes a2 := ⟨_, rfl⟩
      replace hu := hu.trans (kb_of hz_5)
      have h_6 := pf_X5_at_0 hz_5
      obtain ⟨z_7, hz_7⟩ : ∃ z, z = f_X5_singleHas m_rows m_sizes a1 z_5 := ⟨_, rfl⟩
      replace hu := hu.trans (kb_of hz_7)
      have h_8 := pf_X5_singleHas hz3 hk hk2 hz_7
      rcases Classical.em (z_7 = 0) with c_9 | c_9
      · replace hu := hu.trans (if_pos c_9)
        rw [hu]
        exact show ((0 : Int32) = 0 ∨ (0 : Int32) = 1) from (Or.inl rfl)
      · replace hu := hu.trans (if_neg c_9)
        rw [hu]
        exact show ((1 : Int32) = 0 ∨ (1 : Int32) = 1) from (Or.inr rfl)
abbrev rm_X5_isThere : Room := { frames := 5, cells := 0, slots := 0, locals := 114 }
set_option maxHeartbeats 4000000 in
set_option maxRecDepth 100000 in
theorem c_X5_isThere (l : Launch) (DD : va_G) (aC : Nat → ClassId) (tt : Nat → Nat) (q0 q1 q2 q3 q4 q5 q6 q7 q8 q9 q10 q11 : Nat) (m_madeSize : Int32) (m_depth : Int32) (m_end : Int32) (m_captureCount : Int32) (m_looks : Int32) (m_trouble : Int32) (m_found : Int32) (m_first : Int32) (m_from : Int32) (m_ended : Int32) (m_rows : Nat → Int32) (m_sizes : Nat → Int32) (m_made : Nat → Int32) (m_begins : Nat → Int32) (m_places : Nat → Int32) (m_kinds : Nat → Int32) (m_nexts : Nat → Int32) (m_choices : Nat → Int32) (m_leasts : Nat → Int32) (m_captureBegins : Nat → Int32) (m_captureLengths : Nat → Int32) (a1 : Int32) (a2 : Int32) (hz3 : (m_sizes 1).toInt ≤ 512) (hk : 0 ≤ a1.toInt) (hk2 : a1.toInt ≤ 600) (hz1 : (m_sizes 0).toInt ≤ 4096) (hs0 : 0 ≤ a2.toInt) (u : Int32 × Int32 × Int32) (hu : u = f_X5_isThere m_looks m_trouble m_rows m_sizes a1 a2) : kM l yX5_isThere wsX5_isThere rm_X5_isThere DD aC tt [.ref q0, .int a1, .int a2] [(q0, .inr (5, [.ref q1, .ref q2, .ref q3, .int m_madeSize, .ref q4, .ref q5, .ref q6, .ref q7, .ref q8, .ref q9, .int m_depth, .int m_end, .ref q10, .ref q11, .int m_captureCount, .int m_looks, .int m_trouble, .int m_found, .int m_first, .int m_from, .int m_ended])), (q1, .inl (aC 1, 5632, .inl m_rows)), (q2, .inl (aC 0, 3, .inl m_sizes)), (q3, .inl (aC 1, 8192, .inl m_made)), (q4, .inl (aC 0, 520, .inl m_begins)), (q5, .inl (aC 0, 520, .inl m_places)), (q6, .inl (aC 0, 520, .inl m_kinds)), (q7, .inl (aC 0, 520, .inl m_nexts)), (q8, .inl (aC 0, 520, .inl m_choices)), (q9, .inl (aC 0, 520, .inl m_leasts)), (q10, .inl (aC 0, 33, .inl m_captureBegins)), (q11, .inl (aC 0, 33, .inl m_captureLengths))] (some (.int u.1)) [(q0, .inr (5, [.ref q1, .ref q2, .ref q3, .int m_madeSize, .ref q4, .ref q5, .ref q6, .ref q7, .ref q8, .ref q9, .int m_depth, .int m_end, .ref q10, .ref q11, .int m_captureCount, .int u.2.1, .int u.2.2, .int m_found, .int m_first, .int m_from, .int m_ended])), (q1, .inl (aC 1, 5632, .inl m_rows)), (q2, .inl (aC 0, 3, .inl m_sizes)), (q3, .inl (aC 1, 8192, .inl m_made)), (q4, .inl (aC 0, 520, .inl m_begins)), (q5, .inl (aC 0, 520, .inl m_places)), (q6, .inl (aC 0, 520, .inl m_kinds)), (q7, .inl (aC 0, 520, .inl m_nexts)), (q8, .inl (aC 0, 520, .inl m_choices)), (q9, .inl (aC 0, 520, .inl m_leasts)), (q10, .inl (aC 0, 33, .inl m_captureBegins)), (q11, .inl (aC 0, 33, .inl m_captureLengths))] := by
  refine k_start (cc := cX5_isThere) (maxL := 3) (ret := (some .boolean)) (own := RX5) (lv0 := [(0, .ref q0), (1, .int a1), (2, .int a2)]) (by decide) rfl rfl (Nat.le_of_ble_eq_true rfl) rfl (fun p e s m below meth c A ls X hP hD hS hl => ?_)
  obtain ⟨hx, hb, hr, hml, hts, hown, hlocks, hA, hE⟩ := id X
  unfold f_X5_isThere at hu
  refine lv_iload_n hx hb dX5_isThere_0 rfl (lv_at hl 2 rfl) ?_
  refine lv_aload_n hx hb dX5_isThere_1 rfl (lv_at hl 0 rfl) ?_
  refine va_get (D := DD) (ci := 5) (v := .ref q2) (C := RX5) (T := TX5) (N := 21) hx hb hts (fun w h => List.mem_cons_of_mem _ (inX5 w h)) hown hE.1 hP 0 rfl rfl 1 (by decide) (hts (.fieldLink "TextPatternsModel" 13 "TextPatternsModel" "sizes" "[I") (List.mem_cons_of_mem _ w_532)) (fun _ h9 => h9) rfl dX5_isThere_2 ?_
  refine lv_iconst (v := 0) hx hb dX5_isThere_5 (by decide) ?_
  refine va_iald hx hb hE.1 hP 2 0 rfl rfl (kb_c (by decide) (by decide)) dX5_isThere_6 ?_
  refine W.eq (g2 := F0 m 7 ls [.int (m_sizes 0), .int a2]) rfl ?_
  refine lv_icmp_ge (tgt := 35) hx hb dX5_isThere_7 (by decide) (fun c_1 => ?_) (fun c_1 => ?_)
  · replace hu := hu.trans (if_pos c_1)
    refine lv_iconst (v := 0) hx hb dX5_isThere_35 (by decide) ?_
    subst hu
    exact k_zret hx hb hr (by decide) hlocks hP hD hS rfl rfl dX5_isThere_36
  · replace hu := hu.trans (if_neg c_1)
    refine lv_aload_n hx hb dX5_isThere_10 rfl (lv_at hl 0 rfl) ?_
    obtain ⟨z_2, hz_2⟩ : ∃ z, z = f_X5_look m_looks m_trouble := ⟨_, rfl⟩
    replace hu := hu.trans (kb_of hz_2)
    refine k_callV (As := []) (rest := []) (wc := [(q0, .inr (5, [.ref q1, .ref q2, .ref q3, .int m_madeSize, .ref q4, .ref q5, .ref q6, .ref q7, .ref q8, .ref q9, .int m_depth, .int m_end, .ref q10, .ref q11, .int m_captureCount, .int m_looks, .int m_trouble, .int m_found, .int m_first, .int m_from, .int m_ended])), (q1, .inl (aC 1, 5632, .inl m_rows)), (q2, .inl (aC 0, 3, .inl m_sizes)), (q3, .inl (aC 1, 8192, .inl m_made)), (q4, .inl (aC 0, 520, .inl m_begins)), (q5, .inl (aC 0, 520, .inl m_places)), (q6, .inl (aC 0, 520, .inl m_kinds)), (q7, .inl (aC 0, 520, .inl m_nexts)), (q8, .inl (aC 0, 520, .inl m_choices)), (q9, .inl (aC 0, 520, .inl m_leasts)), (q10, .inl (aC 0, 33, .inl m_captureBegins)), (q11, .inl (aC 0, 33, .inl m_captureLengths))]) (wr := []) (w1 := [(q0, .inr (5, [.ref q1, .ref q2, .ref q3, .int m_madeSize, .ref q4, .ref q5, .ref q6, .ref q7, .ref q8, .ref q9, .int m_depth, .int m_end, .ref q10, .ref q11, .int m_captureCount, .int z_2.2.1, .int z_2.2.2, .int m_found, .int m_first, .int m_from, .int m_ended])), (q1, .inl (aC 1, 5632, .inl m_rows)), (q2, .inl (aC 0, 3, .inl m_sizes)), (q3, .inl (aC 1, 8192, .inl m_made)), (q4, .inl (aC 0, 520, .inl m_begins)), (q5, .inl (aC 0, 520, .inl m_places)), (q6, .inl (aC 0, 520, .inl m_kinds)), (q7, .inl (aC 0, 520, .inl m_nexts)), (q8, .inl (aC 0, 520, .inl m_choices)), (q9, .inl (aC 0, 520, .inl m_leasts)), (q10, .inl (aC 0, 33, .inl m_captureBegins)), (q11, .inl (aC 0, 33, .inl m_captureLengths))]) (wn := [(q0, .inr (5, [.ref q1, .ref q2, .ref q3, .int m_madeSize, .ref q4, .ref q5, .ref q6, .ref q7, .ref q8, .ref q9, .int m_depth, .int m_end, .ref q10, .ref q11, .int m_captureCount, .int z_2.2.1, .int z_2.2.2, .int m_found, .int m_first, .int m_from, .int m_ended])), (q1, .inl (aC 1, 5632, .inl m_rows)), (q2, .inl (aC 0, 3, .inl m_sizes)), (q3, .inl (aC 1, 8192, .inl m_made)), (q4, .inl (aC 0, 520, .inl m_begins)), (q5, .inl (aC 0, 520, .inl m_places)), (q6, .inl (aC 0, 520, .inl m_kinds)), (q7, .inl (aC 0, 520, .inl m_nexts)), (q8, .inl (aC 0, 520, .inl m_choices)), (q9, .inl (aC 0, 520, .inl m_leasts)), (q10, .inl (aC 0, 33, .inl m_captureBegins)), (q11, .inl (aC 0, 33, .inl m_captureLengths))]) ⟨hx, hb, hml, hown, hts⟩ (c_X5_look l DD aC tt q0 q1 q2 q3 q4 q5 q6 q7 q8 q9 q10 q11  m_madeSize m_depth m_end m_captureCount m_looks m_trouble m_found m_first m_from m_ended m_rows m_sizes m_made m_begins m_places m_kinds m_nexts m_choices m_leasts m_captureBegins m_captureLengths   z_2 hz_2) (cwV 0 hts (gdV w_665 w_667 w_51 w_74 w_668) rfl rfl rfl (by decide +kernel) ⟨Nat.le_of_ble_eq_true rfl, Nat.le_of_ble_eq_true rfl⟩) hP hD hS hA hE [0, 1, 2, 3, 4, 5, 6, 7, 8, 9, 10, 11] [] [0, 1, 2, 3, 4, 5, 6, 7, 8, 9, 10, 11] rfl rfl rfl (by decide) (by decide) (by decide) (by decide) (ci := 5) (q0 := 0) rfl rfl rfl hl.1 rfl (Nat.le_of_ble_eq_true rfl) dX5_isThere_11 (fun H locs hP hD hS => ?_)
    have hP : va_P DD vwCl [(q0, .inr (5, [.ref q1, .ref q2, .ref q3, .int m_madeSize, .ref q4, .ref q5, .ref q6, .ref q7, .ref q8, .ref q9, .int m_depth, .int m_end, .ref q10, .ref q11, .int m_captureCount, .int z_2.2.1, .int z_2.2.2, .int m_found, .int m_first, .int m_from, .int m_ended])), (q1, .inl (aC 1, 5632, .inl m_rows)), (q2, .inl (aC 0, 3, .inl m_sizes)), (q3, .inl (aC 1, 8192, .inl m_made)), (q4, .inl (aC 0, 520, .inl m_begins)), (q5, .inl (aC 0, 520, .inl m_places)), (q6, .inl (aC 0, 520, .inl m_kinds)), (q7, .inl (aC 0, 520, .inl m_nexts)), (q8, .inl (aC 0, 520, .inl m_choices)), (q9, .inl (aC 0, 520, .inl m_leasts)), (q10, .inl (aC 0, 33, .inl m_captureBegins)), (q11, .inl (aC 0, 33, .inl m_captureLengths))] H := hP
    have hD : va_D A [(q0, .inr (5, [.ref q1, .ref q2, .ref q3, .int m_madeSize, .ref q4, .ref q5, .ref q6, .ref q7, .ref q8, .ref q9, .int m_depth, .int m_end, .ref q10, .ref q11, .int m_captureCount, .int z_2.2.1, .int z_2.2.2, .int m_found, .int m_first, .int m_from, .int m_ended])), (q1, .inl (aC 1, 5632, .inl m_rows)), (q2, .inl (aC 0, 3, .inl m_sizes)), (q3, .inl (aC 1, 8192, .inl m_made)), (q4, .inl (aC 0, 520, .inl m_begins)), (q5, .inl (aC 0, 520, .inl m_places)), (q6, .inl (aC 0, 520, .inl m_kinds)), (q7, .inl (aC 0, 520, .inl m_nexts)), (q8, .inl (aC 0, 520, .inl m_choices)), (q9, .inl (aC 0, 520, .inl m_leasts)), (q10, .inl (aC 0, 33, .inl m_captureBegins)), (q11, .inl (aC 0, 33, .inl m_captureLengths))] := hD
    refine W.eq (g2 := F0 m 14 ls [.int z_2.1]) rfl ?_
    have h_3 := pf_X5_look hz_2
    refine lv_if_eq (tgt := 35) hx hb dX5_isThere_14 (by decide) (fun c_4 => ?_) (fun c_4 => ?_)
    · replace hu := hu.trans (if_pos c_4)
      refine lv_iconst (v := 0) hx hb dX5_isThere_35 (by decide) ?_
      subst hu
      exact k_zret hx hb hr (by decide) hlocks hP hD hS rfl rfl dX5_isThere_36
    · replace hu := hu.trans (if_neg c_4)
      refine lv_aload_n hx hb dX5_isThere_17 rfl (lv_at hl 0 rfl) ?_
      refine lv_iload_n hx hb dX5_isThere_18 rfl (lv_at hl 1 rfl) ?_
      refine lv_aload_n hx hb dX5_isThere_19 rfl (lv_at hl 0 rfl) ?_
      refine lv_iconst (v := 0) hx hb dX5_isThere_20 (by decide) ?_
      refine lv_iload_n hx hb dX5_isThere_21 rfl (lv_at hl 2 rfl) ?_
      obtain ⟨z_5, hz_5⟩ : ∃ z, z = f_X5_at_0 m_rows m_sizes a2 := ⟨_, rfl⟩
      replace hu := hu.trans (kb_of hz_5)
      refine k_callV (As := [.int 0, .int a2]) (rest := [.int a1, .ref q0]) (wc := [(q0, .inr (5, [.ref q1, .ref q2, .ref q3, .int m_madeSize, .ref q4, .ref q5, .ref q6, .ref q7, .ref q8, .ref q9, .int m_depth, .int m_end, .ref q10, .ref q11, .int m_captureCount, .int z_2.2.1, .int z_2.2.2, .int m_found, .int m_first, .int m_from, .int m_ended])), (q1, .inl (aC 1, 5632, .inl m_rows)), (q2, .inl (aC 0, 3, .inl m_sizes)), (q3, .inl (aC 1, 8192, .inl m_made)), (q4, .inl (aC 0, 520, .inl m_begins)), (q5, .inl (aC 0, 520, .inl m_places)), (q6, .inl (aC 0, 520, .inl m_kinds)), (q7, .inl (aC 0, 520, .inl m_nexts)), (q8, .inl (aC 0, 520, .inl m_choices)), (q9, .inl (aC 0, 520, .inl m_leasts)), (q10, .inl (aC 0, 33, .inl m_captureBegins)), (q11, .inl (aC 0, 33, .inl m_captureLengths))]) (wr := []) (w1 := [(q0, .inr (5, [.ref q1, .ref q2, .ref q3, .int m_madeSize, .ref q4, .ref q5, .ref q6, .ref q7, .ref q8, .ref q9, .int m_depth, .int m_end, .ref q10, .ref q11, .int m_captureCount, .int z_2.2.1, .int z_2.2.2, .int m_found, .int m_first, .int m_from, .int m_ended])), (q1, .inl (aC 1, 5632, .inl m_rows)), (q2, .inl (aC 0, 3, .inl m_sizes)), (q3, .inl (aC 1, 8192, .inl m_made)), (q4, .inl (aC 0, 520, .inl m_begins)), (q5, .inl (aC 0, 520, .inl m_places)), (q6, .inl (aC 0, 520, .inl m_kinds)), (q7, .inl (aC 0, 520, .inl m_nexts)), (q8, .inl (aC 0, 520, .inl m_choices)), (q9, .inl (aC 0, 520, .inl m_leasts)), (q10, .inl (aC 0, 33, .inl m_captureBegins)), (q11, .inl (aC 0, 33, .inl m_captureLengths))]) (wn := [(q0, .inr (5, [.ref q1, .ref q2, .ref q3, .int m_madeSize, .ref q4, .ref q5, .ref q6, .ref q7, .ref q8, .ref q9, .int m_depth, .int m_end, .ref q10, .ref q11, .int m_captureCount, .int z_2.2.1, .int z_2.2.2, .int m_found, .int m_first, .int m_from, .int m_ended])), (q1, .inl (aC 1, 5632, .inl m_rows)), (q2, .inl (aC 0, 3, .inl m_sizes)), (q3, .inl (aC 1, 8192, .inl m_made)), (q4, .inl (aC 0, 520, .inl m_begins)), (q5, .inl (aC 0, 520, .inl m_places)), (q6, .inl (aC 0, 520, .inl m_kinds)), (q7, .inl (aC 0, 520, .inl m_nexts)), (q8, .inl (aC 0, 520, .inl m_choices)), (q9, .inl (aC 0, 520, .inl m_leasts)), (q10, .inl (aC 0, 33, .inl m_captureBegins)), (q11, .inl (aC 0, 33, .inl m_captureLengths))]) ⟨hx, hb, hml, hown, hts⟩ (c_X5_at_0 l DD aC tt q0 q1 q2 q3 q4 q5 q6 q7 q8 q9 q10 q11  m_madeSize m_depth m_end m_captureCount z_2.2.1 z_2.2.2 m_found m_first m_from m_ended m_rows m_sizes m_made m_begins m_places m_kinds m_nexts m_choices m_leasts m_captureBegins m_captureLengths a2 hz1 hs0 z_5 hz_5) (cwV 2 hts (gdV w_621 w_623 w_40 w_74 w_624) rfl rfl rfl (by decide +kernel) ⟨Nat.le_of_ble_eq_true rfl, Nat.le_of_ble_eq_true rfl⟩) hP hD hS hA hE [0, 1, 2, 3, 4, 5, 6, 7, 8, 9, 10, 11] [] [0, 1, 2, 3, 4, 5, 6, 7, 8, 9, 10, 11] rfl rfl rfl (by decide) (by decide) (by decide) (by decide) (ci := 5) (q0 := 0) rfl rfl rfl hl.1 rfl (Nat.le_of_ble_eq_true rfl) dX5_isThere_22 (fun H locs hP hD hS => ?_)
      refine W.eq (g2 := F0 m 25 ls [.int z_5, .int a1, .ref q0]) rfl ?_
      have h_6 := pf_X5_at_0 hz_5
      obtain ⟨z_7, hz_7⟩ : ∃ z, z = f_X5_singleHas m_rows m_sizes a1 z_5 := ⟨_, rfl⟩
      replace hu := hu.trans (kb_of hz_7)
      refine k_callV (As := [.int a1, .int z_5]) (rest := []) (wc := [(q0, .inr (5, [.ref q1, .ref q2, .ref q3, .int m_madeSize, .ref q4, .ref q5, .ref q6, .ref q7, .ref q8, .ref q9, .int m_depth, .int m_end, .ref q10, .ref q11, .int m_captureCount, .int z_2.2.1, .int z_2.2.2, .int m_found, .int m_first, .int m_from, .int m_ended])), (q1, .inl (aC 1, 5632, .inl m_rows)), (q2, .inl (aC 0, 3, .inl m_sizes)), (q3, .inl (aC 1, 8192, .inl m_made)), (q4, .inl (aC 0, 520, .inl m_begins)), (q5, .inl (aC 0, 520, .inl m_places)), (q6, .inl (aC 0, 520, .inl m_kinds)), (q7, .inl (aC 0, 520, .inl m_nexts)), (q8, .inl (aC 0, 520, .inl m_choices)), (q9, .inl (aC 0, 520, .inl m_leasts)), (q10, .inl (aC 0, 33, .inl m_captureBegins)), (q11, .inl (aC 0, 33, .inl m_captureLengths))]) (wr := []) (w1 := [(q0, .inr (5, [.ref q1, .ref q2, .ref q3, .int m_madeSize, .ref q4, .ref q5, .ref q6, .ref q7, .ref q8, .ref q9, .int m_depth, .int m_end, .ref q10, .ref q11, .int m_captureCount, .int z_2.2.1, .int z_2.2.2, .int m_found, .int m_first, .int m_from, .int m_ended])), (q1, .inl (aC 1, 5632, .inl m_rows)), (q2, .inl (aC 0, 3, .inl m_sizes)), (q3, .inl (aC 1, 8192, .inl m_made)), (q4, .inl (aC 0, 520, .inl m_begins)), (q5, .inl (aC 0, 520, .inl m_places)), (q6, .inl (aC 0, 520, .inl m_kinds)), (q7, .inl (aC 0, 520, .inl m_nexts)), (q8, .inl (aC 0, 520, .inl m_choices)), (q9, .inl (aC 0, 520, .inl m_leasts)), (q10, .inl (aC 0, 33, .inl m_captureBegins)), (q11, .inl (aC 0, 33, .inl m_captureLengths))]) (wn := [(q0, .inr (5, [.ref q1, .ref q2, .ref q3, .int m_madeSize, .ref q4, .ref q5, .ref q6, .ref q7, .ref q8, .ref q9, .int m_depth, .int m_end, .ref q10, .ref q11, .int m_captureCount, .int z_2.2.1, .int z_2.2.2, .int m_found, .int m_first, .int m_from, .int m_ended])), (q1, .inl (aC 1, 5632, .inl m_rows)), (q2, .inl (aC 0, 3, .inl m_sizes)), (q3, .inl (aC 1, 8192, .inl m_made)), (q4, .inl (aC 0, 520, .inl m_begins)), (q5, .inl (aC 0, 520, .inl m_places)), (q6, .inl (aC 0, 520, .inl m_kinds)), (q7, .inl (aC 0, 520, .inl m_nexts)), (q8, .inl (aC 0, 520, .inl m_choices)), (q9, .inl (aC 0, 520, .inl m_leasts)), (q10, .inl (aC 0, 33, .inl m_captureBegins)), (q11, .inl (aC 0, 33, .inl m_captureLengths))]) ⟨hx, hb, hml, hown, hts⟩ (c_X5_singleHas l DD aC tt q0 q1 q2 q3 q4 q5 q6 q7 q8 q9 q10 q11  m_madeSize m_depth m_end m_captureCount z_2.2.1 z_2.2.2 m_found m_first m_from m_ended m_rows m_sizes m_made m_begins m_places m_kinds m_nexts m_choices m_leasts m_captureBegins m_captureLengths a1 z_5 hz3 hk hk2 z_7 hz_7) (cwV 2 hts (gdV w_710 w_712 w_59 w_74 w_713) rfl rfl rfl (by decide +kernel) ⟨Nat.le_of_ble_eq_true rfl, Nat.le_of_ble_eq_true rfl⟩) hP hD hS hA hE [0, 1, 2, 3, 4, 5, 6, 7, 8, 9, 10, 11] [] [0, 1, 2, 3, 4, 5, 6, 7, 8, 9, 10, 11] rfl rfl rfl (by decide) (by decide) (by decide) (by decide) (ci := 5) (q0 := 0) rfl rfl rfl hl.1 rfl (Nat.le_of_ble_eq_true rfl) dX5_isThere_25 (fun H locs hP hD hS => ?_)
      refine W.eq (g2 := F0 m 28 ls [.int z_7]) rfl ?_
      have h_8 := pf_X5_singleHas hz3 hk hk2 hz_7
      refine lv_if_eq (tgt := 35) hx hb dX5_isThere_28 (by decide) (fun c_9 => ?_) (fun c_9 => ?_)
      · replace hu := hu.trans (if_pos c_9)
        refine lv_iconst (v := 0) hx hb dX5_isThere_35 (by decide) ?_
        subst hu
        exact k_zret hx hb hr (by decide) hlocks hP hD hS rfl rfl dX5_isThere_36
      · replace hu := hu.trans (if_neg c_9)
        refine lv_iconst (v := 1) hx hb dX5_isThere_31 (by decide) ?_
        refine lv_goto (tgt := 36) hx hb dX5_isThere_32 (by decide) ?_
        subst hu
        exact k_zret hx hb hr (by decide) hlocks hP hD hS rfl rfl dX5_isThere_36
def f_X5_settle (m_depth : Int32) (m_kinds : Nat → Int32) (m_nexts : Nat → Int32) (a1 : Int32) (a2 : Int32) (a3 : Int32) : Int32 × (Nat → Int32) × (Nat → Int32) := (a3, upd m_kinds m_depth.toNatClampNeg a1, upd m_nexts m_depth.toNatClampNeg a2)
abbrev rm_X5_settle : Room := { frames := 0, cells := 0, slots := 0, locals := 0 }
set_option maxHeartbeats 4000000 in
set_option maxRecDepth 100000 in
theorem c_X5_settle (l : Launch) (DD : va_G) (aC : Nat → ClassId) (tt : Nat → Nat) (q0 q1 q2 q3 q4 q5 q6 q7 q8 q9 q10 q11 : Nat) (m_madeSize : Int32) (m_depth : Int32) (m_end : Int32) (m_captureCount : Int32) (m_looks : Int32) (m_trouble : Int32) (m_found : Int32) (m_first : Int32) (m_from : Int32) (m_ended : Int32) (m_rows : Nat → Int32) (m_sizes : Nat → Int32) (m_made : Nat → Int32) (m_begins : Nat → Int32) (m_places : Nat → Int32) (m_kinds : Nat → Int32) (m_nexts : Nat → Int32) (m_choices : Nat → Int32) (m_leasts : Nat → Int32) (m_captureBegins : Nat → Int32) (m_captureLengths : Nat → Int32) (a1 : Int32) (a2 : Int32) (a3 : Int32) (hd0 : 0 ≤ m_depth.toInt) (hd1 : m_depth.toInt < 520) (u : Int32 × (Nat → Int32) × (Nat → Int32)) (hu : u = f_X5_settle m_depth m_kinds m_nexts a1 a2 a3) : kM l yX5_settle wsX5_settle rm_X5_settle DD aC tt [.ref q0, .int a1, .int a2, .int a3] [(q0, .inr (5, [.ref q1, .ref q2, .ref q3, .int m_madeSize, .ref q4, .ref q5, .ref q6, .ref q7, .ref q8, .ref q9, .int m_depth, .int m_end, .ref q10, .ref q11, .int m_captureCount, .int m_looks, .int m_trouble, .int m_found, .int m_first, .int m_from, .int m_ended])), (q1, .inl (aC 1, 5632, .inl m_rows)), (q2, .inl (aC 0, 3, .inl m_sizes)), (q3, .inl (aC 1, 8192, .inl m_made)), (q4, .inl (aC 0, 520, .inl m_begins)), (q5, .inl (aC 0, 520, .inl m_places)), (q6, .inl (aC 0, 520, .inl m_kinds)), (q7, .inl (aC 0, 520, .inl m_nexts)), (q8, .inl (aC 0, 520, .inl m_choices)), (q9, .inl (aC 0, 520, .inl m_leasts)), (q10, .inl (aC 0, 33, .inl m_captureBegins)), (q11, .inl (aC 0, 33, .inl m_captureLengths))] (some (.int u.1)) [(q0, .inr (5, [.ref q1, .ref q2, .ref q3, .int m_madeSize, .ref q4, .ref q5, .ref q6, .ref q7, .ref q8, .ref q9, .int m_depth, .int m_end, .ref q10, .ref q11, .int m_captureCount, .int m_looks, .int m_trouble, .int m_found, .int m_first, .int m_from, .int m_ended])), (q1, .inl (aC 1, 5632, .inl m_rows)), (q2, .inl (aC 0, 3, .inl m_sizes)), (q3, .inl (aC 1, 8192, .inl m_made)), (q4, .inl (aC 0, 520, .inl m_begins)), (q5, .inl (aC 0, 520, .inl m_places)), (q6, .inl (aC 0, 520, .inl u.2.1)), (q7, .inl (aC 0, 520, .inl u.2.2)), (q8, .inl (aC 0, 520, .inl m_choices)), (q9, .inl (aC 0, 520, .inl m_leasts)), (q10, .inl (aC 0, 33, .inl m_captureBegins)), (q11, .inl (aC 0, 33, .inl m_captureLengths))] := by
  refine k_start (cc := cX5_settle) (maxL := 4) (ret := (some .int)) (own := RX5) (lv0 := [(0, .ref q0), (1, .int a1), (2, .int a2), (3, .int a3)]) (by decide) rfl rfl (Nat.le_of_ble_eq_true rfl) rfl (fun p e s m below meth c A ls X hP hD hS hl => ?_)
  obtain ⟨hx, hb, hr, hml, hts, hown, hlocks, hA, hE⟩ := id X
  unfold f_X5_settle at hu
  refine lv_aload_n hx hb dX5_settle_0 rfl (lv_at hl 0 rfl) ?_
  refine va_get (D := DD) (ci := 5) (v := .ref q6) (C := RX5) (T := TX5) (N := 21) hx hb hts (fun w h => List.mem_cons_of_mem _ (inX5 w h)) hown hE.1 hP 0 rfl rfl 6 (by decide) (hts (.fieldLink "TextPatternsModel" 26 "TextPatternsModel" "kinds" "[I") (List.mem_cons_of_mem _ w_537)) (fun _ h9 => h9) rfl dX5_settle_1 ?_
  refine lv_aload_n hx hb dX5_settle_4 rfl (lv_at hl 0 rfl) ?_
  refine va_get (D := DD) (ci := 5) (v := .int m_depth) (C := RX5) (T := TX5) (N := 21) hx hb hts (fun w h => List.mem_cons_of_mem _ (inX5 w h)) hown hE.1 hP 0 rfl rfl 10 (by decide) (hts (.fieldLink "TextPatternsModel" 108 "TextPatternsModel" "depth" "I") (List.mem_cons_of_mem _ w_541)) (fun _ h9 => h9) rfl dX5_settle_5 ?_
  refine lv_iload_n hx hb dX5_settle_8 rfl (lv_at hl 1 rfl) ?_
  refine va_iast hx hb hE.1 hP hD hS 6 0 rfl rfl (kb_in (by have i1 := kx_rng (m_depth); omega) (by have i1 := kx_rng (m_depth); omega)) dX5_settle_9 (fun H locs hP hD hS => ?_)
  have hP : va_P DD vwCl [(q0, .inr (5, [.ref q1, .ref q2, .ref q3, .int m_madeSize, .ref q4, .ref q5, .ref q6, .ref q7, .ref q8, .ref q9, .int m_depth, .int m_end, .ref q10, .ref q11, .int m_captureCount, .int m_looks, .int m_trouble, .int m_found, .int m_first, .int m_from, .int m_ended])), (q1, .inl (aC 1, 5632, .inl m_rows)), (q2, .inl (aC 0, 3, .inl m_sizes)), (q3, .inl (aC 1, 8192, .inl m_made)), (q4, .inl (aC 0, 520, .inl m_begins)), (q5, .inl (aC 0, 520, .inl m_places)), (q6, .inl (aC 0, 520, .inl (upd m_kinds m_depth.toNatClampNeg a1))), (q7, .inl (aC 0, 520, .inl m_nexts)), (q8, .inl (aC 0, 520, .inl m_choices)), (q9, .inl (aC 0, 520, .inl m_leasts)), (q10, .inl (aC 0, 33, .inl m_captureBegins)), (q11, .inl (aC 0, 33, .inl m_captureLengths))] H := hP
  have hD : va_D A [(q0, .inr (5, [.ref q1, .ref q2, .ref q3, .int m_madeSize, .ref q4, .ref q5, .ref q6, .ref q7, .ref q8, .ref q9, .int m_depth, .int m_end, .ref q10, .ref q11, .int m_captureCount, .int m_looks, .int m_trouble, .int m_found, .int m_first, .int m_from, .int m_ended])), (q1, .inl (aC 1, 5632, .inl m_rows)), (q2, .inl (aC 0, 3, .inl m_sizes)), (q3, .inl (aC 1, 8192, .inl m_made)), (q4, .inl (aC 0, 520, .inl m_begins)), (q5, .inl (aC 0, 520, .inl m_places)), (q6, .inl (aC 0, 520, .inl (upd m_kinds m_depth.toNatClampNeg a1))), (q7, .inl (aC 0, 520, .inl m_nexts)), (q8, .inl (aC 0, 520, .inl m_choices)), (q9, .inl (aC 0, 520, .inl m_leasts)), (q10, .inl (aC 0, 33, .inl m_captureBegins)), (q11, .inl (aC 0, 33, .inl m_captureLengths))] := hD
  refine lv_aload_n hx hb dX5_settle_10 rfl (lv_at hl 0 rfl) ?_
  refine va_get (D := DD) (ci := 5) (v := .ref q7) (C := RX5) (T := TX5) (N := 21) hx hb hts (fun w h => List.mem_cons_of_mem _ (inX5 w h)) hown hE.1 hP 0 rfl rfl 7 (by decide) (hts (.fieldLink "TextPatternsModel" 29 "TextPatternsModel" "nexts" "[I") (List.mem_cons_of_mem _ w_538)) (fun _ h9 => h9) rfl dX5_settle_11 ?_
  refine lv_aload_n hx hb dX5_settle_14 rfl (lv_at hl 0 rfl) ?_
  refine va_get (D := DD) (ci := 5) (v := .int m_depth) (C := RX5) (T := TX5) (N := 21) hx hb hts (fun w h => List.mem_cons_of_mem _ (inX5 w h)) hown hE.1 hP 0 rfl rfl 10 (by decide) (hts (.fieldLink "TextPatternsModel" 108 "TextPatternsModel" "depth" "I") (List.mem_cons_of_mem _ w_541)) (fun _ h9 => h9) rfl dX5_settle_15 ?_
  refine lv_iload_n hx hb dX5_settle_18 rfl (lv_at hl 2 rfl) ?_
  refine va_iast hx hb hE.1 hP hD hS 7 0 rfl rfl (kb_in (by have i1 := kx_rng (m_depth); omega) (by have i1 := kx_rng (m_depth); omega)) dX5_settle_19 (fun H locs hP hD hS => ?_)
  have hP : va_P DD vwCl [(q0, .inr (5, [.ref q1, .ref q2, .ref q3, .int m_madeSize, .ref q4, .ref q5, .ref q6, .ref q7, .ref q8, .ref q9, .int m_depth, .int m_end, .ref q10, .ref q11, .int m_captureCount, .int m_looks, .int m_trouble, .int m_found, .int m_first, .int m_from, .int m_ended])), (q1, .inl (aC 1, 5632, .inl m_rows)), (q2, .inl (aC 0, 3, .inl m_sizes)), (q3, .inl (aC 1, 8192, .inl m_made)), (q4, .inl (aC 0, 520, .inl m_begins)), (q5, .inl (aC 0, 520, .inl m_places)), (q6, .inl (aC 0, 520, .inl (upd m_kinds m_depth.toNatClampNeg a1))), (q7, .inl (aC 0, 520, .inl (upd m_nexts m_depth.toNatClampNeg a2))), (q8, .inl (aC 0, 520, .inl m_choices)), (q9, .inl (aC 0, 520, .inl m_leasts)), (q10, .inl (aC 0, 33, .inl m_captureBegins)), (q11, .inl (aC 0, 33, .inl m_captureLengths))] H := hP
  have hD : va_D A [(q0, .inr (5, [.ref q1, .ref q2, .ref q3, .int m_madeSize, .ref q4, .ref q5, .ref q6, .ref q7, .ref q8, .ref q9, .int m_depth, .int m_end, .ref q10, .ref q11, .int m_captureCount, .int m_looks, .int m_trouble, .int m_found, .int m_first, .int m_from, .int m_ended])), (q1, .inl (aC 1, 5632, .inl m_rows)), (q2, .inl (aC 0, 3, .inl m_sizes)), (q3, .inl (aC 1, 8192, .inl m_made)), (q4, .inl (aC 0, 520, .inl m_begins)), (q5, .inl (aC 0, 520, .inl m_places)), (q6, .inl (aC 0, 520, .inl (upd m_kinds m_depth.toNatClampNeg a1))), (q7, .inl (aC 0, 520, .inl (upd m_nexts m_depth.toNatClampNeg a2))), (q8, .inl (aC 0, 520, .inl m_choices)), (q9, .inl (aC 0, 520, .inl m_leasts)), (q10, .inl (aC 0, 33, .inl m_captureBegins)), (q11, .inl (aC 0, 33, .inl m_captureLengths))] := hD
  refine lv_iload_n hx hb dX5_settle_20 rfl (lv_at hl 3 rfl) ?_
  subst hu
  exact k_iret hx hb hr hlocks hP hD hS rfl rfl dX5_settle_21
def f_X5_wrong (m_trouble : Int32) : Int32 × Int32 := ((-1), (-2))
abbrev rm_X5_wrong : Room := { frames := 0, cells := 0, slots := 0, locals := 0 }
set_option maxHeartbeats 4000000 in
set_option maxRecDepth 100000 in
theorem c_X5_wrong (l : Launch) (DD : va_G) (aC : Nat → ClassId) (tt : Nat → Nat) (q0 q1 q2 q3 q4 q5 q6 q7 q8 q9 q10 q11 : Nat) (m_madeSize : Int32) (m_depth : Int32) (m_end : Int32) (m_captureCount : Int32) (m_looks : Int32) (m_trouble : Int32) (m_found : Int32) (m_first : Int32) (m_from : Int32) (m_ended : Int32) (m_rows : Nat → Int32) (m_sizes : Nat → Int32) (m_made : Nat → Int32) (m_begins : Nat → Int32) (m_places : Nat → Int32) (m_kinds : Nat → Int32) (m_nexts : Nat → Int32) (m_choices : Nat → Int32) (m_leasts : Nat → Int32) (m_captureBegins : Nat → Int32) (m_captureLengths : Nat → Int32) (u : Int32 × Int32) (hu : u = f_X5_wrong m_trouble) : kM l yX5_wrong wsX5_wrong rm_X5_wrong DD aC tt [.ref q0] [(q0, .inr (5, [.ref q1, .ref q2, .ref q3, .int m_madeSize, .ref q4, .ref q5, .ref q6, .ref q7, .ref q8, .ref q9, .int m_depth, .int m_end, .ref q10, .ref q11, .int m_captureCount, .int m_looks, .int m_trouble, .int m_found, .int m_first, .int m_from, .int m_ended])), (q1, .inl (aC 1, 5632, .inl m_rows)), (q2, .inl (aC 0, 3, .inl m_sizes)), (q3, .inl (aC 1, 8192, .inl m_made)), (q4, .inl (aC 0, 520, .inl m_begins)), (q5, .inl (aC 0, 520, .inl m_places)), (q6, .inl (aC 0, 520, .inl m_kinds)), (q7, .inl (aC 0, 520, .inl m_nexts)), (q8, .inl (aC 0, 520, .inl m_choices)), (q9, .inl (aC 0, 520, .inl m_leasts)), (q10, .inl (aC 0, 33, .inl m_captureBegins)), (q11, .inl (aC 0, 33, .inl m_captureLengths))] (some (.int u.1)) [(q0, .inr (5, [.ref q1, .ref q2, .ref q3, .int m_madeSize, .ref q4, .ref q5, .ref q6, .ref q7, .ref q8, .ref q9, .int m_depth, .int m_end, .ref q10, .ref q11, .int m_captureCount, .int m_looks, .int u.2, .int m_found, .int m_first, .int m_from, .int m_ended])), (q1, .inl (aC 1, 5632, .inl m_rows)), (q2, .inl (aC 0, 3, .inl m_sizes)), (q3, .inl (aC 1, 8192, .inl m_made)), (q4, .inl (aC 0, 520, .inl m_begins)), (q5, .inl (aC 0, 520, .inl m_places)), (q6, .inl (aC 0, 520, .inl m_kinds)), (q7, .inl (aC 0, 520, .inl m_nexts)), (q8, .inl (aC 0, 520, .inl m_choices)), (q9, .inl (aC 0, 520, .inl m_leasts)), (q10, .inl (aC 0, 33, .inl m_captureBegins)), (q11, .inl (aC 0, 33, .inl m_captureLengths))] := by
  refine k_start (cc := cX5_wrong) (maxL := 1) (ret := (some .int)) (own := RX5) (lv0 := [(0, .ref q0)]) (by decide) rfl rfl (Nat.le_of_ble_eq_true rfl) rfl (fun p e s m below meth c A ls X hP hD hS hl => ?_)
  obtain ⟨hx, hb, hr, hml, hts, hown, hlocks, hA, hE⟩ := id X
  unfold f_X5_wrong at hu
  refine lv_aload_n hx hb dX5_wrong_0 rfl (lv_at hl 0 rfl) ?_
  refine lv_bipush (v := (-2)) hx hb dX5_wrong_1 (by decide) ?_
  refine va_put (D := DD) (ci := 5) (v := .int (-2)) (ty := .int) (C := RX5) (T := TX5) (N := 21) hx hb hts (fun w h => List.mem_cons_of_mem _ (inX5 w h)) tyX5 tyX5_ok nmX5 hown hE.1 hP hD hS 0 rfl rfl 16 (by decide) (hts (.fieldLink "TextPatternsModel" 91 "TextPatternsModel" "trouble" "I") (List.mem_cons_of_mem _ w_547)) (fun _ h9 => h9) rfl (by decide +kernel) rfl rfl (Nat.le_of_ble_eq_true rfl) dX5_wrong_3 (fun H locs hP hD hS => ?_)
  have hP : va_P DD vwCl [(q0, .inr (5, [.ref q1, .ref q2, .ref q3, .int m_madeSize, .ref q4, .ref q5, .ref q6, .ref q7, .ref q8, .ref q9, .int m_depth, .int m_end, .ref q10, .ref q11, .int m_captureCount, .int m_looks, .int (-2), .int m_found, .int m_first, .int m_from, .int m_ended])), (q1, .inl (aC 1, 5632, .inl m_rows)), (q2, .inl (aC 0, 3, .inl m_sizes)), (q3, .inl (aC 1, 8192, .inl m_made)), (q4, .inl (aC 0, 520, .inl m_begins)), (q5, .inl (aC 0, 520, .inl m_places)), (q6, .inl (aC 0, 520, .inl m_kinds)), (q7, .inl (aC 0, 520, .inl m_nexts)), (q8, .inl (aC 0, 520, .inl m_choices)), (q9, .inl (aC 0, 520, .inl m_leasts)), (q10, .inl (aC 0, 33, .inl m_captureBegins)), (q11, .inl (aC 0, 33, .inl m_captureLengths))] H := hP
  have hD : va_D A [(q0, .inr (5, [.ref q1, .ref q2, .ref q3, .int m_madeSize, .ref q4, .ref q5, .ref q6, .ref q7, .ref q8, .ref q9, .int m_depth, .int m_end, .ref q10, .ref q11, .int m_captureCount, .int m_looks, .int (-2), .int m_found, .int m_first, .int m_from, .int m_ended])), (q1, .inl (aC 1, 5632, .inl m_rows)), (q2, .inl (aC 0, 3, .inl m_sizes)), (q3, .inl (aC 1, 8192, .inl m_made)), (q4, .inl (aC 0, 520, .inl m_begins)), (q5, .inl (aC 0, 520, .inl m_places)), (q6, .inl (aC 0, 520, .inl m_kinds)), (q7, .inl (aC 0, 520, .inl m_nexts)), (q8, .inl (aC 0, 520, .inl m_choices)), (q9, .inl (aC 0, 520, .inl m_leasts)), (q10, .inl (aC 0, 33, .inl m_captureBegins)), (q11, .inl (aC 0, 33, .inl m_captureLengths))] := hD
  refine lv_iconst (v := (-1)) hx hb dX5_wrong_6 (by decide) ?_
  subst hu
  exact k_iret hx hb hr hlocks hP hD hS rfl rfl dX5_wrong_7
def f_X5_lastOpen_L0 (k : Nat) (m_captureCount : Int32) (m_captureLengths : Nat → Int32) (x1 : Int32) : Int32 := match k with
  | 0 => 0
  | k + 1 => (if x1 < 0 then x1 else (if (m_captureLengths x1.toNatClampNeg) = (-2) then x1 else (f_X5_lastOpen_L0 k m_captureCount m_captureLengths (x1 + (-1)))))
theorem f_X5_lastOpen_L0_s {k : Nat} {m_captureCount : Int32} {m_captureLengths : Nat → Int32} {x1 : Int32} : f_X5_lastOpen_L0 (k + 1) m_captureCount m_captureLengths x1 = (if x1 < 0 then x1 else (if (m_captureLengths x1.toNatClampNeg) = (-2) then x1 else (f_X5_lastOpen_L0 k m_captureCount m_captureLengths (x1 + (-1))))) := rfl
def f_X5_lastOpen (m_captureCount : Int32) (m_captureLengths : Nat → Int32) : Int32 := (f_X5_lastOpen_L0 (((m_captureCount - 1).toInt + 1).toNat + 1) m_captureCount m_captureLengths (m_captureCount - 1))
abbrev rm_X5_lastOpen : Room := { frames := 0, cells := 0, slots := 0, locals := 0 }
set_option maxHeartbeats 4000000 in
set_option maxRecDepth 100000 in
theorem t_X5_lastOpen_L0 {l : Launch} {DD : va_G} {aC : Nat → ClassId} {tt : Nat → Nat} {p : Program} {e : Env} {s : State} {m : MethodId} {below : List Frame} {meth : Method} {c : Code} {A : Nat → Prop} {AV : Array Value} (X : kX p s m AV meth c cX5_lastOpen (some .int) 2 wsX5_lastOpen RX5 DD aC tt A) (q0 q1 q2 q3 q4 q5 q6 q7 q8 q9 q10 q11 : Nat) (m_madeSize : Int32) (m_depth : Int32) (m_end : Int32) (m_captureCount : Int32) (m_looks : Int32) (m_trouble : Int32) (m_found : Int32) (m_first : Int32) (m_from : Int32) (m_ended : Int32) (m_rows : Nat → Int32) (m_sizes : Nat → Int32) (m_made : Nat → Int32) (m_begins : Nat → Int32) (m_places : Nat → Int32) (m_kinds : Nat → Int32) (m_nexts : Nat → Int32) (m_choices : Nat → Int32) (m_leasts : Nat → Int32) (m_captureBegins : Nat → Int32) (m_captureLengths : Nat → Int32) (hcc0 : 0 ≤ m_captureCount.toInt) (hcc : m_captureCount.toInt ≤ 33) :
    ∀ (k : Nat) (x1 : Int32), (x1.toInt < 33) → (x1.toInt + 1).toNat < k → ∀ (u : Int32), u = f_X5_lastOpen_L0 k m_captureCount m_captureLengths x1 → ∀ (H : Heap) (locs : List Loc) (ls : Array Slot), va_P DD vwCl [(q0, .inr (5, [.ref q1, .ref q2, .ref q3, .int m_madeSize, .ref q4, .ref q5, .ref q6, .ref q7, .ref q8, .ref q9, .int m_depth, .int m_end, .ref q10, .ref q11, .int m_captureCount, .int m_looks, .int m_trouble, .int m_found, .int m_first, .int m_from, .int m_ended])), (q1, .inl (aC 1, 5632, .inl m_rows)), (q2, .inl (aC 0, 3, .inl m_sizes)), (q3, .inl (aC 1, 8192, .inl m_made)), (q4, .inl (aC 0, 520, .inl m_begins)), (q5, .inl (aC 0, 520, .inl m_places)), (q6, .inl (aC 0, 520, .inl m_kinds)), (q7, .inl (aC 0, 520, .inl m_nexts)), (q8, .inl (aC 0, 520, .inl m_choices)), (q9, .inl (aC 0, 520, .inl m_leasts)), (q10, .inl (aC 0, 33, .inl m_captureBegins)), (q11, .inl (aC 0, 33, .inl m_captureLengths))] H → va_D A [(q0, .inr (5, [.ref q1, .ref q2, .ref q3, .int m_madeSize, .ref q4, .ref q5, .ref q6, .ref q7, .ref q8, .ref q9, .int m_depth, .int m_end, .ref q10, .ref q11, .int m_captureCount, .int m_looks, .int m_trouble, .int m_found, .int m_first, .int m_from, .int m_ended])), (q1, .inl (aC 1, 5632, .inl m_rows)), (q2, .inl (aC 0, 3, .inl m_sizes)), (q3, .inl (aC 1, 8192, .inl m_made)), (q4, .inl (aC 0, 520, .inl m_begins)), (q5, .inl (aC 0, 520, .inl m_places)), (q6, .inl (aC 0, 520, .inl m_kinds)), (q7, .inl (aC 0, 520, .inl m_nexts)), (q8, .inl (aC 0, 520, .inl m_choices)), (q9, .inl (aC 0, 520, .inl m_leasts)), (q10, .inl (aC 0, 33, .inl m_captureBegins)), (q11, .inl (aC 0, 33, .inl m_captureLengths))] → va_S A s.heap H locs → lv_has ls 2 [(0, .ref q0), (1, .int x1)] → W p l e rm_X5_lastOpen s m AV below meth c H locs 0 0 (MQ below (kQ DD vwCl (some (.int u)) [(q0, .inr (5, [.ref q1, .ref q2, .ref q3, .int m_madeSize, .ref q4, .ref q5, .ref q6, .ref q7, .ref q8, .ref q9, .int m_depth, .int m_end, .ref q10, .ref q11, .int m_captureCount, .int m_looks, .int m_trouble, .int m_found, .int m_first, .int m_from, .int m_ended])), (q1, .inl (aC 1, 5632, .inl m_rows)), (q2, .inl (aC 0, 3, .inl m_sizes)), (q3, .inl (aC 1, 8192, .inl m_made)), (q4, .inl (aC 0, 520, .inl m_begins)), (q5, .inl (aC 0, 520, .inl m_places)), (q6, .inl (aC 0, 520, .inl m_kinds)), (q7, .inl (aC 0, 520, .inl m_nexts)), (q8, .inl (aC 0, 520, .inl m_choices)), (q9, .inl (aC 0, 520, .inl m_leasts)), (q10, .inl (aC 0, 33, .inl m_captureBegins)), (q11, .inl (aC 0, 33, .inl m_captureLengths))] A) AV s 0 0 A) (F0 m 7 ls []) := by
  obtain ⟨hx, hb, hr, hml, hts, hown, hlocks, hA, hE⟩ := id X
  intro k
  induction k with
  | zero =>
    intro x1 hk1 hk
    exact absurd hk (Nat.not_lt_zero _)
  | succ k ih =>
    intro x1 hk1 hk u hu H locs ls hP hD hS hl
    replace hu := hu.trans f_X5_lastOpen_L0_s
    refine lv_iload_n hx hb dX5_lastOpen_7 rfl (lv_at hl 1 rfl) ?_
    refine lv_if_lt (tgt := 28) hx hb dX5_lastOpen_8 (by decide) (fun c_1 => ?_) (fun c_1 => ?_)
    · replace hu := hu.trans (if_pos c_1)
      refine lv_iload_n hx hb dX5_lastOpen_28 rfl (lv_at hl 1 rfl) ?_
      subst hu
      exact k_iret hx hb hr hlocks hP hD hS rfl rfl dX5_lastOpen_29
    · replace hu := hu.trans (if_neg c_1)
      refine lv_aload_n hx hb dX5_lastOpen_11 rfl (lv_at hl 0 rfl) ?_
      refine va_get (D := DD) (ci := 5) (v := .ref q11) (C := RX5) (T := TX5) (N := 21) hx hb hts (fun w h => List.mem_cons_of_mem _ (inX5 w h)) hown hE.1 hP 0 rfl rfl 13 (by decide) (hts (.fieldLink "TextPatternsModel" 41 "TextPatternsModel" "captureLengths" "[I") (List.mem_cons_of_mem _ w_544)) (fun _ h9 => h9) rfl dX5_lastOpen_12 ?_
      refine lv_iload_n hx hb dX5_lastOpen_15 rfl (lv_at hl 1 rfl) ?_
      refine va_iald hx hb hE.1 hP 11 0 rfl rfl (kb_in (kb_nlt0 c_1) (by have i1 := kx_nlt c_1; have i2 := kx_rng (x1); have i3 : (0 : Int32).toInt = 0 := (by decide); omega)) dX5_lastOpen_16 ?_
      refine lv_bipush (v := (-2)) hx hb dX5_lastOpen_17 (by decide) ?_
      refine lv_icmp_eq (tgt := 28) hx hb dX5_lastOpen_19 (by decide) (fun c_2 => ?_) (fun c_2 => ?_)
      · replace hu := hu.trans (if_pos c_2)
        refine lv_iload_n hx hb dX5_lastOpen_28 rfl (lv_at hl 1 rfl) ?_
        subst hu
        exact k_iret hx hb hr hlocks hP hD hS rfl rfl dX5_lastOpen_29
      · replace hu := hu.trans (if_neg c_2)
        refine lv_iinc (v := x1 + (-1)) (lv' := [(1, .int (x1 + (-1))), (0, .ref q0)]) hx hb dX5_lastOpen_22 hl (k := 1) rfl rfl (by decide) rfl (fun ls hl => ?_)
        refine lv_goto (tgt := 7) hx hb dX5_lastOpen_25 (by decide) ?_
        exact ih (x1 + (-1)) (show (x1 + (-1)).toInt < 33 from (by have i1 := kx_nlt c_1; have i2 := kx_ne c_2; have i3 := kx_rng (x1 + (-1)); have i4 := kx_rng (x1); have i6 : (0 : Int32).toInt = 0 := (by decide); have i7 := kx_rng (m_captureLengths x1.toNatClampNeg); have i8 : ((-2) : Int32).toInt = (-2) := (by decide); first | omega | (have i5 := kx_addK x1 (y := (-1)) (k := -1) (by decide); omega))) (Nat.lt_of_lt_of_le (kmu_dn c_1) (Nat.le_of_lt_succ hk)) u hu _ _ _ hP hD hS (lv_sub hl [1, 0] rfl)
set_option maxHeartbeats 4000000 in
set_option maxRecDepth 100000 in
theorem c_X5_lastOpen (l : Launch) (DD : va_G) (aC : Nat → ClassId) (tt : Nat → Nat) (q0 q1 q2 q3 q4 q5 q6 q7 q8 q9 q10 q11 : Nat) (m_madeSize : Int32) (m_depth : Int32) (m_end : Int32) (m_captureCount : Int32) (m_looks : Int32) (m_trouble : Int32) (m_found : Int32) (m_first : Int32) (m_from : Int32) (m_ended : Int32) (m_rows : Nat → Int32) (m_sizes : Nat → Int32) (m_made : Nat → Int32) (m_begins : Nat → Int32) (m_places : Nat → Int32) (m_kinds : Nat → Int32) (m_nexts : Nat → Int32) (m_choices : Nat → Int32) (m_leasts : Nat → Int32) (m_captureBegins : Nat → Int32) (m_captureLengths : Nat → Int32) (hcc0 : 0 ≤ m_captureCount.toInt) (hcc : m_captureCount.toInt ≤ 33) (u : Int32) (hu : u = f_X5_lastOpen m_captureCount m_captureLengths) : kM l yX5_lastOpen wsX5_lastOpen rm_X5_lastOpen DD aC tt [.ref q0] [(q0, .inr (5, [.ref q1, .ref q2, .ref q3, .int m_madeSize, .ref q4, .ref q5, .ref q6, .ref q7, .ref q8, .ref q9, .int m_depth, .int m_end, .ref q10, .ref q11, .int m_captureCount, .int m_looks, .int m_trouble, .int m_found, .int m_first, .int m_from, .int m_ended])), (q1, .inl (aC 1, 5632, .inl m_rows)), (q2, .inl (aC 0, 3, .inl m_sizes)), (q3, .inl (aC 1, 8192, .inl m_made)), (q4, .inl (aC 0, 520, .inl m_begins)), (q5, .inl (aC 0, 520, .inl m_places)), (q6, .inl (aC 0, 520, .inl m_kinds)), (q7, .inl (aC 0, 520, .inl m_nexts)), (q8, .inl (aC 0, 520, .inl m_choices)), (q9, .inl (aC 0, 520, .inl m_leasts)), (q10, .inl (aC 0, 33, .inl m_captureBegins)), (q11, .inl (aC 0, 33, .inl m_captureLengths))] (some (.int u)) [(q0, .inr (5, [.ref q1, .ref q2, .ref q3, .int m_madeSize, .ref q4, .ref q5, .ref q6, .ref q7, .ref q8, .ref q9, .int m_depth, .int m_end, .ref q10, .ref q11, .int m_captureCount, .int m_looks, .int m_trouble, .int m_found, .int m_first, .int m_from, .int m_ended])), (q1, .inl (aC 1, 5632, .inl m_rows)), (q2, .inl (aC 0, 3, .inl m_sizes)), (q3, .inl (aC 1, 8192, .inl m_made)), (q4, .inl (aC 0, 520, .inl m_begins)), (q5, .inl (aC 0, 520, .inl m_places)), (q6, .inl (aC 0, 520, .inl m_kinds)), (q7, .inl (aC 0, 520, .inl m_nexts)), (q8, .inl (aC 0, 520, .inl m_choices)), (q9, .inl (aC 0, 520, .inl m_leasts)), (q10, .inl (aC 0, 33, .inl m_captureBegins)), (q11, .inl (aC 0, 33, .inl m_captureLengths))] := by
  refine k_start (cc := cX5_lastOpen) (maxL := 2) (ret := (some .int)) (own := RX5) (lv0 := [(0, .ref q0)]) (by decide) rfl rfl (Nat.le_of_ble_eq_true rfl) rfl (fun p e s m below meth c A ls X hP hD hS hl => ?_)
  obtain ⟨hx, hb, hr, hml, hts, hown, hlocks, hA, hE⟩ := id X
  unfold f_X5_lastOpen at hu
  refine lv_aload_n hx hb dX5_lastOpen_0 rfl (lv_at hl 0 rfl) ?_
  refine va_get (D := DD) (ci := 5) (v := .int m_captureCount) (C := RX5) (T := TX5) (N := 21) hx hb hts (fun w h => List.mem_cons_of_mem _ (inX5 w h)) hown hE.1 hP 0 rfl rfl 14 (by decide) (hts (.fieldLink "TextPatternsModel" 101 "TextPatternsModel" "captureCount" "I") (List.mem_cons_of_mem _ w_545)) (fun _ h9 => h9) rfl dX5_lastOpen_1 ?_
  refine lv_iconst (v := 1) hx hb dX5_lastOpen_4 (by decide) ?_
  refine lv_isub hx hb dX5_lastOpen_5 ?_
  refine lv_istore_n (lv' := [(1, .int (m_captureCount - 1)), (0, .ref q0)]) hx hb dX5_lastOpen_6 rfl hl (by decide) rfl (fun ls hl => ?_)
  exact t_X5_lastOpen_L0 X q0 q1 q2 q3 q4 q5 q6 q7 q8 q9 q10 q11 m_madeSize m_depth m_end m_captureCount m_looks m_trouble m_found m_first m_from m_ended m_rows m_sizes m_made m_begins m_places m_kinds m_nexts m_choices m_leasts m_captureBegins m_captureLengths hcc0 hcc (((m_captureCount - 1).toInt + 1).toNat + 1) (m_captureCount - 1) (show (m_captureCount - 1).toInt < 33 from (by have i1 := kx_rng (m_captureCount - 1); have i2 := kx_rng (m_captureCount); first | omega | (have i3 := kx_subK m_captureCount (y := 1) (k := 1) (by decide); omega))) (Nat.lt_succ_self _) u hu _ _ _ hP hD hS (lv_sub hl [1, 0] rfl)

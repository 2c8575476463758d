def f_X5_clear (m_found : Int32) (m_sizes : Nat → Int32) (a1 : Int32) : Int32 × Int32 × (Nat → Int32) := (if a1 = 0 then (m_sizes 0, 0, upd m_sizes 0 0) else (if a1 = 1 then (m_sizes 1, 0, upd m_sizes 1 0) else (if a1 = 2 then (m_sizes 2, 0, upd m_sizes 2 0) else (if a1 < 0 then ((-1), m_found, m_sizes) else (if a1 ≤ 2 then (0, m_found, m_sizes) else ((-1), m_found, m_sizes))))))
set_option maxHeartbeats 4000000 in
theorem pf_X5_clear {m_found : Int32} {m_sizes : Nat → Int32} {a1 : Int32} (hp_0 : 0 ≤ (m_sizes 0).toInt) (hp_1 : (m_sizes 0).toInt ≤ 4096) (hp_2 : 0 ≤ (m_sizes 1).toInt) (hp_3 : (m_sizes 1).toInt ≤ 512) (hp_4 : 0 ≤ (m_sizes 2).toInt) (hp_5 : (m_sizes 2).toInt ≤ 512) {u : Int32 × Int32 × (Nat → Int32)} (hu : u = f_X5_clear m_found m_sizes a1) : 0 ≤ (u.2.2 0).toInt ∧ (u.2.2 0).toInt ≤ 4096 ∧ 0 ≤ (u.2.2 1).toInt ∧ (u.2.2 1).toInt ≤ 512 ∧ 0 ≤ (u.2.2 2).toInt ∧ (u.2.2 2).toInt ≤ 512 := by
  unfold f_X5_clear at hu
  by_cases c_1 : a1 = 0
  · replace hu := hu.trans (if_pos c_1)
    subst c_1
    rw [hu]
    exact show 0 ≤ (0 : Int32).toInt ∧ (0 : Int32).toInt ≤ 4096 ∧ 0 ≤ (m_sizes 1).toInt ∧ (m_sizes 1).toInt ≤ 512 ∧ 0 ≤ (m_sizes 2).toInt ∧ (m_sizes 2).toInt ≤ 512 from ⟨(by decide), (by decide), hp_2, hp_3, hp_4, hp_5⟩
  replace hu := hu.trans (if_neg c_1)
  by_cases c_2 : a1 = 1
  · replace hu := hu.trans (if_pos c_2)
    subst c_2
    rw [hu]
    exact show 0 ≤ (m_sizes 0).toInt ∧ (m_sizes 0).toInt ≤ 4096 ∧ 0 ≤ (0 : Int32).toInt ∧ (0 : Int32).toInt ≤ 512 ∧ 0 ≤ (m_sizes 2).toInt ∧ (m_sizes 2).toInt ≤ 512 from ⟨hp_0, hp_1, (by decide), (by decide), hp_4, hp_5⟩
  replace hu := hu.trans (if_neg c_2)
  by_cases c_3 : a1 = 2
  · replace hu := hu.trans (if_pos c_3)
    subst c_3
    rw [hu]
    exact show 0 ≤ (m_sizes 0).toInt ∧ (m_sizes 0).toInt ≤ 4096 ∧ 0 ≤ (m_sizes 1).toInt ∧ (m_sizes 1).toInt ≤ 512 ∧ 0 ≤ (0 : Int32).toInt ∧ (0 : Int32).toInt ≤ 512 from ⟨hp_0, hp_1, hp_2, hp_3, (by decide), (by decide)⟩
  replace hu := hu.trans (if_neg c_3)
  rcases Classical.em (a1 < 0) with c_4 | c_4
  · replace hu := hu.trans (if_pos c_4)
    rw [hu]
    exact show 0 ≤ (m_sizes 0).toInt ∧ (m_sizes 0).toInt ≤ 4096 ∧ 0 ≤ (m_sizes 1).toInt ∧ (m_sizes 1).toInt ≤ 512 ∧ 0 ≤ (m_sizes 2).toInt ∧ (m_sizes 2).toInt ≤ 512 from ⟨hp_0, hp_1, hp_2, hp_3, hp_4, hp_5⟩
  · replace hu := hu.trans (if_neg c_4)
    rcases Classical.em (a1 ≤ 2) with c_5 | c_5
    · replace hu := hu.trans (if_pos c_5)
      exact False.elim (by have i1 := kx_ne c_1; have i2 := kx_ne c_2; have i3 := kx_ne c_3; have i4 := kx_nlt c_4; have i5 := Int32.le_iff_toInt_le.mp c_5; have i6 := kx_rng (a1); have i7 : (0 : Int32).toInt = 0 := (by decide); have i8 : (1 : Int32).toInt = 1 := (by decide); have i9 : (2 : Int32).toInt = 2 := (by decide); omega)
    · replace hu := hu.trans (if_neg c_5)
      rw [hu]
      exact show 0 ≤ (m_sizes 0).toInt ∧ (m_sizes 0).toInt ≤ 4096 ∧ 0 ≤ (m_sizes 1).toInt ∧ (m_sizes 1).toInt ≤ 512 ∧ 0 ≤ (m_sizes 2).toInt ∧ (m_sizes 2).toInt ≤ 512 from ⟨hp_0, hp_1, hp_2, hp_3, hp_4, hp_5⟩
abbrev rm_X5_clear : Room := { frames := 0, cells := 0, slots := 0, locals := 0 }
set_option maxHeartbeats 4000000 in
set_option maxRecDepth 100000 in
theorem c_X5_clear (l : Launch) (DD : va_G) (aC : Nat → ClassId) (tt : Nat → Nat) (q0 q1 q2 q3 q4 q5 q6 q7 q8 q9 q10 q11 : Nat) (m_madeSize : Int32) (m_depth : Int32) (m_end : Int32) (m_captureCount : Int32) (m_looks : Int32) (m_trouble : Int32) (m_found : Int32) (m_first : Int32) (m_from : Int32) (m_ended : Int32) (m_rows : Nat → Int32) (m_sizes : Nat → Int32) (m_made : Nat → Int32) (m_begins : Nat → Int32) (m_places : Nat → Int32) (m_kinds : Nat → Int32) (m_nexts : Nat → Int32) (m_choices : Nat → Int32) (m_leasts : Nat → Int32) (m_captureBegins : Nat → Int32) (m_captureLengths : Nat → Int32) (a1 : Int32) (hp_0 : 0 ≤ (m_sizes 0).toInt) (hp_1 : (m_sizes 0).toInt ≤ 4096) (hp_2 : 0 ≤ (m_sizes 1).toInt) (hp_3 : (m_sizes 1).toInt ≤ 512) (hp_4 : 0 ≤ (m_sizes 2).toInt) (hp_5 : (m_sizes 2).toInt ≤ 512) (u : Int32 × Int32 × (Nat → Int32)) (hu : u = f_X5_clear m_found m_sizes a1) : kM l yX5_clear wsX5_clear rm_X5_clear DD aC tt [.ref q0, .int a1] [(q0, .inr (5, [.ref q1, .ref q2, .ref q3, .int m_madeSize, .ref q4, .ref q5, .ref q6, .ref q7, .ref q8, .ref q9, .int m_depth, .int m_end, .ref q10, .ref q11, .int m_captureCount, .int m_looks, .int m_trouble, .int m_found, .int m_first, .int m_from, .int m_ended])), (q1, .inl (aC 1, 5632, .inl m_rows)), (q2, .inl (aC 0, 3, .inl m_sizes)), (q3, .inl (aC 1, 8192, .inl m_made)), (q4, .inl (aC 0, 520, .inl m_begins)), (q5, .inl (aC 0, 520, .inl m_places)), (q6, .inl (aC 0, 520, .inl m_kinds)), (q7, .inl (aC 0, 520, .inl m_nexts)), (q8, .inl (aC 0, 520, .inl m_choices)), (q9, .inl (aC 0, 520, .inl m_leasts)), (q10, .inl (aC 0, 33, .inl m_captureBegins)), (q11, .inl (aC 0, 33, .inl m_captureLengths))] (some (.int u.1)) [(q0, .inr (5, [.ref q1, .ref q2, .ref q3, .int m_madeSize, .ref q4, .ref q5, .ref q6, .ref q7, .ref q8, .ref q9, .int m_depth, .int m_end, .ref q10, .ref q11, .int m_captureCount, .int m_looks, .int m_trouble, .int u.2.1, .int m_first, .int m_from, .int m_ended])), (q1, .inl (aC 1, 5632, .inl m_rows)), (q2, .inl (aC 0, 3, .inl u.2.2)), (q3, .inl (aC 1, 8192, .inl m_made)), (q4, .inl (aC 0, 520, .inl m_begins)), (q5, .inl (aC 0, 520, .inl m_places)), (q6, .inl (aC 0, 520, .inl m_kinds)), (q7, .inl (aC 0, 520, .inl m_nexts)), (q8, .inl (aC 0, 520, .inl m_choices)), (q9, .inl (aC 0, 520, .inl m_leasts)), (q10, .inl (aC 0, 33, .inl m_captureBegins)), (q11, .inl (aC 0, 33, .inl m_captureLengths))] := by
  refine k_start (cc := cX5_clear) (maxL := 3) (ret := (some .int)) (own := RX5) (lv0 := [(0, .ref q0), (1, .int a1)]) (by decide) rfl rfl (Nat.le_of_ble_eq_true rfl) rfl (fun p e s m below meth c A ls X hP hD hS hl => ?_)
  obtain ⟨hx, hb, hr, hml, hts, hown, hlocks, hA, hE⟩ := id X
  unfold f_X5_clear at hu
  by_cases c_1 : a1 = 0
  · replace hu := hu.trans (if_pos c_1)
    subst c_1
    refine lv_iload_n hx hb dX5_clear_0 rfl (lv_at hl 1 rfl) ?_
    refine lv_if_lt (tgt := 9) hx hb dX5_clear_1 (by decide) (fun h => absurd h (by decide)) (fun _ => ?_)
    refine lv_iload_n hx hb dX5_clear_4 rfl (lv_at hl 1 rfl) ?_
    refine lv_iconst (v := 2) hx hb dX5_clear_5 (by decide) ?_
    refine lv_icmp_le (tgt := 11) hx hb dX5_clear_6 (by decide) (fun _ => ?_) (fun h => absurd (by decide) h)
    refine lv_aload_n hx hb dX5_clear_11 rfl (lv_at hl 0 rfl) ?_
    refine va_get (D := DD) (ci := 5) (v := .ref q2) (C := RX5) (T := TX5) (N := 21) hx hb hts (fun w h => List.mem_cons_of_mem _ (inX5 w h)) hown hE.1 hP 0 rfl rfl 1 (by decide) (hts (.fieldLink "TextPatternsModel" 13 "TextPatternsModel" "sizes" "[I") (List.mem_cons_of_mem _ w_532)) (fun _ h9 => h9) rfl dX5_clear_12 ?_
    refine lv_iload_n hx hb dX5_clear_15 rfl (lv_at hl 1 rfl) ?_
    refine va_iald hx hb hE.1 hP 2 0 rfl rfl (kb_c (by decide) (by decide)) dX5_clear_16 ?_
    refine W.eq (g2 := F0 m 17 ls [.int (m_sizes 0)]) rfl ?_
    refine lv_istore_n (lv' := [(2, .int (m_sizes 0)), (0, .ref q0), (1, .int 0)]) hx hb dX5_clear_17 rfl hl (by decide) rfl (fun ls hl => ?_)
    refine lv_aload_n hx hb dX5_clear_18 rfl (lv_at hl 1 rfl) ?_
    refine va_get (D := DD) (ci := 5) (v := .ref q2) (C := RX5) (T := TX5) (N := 21) hx hb hts (fun w h => List.mem_cons_of_mem _ (inX5 w h)) hown hE.1 hP 0 rfl rfl 1 (by decide) (hts (.fieldLink "TextPatternsModel" 13 "TextPatternsModel" "sizes" "[I") (List.mem_cons_of_mem _ w_532)) (fun _ h9 => h9) rfl dX5_clear_19 ?_
    refine lv_iload_n hx hb dX5_clear_22 rfl (lv_at hl 2 rfl) ?_
    refine lv_iconst (v := 0) hx hb dX5_clear_23 (by decide) ?_
    refine va_iast hx hb hE.1 hP hD hS 2 0 rfl rfl (kb_c (by decide) (by decide)) dX5_clear_24 (fun H locs hP hD hS => ?_)
    have hP : va_P DD vwCl [(q0, .inr (5, [.ref q1, .ref q2, .ref q3, .int m_madeSize, .ref q4, .ref q5, .ref q6, .ref q7, .ref q8, .ref q9, .int m_depth, .int m_end, .ref q10, .ref q11, .int m_captureCount, .int m_looks, .int m_trouble, .int m_found, .int m_first, .int m_from, .int m_ended])), (q1, .inl (aC 1, 5632, .inl m_rows)), (q2, .inl (aC 0, 3, .inl (upd m_sizes 0 0))), (q3, .inl (aC 1, 8192, .inl m_made)), (q4, .inl (aC 0, 520, .inl m_begins)), (q5, .inl (aC 0, 520, .inl m_places)), (q6, .inl (aC 0, 520, .inl m_kinds)), (q7, .inl (aC 0, 520, .inl m_nexts)), (q8, .inl (aC 0, 520, .inl m_choices)), (q9, .inl (aC 0, 520, .inl m_leasts)), (q10, .inl (aC 0, 33, .inl m_captureBegins)), (q11, .inl (aC 0, 33, .inl m_captureLengths))] H := hP
    have hD : va_D A [(q0, .inr (5, [.ref q1, .ref q2, .ref q3, .int m_madeSize, .ref q4, .ref q5, .ref q6, .ref q7, .ref q8, .ref q9, .int m_depth, .int m_end, .ref q10, .ref q11, .int m_captureCount, .int m_looks, .int m_trouble, .int m_found, .int m_first, .int m_from, .int m_ended])), (q1, .inl (aC 1, 5632, .inl m_rows)), (q2, .inl (aC 0, 3, .inl (upd m_sizes 0 0))), (q3, .inl (aC 1, 8192, .inl m_made)), (q4, .inl (aC 0, 520, .inl m_begins)), (q5, .inl (aC 0, 520, .inl m_places)), (q6, .inl (aC 0, 520, .inl m_kinds)), (q7, .inl (aC 0, 520, .inl m_nexts)), (q8, .inl (aC 0, 520, .inl m_choices)), (q9, .inl (aC 0, 520, .inl m_leasts)), (q10, .inl (aC 0, 33, .inl m_captureBegins)), (q11, .inl (aC 0, 33, .inl m_captureLengths))] := hD
    refine lv_aload_n hx hb dX5_clear_25 rfl (lv_at hl 1 rfl) ?_
    refine lv_iconst (v := 0) hx hb dX5_clear_26 (by decide) ?_
    refine va_put (D := DD) (ci := 5) (v := .int 0) (ty := .boolean) (C := RX5) (T := TX5) (N := 21) hx hb hts (fun w h => List.mem_cons_of_mem _ (inX5 w h)) tyX5 tyX5_ok nmX5 hown hE.1 hP hD hS 0 rfl rfl 17 (by decide) (hts (.fieldLink "TextPatternsModel" 55 "TextPatternsModel" "found" "Z") (List.mem_cons_of_mem _ w_548)) (fun _ h9 => h9) rfl (by decide +kernel) (by decide) rfl (Nat.le_of_ble_eq_true rfl) dX5_clear_27 (fun H locs hP hD hS => ?_)
    have hP : va_P DD vwCl [(q0, .inr (5, [.ref q1, .ref q2, .ref q3, .int m_madeSize, .ref q4, .ref q5, .ref q6, .ref q7, .ref q8, .ref q9, .int m_depth, .int m_end, .ref q10, .ref q11, .int m_captureCount, .int m_looks, .int m_trouble, .int 0, .int m_first, .int m_from, .int m_ended])), (q1, .inl (aC 1, 5632, .inl m_rows)), (q2, .inl (aC 0, 3, .inl (upd m_sizes 0 0))), (q3, .inl (aC 1, 8192, .inl m_made)), (q4, .inl (aC 0, 520, .inl m_begins)), (q5, .inl (aC 0, 520, .inl m_places)), (q6, .inl (aC 0, 520, .inl m_kinds)), (q7, .inl (aC 0, 520, .inl m_nexts)), (q8, .inl (aC 0, 520, .inl m_choices)), (q9, .inl (aC 0, 520, .inl m_leasts)), (q10, .inl (aC 0, 33, .inl m_captureBegins)), (q11, .inl (aC 0, 33, .inl m_captureLengths))] H := hP
    have hD : va_D A [(q0, .inr (5, [.ref q1, .ref q2, .ref q3, .int m_madeSize, .ref q4, .ref q5, .ref q6, .ref q7, .ref q8, .ref q9, .int m_depth, .int m_end, .ref q10, .ref q11, .int m_captureCount, .int m_looks, .int m_trouble, .int 0, .int m_first, .int m_from, .int m_ended])), (q1, .inl (aC 1, 5632, .inl m_rows)), (q2, .inl (aC 0, 3, .inl (upd m_sizes 0 0))), (q3, .inl (aC 1, 8192, .inl m_made)), (q4, .inl (aC 0, 520, .inl m_begins)), (q5, .inl (aC 0, 520, .inl m_places)), (q6, .inl (aC 0, 520, .inl m_kinds)), (q7, .inl (aC 0, 520, .inl m_nexts)), (q8, .inl (aC 0, 520, .inl m_choices)), (q9, .inl (aC 0, 520, .inl m_leasts)), (q10, .inl (aC 0, 33, .inl m_captureBegins)), (q11, .inl (aC 0, 33, .inl m_captureLengths))] := hD
    refine lv_iload_n hx hb dX5_clear_30 rfl (lv_at hl 0 rfl) ?_
    subst hu
    exact k_iret hx hb hr hlocks hP hD hS rfl rfl dX5_clear_31
  replace hu := hu.trans (if_neg c_1)
  by_cases c_2 : a1 = 1
  · replace hu := hu.trans (if_pos c_2)
    subst c_2
    refine lv_iload_n hx hb dX5_clear_0 rfl (lv_at hl 1 rfl) ?_
    refine lv_if_lt (tgt := 9) hx hb dX5_clear_1 (by decide) (fun h => absurd h (by decide)) (fun _ => ?_)
    refine lv_iload_n hx hb dX5_clear_4 rfl (lv_at hl 1 rfl) ?_
    refine lv_iconst (v := 2) hx hb dX5_clear_5 (by decide) ?_
    refine lv_icmp_le (tgt := 11) hx hb dX5_clear_6 (by decide) (fun _ => ?_) (fun h => absurd (by decide) h)
    refine lv_aload_n hx hb dX5_clear_11 rfl (lv_at hl 0 rfl) ?_
    refine va_get (D := DD) (ci := 5) (v := .ref q2) (C := RX5) (T := TX5) (N := 21) hx hb hts (fun w h => List.mem_cons_of_mem _ (inX5 w h)) hown hE.1 hP 0 rfl rfl 1 (by decide) (hts (.fieldLink "TextPatternsModel" 13 "TextPatternsModel" "sizes" "[I") (List.mem_cons_of_mem _ w_532)) (fun _ h9 => h9) rfl dX5_clear_12 ?_
    refine lv_iload_n hx hb dX5_clear_15 rfl (lv_at hl 1 rfl) ?_
    refine va_iald hx hb hE.1 hP 2 0 rfl rfl (kb_c (by decide) (by decide)) dX5_clear_16 ?_
    refine W.eq (g2 := F0 m 17 ls [.int (m_sizes 1)]) rfl ?_
    refine lv_istore_n (lv' := [(2, .int (m_sizes 1)), (0, .ref q0), (1, .int 1)]) hx hb dX5_clear_17 rfl hl (by decide) rfl (fun ls hl => ?_)
    refine lv_aload_n hx hb dX5_clear_18 rfl (lv_at hl 1 rfl) ?_
    refine va_get (D := DD) (ci := 5) (v := .ref q2) (C := RX5) (T := TX5) (N := 21) hx hb hts (fun w h => List.mem_cons_of_mem _ (inX5 w h)) hown hE.1 hP 0 rfl rfl 1 (by decide) (hts (.fieldLink "TextPatternsModel" 13 "TextPatternsModel" "sizes" "[I") (List.mem_cons_of_mem _ w_532)) (fun _ h9 => h9) rfl dX5_clear_19 ?_
    refine lv_iload_n hx hb dX5_clear_22 rfl (lv_at hl 2 rfl) ?_
    refine lv_iconst (v := 0) hx hb dX5_clear_23 (by decide) ?_
    refine va_iast hx hb hE.1 hP hD hS 2 0 rfl rfl (kb_c (by decide) (by decide)) dX5_clear_24 (fun H locs hP hD hS => ?_)
    have hP : va_P DD vwCl [(q0, .inr (5, [.ref q1, .ref q2, .ref q3, .int m_madeSize, .ref q4, .ref q5, .ref q6, .ref q7, .ref q8, .ref q9, .int m_depth, .int m_end, .ref q10, .ref q11, .int m_captureCount, .int m_looks, .int m_trouble, .int m_found, .int m_first, .int m_from, .int m_ended])), (q1, .inl (aC 1, 5632, .inl m_rows)), (q2, .inl (aC 0, 3, .inl (upd m_sizes 1 0))), (q3, .inl (aC 1, 8192, .inl m_made)), (q4, .inl (aC 0, 520, .inl m_begins)), (q5, .inl (aC 0, 520, .inl m_places)), (q6, .inl (aC 0, 520, .inl m_kinds)), (q7, .inl (aC 0, 520, .inl m_nexts)), (q8, .inl (aC 0, 520, .inl m_choices)), (q9, .inl (aC 0, 520, .inl m_leasts)), (q10, .inl (aC 0, 33, .inl m_captureBegins)), (q11, .inl (aC 0, 33, .inl m_captureLengths))] H := hP
    have hD : va_D A [(q0, .inr (5, [.ref q1, .ref q2, .ref q3, .int m_madeSize, .ref q4, .ref q5, .ref q6, .ref q7, .ref q8, .ref q9, .int m_depth, .int m_end, .ref q10, .ref q11, .int m_captureCount, .int m_looks, .int m_trouble, .int m_found, .int m_first, .int m_from, .int m_ended])), (q1, .inl (aC 1, 5632, .inl m_rows)), (q2, .inl (aC 0, 3, .inl (upd m_sizes 1 0))), (q3, .inl (aC 1, 8192, .inl m_made)), (q4, .inl (aC 0, 520, .inl m_begins)), (q5, .inl (aC 0, 520, .inl m_places)), (q6, .inl (aC 0, 520, .inl m_kinds)), (q7, .inl (aC 0, 520, .inl m_nexts)), (q8, .inl (aC 0, 520, .inl m_choices)), (q9, .inl (aC 0, 520, .inl m_leasts)), (q10, .inl (aC 0, 33, .inl m_captureBegins)), (q11, .inl (aC 0, 33, .inl m_captureLengths))] := hD
    refine lv_aload_n hx hb dX5_clear_25 rfl (lv_at hl 1 rfl) ?_
    refine lv_iconst (v := 0) hx hb dX5_clear_26 (by decide) ?_
    refine va_put (D := DD) (ci := 5) (v := .int 0) (ty := .boolean) (C := RX5) (T := TX5) (N := 21) hx hb hts (fun w h => List.mem_cons_of_mem _ (inX5 w h)) tyX5 tyX5_ok nmX5 hown hE.1 hP hD hS 0 rfl rfl 17 (by decide) (hts (.fieldLink "TextPatternsModel" 55 "TextPatternsModel" "found" "Z") (List.mem_cons_of_mem _ w_548)) (fun _ h9 => h9) rfl (by decide +kernel) (by decide) rfl (Nat.le_of_ble_eq_true rfl) dX5_clear_27 (fun H locs hP hD hS => ?_)
    have hP : va_P DD vwCl [(q0, .inr (5, [.ref q1, .ref q2, .ref q3, .int m_madeSize, .ref q4, .ref q5, .ref q6, .ref q7, .ref q8, .ref q9, .int m_depth, .int m_end, .ref q10, .ref q11, .int m_captureCount, .int m_looks, .int m_trouble, .int 0, .int m_first, .int m_from, .int m_ended])), (q1, .inl (aC 1, 5632, .inl m_rows)), (q2, .inl (aC 0, 3, .inl (upd m_sizes 1 0))), (q3, .inl (aC 1, 8192, .inl m_made)), (q4, .inl (aC 0, 520, .inl m_begins)), (q5, .inl (aC 0, 520, .inl m_places)), (q6, .inl (aC 0, 520, .inl m_kinds)), (q7, .inl (aC 0, 520, .inl m_nexts)), (q8, .inl (aC 0, 520, .inl m_choices)), (q9, .inl (aC 0, 520, .inl m_leasts)), (q10, .inl (aC 0, 33, .inl m_captureBegins)), (q11, .inl (aC 0, 33, .inl m_captureLengths))] H := hP
    have hD : va_D A [(q0, .inr (5, [.ref q1, .ref q2, .ref q3, .int m_madeSize, .ref q4, .ref q5, .ref q6, .ref q7, .ref q8, .ref q9, .int m_depth, .int m_end, .ref q10, .ref q11, .int m_captureCount, .int m_looks, .int m_trouble, .int 0, .int m_first, .int m_from, .int m_ended])), (q1, .inl (aC 1, 5632, .inl m_rows)), (q2, .inl (aC 0, 3, .inl (upd m_sizes 1 0))), (q3, .inl (aC 1, 8192, .inl m_made)), (q4, .inl (aC 0, 520, .inl m_begins)), (q5, .inl (aC 0, 520, .inl m_places)), (q6, .inl (aC 0, 520, .inl m_kinds)), (q7, .inl (aC 0, 520, .inl m_nexts)), (q8, .inl (aC 0, 520, .inl m_choices)), (q9, .inl (aC 0, 520, .inl m_leasts)), (q10, .inl (aC 0, 33, .inl m_captureBegins)), (q11, .inl (aC 0, 33, .inl m_captureLengths))] := hD
    refine lv_iload_n hx hb dX5_clear_30 rfl (lv_at hl 0 rfl) ?_
    subst hu
    exact k_iret hx hb hr hlocks hP hD hS rfl rfl dX5_clear_31
  replace hu := hu.trans (if_neg c_2)
  by_cases c_3 : a1 = 2
  · replace hu := hu.trans (if_pos c_3)
    subst c_3
    refine lv_iload_n hx hb dX5_clear_0 rfl (lv_at hl 1 rfl) ?_
    refine lv_if_lt (tgt := 9) hx hb dX5_clear_1 (by decide) (fun h => absurd h (by decide)) (fun _ => ?_)
    refine lv_iload_n hx hb dX5_clear_4 rfl (lv_at hl 1 rfl) ?_
    refine lv_iconst (v := 2) hx hb dX5_clear_5 (by decide) ?_
    refine lv_icmp_le (tgt := 11) hx hb dX5_clear_6 (by decide) (fun _ => ?_) (fun h => absurd (by decide) h)
    refine lv_aload_n hx hb dX5_clear_11 rfl (lv_at hl 0 rfl) ?_
    refine va_get (D := DD) (ci := 5) (v := .ref q2) (C := RX5) (T := TX5) (N := 21) hx hb hts (fun w h => List.mem_cons_of_mem _ (inX5 w h)) hown hE.1 hP 0 rfl rfl 1 (by decide) (hts (.fieldLink "TextPatternsModel" 13 "TextPatternsModel" "sizes" "[I") (List.mem_cons_of_mem _ w_532)) (fun _ h9 => h9) rfl dX5_clear_12 ?_
    refine lv_iload_n hx hb dX5_clear_15 rfl (lv_at hl 1 rfl) ?_
    refine va_iald hx hb hE.1 hP 2 0 rfl rfl (kb_c (by decide) (by decide)) dX5_clear_16 ?_
    refine W.eq (g2 := F0 m 17 ls [.int (m_sizes 2)]) rfl ?_
    refine lv_istore_n (lv' := [(2, .int (m_sizes 2)), (0, .ref q0), (1, .int 2)]) hx hb dX5_clear_17 rfl hl (by decide) rfl (fun ls hl => ?_)
    refine lv_aload_n hx hb dX5_clear_18 rfl (lv_at hl 1 rfl) ?_
    refine va_get (D := DD) (ci := 5) (v := .ref q2) (C := RX5) (T := TX5) (N := 21) hx hb hts (fun w h => List.mem_cons_of_mem _ (inX5 w h)) hown hE.1 hP 0 rfl rfl 1 (by decide) (hts (.fieldLink "TextPatternsModel" 13 "TextPatternsModel" "sizes" "[I") (List.mem_cons_of_mem _ w_532)) (fun _ h9 => h9) rfl dX5_clear_19 ?_
    refine lv_iload_n hx hb dX5_clear_22 rfl (lv_at hl 2 rfl) ?_
    refine lv_iconst (v := 0) hx hb dX5_clear_23 (by decide) ?_
    refine va_iast hx hb hE.1 hP hD hS 2 0 rfl rfl (kb_c (by decide) (by decide)) dX5_clear_24 (fun H locs hP hD hS => ?_)
    have hP : va_P DD vwCl [(q0, .inr (5, [.ref q1, .ref q2, .ref q3, .int m_madeSize, .ref q4, .ref q5, .ref q6, .ref q7, .ref q8, .ref q9, .int m_depth, .int m_end, .ref q10, .ref q11, .int m_captureCount, .int m_looks, .int m_trouble, .int m_found, .int m_first, .int m_from, .int m_ended])), (q1, .inl (aC 1, 5632, .inl m_rows)), (q2, .inl (aC 0, 3, .inl (upd m_sizes 2 0))), (q3, .inl (aC 1, 8192, .inl m_made)), (q4, .inl (aC 0, 520, .inl m_begins)), (q5, .inl (aC 0, 520, .inl m_places)), (q6, .inl (aC 0, 520, .inl m_kinds)), (q7, .inl (aC 0, 520, .inl m_nexts)), (q8, .inl (aC 0, 520, .inl m_choices)), (q9, .inl (aC 0, 520, .inl m_leasts)), (q10, .inl (aC 0, 33, .inl m_captureBegins)), (q11, .inl (aC 0, 33, .inl m_captureLengths))] H := hP
    have hD : va_D A [(q0, .inr (5, [.ref q1, .ref q2, .ref q3, .int m_madeSize, .ref q4, .ref q5, .ref q6, .ref q7, .ref q8, .ref q9, .int m_depth, .int m_end, .ref q10, .ref q11, .int m_captureCount, .int m_looks, .int m_trouble, .int m_found, .int m_first, .int m_from, .int m_ended])), (q1, .inl (aC 1, 5632, .inl m_rows)), (q2, .inl (aC 0, 3, .inl (upd m_sizes 2 0))), (q3, .inl (aC 1, 8192, .inl m_made)), (q4, .inl (aC 0, 520, .inl m_begins)), (q5, .inl (aC 0, 520, .inl m_places)), (q6, .inl (aC 0, 520, .inl m_kinds)), (q7, .inl (aC 0, 520, .inl m_nexts)), (q8, .inl (aC 0, 520, .inl m_choices)), (q9, .inl (aC 0, 520, .inl m_leasts)), (q10, .inl (aC 0, 33, .inl m_captureBegins)), (q11, .inl (aC 0, 33, .inl m_captureLengths))] := hD
    refine lv_aload_n hx hb dX5_clear_25 rfl (lv_at hl 1 rfl) ?_
    refine lv_iconst (v := 0) hx hb dX5_clear_26 (by decide) ?_
    refine va_put (D := DD) (ci := 5) (v := .int 0) (ty := .boolean) (C := RX5) (T := TX5) (N := 21) hx hb hts (fun w h => List.mem_cons_of_mem _ (inX5 w h)) tyX5 tyX5_ok nmX5 hown hE.1 hP hD hS 0 rfl rfl 17 (by decide) (hts (.fieldLink "TextPatternsModel" 55 "TextPatternsModel" "found" "Z") (List.mem_cons_of_mem _ w_548)) (fun _ h9 => h9) rfl (by decide +kernel) (by decide) rfl (Nat.le_of_ble_eq_true rfl) dX5_clear_27 (fun H locs hP hD hS => ?_)
    have hP : va_P DD vwCl [(q0, .inr (5, [.ref q1, .ref q2, .ref q3, .int m_madeSize, .ref q4, .ref q5, .ref q6, .ref q7, .ref q8, .ref q9, .int m_depth, .int m_end, .ref q10, .ref q11, .int m_captureCount, .int m_looks, .int m_trouble, .int 0, .int m_first, .int m_from, .int m_ended])), (q1, .inl (aC 1, 5632, .inl m_rows)), (q2, .inl (aC 0, 3, .inl (upd m_sizes 2 0))), (q3, .inl (aC 1, 8192, .inl m_made)), (q4, .inl (aC 0, 520, .inl m_begins)), (q5, .inl (aC 0, 520, .inl m_places)), (q6, .inl (aC 0, 520, .inl m_kinds)), (q7, .inl (aC 0, 520, .inl m_nexts)), (q8, .inl (aC 0, 520, .inl m_choices)), (q9, .inl (aC 0, 520, .inl m_leasts)), (q10, .inl (aC 0, 33, .inl m_captureBegins)), (q11, .inl (aC 0, 33, .inl m_captureLengths))] H := hP
    have hD : va_D A [(q0, .inr (5, [.ref q1, .ref q2, .ref q3, .int m_madeSize, .ref q4, .ref q5, .ref q6, .ref q7, .ref q8, .ref q9, .int m_depth, .int m_end, .ref q10, .ref q11, .int m_captureCount, .int m_looks, .int m_trouble, .int 0, .int m_first, .int m_from, .int m_ended])), (q1, .inl (aC 1, 5632, .inl m_rows)), (q2, .inl (aC 0, 3, .inl (upd m_sizes 2 0))), (q3, .inl (aC 1, 8192, .inl m_made)), (q4, .inl (aC 0, 520, .inl m_begins)), (q5, .inl (aC 0, 520, .inl m_places)), (q6, .inl (aC 0, 520, .inl m_kinds)), (q7, .inl (aC 0, 520, .inl m_nexts)), (q8, .inl (aC 0, 520, .inl m_choices)), (q9, .inl (aC 0, 520, .inl m_leasts)), (q10, .inl (aC 0, 33, .inl m_captureBegins)), (q11, .inl (aC 0, 33, .inl m_captureLengths))] := hD
    refine lv_iload_n hx hb dX5_clear_30 rfl (lv_at hl 0 rfl) ?_
    subst hu
    exact k_iret hx hb hr hlocks hP hD hS rfl rfl dX5_clear_31
  replace hu := hu.trans (if_neg c_3)
  refine lv_iload_n hx hb dX5_clear_0 rfl (lv_at hl 1 rfl) ?_
  refine lv_if_lt (tgt := 9) hx hb dX5_clear_1 (by decide) (fun c_4 => ?_) (fun c_4 => ?_)
  · replace hu := hu.trans (if_pos c_4)
    refine lv_iconst (v := (-1)) hx hb dX5_clear_9 (by decide) ?_
    subst hu
    exact k_iret hx hb hr hlocks hP hD hS rfl rfl dX5_clear_10
  · replace hu := hu.trans (if_neg c_4)
    refine lv_iload_n hx hb dX5_clear_4 rfl (lv_at hl 1 rfl) ?_
    refine lv_iconst (v := 2) hx hb dX5_clear_5 (by decide) ?_
    refine lv_icmp_le (tgt := 11) hx hb dX5_clear_6 (by decide) (fun c_5 => ?_) (fun c_5 => ?_)
    · replace hu := hu.trans (if_pos c_5)
      exact False.elim (by have i1 := kx_ne c_1; have i2 := kx_ne c_2; have i3 := kx_ne c_3; have i4 := kx_nlt c_4; have i5 := Int32.le_iff_toInt_le.mp c_5; have i6 := kx_rng (a1); have i7 : (0 : Int32).toInt = 0 := (by decide); have i8 : (1 : Int32).toInt = 1 := (by decide); have i9 : (2 : Int32).toInt = 2 := (by decide); omega)
    · replace hu := hu.trans (if_neg c_5)
      refine lv_iconst (v := (-1)) hx hb dX5_clear_9 (by decide) ?_
      subst hu
      exact k_iret hx hb hr hlocks hP hD hS rfl rfl dX5_clear_10
def f_X5_begin (m_from : Int32) (m_ended : Int32) : Int32 × Int32 := (0, (-1))
abbrev rm_X5_begin : Room := { frames := 0, cells := 0, slots := 0, locals := 0 }
set_option maxHeartbeats 4000000 in
set_option maxRecDepth 100000 in
theorem c_X5_begin (l : Launch) (DD : va_G) (aC : Nat → ClassId) (tt : Nat → Nat) (q0 q1 q2 q3 q4 q5 q6 q7 q8 q9 q10 q11 : Nat) (m_madeSize : Int32) (m_depth : Int32) (m_end : Int32) (m_captureCount : Int32) (m_looks : Int32) (m_trouble : Int32) (m_found : Int32) (m_first : Int32) (m_from : Int32) (m_ended : Int32) (m_rows : Nat → Int32) (m_sizes : Nat → Int32) (m_made : Nat → Int32) (m_begins : Nat → Int32) (m_places : Nat → Int32) (m_kinds : Nat → Int32) (m_nexts : Nat → Int32) (m_choices : Nat → Int32) (m_leasts : Nat → Int32) (m_captureBegins : Nat → Int32) (m_captureLengths : Nat → Int32) (u : Int32 × Int32) (hu : u = f_X5_begin m_from m_ended) : kM l yX5_begin wsX5_begin rm_X5_begin DD aC tt [.ref q0] [(q0, .inr (5, [.ref q1, .ref q2, .ref q3, .int m_madeSize, .ref q4, .ref q5, .ref q6, .ref q7, .ref q8, .ref q9, .int m_depth, .int m_end, .ref q10, .ref q11, .int m_captureCount, .int m_looks, .int m_trouble, .int m_found, .int m_first, .int m_from, .int m_ended])), (q1, .inl (aC 1, 5632, .inl m_rows)), (q2, .inl (aC 0, 3, .inl m_sizes)), (q3, .inl (aC 1, 8192, .inl m_made)), (q4, .inl (aC 0, 520, .inl m_begins)), (q5, .inl (aC 0, 520, .inl m_places)), (q6, .inl (aC 0, 520, .inl m_kinds)), (q7, .inl (aC 0, 520, .inl m_nexts)), (q8, .inl (aC 0, 520, .inl m_choices)), (q9, .inl (aC 0, 520, .inl m_leasts)), (q10, .inl (aC 0, 33, .inl m_captureBegins)), (q11, .inl (aC 0, 33, .inl m_captureLengths))] none [(q0, .inr (5, [.ref q1, .ref q2, .ref q3, .int m_madeSize, .ref q4, .ref q5, .ref q6, .ref q7, .ref q8, .ref q9, .int m_depth, .int m_end, .ref q10, .ref q11, .int m_captureCount, .int m_looks, .int m_trouble, .int m_found, .int m_first, .int u.1, .int u.2])), (q1, .inl (aC 1, 5632, .inl m_rows)), (q2, .inl (aC 0, 3, .inl m_sizes)), (q3, .inl (aC 1, 8192, .inl m_made)), (q4, .inl (aC 0, 520, .inl m_begins)), (q5, .inl (aC 0, 520, .inl m_places)), (q6, .inl (aC 0, 520, .inl m_kinds)), (q7, .inl (aC 0, 520, .inl m_nexts)), (q8, .inl (aC 0, 520, .inl m_choices)), (q9, .inl (aC 0, 520, .inl m_leasts)), (q10, .inl (aC 0, 33, .inl m_captureBegins)), (q11, .inl (aC 0, 33, .inl m_captureLengths))] := by
  refine k_start (cc := cX5_begin) (maxL := 1) (ret := none) (own := RX5) (lv0 := [(0, .ref q0)]) (by decide) rfl rfl (Nat.le_of_ble_eq_true rfl) rfl (fun p e s m below meth c A ls X hP hD hS hl => ?_)
  obtain ⟨hx, hb, hr, hml, hts, hown, hlocks, hA, hE⟩ := id X
  unfold f_X5_begin at hu
  refine lv_aload_n hx hb dX5_begin_0 rfl (lv_at hl 0 rfl) ?_
  refine lv_iconst (v := 0) hx hb dX5_begin_1 (by decide) ?_
  refine va_put (D := DD) (ci := 5) (v := .int 0) (ty := .int) (C := RX5) (T := TX5) (N := 21) hx hb hts (fun w h => List.mem_cons_of_mem _ (inX5 w h)) tyX5 tyX5_ok nmX5 hown hE.1 hP hD hS 0 rfl rfl 19 (by decide) (hts (.fieldLink "TextPatternsModel" 171 "TextPatternsModel" "from" "I") (List.mem_cons_of_mem _ w_550)) (fun _ h9 => h9) rfl (by decide +kernel) rfl rfl (Nat.le_of_ble_eq_true rfl) dX5_begin_2 (fun H locs hP hD hS => ?_)
  have hP : va_P DD vwCl [(q0, .inr (5, [.ref q1, .ref q2, .ref q3, .int m_madeSize, .ref q4, .ref q5, .ref q6, .ref q7, .ref q8, .ref q9, .int m_depth, .int m_end, .ref q10, .ref q11, .int m_captureCount, .int m_looks, .int m_trouble, .int m_found, .int m_first, .int 0, .int m_ended])), (q1, .inl (aC 1, 5632, .inl m_rows)), (q2, .inl (aC 0, 3, .inl m_sizes)), (q3, .inl (aC 1, 8192, .inl m_made)), (q4, .inl (aC 0, 520, .inl m_begins)), (q5, .inl (aC 0, 520, .inl m_places)), (q6, .inl (aC 0, 520, .inl m_kinds)), (q7, .inl (aC 0, 520, .inl m_nexts)), (q8, .inl (aC 0, 520, .inl m_choices)), (q9, .inl (aC 0, 520, .inl m_leasts)), (q10, .inl (aC 0, 33, .inl m_captureBegins)), (q11, .inl (aC 0, 33, .inl m_captureLengths))] H := hP
  have hD : va_D A [(q0, .inr (5, [.ref q1, .ref q2, .ref q3, .int m_madeSize, .ref q4, .ref q5, .ref q6, .ref q7, .ref q8, .ref q9, .int m_depth, .int m_end, .ref q10, .ref q11, .int m_captureCount, .int m_looks, .int m_trouble, .int m_found, .int m_first, .int 0, .int m_ended])), (q1, .inl (aC 1, 5632, .inl m_rows)), (q2, .inl (aC 0, 3, .inl m_sizes)), (q3, .inl (aC 1, 8192, .inl m_made)), (q4, .inl (aC 0, 520, .inl m_begins)), (q5, .inl (aC 0, 520, .inl m_places)), (q6, .inl (aC 0, 520, .inl m_kinds)), (q7, .inl (aC 0, 520, .inl m_nexts)), (q8, .inl (aC 0, 520, .inl m_choices)), (q9, .inl (aC 0, 520, .inl m_leasts)), (q10, .inl (aC 0, 33, .inl m_captureBegins)), (q11, .inl (aC 0, 33, .inl m_captureLengths))] := hD
  refine lv_aload_n hx hb dX5_begin_5 rfl (lv_at hl 0 rfl) ?_
  refine lv_iconst (v := (-1)) hx hb dX5_begin_6 (by decide) ?_
  refine va_put (D := DD) (ci := 5) (v := .int (-1)) (ty := .int) (C := RX5) (T := TX5) (N := 21) hx hb hts (fun w h => List.mem_cons_of_mem _ (inX5 w h)) tyX5 tyX5_ok nmX5 hown hE.1 hP hD hS 0 rfl rfl 20 (by decide) (hts (.fieldLink "TextPatternsModel" 44 "TextPatternsModel" "ended" "I") (List.mem_cons_of_mem _ w_551)) (fun _ h9 => h9) rfl (by decide +kernel) rfl rfl (Nat.le_of_ble_eq_true rfl) dX5_begin_7 (fun H locs hP hD hS => ?_)
  have hP : va_P DD vwCl [(q0, .inr (5, [.ref q1, .ref q2, .ref q3, .int m_madeSize, .ref q4, .ref q5, .ref q6, .ref q7, .ref q8, .ref q9, .int m_depth, .int m_end, .ref q10, .ref q11, .int m_captureCount, .int m_looks, .int m_trouble, .int m_found, .int m_first, .int 0, .int (-1)])), (q1, .inl (aC 1, 5632, .inl m_rows)), (q2, .inl (aC 0, 3, .inl m_sizes)), (q3, .inl (aC 1, 8192, .inl m_made)), (q4, .inl (aC 0, 520, .inl m_begins)), (q5, .inl (aC 0, 520, .inl m_places)), (q6, .inl (aC 0, 520, .inl m_kinds)), (q7, .inl (aC 0, 520, .inl m_nexts)), (q8, .inl (aC 0, 520, .inl m_choices)), (q9, .inl (aC 0, 520, .inl m_leasts)), (q10, .inl (aC 0, 33, .inl m_captureBegins)), (q11, .inl (aC 0, 33, .inl m_captureLengths))] H := hP
  have hD : va_D A [(q0, .inr (5, [.ref q1, .ref q2, .ref q3, .int m_madeSize, .ref q4, .ref q5, .ref q6, .ref q7, .ref q8, .ref q9, .int m_depth, .int m_end, .ref q10, .ref q11, .int m_captureCount, .int m_looks, .int m_trouble, .int m_found, .int m_first, .int 0, .int (-1)])), (q1, .inl (aC 1, 5632, .inl m_rows)), (q2, .inl (aC 0, 3, .inl m_sizes)), (q3, .inl (aC 1, 8192, .inl m_made)), (q4, .inl (aC 0, 520, .inl m_begins)), (q5, .inl (aC 0, 520, .inl m_places)), (q6, .inl (aC 0, 520, .inl m_kinds)), (q7, .inl (aC 0, 520, .inl m_nexts)), (q8, .inl (aC 0, 520, .inl m_choices)), (q9, .inl (aC 0, 520, .inl m_leasts)), (q10, .inl (aC 0, 33, .inl m_captureBegins)), (q11, .inl (aC 0, 33, .inl m_captureLengths))] := hD
  subst hu
  exact k_vret hx hb hr hlocks hP hD hS rfl rfl dX5_begin_10
def f_X5_looks (m_looks : Int32) : Int32 := m_looks
abbrev rm_X5_looks : Room := { frames := 0, cells := 0, slots := 0, locals := 0 }
set_option maxHeartbeats 4000000 in
set_option maxRecDepth 100000 in
theorem c_X5_looks (l : Launch) (DD : va_G) (aC : Nat → ClassId) (tt : Nat → Nat) (q0 q1 q2 q3 q4 q5 q6 q7 q8 q9 q10 q11 : Nat) (m_madeSize : Int32) (m_depth : Int32) (m_end : Int32) (m_captureCount : Int32) (m_looks : Int32) (m_trouble : Int32) (m_found : Int32) (m_first : Int32) (m_from : Int32) (m_ended : Int32) (m_rows : Nat → Int32) (m_sizes : Nat → Int32) (m_made : Nat → Int32) (m_begins : Nat → Int32) (m_places : Nat → Int32) (m_kinds : Nat → Int32) (m_nexts : Nat → Int32) (m_choices : Nat → Int32) (m_leasts : Nat → Int32) (m_captureBegins : Nat → Int32) (m_captureLengths : Nat → Int32) (u : Int32) (hu : u = f_X5_looks m_looks) : kM l yX5_looks wsX5_looks rm_X5_looks DD aC tt [.ref q0] [(q0, .inr (5, [.ref q1, .ref q2, .ref q3, .int m_madeSize, .ref q4, .ref q5, .ref q6, .ref q7, .ref q8, .ref q9, .int m_depth, .int m_end, .ref q10, .ref q11, .int m_captureCount, .int m_looks, .int m_trouble, .int m_found, .int m_first, .int m_from, .int m_ended])), (q1, .inl (aC 1, 5632, .inl m_rows)), (q2, .inl (aC 0, 3, .inl m_sizes)), (q3, .inl (aC 1, 8192, .inl m_made)), (q4, .inl (aC 0, 520, .inl m_begins)), (q5, .inl (aC 0, 520, .inl m_places)), (q6, .inl (aC 0, 520, .inl m_kinds)), (q7, .inl (aC 0, 520, .inl m_nexts)), (q8, .inl (aC 0, 520, .inl m_choices)), (q9, .inl (aC 0, 520, .inl m_leasts)), (q10, .inl (aC 0, 33, .inl m_captureBegins)), (q11, .inl (aC 0, 33, .inl m_captureLengths))] (some (.int u)) [(q0, .inr (5, [.ref q1, .ref q2, .ref q3, .int m_madeSize, .ref q4, .ref q5, .ref q6, .ref q7, .ref q8, .ref q9, .int m_depth, .int m_end, .ref q10, .ref q11, .int m_captureCount, .int m_looks, .int m_trouble, .int m_found, .int m_first, .int m_from, .int m_ended])), (q1, .inl (aC 1, 5632, .inl m_rows)), (q2, .inl (aC 0, 3, .inl m_sizes)), (q3, .inl (aC 1, 8192, .inl m_made)), (q4, .inl (aC 0, 520, .inl m_begins)), (q5, .inl (aC 0, 520, .inl m_places)), (q6, .inl (aC 0, 520, .inl m_kinds)), (q7, .inl (aC 0, 520, .inl m_nexts)), (q8, .inl (aC 0, 520, .inl m_choices)), (q9, .inl (aC 0, 520, .inl m_leasts)), (q10, .inl (aC 0, 33, .inl m_captureBegins)), (q11, .inl (aC 0, 33, .inl m_captureLengths))] := by
  refine k_start (cc := cX5_looks) (maxL := 1) (ret := (some .int)) (own := RX5) (lv0 := [(0, .ref q0)]) (by decide) rfl rfl (Nat.le_of_ble_eq_true rfl) rfl (fun p e s m below meth c A ls X hP hD hS hl => ?_)
  obtain ⟨hx, hb, hr, hml, hts, hown, hlocks, hA, hE⟩ := id X
  unfold f_X5_looks at hu
  refine lv_aload_n hx hb dX5_looks_0 rfl (lv_at hl 0 rfl) ?_
  refine va_get (D := DD) (ci := 5) (v := .int m_looks) (C := RX5) (T := TX5) (N := 21) hx hb hts (fun w h => List.mem_cons_of_mem _ (inX5 w h)) hown hE.1 hP 0 rfl rfl 15 (by decide) (hts (.fieldLink "TextPatternsModel" 87 "TextPatternsModel" "looks" "I") (List.mem_cons_of_mem _ w_546)) (fun _ h9 => h9) rfl dX5_looks_1 ?_
  subst hu
  exact k_iret hx hb hr hlocks hP hD hS rfl rfl dX5_looks_4
def f_X5_first (m_found : Int32) (m_first : Int32) : Int32 := (if m_found = 0 then (-1) else m_first)
abbrev rm_X5_first : Room := { frames := 0, cells := 0, slots := 0, locals := 0 }
set_option maxHeartbeats 4000000 in
set_option maxRecDepth 100000 in
theorem c_X5_first (l : Launch) (DD : va_G) (aC : Nat → ClassId) (tt : Nat → Nat) (q0 q1 q2 q3 q4 q5 q6 q7 q8 q9 q10 q11 : Nat) (m_madeSize : Int32) (m_depth : Int32) (m_end : Int32) (m_captureCount : Int32) (m_looks : Int32) (m_trouble : Int32) (m_found : Int32) (m_first : Int32) (m_from : Int32) (m_ended : Int32) (m_rows : Nat → Int32) (m_sizes : Nat → Int32) (m_made : Nat → Int32) (m_begins : Nat → Int32) (m_places : Nat → Int32) (m_kinds : Nat → Int32) (m_nexts : Nat → Int32) (m_choices : Nat → Int32) (m_leasts : Nat → Int32) (m_captureBegins : Nat → Int32) (m_captureLengths : Nat → Int32) (u : Int32) (hu : u = f_X5_first m_found m_first) : kM l yX5_first wsX5_first rm_X5_first DD aC tt [.ref q0] [(q0, .inr (5, [.ref q1, .ref q2, .ref q3, .int m_madeSize, .ref q4, .ref q5, .ref q6, .ref q7, .ref q8, .ref q9, .int m_depth, .int m_end, .ref q10, .ref q11, .int m_captureCount, .int m_looks, .int m_trouble, .int m_found, .int m_first, .int m_from, .int m_ended])), (q1, .inl (aC 1, 5632, .inl m_rows)), (q2, .inl (aC 0, 3, .inl m_sizes)), (q3, .inl (aC 1, 8192, .inl m_made)), (q4, .inl (aC 0, 520, .inl m_begins)), (q5, .inl (aC 0, 520, .inl m_places)), (q6, .inl (aC 0, 520, .inl m_kinds)), (q7, .inl (aC 0, 520, .inl m_nexts)), (q8, .inl (aC 0, 520, .inl m_choices)), (q9, .inl (aC 0, 520, .inl m_leasts)), (q10, .inl (aC 0, 33, .inl m_captureBegins)), (q11, .inl (aC 0, 33, .inl m_captureLengths))] (some (.int u)) [(q0, .inr (5, [.ref q1, .ref q2, .ref q3, .int m_madeSize, .ref q4, .ref q5, .ref q6, .ref q7, .ref q8, .ref q9, .int m_depth, .int m_end, .ref q10, .ref q11, .int m_captureCount, .int m_looks, .int m_trouble, .int m_found, .int m_first, .int m_from, .int m_ended])), (q1, .inl (aC 1, 5632, .inl m_rows)), (q2, .inl (aC 0, 3, .inl m_sizes)), (q3, .inl (aC 1, 8192, .inl m_made)), (q4, .inl (aC 0, 520, .inl m_begins)), (q5, .inl (aC 0, 520, .inl m_places)), (q6, .inl (aC 0, 520, .inl m_kinds)), (q7, .inl (aC 0, 520, .inl m_nexts)), (q8, .inl (aC 0, 520, .inl m_choices)), (q9, .inl (aC 0, 520, .inl m_leasts)), (q10, .inl (aC 0, 33, .inl m_captureBegins)), (q11, .inl (aC 0, 33, .inl m_captureLengths))] := by
  refine k_start (cc := cX5_first) (maxL := 1) (ret := (some .int)) (own := RX5) (lv0 := [(0, .ref q0)]) (by decide) rfl rfl (Nat.le_of_ble_eq_true rfl) rfl (fun p e s m below meth c A ls X hP hD hS hl => ?_)
  obtain ⟨hx, hb, hr, hml, hts, hown, hlocks, hA, hE⟩ := id X
  unfold f_X5_first at hu
  refine lv_aload_n hx hb dX5_first_0 rfl (lv_at hl 0 rfl) ?_
  refine va_get (D := DD) (ci := 5) (v := .int m_found) (C := RX5) (T := TX5) (N := 21) hx hb hts (fun w h => List.mem_cons_of_mem _ (inX5 w h)) hown hE.1 hP 0 rfl rfl 17 (by decide) (hts (.fieldLink "TextPatternsModel" 55 "TextPatternsModel" "found" "Z") (List.mem_cons_of_mem _ w_548)) (fun _ h9 => h9) rfl dX5_first_1 ?_
  refine lv_if_eq (tgt := 14) hx hb dX5_first_4 (by decide) (fun c_1 => ?_) (fun c_1 => ?_)
  · replace hu := hu.trans (if_pos c_1)
    refine lv_iconst (v := (-1)) hx hb dX5_first_14 (by decide) ?_
    subst hu
    exact k_iret hx hb hr hlocks hP hD hS rfl rfl dX5_first_15
  · replace hu := hu.trans (if_neg c_1)
    refine lv_aload_n hx hb dX5_first_7 rfl (lv_at hl 0 rfl) ?_
    refine va_get (D := DD) (ci := 5) (v := .int m_first) (C := RX5) (T := TX5) (N := 21) hx hb hts (fun w h => List.mem_cons_of_mem _ (inX5 w h)) hown hE.1 hP 0 rfl rfl 18 (by decide) (hts (.fieldLink "TextPatternsModel" 158 "TextPatternsModel" "first" "I") (List.mem_cons_of_mem _ w_549)) (fun _ h9 => h9) rfl dX5_first_8 ?_
    refine lv_goto (tgt := 15) hx hb dX5_first_11 (by decide) ?_
    subst hu
    exact k_iret hx hb hr hlocks hP hD hS rfl rfl dX5_first_15
def f_X5_last (m_end : Int32) (m_found : Int32) : Int32 := (if m_found = 0 then (-1) else m_end)
abbrev rm_X5_last : Room := { frames := 0, cells := 0, slots := 0, locals := 0 }
set_option maxHeartbeats 4000000 in
set_option maxRecDepth 100000 in
theorem c_X5_last (l : Launch) (DD : va_G) (aC : Nat → ClassId) (tt : Nat → Nat) (q0 q1 q2 q3 q4 q5 q6 q7 q8 q9 q10 q11 : Nat) (m_madeSize : Int32) (m_depth : Int32) (m_end : Int32) (m_captureCount : Int32) (m_looks : Int32) (m_trouble : Int32) (m_found : Int32) (m_first : Int32) (m_from : Int32) (m_ended : Int32) (m_rows : Nat → Int32) (m_sizes : Nat → Int32) (m_made : Nat → Int32) (m_begins : Nat → Int32) (m_places : Nat → Int32) (m_kinds : Nat → Int32) (m_nexts : Nat → Int32) (m_choices : Nat → Int32) (m_leasts : Nat → Int32) (m_captureBegins : Nat → Int32) (m_captureLengths : Nat → Int32) (u : Int32) (hu : u = f_X5_last m_end m_found) : kM l yX5_last wsX5_last rm_X5_last DD aC tt [.ref q0] [(q0, .inr (5, [.ref q1, .ref q2, .ref q3, .int m_madeSize, .ref q4, .ref q5, .ref q6, .ref q7, .ref q8, .ref q9, .int m_depth, .int m_end, .ref q10, .ref q11, .int m_captureCount, .int m_looks, .int m_trouble, .int m_found, .int m_first, .int m_from, .int m_ended])), (q1, .inl (aC 1, 5632, .inl m_rows)), (q2, .inl (aC 0, 3, .inl m_sizes)), (q3, .inl (aC 1, 8192, .inl m_made)), (q4, .inl (aC 0, 520, .inl m_begins)), (q5, .inl (aC 0, 520, .inl m_places)), (q6, .inl (aC 0, 520, .inl m_kinds)), (q7, .inl (aC 0, 520, .inl m_nexts)), (q8, .inl (aC 0, 520, .inl m_choices)), (q9, .inl (aC 0, 520, .inl m_leasts)), (q10, .inl (aC 0, 33, .inl m_captureBegins)), (q11, .inl (aC 0, 33, .inl m_captureLengths))] (some (.int u)) [(q0, .inr (5, [.ref q1, .ref q2, .ref q3, .int m_madeSize, .ref q4, .ref q5, .ref q6, .ref q7, .ref q8, .ref q9, .int m_depth, .int m_end, .ref q10, .ref q11, .int m_captureCount, .int m_looks, .int m_trouble, .int m_found, .int m_first, .int m_from, .int m_ended])), (q1, .inl (aC 1, 5632, .inl m_rows)), (q2, .inl (aC 0, 3, .inl m_sizes)), (q3, .inl (aC 1, 8192, .inl m_made)), (q4, .inl (aC 0, 520, .inl m_begins)), (q5, .inl (aC 0, 520, .inl m_places)), (q6, .inl (aC 0, 520, .inl m_kinds)), (q7, .inl (aC 0, 520, .inl m_nexts)), (q8, .inl (aC 0, 520, .inl m_choices)), (q9, .inl (aC 0, 520, .inl m_leasts)), (q10, .inl (aC 0, 33, .inl m_captureBegins)), (q11, .inl (aC 0, 33, .inl m_captureLengths))] := by
  refine k_start (cc := cX5_last) (maxL := 1) (ret := (some .int)) (own := RX5) (lv0 := [(0, .ref q0)]) (by decide) rfl rfl (Nat.le_of_ble_eq_true rfl) rfl (fun p e s m below meth c A ls X hP hD hS hl => ?_)
  obtain ⟨hx, hb, hr, hml, hts, hown, hlocks, hA, hE⟩ := id X
  unfold f_X5_last at hu
  refine lv_aload_n hx hb dX5_last_0 rfl (lv_at hl 0 rfl) ?_
  refine va_get (D := DD) (ci := 5) (v := .int m_found) (C := RX5) (T := TX5) (N := 21) hx hb hts (fun w h => List.mem_cons_of_mem _ (inX5 w h)) hown hE.1 hP 0 rfl rfl 17 (by decide) (hts (.fieldLink "TextPatternsModel" 55 "TextPatternsModel" "found" "Z") (List.mem_cons_of_mem _ w_548)) (fun _ h9 => h9) rfl dX5_last_1 ?_
  refine lv_if_eq (tgt := 14) hx hb dX5_last_4 (by decide) (fun c_1 => ?_) (fun c_1 => ?_)
  · replace hu := hu.trans (if_pos c_1)
    refine lv_iconst (v := (-1)) hx hb dX5_last_14 (by decide) ?_
    subst hu
    exact k_iret hx hb hr hlocks hP hD hS rfl rfl dX5_last_15
  · replace hu := hu.trans (if_neg c_1)
    refine lv_aload_n hx hb dX5_last_7 rfl (lv_at hl 0 rfl) ?_
    refine va_get (D := DD) (ci := 5) (v := .int m_end) (C := RX5) (T := TX5) (N := 21) hx hb hts (fun w h => List.mem_cons_of_mem _ (inX5 w h)) hown hE.1 hP 0 rfl rfl 11 (by decide) (hts (.fieldLink "TextPatternsModel" 146 "TextPatternsModel" "end" "I") (List.mem_cons_of_mem _ w_542)) (fun _ h9 => h9) rfl dX5_last_8 ?_
    refine lv_goto (tgt := 15) hx hb dX5_last_11 (by decide) ?_
    subst hu
    exact k_iret hx hb hr hlocks hP hD hS rfl rfl dX5_last_15
def f_X5_captures (m_captureCount : Int32) (m_found : Int32) : Int32 := (if m_found = 0 then (-1) else m_captureCount)
abbrev rm_X5_captures : Room := { frames := 0, cells := 0, slots := 0, locals := 0 }
set_option maxHeartbeats 4000000 in
set_option maxRecDepth 100000 in
theorem c_X5_captures (l : Launch) (DD : va_G) (aC : Nat → ClassId) (tt : Nat → Nat) (q0 q1 q2 q3 q4 q5 q6 q7 q8 q9 q10 q11 : Nat) (m_madeSize : Int32) (m_depth : Int32) (m_end : Int32) (m_captureCount : Int32) (m_looks : Int32) (m_trouble : Int32) (m_found : Int32) (m_first : Int32) (m_from : Int32) (m_ended : Int32) (m_rows : Nat → Int32) (m_sizes : Nat → Int32) (m_made : Nat → Int32) (m_begins : Nat → Int32) (m_places : Nat → Int32) (m_kinds : Nat → Int32) (m_nexts : Nat → Int32) (m_choices : Nat → Int32) (m_leasts : Nat → Int32) (m_captureBegins : Nat → Int32) (m_captureLengths : Nat → Int32) (u : Int32) (hu : u = f_X5_captures m_captureCount m_found) : kM l yX5_captures wsX5_captures rm_X5_captures DD aC tt [.ref q0] [(q0, .inr (5, [.ref q1, .ref q2, .ref q3, .int m_madeSize, .ref q4, .ref q5, .ref q6, .ref q7, .ref q8, .ref q9, .int m_depth, .int m_end, .ref q10, .ref q11, .int m_captureCount, .int m_looks, .int m_trouble, .int m_found, .int m_first, .int m_from, .int m_ended])), (q1, .inl (aC 1, 5632, .inl m_rows)), (q2, .inl (aC 0, 3, .inl m_sizes)), (q3, .inl (aC 1, 8192, .inl m_made)), (q4, .inl (aC 0, 520, .inl m_begins)), (q5, .inl (aC 0, 520, .inl m_places)), (q6, .inl (aC 0, 520, .inl m_kinds)), (q7, .inl (aC 0, 520, .inl m_nexts)), (q8, .inl (aC 0, 520, .inl m_choices)), (q9, .inl (aC 0, 520, .inl m_leasts)), (q10, .inl (aC 0, 33, .inl m_captureBegins)), (q11, .inl (aC 0, 33, .inl m_captureLengths))] (some (.int u)) [(q0, .inr (5, [.ref q1, .ref q2, .ref q3, .int m_madeSize, .ref q4, .ref q5, .ref q6, .ref q7, .ref q8, .ref q9, .int m_depth, .int m_end, .ref q10, .ref q11, .int m_captureCount, .int m_looks, .int m_trouble, .int m_found, .int m_first, .int m_from, .int m_ended])), (q1, .inl (aC 1, 5632, .inl m_rows)), (q2, .inl (aC 0, 3, .inl m_sizes)), (q3, .inl (aC 1, 8192, .inl m_made)), (q4, .inl (aC 0, 520, .inl m_begins)), (q5, .inl (aC 0, 520, .inl m_places)), (q6, .inl (aC 0, 520, .inl m_kinds)), (q7, .inl (aC 0, 520, .inl m_nexts)), (q8, .inl (aC 0, 520, .inl m_choices)), (q9, .inl (aC 0, 520, .inl m_leasts)), (q10, .inl (aC 0, 33, .inl m_captureBegins)), (q11, .inl (aC 0, 33, .inl m_captureLengths))] := by
  refine k_start (cc := cX5_captures) (maxL := 1) (ret := (some .int)) (own := RX5) (lv0 := [(0, .ref q0)]) (by decide) rfl rfl (Nat.le_of_ble_eq_true rfl) rfl (fun p e s m below meth c A ls X hP hD hS hl => ?_)
  obtain ⟨hx, hb, hr, hml, hts, hown, hlocks, hA, hE⟩ := id X
  unfold f_X5_captures at hu
  refine lv_aload_n hx hb dX5_captures_0 rfl (lv_at hl 0 rfl) ?_
  refine va_get (D := DD) (ci := 5) (v := .int m_found) (C := RX5) (T := TX5) (N := 21) hx hb hts (fun w h => List.mem_cons_of_mem _ (inX5 w h)) hown hE.1 hP 0 rfl rfl 17 (by decide) (hts (.fieldLink "TextPatternsModel" 55 "TextPatternsModel" "found" "Z") (List.mem_cons_of_mem _ w_548)) (fun _ h9 => h9) rfl dX5_captures_1 ?_
  refine lv_if_eq (tgt := 14) hx hb dX5_captures_4 (by decide) (fun c_1 => ?_) (fun c_1 => ?_)
  · replace hu := hu.trans (if_pos c_1)
    refine lv_iconst (v := (-1)) hx hb dX5_captures_14 (by decide) ?_
    subst hu
    exact k_iret hx hb hr hlocks hP hD hS rfl rfl dX5_captures_15
  · replace hu := hu.trans (if_neg c_1)
    refine lv_aload_n hx hb dX5_captures_7 rfl (lv_at hl 0 rfl) ?_
    refine va_get (D := DD) (ci := 5) (v := .int m_captureCount) (C := RX5) (T := TX5) (N := 21) hx hb hts (fun w h => List.mem_cons_of_mem _ (inX5 w h)) hown hE.1 hP 0 rfl rfl 14 (by decide) (hts (.fieldLink "TextPatternsModel" 101 "TextPatternsModel" "captureCount" "I") (List.mem_cons_of_mem _ w_545)) (fun _ h9 => h9) rfl dX5_captures_8 ?_
    refine lv_goto (tgt := 15) hx hb dX5_captures_11 (by decide) ?_
    subst hu
    exact k_iret hx hb hr hlocks hP hD hS rfl rfl dX5_captures_15
def f_X5_capture (m_captureCount : Int32) (m_found : Int32) (m_captureBegins : Nat → Int32) (m_captureLengths : Nat → Int32) (a1 : Int32) (a2 : Int32) : Int32 := (if m_found = 0 then (-1) else (if a1 < 0 then (-1) else (if m_captureCount ≤ a1 then (-1) else (if a2 < 0 then (-1) else (if a2 ≤ 1 then (if a2 = 0 then (m_captureBegins a1.toNatClampNeg) else (m_captureLengths a1.toNatClampNeg)) else (-1))))))
abbrev rm_X5_capture : Room := { frames := 0, cells := 0, slots := 0, locals := 0 }
set_option maxHeartbeats 4000000 in
set_option maxRecDepth 100000 in
theorem c_X5_capture (l : Launch) (DD : va_G) (aC : Nat → ClassId) (tt : Nat → Nat) (q0 q1 q2 q3 q4 q5 q6 q7 q8 q9 q10 q11 : Nat) (m_madeSize : Int32) (m_depth : Int32) (m_end : Int32) (m_captureCount : Int32) (m_looks : Int32) (m_trouble : Int32) (m_found : Int32) (m_first : Int32) (m_from : Int32) (m_ended : Int32) (m_rows : Nat → Int32) (m_sizes : Nat → Int32) (m_made : Nat → Int32) (m_begins : Nat → Int32) (m_places : Nat → Int32) (m_kinds : Nat → Int32) (m_nexts : Nat → Int32) (m_choices : Nat → Int32) (m_leasts : Nat → Int32) (m_captureBegins : Nat → Int32) (m_captureLengths : Nat → Int32) (a1 : Int32) (a2 : Int32) (hcc : m_captureCount.toInt ≤ 33) (u : Int32) (hu : u = f_X5_capture m_captureCount m_found m_captureBegins m_captureLengths a1 a2) : kM l yX5_capture wsX5_capture rm_X5_capture DD aC tt [.ref q0, .int a1, .int a2] [(q0, .inr (5, [.ref q1, .ref q2, .ref q3, .int m_madeSize, .ref q4, .ref q5, .ref q6, .ref q7, .ref q8, .ref q9, .int m_depth, .int m_end, .ref q10, .ref q11, .int m_captureCount, .int m_looks, .int m_trouble, .int m_found, .int m_first, .int m_from, .int m_ended])), (q1, .inl (aC 1, 5632, .inl m_rows)), (q2, .inl (aC 0, 3, .inl m_sizes)), (q3, .inl (aC 1, 8192, .inl m_made)), (q4, .inl (aC 0, 520, .inl m_begins)), (q5, .inl (aC 0, 520, .inl m_places)), (q6, .inl (aC 0, 520, .inl m_kinds)), (q7, .inl (aC 0, 520, .inl m_nexts)), (q8, .inl (aC 0, 520, .inl m_choices)), (q9, .inl (aC 0, 520, .inl m_leasts)), (q10, .inl (aC 0, 33, .inl m_captureBegins)), (q11, .inl (aC 0, 33, .inl m_captureLengths))] (some (.int u)) [(q0, .inr (5, [.ref q1, .ref q2, .ref q3, .int m_madeSize, .ref q4, .ref q5, .ref q6, .ref q7, .ref q8, .ref q9, .int m_depth, .int m_end, .ref q10, .ref q11, .int m_captureCount, .int m_looks, .int m_trouble, .int m_found, .int m_first, .int m_from, .int m_ended])), (q1, .inl (aC 1, 5632, .inl m_rows)), (q2, .inl (aC 0, 3, .inl m_sizes)), (q3, .inl (aC 1, 8192, .inl m_made)), (q4, .inl (aC 0, 520, .inl m_begins)), (q5, .inl (aC 0, 520, .inl m_places)), (q6, .inl (aC 0, 520, .inl m_kinds)), (q7, .inl (aC 0, 520, .inl m_nexts)), (q8, .inl (aC 0, 520, .inl m_choices)), (q9, .inl (aC 0, 520, .inl m_leasts)), (q10, .inl (aC 0, 33, .inl m_captureBegins)), (q11, .inl (aC 0, 33, .inl m_captureLengths))] := by
  refine k_start (cc := cX5_capture) (maxL := 3) (ret := (some .int)) (own := RX5) (lv0 := [(0, .ref q0), (1, .int a1), (2, .int a2)]) (by decide) rfl rfl (Nat.le_of_ble_eq_true rfl) rfl (fun p e s m below meth c A ls X hP hD hS hl => ?_)
  obtain ⟨hx, hb, hr, hml, hts, hown, hlocks, hA, hE⟩ := id X
  unfold f_X5_capture at hu
  refine lv_aload_n hx hb dX5_capture_0 rfl (lv_at hl 0 rfl) ?_
  refine va_get (D := DD) (ci := 5) (v := .int m_found) (C := RX5) (T := TX5) (N := 21) hx hb hts (fun w h => List.mem_cons_of_mem _ (inX5 w h)) hown hE.1 hP 0 rfl rfl 17 (by decide) (hts (.fieldLink "TextPatternsModel" 55 "TextPatternsModel" "found" "Z") (List.mem_cons_of_mem _ w_548)) (fun _ h9 => h9) rfl dX5_capture_1 ?_
  refine lv_if_eq (tgt := 28) hx hb dX5_capture_4 (by decide) (fun c_1 => ?_) (fun c_1 => ?_)
  · replace hu := hu.trans (if_pos c_1)
    refine lv_iconst (v := (-1)) hx hb dX5_capture_28 (by decide) ?_
    subst hu
    exact k_iret hx hb hr hlocks hP hD hS rfl rfl dX5_capture_29
  · replace hu := hu.trans (if_neg c_1)
    refine lv_iload_n hx hb dX5_capture_7 rfl (lv_at hl 1 rfl) ?_
    refine lv_if_lt (tgt := 28) hx hb dX5_capture_8 (by decide) (fun c_2 => ?_) (fun c_2 => ?_)
    · replace hu := hu.trans (if_pos c_2)
      refine lv_iconst (v := (-1)) hx hb dX5_capture_28 (by decide) ?_
      subst hu
      exact k_iret hx hb hr hlocks hP hD hS rfl rfl dX5_capture_29
    · replace hu := hu.trans (if_neg c_2)
      refine lv_iload_n hx hb dX5_capture_11 rfl (lv_at hl 1 rfl) ?_
      refine lv_aload_n hx hb dX5_capture_12 rfl (lv_at hl 0 rfl) ?_
      refine va_get (D := DD) (ci := 5) (v := .int m_captureCount) (C := RX5) (T := TX5) (N := 21) hx hb hts (fun w h => List.mem_cons_of_mem _ (inX5 w h)) hown hE.1 hP 0 rfl rfl 14 (by decide) (hts (.fieldLink "TextPatternsModel" 101 "TextPatternsModel" "captureCount" "I") (List.mem_cons_of_mem _ w_545)) (fun _ h9 => h9) rfl dX5_capture_13 ?_
      refine lv_icmp_ge (tgt := 28) hx hb dX5_capture_16 (by decide) (fun c_3 => ?_) (fun c_3 => ?_)
      · replace hu := hu.trans (if_pos c_3)
        refine lv_iconst (v := (-1)) hx hb dX5_capture_28 (by decide) ?_
        subst hu
        exact k_iret hx hb hr hlocks hP hD hS rfl rfl dX5_capture_29
      · replace hu := hu.trans (if_neg c_3)
        refine lv_iload_n hx hb dX5_capture_19 rfl (lv_at hl 2 rfl) ?_
        refine lv_if_lt (tgt := 28) hx hb dX5_capture_20 (by decide) (fun c_4 => ?_) (fun c_4 => ?_)
        · replace hu := hu.trans (if_pos c_4)
          refine lv_iconst (v := (-1)) hx hb dX5_capture_28 (by decide) ?_
          subst hu
          exact k_iret hx hb hr hlocks hP hD hS rfl rfl dX5_capture_29
        · replace hu := hu.trans (if_neg c_4)
          refine lv_iload_n hx hb dX5_capture_23 rfl (lv_at hl 2 rfl) ?_
          refine lv_iconst (v := 1) hx hb dX5_capture_24 (by decide) ?_
          refine lv_icmp_le (tgt := 30) hx hb dX5_capture_25 (by decide) (fun c_5 => ?_) (fun c_5 => ?_)
          · replace hu := hu.trans (if_pos c_5)
            refine lv_iload_n hx hb dX5_capture_30 rfl (lv_at hl 2 rfl) ?_
            refine lv_if_ne (tgt := 43) hx hb dX5_capture_31 (by decide) (fun c_6 => ?_) (fun c_6 => ?_)
            · replace hu := hu.trans (if_neg c_6)
              refine lv_aload_n hx hb dX5_capture_43 rfl (lv_at hl 0 rfl) ?_
              refine va_get (D := DD) (ci := 5) (v := .ref q11) (C := RX5) (T := TX5) (N := 21) hx hb hts (fun w h => List.mem_cons_of_mem _ (inX5 w h)) hown hE.1 hP 0 rfl rfl 13 (by decide) (hts (.fieldLink "TextPatternsModel" 41 "TextPatternsModel" "captureLengths" "[I") (List.mem_cons_of_mem _ w_544)) (fun _ h9 => h9) rfl dX5_capture_44 ?_
              refine lv_iload_n hx hb dX5_capture_47 rfl (lv_at hl 1 rfl) ?_
              refine va_iald hx hb hE.1 hP 11 0 rfl rfl (kb_in (kb_nlt0 c_2) (by have i1 := kx_ne c_1; have i2 := kx_nlt c_2; have i3 := kx_nle c_3; have i4 := kx_nlt c_4; have i5 := Int32.le_iff_toInt_le.mp c_5; have i6 := kx_ne c_6; have i7 := kx_rng (a1); have i8 := kx_rng (m_found); have i9 : (0 : Int32).toInt = 0 := (by decide); have i10 := kx_rng (m_captureCount); have i11 := kx_rng (a2); have i12 : (1 : Int32).toInt = 1 := (by decide); omega)) dX5_capture_48 ?_
              subst hu
              exact k_iret hx hb hr hlocks hP hD hS rfl rfl dX5_capture_49
            · replace hu := hu.trans (if_pos c_6)
              refine lv_aload_n hx hb dX5_capture_34 rfl (lv_at hl 0 rfl) ?_
              refine va_get (D := DD) (ci := 5) (v := .ref q10) (C := RX5) (T := TX5) (N := 21) hx hb hts (fun w h => List.mem_cons_of_mem _ (inX5 w h)) hown hE.1 hP 0 rfl rfl 12 (by decide) (hts (.fieldLink "TextPatternsModel" 38 "TextPatternsModel" "captureBegins" "[I") (List.mem_cons_of_mem _ w_543)) (fun _ h9 => h9) rfl dX5_capture_35 ?_
              refine lv_iload_n hx hb dX5_capture_38 rfl (lv_at hl 1 rfl) ?_
              refine va_iald hx hb hE.1 hP 10 0 rfl rfl (kb_in (kb_nlt0 c_2) (by have i1 := kx_ne c_1; have i2 := kx_nlt c_2; have i3 := kx_nle c_3; have i4 := kx_nlt c_4; have i5 := Int32.le_iff_toInt_le.mp c_5; have i6 := congrArg Int32.toInt c_6; have i7 := kx_rng (a1); have i8 := kx_rng (m_found); have i9 : (0 : Int32).toInt = 0 := (by decide); have i10 := kx_rng (m_captureCount); have i11 := kx_rng (a2); have i12 : (1 : Int32).toInt = 1 := (by decide); omega)) dX5_capture_39 ?_
              refine lv_goto (tgt := 49) hx hb dX5_capture_40 (by decide) ?_
              subst hu
              exact k_iret hx hb hr hlocks hP hD hS rfl rfl dX5_capture_49
          · replace hu := hu.trans (if_neg c_5)
            refine lv_iconst (v := (-1)) hx hb dX5_capture_28 (by decide) ?_
            subst hu
            exact k_iret hx hb hr hlocks hP hD hS rfl rfl dX5_capture_29
def f_X5_size (m_madeSize : Int32) : Int32 := m_madeSize
abbrev rm_X5_size : Room := { frames := 0, cells := 0, slots := 0, locals := 0 }
set_option maxHeartbeats 4000000 in
set_option maxRecDepth 100000 in
theorem c_X5_size (l : Launch) (DD : va_G) (aC : Nat → ClassId) (tt : Nat → Nat) (q0 q1 q2 q3 q4 q5 q6 q7 q8 q9 q10 q11 : Nat) (m_madeSize : Int32) (m_depth : Int32) (m_end : Int32) (m_captureCount : Int32) (m_looks : Int32) (m_trouble : Int32) (m_found : Int32) (m_first : Int32) (m_from : Int32) (m_ended : Int32) (m_rows : Nat → Int32) (m_sizes : Nat → Int32) (m_made : Nat → Int32) (m_begins : Nat → Int32) (m_places : Nat → Int32) (m_kinds : Nat → Int32) (m_nexts : Nat → Int32) (m_choices : Nat → Int32) (m_leasts : Nat → Int32) (m_captureBegins : Nat → Int32) (m_captureLengths : Nat → Int32) (u : Int32) (hu : u = f_X5_size m_madeSize) : kM l yX5_size wsX5_size rm_X5_size DD aC tt [.ref q0] [(q0, .inr (5, [.ref q1, .ref q2, .ref q3, .int m_madeSize, .ref q4, .ref q5, .ref q6, .ref q7, .ref q8, .ref q9, .int m_depth, .int m_end, .ref q10, .ref q11, .int m_captureCount, .int m_looks, .int m_trouble, .int m_found, .int m_first, .int m_from, .int m_ended])), (q1, .inl (aC 1, 5632, .inl m_rows)), (q2, .inl (aC 0, 3, .inl m_sizes)), (q3, .inl (aC 1, 8192, .inl m_made)), (q4, .inl (aC 0, 520, .inl m_begins)), (q5, .inl (aC 0, 520, .inl m_places)), (q6, .inl (aC 0, 520, .inl m_kinds)), (q7, .inl (aC 0, 520, .inl m_nexts)), (q8, .inl (aC 0, 520, .inl m_choices)), (q9, .inl (aC 0, 520, .inl m_leasts)), (q10, .inl (aC 0, 33, .inl m_captureBegins)), (q11, .inl (aC 0, 33, .inl m_captureLengths))] (some (.int u)) [(q0, .inr (5, [.ref q1, .ref q2, .ref q3, .int m_madeSize, .ref q4, .ref q5, .ref q6, .ref q7, .ref q8, .ref q9, .int m_depth, .int m_end, .ref q10, .ref q11, .int m_captureCount, .int m_looks, .int m_trouble, .int m_found, .int m_first, .int m_from, .int m_ended])), (q1, .inl (aC 1, 5632, .inl m_rows)), (q2, .inl (aC 0, 3, .inl m_sizes)), (q3, .inl (aC 1, 8192, .inl m_made)), (q4, .inl (aC 0, 520, .inl m_begins)), (q5, .inl (aC 0, 520, .inl m_places)), (q6, .inl (aC 0, 520, .inl m_kinds)), (q7, .inl (aC 0, 520, .inl m_nexts)), (q8, .inl (aC 0, 520, .inl m_choices)), (q9, .inl (aC 0, 520, .inl m_leasts)), (q10, .inl (aC 0, 33, .inl m_captureBegins)), (q11, .inl (aC 0, 33, .inl m_captureLengths))] := by
  refine k_start (cc := cX5_size) (maxL := 1) (ret := (some .int)) (own := RX5) (lv0 := [(0, .ref q0)]) (by decide) rfl rfl (Nat.le_of_ble_eq_true rfl) rfl (fun p e s m below meth c A ls X hP hD hS hl => ?_)
  obtain ⟨hx, hb, hr, hml, hts, hown, hlocks, hA, hE⟩ := id X
  unfold f_X5_size at hu
  refine lv_aload_n hx hb dX5_size_0 rfl (lv_at hl 0 rfl) ?_
  refine va_get (D := DD) (ci := 5) (v := .int m_madeSize) (C := RX5) (T := TX5) (N := 21) hx hb hts (fun w h => List.mem_cons_of_mem _ (inX5 w h)) hown hE.1 hP 0 rfl rfl 3 (by decide) (hts (.fieldLink "TextPatternsModel" 174 "TextPatternsModel" "madeSize" "I") (List.mem_cons_of_mem _ w_534)) (fun _ h9 => h9) rfl dX5_size_1 ?_
  subst hu
  exact k_iret hx hb hr hlocks hP hD hS rfl rfl dX5_size_4
def f_X5_result (m_madeSize : Int32) (m_made : Nat → Int32) (a1 : Int32) : Int32 := (if a1 < 0 then (-1) else (if m_madeSize ≤ a1 then (-1) else ((m_made a1.toNatClampNeg) &&& 255)))
abbrev rm_X5_result : Room := { frames := 0, cells := 0, slots := 0, locals := 0 }
set_option maxHeartbeats 4000000 in
set_option maxRecDepth 100000 in
theorem c_X5_result (l : Launch) (DD : va_G) (aC : Nat → ClassId) (tt : Nat → Nat) (q0 q1 q2 q3 q4 q5 q6 q7 q8 q9 q10 q11 : Nat) (m_madeSize : Int32) (m_depth : Int32) (m_end : Int32) (m_captureCount : Int32) (m_looks : Int32) (m_trouble : Int32) (m_found : Int32) (m_first : Int32) (m_from : Int32) (m_ended : Int32) (m_rows : Nat → Int32) (m_sizes : Nat → Int32) (m_made : Nat → Int32) (m_begins : Nat → Int32) (m_places : Nat → Int32) (m_kinds : Nat → Int32) (m_nexts : Nat → Int32) (m_choices : Nat → Int32) (m_leasts : Nat → Int32) (m_captureBegins : Nat → Int32) (m_captureLengths : Nat → Int32) (a1 : Int32) (hms : m_madeSize.toInt ≤ 8192) (u : Int32) (hu : u = f_X5_result m_madeSize m_made a1) : kM l yX5_result wsX5_result rm_X5_result DD aC tt [.ref q0, .int a1] [(q0, .inr (5, [.ref q1, .ref q2, .ref q3, .int m_madeSize, .ref q4, .ref q5, .ref q6, .ref q7, .ref q8, .ref q9, .int m_depth, .int m_end, .ref q10, .ref q11, .int m_captureCount, .int m_looks, .int m_trouble, .int m_found, .int m_first, .int m_from, .int m_ended])), (q1, .inl (aC 1, 5632, .inl m_rows)), (q2, .inl (aC 0, 3, .inl m_sizes)), (q3, .inl (aC 1, 8192, .inl m_made)), (q4, .inl (aC 0, 520, .inl m_begins)), (q5, .inl (aC 0, 520, .inl m_places)), (q6, .inl (aC 0, 520, .inl m_kinds)), (q7, .inl (aC 0, 520, .inl m_nexts)), (q8, .inl (aC 0, 520, .inl m_choices)), (q9, .inl (aC 0, 520, .inl m_leasts)), (q10, .inl (aC 0, 33, .inl m_captureBegins)), (q11, .inl (aC 0, 33, .inl m_captureLengths))] (some (.int u)) [(q0, .inr (5, [.ref q1, .ref q2, .ref q3, .int m_madeSize, .ref q4, .ref q5, .ref q6, .ref q7, .ref q8, .ref q9, .int m_depth, .int m_end, .ref q10, .ref q11, .int m_captureCount, .int m_looks, .int m_trouble, .int m_found, .int m_first, .int m_from, .int m_ended])), (q1, .inl (aC 1, 5632, .inl m_rows)), (q2, .inl (aC 0, 3, .inl m_sizes)), (q3, .inl (aC 1, 8192, .inl m_made)), (q4, .inl (aC 0, 520, .inl m_begins)), (q5, .inl (aC 0, 520, .inl m_places)), (q6, .inl (aC 0, 520, .inl m_kinds)), (q7, .inl (aC 0, 520, .inl m_nexts)), (q8, .inl (aC 0, 520, .inl m_choices)), (q9, .inl (aC 0, 520, .inl m_leasts)), (q10, .inl (aC 0, 33, .inl m_captureBegins)), (q11, .inl (aC 0, 33, .inl m_captureLengths))] := by
  refine k_start (cc := cX5_result) (maxL := 2) (ret := (some .int)) (own := RX5) (lv0 := [(0, .ref q0), (1, .int a1)]) (by decide) rfl rfl (Nat.le_of_ble_eq_true rfl) rfl (fun p e s m below meth c A ls X hP hD hS hl => ?_)
  obtain ⟨hx, hb, hr, hml, hts, hown, hlocks, hA, hE⟩ := id X
  unfold f_X5_result at hu
  refine lv_iload_n hx hb dX5_result_0 rfl (lv_at hl 1 rfl) ?_
  refine lv_if_lt (tgt := 25) hx hb dX5_result_1 (by decide) (fun c_1 => ?_) (fun c_1 => ?_)
  · replace hu := hu.trans (if_pos c_1)
    refine lv_iconst (v := (-1)) hx hb dX5_result_25 (by decide) ?_
    subst hu
    exact k_iret hx hb hr hlocks hP hD hS rfl rfl dX5_result_26
  · replace hu := hu.trans (if_neg c_1)
    refine lv_iload_n hx hb dX5_result_4 rfl (lv_at hl 1 rfl) ?_
    refine lv_aload_n hx hb dX5_result_5 rfl (lv_at hl 0 rfl) ?_
    refine va_get (D := DD) (ci := 5) (v := .int m_madeSize) (C := RX5) (T := TX5) (N := 21) hx hb hts (fun w h => List.mem_cons_of_mem _ (inX5 w h)) hown hE.1 hP 0 rfl rfl 3 (by decide) (hts (.fieldLink "TextPatternsModel" 174 "TextPatternsModel" "madeSize" "I") (List.mem_cons_of_mem _ w_534)) (fun _ h9 => h9) rfl dX5_result_6 ?_
    refine lv_icmp_ge (tgt := 25) hx hb dX5_result_9 (by decide) (fun c_2 => ?_) (fun c_2 => ?_)
    · replace hu := hu.trans (if_pos c_2)
      refine lv_iconst (v := (-1)) hx hb dX5_result_25 (by decide) ?_
      subst hu
      exact k_iret hx hb hr hlocks hP hD hS rfl rfl dX5_result_26
    · replace hu := hu.trans (if_neg c_2)
      refine lv_aload_n hx hb dX5_result_12 rfl (lv_at hl 0 rfl) ?_
      refine va_get (D := DD) (ci := 5) (v := .ref q3) (C := RX5) (T := TX5) (N := 21) hx hb hts (fun w h => List.mem_cons_of_mem _ (inX5 w h)) hown hE.1 hP 0 rfl rfl 2 (by decide) (hts (.fieldLink "TextPatternsModel" 17 "TextPatternsModel" "made" "[B") (List.mem_cons_of_mem _ w_533)) (fun _ h9 => h9) rfl dX5_result_13 ?_
      refine lv_iload_n hx hb dX5_result_16 rfl (lv_at hl 1 rfl) ?_
      refine va_bald hx hb hE.1 hP 3 1 rfl rfl (kb_in (kb_nlt0 c_1) (by have i1 := kx_nlt c_1; have i2 := kx_nle c_2; have i3 := kx_rng (a1); have i4 : (0 : Int32).toInt = 0 := (by decide); have i5 := kx_rng (m_madeSize); omega)) dX5_result_17 ?_
      refine lv_sipush (v := 255) hx hb dX5_result_18 (by decide) ?_
      refine lv_iand hx hb dX5_result_21 ?_
      refine lv_goto (tgt := 26) hx hb dX5_result_22 (by decide) ?_
      subst hu
      exact k_iret hx hb hr hlocks hP hD hS rfl rfl dX5_result_26
def f_X5_single_1 (m_rows : Nat → Int32) (m_sizes : Nat → Int32) (a1 : Int32) : Int32 := (if a1 < 0 then (-1) else (if a1 ≤ 255 then (if (m_sizes 1) = 0 then (-2) else (kb (f_X5_behindSingle m_rows m_sizes 0) (fun z_4 => (if z_4 = (m_sizes 1) then (kb (f_X5_singleHas m_rows m_sizes 0 a1) (fun z_6 => (if z_6 = 0 then 0 else 1))) else (-2))))) else (-1)))
abbrev rm_X5_single_1 : Room := { frames := 5, cells := 0, slots := 0, locals := 114 }
set_option maxHeartbeats 4000000 in
set_option maxRecDepth 100000 in
theorem c_X5_single_1 (l : Launch) (DD : va_G) (aC : Nat → ClassId) (tt : Nat → Nat) (q0 q1 q2 q3 q4 q5 q6 q7 q8 q9 q10 q11 : Nat) (m_madeSize : Int32) (m_depth : Int32) (m_end : Int32) (m_captureCount : Int32) (m_looks : Int32) (m_trouble : Int32) (m_found : Int32) (m_first : Int32) (m_from : Int32) (m_ended : Int32) (m_rows : Nat → Int32) (m_sizes : Nat → Int32) (m_made : Nat → Int32) (m_begins : Nat → Int32) (m_places : Nat → Int32) (m_kinds : Nat → Int32) (m_nexts : Nat → Int32) (m_choices : Nat → Int32) (m_leasts : Nat → Int32) (m_captureBegins : Nat → Int32) (m_captureLengths : Nat → Int32) (a1 : Int32) (hp_0 : (m_sizes 1).toInt ≤ 512) (u : Int32) (hu : u = f_X5_single_1 m_rows m_sizes a1) : kM l yX5_single_1 wsX5_single_1 rm_X5_single_1 DD aC tt [.ref q0, .int a1] [(q0, .inr (5, [.ref q1, .ref q2, .ref q3, .int m_madeSize, .ref q4, .ref q5, .ref q6, .ref q7, .ref q8, .ref q9, .int m_depth, .int m_end, .ref q10, .ref q11, .int m_captureCount, .int m_looks, .int m_trouble, .int m_found, .int m_first, .int m_from, .int m_ended])), (q1, .inl (aC 1, 5632, .inl m_rows)), (q2, .inl (aC 0, 3, .inl m_sizes)), (q3, .inl (aC 1, 8192, .inl m_made)), (q4, .inl (aC 0, 520, .inl m_begins)), (q5, .inl (aC 0, 520, .inl m_places)), (q6, .inl (aC 0, 520, .inl m_kinds)), (q7, .inl (aC 0, 520, .inl m_nexts)), (q8, .inl (aC 0, 520, .inl m_choices)), (q9, .inl (aC 0, 520, .inl m_leasts)), (q10, .inl (aC 0, 33, .inl m_captureBegins)), (q11, .inl (aC 0, 33, .inl m_captureLengths))] (some (.int u)) [(q0, .inr (5, [.ref q1, .ref q2, .ref q3, .int m_madeSize, .ref q4, .ref q5, .ref q6, .ref q7, .ref q8, .ref q9, .int m_depth, .int m_end, .ref q10, .ref q11, .int m_captureCount, .int m_looks, .int m_trouble, .int m_found, .int m_first, .int m_from, .int m_ended])), (q1, .inl (aC 1, 5632, .inl m_rows)), (q2, .inl (aC 0, 3, .inl m_sizes)), (q3, .inl (aC 1, 8192, .inl m_made)), (q4, .inl (aC 0, 520, .inl m_begins)), (q5, .inl (aC 0, 520, .inl m_places)), (q6, .inl (aC 0, 520, .inl m_kinds)), (q7, .inl (aC 0, 520, .inl m_nexts)), (q8, .inl (aC 0, 520, .inl m_choices)), (q9, .inl (aC 0, 520, .inl m_leasts)), (q10, .inl (aC 0, 33, .inl m_captureBegins)), (q11, .inl (aC 0, 33, .inl m_captureLengths))] := by
  refine k_start (cc := cX5_single_1) (maxL := 2) (ret := (some .int)) (own := RX5) (lv0 := [(0, .ref q0), (1, .int a1)]) (by decide) rfl rfl (Nat.le_of_ble_eq_true rfl) rfl (fun p e s m below meth c A ls X hP hD hS hl => ?_)
  obtain ⟨hx, hb, hr, hml, hts, hown, hlocks, hA, hE⟩ := id X
  unfold f_X5_single_1 at hu
  refine lv_iload_n hx hb dX5_single_1_0 rfl (lv_at hl 1 rfl) ?_
  refine lv_if_lt (tgt := 11) hx hb dX5_single_1_1 (by decide) (fun c_1 => ?_) (fun c_1 => ?_)
  · replace hu := hu.trans (if_pos c_1)
    refine lv_iconst (v := (-1)) hx hb dX5_single_1_11 (by decide) ?_
    subst hu
    exact k_iret hx hb hr hlocks hP hD hS rfl rfl dX5_single_1_12
  · replace hu := hu.trans (if_neg c_1)
    refine lv_iload_n hx hb dX5_single_1_4 rfl (lv_at hl 1 rfl) ?_
    refine lv_sipush (v := 255) hx hb dX5_single_1_5 (by decide) ?_
    refine lv_icmp_le (tgt := 13) hx hb dX5_single_1_8 (by decide) (fun c_2 => ?_) (fun c_2 => ?_)
    · replace hu := hu.trans (if_pos c_2)
      refine lv_aload_n hx hb dX5_single_1_13 rfl (lv_at hl 0 rfl) ?_
      refine va_get (D := DD) (ci := 5) (v := .ref q2) (C := RX5) (T := TX5) (N := 21) hx hb hts (fun w h => List.mem_cons_of_mem _ (inX5 w h)) hown hE.1 hP 0 rfl rfl 1 (by decide) (hts (.fieldLink "TextPatternsModel" 13 "TextPatternsModel" "sizes" "[I") (List.mem_cons_of_mem _ w_532)) (fun _ h9 => h9) rfl dX5_single_1_14 ?_
      refine lv_iconst (v := 1) hx hb dX5_single_1_17 (by decide) ?_
      refine va_iald hx hb hE.1 hP 2 0 rfl rfl (kb_c (by decide) (by decide)) dX5_single_1_18 ?_
      refine W.eq (g2 := F0 m 19 ls [.int (m_sizes 1)]) rfl ?_
      refine lv_if_eq (tgt := 36) hx hb dX5_single_1_19 (by decide) (fun c_3 => ?_) (fun c_3 => ?_)
      · replace hu := hu.trans (if_pos c_3)
        refine lv_bipush (v := (-2)) hx hb dX5_single_1_36 (by decide) ?_
        subst hu
        exact k_iret hx hb hr hlocks hP hD hS rfl rfl dX5_single_1_38
      · replace hu := hu.trans (if_neg c_3)
        refine lv_aload_n hx hb dX5_single_1_22 rfl (lv_at hl 0 rfl) ?_
        refine lv_iconst (v := 0) hx hb dX5_single_1_23 (by decide) ?_
        obtain ⟨z_4, hz_4⟩ : ∃ z, z = f_X5_behindSingle m_rows m_sizes 0 := ⟨_, rfl⟩
        replace hu := hu.trans (kb_of hz_4)
        refine k_callV (As := [.int 0]) (rest := []) (wc := [(q0, .inr (5, [.ref q1, .ref q2, .ref q3, .int m_madeSize, .ref q4, .ref q5, .ref q6, .ref q7, .ref q8, .ref q9, .int m_depth, .int m_end, .ref q10, .ref q11, .int m_captureCount, .int m_looks, .int m_trouble, .int m_found, .int m_first, .int m_from, .int m_ended])), (q1, .inl (aC 1, 5632, .inl m_rows)), (q2, .inl (aC 0, 3, .inl m_sizes)), (q3, .inl (aC 1, 8192, .inl m_made)), (q4, .inl (aC 0, 520, .inl m_begins)), (q5, .inl (aC 0, 520, .inl m_places)), (q6, .inl (aC 0, 520, .inl m_kinds)), (q7, .inl (aC 0, 520, .inl m_nexts)), (q8, .inl (aC 0, 520, .inl m_choices)), (q9, .inl (aC 0, 520, .inl m_leasts)), (q10, .inl (aC 0, 33, .inl m_captureBegins)), (q11, .inl (aC 0, 33, .inl m_captureLengths))]) (wr := []) (w1 := [(q0, .inr (5, [.ref q1, .ref q2, .ref q3, .int m_madeSize, .ref q4, .ref q5, .ref q6, .ref q7, .ref q8, .ref q9, .int m_depth, .int m_end, .ref q10, .ref q11, .int m_captureCount, .int m_looks, .int m_trouble, .int m_found, .int m_first, .int m_from, .int m_ended])), (q1, .inl (aC 1, 5632, .inl m_rows)), (q2, .inl (aC 0, 3, .inl m_sizes)), (q3, .inl (aC 1, 8192, .inl m_made)), (q4, .inl (aC 0, 520, .inl m_begins)), (q5, .inl (aC 0, 520, .inl m_places)), (q6, .inl (aC 0, 520, .inl m_kinds)), (q7, .inl (aC 0, 520, .inl m_nexts)), (q8, .inl (aC 0, 520, .inl m_choices)), (q9, .inl (aC 0, 520, .inl m_leasts)), (q10, .inl (aC 0, 33, .inl m_captureBegins)), (q11, .inl (aC 0, 33, .inl m_captureLengths))]) (wn := [(q0, .inr (5, [.ref q1, .ref q2, .ref q3, .int m_madeSize, .ref q4, .ref q5, .ref q6, .ref q7, .ref q8, .ref q9, .int m_depth, .int m_end, .ref q10, .ref q11, .int m_captureCount, .int m_looks, .int m_trouble, .int m_found, .int m_first, .int m_from, .int m_ended])), (q1, .inl (aC 1, 5632, .inl m_rows)), (q2, .inl (aC 0, 3, .inl m_sizes)), (q3, .inl (aC 1, 8192, .inl m_made)), (q4, .inl (aC 0, 520, .inl m_begins)), (q5, .inl (aC 0, 520, .inl m_places)), (q6, .inl (aC 0, 520, .inl m_kinds)), (q7, .inl (aC 0, 520, .inl m_nexts)), (q8, .inl (aC 0, 520, .inl m_choices)), (q9, .inl (aC 0, 520, .inl m_leasts)), (q10, .inl (aC 0, 33, .inl m_captureBegins)), (q11, .inl (aC 0, 33, .inl m_captureLengths))]) ⟨hx, hb, hml, hown, hts⟩ (c_X5_behindSingle l DD aC tt q0 q1 q2 q3 q4 q5 q6 q7 q8 q9 q10 q11  m_madeSize m_depth m_end m_captureCount m_looks m_trouble m_found m_first m_from m_ended m_rows m_sizes m_made m_begins m_places m_kinds m_nexts m_choices m_leasts m_captureBegins m_captureLengths 0 hp_0 (by decide) (by decide) z_4 hz_4) (cwV 1 hts (gdV w_702 w_704 w_57 w_74 w_705) rfl rfl rfl (by decide +kernel) ⟨Nat.le_of_ble_eq_true rfl, Nat.le_of_ble_eq_true rfl⟩) hP hD hS hA hE [0, 1, 2, 3, 4, 5, 6, 7, 8, 9, 10, 11] [] [0, 1, 2, 3, 4, 5, 6, 7, 8, 9, 10, 11] rfl rfl rfl (by decide) (by decide) (by decide) (by decide) (ci := 5) (q0 := 0) rfl rfl rfl hl.1 rfl (Nat.le_of_ble_eq_true rfl) dX5_single_1_24 (fun H locs hP hD hS => ?_)
        refine W.eq (g2 := F0 m 27 ls [.int z_4]) rfl ?_
        refine lv_aload_n hx hb dX5_single_1_27 rfl (lv_at hl 0 rfl) ?_
        refine va_get (D := DD) (ci := 5) (v := .ref q2) (C := RX5) (T := TX5) (N := 21) hx hb hts (fun w h => List.mem_cons_of_mem _ (inX5 w h)) hown hE.1 hP 0 rfl rfl 1 (by decide) (hts (.fieldLink "TextPatternsModel" 13 "TextPatternsModel" "sizes" "[I") (List.mem_cons_of_mem _ w_532)) (fun _ h9 => h9) rfl dX5_single_1_28 ?_
        refine lv_iconst (v := 1) hx hb dX5_single_1_31 (by decide) ?_
        refine va_iald hx hb hE.1 hP 2 0 rfl rfl (kb_c (by decide) (by decide)) dX5_single_1_32 ?_
        refine W.eq (g2 := F0 m 33 ls [.int (m_sizes 1), .int z_4]) rfl ?_
        refine lv_icmp_eq (tgt := 39) hx hb dX5_single_1_33 (by decide) (fun c_5 => ?_) (fun c_5 => ?_)
        · replace hu := hu.trans (if_pos c_5)
          refine lv_aload_n hx hb dX5_single_1_39 rfl (lv_at hl 0 rfl) ?_
          refine lv_iconst (v := 0) hx hb dX5_single_1_40 (by decide) ?_
          refine lv_iload_n hx hb dX5_single_1_41 rfl (lv_at hl 1 rfl) ?_
          obtain ⟨z_6, hz_6⟩ : ∃ z, z = f_X5_singleHas m_rows m_sizes 0 a1 := ⟨_, rfl⟩
          replace hu := hu.trans (kb_of hz_6)
          refine k_callV (As := [.int 0, .int a1]) (rest := []) (wc := [(q0, .inr (5, [.ref q1, .ref q2, .ref q3, .int m_madeSize, .ref q4, .ref q5, .ref q6, .ref q7, .ref q8, .ref q9, .int m_depth, .int m_end, .ref q10, .ref q11, .int m_captureCount, .int m_looks, .int m_trouble, .int m_found, .int m_first, .int m_from, .int m_ended])), (q1, .inl (aC 1, 5632, .inl m_rows)), (q2, .inl (aC 0, 3, .inl m_sizes)), (q3, .inl (aC 1, 8192, .inl m_made)), (q4, .inl (aC 0, 520, .inl m_begins)), (q5, .inl (aC 0, 520, .inl m_places)), (q6, .inl (aC 0, 520, .inl m_kinds)), (q7, .inl (aC 0, 520, .inl m_nexts)), (q8, .inl (aC 0, 520, .inl m_choices)), (q9, .inl (aC 0, 520, .inl m_leasts)), (q10, .inl (aC 0, 33, .inl m_captureBegins)), (q11, .inl (aC 0, 33, .inl m_captureLengths))]) (wr := []) (w1 := [(q0, .inr (5, [.ref q1, .ref q2, .ref q3, .int m_madeSize, .ref q4, .ref q5, .ref q6, .ref q7, .ref q8, .ref q9, .int m_depth, .int m_end, .ref q10, .ref q11, .int m_captureCount, .int m_looks, .int m_trouble, .int m_found, .int m_first, .int m_from, .int m_ended])), (q1, .inl (aC 1, 5632, .inl m_rows)), (q2, .inl (aC 0, 3, .inl m_sizes)), (q3, .inl (aC 1, 8192, .inl m_made)), (q4, .inl (aC 0, 520, .inl m_begins)), (q5, .inl (aC 0, 520, .inl m_places)), (q6, .inl (aC 0, 520, .inl m_kinds)), (q7, .inl (aC 0, 520, .inl m_nexts)), (q8, .inl (aC 0, 520, .inl m_choices)), (q9, .inl (aC 0, 520, .inl m_leasts)), (q10, .inl (aC 0, 33, .inl m_captureBegins)), (q11, .inl (aC 0, 33, .inl m_captureLengths))]) (wn := [(q0, .inr (5, [.ref q1, .ref q2, .ref q3, .int m_madeSize, .ref q4, .ref q5, .ref q6, .ref q7, .ref q8, .ref q9, .int m_depth, .int m_end, .ref q10, .ref q11, .int m_captureCount, .int m_looks, .int m_trouble, .int m_found, .int m_first, .int m_from, .int m_ended])), (q1, .inl (aC 1, 5632, .inl m_rows)), (q2, .inl (aC 0, 3, .inl m_sizes)), (q3, .inl (aC 1, 8192, .inl m_made)), (q4, .inl (aC 0, 520, .inl m_begins)), (q5, .inl (aC 0, 520, .inl m_places)), (q6, .inl (aC 0, 520, .inl m_kinds)), (q7, .inl (aC 0, 520, .inl m_nexts)), (q8, .inl (aC 0, 520, .inl m_choices)), (q9, .inl (aC 0, 520, .inl m_leasts)), (q10, .inl (aC 0, 33, .inl m_captureBegins)), (q11, .inl (aC 0, 33, .inl m_captureLengths))]) ⟨hx, hb, hml, hown, hts⟩ (c_X5_singleHas l DD aC tt q0 q1 q2 q3 q4 q5 q6 q7 q8 q9 q10 q11  m_madeSize m_depth m_end m_captureCount m_looks m_trouble m_found m_first m_from m_ended m_rows m_sizes m_made m_begins m_places m_kinds m_nexts m_choices m_leasts m_captureBegins m_captureLengths 0 a1 hp_0 (by decide) (by decide) z_6 hz_6) (cwV 2 hts (gdV w_710 w_712 w_59 w_74 w_713) rfl rfl rfl (by decide +kernel) ⟨Nat.le_of_ble_eq_true rfl, Nat.le_of_ble_eq_true rfl⟩) hP hD hS hA hE [0, 1, 2, 3, 4, 5, 6, 7, 8, 9, 10, 11] [] [0, 1, 2, 3, 4, 5, 6, 7, 8, 9, 10, 11] rfl rfl rfl (by decide) (by decide) (by decide) (by decide) (ci := 5) (q0 := 0) rfl rfl rfl hl.1 rfl (Nat.le_of_ble_eq_true rfl) dX5_single_1_42 (fun H locs hP hD hS => ?_)
          refine W.eq (g2 := F0 m 45 ls [.int z_6]) rfl ?_
          have h_7 := pf_X5_singleHas hp_0 (by decide) (by decide) hz_6
          refine lv_if_eq (tgt := 52) hx hb dX5_single_1_45 (by decide) (fun c_8 => ?_) (fun c_8 => ?_)
          · replace hu := hu.trans (if_pos c_8)
            refine lv_iconst (v := 0) hx hb dX5_single_1_52 (by decide) ?_
            subst hu
            exact k_iret hx hb hr hlocks hP hD hS rfl rfl dX5_single_1_53
          · replace hu := hu.trans (if_neg c_8)
            refine lv_iconst (v := 1) hx hb dX5_single_1_48 (by decide) ?_
            refine lv_goto (tgt := 53) hx hb dX5_single_1_49 (by decide) ?_
            subst hu
            exact k_iret hx hb hr hlocks hP hD hS rfl rfl dX5_single_1_53
        · replace hu := hu.trans (if_neg c_5)
          refine lv_bipush (v := (-2)) hx hb dX5_single_1_36 (by decide) ?_
          subst hu
          exact k_iret hx hb hr hlocks hP hD hS rfl rfl dX5_single_1_38
    · replace hu := hu.trans (if_neg c_2)
      refine lv_iconst (v := (-1)) hx hb dX5_single_1_11 (by decide) ?_
      subst hu
      exact k_iret hx hb hr hlocks hP hD hS rfl rfl dX5_single_1_12
def f_X5_isAnchored (m_rows : Nat → Int32) (m_sizes : Nat → Int32) : Int32 := (kb (f_X5_pattern m_rows m_sizes 0) (fun z_1 => (if z_1 = 94 then 1 else 0)))
set_option maxHeartbeats 4000000 in
theorem pf_X5_isAnchored {m_rows : Nat → Int32} {m_sizes : Nat → Int32} (hp_0 : (m_sizes 1).toInt ≤ 512) {u : Int32} (hu : u = f_X5_isAnchored m_rows m_sizes) : (u = 0 ∨ u = 1) := by
  unfold f_X5_isAnchored at hu
  obtain ⟨z_1, hz_1⟩ : ∃ z, z = f_X5_pattern m_rows m_sizes 0 := ⟨_, rfl⟩
  replace hu := hu.trans (kb_of hz_1)
  have h_2 := pf_X5_pattern hz_1
  rcases (Classical.em (z_1 = 94)).symm with c_3 | c_3
  · replace hu := hu.trans (if_neg c_3)
    rw [hu]
    exact show ((0 : Int32) = 0 ∨ (0 : Int32) = 1) from (Or.inl rfl)
  · replace hu := hu.trans (if_pos c_3)
    rw [hu]
    exact show ((1 : Int32) = 0 ∨ (1 : Int32) = 1) from (Or.inr rfl)
abbrev rm_X5_isAnchored : Room := { frames := 3, cells := 0, slots := 0, locals := 63 }
set_option maxHeartbeats 4000000 in
set_option maxRecDepth 100000 in
theorem c_X5_isAnchored (l : Launch) (DD : va_G) (aC : Nat → ClassId) (tt : Nat → Nat) (q0 q1 q2 q3 q4 q5 q6 q7 q8 q9 q10 q11 : Nat) (m_madeSize : Int32) (m_depth : Int32) (m_end : Int32) (m_captureCount : Int32) (m_looks : Int32) (m_trouble : Int32) (m_found : Int32) (m_first : Int32) (m_from : Int32) (m_ended : Int32) (m_rows : Nat → Int32) (m_sizes : Nat → Int32) (m_made : Nat → Int32) (m_begins : Nat → Int32) (m_places : Nat → Int32) (m_kinds : Nat → Int32) (m_nexts : Nat → Int32) (m_choices : Nat → Int32) (m_leasts : Nat → Int32) (m_captureBegins : Nat → Int32) (m_captureLengths : Nat → Int32) (hp_0 : (m_sizes 1).toInt ≤ 512) (u : Int32) (hu : u = f_X5_isAnchored m_rows m_sizes) : kM l yX5_isAnchored wsX5_isAnchored rm_X5_isAnchored DD aC tt [.ref q0] [(q0, .inr (5, [.ref q1, .ref q2, .ref q3, .int m_madeSize, .ref q4, .ref q5, .ref q6, .ref q7, .ref q8, .ref q9, .int m_depth, .int m_end, .ref q10, .ref q11, .int m_captureCount, .int m_looks, .int m_trouble, .int m_found, .int m_first, .int m_from, .int m_ended])), (q1, .inl (aC 1, 5632, .inl m_rows)), (q2, .inl (aC 0, 3, .inl m_sizes)), (q3, .inl (aC 1, 8192, .inl m_made)), (q4, .inl (aC 0, 520, .inl m_begins)), (q5, .inl (aC 0, 520, .inl m_places)), (q6, .inl (aC 0, 520, .inl m_kinds)), (q7, .inl (aC 0, 520, .inl m_nexts)), (q8, .inl (aC 0, 520, .inl m_choices)), (q9, .inl (aC 0, 520, .inl m_leasts)), (q10, .inl (aC 0, 33, .inl m_captureBegins)), (q11, .inl (aC 0, 33, .inl m_captureLengths))] (some (.int u)) [(q0, .inr (5, [.ref q1, .ref q2, .ref q3, .int m_madeSize, .ref q4, .ref q5, .ref q6, .ref q7, .ref q8, .ref q9, .int m_depth, .int m_end, .ref q10, .ref q11, .int m_captureCount, .int m_looks, .int m_trouble, .int m_found, .int m_first, .int m_from, .int m_ended])), (q1, .inl (aC 1, 5632, .inl m_rows)), (q2, .inl (aC 0, 3, .inl m_sizes)), (q3, .inl (aC 1, 8192, .inl m_made)), (q4, .inl (aC 0, 520, .inl m_begins)), (q5, .inl (aC 0, 520, .inl m_places)), (q6, .inl (aC 0, 520, .inl m_kinds)), (q7, .inl (aC 0, 520, .inl m_nexts)), (q8, .inl (aC 0, 520, .inl m_choices)), (q9, .inl (aC 0, 520, .inl m_leasts)), (q10, .inl (aC 0, 33, .inl m_captureBegins)), (q11, .inl (aC 0, 33, .inl m_captureLengths))] := by
  refine k_start (cc := cX5_isAnchored) (maxL := 1) (ret := (some .boolean)) (own := RX5) (lv0 := [(0, .ref q0)]) (by decide) rfl rfl (Nat.le_of_ble_eq_true rfl) rfl (fun p e s m below meth c A ls X hP hD hS hl => ?_)
  obtain ⟨hx, hb, hr, hml, hts, hown, hlocks, hA, hE⟩ := id X
  unfold f_X5_isAnchored at hu
  refine lv_aload_n hx hb dX5_isAnchored_0 rfl (lv_at hl 0 rfl) ?_
  refine lv_iconst (v := 0) hx hb dX5_isAnchored_1 (by decide) ?_
  obtain ⟨z_1, hz_1⟩ : ∃ z, z = f_X5_pattern m_rows m_sizes 0 := ⟨_, rfl⟩
  replace hu := hu.trans (kb_of hz_1)
  refine k_callV (As := [.int 0]) (rest := []) (wc := [(q0, .inr (5, [.ref q1, .ref q2, .ref q3, .int m_madeSize, .ref q4, .ref q5, .ref q6, .ref q7, .ref q8, .ref q9, .int m_depth, .int m_end, .ref q10, .ref q11, .int m_captureCount, .int m_looks, .int m_trouble, .int m_found, .int m_first, .int m_from, .int m_ended])), (q1, .inl (aC 1, 5632, .inl m_rows)), (q2, .inl (aC 0, 3, .inl m_sizes)), (q3, .inl (aC 1, 8192, .inl m_made)), (q4, .inl (aC 0, 520, .inl m_begins)), (q5, .inl (aC 0, 520, .inl m_places)), (q6, .inl (aC 0, 520, .inl m_kinds)), (q7, .inl (aC 0, 520, .inl m_nexts)), (q8, .inl (aC 0, 520, .inl m_choices)), (q9, .inl (aC 0, 520, .inl m_leasts)), (q10, .inl (aC 0, 33, .inl m_captureBegins)), (q11, .inl (aC 0, 33, .inl m_captureLengths))]) (wr := []) (w1 := [(q0, .inr (5, [.ref q1, .ref q2, .ref q3, .int m_madeSize, .ref q4, .ref q5, .ref q6, .ref q7, .ref q8, .ref q9, .int m_depth, .int m_end, .ref q10, .ref q11, .int m_captureCount, .int m_looks, .int m_trouble, .int m_found, .int m_first, .int m_from, .int m_ended])), (q1, .inl (aC 1, 5632, .inl m_rows)), (q2, .inl (aC 0, 3, .inl m_sizes)), (q3, .inl (aC 1, 8192, .inl m_made)), (q4, .inl (aC 0, 520, .inl m_begins)), (q5, .inl (aC 0, 520, .inl m_places)), (q6, .inl (aC 0, 520, .inl m_kinds)), (q7, .inl (aC 0, 520, .inl m_nexts)), (q8, .inl (aC 0, 520, .inl m_choices)), (q9, .inl (aC 0, 520, .inl m_leasts)), (q10, .inl (aC 0, 33, .inl m_captureBegins)), (q11, .inl (aC 0, 33, .inl m_captureLengths))]) (wn := [(q0, .inr (5, [.ref q1, .ref q2, .ref q3, .int m_madeSize, .ref q4, .ref q5, .ref q6, .ref q7, .ref q8, .ref q9, .int m_depth, .int m_end, .ref q10, .ref q11, .int m_captureCount, .int m_looks, .int m_trouble, .int m_found, .int m_first, .int m_from, .int m_ended])), (q1, .inl (aC 1, 5632, .inl m_rows)), (q2, .inl (aC 0, 3, .inl m_sizes)), (q3, .inl (aC 1, 8192, .inl m_made)), (q4, .inl (aC 0, 520, .inl m_begins)), (q5, .inl (aC 0, 520, .inl m_places)), (q6, .inl (aC 0, 520, .inl m_kinds)), (q7, .inl (aC 0, 520, .inl m_nexts)), (q8, .inl (aC 0, 520, .inl m_choices)), (q9, .inl (aC 0, 520, .inl m_leasts)), (q10, .inl (aC 0, 33, .inl m_captureBegins)), (q11, .inl (aC 0, 33, .inl m_captureLengths))]) ⟨hx, hb, hml, hown, hts⟩ (c_X5_pattern l DD aC tt q0 q1 q2 q3 q4 q5 q6 q7 q8 q9 q10 q11  m_madeSize m_depth m_end m_captureCount m_looks m_trouble m_found m_first m_from m_ended m_rows m_sizes m_made m_begins m_places m_kinds m_nexts m_choices m_leasts m_captureBegins m_captureLengths 0 hp_0 (by decide) z_1 hz_1) (cwV 1 hts (gdV w_617 w_619 w_39 w_74 w_620) rfl rfl rfl (by decide +kernel) ⟨Nat.le_of_ble_eq_true rfl, Nat.le_of_ble_eq_true rfl⟩) hP hD hS hA hE [0, 1, 2, 3, 4, 5, 6, 7, 8, 9, 10, 11] [] [0, 1, 2, 3, 4, 5, 6, 7, 8, 9, 10, 11] rfl rfl rfl (by decide) (by decide) (by decide) (by decide) (ci := 5) (q0 := 0) rfl rfl rfl hl.1 rfl (Nat.le_of_ble_eq_true rfl) dX5_isAnchored_2 (fun H locs hP hD hS => ?_)
  refine W.eq (g2 := F0 m 5 ls [.int z_1]) rfl ?_
  have h_2 := pf_X5_pattern hz_1
  refine lv_bipush (v := 94) hx hb dX5_isAnchored_5 (by decide) ?_
  refine lv_icmp_ne (tgt := 14) hx hb dX5_isAnchored_7 (by decide) (fun c_3 => ?_) (fun c_3 => ?_)
  · replace hu := hu.trans (if_neg c_3)
    refine lv_iconst (v := 0) hx hb dX5_isAnchored_14 (by decide) ?_
    subst hu
    exact k_zret hx hb hr (by decide) hlocks hP hD hS rfl rfl dX5_isAnchored_15
  · replace hu := hu.trans (if_pos c_3)
    refine lv_iconst (v := 1) hx hb dX5_isAnchored_10 (by decide) ?_
    refine lv_goto (tgt := 15) hx hb dX5_isAnchored_11 (by decide) ?_
    subst hu
    exact k_zret hx hb hr (by decide) hlocks hP hD hS rfl rfl dX5_isAnchored_15

def f_X3_forgetLooks (looks : Int32) : Int32 := 0
abbrev rm_X3_forgetLooks : Room := { frames := 0, cells := 0, slots := 0, locals := 0 }
set_option maxHeartbeats 4000000 in
set_option maxRecDepth 100000 in
theorem c_X3_forgetLooks (l : Launch) (DD : va_G) (aC : Nat → ClassId) (tt : Nat → Nat) (q0 q1 q2 q3 q4 q5 : Nat) (choices : Int32) (item : Int32) (place : Int32) (looks : Int32) (choiceItems : Nat → Int32) (choiceLeast : Nat → Int32) (choicePlaces : Nat → Int32) (starts : Nat → Int32) (lengths : Nat → Int32) (u : Int32) (hu : u = f_X3_forgetLooks looks) : kM l yX3_forgetLooks wsX3_forgetLooks rm_X3_forgetLooks DD aC tt [.ref q0] [(q0, .inr (3, [.ref q1, .ref q2, .ref q3, .ref q4, .ref q5, .int choices, .int item, .int place, .int looks])), (q1, .inl (aC 0, 513, .inl choiceItems)), (q2, .inl (aC 0, 513, .inl choiceLeast)), (q3, .inl (aC 0, 513, .inl choicePlaces)), (q4, .inl (aC 0, 32, .inl starts)), (q5, .inl (aC 0, 32, .inl lengths))] none [(q0, .inr (3, [.ref q1, .ref q2, .ref q3, .ref q4, .ref q5, .int choices, .int item, .int place, .int u])), (q1, .inl (aC 0, 513, .inl choiceItems)), (q2, .inl (aC 0, 513, .inl choiceLeast)), (q3, .inl (aC 0, 513, .inl choicePlaces)), (q4, .inl (aC 0, 32, .inl starts)), (q5, .inl (aC 0, 32, .inl lengths))] := by
  refine k_start (cc := cX3_forgetLooks) (maxL := 1) (ret := none) (own := RX3) (lv0 := [(0, .ref q0)]) (by decide) rfl rfl (Nat.le_of_ble_eq_true rfl) rfl (fun p e s m below meth c A ls X hP hD hS hl => ?_)
  obtain ⟨hx, hb, hr, hml, hts, hown, hlocks, hA, hE⟩ := id X
  unfold f_X3_forgetLooks at hu
  refine lv_aload_n hx hb dX3_forgetLooks_0 rfl (lv_at hl 0 rfl) ?_
  refine lv_iconst (v := 0) hx hb dX3_forgetLooks_1 (by decide) ?_
  refine va_put (D := DD) (ci := 3) (v := .int 0) (ty := .int) (C := RX3) (T := TX3) (N := 9) hx hb hts (fun w h => List.mem_cons_of_mem _ (inX3 w h)) tyX3 tyX3_ok nmX3 hown hE.1 hP hD hS 0 rfl rfl 8 (by decide) (hts (.fieldLink "TextPatterns$Matcher" 27 "TextPatterns$Matcher" "looks" "I") (List.mem_cons_of_mem _ w_156)) (fun _ h9 => h9) rfl (by decide +kernel) rfl rfl (Nat.le_of_ble_eq_true rfl) dX3_forgetLooks_2 (fun H locs hP hD hS => ?_)
  have hP : va_P DD vwCl [(q0, .inr (3, [.ref q1, .ref q2, .ref q3, .ref q4, .ref q5, .int choices, .int item, .int place, .int 0])), (q1, .inl (aC 0, 513, .inl choiceItems)), (q2, .inl (aC 0, 513, .inl choiceLeast)), (q3, .inl (aC 0, 513, .inl choicePlaces)), (q4, .inl (aC 0, 32, .inl starts)), (q5, .inl (aC 0, 32, .inl lengths))] H := hP
  have hD : va_D A [(q0, .inr (3, [.ref q1, .ref q2, .ref q3, .ref q4, .ref q5, .int choices, .int item, .int place, .int 0])), (q1, .inl (aC 0, 513, .inl choiceItems)), (q2, .inl (aC 0, 513, .inl choiceLeast)), (q3, .inl (aC 0, 513, .inl choicePlaces)), (q4, .inl (aC 0, 32, .inl starts)), (q5, .inl (aC 0, 32, .inl lengths))] := hD
  subst hu
  exact k_vret hx hb hr hlocks hP hD hS rfl rfl dX3_forgetLooks_5
def f_X3_looksMade (looks : Int32) : Int32 := looks
abbrev rm_X3_looksMade : Room := { frames := 0, cells := 0, slots := 0, locals := 0 }
set_option maxHeartbeats 4000000 in
set_option maxRecDepth 100000 in
theorem c_X3_looksMade (l : Launch) (DD : va_G) (aC : Nat → ClassId) (tt : Nat → Nat) (q0 q1 q2 q3 q4 q5 : Nat) (choices : Int32) (item : Int32) (place : Int32) (looks : Int32) (choiceItems : Nat → Int32) (choiceLeast : Nat → Int32) (choicePlaces : Nat → Int32) (starts : Nat → Int32) (lengths : Nat → Int32) (u : Int32) (hu : u = f_X3_looksMade looks) : kM l yX3_looksMade wsX3_looksMade rm_X3_looksMade DD aC tt [.ref q0] [(q0, .inr (3, [.ref q1, .ref q2, .ref q3, .ref q4, .ref q5, .int choices, .int item, .int place, .int looks])), (q1, .inl (aC 0, 513, .inl choiceItems)), (q2, .inl (aC 0, 513, .inl choiceLeast)), (q3, .inl (aC 0, 513, .inl choicePlaces)), (q4, .inl (aC 0, 32, .inl starts)), (q5, .inl (aC 0, 32, .inl lengths))] (some (.int u)) [(q0, .inr (3, [.ref q1, .ref q2, .ref q3, .ref q4, .ref q5, .int choices, .int item, .int place, .int looks])), (q1, .inl (aC 0, 513, .inl choiceItems)), (q2, .inl (aC 0, 513, .inl choiceLeast)), (q3, .inl (aC 0, 513, .inl choicePlaces)), (q4, .inl (aC 0, 32, .inl starts)), (q5, .inl (aC 0, 32, .inl lengths))] := by
  refine k_start (cc := cX3_looksMade) (maxL := 1) (ret := (some .int)) (own := RX3) (lv0 := [(0, .ref q0)]) (by decide) rfl rfl (Nat.le_of_ble_eq_true rfl) rfl (fun p e s m below meth c A ls X hP hD hS hl => ?_)
  obtain ⟨hx, hb, hr, hml, hts, hown, hlocks, hA, hE⟩ := id X
  unfold f_X3_looksMade at hu
  refine lv_aload_n hx hb dX3_looksMade_0 rfl (lv_at hl 0 rfl) ?_
  refine va_get (D := DD) (ci := 3) (v := .int looks) (C := RX3) (T := TX3) (N := 9) hx hb hts (fun w h => List.mem_cons_of_mem _ (inX3 w h)) hown hE.1 hP 0 rfl rfl 8 (by decide) (hts (.fieldLink "TextPatterns$Matcher" 27 "TextPatterns$Matcher" "looks" "I") (List.mem_cons_of_mem _ w_156)) (fun _ h9 => h9) rfl dX3_looksMade_1 ?_
  subst hu
  exact k_iret hx hb hr hlocks hP hD hS rfl rfl dX3_looksMade_4
def f_X3_end (place : Int32) : Int32 := place
abbrev rm_X3_end : Room := { frames := 0, cells := 0, slots := 0, locals := 0 }
set_option maxHeartbeats 4000000 in
set_option maxRecDepth 100000 in
theorem c_X3_end (l : Launch) (DD : va_G) (aC : Nat → ClassId) (tt : Nat → Nat) (q0 q1 q2 q3 q4 q5 : Nat) (choices : Int32) (item : Int32) (place : Int32) (looks : Int32) (choiceItems : Nat → Int32) (choiceLeast : Nat → Int32) (choicePlaces : Nat → Int32) (starts : Nat → Int32) (lengths : Nat → Int32) (u : Int32) (hu : u = f_X3_end place) : kM l yX3_end wsX3_end rm_X3_end DD aC tt [.ref q0] [(q0, .inr (3, [.ref q1, .ref q2, .ref q3, .ref q4, .ref q5, .int choices, .int item, .int place, .int looks])), (q1, .inl (aC 0, 513, .inl choiceItems)), (q2, .inl (aC 0, 513, .inl choiceLeast)), (q3, .inl (aC 0, 513, .inl choicePlaces)), (q4, .inl (aC 0, 32, .inl starts)), (q5, .inl (aC 0, 32, .inl lengths))] (some (.int u)) [(q0, .inr (3, [.ref q1, .ref q2, .ref q3, .ref q4, .ref q5, .int choices, .int item, .int place, .int looks])), (q1, .inl (aC 0, 513, .inl choiceItems)), (q2, .inl (aC 0, 513, .inl choiceLeast)), (q3, .inl (aC 0, 513, .inl choicePlaces)), (q4, .inl (aC 0, 32, .inl starts)), (q5, .inl (aC 0, 32, .inl lengths))] := by
  refine k_start (cc := cX3_end) (maxL := 1) (ret := (some .int)) (own := RX3) (lv0 := [(0, .ref q0)]) (by decide) rfl rfl (Nat.le_of_ble_eq_true rfl) rfl (fun p e s m below meth c A ls X hP hD hS hl => ?_)
  obtain ⟨hx, hb, hr, hml, hts, hown, hlocks, hA, hE⟩ := id X
  unfold f_X3_end at hu
  refine lv_aload_n hx hb dX3_end_0 rfl (lv_at hl 0 rfl) ?_
  refine va_get (D := DD) (ci := 3) (v := .int place) (C := RX3) (T := TX3) (N := 9) hx hb hts (fun w h => List.mem_cons_of_mem _ (inX3 w h)) hown hE.1 hP 0 rfl rfl 7 (by decide) (hts (.fieldLink "TextPatterns$Matcher" 31 "TextPatterns$Matcher" "place" "I") (List.mem_cons_of_mem _ w_155)) (fun _ h9 => h9) rfl dX3_end_1 ?_
  subst hu
  exact k_iret hx hb hr hlocks hP hD hS rfl rfl dX3_end_4
def f_X3_startOf (starts : Nat → Int32) (a1 : Int32) : Int32 := (if a1 < 0 then (-1) else (if (32 : Int32) ≤ a1 then (-1) else (starts a1.toNatClampNeg)))
abbrev rm_X3_startOf : Room := { frames := 0, cells := 0, slots := 0, locals := 0 }
set_option maxHeartbeats 4000000 in
set_option maxRecDepth 100000 in
theorem c_X3_startOf (l : Launch) (DD : va_G) (aC : Nat → ClassId) (tt : Nat → Nat) (q0 q1 q2 q3 q4 q5 : Nat) (choices : Int32) (item : Int32) (place : Int32) (looks : Int32) (choiceItems : Nat → Int32) (choiceLeast : Nat → Int32) (choicePlaces : Nat → Int32) (starts : Nat → Int32) (lengths : Nat → Int32) (a1 : Int32) (u : Int32) (hu : u = f_X3_startOf starts a1) : kM l yX3_startOf wsX3_startOf rm_X3_startOf DD aC tt [.ref q0, .int a1] [(q0, .inr (3, [.ref q1, .ref q2, .ref q3, .ref q4, .ref q5, .int choices, .int item, .int place, .int looks])), (q1, .inl (aC 0, 513, .inl choiceItems)), (q2, .inl (aC 0, 513, .inl choiceLeast)), (q3, .inl (aC 0, 513, .inl choicePlaces)), (q4, .inl (aC 0, 32, .inl starts)), (q5, .inl (aC 0, 32, .inl lengths))] (some (.int u)) [(q0, .inr (3, [.ref q1, .ref q2, .ref q3, .ref q4, .ref q5, .int choices, .int item, .int place, .int looks])), (q1, .inl (aC 0, 513, .inl choiceItems)), (q2, .inl (aC 0, 513, .inl choiceLeast)), (q3, .inl (aC 0, 513, .inl choicePlaces)), (q4, .inl (aC 0, 32, .inl starts)), (q5, .inl (aC 0, 32, .inl lengths))] := by
  refine k_start (cc := cX3_startOf) (maxL := 2) (ret := (some .int)) (own := RX3) (lv0 := [(0, .ref q0), (1, .int a1)]) (by decide) rfl rfl (Nat.le_of_ble_eq_true rfl) rfl (fun p e s m below meth c A ls X hP hD hS hl => ?_)
  obtain ⟨hx, hb, hr, hml, hts, hown, hlocks, hA, hE⟩ := id X
  unfold f_X3_startOf at hu
  refine lv_iload_n hx hb dX3_startOf_0 rfl (lv_at hl 1 rfl) ?_
  refine lv_if_lt (tgt := 22) hx hb dX3_startOf_1 (by decide) (fun c_1 => ?_) (fun c_1 => ?_)
  · replace hu := hu.trans (if_pos c_1)
    refine lv_iconst (v := (-1)) hx hb dX3_startOf_22 (by decide) ?_
    subst hu
    exact k_iret hx hb hr hlocks hP hD hS rfl rfl dX3_startOf_23
  · replace hu := hu.trans (if_neg c_1)
    refine lv_iload_n hx hb dX3_startOf_4 rfl (lv_at hl 1 rfl) ?_
    refine lv_aload_n hx hb dX3_startOf_5 rfl (lv_at hl 0 rfl) ?_
    refine va_get (D := DD) (ci := 3) (v := .ref q4) (C := RX3) (T := TX3) (N := 9) hx hb hts (fun w h => List.mem_cons_of_mem _ (inX3 w h)) hown hE.1 hP 0 rfl rfl 3 (by decide) (hts (.fieldLink "TextPatterns$Matcher" 21 "TextPatterns$Matcher" "starts" "[I") (List.mem_cons_of_mem _ w_151)) (fun _ h9 => h9) rfl dX3_startOf_6 ?_
    refine va_alen (v := 32) hx hb hE.1 hP 4 0 rfl rfl rfl dX3_startOf_9 ?_
    refine lv_icmp_ge (tgt := 22) hx hb dX3_startOf_10 (by decide) (fun c_2 => ?_) (fun c_2 => ?_)
    · replace hu := hu.trans (if_pos c_2)
      refine lv_iconst (v := (-1)) hx hb dX3_startOf_22 (by decide) ?_
      subst hu
      exact k_iret hx hb hr hlocks hP hD hS rfl rfl dX3_startOf_23
    · replace hu := hu.trans (if_neg c_2)
      refine lv_aload_n hx hb dX3_startOf_13 rfl (lv_at hl 0 rfl) ?_
      refine va_get (D := DD) (ci := 3) (v := .ref q4) (C := RX3) (T := TX3) (N := 9) hx hb hts (fun w h => List.mem_cons_of_mem _ (inX3 w h)) hown hE.1 hP 0 rfl rfl 3 (by decide) (hts (.fieldLink "TextPatterns$Matcher" 21 "TextPatterns$Matcher" "starts" "[I") (List.mem_cons_of_mem _ w_151)) (fun _ h9 => h9) rfl dX3_startOf_14 ?_
      refine lv_iload_n hx hb dX3_startOf_17 rfl (lv_at hl 1 rfl) ?_
      refine va_iald hx hb hE.1 hP 4 0 rfl rfl (kb_in (kb_nlt0 c_1) (kb_nle c_2 (by decide))) dX3_startOf_18 ?_
      refine lv_goto (tgt := 23) hx hb dX3_startOf_19 (by decide) ?_
      subst hu
      exact k_iret hx hb hr hlocks hP hD hS rfl rfl dX3_startOf_23
def f_X3_lengthOf (lengths : Nat → Int32) (a1 : Int32) : Int32 := (if a1 < 0 then (-1) else (if (32 : Int32) ≤ a1 then (-1) else (lengths a1.toNatClampNeg)))
abbrev rm_X3_lengthOf : Room := { frames := 0, cells := 0, slots := 0, locals := 0 }
set_option maxHeartbeats 4000000 in
set_option maxRecDepth 100000 in
theorem c_X3_lengthOf (l : Launch) (DD : va_G) (aC : Nat → ClassId) (tt : Nat → Nat) (q0 q1 q2 q3 q4 q5 : Nat) (choices : Int32) (item : Int32) (place : Int32) (looks : Int32) (choiceItems : Nat → Int32) (choiceLeast : Nat → Int32) (choicePlaces : Nat → Int32) (starts : Nat → Int32) (lengths : Nat → Int32) (a1 : Int32) (u : Int32) (hu : u = f_X3_lengthOf lengths a1) : kM l yX3_lengthOf wsX3_lengthOf rm_X3_lengthOf DD aC tt [.ref q0, .int a1] [(q0, .inr (3, [.ref q1, .ref q2, .ref q3, .ref q4, .ref q5, .int choices, .int item, .int place, .int looks])), (q1, .inl (aC 0, 513, .inl choiceItems)), (q2, .inl (aC 0, 513, .inl choiceLeast)), (q3, .inl (aC 0, 513, .inl choicePlaces)), (q4, .inl (aC 0, 32, .inl starts)), (q5, .inl (aC 0, 32, .inl lengths))] (some (.int u)) [(q0, .inr (3, [.ref q1, .ref q2, .ref q3, .ref q4, .ref q5, .int choices, .int item, .int place, .int looks])), (q1, .inl (aC 0, 513, .inl choiceItems)), (q2, .inl (aC 0, 513, .inl choiceLeast)), (q3, .inl (aC 0, 513, .inl choicePlaces)), (q4, .inl (aC 0, 32, .inl starts)), (q5, .inl (aC 0, 32, .inl lengths))] := by
  refine k_start (cc := cX3_lengthOf) (maxL := 2) (ret := (some .int)) (own := RX3) (lv0 := [(0, .ref q0), (1, .int a1)]) (by decide) rfl rfl (Nat.le_of_ble_eq_true rfl) rfl (fun p e s m below meth c A ls X hP hD hS hl => ?_)
  obtain ⟨hx, hb, hr, hml, hts, hown, hlocks, hA, hE⟩ := id X
  unfold f_X3_lengthOf at hu
  refine lv_iload_n hx hb dX3_lengthOf_0 rfl (lv_at hl 1 rfl) ?_
  refine lv_if_lt (tgt := 22) hx hb dX3_lengthOf_1 (by decide) (fun c_1 => ?_) (fun c_1 => ?_)
  · replace hu := hu.trans (if_pos c_1)
    refine lv_iconst (v := (-1)) hx hb dX3_lengthOf_22 (by decide) ?_
    subst hu
    exact k_iret hx hb hr hlocks hP hD hS rfl rfl dX3_lengthOf_23
  · replace hu := hu.trans (if_neg c_1)
    refine lv_iload_n hx hb dX3_lengthOf_4 rfl (lv_at hl 1 rfl) ?_
    refine lv_aload_n hx hb dX3_lengthOf_5 rfl (lv_at hl 0 rfl) ?_
    refine va_get (D := DD) (ci := 3) (v := .ref q5) (C := RX3) (T := TX3) (N := 9) hx hb hts (fun w h => List.mem_cons_of_mem _ (inX3 w h)) hown hE.1 hP 0 rfl rfl 4 (by decide) (hts (.fieldLink "TextPatterns$Matcher" 24 "TextPatterns$Matcher" "lengths" "[I") (List.mem_cons_of_mem _ w_152)) (fun _ h9 => h9) rfl dX3_lengthOf_6 ?_
    refine va_alen (v := 32) hx hb hE.1 hP 5 0 rfl rfl rfl dX3_lengthOf_9 ?_
    refine lv_icmp_ge (tgt := 22) hx hb dX3_lengthOf_10 (by decide) (fun c_2 => ?_) (fun c_2 => ?_)
    · replace hu := hu.trans (if_pos c_2)
      refine lv_iconst (v := (-1)) hx hb dX3_lengthOf_22 (by decide) ?_
      subst hu
      exact k_iret hx hb hr hlocks hP hD hS rfl rfl dX3_lengthOf_23
    · replace hu := hu.trans (if_neg c_2)
      refine lv_aload_n hx hb dX3_lengthOf_13 rfl (lv_at hl 0 rfl) ?_
      refine va_get (D := DD) (ci := 3) (v := .ref q5) (C := RX3) (T := TX3) (N := 9) hx hb hts (fun w h => List.mem_cons_of_mem _ (inX3 w h)) hown hE.1 hP 0 rfl rfl 4 (by decide) (hts (.fieldLink "TextPatterns$Matcher" 24 "TextPatterns$Matcher" "lengths" "[I") (List.mem_cons_of_mem _ w_152)) (fun _ h9 => h9) rfl dX3_lengthOf_14 ?_
      refine lv_iload_n hx hb dX3_lengthOf_17 rfl (lv_at hl 1 rfl) ?_
      refine va_iald hx hb hE.1 hP 5 0 rfl rfl (kb_in (kb_nlt0 c_1) (kb_nle c_2 (by decide))) dX3_lengthOf_18 ?_
      refine lv_goto (tgt := 23) hx hb dX3_lengthOf_19 (by decide) ?_
      subst hu
      exact k_iret hx hb hr hlocks hP hD hS rfl rfl dX3_lengthOf_23
def f_X3_mayLook (looks : Int32) : Int32 × Int32 := (if looks < 100000 then (1, looks + 1) else (0, looks))
set_option maxHeartbeats 4000000 in
theorem pf_X3_mayLook {looks : Int32} {u : Int32 × Int32} (hu : u = f_X3_mayLook looks) : (u.1 = 0 ∨ u.1 = 1) := by
  unfold f_X3_mayLook at hu
  rcases Classical.em (looks < 100000) with c_1 | c_1
  · replace hu := hu.trans (if_pos c_1)
    rw [hu]
    exact show ((1 : Int32) = 0 ∨ (1 : Int32) = 1) from (Or.inr rfl)
  · replace hu := hu.trans (if_neg c_1)
    rw [hu]
    exact show ((0 : Int32) = 0 ∨ (0 : Int32) = 1) from (Or.inl rfl)
abbrev rm_X3_mayLook : Room := { frames := 0, cells := 0, slots := 0, locals := 0 }
set_option maxHeartbeats 4000000 in
set_option maxRecDepth 100000 in
theorem c_X3_mayLook (l : Launch) (DD : va_G) (aC : Nat → ClassId) (tt : Nat → Nat) (q0 q1 q2 q3 q4 q5 : Nat) (choices : Int32) (item : Int32) (place : Int32) (looks : Int32) (choiceItems : Nat → Int32) (choiceLeast : Nat → Int32) (choicePlaces : Nat → Int32) (starts : Nat → Int32) (lengths : Nat → Int32) (u : Int32 × Int32) (hu : u = f_X3_mayLook looks) : kM l yX3_mayLook wsX3_mayLook rm_X3_mayLook DD aC tt [.ref q0] [(q0, .inr (3, [.ref q1, .ref q2, .ref q3, .ref q4, .ref q5, .int choices, .int item, .int place, .int looks])), (q1, .inl (aC 0, 513, .inl choiceItems)), (q2, .inl (aC 0, 513, .inl choiceLeast)), (q3, .inl (aC 0, 513, .inl choicePlaces)), (q4, .inl (aC 0, 32, .inl starts)), (q5, .inl (aC 0, 32, .inl lengths))] (some (.int u.1)) [(q0, .inr (3, [.ref q1, .ref q2, .ref q3, .ref q4, .ref q5, .int choices, .int item, .int place, .int u.2])), (q1, .inl (aC 0, 513, .inl choiceItems)), (q2, .inl (aC 0, 513, .inl choiceLeast)), (q3, .inl (aC 0, 513, .inl choicePlaces)), (q4, .inl (aC 0, 32, .inl starts)), (q5, .inl (aC 0, 32, .inl lengths))] := by
  refine k_start (cc := cX3_mayLook) (maxL := 1) (ret := (some .boolean)) (own := RX3) (lv0 := [(0, .ref q0)]) (by decide) rfl rfl (Nat.le_of_ble_eq_true rfl) rfl (fun p e s m below meth c A ls X hP hD hS hl => ?_)
  obtain ⟨hx, hb, hr, hml, hts, hown, hlocks, hA, hE⟩ := id X
  unfold f_X3_mayLook at hu
  refine lv_aload_n hx hb dX3_mayLook_0 rfl (lv_at hl 0 rfl) ?_
  refine va_get (D := DD) (ci := 3) (v := .int looks) (C := RX3) (T := TX3) (N := 9) hx hb hts (fun w h => List.mem_cons_of_mem _ (inX3 w h)) hown hE.1 hP 0 rfl rfl 8 (by decide) (hts (.fieldLink "TextPatterns$Matcher" 27 "TextPatterns$Matcher" "looks" "I") (List.mem_cons_of_mem _ w_156)) (fun _ h9 => h9) rfl dX3_mayLook_1 ?_
  refine lv_ldc hx hb hown (hts (.constant "TextPatterns$Matcher" 40 100000) (List.mem_cons_of_mem _ w_361)) dX3_mayLook_4 ?_
  refine lv_icmp_lt (tgt := 11) hx hb dX3_mayLook_6 (by decide) (fun c_1 => ?_) (fun c_1 => ?_)
  · replace hu := hu.trans (if_pos c_1)
    refine lv_aload_n hx hb dX3_mayLook_11 rfl (lv_at hl 0 rfl) ?_
    refine lv_dup hx hb dX3_mayLook_12 rfl ?_
    refine va_get (D := DD) (ci := 3) (v := .int looks) (C := RX3) (T := TX3) (N := 9) hx hb hts (fun w h => List.mem_cons_of_mem _ (inX3 w h)) hown hE.1 hP 0 rfl rfl 8 (by decide) (hts (.fieldLink "TextPatterns$Matcher" 27 "TextPatterns$Matcher" "looks" "I") (List.mem_cons_of_mem _ w_156)) (fun _ h9 => h9) rfl dX3_mayLook_13 ?_
    refine lv_iconst (v := 1) hx hb dX3_mayLook_16 (by decide) ?_
    refine lv_iadd hx hb dX3_mayLook_17 ?_
    refine va_put (D := DD) (ci := 3) (v := .int (looks + 1)) (ty := .int) (C := RX3) (T := TX3) (N := 9) hx hb hts (fun w h => List.mem_cons_of_mem _ (inX3 w h)) tyX3 tyX3_ok nmX3 hown hE.1 hP hD hS 0 rfl rfl 8 (by decide) (hts (.fieldLink "TextPatterns$Matcher" 27 "TextPatterns$Matcher" "looks" "I") (List.mem_cons_of_mem _ w_156)) (fun _ h9 => h9) rfl (by decide +kernel) rfl rfl (Nat.le_of_ble_eq_true rfl) dX3_mayLook_18 (fun H locs hP hD hS => ?_)
    have hP : va_P DD vwCl [(q0, .inr (3, [.ref q1, .ref q2, .ref q3, .ref q4, .ref q5, .int choices, .int item, .int place, .int (looks + 1)])), (q1, .inl (aC 0, 513, .inl choiceItems)), (q2, .inl (aC 0, 513, .inl choiceLeast)), (q3, .inl (aC 0, 513, .inl choicePlaces)), (q4, .inl (aC 0, 32, .inl starts)), (q5, .inl (aC 0, 32, .inl lengths))] H := hP
    have hD : va_D A [(q0, .inr (3, [.ref q1, .ref q2, .ref q3, .ref q4, .ref q5, .int choices, .int item, .int place, .int (looks + 1)])), (q1, .inl (aC 0, 513, .inl choiceItems)), (q2, .inl (aC 0, 513, .inl choiceLeast)), (q3, .inl (aC 0, 513, .inl choicePlaces)), (q4, .inl (aC 0, 32, .inl starts)), (q5, .inl (aC 0, 32, .inl lengths))] := hD
    refine lv_iconst (v := 1) hx hb dX3_mayLook_21 (by decide) ?_
    subst hu
    exact k_zret hx hb hr (by decide) hlocks hP hD hS rfl rfl dX3_mayLook_22
  · replace hu := hu.trans (if_neg c_1)
    refine lv_iconst (v := 0) hx hb dX3_mayLook_9 (by decide) ?_
    subst hu
    exact k_zret hx hb hr (by decide) hlocks hP hD hS rfl rfl dX3_mayLook_10
def f_X3_addChoice (choices : Int32) (item : Int32) (choiceItems : Nat → Int32) (choiceLeast : Nat → Int32) (choicePlaces : Nat → Int32) (a1 : Int32) (a2 : Int32) : Int32 × (Nat → Int32) × (Nat → Int32) × (Nat → Int32) := (if (513 : Int32) ≤ choices then (choices, choiceItems, choiceLeast, choicePlaces) else (choices + 1, upd choiceItems choices.toNatClampNeg item, upd choiceLeast choices.toNatClampNeg a1, upd choicePlaces choices.toNatClampNeg a2))
set_option maxHeartbeats 4000000 in
theorem pf_X3_addChoice {choices : Int32} {item : Int32} {choiceItems : Nat → Int32} {choiceLeast : Nat → Int32} {choicePlaces : Nat → Int32} {a1 : Int32} {a2 : Int32} (hp_0 : 0 ≤ choices.toInt) {u : Int32 × (Nat → Int32) × (Nat → Int32) × (Nat → Int32)} (hu : u = f_X3_addChoice choices item choiceItems choiceLeast choicePlaces a1 a2) : 0 ≤ u.1.toInt := by
  unfold f_X3_addChoice at hu
  rcases Classical.em ((513 : Int32) ≤ choices) with c_1 | c_1
  · replace hu := hu.trans (if_pos c_1)
    rw [hu]
    exact show 0 ≤ choices.toInt from hp_0
  · replace hu := hu.trans (if_neg c_1)
    rw [hu]
    exact show 0 ≤ (choices + 1).toInt from (show 0 ≤ (choices + 1).toInt from (by have i1 := kx_nle c_1; have i2 := kx_rng (choices + 1); have i3 := kx_rng (choices); have i5 : (513 : Int32).toInt = 513 := (by decide); first | omega | (have i4 := kx_addK choices (y := 1) (k := 1) (by decide); omega)))
abbrev rm_X3_addChoice : Room := { frames := 0, cells := 0, slots := 0, locals := 0 }
set_option maxHeartbeats 4000000 in
set_option maxRecDepth 100000 in
theorem c_X3_addChoice (l : Launch) (DD : va_G) (aC : Nat → ClassId) (tt : Nat → Nat) (q0 q1 q2 q3 q4 q5 : Nat) (choices : Int32) (item : Int32) (place : Int32) (looks : Int32) (choiceItems : Nat → Int32) (choiceLeast : Nat → Int32) (choicePlaces : Nat → Int32) (starts : Nat → Int32) (lengths : Nat → Int32) (a1 : Int32) (a2 : Int32) (hp_0 : 0 ≤ choices.toInt) (u : Int32 × (Nat → Int32) × (Nat → Int32) × (Nat → Int32)) (hu : u = f_X3_addChoice choices item choiceItems choiceLeast choicePlaces a1 a2) : kM l yX3_addChoice wsX3_addChoice rm_X3_addChoice DD aC tt [.ref q0, .int a1, .int a2] [(q0, .inr (3, [.ref q1, .ref q2, .ref q3, .ref q4, .ref q5, .int choices, .int item, .int place, .int looks])), (q1, .inl (aC 0, 513, .inl choiceItems)), (q2, .inl (aC 0, 513, .inl choiceLeast)), (q3, .inl (aC 0, 513, .inl choicePlaces)), (q4, .inl (aC 0, 32, .inl starts)), (q5, .inl (aC 0, 32, .inl lengths))] none [(q0, .inr (3, [.ref q1, .ref q2, .ref q3, .ref q4, .ref q5, .int u.1, .int item, .int place, .int looks])), (q1, .inl (aC 0, 513, .inl u.2.1)), (q2, .inl (aC 0, 513, .inl u.2.2.1)), (q3, .inl (aC 0, 513, .inl u.2.2.2)), (q4, .inl (aC 0, 32, .inl starts)), (q5, .inl (aC 0, 32, .inl lengths))] := by
  refine k_start (cc := cX3_addChoice) (maxL := 3) (ret := none) (own := RX3) (lv0 := [(0, .ref q0), (1, .int a1), (2, .int a2)]) (by decide) rfl rfl (Nat.le_of_ble_eq_true rfl) rfl (fun p e s m below meth c A ls X hP hD hS hl => ?_)
  obtain ⟨hx, hb, hr, hml, hts, hown, hlocks, hA, hE⟩ := id X
  unfold f_X3_addChoice at hu
  refine lv_aload_n hx hb dX3_addChoice_0 rfl (lv_at hl 0 rfl) ?_
  refine va_get (D := DD) (ci := 3) (v := .int choices) (C := RX3) (T := TX3) (N := 9) hx hb hts (fun w h => List.mem_cons_of_mem _ (inX3 w h)) hown hE.1 hP 0 rfl rfl 5 (by decide) (hts (.fieldLink "TextPatterns$Matcher" 34 "TextPatterns$Matcher" "choices" "I") (List.mem_cons_of_mem _ w_153)) (fun _ h9 => h9) rfl dX3_addChoice_1 ?_
  refine lv_aload_n hx hb dX3_addChoice_4 rfl (lv_at hl 0 rfl) ?_
  refine va_get (D := DD) (ci := 3) (v := .ref q1) (C := RX3) (T := TX3) (N := 9) hx hb hts (fun w h => List.mem_cons_of_mem _ (inX3 w h)) hown hE.1 hP 0 rfl rfl 0 (by decide) (hts (.fieldLink "TextPatterns$Matcher" 9 "TextPatterns$Matcher" "choiceItems" "[I") (List.mem_cons_of_mem _ w_148)) (fun _ h9 => h9) rfl dX3_addChoice_5 ?_
  refine va_alen (v := 513) hx hb hE.1 hP 1 0 rfl rfl rfl dX3_addChoice_8 ?_
  refine lv_icmp_ge (tgt := 79) hx hb dX3_addChoice_9 (by decide) (fun c_1 => ?_) (fun c_1 => ?_)
  · replace hu := hu.trans (if_pos c_1)
    subst hu
    exact k_vret hx hb hr hlocks hP hD hS rfl rfl dX3_addChoice_79
  · replace hu := hu.trans (if_neg c_1)
    refine lv_aload_n hx hb dX3_addChoice_12 rfl (lv_at hl 0 rfl) ?_
    refine va_get (D := DD) (ci := 3) (v := .int choices) (C := RX3) (T := TX3) (N := 9) hx hb hts (fun w h => List.mem_cons_of_mem _ (inX3 w h)) hown hE.1 hP 0 rfl rfl 5 (by decide) (hts (.fieldLink "TextPatterns$Matcher" 34 "TextPatterns$Matcher" "choices" "I") (List.mem_cons_of_mem _ w_153)) (fun _ h9 => h9) rfl dX3_addChoice_13 ?_
    refine lv_aload_n hx hb dX3_addChoice_16 rfl (lv_at hl 0 rfl) ?_
    refine va_get (D := DD) (ci := 3) (v := .ref q2) (C := RX3) (T := TX3) (N := 9) hx hb hts (fun w h => List.mem_cons_of_mem _ (inX3 w h)) hown hE.1 hP 0 rfl rfl 1 (by decide) (hts (.fieldLink "TextPatterns$Matcher" 15 "TextPatterns$Matcher" "choiceLeast" "[I") (List.mem_cons_of_mem _ w_149)) (fun _ h9 => h9) rfl dX3_addChoice_17 ?_
    refine va_alen (v := 513) hx hb hE.1 hP 2 0 rfl rfl rfl dX3_addChoice_20 ?_
    refine lv_icmp_ge (tgt := 79) hx hb dX3_addChoice_21 (by decide) (fun h => absurd h c_1) (fun _ => ?_)
    refine lv_aload_n hx hb dX3_addChoice_24 rfl (lv_at hl 0 rfl) ?_
    refine va_get (D := DD) (ci := 3) (v := .int choices) (C := RX3) (T := TX3) (N := 9) hx hb hts (fun w h => List.mem_cons_of_mem _ (inX3 w h)) hown hE.1 hP 0 rfl rfl 5 (by decide) (hts (.fieldLink "TextPatterns$Matcher" 34 "TextPatterns$Matcher" "choices" "I") (List.mem_cons_of_mem _ w_153)) (fun _ h9 => h9) rfl dX3_addChoice_25 ?_
    refine lv_aload_n hx hb dX3_addChoice_28 rfl (lv_at hl 0 rfl) ?_
    refine va_get (D := DD) (ci := 3) (v := .ref q3) (C := RX3) (T := TX3) (N := 9) hx hb hts (fun w h => List.mem_cons_of_mem _ (inX3 w h)) hown hE.1 hP 0 rfl rfl 2 (by decide) (hts (.fieldLink "TextPatterns$Matcher" 18 "TextPatterns$Matcher" "choicePlaces" "[I") (List.mem_cons_of_mem _ w_150)) (fun _ h9 => h9) rfl dX3_addChoice_29 ?_
    refine va_alen (v := 513) hx hb hE.1 hP 3 0 rfl rfl rfl dX3_addChoice_32 ?_
    refine lv_icmp_ge (tgt := 79) hx hb dX3_addChoice_33 (by decide) (fun h => absurd h c_1) (fun _ => ?_)
    refine lv_aload_n hx hb dX3_addChoice_36 rfl (lv_at hl 0 rfl) ?_
    refine va_get (D := DD) (ci := 3) (v := .ref q1) (C := RX3) (T := TX3) (N := 9) hx hb hts (fun w h => List.mem_cons_of_mem _ (inX3 w h)) hown hE.1 hP 0 rfl rfl 0 (by decide) (hts (.fieldLink "TextPatterns$Matcher" 9 "TextPatterns$Matcher" "choiceItems" "[I") (List.mem_cons_of_mem _ w_148)) (fun _ h9 => h9) rfl dX3_addChoice_37 ?_
    refine lv_aload_n hx hb dX3_addChoice_40 rfl (lv_at hl 0 rfl) ?_
    refine va_get (D := DD) (ci := 3) (v := .int choices) (C := RX3) (T := TX3) (N := 9) hx hb hts (fun w h => List.mem_cons_of_mem _ (inX3 w h)) hown hE.1 hP 0 rfl rfl 5 (by decide) (hts (.fieldLink "TextPatterns$Matcher" 34 "TextPatterns$Matcher" "choices" "I") (List.mem_cons_of_mem _ w_153)) (fun _ h9 => h9) rfl dX3_addChoice_41 ?_
    refine lv_aload_n hx hb dX3_addChoice_44 rfl (lv_at hl 0 rfl) ?_
    refine va_get (D := DD) (ci := 3) (v := .int item) (C := RX3) (T := TX3) (N := 9) hx hb hts (fun w h => List.mem_cons_of_mem _ (inX3 w h)) hown hE.1 hP 0 rfl rfl 6 (by decide) (hts (.fieldLink "TextPatterns$Matcher" 37 "TextPatterns$Matcher" "item" "I") (List.mem_cons_of_mem _ w_154)) (fun _ h9 => h9) rfl dX3_addChoice_45 ?_
    refine va_iast hx hb hE.1 hP hD hS 1 0 rfl rfl (kb_in (by have i1 := kx_nle c_1; have i2 := kx_rng (choices); have i3 : (513 : Int32).toInt = 513 := (by decide); omega) (kb_nle c_1 (by decide))) dX3_addChoice_48 (fun H locs hP hD hS => ?_)
    have hP : va_P DD vwCl [(q0, .inr (3, [.ref q1, .ref q2, .ref q3, .ref q4, .ref q5, .int choices, .int item, .int place, .int looks])), (q1, .inl (aC 0, 513, .inl (upd choiceItems choices.toNatClampNeg item))), (q2, .inl (aC 0, 513, .inl choiceLeast)), (q3, .inl (aC 0, 513, .inl choicePlaces)), (q4, .inl (aC 0, 32, .inl starts)), (q5, .inl (aC 0, 32, .inl lengths))] H := hP
    have hD : va_D A [(q0, .inr (3, [.ref q1, .ref q2, .ref q3, .ref q4, .ref q5, .int choices, .int item, .int place, .int looks])), (q1, .inl (aC 0, 513, .inl (upd choiceItems choices.toNatClampNeg item))), (q2, .inl (aC 0, 513, .inl choiceLeast)), (q3, .inl (aC 0, 513, .inl choicePlaces)), (q4, .inl (aC 0, 32, .inl starts)), (q5, .inl (aC 0, 32, .inl lengths))] := hD
    refine lv_aload_n hx hb dX3_addChoice_49 rfl (lv_at hl 0 rfl) ?_
    refine va_get (D := DD) (ci := 3) (v := .ref q2) (C := RX3) (T := TX3) (N := 9) hx hb hts (fun w h => List.mem_cons_of_mem _ (inX3 w h)) hown hE.1 hP 0 rfl rfl 1 (by decide) (hts (.fieldLink "TextPatterns$Matcher" 15 "TextPatterns$Matcher" "choiceLeast" "[I") (List.mem_cons_of_mem _ w_149)) (fun _ h9 => h9) rfl dX3_addChoice_50 ?_
    refine lv_aload_n hx hb dX3_addChoice_53 rfl (lv_at hl 0 rfl) ?_
    refine va_get (D := DD) (ci := 3) (v := .int choices) (C := RX3) (T := TX3) (N := 9) hx hb hts (fun w h => List.mem_cons_of_mem _ (inX3 w h)) hown hE.1 hP 0 rfl rfl 5 (by decide) (hts (.fieldLink "TextPatterns$Matcher" 34 "TextPatterns$Matcher" "choices" "I") (List.mem_cons_of_mem _ w_153)) (fun _ h9 => h9) rfl dX3_addChoice_54 ?_
    refine lv_iload_n hx hb dX3_addChoice_57 rfl (lv_at hl 1 rfl) ?_
    refine va_iast hx hb hE.1 hP hD hS 2 0 rfl rfl (kb_in (by have i1 := kx_nle c_1; have i2 := kx_rng (choices); have i3 : (513 : Int32).toInt = 513 := (by decide); omega) (kb_nle c_1 (by decide))) dX3_addChoice_58 (fun H locs hP hD hS => ?_)
    have hP : va_P DD vwCl [(q0, .inr (3, [.ref q1, .ref q2, .ref q3, .ref q4, .ref q5, .int choices, .int item, .int place, .int looks])), (q1, .inl (aC 0, 513, .inl (upd choiceItems choices.toNatClampNeg item))), (q2, .inl (aC 0, 513, .inl (upd choiceLeast choices.toNatClampNeg a1))), (q3, .inl (aC 0, 513, .inl choicePlaces)), (q4, .inl (aC 0, 32, .inl starts)), (q5, .inl (aC 0, 32, .inl lengths))] H := hP
    have hD : va_D A [(q0, .inr (3, [.ref q1, .ref q2, .ref q3, .ref q4, .ref q5, .int choices, .int item, .int place, .int looks])), (q1, .inl (aC 0, 513, .inl (upd choiceItems choices.toNatClampNeg item))), (q2, .inl (aC 0, 513, .inl (upd choiceLeast choices.toNatClampNeg a1))), (q3, .inl (aC 0, 513, .inl choicePlaces)), (q4, .inl (aC 0, 32, .inl starts)), (q5, .inl (aC 0, 32, .inl lengths))] := hD
    refine lv_aload_n hx hb dX3_addChoice_59 rfl (lv_at hl 0 rfl) ?_
    refine va_get (D := DD) (ci := 3) (v := .ref q3) (C := RX3) (T := TX3) (N := 9) hx hb hts (fun w h => List.mem_cons_of_mem _ (inX3 w h)) hown hE.1 hP 0 rfl rfl 2 (by decide) (hts (.fieldLink "TextPatterns$Matcher" 18 "TextPatterns$Matcher" "choicePlaces" "[I") (List.mem_cons_of_mem _ w_150)) (fun _ h9 => h9) rfl dX3_addChoice_60 ?_
    refine lv_aload_n hx hb dX3_addChoice_63 rfl (lv_at hl 0 rfl) ?_
    refine va_get (D := DD) (ci := 3) (v := .int choices) (C := RX3) (T := TX3) (N := 9) hx hb hts (fun w h => List.mem_cons_of_mem _ (inX3 w h)) hown hE.1 hP 0 rfl rfl 5 (by decide) (hts (.fieldLink "TextPatterns$Matcher" 34 "TextPatterns$Matcher" "choices" "I") (List.mem_cons_of_mem _ w_153)) (fun _ h9 => h9) rfl dX3_addChoice_64 ?_
    refine lv_iload_n hx hb dX3_addChoice_67 rfl (lv_at hl 2 rfl) ?_
    refine va_iast hx hb hE.1 hP hD hS 3 0 rfl rfl (kb_in (by have i1 := kx_nle c_1; have i2 := kx_rng (choices); have i3 : (513 : Int32).toInt = 513 := (by decide); omega) (kb_nle c_1 (by decide))) dX3_addChoice_68 (fun H locs hP hD hS => ?_)
    have hP : va_P DD vwCl [(q0, .inr (3, [.ref q1, .ref q2, .ref q3, .ref q4, .ref q5, .int choices, .int item, .int place, .int looks])), (q1, .inl (aC 0, 513, .inl (upd choiceItems choices.toNatClampNeg item))), (q2, .inl (aC 0, 513, .inl (upd choiceLeast choices.toNatClampNeg a1))), (q3, .inl (aC 0, 513, .inl (upd choicePlaces choices.toNatClampNeg a2))), (q4, .inl (aC 0, 32, .inl starts)), (q5, .inl (aC 0, 32, .inl lengths))] H := hP
    have hD : va_D A [(q0, .inr (3, [.ref q1, .ref q2, .ref q3, .ref q4, .ref q5, .int choices, .int item, .int place, .int looks])), (q1, .inl (aC 0, 513, .inl (upd choiceItems choices.toNatClampNeg item))), (q2, .inl (aC 0, 513, .inl (upd choiceLeast choices.toNatClampNeg a1))), (q3, .inl (aC 0, 513, .inl (upd choicePlaces choices.toNatClampNeg a2))), (q4, .inl (aC 0, 32, .inl starts)), (q5, .inl (aC 0, 32, .inl lengths))] := hD
    refine lv_aload_n hx hb dX3_addChoice_69 rfl (lv_at hl 0 rfl) ?_
    refine lv_dup hx hb dX3_addChoice_70 rfl ?_
    refine va_get (D := DD) (ci := 3) (v := .int choices) (C := RX3) (T := TX3) (N := 9) hx hb hts (fun w h => List.mem_cons_of_mem _ (inX3 w h)) hown hE.1 hP 0 rfl rfl 5 (by decide) (hts (.fieldLink "TextPatterns$Matcher" 34 "TextPatterns$Matcher" "choices" "I") (List.mem_cons_of_mem _ w_153)) (fun _ h9 => h9) rfl dX3_addChoice_71 ?_
    refine lv_iconst (v := 1) hx hb dX3_addChoice_74 (by decide) ?_
    refine lv_iadd hx hb dX3_addChoice_75 ?_
    refine va_put (D := DD) (ci := 3) (v := .int (choices + 1)) (ty := .int) (C := RX3) (T := TX3) (N := 9) hx hb hts (fun w h => List.mem_cons_of_mem _ (inX3 w h)) tyX3 tyX3_ok nmX3 hown hE.1 hP hD hS 0 rfl rfl 5 (by decide) (hts (.fieldLink "TextPatterns$Matcher" 34 "TextPatterns$Matcher" "choices" "I") (List.mem_cons_of_mem _ w_153)) (fun _ h9 => h9) rfl (by decide +kernel) rfl rfl (Nat.le_of_ble_eq_true rfl) dX3_addChoice_76 (fun H locs hP hD hS => ?_)
    have hP : va_P DD vwCl [(q0, .inr (3, [.ref q1, .ref q2, .ref q3, .ref q4, .ref q5, .int (choices + 1), .int item, .int place, .int looks])), (q1, .inl (aC 0, 513, .inl (upd choiceItems choices.toNatClampNeg item))), (q2, .inl (aC 0, 513, .inl (upd choiceLeast choices.toNatClampNeg a1))), (q3, .inl (aC 0, 513, .inl (upd choicePlaces choices.toNatClampNeg a2))), (q4, .inl (aC 0, 32, .inl starts)), (q5, .inl (aC 0, 32, .inl lengths))] H := hP
    have hD : va_D A [(q0, .inr (3, [.ref q1, .ref q2, .ref q3, .ref q4, .ref q5, .int (choices + 1), .int item, .int place, .int looks])), (q1, .inl (aC 0, 513, .inl (upd choiceItems choices.toNatClampNeg item))), (q2, .inl (aC 0, 513, .inl (upd choiceLeast choices.toNatClampNeg a1))), (q3, .inl (aC 0, 513, .inl (upd choicePlaces choices.toNatClampNeg a2))), (q4, .inl (aC 0, 32, .inl starts)), (q5, .inl (aC 0, 32, .inl lengths))] := hD
    subst hu
    exact k_vret hx hb hr hlocks hP hD hS rfl rfl dX3_addChoice_79
def f_X3_setStart (place : Int32) (starts : Nat → Int32) (lengths : Nat → Int32) (a1 : Int32) : (Nat → Int32) × (Nat → Int32) := (if a1 < 0 then (starts, lengths) else (if (32 : Int32) ≤ a1 then (starts, lengths) else (upd starts a1.toNatClampNeg place, upd lengths a1.toNatClampNeg (-1))))
abbrev rm_X3_setStart : Room := { frames := 0, cells := 0, slots := 0, locals := 0 }
set_option maxHeartbeats 4000000 in
set_option maxRecDepth 100000 in
theorem c_X3_setStart (l : Launch) (DD : va_G) (aC : Nat → ClassId) (tt : Nat → Nat) (q0 q1 q2 q3 q4 q5 : Nat) (choices : Int32) (item : Int32) (place : Int32) (looks : Int32) (choiceItems : Nat → Int32) (choiceLeast : Nat → Int32) (choicePlaces : Nat → Int32) (starts : Nat → Int32) (lengths : Nat → Int32) (a1 : Int32) (u : (Nat → Int32) × (Nat → Int32)) (hu : u = f_X3_setStart place starts lengths a1) : kM l yX3_setStart wsX3_setStart rm_X3_setStart DD aC tt [.ref q0, .int a1] [(q0, .inr (3, [.ref q1, .ref q2, .ref q3, .ref q4, .ref q5, .int choices, .int item, .int place, .int looks])), (q1, .inl (aC 0, 513, .inl choiceItems)), (q2, .inl (aC 0, 513, .inl choiceLeast)), (q3, .inl (aC 0, 513, .inl choicePlaces)), (q4, .inl (aC 0, 32, .inl starts)), (q5, .inl (aC 0, 32, .inl lengths))] none [(q0, .inr (3, [.ref q1, .ref q2, .ref q3, .ref q4, .ref q5, .int choices, .int item, .int place, .int looks])), (q1, .inl (aC 0, 513, .inl choiceItems)), (q2, .inl (aC 0, 513, .inl choiceLeast)), (q3, .inl (aC 0, 513, .inl choicePlaces)), (q4, .inl (aC 0, 32, .inl u.1)), (q5, .inl (aC 0, 32, .inl u.2))] := by
  refine k_start (cc := cX3_setStart) (maxL := 2) (ret := none) (own := RX3) (lv0 := [(0, .ref q0), (1, .int a1)]) (by decide) rfl rfl (Nat.le_of_ble_eq_true rfl) rfl (fun p e s m below meth c A ls X hP hD hS hl => ?_)
  obtain ⟨hx, hb, hr, hml, hts, hown, hlocks, hA, hE⟩ := id X
  unfold f_X3_setStart at hu
  refine lv_iload_n hx hb dX3_setStart_0 rfl (lv_at hl 1 rfl) ?_
  refine lv_if_lt (tgt := 39) hx hb dX3_setStart_1 (by decide) (fun c_1 => ?_) (fun c_1 => ?_)
  · replace hu := hu.trans (if_pos c_1)
    subst hu
    exact k_vret hx hb hr hlocks hP hD hS rfl rfl dX3_setStart_39
  · replace hu := hu.trans (if_neg c_1)
    refine lv_iload_n hx hb dX3_setStart_4 rfl (lv_at hl 1 rfl) ?_
    refine lv_aload_n hx hb dX3_setStart_5 rfl (lv_at hl 0 rfl) ?_
    refine va_get (D := DD) (ci := 3) (v := .ref q4) (C := RX3) (T := TX3) (N := 9) hx hb hts (fun w h => List.mem_cons_of_mem _ (inX3 w h)) hown hE.1 hP 0 rfl rfl 3 (by decide) (hts (.fieldLink "TextPatterns$Matcher" 21 "TextPatterns$Matcher" "starts" "[I") (List.mem_cons_of_mem _ w_151)) (fun _ h9 => h9) rfl dX3_setStart_6 ?_
    refine va_alen (v := 32) hx hb hE.1 hP 4 0 rfl rfl rfl dX3_setStart_9 ?_
    refine lv_icmp_ge (tgt := 39) hx hb dX3_setStart_10 (by decide) (fun c_2 => ?_) (fun c_2 => ?_)
    · replace hu := hu.trans (if_pos c_2)
      subst hu
      exact k_vret hx hb hr hlocks hP hD hS rfl rfl dX3_setStart_39
    · replace hu := hu.trans (if_neg c_2)
      refine lv_iload_n hx hb dX3_setStart_13 rfl (lv_at hl 1 rfl) ?_
      refine lv_aload_n hx hb dX3_setStart_14 rfl (lv_at hl 0 rfl) ?_
      refine va_get (D := DD) (ci := 3) (v := .ref q5) (C := RX3) (T := TX3) (N := 9) hx hb hts (fun w h => List.mem_cons_of_mem _ (inX3 w h)) hown hE.1 hP 0 rfl rfl 4 (by decide) (hts (.fieldLink "TextPatterns$Matcher" 24 "TextPatterns$Matcher" "lengths" "[I") (List.mem_cons_of_mem _ w_152)) (fun _ h9 => h9) rfl dX3_setStart_15 ?_
      refine va_alen (v := 32) hx hb hE.1 hP 5 0 rfl rfl rfl dX3_setStart_18 ?_
      refine lv_icmp_ge (tgt := 39) hx hb dX3_setStart_19 (by decide) (fun h => absurd h c_2) (fun _ => ?_)
      refine lv_aload_n hx hb dX3_setStart_22 rfl (lv_at hl 0 rfl) ?_
      refine va_get (D := DD) (ci := 3) (v := .ref q4) (C := RX3) (T := TX3) (N := 9) hx hb hts (fun w h => List.mem_cons_of_mem _ (inX3 w h)) hown hE.1 hP 0 rfl rfl 3 (by decide) (hts (.fieldLink "TextPatterns$Matcher" 21 "TextPatterns$Matcher" "starts" "[I") (List.mem_cons_of_mem _ w_151)) (fun _ h9 => h9) rfl dX3_setStart_23 ?_
      refine lv_iload_n hx hb dX3_setStart_26 rfl (lv_at hl 1 rfl) ?_
      refine lv_aload_n hx hb dX3_setStart_27 rfl (lv_at hl 0 rfl) ?_
      refine va_get (D := DD) (ci := 3) (v := .int place) (C := RX3) (T := TX3) (N := 9) hx hb hts (fun w h => List.mem_cons_of_mem _ (inX3 w h)) hown hE.1 hP 0 rfl rfl 7 (by decide) (hts (.fieldLink "TextPatterns$Matcher" 31 "TextPatterns$Matcher" "place" "I") (List.mem_cons_of_mem _ w_155)) (fun _ h9 => h9) rfl dX3_setStart_28 ?_
      refine va_iast hx hb hE.1 hP hD hS 4 0 rfl rfl (kb_in (kb_nlt0 c_1) (kb_nle c_2 (by decide))) dX3_setStart_31 (fun H locs hP hD hS => ?_)
      have hP : va_P DD vwCl [(q0, .inr (3, [.ref q1, .ref q2, .ref q3, .ref q4, .ref q5, .int choices, .int item, .int place, .int looks])), (q1, .inl (aC 0, 513, .inl choiceItems)), (q2, .inl (aC 0, 513, .inl choiceLeast)), (q3, .inl (aC 0, 513, .inl choicePlaces)), (q4, .inl (aC 0, 32, .inl (upd starts a1.toNatClampNeg place))), (q5, .inl (aC 0, 32, .inl lengths))] H := hP
      have hD : va_D A [(q0, .inr (3, [.ref q1, .ref q2, .ref q3, .ref q4, .ref q5, .int choices, .int item, .int place, .int looks])), (q1, .inl (aC 0, 513, .inl choiceItems)), (q2, .inl (aC 0, 513, .inl choiceLeast)), (q3, .inl (aC 0, 513, .inl choicePlaces)), (q4, .inl (aC 0, 32, .inl (upd starts a1.toNatClampNeg place))), (q5, .inl (aC 0, 32, .inl lengths))] := hD
      refine lv_aload_n hx hb dX3_setStart_32 rfl (lv_at hl 0 rfl) ?_
      refine va_get (D := DD) (ci := 3) (v := .ref q5) (C := RX3) (T := TX3) (N := 9) hx hb hts (fun w h => List.mem_cons_of_mem _ (inX3 w h)) hown hE.1 hP 0 rfl rfl 4 (by decide) (hts (.fieldLink "TextPatterns$Matcher" 24 "TextPatterns$Matcher" "lengths" "[I") (List.mem_cons_of_mem _ w_152)) (fun _ h9 => h9) rfl dX3_setStart_33 ?_
      refine lv_iload_n hx hb dX3_setStart_36 rfl (lv_at hl 1 rfl) ?_
      refine lv_iconst (v := (-1)) hx hb dX3_setStart_37 (by decide) ?_
      refine va_iast hx hb hE.1 hP hD hS 5 0 rfl rfl (kb_in (kb_nlt0 c_1) (kb_nle c_2 (by decide))) dX3_setStart_38 (fun H locs hP hD hS => ?_)
      have hP : va_P DD vwCl [(q0, .inr (3, [.ref q1, .ref q2, .ref q3, .ref q4, .ref q5, .int choices, .int item, .int place, .int looks])), (q1, .inl (aC 0, 513, .inl choiceItems)), (q2, .inl (aC 0, 513, .inl choiceLeast)), (q3, .inl (aC 0, 513, .inl choicePlaces)), (q4, .inl (aC 0, 32, .inl (upd starts a1.toNatClampNeg place))), (q5, .inl (aC 0, 32, .inl (upd lengths a1.toNatClampNeg (-1))))] H := hP
      have hD : va_D A [(q0, .inr (3, [.ref q1, .ref q2, .ref q3, .ref q4, .ref q5, .int choices, .int item, .int place, .int looks])), (q1, .inl (aC 0, 513, .inl choiceItems)), (q2, .inl (aC 0, 513, .inl choiceLeast)), (q3, .inl (aC 0, 513, .inl choicePlaces)), (q4, .inl (aC 0, 32, .inl (upd starts a1.toNatClampNeg place))), (q5, .inl (aC 0, 32, .inl (upd lengths a1.toNatClampNeg (-1))))] := hD
      subst hu
      exact k_vret hx hb hr hlocks hP hD hS rfl rfl dX3_setStart_39
def f_X3_setLength (place : Int32) (starts : Nat → Int32) (lengths : Nat → Int32) (a1 : Int32) : (Nat → Int32) := (if a1 < 0 then lengths else (if (32 : Int32) ≤ a1 then lengths else (upd lengths a1.toNatClampNeg (place - (starts a1.toNatClampNeg)))))
abbrev rm_X3_setLength : Room := { frames := 0, cells := 0, slots := 0, locals := 0 }
set_option maxHeartbeats 4000000 in
set_option maxRecDepth 100000 in
theorem c_X3_setLength (l : Launch) (DD : va_G) (aC : Nat → ClassId) (tt : Nat → Nat) (q0 q1 q2 q3 q4 q5 : Nat) (choices : Int32) (item : Int32) (place : Int32) (looks : Int32) (choiceItems : Nat → Int32) (choiceLeast : Nat → Int32) (choicePlaces : Nat → Int32) (starts : Nat → Int32) (lengths : Nat → Int32) (a1 : Int32) (u : (Nat → Int32)) (hu : u = f_X3_setLength place starts lengths a1) : kM l yX3_setLength wsX3_setLength rm_X3_setLength DD aC tt [.ref q0, .int a1] [(q0, .inr (3, [.ref q1, .ref q2, .ref q3, .ref q4, .ref q5, .int choices, .int item, .int place, .int looks])), (q1, .inl (aC 0, 513, .inl choiceItems)), (q2, .inl (aC 0, 513, .inl choiceLeast)), (q3, .inl (aC 0, 513, .inl choicePlaces)), (q4, .inl (aC 0, 32, .inl starts)), (q5, .inl (aC 0, 32, .inl lengths))] none [(q0, .inr (3, [.ref q1, .ref q2, .ref q3, .ref q4, .ref q5, .int choices, .int item, .int place, .int looks])), (q1, .inl (aC 0, 513, .inl choiceItems)), (q2, .inl (aC 0, 513, .inl choiceLeast)), (q3, .inl (aC 0, 513, .inl choicePlaces)), (q4, .inl (aC 0, 32, .inl starts)), (q5, .inl (aC 0, 32, .inl u))] := by
  refine k_start (cc := cX3_setLength) (maxL := 2) (ret := none) (own := RX3) (lv0 := [(0, .ref q0), (1, .int a1)]) (by decide) rfl rfl (Nat.le_of_ble_eq_true rfl) rfl (fun p e s m below meth c A ls X hP hD hS hl => ?_)
  obtain ⟨hx, hb, hr, hml, hts, hown, hlocks, hA, hE⟩ := id X
  unfold f_X3_setLength at hu
  refine lv_iload_n hx hb dX3_setLength_0 rfl (lv_at hl 1 rfl) ?_
  refine lv_if_lt (tgt := 39) hx hb dX3_setLength_1 (by decide) (fun c_1 => ?_) (fun c_1 => ?_)
  · replace hu := hu.trans (if_pos c_1)
    subst hu
    exact k_vret hx hb hr hlocks hP hD hS rfl rfl dX3_setLength_39
  · replace hu := hu.trans (if_neg c_1)
    refine lv_iload_n hx hb dX3_setLength_4 rfl (lv_at hl 1 rfl) ?_
    refine lv_aload_n hx hb dX3_setLength_5 rfl (lv_at hl 0 rfl) ?_
    refine va_get (D := DD) (ci := 3) (v := .ref q4) (C := RX3) (T := TX3) (N := 9) hx hb hts (fun w h => List.mem_cons_of_mem _ (inX3 w h)) hown hE.1 hP 0 rfl rfl 3 (by decide) (hts (.fieldLink "TextPatterns$Matcher" 21 "TextPatterns$Matcher" "starts" "[I") (List.mem_cons_of_mem _ w_151)) (fun _ h9 => h9) rfl dX3_setLength_6 ?_
    refine va_alen (v := 32) hx hb hE.1 hP 4 0 rfl rfl rfl dX3_setLength_9 ?_
    refine lv_icmp_ge (tgt := 39) hx hb dX3_setLength_10 (by decide) (fun c_2 => ?_) (fun c_2 => ?_)
    · replace hu := hu.trans (if_pos c_2)
      subst hu
      exact k_vret hx hb hr hlocks hP hD hS rfl rfl dX3_setLength_39
    · replace hu := hu.trans (if_neg c_2)
      refine lv_iload_n hx hb dX3_setLength_13 rfl (lv_at hl 1 rfl) ?_
      refine lv_aload_n hx hb dX3_setLength_14 rfl (lv_at hl 0 rfl) ?_
      refine va_get (D := DD) (ci := 3) (v := .ref q5) (C := RX3) (T := TX3) (N := 9) hx hb hts (fun w h => List.mem_cons_of_mem _ (inX3 w h)) hown hE.1 hP 0 rfl rfl 4 (by decide) (hts (.fieldLink "TextPatterns$Matcher" 24 "TextPatterns$Matcher" "lengths" "[I") (List.mem_cons_of_mem _ w_152)) (fun _ h9 => h9) rfl dX3_setLength_15 ?_
      refine va_alen (v := 32) hx hb hE.1 hP 5 0 rfl rfl rfl dX3_setLength_18 ?_
      refine lv_icmp_ge (tgt := 39) hx hb dX3_setLength_19 (by decide) (fun h => absurd h c_2) (fun _ => ?_)
      refine lv_aload_n hx hb dX3_setLength_22 rfl (lv_at hl 0 rfl) ?_
      refine va_get (D := DD) (ci := 3) (v := .ref q5) (C := RX3) (T := TX3) (N := 9) hx hb hts (fun w h => List.mem_cons_of_mem _ (inX3 w h)) hown hE.1 hP 0 rfl rfl 4 (by decide) (hts (.fieldLink "TextPatterns$Matcher" 24 "TextPatterns$Matcher" "lengths" "[I") (List.mem_cons_of_mem _ w_152)) (fun _ h9 => h9) rfl dX3_setLength_23 ?_
      refine lv_iload_n hx hb dX3_setLength_26 rfl (lv_at hl 1 rfl) ?_
      refine lv_aload_n hx hb dX3_setLength_27 rfl (lv_at hl 0 rfl) ?_
      refine va_get (D := DD) (ci := 3) (v := .int place) (C := RX3) (T := TX3) (N := 9) hx hb hts (fun w h => List.mem_cons_of_mem _ (inX3 w h)) hown hE.1 hP 0 rfl rfl 7 (by decide) (hts (.fieldLink "TextPatterns$Matcher" 31 "TextPatterns$Matcher" "place" "I") (List.mem_cons_of_mem _ w_155)) (fun _ h9 => h9) rfl dX3_setLength_28 ?_
      refine lv_aload_n hx hb dX3_setLength_31 rfl (lv_at hl 0 rfl) ?_
      refine va_get (D := DD) (ci := 3) (v := .ref q4) (C := RX3) (T := TX3) (N := 9) hx hb hts (fun w h => List.mem_cons_of_mem _ (inX3 w h)) hown hE.1 hP 0 rfl rfl 3 (by decide) (hts (.fieldLink "TextPatterns$Matcher" 21 "TextPatterns$Matcher" "starts" "[I") (List.mem_cons_of_mem _ w_151)) (fun _ h9 => h9) rfl dX3_setLength_32 ?_
      refine lv_iload_n hx hb dX3_setLength_35 rfl (lv_at hl 1 rfl) ?_
      refine va_iald hx hb hE.1 hP 4 0 rfl rfl (kb_in (kb_nlt0 c_1) (kb_nle c_2 (by decide))) dX3_setLength_36 ?_
      refine lv_isub hx hb dX3_setLength_37 ?_
      refine va_iast hx hb hE.1 hP hD hS 5 0 rfl rfl (kb_in (kb_nlt0 c_1) (kb_nle c_2 (by decide))) dX3_setLength_38 (fun H locs hP hD hS => ?_)
      have hP : va_P DD vwCl [(q0, .inr (3, [.ref q1, .ref q2, .ref q3, .ref q4, .ref q5, .int choices, .int item, .int place, .int looks])), (q1, .inl (aC 0, 513, .inl choiceItems)), (q2, .inl (aC 0, 513, .inl choiceLeast)), (q3, .inl (aC 0, 513, .inl choicePlaces)), (q4, .inl (aC 0, 32, .inl starts)), (q5, .inl (aC 0, 32, .inl (upd lengths a1.toNatClampNeg (place - (starts a1.toNatClampNeg)))))] H := hP
      have hD : va_D A [(q0, .inr (3, [.ref q1, .ref q2, .ref q3, .ref q4, .ref q5, .int choices, .int item, .int place, .int looks])), (q1, .inl (aC 0, 513, .inl choiceItems)), (q2, .inl (aC 0, 513, .inl choiceLeast)), (q3, .inl (aC 0, 513, .inl choicePlaces)), (q4, .inl (aC 0, 32, .inl starts)), (q5, .inl (aC 0, 32, .inl (upd lengths a1.toNatClampNeg (place - (starts a1.toNatClampNeg)))))] := hD
      subst hu
      exact k_vret hx hb hr hlocks hP hD hS rfl rfl dX3_setLength_39
def f_X3_look (looks : Int32) (it_sets_words : Nat → Int64) (t_length : Int32) (t_bytes : Nat → Int32) (a3 : Int32) (a4 : Int32) : Int32 × Int32 := (kb (f_X0_at t_length t_bytes a4) (fun z_1 => (if z_1 = (-1) then (0, looks) else (kb (f_X3_mayLook looks) (fun z_3 => (if z_3.1 = 0 then ((-4), z_3.2) else (kb (f_X1_holds 2052 it_sets_words a3 z_1) (fun z_6 => (if z_6 = 0 then (0, z_3.2) else (1, z_3.2))))))))))
abbrev rm_X3_look : Room := { frames := 1, cells := 0, slots := 0, locals := 23 }
set_option maxHeartbeats 4000000 in
set_option maxRecDepth 100000 in
theorem c_X3_look (l : Launch) (DD : va_G) (aC : Nat → ClassId) (tt : Nat → Nat) (q0 q1 q2 q3 q4 q5 q6 q7 q8 q9 q10 q11 q12 q13 q14 t_n : Nat) (choices : Int32) (item : Int32) (place : Int32) (looks : Int32) (choiceItems : Nat → Int32) (choiceLeast : Nat → Int32) (choicePlaces : Nat → Int32) (starts : Nat → Int32) (lengths : Nat → Int32) (it_count : Int32) (it_captureCount : Int32) (it_kinds : Nat → Int32) (it_ones : Nat → Int32) (it_twos : Nat → Int32) (it_sets_words : Nat → Int64) (it_states : Nat → Int32) (t_length : Int32) (t_bytes : Nat → Int32) (a3 : Int32) (a4 : Int32) (hp_0 : t_length.toInt ≤ t_n) (u : Int32 × Int32) (hu : u = f_X3_look looks it_sets_words t_length t_bytes a3 a4) : kM l yX3_look wsX3_look rm_X3_look DD aC tt [.ref q0, .ref q6, .ref q13, .int a3, .int a4] [(q0, .inr (3, [.ref q1, .ref q2, .ref q3, .ref q4, .ref q5, .int choices, .int item, .int place, .int looks])), (q1, .inl (aC 0, 513, .inl choiceItems)), (q2, .inl (aC 0, 513, .inl choiceLeast)), (q3, .inl (aC 0, 513, .inl choicePlaces)), (q4, .inl (aC 0, 32, .inl starts)), (q5, .inl (aC 0, 32, .inl lengths)), (q6, .inr (2, [.ref q7, .ref q8, .ref q9, .ref q10, .ref q12, .int it_count, .int it_captureCount])), (q7, .inl (aC 0, 513, .inl it_kinds)), (q8, .inl (aC 0, 513, .inl it_ones)), (q9, .inl (aC 0, 513, .inl it_twos)), (q10, .inr (1, [.ref q11])), (q11, .inl (aC 2, 2052, .inr (.inl it_sets_words))), (q12, .inl (aC 0, 32, .inl it_states)), (q13, .inr (0, [.ref q14, .int t_length])), (q14, .inl (aC 1, t_n, .inl t_bytes))] (some (.int u.1)) [(q0, .inr (3, [.ref q1, .ref q2, .ref q3, .ref q4, .ref q5, .int choices, .int item, .int place, .int u.2])), (q1, .inl (aC 0, 513, .inl choiceItems)), (q2, .inl (aC 0, 513, .inl choiceLeast)), (q3, .inl (aC 0, 513, .inl choicePlaces)), (q4, .inl (aC 0, 32, .inl starts)), (q5, .inl (aC 0, 32, .inl lengths)), (q6, .inr (2, [.ref q7, .ref q8, .ref q9, .ref q10, .ref q12, .int it_count, .int it_captureCount])), (q7, .inl (aC 0, 513, .inl it_kinds)), (q8, .inl (aC 0, 513, .inl it_ones)), (q9, .inl (aC 0, 513, .inl it_twos)), (q10, .inr (1, [.ref q11])), (q11, .inl (aC 2, 2052, .inr (.inl it_sets_words))), (q12, .inl (aC 0, 32, .inl it_states)), (q13, .inr (0, [.ref q14, .int t_length])), (q14, .inl (aC 1, t_n, .inl t_bytes))] := by
  refine k_start (cc := cX3_look) (maxL := 6) (ret := (some .int)) (own := RX3) (lv0 := [(0, .ref q0), (1, .ref q6), (2, .ref q13), (3, .int a3), (4, .int a4)]) (by decide) rfl rfl (Nat.le_of_ble_eq_true rfl) rfl (fun p e s m below meth c A ls X hP hD hS hl => ?_)
  obtain ⟨hx, hb, hr, hml, hts, hown, hlocks, hA, hE⟩ := id X
  unfold f_X3_look at hu
  refine lv_aload_n hx hb dX3_look_0 rfl (lv_at hl 2 rfl) ?_
  refine lv_iload hx hb dX3_look_1 (lv_at hl 4 rfl) ?_
  obtain ⟨z_1, hz_1⟩ : ∃ z, z = f_X0_at t_length t_bytes a4 := ⟨_, rfl⟩
  replace hu := hu.trans (kb_of hz_1)
  refine k_callV (As := [.int a4]) (rest := []) (wc := [(q13, .inr (0, [.ref q14, .int t_length])), (q14, .inl (aC 1, t_n, .inl t_bytes))]) (wr := [(q0, .inr (3, [.ref q1, .ref q2, .ref q3, .ref q4, .ref q5, .int choices, .int item, .int place, .int looks])), (q1, .inl (aC 0, 513, .inl choiceItems)), (q2, .inl (aC 0, 513, .inl choiceLeast)), (q3, .inl (aC 0, 513, .inl choicePlaces)), (q4, .inl (aC 0, 32, .inl starts)), (q5, .inl (aC 0, 32, .inl lengths)), (q6, .inr (2, [.ref q7, .ref q8, .ref q9, .ref q10, .ref q12, .int it_count, .int it_captureCount])), (q7, .inl (aC 0, 513, .inl it_kinds)), (q8, .inl (aC 0, 513, .inl it_ones)), (q9, .inl (aC 0, 513, .inl it_twos)), (q10, .inr (1, [.ref q11])), (q11, .inl (aC 2, 2052, .inr (.inl it_sets_words))), (q12, .inl (aC 0, 32, .inl it_states))]) (w1 := [(q13, .inr (0, [.ref q14, .int t_length])), (q14, .inl (aC 1, t_n, .inl t_bytes))]) (wn := [(q0, .inr (3, [.ref q1, .ref q2, .ref q3, .ref q4, .ref q5, .int choices, .int item, .int place, .int looks])), (q1, .inl (aC 0, 513, .inl choiceItems)), (q2, .inl (aC 0, 513, .inl choiceLeast)), (q3, .inl (aC 0, 513, .inl choicePlaces)), (q4, .inl (aC 0, 32, .inl starts)), (q5, .inl (aC 0, 32, .inl lengths)), (q6, .inr (2, [.ref q7, .ref q8, .ref q9, .ref q10, .ref q12, .int it_count, .int it_captureCount])), (q7, .inl (aC 0, 513, .inl it_kinds)), (q8, .inl (aC 0, 513, .inl it_ones)), (q9, .inl (aC 0, 513, .inl it_twos)), (q10, .inr (1, [.ref q11])), (q11, .inl (aC 2, 2052, .inr (.inl it_sets_words))), (q12, .inl (aC 0, 32, .inl it_states)), (q13, .inr (0, [.ref q14, .int t_length])), (q14, .inl (aC 1, t_n, .inl t_bytes))]) ⟨hx, hb, hml, hown, hts⟩ (c_X0_at l DD aC tt q13 q14 t_n t_length t_bytes a4 hp_0 z_1 hz_1) (cwV 1 hts (gdV w_386 w_259 w_260 w_69 w_261) rfl rfl rfl (by decide +kernel) ⟨Nat.le_of_ble_eq_true rfl, Nat.le_of_ble_eq_true rfl⟩) hP hD hS hA hE [13, 14] [0, 1, 2, 3, 4, 5, 6, 7, 8, 9, 10, 11, 12] [0, 1, 2, 3, 4, 5, 6, 7, 8, 9, 10, 11, 12, 13, 14] rfl rfl rfl (by decide) (by decide) (by decide) (by decide) (ci := 0) (q0 := 0) rfl rfl rfl hl.1 rfl (Nat.le_of_ble_eq_true rfl) dX3_look_3 (fun H locs hP hD hS => ?_)
  refine W.eq (g2 := F0 m 6 ls [.int z_1]) rfl ?_
  refine lv_istore (lv' := [(5, .int z_1), (0, .ref q0), (1, .ref q6), (2, .ref q13), (3, .int a3), (4, .int a4)]) hx hb dX3_look_6 hl (by decide) rfl (fun ls hl => ?_)
  refine lv_iload hx hb dX3_look_8 (lv_at hl 0 rfl) ?_
  refine lv_iconst (v := (-1)) hx hb dX3_look_10 (by decide) ?_
  refine lv_icmp_ne (tgt := 16) hx hb dX3_look_11 (by decide) (fun c_2 => ?_) (fun c_2 => ?_)
  · replace hu := hu.trans (if_neg c_2)
    refine lv_aload_n hx hb dX3_look_16 rfl (lv_at hl 1 rfl) ?_
    obtain ⟨z_3, hz_3⟩ : ∃ z, z = f_X3_mayLook looks := ⟨_, rfl⟩
    replace hu := hu.trans (kb_of hz_3)
    refine k_callV (As := []) (rest := []) (wc := [(q0, .inr (3, [.ref q1, .ref q2, .ref q3, .ref q4, .ref q5, .int choices, .int item, .int place, .int looks])), (q1, .inl (aC 0, 513, .inl choiceItems)), (q2, .inl (aC 0, 513, .inl choiceLeast)), (q3, .inl (aC 0, 513, .inl choicePlaces)), (q4, .inl (aC 0, 32, .inl starts)), (q5, .inl (aC 0, 32, .inl lengths))]) (wr := [(q6, .inr (2, [.ref q7, .ref q8, .ref q9, .ref q10, .ref q12, .int it_count, .int it_captureCount])), (q7, .inl (aC 0, 513, .inl it_kinds)), (q8, .inl (aC 0, 513, .inl it_ones)), (q9, .inl (aC 0, 513, .inl it_twos)), (q10, .inr (1, [.ref q11])), (q11, .inl (aC 2, 2052, .inr (.inl it_sets_words))), (q12, .inl (aC 0, 32, .inl it_states)), (q13, .inr (0, [.ref q14, .int t_length])), (q14, .inl (aC 1, t_n, .inl t_bytes))]) (w1 := [(q0, .inr (3, [.ref q1, .ref q2, .ref q3, .ref q4, .ref q5, .int choices, .int item, .int place, .int z_3.2])), (q1, .inl (aC 0, 513, .inl choiceItems)), (q2, .inl (aC 0, 513, .inl choiceLeast)), (q3, .inl (aC 0, 513, .inl choicePlaces)), (q4, .inl (aC 0, 32, .inl starts)), (q5, .inl (aC 0, 32, .inl lengths))]) (wn := [(q0, .inr (3, [.ref q1, .ref q2, .ref q3, .ref q4, .ref q5, .int choices, .int item, .int place, .int z_3.2])), (q1, .inl (aC 0, 513, .inl choiceItems)), (q2, .inl (aC 0, 513, .inl choiceLeast)), (q3, .inl (aC 0, 513, .inl choicePlaces)), (q4, .inl (aC 0, 32, .inl starts)), (q5, .inl (aC 0, 32, .inl lengths)), (q6, .inr (2, [.ref q7, .ref q8, .ref q9, .ref q10, .ref q12, .int it_count, .int it_captureCount])), (q7, .inl (aC 0, 513, .inl it_kinds)), (q8, .inl (aC 0, 513, .inl it_ones)), (q9, .inl (aC 0, 513, .inl it_twos)), (q10, .inr (1, [.ref q11])), (q11, .inl (aC 2, 2052, .inr (.inl it_sets_words))), (q12, .inl (aC 0, 32, .inl it_states)), (q13, .inr (0, [.ref q14, .int t_length])), (q14, .inl (aC 1, t_n, .inl t_bytes))]) ⟨hx, hb, hml, hown, hts⟩ (c_X3_mayLook l DD aC tt q0 q1 q2 q3 q4 q5  choices item place looks choiceItems choiceLeast choicePlaces starts lengths   z_3 hz_3) (cwV 0 hts (gdV w_387 w_389 w_23 w_73 w_390) rfl rfl rfl (by decide +kernel) ⟨Nat.le_of_ble_eq_true rfl, Nat.le_of_ble_eq_true rfl⟩) hP hD hS hA hE [0, 1, 2, 3, 4, 5] [6, 7, 8, 9, 10, 11, 12, 13, 14] [9, 10, 11, 12, 13, 14, 0, 1, 2, 3, 4, 5, 6, 7, 8] rfl rfl rfl (by decide) (by decide) (by decide) (by decide) (ci := 3) (q0 := 0) rfl rfl rfl hl.1 rfl (Nat.le_of_ble_eq_true rfl) dX3_look_17 (fun H locs hP hD hS => ?_)
    have hP : va_P DD vwCl [(q0, .inr (3, [.ref q1, .ref q2, .ref q3, .ref q4, .ref q5, .int choices, .int item, .int place, .int z_3.2])), (q1, .inl (aC 0, 513, .inl choiceItems)), (q2, .inl (aC 0, 513, .inl choiceLeast)), (q3, .inl (aC 0, 513, .inl choicePlaces)), (q4, .inl (aC 0, 32, .inl starts)), (q5, .inl (aC 0, 32, .inl lengths)), (q6, .inr (2, [.ref q7, .ref q8, .ref q9, .ref q10, .ref q12, .int it_count, .int it_captureCount])), (q7, .inl (aC 0, 513, .inl it_kinds)), (q8, .inl (aC 0, 513, .inl it_ones)), (q9, .inl (aC 0, 513, .inl it_twos)), (q10, .inr (1, [.ref q11])), (q11, .inl (aC 2, 2052, .inr (.inl it_sets_words))), (q12, .inl (aC 0, 32, .inl it_states)), (q13, .inr (0, [.ref q14, .int t_length])), (q14, .inl (aC 1, t_n, .inl t_bytes))] H := hP
    have hD : va_D A [(q0, .inr (3, [.ref q1, .ref q2, .ref q3, .ref q4, .ref q5, .int choices, .int item, .int place, .int z_3.2])), (q1, .inl (aC 0, 513, .inl choiceItems)), (q2, .inl (aC 0, 513, .inl choiceLeast)), (q3, .inl (aC 0, 513, .inl choicePlaces)), (q4, .inl (aC 0, 32, .inl starts)), (q5, .inl (aC 0, 32, .inl lengths)), (q6, .inr (2, [.ref q7, .ref q8, .ref q9, .ref q10, .ref q12, .int it_count, .int it_captureCount])), (q7, .inl (aC 0, 513, .inl it_kinds)), (q8, .inl (aC 0, 513, .inl it_ones)), (q9, .inl (aC 0, 513, .inl it_twos)), (q10, .inr (1, [.ref q11])), (q11, .inl (aC 2, 2052, .inr (.inl it_sets_words))), (q12, .inl (aC 0, 32, .inl it_states)), (q13, .inr (0, [.ref q14, .int t_length])), (q14, .inl (aC 1, t_n, .inl t_bytes))] := hD
    refine W.eq (g2 := F0 m 20 ls [.int z_3.1]) rfl ?_
    have h_4 := pf_X3_mayLook hz_3
    refine lv_if_ne (tgt := 26) hx hb dX3_look_20 (by decide) (fun c_5 => ?_) (fun c_5 => ?_)
    · replace hu := hu.trans (if_neg c_5)
      refine lv_aload_n hx hb dX3_look_26 rfl (lv_at hl 2 rfl) ?_
      refine va_getN (D := DD) (ci := 2) (v := .ref q10) (C := RX2) (T := TX2) (N := 7) (host := "TextPatterns") hx hb hts (fun w h => List.mem_cons_of_mem _ (inX2 w h)) hown hE.1 hP 6 rfl rfl 3 (by decide) (va_Nw.use rfl (hE.2.1 (.fieldLinkNest "TextPatterns$Matcher" 117 "TextPatterns$Items" "sets" "LTextPatterns$Sets;" "TextPatterns") (by decide +kernel))) (fun _ h9 => h9) rfl dX3_look_27 ?_
      refine lv_iload_n hx hb dX3_look_30 rfl (lv_at hl 4 rfl) ?_
      refine lv_iload hx hb dX3_look_31 (lv_at hl 0 rfl) ?_
      obtain ⟨z_6, hz_6⟩ : ∃ z, z = f_X1_holds 2052 it_sets_words a3 z_1 := ⟨_, rfl⟩
      replace hu := hu.trans (kb_of hz_6)
      refine k_callV (As := [.int a3, .int z_1]) (rest := []) (wc := [(q10, .inr (1, [.ref q11])), (q11, .inl (aC 2, 2052, .inr (.inl it_sets_words)))]) (wr := [(q0, .inr (3, [.ref q1, .ref q2, .ref q3, .ref q4, .ref q5, .int choices, .int item, .int place, .int z_3.2])), (q1, .inl (aC 0, 513, .inl choiceItems)), (q2, .inl (aC 0, 513, .inl choiceLeast)), (q3, .inl (aC 0, 513, .inl choicePlaces)), (q4, .inl (aC 0, 32, .inl starts)), (q5, .inl (aC 0, 32, .inl lengths)), (q6, .inr (2, [.ref q7, .ref q8, .ref q9, .ref q10, .ref q12, .int it_count, .int it_captureCount])), (q7, .inl (aC 0, 513, .inl it_kinds)), (q8, .inl (aC 0, 513, .inl it_ones)), (q9, .inl (aC 0, 513, .inl it_twos)), (q12, .inl (aC 0, 32, .inl it_states)), (q13, .inr (0, [.ref q14, .int t_length])), (q14, .inl (aC 1, t_n, .inl t_bytes))]) (w1 := [(q10, .inr (1, [.ref q11])), (q11, .inl (aC 2, 2052, .inr (.inl it_sets_words)))]) (wn := [(q0, .inr (3, [.ref q1, .ref q2, .ref q3, .ref q4, .ref q5, .int choices, .int item, .int place, .int z_3.2])), (q1, .inl (aC 0, 513, .inl choiceItems)), (q2, .inl (aC 0, 513, .inl choiceLeast)), (q3, .inl (aC 0, 513, .inl choicePlaces)), (q4, .inl (aC 0, 32, .inl starts)), (q5, .inl (aC 0, 32, .inl lengths)), (q6, .inr (2, [.ref q7, .ref q8, .ref q9, .ref q10, .ref q12, .int it_count, .int it_captureCount])), (q7, .inl (aC 0, 513, .inl it_kinds)), (q8, .inl (aC 0, 513, .inl it_ones)), (q9, .inl (aC 0, 513, .inl it_twos)), (q10, .inr (1, [.ref q11])), (q11, .inl (aC 2, 2052, .inr (.inl it_sets_words))), (q12, .inl (aC 0, 32, .inl it_states)), (q13, .inr (0, [.ref q14, .int t_length])), (q14, .inl (aC 1, t_n, .inl t_bytes))]) ⟨hx, hb, hml, hown, hts⟩ (c_X1_holds l DD aC tt q10 q11 2052 it_sets_words a3 z_1 (by decide) z_6 hz_6) (cwV 2 hts (gdV w_391 w_392 w_393 w_72 w_394) rfl rfl rfl (by decide +kernel) ⟨Nat.le_of_ble_eq_true rfl, Nat.le_of_ble_eq_true rfl⟩) hP hD hS hA hE [10, 11] [0, 1, 2, 3, 4, 5, 6, 7, 8, 9, 12, 13, 14] [0, 1, 2, 3, 4, 5, 6, 7, 8, 9, 13, 14, 10, 11, 12] rfl rfl rfl (by decide) (by decide) (by decide) (by decide) (ci := 1) (q0 := 0) rfl rfl rfl hl.1 rfl (Nat.le_of_ble_eq_true rfl) dX3_look_33 (fun H locs hP hD hS => ?_)
      refine W.eq (g2 := F0 m 36 ls [.int z_6]) rfl ?_
      have h_7 := pf_X1_holds (by decide) hz_6
      refine lv_if_eq (tgt := 43) hx hb dX3_look_36 (by decide) (fun c_8 => ?_) (fun c_8 => ?_)
      · replace hu := hu.trans (if_pos c_8)
        refine lv_iconst (v := 0) hx hb dX3_look_43 (by decide) ?_
        subst hu
        exact k_iret hx hb hr hlocks hP hD hS rfl rfl dX3_look_44
      · replace hu := hu.trans (if_neg c_8)
        refine lv_iconst (v := 1) hx hb dX3_look_39 (by decide) ?_
        refine lv_goto (tgt := 44) hx hb dX3_look_40 (by decide) ?_
        subst hu
        exact k_iret hx hb hr hlocks hP hD hS rfl rfl dX3_look_44
    · replace hu := hu.trans (if_pos c_5)
      refine lv_bipush (v := (-4)) hx hb dX3_look_23 (by decide) ?_
      subst hu
      exact k_iret hx hb hr hlocks hP hD hS rfl rfl dX3_look_25
  · replace hu := hu.trans (if_pos c_2)
    refine lv_iconst (v := 0) hx hb dX3_look_14 (by decide) ?_
    subst hu
    exact k_iret hx hb hr hlocks hP hD hS rfl rfl dX3_look_15
def f_X3_lookAtBorder (item : Int32) (place : Int32) (looks : Int32) (it_sets_words : Nat → Int64) (t_length : Int32) (t_bytes : Nat → Int32) : Int32 × Int32 := (kb (f_X3_mayLook looks) (fun z_1 => (if z_1.1 = 0 then ((-4), z_1.2) else (kb (f_X0_at t_length t_bytes (place - 1)) (fun z_4 => (kb (f_X0_at t_length t_bytes place) (fun z_5 => (kb (f_X1_holds 2052 it_sets_words item (kmax z_4 0)) (fun z_6 => (if z_6 = 0 then (kb (f_X1_holds 2052 it_sets_words item (kmax z_5 0)) (fun z_9 => (if z_9 = 0 then (0, z_1.2) else (1, z_1.2)))) else (0, z_1.2)))))))))))
abbrev rm_X3_lookAtBorder : Room := { frames := 1, cells := 0, slots := 0, locals := 23 }
set_option maxHeartbeats 4000000 in
set_option maxRecDepth 100000 in
theorem c_X3_lookAtBorder (l : Launch) (DD : va_G) (aC : Nat → ClassId) (tt : Nat → Nat) (q0 q1 q2 q3 q4 q5 q6 q7 q8 q9 q10 q11 q12 q13 q14 t_n : Nat) (choices : Int32) (item : Int32) (place : Int32) (looks : Int32) (choiceItems : Nat → Int32) (choiceLeast : Nat → Int32) (choicePlaces : Nat → Int32) (starts : Nat → Int32) (lengths : Nat → Int32) (it_count : Int32) (it_captureCount : Int32) (it_kinds : Nat → Int32) (it_ones : Nat → Int32) (it_twos : Nat → Int32) (it_sets_words : Nat → Int64) (it_states : Nat → Int32) (t_length : Int32) (t_bytes : Nat → Int32) (hp_0 : t_length.toInt ≤ t_n) (u : Int32 × Int32) (hu : u = f_X3_lookAtBorder item place looks it_sets_words t_length t_bytes) : kM l yX3_lookAtBorder wsX3_lookAtBorder rm_X3_lookAtBorder DD aC tt [.ref q0, .ref q6, .ref q13] [(q0, .inr (3, [.ref q1, .ref q2, .ref q3, .ref q4, .ref q5, .int choices, .int item, .int place, .int looks])), (q1, .inl (aC 0, 513, .inl choiceItems)), (q2, .inl (aC 0, 513, .inl choiceLeast)), (q3, .inl (aC 0, 513, .inl choicePlaces)), (q4, .inl (aC 0, 32, .inl starts)), (q5, .inl (aC 0, 32, .inl lengths)), (q6, .inr (2, [.ref q7, .ref q8, .ref q9, .ref q10, .ref q12, .int it_count, .int it_captureCount])), (q7, .inl (aC 0, 513, .inl it_kinds)), (q8, .inl (aC 0, 513, .inl it_ones)), (q9, .inl (aC 0, 513, .inl it_twos)), (q10, .inr (1, [.ref q11])), (q11, .inl (aC 2, 2052, .inr (.inl it_sets_words))), (q12, .inl (aC 0, 32, .inl it_states)), (q13, .inr (0, [.ref q14, .int t_length])), (q14, .inl (aC 1, t_n, .inl t_bytes))] (some (.int u.1)) [(q0, .inr (3, [.ref q1, .ref q2, .ref q3, .ref q4, .ref q5, .int choices, .int item, .int place, .int u.2])), (q1, .inl (aC 0, 513, .inl choiceItems)), (q2, .inl (aC 0, 513, .inl choiceLeast)), (q3, .inl (aC 0, 513, .inl choicePlaces)), (q4, .inl (aC 0, 32, .inl starts)), (q5, .inl (aC 0, 32, .inl lengths)), (q6, .inr (2, [.ref q7, .ref q8, .ref q9, .ref q10, .ref q12, .int it_count, .int it_captureCount])), (q7, .inl (aC 0, 513, .inl it_kinds)), (q8, .inl (aC 0, 513, .inl it_ones)), (q9, .inl (aC 0, 513, .inl it_twos)), (q10, .inr (1, [.ref q11])), (q11, .inl (aC 2, 2052, .inr (.inl it_sets_words))), (q12, .inl (aC 0, 32, .inl it_states)), (q13, .inr (0, [.ref q14, .int t_length])), (q14, .inl (aC 1, t_n, .inl t_bytes))] := by
  refine k_start (cc := cX3_lookAtBorder) (maxL := 6) (ret := (some .int)) (own := RX3) (lv0 := [(0, .ref q0), (1, .ref q6), (2, .ref q13)]) (by decide) rfl rfl (Nat.le_of_ble_eq_true rfl) rfl (fun p e s m below meth c A ls X hP hD hS hl => ?_)
  obtain ⟨hx, hb, hr, hml, hts, hown, hlocks, hA, hE⟩ := id X
  unfold f_X3_lookAtBorder at hu
  refine lv_aload_n hx hb dX3_lookAtBorder_0 rfl (lv_at hl 0 rfl) ?_
  obtain ⟨z_1, hz_1⟩ : ∃ z, z = f_X3_mayLook looks := ⟨_, rfl⟩
  replace hu := hu.trans (kb_of hz_1)
  refine k_callV (As := []) (rest := []) (wc := [(q0, .inr (3, [.ref q1, .ref q2, .ref q3, .ref q4, .ref q5, .int choices, .int item, .int place, .int looks])), (q1, .inl (aC 0, 513, .inl choiceItems)), (q2, .inl (aC 0, 513, .inl choiceLeast)), (q3, .inl (aC 0, 513, .inl choicePlaces)), (q4, .inl (aC 0, 32, .inl starts)), (q5, .inl (aC 0, 32, .inl lengths))]) (wr := [(q6, .inr (2, [.ref q7, .ref q8, .ref q9, .ref q10, .ref q12, .int it_count, .int it_captureCount])), (q7, .inl (aC 0, 513, .inl it_kinds)), (q8, .inl (aC 0, 513, .inl it_ones)), (q9, .inl (aC 0, 513, .inl it_twos)), (q10, .inr (1, [.ref q11])), (q11, .inl (aC 2, 2052, .inr (.inl it_sets_words))), (q12, .inl (aC 0, 32, .inl it_states)), (q13, .inr (0, [.ref q14, .int t_length])), (q14, .inl (aC 1, t_n, .inl t_bytes))]) (w1 := [(q0, .inr (3, [.ref q1, .ref q2, .ref q3, .ref q4, .ref q5, .int choices, .int item, .int place, .int z_1.2])), (q1, .inl (aC 0, 513, .inl choiceItems)), (q2, .inl (aC 0, 513, .inl choiceLeast)), (q3, .inl (aC 0, 513, .inl choicePlaces)), (q4, .inl (aC 0, 32, .inl starts)), (q5, .inl (aC 0, 32, .inl lengths))]) (wn := [(q0, .inr (3, [.ref q1, .ref q2, .ref q3, .ref q4, .ref q5, .int choices, .int item, .int place, .int z_1.2])), (q1, .inl (aC 0, 513, .inl choiceItems)), (q2, .inl (aC 0, 513, .inl choiceLeast)), (q3, .inl (aC 0, 513, .inl choicePlaces)), (q4, .inl (aC 0, 32, .inl starts)), (q5, .inl (aC 0, 32, .inl lengths)), (q6, .inr (2, [.ref q7, .ref q8, .ref q9, .ref q10, .ref q12, .int it_count, .int it_captureCount])), (q7, .inl (aC 0, 513, .inl it_kinds)), (q8, .inl (aC 0, 513, .inl it_ones)), (q9, .inl (aC 0, 513, .inl it_twos)), (q10, .inr (1, [.ref q11])), (q11, .inl (aC 2, 2052, .inr (.inl it_sets_words))), (q12, .inl (aC 0, 32, .inl it_states)), (q13, .inr (0, [.ref q14, .int t_length])), (q14, .inl (aC 1, t_n, .inl t_bytes))]) ⟨hx, hb, hml, hown, hts⟩ (c_X3_mayLook l DD aC tt q0 q1 q2 q3 q4 q5  choices item place looks choiceItems choiceLeast choicePlaces starts lengths   z_1 hz_1) (cwV 0 hts (gdV w_387 w_389 w_23 w_73 w_390) rfl rfl rfl (by decide +kernel) ⟨Nat.le_of_ble_eq_true rfl, Nat.le_of_ble_eq_true rfl⟩) hP hD hS hA hE [0, 1, 2, 3, 4, 5] [6, 7, 8, 9, 10, 11, 12, 13, 14] [9, 10, 11, 12, 13, 14, 0, 1, 2, 3, 4, 5, 6, 7, 8] rfl rfl rfl (by decide) (by decide) (by decide) (by decide) (ci := 3) (q0 := 0) rfl rfl rfl hl.1 rfl (Nat.le_of_ble_eq_true rfl) dX3_lookAtBorder_1 (fun H locs hP hD hS => ?_)
  have hP : va_P DD vwCl [(q0, .inr (3, [.ref q1, .ref q2, .ref q3, .ref q4, .ref q5, .int choices, .int item, .int place, .int z_1.2])), (q1, .inl (aC 0, 513, .inl choiceItems)), (q2, .inl (aC 0, 513, .inl choiceLeast)), (q3, .inl (aC 0, 513, .inl choicePlaces)), (q4, .inl (aC 0, 32, .inl starts)), (q5, .inl (aC 0, 32, .inl lengths)), (q6, .inr (2, [.ref q7, .ref q8, .ref q9, .ref q10, .ref q12, .int it_count, .int it_captureCount])), (q7, .inl (aC 0, 513, .inl it_kinds)), (q8, .inl (aC 0, 513, .inl it_ones)), (q9, .inl (aC 0, 513, .inl it_twos)), (q10, .inr (1, [.ref q11])), (q11, .inl (aC 2, 2052, .inr (.inl it_sets_words))), (q12, .inl (aC 0, 32, .inl it_states)), (q13, .inr (0, [.ref q14, .int t_length])), (q14, .inl (aC 1, t_n, .inl t_bytes))] H := hP
  have hD : va_D A [(q0, .inr (3, [.ref q1, .ref q2, .ref q3, .ref q4, .ref q5, .int choices, .int item, .int place, .int z_1.2])), (q1, .inl (aC 0, 513, .inl choiceItems)), (q2, .inl (aC 0, 513, .inl choiceLeast)), (q3, .inl (aC 0, 513, .inl choicePlaces)), (q4, .inl (aC 0, 32, .inl starts)), (q5, .inl (aC 0, 32, .inl lengths)), (q6, .inr (2, [.ref q7, .ref q8, .ref q9, .ref q10, .ref q12, .int it_count, .int it_captureCount])), (q7, .inl (aC 0, 513, .inl it_kinds)), (q8, .inl (aC 0, 513, .inl it_ones)), (q9, .inl (aC 0, 513, .inl it_twos)), (q10, .inr (1, [.ref q11])), (q11, .inl (aC 2, 2052, .inr (.inl it_sets_words))), (q12, .inl (aC 0, 32, .inl it_states)), (q13, .inr (0, [.ref q14, .int t_length])), (q14, .inl (aC 1, t_n, .inl t_bytes))] := hD
  refine W.eq (g2 := F0 m 4 ls [.int z_1.1]) rfl ?_
  have h_2 := pf_X3_mayLook hz_1
  refine lv_if_ne (tgt := 10) hx hb dX3_lookAtBorder_4 (by decide) (fun c_3 => ?_) (fun c_3 => ?_)
  · replace hu := hu.trans (if_neg c_3)
    refine lv_aload_n hx hb dX3_lookAtBorder_10 rfl (lv_at hl 2 rfl) ?_
    refine lv_aload_n hx hb dX3_lookAtBorder_11 rfl (lv_at hl 0 rfl) ?_
    refine va_get (D := DD) (ci := 3) (v := .int place) (C := RX3) (T := TX3) (N := 9) hx hb hts (fun w h => List.mem_cons_of_mem _ (inX3 w h)) hown hE.1 hP 0 rfl rfl 7 (by decide) (hts (.fieldLink "TextPatterns$Matcher" 31 "TextPatterns$Matcher" "place" "I") (List.mem_cons_of_mem _ w_155)) (fun _ h9 => h9) rfl dX3_lookAtBorder_12 ?_
    refine lv_iconst (v := 1) hx hb dX3_lookAtBorder_15 (by decide) ?_
    refine lv_isub hx hb dX3_lookAtBorder_16 ?_
    obtain ⟨z_4, hz_4⟩ : ∃ z, z = f_X0_at t_length t_bytes (place - 1) := ⟨_, rfl⟩
    replace hu := hu.trans (kb_of hz_4)
    refine k_callV (As := [.int (place - 1)]) (rest := []) (wc := [(q13, .inr (0, [.ref q14, .int t_length])), (q14, .inl (aC 1, t_n, .inl t_bytes))]) (wr := [(q0, .inr (3, [.ref q1, .ref q2, .ref q3, .ref q4, .ref q5, .int choices, .int item, .int place, .int z_1.2])), (q1, .inl (aC 0, 513, .inl choiceItems)), (q2, .inl (aC 0, 513, .inl choiceLeast)), (q3, .inl (aC 0, 513, .inl choicePlaces)), (q4, .inl (aC 0, 32, .inl starts)), (q5, .inl (aC 0, 32, .inl lengths)), (q6, .inr (2, [.ref q7, .ref q8, .ref q9, .ref q10, .ref q12, .int it_count, .int it_captureCount])), (q7, .inl (aC 0, 513, .inl it_kinds)), (q8, .inl (aC 0, 513, .inl it_ones)), (q9, .inl (aC 0, 513, .inl it_twos)), (q10, .inr (1, [.ref q11])), (q11, .inl (aC 2, 2052, .inr (.inl it_sets_words))), (q12, .inl (aC 0, 32, .inl it_states))]) (w1 := [(q13, .inr (0, [.ref q14, .int t_length])), (q14, .inl (aC 1, t_n, .inl t_bytes))]) (wn := [(q0, .inr (3, [.ref q1, .ref q2, .ref q3, .ref q4, .ref q5, .int choices, .int item, .int place, .int z_1.2])), (q1, .inl (aC 0, 513, .inl choiceItems)), (q2, .inl (aC 0, 513, .inl choiceLeast)), (q3, .inl (aC 0, 513, .inl choicePlaces)), (q4, .inl (aC 0, 32, .inl starts)), (q5, .inl (aC 0, 32, .inl lengths)), (q6, .inr (2, [.ref q7, .ref q8, .ref q9, .ref q10, .ref q12, .int it_count, .int it_captureCount])), (q7, .inl (aC 0, 513, .inl it_kinds)), (q8, .inl (aC 0, 513, .inl it_ones)), (q9, .inl (aC 0, 513, .inl it_twos)), (q10, .inr (1, [.ref q11])), (q11, .inl (aC 2, 2052, .inr (.inl it_sets_words))), (q12, .inl (aC 0, 32, .inl it_states)), (q13, .inr (0, [.ref q14, .int t_length])), (q14, .inl (aC 1, t_n, .inl t_bytes))]) ⟨hx, hb, hml, hown, hts⟩ (c_X0_at l DD aC tt q13 q14 t_n t_length t_bytes (place - 1) hp_0 z_4 hz_4) (cwV 1 hts (gdV w_386 w_259 w_260 w_69 w_261) rfl rfl rfl (by decide +kernel) ⟨Nat.le_of_ble_eq_true rfl, Nat.le_of_ble_eq_true rfl⟩) hP hD hS hA hE [13, 14] [0, 1, 2, 3, 4, 5, 6, 7, 8, 9, 10, 11, 12] [0, 1, 2, 3, 4, 5, 6, 7, 8, 9, 10, 11, 12, 13, 14] rfl rfl rfl (by decide) (by decide) (by decide) (by decide) (ci := 0) (q0 := 0) rfl rfl rfl hl.1 rfl (Nat.le_of_ble_eq_true rfl) dX3_lookAtBorder_17 (fun H locs hP hD hS => ?_)
    refine W.eq (g2 := F0 m 20 ls [.int z_4]) rfl ?_
    refine lv_iconst (v := 0) hx hb dX3_lookAtBorder_20 (by decide) ?_
    refine va_mmax hx hb (hml.trans hl.1.symm) hown (hts (.methodLink "TextPatterns$Matcher" 111 ⟨"java/lang/Math", "max", "(II)I"⟩) (List.mem_cons_of_mem _ w_432)) (hts (.static ⟨"java/lang/Math", "max", "(II)I"⟩) (List.mem_cons_of_mem _ w_90)) (hts (.initialized "java/lang/Math") (List.mem_cons_of_mem _ w_70)) (hts _ (List.mem_cons_of_mem _ w_91)) (Nat.le_of_ble_eq_true rfl) (Nat.le_of_ble_eq_true rfl) (Nat.zero_le _) (Nat.zero_le _) dX3_lookAtBorder_21 ?_
    refine W.eq (g2 := F0 m 24 ls [.int (kmax z_4 0)]) rfl ?_
    refine lv_istore_n (lv' := [(3, .int (kmax z_4 0)), (0, .ref q0), (1, .ref q6), (2, .ref q13)]) hx hb dX3_lookAtBorder_24 rfl hl (by decide) rfl (fun ls hl => ?_)
    refine lv_aload_n hx hb dX3_lookAtBorder_25 rfl (lv_at hl 3 rfl) ?_
    refine lv_aload_n hx hb dX3_lookAtBorder_26 rfl (lv_at hl 1 rfl) ?_
    refine va_get (D := DD) (ci := 3) (v := .int place) (C := RX3) (T := TX3) (N := 9) hx hb hts (fun w h => List.mem_cons_of_mem _ (inX3 w h)) hown hE.1 hP 0 rfl rfl 7 (by decide) (hts (.fieldLink "TextPatterns$Matcher" 31 "TextPatterns$Matcher" "place" "I") (List.mem_cons_of_mem _ w_155)) (fun _ h9 => h9) rfl dX3_lookAtBorder_27 ?_
    obtain ⟨z_5, hz_5⟩ : ∃ z, z = f_X0_at t_length t_bytes place := ⟨_, rfl⟩
    replace hu := hu.trans (kb_of hz_5)
    refine k_callV (As := [.int place]) (rest := []) (wc := [(q13, .inr (0, [.ref q14, .int t_length])), (q14, .inl (aC 1, t_n, .inl t_bytes))]) (wr := [(q0, .inr (3, [.ref q1, .ref q2, .ref q3, .ref q4, .ref q5, .int choices, .int item, .int place, .int z_1.2])), (q1, .inl (aC 0, 513, .inl choiceItems)), (q2, .inl (aC 0, 513, .inl choiceLeast)), (q3, .inl (aC 0, 513, .inl choicePlaces)), (q4, .inl (aC 0, 32, .inl starts)), (q5, .inl (aC 0, 32, .inl lengths)), (q6, .inr (2, [.ref q7, .ref q8, .ref q9, .ref q10, .ref q12, .int it_count, .int it_captureCount])), (q7, .inl (aC 0, 513, .inl it_kinds)), (q8, .inl (aC 0, 513, .inl it_ones)), (q9, .inl (aC 0, 513, .inl it_twos)), (q10, .inr (1, [.ref q11])), (q11, .inl (aC 2, 2052, .inr (.inl it_sets_words))), (q12, .inl (aC 0, 32, .inl it_states))]) (w1 := [(q13, .inr (0, [.ref q14, .int t_length])), (q14, .inl (aC 1, t_n, .inl t_bytes))]) (wn := [(q0, .inr (3, [.ref q1, .ref q2, .ref q3, .ref q4, .ref q5, .int choices, .int item, .int place, .int z_1.2])), (q1, .inl (aC 0, 513, .inl choiceItems)), (q2, .inl (aC 0, 513, .inl choiceLeast)), (q3, .inl (aC 0, 513, .inl choicePlaces)), (q4, .inl (aC 0, 32, .inl starts)), (q5, .inl (aC 0, 32, .inl lengths)), (q6, .inr (2, [.ref q7, .ref q8, .ref q9, .ref q10, .ref q12, .int it_count, .int it_captureCount])), (q7, .inl (aC 0, 513, .inl it_kinds)), (q8, .inl (aC 0, 513, .inl it_ones)), (q9, .inl (aC 0, 513, .inl it_twos)), (q10, .inr (1, [.ref q11])), (q11, .inl (aC 2, 2052, .inr (.inl it_sets_words))), (q12, .inl (aC 0, 32, .inl it_states)), (q13, .inr (0, [.ref q14, .int t_length])), (q14, .inl (aC 1, t_n, .inl t_bytes))]) ⟨hx, hb, hml, hown, hts⟩ (c_X0_at l DD aC tt q13 q14 t_n t_length t_bytes place hp_0 z_5 hz_5) (cwV 1 hts (gdV w_386 w_259 w_260 w_69 w_261) rfl rfl rfl (by decide +kernel) ⟨Nat.le_of_ble_eq_true rfl, Nat.le_of_ble_eq_true rfl⟩) hP hD hS hA hE [13, 14] [0, 1, 2, 3, 4, 5, 6, 7, 8, 9, 10, 11, 12] [0, 1, 2, 3, 4, 5, 6, 7, 8, 9, 10, 11, 12, 13, 14] rfl rfl rfl (by decide) (by decide) (by decide) (by decide) (ci := 0) (q0 := 0) rfl rfl rfl hl.1 rfl (Nat.le_of_ble_eq_true rfl) dX3_lookAtBorder_30 (fun H locs hP hD hS => ?_)
    refine W.eq (g2 := F0 m 33 ls [.int z_5]) rfl ?_
    refine lv_iconst (v := 0) hx hb dX3_lookAtBorder_33 (by decide) ?_
    refine va_mmax hx hb (hml.trans hl.1.symm) hown (hts (.methodLink "TextPatterns$Matcher" 111 ⟨"java/lang/Math", "max", "(II)I"⟩) (List.mem_cons_of_mem _ w_432)) (hts (.static ⟨"java/lang/Math", "max", "(II)I"⟩) (List.mem_cons_of_mem _ w_90)) (hts (.initialized "java/lang/Math") (List.mem_cons_of_mem _ w_70)) (hts _ (List.mem_cons_of_mem _ w_91)) (Nat.le_of_ble_eq_true rfl) (Nat.le_of_ble_eq_true rfl) (Nat.zero_le _) (Nat.zero_le _) dX3_lookAtBorder_34 ?_
    refine W.eq (g2 := F0 m 37 ls [.int (kmax z_5 0)]) rfl ?_
    refine lv_istore (lv' := [(4, .int (kmax z_5 0)), (3, .int (kmax z_4 0)), (0, .ref q0), (1, .ref q6), (2, .ref q13)]) hx hb dX3_lookAtBorder_37 hl (by decide) rfl (fun ls hl => ?_)
    refine lv_aload_n hx hb dX3_lookAtBorder_39 rfl (lv_at hl 3 rfl) ?_
    refine va_getN (D := DD) (ci := 2) (v := .ref q10) (C := RX2) (T := TX2) (N := 7) (host := "TextPatterns") hx hb hts (fun w h => List.mem_cons_of_mem _ (inX2 w h)) hown hE.1 hP 6 rfl rfl 3 (by decide) (va_Nw.use rfl (hE.2.1 (.fieldLinkNest "TextPatterns$Matcher" 117 "TextPatterns$Items" "sets" "LTextPatterns$Sets;" "TextPatterns") (by decide +kernel))) (fun _ h9 => h9) rfl dX3_lookAtBorder_40 ?_
    refine lv_aload_n hx hb dX3_lookAtBorder_43 rfl (lv_at hl 2 rfl) ?_
    refine va_get (D := DD) (ci := 3) (v := .int item) (C := RX3) (T := TX3) (N := 9) hx hb hts (fun w h => List.mem_cons_of_mem _ (inX3 w h)) hown hE.1 hP 0 rfl rfl 6 (by decide) (hts (.fieldLink "TextPatterns$Matcher" 37 "TextPatterns$Matcher" "item" "I") (List.mem_cons_of_mem _ w_154)) (fun _ h9 => h9) rfl dX3_lookAtBorder_44 ?_
    refine lv_iload_n hx hb dX3_lookAtBorder_47 rfl (lv_at hl 1 rfl) ?_
    obtain ⟨z_6, hz_6⟩ : ∃ z, z = f_X1_holds 2052 it_sets_words item (kmax z_4 0) := ⟨_, rfl⟩
    replace hu := hu.trans (kb_of hz_6)
    refine k_callV (As := [.int item, .int (kmax z_4 0)]) (rest := []) (wc := [(q10, .inr (1, [.ref q11])), (q11, .inl (aC 2, 2052, .inr (.inl it_sets_words)))]) (wr := [(q0, .inr (3, [.ref q1, .ref q2, .ref q3, .ref q4, .ref q5, .int choices, .int item, .int place, .int z_1.2])), (q1, .inl (aC 0, 513, .inl choiceItems)), (q2, .inl (aC 0, 513, .inl choiceLeast)), (q3, .inl (aC 0, 513, .inl choicePlaces)), (q4, .inl (aC 0, 32, .inl starts)), (q5, .inl (aC 0, 32, .inl lengths)), (q6, .inr (2, [.ref q7, .ref q8, .ref q9, .ref q10, .ref q12, .int it_count, .int it_captureCount])), (q7, .inl (aC 0, 513, .inl it_kinds)), (q8, .inl (aC 0, 513, .inl it_ones)), (q9, .inl (aC 0, 513, .inl it_twos)), (q12, .inl (aC 0, 32, .inl it_states)), (q13, .inr (0, [.ref q14, .int t_length])), (q14, .inl (aC 1, t_n, .inl t_bytes))]) (w1 := [(q10, .inr (1, [.ref q11])), (q11, .inl (aC 2, 2052, .inr (.inl it_sets_words)))]) (wn := [(q0, .inr (3, [.ref q1, .ref q2, .ref q3, .ref q4, .ref q5, .int choices, .int item, .int place, .int z_1.2])), (q1, .inl (aC 0, 513, .inl choiceItems)), (q2, .inl (aC 0, 513, .inl choiceLeast)), (q3, .inl (aC 0, 513, .inl choicePlaces)), (q4, .inl (aC 0, 32, .inl starts)), (q5, .inl (aC 0, 32, .inl lengths)), (q6, .inr (2, [.ref q7, .ref q8, .ref q9, .ref q10, .ref q12, .int it_count, .int it_captureCount])), (q7, .inl (aC 0, 513, .inl it_kinds)), (q8, .inl (aC 0, 513, .inl it_ones)), (q9, .inl (aC 0, 513, .inl it_twos)), (q10, .inr (1, [.ref q11])), (q11, .inl (aC 2, 2052, .inr (.inl it_sets_words))), (q12, .inl (aC 0, 32, .inl it_states)), (q13, .inr (0, [.ref q14, .int t_length])), (q14, .inl (aC 1, t_n, .inl t_bytes))]) ⟨hx, hb, hml, hown, hts⟩ (c_X1_holds l DD aC tt q10 q11 2052 it_sets_words item (kmax z_4 0) (by decide) z_6 hz_6) (cwV 2 hts (gdV w_391 w_392 w_393 w_72 w_394) rfl rfl rfl (by decide +kernel) ⟨Nat.le_of_ble_eq_true rfl, Nat.le_of_ble_eq_true rfl⟩) hP hD hS hA hE [10, 11] [0, 1, 2, 3, 4, 5, 6, 7, 8, 9, 12, 13, 14] [0, 1, 2, 3, 4, 5, 6, 7, 8, 9, 13, 14, 10, 11, 12] rfl rfl rfl (by decide) (by decide) (by decide) (by decide) (ci := 1) (q0 := 0) rfl rfl rfl hl.1 rfl (Nat.le_of_ble_eq_true rfl) dX3_lookAtBorder_48 (fun H locs hP hD hS => ?_)
    refine W.eq (g2 := F0 m 51 ls [.int z_6]) rfl ?_
    have h_7 := pf_X1_holds (by decide) hz_6
    refine lv_if_ne (tgt := 74) hx hb dX3_lookAtBorder_51 (by decide) (fun c_8 => ?_) (fun c_8 => ?_)
    · replace hu := hu.trans (if_neg c_8)
      refine lv_iconst (v := 0) hx hb dX3_lookAtBorder_74 (by decide) ?_
      refine lv_istore (lv' := [(5, .int 0), (4, .int (kmax z_5 0)), (3, .int (kmax z_4 0)), (0, .ref q0), (1, .ref q6), (2, .ref q13)]) hx hb dX3_lookAtBorder_75 hl (by decide) rfl (fun ls hl => ?_)
      refine lv_iload hx hb dX3_lookAtBorder_77 (lv_at hl 0 rfl) ?_
      refine lv_if_eq (tgt := 86) hx hb dX3_lookAtBorder_79 (by decide) (fun _ => ?_) (fun h => absurd (by decide) h)
      refine lv_iconst (v := 0) hx hb dX3_lookAtBorder_86 (by decide) ?_
      subst hu
      exact k_iret hx hb hr hlocks hP hD hS rfl rfl dX3_lookAtBorder_87
    · replace hu := hu.trans (if_pos c_8)
      refine lv_aload_n hx hb dX3_lookAtBorder_54 rfl (lv_at hl 3 rfl) ?_
      refine va_getN (D := DD) (ci := 2) (v := .ref q10) (C := RX2) (T := TX2) (N := 7) (host := "TextPatterns") hx hb hts (fun w h => List.mem_cons_of_mem _ (inX2 w h)) hown hE.1 hP 6 rfl rfl 3 (by decide) (va_Nw.use rfl (hE.2.1 (.fieldLinkNest "TextPatterns$Matcher" 117 "TextPatterns$Items" "sets" "LTextPatterns$Sets;" "TextPatterns") (by decide +kernel))) (fun _ h9 => h9) rfl dX3_lookAtBorder_55 ?_
      refine lv_aload_n hx hb dX3_lookAtBorder_58 rfl (lv_at hl 2 rfl) ?_
      refine va_get (D := DD) (ci := 3) (v := .int item) (C := RX3) (T := TX3) (N := 9) hx hb hts (fun w h => List.mem_cons_of_mem _ (inX3 w h)) hown hE.1 hP 0 rfl rfl 6 (by decide) (hts (.fieldLink "TextPatterns$Matcher" 37 "TextPatterns$Matcher" "item" "I") (List.mem_cons_of_mem _ w_154)) (fun _ h9 => h9) rfl dX3_lookAtBorder_59 ?_
      refine lv_iload hx hb dX3_lookAtBorder_62 (lv_at hl 0 rfl) ?_
      obtain ⟨z_9, hz_9⟩ : ∃ z, z = f_X1_holds 2052 it_sets_words item (kmax z_5 0) := ⟨_, rfl⟩
      replace hu := hu.trans (kb_of hz_9)
      refine k_callV (As := [.int item, .int (kmax z_5 0)]) (rest := []) (wc := [(q10, .inr (1, [.ref q11])), (q11, .inl (aC 2, 2052, .inr (.inl it_sets_words)))]) (wr := [(q0, .inr (3, [.ref q1, .ref q2, .ref q3, .ref q4, .ref q5, .int choices, .int item, .int place, .int z_1.2])), (q1, .inl (aC 0, 513, .inl choiceItems)), (q2, .inl (aC 0, 513, .inl choiceLeast)), (q3, .inl (aC 0, 513, .inl choicePlaces)), (q4, .inl (aC 0, 32, .inl starts)), (q5, .inl (aC 0, 32, .inl lengths)), (q6, .inr (2, [.ref q7, .ref q8, .ref q9, .ref q10, .ref q12, .int it_count, .int it_captureCount])), (q7, .inl (aC 0, 513, .inl it_kinds)), (q8, .inl (aC 0, 513, .inl it_ones)), (q9, .inl (aC 0, 513, .inl it_twos)), (q12, .inl (aC 0, 32, .inl it_states)), (q13, .inr (0, [.ref q14, .int t_length])), (q14, .inl (aC 1, t_n, .inl t_bytes))]) (w1 := [(q10, .inr (1, [.ref q11])), (q11, .inl (aC 2, 2052, .inr (.inl it_sets_words)))]) (wn := [(q0, .inr (3, [.ref q1, .ref q2, .ref q3, .ref q4, .ref q5, .int choices, .int item, .int place, .int z_1.2])), (q1, .inl (aC 0, 513, .inl choiceItems)), (q2, .inl (aC 0, 513, .inl choiceLeast)), (q3, .inl (aC 0, 513, .inl choicePlaces)), (q4, .inl (aC 0, 32, .inl starts)), (q5, .inl (aC 0, 32, .inl lengths)), (q6, .inr (2, [.ref q7, .ref q8, .ref q9, .ref q10, .ref q12, .int it_count, .int it_captureCount])), (q7, .inl (aC 0, 513, .inl it_kinds)), (q8, .inl (aC 0, 513, .inl it_ones)), (q9, .inl (aC 0, 513, .inl it_twos)), (q10, .inr (1, [.ref q11])), (q11, .inl (aC 2, 2052, .inr (.inl it_sets_words))), (q12, .inl (aC 0, 32, .inl it_states)), (q13, .inr (0, [.ref q14, .int t_length])), (q14, .inl (aC 1, t_n, .inl t_bytes))]) ⟨hx, hb, hml, hown, hts⟩ (c_X1_holds l DD aC tt q10 q11 2052 it_sets_words item (kmax z_5 0) (by decide) z_9 hz_9) (cwV 2 hts (gdV w_391 w_392 w_393 w_72 w_394) rfl rfl rfl (by decide +kernel) ⟨Nat.le_of_ble_eq_true rfl, Nat.le_of_ble_eq_true rfl⟩) hP hD hS hA hE [10, 11] [0, 1, 2, 3, 4, 5, 6, 7, 8, 9, 12, 13, 14] [0, 1, 2, 3, 4, 5, 6, 7, 8, 9, 13, 14, 10, 11, 12] rfl rfl rfl (by decide) (by decide) (by decide) (by decide) (ci := 1) (q0 := 0) rfl rfl rfl hl.1 rfl (Nat.le_of_ble_eq_true rfl) dX3_lookAtBorder_64 (fun H locs hP hD hS => ?_)
      refine W.eq (g2 := F0 m 67 ls [.int z_9]) rfl ?_
      have h_10 := pf_X1_holds (by decide) hz_9
      refine lv_if_eq (tgt := 74) hx hb dX3_lookAtBorder_67 (by decide) (fun c_11 => ?_) (fun c_11 => ?_)
      · replace hu := hu.trans (if_pos c_11)
        refine lv_iconst (v := 0) hx hb dX3_lookAtBorder_74 (by decide) ?_
        refine lv_istore (lv' := [(5, .int 0), (4, .int (kmax z_5 0)), (3, .int (kmax z_4 0)), (0, .ref q0), (1, .ref q6), (2, .ref q13)]) hx hb dX3_lookAtBorder_75 hl (by decide) rfl (fun ls hl => ?_)
        refine lv_iload hx hb dX3_lookAtBorder_77 (lv_at hl 0 rfl) ?_
        refine lv_if_eq (tgt := 86) hx hb dX3_lookAtBorder_79 (by decide) (fun _ => ?_) (fun h => absurd (by decide) h)
        refine lv_iconst (v := 0) hx hb dX3_lookAtBorder_86 (by decide) ?_
        subst hu
        exact k_iret hx hb hr hlocks hP hD hS rfl rfl dX3_lookAtBorder_87
      · replace hu := hu.trans (if_neg c_11)
        refine lv_iconst (v := 1) hx hb dX3_lookAtBorder_70 (by decide) ?_
        refine lv_goto (tgt := 75) hx hb dX3_lookAtBorder_71 (by decide) ?_
        refine lv_istore (lv' := [(5, .int 1), (4, .int (kmax z_5 0)), (3, .int (kmax z_4 0)), (0, .ref q0), (1, .ref q6), (2, .ref q13)]) hx hb dX3_lookAtBorder_75 hl (by decide) rfl (fun ls hl => ?_)
        refine lv_iload hx hb dX3_lookAtBorder_77 (lv_at hl 0 rfl) ?_
        refine lv_if_eq (tgt := 86) hx hb dX3_lookAtBorder_79 (by decide) (fun h => absurd h (by decide)) (fun _ => ?_)
        refine lv_iconst (v := 1) hx hb dX3_lookAtBorder_82 (by decide) ?_
        refine lv_goto (tgt := 87) hx hb dX3_lookAtBorder_83 (by decide) ?_
        subst hu
        exact k_iret hx hb hr hlocks hP hD hS rfl rfl dX3_lookAtBorder_87
  · replace hu := hu.trans (if_pos c_3)
    refine lv_bipush (v := (-4)) hx hb dX3_lookAtBorder_7 (by decide) ?_
    subst hu
    exact k_iret hx hb hr hlocks hP hD hS rfl rfl dX3_lookAtBorder_9
def f_X3_takeSame_L0 (k : Nat) (t_length : Int32) (t_bytes : Nat → Int32) (place : Int32) (looks : Int32) (x2 : Int32) (x3 : Int32) (x4 : Int32) : Int32 × Int32 × Int32 := match k with
  | 0 => (0, 0, 0)
  | k + 1 => (if x3 ≤ x4 then (1, place + x3, looks) else (kb (f_X3_mayLook looks) (fun z_3 => (if z_3.1 = 0 then ((-4), place, z_3.2) else (kb (f_X0_at t_length t_bytes (place + x4)) (fun z_6 => (kb (f_X0_at t_length t_bytes (x2 + x4)) (fun z_7 => (if z_6 = z_7 then (f_X3_takeSame_L0 k t_length t_bytes place z_3.2 x2 x3 (x4 + 1)) else (0, place, z_3.2))))))))))
theorem f_X3_takeSame_L0_s {k : Nat} {t_length : Int32} {t_bytes : Nat → Int32} {place : Int32} {looks : Int32} {x2 : Int32} {x3 : Int32} {x4 : Int32} : f_X3_takeSame_L0 (k + 1) t_length t_bytes place looks x2 x3 x4 = (if x3 ≤ x4 then (1, place + x3, looks) else (kb (f_X3_mayLook looks) (fun z_3 => (if z_3.1 = 0 then ((-4), place, z_3.2) else (kb (f_X0_at t_length t_bytes (place + x4)) (fun z_6 => (kb (f_X0_at t_length t_bytes (x2 + x4)) (fun z_7 => (if z_6 = z_7 then (f_X3_takeSame_L0 k t_length t_bytes place z_3.2 x2 x3 (x4 + 1)) else (0, place, z_3.2)))))))))) := rfl
def f_X3_takeSame (place : Int32) (looks : Int32) (t_length : Int32) (t_bytes : Nat → Int32) (a2 : Int32) (a3 : Int32) : Int32 × Int32 × Int32 := (if a3 ≤ (t_length - place) then (f_X3_takeSame_L0 ((a3.toInt - (0 : Int32).toInt).toNat + 1) t_length t_bytes place looks a2 a3 0) else (0, place, looks))
abbrev rm_X3_takeSame : Room := { frames := 1, cells := 0, slots := 0, locals := 21 }
set_option maxHeartbeats 4000000 in
set_option maxRecDepth 100000 in
theorem t_X3_takeSame_L0 {l : Launch} {DD : va_G} {aC : Nat → ClassId} {tt : Nat → Nat} {p : Program} {e : Env} {s : State} {m : MethodId} {below : List Frame} {meth : Method} {c : Code} {A : Nat → Prop} {AV : Array Value} (X : kX p s m AV meth c cX3_takeSame (some .int) 5 wsX3_takeSame RX3 DD aC tt A) (q0 q1 q2 q3 q4 q5 q6 q7 t_n : Nat) (choices : Int32) (item : Int32) (choiceItems : Nat → Int32) (choiceLeast : Nat → Int32) (choicePlaces : Nat → Int32) (starts : Nat → Int32) (lengths : Nat → Int32) (t_length : Int32) (t_bytes : Nat → Int32) (a2 : Int32) (a3 : Int32) (hp_0 : t_length.toInt ≤ t_n) :
    ∀ (k : Nat) (place : Int32) (looks : Int32) (x2 : Int32) (x3 : Int32) (x4 : Int32), (x3.toInt - x4.toInt).toNat < k → ∀ (u : Int32 × Int32 × Int32), u = f_X3_takeSame_L0 k t_length t_bytes place looks x2 x3 x4 → ∀ (H : Heap) (locs : List Loc) (ls : Array Slot), va_P DD vwCl [(q0, .inr (3, [.ref q1, .ref q2, .ref q3, .ref q4, .ref q5, .int choices, .int item, .int place, .int looks])), (q1, .inl (aC 0, 513, .inl choiceItems)), (q2, .inl (aC 0, 513, .inl choiceLeast)), (q3, .inl (aC 0, 513, .inl choicePlaces)), (q4, .inl (aC 0, 32, .inl starts)), (q5, .inl (aC 0, 32, .inl lengths)), (q6, .inr (0, [.ref q7, .int t_length])), (q7, .inl (aC 1, t_n, .inl t_bytes))] H → va_D A [(q0, .inr (3, [.ref q1, .ref q2, .ref q3, .ref q4, .ref q5, .int choices, .int item, .int place, .int looks])), (q1, .inl (aC 0, 513, .inl choiceItems)), (q2, .inl (aC 0, 513, .inl choiceLeast)), (q3, .inl (aC 0, 513, .inl choicePlaces)), (q4, .inl (aC 0, 32, .inl starts)), (q5, .inl (aC 0, 32, .inl lengths)), (q6, .inr (0, [.ref q7, .int t_length])), (q7, .inl (aC 1, t_n, .inl t_bytes))] → va_S A s.heap H locs → lv_has ls 5 [(0, .ref q0), (1, .ref q6), (2, .int x2), (3, .int x3), (4, .int x4)] → W p l e rm_X3_takeSame s m AV below meth c H locs 0 0 (MQ below (kQ DD vwCl (some (.int u.1)) [(q0, .inr (3, [.ref q1, .ref q2, .ref q3, .ref q4, .ref q5, .int choices, .int item, .int u.2.1, .int u.2.2])), (q1, .inl (aC 0, 513, .inl choiceItems)), (q2, .inl (aC 0, 513, .inl choiceLeast)), (q3, .inl (aC 0, 513, .inl choicePlaces)), (q4, .inl (aC 0, 32, .inl starts)), (q5, .inl (aC 0, 32, .inl lengths)), (q6, .inr (0, [.ref q7, .int t_length])), (q7, .inl (aC 1, t_n, .inl t_bytes))] A) AV s 0 0 A) (F0 m 18 ls []) := by
  obtain ⟨hx, hb, hr, hml, hts, hown, hlocks, hA, hE⟩ := id X
  intro k
  induction k with
  | zero =>
    intro place looks x2 x3 x4 hk
    exact absurd hk (Nat.not_lt_zero _)
  | succ k ih =>
    intro place looks x2 x3 x4 hk u hu H locs ls hP hD hS hl
    replace hu := hu.trans f_X3_takeSame_L0_s
    refine lv_iload hx hb dX3_takeSame_18 (lv_at hl 4 rfl) ?_
    refine lv_iload_n hx hb dX3_takeSame_20 rfl (lv_at hl 3 rfl) ?_
    refine lv_icmp_ge (tgt := 64) hx hb dX3_takeSame_21 (by decide) (fun c_2 => ?_) (fun c_2 => ?_)
    · replace hu := hu.trans (if_pos c_2)
      refine lv_aload_n hx hb dX3_takeSame_64 rfl (lv_at hl 0 rfl) ?_
      refine lv_dup hx hb dX3_takeSame_65 rfl ?_
      refine va_get (D := DD) (ci := 3) (v := .int place) (C := RX3) (T := TX3) (N := 9) hx hb hts (fun w h => List.mem_cons_of_mem _ (inX3 w h)) hown hE.1 hP 0 rfl rfl 7 (by decide) (hts (.fieldLink "TextPatterns$Matcher" 31 "TextPatterns$Matcher" "place" "I") (List.mem_cons_of_mem _ w_155)) (fun _ h9 => h9) rfl dX3_takeSame_66 ?_
      refine lv_iload_n hx hb dX3_takeSame_69 rfl (lv_at hl 3 rfl) ?_
      refine lv_iadd hx hb dX3_takeSame_70 ?_
      refine va_put (D := DD) (ci := 3) (v := .int (place + x3)) (ty := .int) (C := RX3) (T := TX3) (N := 9) hx hb hts (fun w h => List.mem_cons_of_mem _ (inX3 w h)) tyX3 tyX3_ok nmX3 hown hE.1 hP hD hS 0 rfl rfl 7 (by decide) (hts (.fieldLink "TextPatterns$Matcher" 31 "TextPatterns$Matcher" "place" "I") (List.mem_cons_of_mem _ w_155)) (fun _ h9 => h9) rfl (by decide +kernel) rfl rfl (Nat.le_of_ble_eq_true rfl) dX3_takeSame_71 (fun H locs hP hD hS => ?_)
      have hP : va_P DD vwCl [(q0, .inr (3, [.ref q1, .ref q2, .ref q3, .ref q4, .ref q5, .int choices, .int item, .int (place + x3), .int looks])), (q1, .inl (aC 0, 513, .inl choiceItems)), (q2, .inl (aC 0, 513, .inl choiceLeast)), (q3, .inl (aC 0, 513, .inl choicePlaces)), (q4, .inl (aC 0, 32, .inl starts)), (q5, .inl (aC 0, 32, .inl lengths)), (q6, .inr (0, [.ref q7, .int t_length])), (q7, .inl (aC 1, t_n, .inl t_bytes))] H := hP
      have hD : va_D A [(q0, .inr (3, [.ref q1, .ref q2, .ref q3, .ref q4, .ref q5, .int choices, .int item, .int (place + x3), .int looks])), (q1, .inl (aC 0, 513, .inl choiceItems)), (q2, .inl (aC 0, 513, .inl choiceLeast)), (q3, .inl (aC 0, 513, .inl choicePlaces)), (q4, .inl (aC 0, 32, .inl starts)), (q5, .inl (aC 0, 32, .inl lengths)), (q6, .inr (0, [.ref q7, .int t_length])), (q7, .inl (aC 1, t_n, .inl t_bytes))] := hD
      refine lv_iconst (v := 1) hx hb dX3_takeSame_74 (by decide) ?_
      subst hu
      exact k_iret hx hb hr hlocks hP hD hS rfl rfl dX3_takeSame_75
    · replace hu := hu.trans (if_neg c_2)
      refine lv_aload_n hx hb dX3_takeSame_24 rfl (lv_at hl 0 rfl) ?_
      obtain ⟨z_3, hz_3⟩ : ∃ z, z = f_X3_mayLook looks := ⟨_, rfl⟩
      replace hu := hu.trans (kb_of hz_3)
      refine k_callV (As := []) (rest := []) (wc := [(q0, .inr (3, [.ref q1, .ref q2, .ref q3, .ref q4, .ref q5, .int choices, .int item, .int place, .int looks])), (q1, .inl (aC 0, 513, .inl choiceItems)), (q2, .inl (aC 0, 513, .inl choiceLeast)), (q3, .inl (aC 0, 513, .inl choicePlaces)), (q4, .inl (aC 0, 32, .inl starts)), (q5, .inl (aC 0, 32, .inl lengths))]) (wr := [(q6, .inr (0, [.ref q7, .int t_length])), (q7, .inl (aC 1, t_n, .inl t_bytes))]) (w1 := [(q0, .inr (3, [.ref q1, .ref q2, .ref q3, .ref q4, .ref q5, .int choices, .int item, .int place, .int z_3.2])), (q1, .inl (aC 0, 513, .inl choiceItems)), (q2, .inl (aC 0, 513, .inl choiceLeast)), (q3, .inl (aC 0, 513, .inl choicePlaces)), (q4, .inl (aC 0, 32, .inl starts)), (q5, .inl (aC 0, 32, .inl lengths))]) (wn := [(q0, .inr (3, [.ref q1, .ref q2, .ref q3, .ref q4, .ref q5, .int choices, .int item, .int place, .int z_3.2])), (q1, .inl (aC 0, 513, .inl choiceItems)), (q2, .inl (aC 0, 513, .inl choiceLeast)), (q3, .inl (aC 0, 513, .inl choicePlaces)), (q4, .inl (aC 0, 32, .inl starts)), (q5, .inl (aC 0, 32, .inl lengths)), (q6, .inr (0, [.ref q7, .int t_length])), (q7, .inl (aC 1, t_n, .inl t_bytes))]) ⟨hx, hb, hml, hown, hts⟩ (c_X3_mayLook l DD aC tt q0 q1 q2 q3 q4 q5  choices item place looks choiceItems choiceLeast choicePlaces starts lengths   z_3 hz_3) (cwV 0 hts (gdV w_387 w_389 w_23 w_73 w_390) rfl rfl rfl (by decide +kernel) ⟨Nat.le_of_ble_eq_true rfl, Nat.le_of_ble_eq_true rfl⟩) hP hD hS hA hE [0, 1, 2, 3, 4, 5] [6, 7] [2, 3, 4, 5, 6, 7, 0, 1] rfl rfl rfl (by decide) (by decide) (by decide) (by decide) (ci := 3) (q0 := 0) rfl rfl rfl hl.1 rfl (Nat.le_of_ble_eq_true rfl) dX3_takeSame_25 (fun H locs hP hD hS => ?_)
      have hP : va_P DD vwCl [(q0, .inr (3, [.ref q1, .ref q2, .ref q3, .ref q4, .ref q5, .int choices, .int item, .int place, .int z_3.2])), (q1, .inl (aC 0, 513, .inl choiceItems)), (q2, .inl (aC 0, 513, .inl choiceLeast)), (q3, .inl (aC 0, 513, .inl choicePlaces)), (q4, .inl (aC 0, 32, .inl starts)), (q5, .inl (aC 0, 32, .inl lengths)), (q6, .inr (0, [.ref q7, .int t_length])), (q7, .inl (aC 1, t_n, .inl t_bytes))] H := hP
      have hD : va_D A [(q0, .inr (3, [.ref q1, .ref q2, .ref q3, .ref q4, .ref q5, .int choices, .int item, .int place, .int z_3.2])), (q1, .inl (aC 0, 513, .inl choiceItems)), (q2, .inl (aC 0, 513, .inl choiceLeast)), (q3, .inl (aC 0, 513, .inl choicePlaces)), (q4, .inl (aC 0, 32, .inl starts)), (q5, .inl (aC 0, 32, .inl lengths)), (q6, .inr (0, [.ref q7, .int t_length])), (q7, .inl (aC 1, t_n, .inl t_bytes))] := hD
      refine W.eq (g2 := F0 m 28 ls [.int z_3.1]) rfl ?_
      have h_4 := pf_X3_mayLook hz_3
      refine lv_if_ne (tgt := 34) hx hb dX3_takeSame_28 (by decide) (fun c_5 => ?_) (fun c_5 => ?_)
      · replace hu := hu.trans (if_neg c_5)
        refine lv_aload_n hx hb dX3_takeSame_34 rfl (lv_at hl 1 rfl) ?_
        refine lv_aload_n hx hb dX3_takeSame_35 rfl (lv_at hl 0 rfl) ?_
        refine va_get (D := DD) (ci := 3) (v := .int place) (C := RX3) (T := TX3) (N := 9) hx hb hts (fun w h => List.mem_cons_of_mem _ (inX3 w h)) hown hE.1 hP 0 rfl rfl 7 (by decide) (hts (.fieldLink "TextPatterns$Matcher" 31 "TextPatterns$Matcher" "place" "I") (List.mem_cons_of_mem _ w_155)) (fun _ h9 => h9) rfl dX3_takeSame_36 ?_
        refine lv_iload hx hb dX3_takeSame_39 (lv_at hl 4 rfl) ?_
        refine lv_iadd hx hb dX3_takeSame_41 ?_
        obtain ⟨z_6, hz_6⟩ : ∃ z, z = f_X0_at t_length t_bytes (place + x4) := ⟨_, rfl⟩
        replace hu := hu.trans (kb_of hz_6)
        refine k_callV (As := [.int (place + x4)]) (rest := []) (wc := [(q6, .inr (0, [.ref q7, .int t_length])), (q7, .inl (aC 1, t_n, .inl t_bytes))]) (wr := [(q0, .inr (3, [.ref q1, .ref q2, .ref q3, .ref q4, .ref q5, .int choices, .int item, .int place, .int z_3.2])), (q1, .inl (aC 0, 513, .inl choiceItems)), (q2, .inl (aC 0, 513, .inl choiceLeast)), (q3, .inl (aC 0, 513, .inl choicePlaces)), (q4, .inl (aC 0, 32, .inl starts)), (q5, .inl (aC 0, 32, .inl lengths))]) (w1 := [(q6, .inr (0, [.ref q7, .int t_length])), (q7, .inl (aC 1, t_n, .inl t_bytes))]) (wn := [(q0, .inr (3, [.ref q1, .ref q2, .ref q3, .ref q4, .ref q5, .int choices, .int item, .int place, .int z_3.2])), (q1, .inl (aC 0, 513, .inl choiceItems)), (q2, .inl (aC 0, 513, .inl choiceLeast)), (q3, .inl (aC 0, 513, .inl choicePlaces)), (q4, .inl (aC 0, 32, .inl starts)), (q5, .inl (aC 0, 32, .inl lengths)), (q6, .inr (0, [.ref q7, .int t_length])), (q7, .inl (aC 1, t_n, .inl t_bytes))]) ⟨hx, hb, hml, hown, hts⟩ (c_X0_at l DD aC tt q6 q7 t_n t_length t_bytes (place + x4) hp_0 z_6 hz_6) (cwV 1 hts (gdV w_386 w_259 w_260 w_69 w_261) rfl rfl rfl (by decide +kernel) ⟨Nat.le_of_ble_eq_true rfl, Nat.le_of_ble_eq_true rfl⟩) hP hD hS hA hE [6, 7] [0, 1, 2, 3, 4, 5] [0, 1, 2, 3, 4, 5, 6, 7] rfl rfl rfl (by decide) (by decide) (by decide) (by decide) (ci := 0) (q0 := 0) rfl rfl rfl hl.1 rfl (Nat.le_of_ble_eq_true rfl) dX3_takeSame_42 (fun H locs hP hD hS => ?_)
        refine W.eq (g2 := F0 m 45 ls [.int z_6]) rfl ?_
        refine lv_aload_n hx hb dX3_takeSame_45 rfl (lv_at hl 1 rfl) ?_
        refine lv_iload_n hx hb dX3_takeSame_46 rfl (lv_at hl 2 rfl) ?_
        refine lv_iload hx hb dX3_takeSame_47 (lv_at hl 4 rfl) ?_
        refine lv_iadd hx hb dX3_takeSame_49 ?_
        obtain ⟨z_7, hz_7⟩ : ∃ z, z = f_X0_at t_length t_bytes (x2 + x4) := ⟨_, rfl⟩
        replace hu := hu.trans (kb_of hz_7)
        refine k_callV (As := [.int (x2 + x4)]) (rest := [.int z_6]) (wc := [(q6, .inr (0, [.ref q7, .int t_length])), (q7, .inl (aC 1, t_n, .inl t_bytes))]) (wr := [(q0, .inr (3, [.ref q1, .ref q2, .ref q3, .ref q4, .ref q5, .int choices, .int item, .int place, .int z_3.2])), (q1, .inl (aC 0, 513, .inl choiceItems)), (q2, .inl (aC 0, 513, .inl choiceLeast)), (q3, .inl (aC 0, 513, .inl choicePlaces)), (q4, .inl (aC 0, 32, .inl starts)), (q5, .inl (aC 0, 32, .inl lengths))]) (w1 := [(q6, .inr (0, [.ref q7, .int t_length])), (q7, .inl (aC 1, t_n, .inl t_bytes))]) (wn := [(q0, .inr (3, [.ref q1, .ref q2, .ref q3, .ref q4, .ref q5, .int choices, .int item, .int place, .int z_3.2])), (q1, .inl (aC 0, 513, .inl choiceItems)), (q2, .inl (aC 0, 513, .inl choiceLeast)), (q3, .inl (aC 0, 513, .inl choicePlaces)), (q4, .inl (aC 0, 32, .inl starts)), (q5, .inl (aC 0, 32, .inl lengths)), (q6, .inr (0, [.ref q7, .int t_length])), (q7, .inl (aC 1, t_n, .inl t_bytes))]) ⟨hx, hb, hml, hown, hts⟩ (c_X0_at l DD aC tt q6 q7 t_n t_length t_bytes (x2 + x4) hp_0 z_7 hz_7) (cwV 1 hts (gdV w_386 w_259 w_260 w_69 w_261) rfl rfl rfl (by decide +kernel) ⟨Nat.le_of_ble_eq_true rfl, Nat.le_of_ble_eq_true rfl⟩) hP hD hS hA hE [6, 7] [0, 1, 2, 3, 4, 5] [0, 1, 2, 3, 4, 5, 6, 7] rfl rfl rfl (by decide) (by decide) (by decide) (by decide) (ci := 0) (q0 := 0) rfl rfl rfl hl.1 rfl (Nat.le_of_ble_eq_true rfl) dX3_takeSame_50 (fun H locs hP hD hS => ?_)
        refine W.eq (g2 := F0 m 53 ls [.int z_7, .int z_6]) rfl ?_
        refine lv_icmp_eq (tgt := 58) hx hb dX3_takeSame_53 (by decide) (fun c_8 => ?_) (fun c_8 => ?_)
        · replace hu := hu.trans (if_pos c_8)
          refine lv_iinc (v := x4 + 1) (lv' := [(4, .int (x4 + 1)), (0, .ref q0), (1, .ref q6), (2, .int x2), (3, .int x3)]) hx hb dX3_takeSame_58 hl (k := 4) rfl rfl (by decide) rfl (fun ls hl => ?_)
          refine lv_goto (tgt := 18) hx hb dX3_takeSame_61 (by decide) ?_
          exact ih place z_3.2 x2 x3 (x4 + 1) (Nat.lt_of_lt_of_le (kmu_up c_2) (Nat.le_of_lt_succ hk)) u hu _ _ _ hP hD hS (lv_sub hl [1, 2, 3, 4, 0] rfl)
        · replace hu := hu.trans (if_neg c_8)
          refine lv_iconst (v := 0) hx hb dX3_takeSame_56 (by decide) ?_
          subst hu
          exact k_iret hx hb hr hlocks hP hD hS rfl rfl dX3_takeSame_57
      · replace hu := hu.trans (if_pos c_5)
        refine lv_bipush (v := (-4)) hx hb dX3_takeSame_31 (by decide) ?_
        subst hu
        exact k_iret hx hb hr hlocks hP hD hS rfl rfl dX3_takeSame_33
set_option maxHeartbeats 4000000 in
set_option maxRecDepth 100000 in
theorem c_X3_takeSame (l : Launch) (DD : va_G) (aC : Nat → ClassId) (tt : Nat → Nat) (q0 q1 q2 q3 q4 q5 q6 q7 t_n : Nat) (choices : Int32) (item : Int32) (place : Int32) (looks : Int32) (choiceItems : Nat → Int32) (choiceLeast : Nat → Int32) (choicePlaces : Nat → Int32) (starts : Nat → Int32) (lengths : Nat → Int32) (t_length : Int32) (t_bytes : Nat → Int32) (a2 : Int32) (a3 : Int32) (hp_0 : t_length.toInt ≤ t_n) (u : Int32 × Int32 × Int32) (hu : u = f_X3_takeSame place looks t_length t_bytes a2 a3) : kM l yX3_takeSame wsX3_takeSame rm_X3_takeSame DD aC tt [.ref q0, .ref q6, .int a2, .int a3] [(q0, .inr (3, [.ref q1, .ref q2, .ref q3, .ref q4, .ref q5, .int choices, .int item, .int place, .int looks])), (q1, .inl (aC 0, 513, .inl choiceItems)), (q2, .inl (aC 0, 513, .inl choiceLeast)), (q3, .inl (aC 0, 513, .inl choicePlaces)), (q4, .inl (aC 0, 32, .inl starts)), (q5, .inl (aC 0, 32, .inl lengths)), (q6, .inr (0, [.ref q7, .int t_length])), (q7, .inl (aC 1, t_n, .inl t_bytes))] (some (.int u.1)) [(q0, .inr (3, [.ref q1, .ref q2, .ref q3, .ref q4, .ref q5, .int choices, .int item, .int u.2.1, .int u.2.2])), (q1, .inl (aC 0, 513, .inl choiceItems)), (q2, .inl (aC 0, 513, .inl choiceLeast)), (q3, .inl (aC 0, 513, .inl choicePlaces)), (q4, .inl (aC 0, 32, .inl starts)), (q5, .inl (aC 0, 32, .inl lengths)), (q6, .inr (0, [.ref q7, .int t_length])), (q7, .inl (aC 1, t_n, .inl t_bytes))] := by
  refine k_start (cc := cX3_takeSame) (maxL := 5) (ret := (some .int)) (own := RX3) (lv0 := [(0, .ref q0), (1, .ref q6), (2, .int a2), (3, .int a3)]) (by decide) rfl rfl (Nat.le_of_ble_eq_true rfl) rfl (fun p e s m below meth c A ls X hP hD hS hl => ?_)
  obtain ⟨hx, hb, hr, hml, hts, hown, hlocks, hA, hE⟩ := id X
  unfold f_X3_takeSame at hu
  refine lv_aload_n hx hb dX3_takeSame_0 rfl (lv_at hl 1 rfl) ?_
  refine k_callV (As := []) (rest := []) (wc := [(q6, .inr (0, [.ref q7, .int t_length])), (q7, .inl (aC 1, t_n, .inl t_bytes))]) (wr := [(q0, .inr (3, [.ref q1, .ref q2, .ref q3, .ref q4, .ref q5, .int choices, .int item, .int place, .int looks])), (q1, .inl (aC 0, 513, .inl choiceItems)), (q2, .inl (aC 0, 513, .inl choiceLeast)), (q3, .inl (aC 0, 513, .inl choicePlaces)), (q4, .inl (aC 0, 32, .inl starts)), (q5, .inl (aC 0, 32, .inl lengths))]) (w1 := [(q6, .inr (0, [.ref q7, .int t_length])), (q7, .inl (aC 1, t_n, .inl t_bytes))]) (wn := [(q0, .inr (3, [.ref q1, .ref q2, .ref q3, .ref q4, .ref q5, .int choices, .int item, .int place, .int looks])), (q1, .inl (aC 0, 513, .inl choiceItems)), (q2, .inl (aC 0, 513, .inl choiceLeast)), (q3, .inl (aC 0, 513, .inl choicePlaces)), (q4, .inl (aC 0, 32, .inl starts)), (q5, .inl (aC 0, 32, .inl lengths)), (q6, .inr (0, [.ref q7, .int t_length])), (q7, .inl (aC 1, t_n, .inl t_bytes))]) ⟨hx, hb, hml, hown, hts⟩ (c_X0_length l DD aC tt q6 q7 t_n t_length t_bytes   t_length rfl) (cwV 0 hts (gdV w_423 w_235 w_236 w_69 w_237) rfl rfl rfl (by decide +kernel) ⟨Nat.le_of_ble_eq_true rfl, Nat.le_of_ble_eq_true rfl⟩) hP hD hS hA hE [6, 7] [0, 1, 2, 3, 4, 5] [0, 1, 2, 3, 4, 5, 6, 7] rfl rfl rfl (by decide) (by decide) (by decide) (by decide) (ci := 0) (q0 := 0) rfl rfl rfl hl.1 rfl (Nat.le_of_ble_eq_true rfl) dX3_takeSame_1 (fun H locs hP hD hS => ?_)
  refine W.eq (g2 := F0 m 4 ls [.int t_length]) rfl ?_
  refine lv_aload_n hx hb dX3_takeSame_4 rfl (lv_at hl 0 rfl) ?_
  refine va_get (D := DD) (ci := 3) (v := .int place) (C := RX3) (T := TX3) (N := 9) hx hb hts (fun w h => List.mem_cons_of_mem _ (inX3 w h)) hown hE.1 hP 0 rfl rfl 7 (by decide) (hts (.fieldLink "TextPatterns$Matcher" 31 "TextPatterns$Matcher" "place" "I") (List.mem_cons_of_mem _ w_155)) (fun _ h9 => h9) rfl dX3_takeSame_5 ?_
  refine lv_isub hx hb dX3_takeSame_8 ?_
  refine lv_iload_n hx hb dX3_takeSame_9 rfl (lv_at hl 3 rfl) ?_
  refine lv_icmp_ge (tgt := 15) hx hb dX3_takeSame_10 (by decide) (fun c_1 => ?_) (fun c_1 => ?_)
  · replace hu := hu.trans (if_pos c_1)
    refine lv_iconst (v := 0) hx hb dX3_takeSame_15 (by decide) ?_
    refine lv_istore (lv' := [(4, .int 0), (0, .ref q0), (1, .ref q6), (2, .int a2), (3, .int a3)]) hx hb dX3_takeSame_16 hl (by decide) rfl (fun ls hl => ?_)
    exact t_X3_takeSame_L0 X q0 q1 q2 q3 q4 q5 q6 q7 t_n choices item choiceItems choiceLeast choicePlaces starts lengths t_length t_bytes a2 a3 hp_0 ((a3.toInt - (0 : Int32).toInt).toNat + 1) place looks a2 a3 0 (Nat.lt_succ_self _) u hu _ _ _ hP hD hS (lv_sub hl [1, 2, 3, 4, 0] rfl)
  · replace hu := hu.trans (if_neg c_1)
    refine lv_iconst (v := 0) hx hb dX3_takeSame_13 (by decide) ?_
    subst hu
    exact k_iret hx hb hr hlocks hP hD hS rfl rfl dX3_takeSame_14
def f_X3_takePair_L0 (k : Nat) (t_length : Int32) (t_bytes : Nat → Int32) (place : Int32) (looks : Int32) (x2 : Int32) (x3 : Int32) (x4 : Int32) (x5 : Int32) (x6 : Int32) : Int32 × Int32 × Int32 := match k with
  | 0 => (0, 0, 0)
  | k + 1 => (if t_length ≤ x6 then (0, place, looks) else (if x5 ≤ 0 then (0, place, looks) else (kb (f_X3_mayLook looks) (fun z_9 => (if z_9.1 = 0 then ((-4), place, z_9.2) else (kb (f_X0_at t_length t_bytes x6) (fun z_12 => (if z_12 = x3 then (if (x5 + (-1)) = 0 then (1, x6 + 1, z_9.2) else (f_X3_takePair_L0 k t_length t_bytes place z_9.2 x2 x3 x4 (x5 + (-1)) (x6 + 1))) else (if z_12 = x2 then (if (x5 + 1) = 0 then (1, x6 + 1, z_9.2) else (f_X3_takePair_L0 k t_length t_bytes place z_9.2 x2 x3 x4 (x5 + 1) (x6 + 1))) else (if x5 = 0 then (1, x6 + 1, z_9.2) else (f_X3_takePair_L0 k t_length t_bytes place z_9.2 x2 x3 x4 x5 (x6 + 1))))))))))))
theorem f_X3_takePair_L0_s {k : Nat} {t_length : Int32} {t_bytes : Nat → Int32} {place : Int32} {looks : Int32} {x2 : Int32} {x3 : Int32} {x4 : Int32} {x5 : Int32} {x6 : Int32} : f_X3_takePair_L0 (k + 1) t_length t_bytes place looks x2 x3 x4 x5 x6 = (if t_length ≤ x6 then (0, place, looks) else (if x5 ≤ 0 then (0, place, looks) else (kb (f_X3_mayLook looks) (fun z_9 => (if z_9.1 = 0 then ((-4), place, z_9.2) else (kb (f_X0_at t_length t_bytes x6) (fun z_12 => (if z_12 = x3 then (if (x5 + (-1)) = 0 then (1, x6 + 1, z_9.2) else (f_X3_takePair_L0 k t_length t_bytes place z_9.2 x2 x3 x4 (x5 + (-1)) (x6 + 1))) else (if z_12 = x2 then (if (x5 + 1) = 0 then (1, x6 + 1, z_9.2) else (f_X3_takePair_L0 k t_length t_bytes place z_9.2 x2 x3 x4 (x5 + 1) (x6 + 1))) else (if x5 = 0 then (1, x6 + 1, z_9.2) else (f_X3_takePair_L0 k t_length t_bytes place z_9.2 x2 x3 x4 x5 (x6 + 1)))))))))))) := rfl
def f_X3_takePair (place : Int32) (looks : Int32) (t_length : Int32) (t_bytes : Nat → Int32) (a2 : Int32) (a3 : Int32) : Int32 × Int32 × Int32 := (kb (f_X0_at t_length t_bytes place) (fun z_1 => (if z_1 = (-1) then (0, place, looks) else (kb (f_X3_mayLook looks) (fun z_3 => (if z_3.1 = 0 then ((-4), place, z_3.2) else (if z_1 = a2 then (f_X3_takePair_L0 ((t_length.toInt - (place + 1).toInt).toNat + 1) t_length t_bytes place z_3.2 a2 a3 z_1 1 (place + 1)) else (f_X3_takePair_L0 ((t_length.toInt - (place + 1).toInt).toNat + 1) t_length t_bytes place z_3.2 a2 a3 z_1 0 (place + 1)))))))))
abbrev rm_X3_takePair : Room := { frames := 1, cells := 0, slots := 0, locals := 21 }
set_option maxHeartbeats 4000000 in
set_option maxRecDepth 100000 in
theorem t_X3_takePair_L0 {l : Launch} {DD : va_G} {aC : Nat → ClassId} {tt : Nat → Nat} {p : Program} {e : Env} {s : State} {m : MethodId} {below : List Frame} {meth : Method} {c : Code} {A : Nat → Prop} {AV : Array Value} (X : kX p s m AV meth c cX3_takePair (some .int) 8 wsX3_takePair RX3 DD aC tt A) (q0 q1 q2 q3 q4 q5 q6 q7 t_n : Nat) (choices : Int32) (item : Int32) (choiceItems : Nat → Int32) (choiceLeast : Nat → Int32) (choicePlaces : Nat → Int32) (starts : Nat → Int32) (lengths : Nat → Int32) (t_length : Int32) (t_bytes : Nat → Int32) (a2 : Int32) (a3 : Int32) (hp_0 : t_length.toInt ≤ t_n) :
    ∀ (k : Nat) (place : Int32) (looks : Int32) (x2 : Int32) (x3 : Int32) (x4 : Int32) (x5 : Int32) (x6 : Int32), (t_length.toInt - x6.toInt).toNat < k → ∀ (u : Int32 × Int32 × Int32), u = f_X3_takePair_L0 k t_length t_bytes place looks x2 x3 x4 x5 x6 → ∀ (H : Heap) (locs : List Loc) (ls : Array Slot), va_P DD vwCl [(q0, .inr (3, [.ref q1, .ref q2, .ref q3, .ref q4, .ref q5, .int choices, .int item, .int place, .int looks])), (q1, .inl (aC 0, 513, .inl choiceItems)), (q2, .inl (aC 0, 513, .inl choiceLeast)), (q3, .inl (aC 0, 513, .inl choicePlaces)), (q4, .inl (aC 0, 32, .inl starts)), (q5, .inl (aC 0, 32, .inl lengths)), (q6, .inr (0, [.ref q7, .int t_length])), (q7, .inl (aC 1, t_n, .inl t_bytes))] H → va_D A [(q0, .inr (3, [.ref q1, .ref q2, .ref q3, .ref q4, .ref q5, .int choices, .int item, .int place, .int looks])), (q1, .inl (aC 0, 513, .inl choiceItems)), (q2, .inl (aC 0, 513, .inl choiceLeast)), (q3, .inl (aC 0, 513, .inl choicePlaces)), (q4, .inl (aC 0, 32, .inl starts)), (q5, .inl (aC 0, 32, .inl lengths)), (q6, .inr (0, [.ref q7, .int t_length])), (q7, .inl (aC 1, t_n, .inl t_bytes))] → va_S A s.heap H locs → lv_has ls 8 [(0, .ref q0), (1, .ref q6), (2, .int x2), (3, .int x3), (4, .int x4), (5, .int x5), (6, .int x6)] → W p l e rm_X3_takePair s m AV below meth c H locs 0 0 (MQ below (kQ DD vwCl (some (.int u.1)) [(q0, .inr (3, [.ref q1, .ref q2, .ref q3, .ref q4, .ref q5, .int choices, .int item, .int u.2.1, .int u.2.2])), (q1, .inl (aC 0, 513, .inl choiceItems)), (q2, .inl (aC 0, 513, .inl choiceLeast)), (q3, .inl (aC 0, 513, .inl choicePlaces)), (q4, .inl (aC 0, 32, .inl starts)), (q5, .inl (aC 0, 32, .inl lengths)), (q6, .inr (0, [.ref q7, .int t_length])), (q7, .inl (aC 1, t_n, .inl t_bytes))] A) AV s 0 0 A) (F0 m 49 ls []) := by
  obtain ⟨hx, hb, hr, hml, hts, hown, hlocks, hA, hE⟩ := id X
  intro k
  induction k with
  | zero =>
    intro place looks x2 x3 x4 x5 x6 hk
    exact absurd hk (Nat.not_lt_zero _)
  | succ k ih =>
    intro place looks x2 x3 x4 x5 x6 hk u hu H locs ls hP hD hS hl
    replace hu := hu.trans f_X3_takePair_L0_s
    refine lv_iload hx hb dX3_takePair_49 (lv_at hl 6 rfl) ?_
    refine lv_aload_n hx hb dX3_takePair_51 rfl (lv_at hl 1 rfl) ?_
    refine k_callV (As := []) (rest := [.int x6]) (wc := [(q6, .inr (0, [.ref q7, .int t_length])), (q7, .inl (aC 1, t_n, .inl t_bytes))]) (wr := [(q0, .inr (3, [.ref q1, .ref q2, .ref q3, .ref q4, .ref q5, .int choices, .int item, .int place, .int looks])), (q1, .inl (aC 0, 513, .inl choiceItems)), (q2, .inl (aC 0, 513, .inl choiceLeast)), (q3, .inl (aC 0, 513, .inl choicePlaces)), (q4, .inl (aC 0, 32, .inl starts)), (q5, .inl (aC 0, 32, .inl lengths))]) (w1 := [(q6, .inr (0, [.ref q7, .int t_length])), (q7, .inl (aC 1, t_n, .inl t_bytes))]) (wn := [(q0, .inr (3, [.ref q1, .ref q2, .ref q3, .ref q4, .ref q5, .int choices, .int item, .int place, .int looks])), (q1, .inl (aC 0, 513, .inl choiceItems)), (q2, .inl (aC 0, 513, .inl choiceLeast)), (q3, .inl (aC 0, 513, .inl choicePlaces)), (q4, .inl (aC 0, 32, .inl starts)), (q5, .inl (aC 0, 32, .inl lengths)), (q6, .inr (0, [.ref q7, .int t_length])), (q7, .inl (aC 1, t_n, .inl t_bytes))]) ⟨hx, hb, hml, hown, hts⟩ (c_X0_length l DD aC tt q6 q7 t_n t_length t_bytes   t_length rfl) (cwV 0 hts (gdV w_423 w_235 w_236 w_69 w_237) rfl rfl rfl (by decide +kernel) ⟨Nat.le_of_ble_eq_true rfl, Nat.le_of_ble_eq_true rfl⟩) hP hD hS hA hE [6, 7] [0, 1, 2, 3, 4, 5] [0, 1, 2, 3, 4, 5, 6, 7] rfl rfl rfl (by decide) (by decide) (by decide) (by decide) (ci := 0) (q0 := 0) rfl rfl rfl hl.1 rfl (Nat.le_of_ble_eq_true rfl) dX3_takePair_52 (fun H locs hP hD hS => ?_)
    refine W.eq (g2 := F0 m 55 ls [.int t_length, .int x6]) rfl ?_
    refine lv_icmp_ge (tgt := 123) hx hb dX3_takePair_55 (by decide) (fun c_7 => ?_) (fun c_7 => ?_)
    · replace hu := hu.trans (if_pos c_7)
      refine lv_iconst (v := 0) hx hb dX3_takePair_123 (by decide) ?_
      subst hu
      exact k_iret hx hb hr hlocks hP hD hS rfl rfl dX3_takePair_124
    · replace hu := hu.trans (if_neg c_7)
      refine lv_iload hx hb dX3_takePair_58 (lv_at hl 5 rfl) ?_
      refine lv_if_le (tgt := 123) hx hb dX3_takePair_60 (by decide) (fun c_8 => ?_) (fun c_8 => ?_)
      · replace hu := hu.trans (if_pos c_8)
        refine lv_iconst (v := 0) hx hb dX3_takePair_123 (by decide) ?_
        subst hu
        exact k_iret hx hb hr hlocks hP hD hS rfl rfl dX3_takePair_124
      · replace hu := hu.trans (if_neg c_8)
        refine lv_aload_n hx hb dX3_takePair_63 rfl (lv_at hl 0 rfl) ?_
        obtain ⟨z_9, hz_9⟩ : ∃ z, z = f_X3_mayLook looks := ⟨_, rfl⟩
        replace hu := hu.trans (kb_of hz_9)
        refine k_callV (As := []) (rest := []) (wc := [(q0, .inr (3, [.ref q1, .ref q2, .ref q3, .ref q4, .ref q5, .int choices, .int item, .int place, .int looks])), (q1, .inl (aC 0, 513, .inl choiceItems)), (q2, .inl (aC 0, 513, .inl choiceLeast)), (q3, .inl (aC 0, 513, .inl choicePlaces)), (q4, .inl (aC 0, 32, .inl starts)), (q5, .inl (aC 0, 32, .inl lengths))]) (wr := [(q6, .inr (0, [.ref q7, .int t_length])), (q7, .inl (aC 1, t_n, .inl t_bytes))]) (w1 := [(q0, .inr (3, [.ref q1, .ref q2, .ref q3, .ref q4, .ref q5, .int choices, .int item, .int place, .int z_9.2])), (q1, .inl (aC 0, 513, .inl choiceItems)), (q2, .inl (aC 0, 513, .inl choiceLeast)), (q3, .inl (aC 0, 513, .inl choicePlaces)), (q4, .inl (aC 0, 32, .inl starts)), (q5, .inl (aC 0, 32, .inl lengths))]) (wn := [(q0, .inr (3, [.ref q1, .ref q2, .ref q3, .ref q4, .ref q5, .int choices, .int item, .int place, .int z_9.2])), (q1, .inl (aC 0, 513, .inl choiceItems)), (q2, .inl (aC 0, 513, .inl choiceLeast)), (q3, .inl (aC 0, 513, .inl choicePlaces)), (q4, .inl (aC 0, 32, .inl starts)), (q5, .inl (aC 0, 32, .inl lengths)), (q6, .inr (0, [.ref q7, .int t_length])), (q7, .inl (aC 1, t_n, .inl t_bytes))]) ⟨hx, hb, hml, hown, hts⟩ (c_X3_mayLook l DD aC tt q0 q1 q2 q3 q4 q5  choices item place looks choiceItems choiceLeast choicePlaces starts lengths   z_9 hz_9) (cwV 0 hts (gdV w_387 w_389 w_23 w_73 w_390) rfl rfl rfl (by decide +kernel) ⟨Nat.le_of_ble_eq_true rfl, Nat.le_of_ble_eq_true rfl⟩) hP hD hS hA hE [0, 1, 2, 3, 4, 5] [6, 7] [2, 3, 4, 5, 6, 7, 0, 1] rfl rfl rfl (by decide) (by decide) (by decide) (by decide) (ci := 3) (q0 := 0) rfl rfl rfl hl.1 rfl (Nat.le_of_ble_eq_true rfl) dX3_takePair_64 (fun H locs hP hD hS => ?_)
        have hP : va_P DD vwCl [(q0, .inr (3, [.ref q1, .ref q2, .ref q3, .ref q4, .ref q5, .int choices, .int item, .int place, .int z_9.2])), (q1, .inl (aC 0, 513, .inl choiceItems)), (q2, .inl (aC 0, 513, .inl choiceLeast)), (q3, .inl (aC 0, 513, .inl choicePlaces)), (q4, .inl (aC 0, 32, .inl starts)), (q5, .inl (aC 0, 32, .inl lengths)), (q6, .inr (0, [.ref q7, .int t_length])), (q7, .inl (aC 1, t_n, .inl t_bytes))] H := hP
        have hD : va_D A [(q0, .inr (3, [.ref q1, .ref q2, .ref q3, .ref q4, .ref q5, .int choices, .int item, .int place, .int z_9.2])), (q1, .inl (aC 0, 513, .inl choiceItems)), (q2, .inl (aC 0, 513, .inl choiceLeast)), (q3, .inl (aC 0, 513, .inl choicePlaces)), (q4, .inl (aC 0, 32, .inl starts)), (q5, .inl (aC 0, 32, .inl lengths)), (q6, .inr (0, [.ref q7, .int t_length])), (q7, .inl (aC 1, t_n, .inl t_bytes))] := hD
        refine W.eq (g2 := F0 m 67 ls [.int z_9.1]) rfl ?_
        have h_10 := pf_X3_mayLook hz_9
        refine lv_if_ne (tgt := 73) hx hb dX3_takePair_67 (by decide) (fun c_11 => ?_) (fun c_11 => ?_)
        · replace hu := hu.trans (if_neg c_11)
          refine lv_aload_n hx hb dX3_takePair_73 rfl (lv_at hl 1 rfl) ?_
          refine lv_iload hx hb dX3_takePair_74 (lv_at hl 6 rfl) ?_
          obtain ⟨z_12, hz_12⟩ : ∃ z, z = f_X0_at t_length t_bytes x6 := ⟨_, rfl⟩
          replace hu := hu.trans (kb_of hz_12)
          refine k_callV (As := [.int x6]) (rest := []) (wc := [(q6, .inr (0, [.ref q7, .int t_length])), (q7, .inl (aC 1, t_n, .inl t_bytes))]) (wr := [(q0, .inr (3, [.ref q1, .ref q2, .ref q3, .ref q4, .ref q5, .int choices, .int item, .int place, .int z_9.2])), (q1, .inl (aC 0, 513, .inl choiceItems)), (q2, .inl (aC 0, 513, .inl choiceLeast)), (q3, .inl (aC 0, 513, .inl choicePlaces)), (q4, .inl (aC 0, 32, .inl starts)), (q5, .inl (aC 0, 32, .inl lengths))]) (w1 := [(q6, .inr (0, [.ref q7, .int t_length])), (q7, .inl (aC 1, t_n, .inl t_bytes))]) (wn := [(q0, .inr (3, [.ref q1, .ref q2, .ref q3, .ref q4, .ref q5, .int choices, .int item, .int place, .int z_9.2])), (q1, .inl (aC 0, 513, .inl choiceItems)), (q2, .inl (aC 0, 513, .inl choiceLeast)), (q3, .inl (aC 0, 513, .inl choicePlaces)), (q4, .inl (aC 0, 32, .inl starts)), (q5, .inl (aC 0, 32, .inl lengths)), (q6, .inr (0, [.ref q7, .int t_length])), (q7, .inl (aC 1, t_n, .inl t_bytes))]) ⟨hx, hb, hml, hown, hts⟩ (c_X0_at l DD aC tt q6 q7 t_n t_length t_bytes x6 hp_0 z_12 hz_12) (cwV 1 hts (gdV w_386 w_259 w_260 w_69 w_261) rfl rfl rfl (by decide +kernel) ⟨Nat.le_of_ble_eq_true rfl, Nat.le_of_ble_eq_true rfl⟩) hP hD hS hA hE [6, 7] [0, 1, 2, 3, 4, 5] [0, 1, 2, 3, 4, 5, 6, 7] rfl rfl rfl (by decide) (by decide) (by decide) (by decide) (ci := 0) (q0 := 0) rfl rfl rfl hl.1 rfl (Nat.le_of_ble_eq_true rfl) dX3_takePair_76 (fun H locs hP hD hS => ?_)
          refine W.eq (g2 := F0 m 79 ls [.int z_12]) rfl ?_
          refine lv_istore (lv' := [(7, .int z_12), (0, .ref q0), (1, .ref q6), (2, .int x2), (3, .int x3), (4, .int x4), (5, .int x5), (6, .int x6)]) hx hb dX3_takePair_79 hl (by decide) rfl (fun ls hl => ?_)
          refine lv_iload hx hb dX3_takePair_81 (lv_at hl 0 rfl) ?_
          refine lv_iload_n hx hb dX3_takePair_83 rfl (lv_at hl 4 rfl) ?_
          refine lv_icmp_ne (tgt := 93) hx hb dX3_takePair_84 (by decide) (fun c_13 => ?_) (fun c_13 => ?_)
          · replace hu := hu.trans (if_neg c_13)
            refine lv_iload hx hb dX3_takePair_93 (lv_at hl 0 rfl) ?_
            refine lv_iload_n hx hb dX3_takePair_95 rfl (lv_at hl 3 rfl) ?_
            refine lv_icmp_ne (tgt := 102) hx hb dX3_takePair_96 (by decide) (fun c_14 => ?_) (fun c_14 => ?_)
            · replace hu := hu.trans (if_neg c_14)
              refine lv_iload hx hb dX3_takePair_102 (lv_at hl 6 rfl) ?_
              refine lv_if_ne (tgt := 117) hx hb dX3_takePair_104 (by decide) (fun c_15 => ?_) (fun c_15 => ?_)
              · replace hu := hu.trans (if_neg c_15)
                refine lv_iinc (v := x6 + 1) (lv' := [(6, .int (x6 + 1)), (7, .int z_12), (0, .ref q0), (1, .ref q6), (2, .int x2), (3, .int x3), (4, .int x4), (5, .int x5)]) hx hb dX3_takePair_117 hl (k := 7) rfl rfl (by decide) rfl (fun ls hl => ?_)
                refine lv_goto (tgt := 49) hx hb dX3_takePair_120 (by decide) ?_
                exact ih place z_9.2 x2 x3 x4 x5 (x6 + 1) (Nat.lt_of_lt_of_le (kmu_up c_7) (Nat.le_of_lt_succ hk)) u hu _ _ _ hP hD hS (lv_sub hl [2, 3, 4, 5, 6, 7, 0] rfl)
              · replace hu := hu.trans (if_pos c_15)
                refine lv_aload_n hx hb dX3_takePair_107 rfl (lv_at hl 1 rfl) ?_
                refine lv_iload hx hb dX3_takePair_108 (lv_at hl 7 rfl) ?_
                refine lv_iconst (v := 1) hx hb dX3_takePair_110 (by decide) ?_
                refine lv_iadd hx hb dX3_takePair_111 ?_
                refine va_put (D := DD) (ci := 3) (v := .int (x6 + 1)) (ty := .int) (C := RX3) (T := TX3) (N := 9) hx hb hts (fun w h => List.mem_cons_of_mem _ (inX3 w h)) tyX3 tyX3_ok nmX3 hown hE.1 hP hD hS 0 rfl rfl 7 (by decide) (hts (.fieldLink "TextPatterns$Matcher" 31 "TextPatterns$Matcher" "place" "I") (List.mem_cons_of_mem _ w_155)) (fun _ h9 => h9) rfl (by decide +kernel) rfl rfl (Nat.le_of_ble_eq_true rfl) dX3_takePair_112 (fun H locs hP hD hS => ?_)
                have hP : va_P DD vwCl [(q0, .inr (3, [.ref q1, .ref q2, .ref q3, .ref q4, .ref q5, .int choices, .int item, .int (x6 + 1), .int z_9.2])), (q1, .inl (aC 0, 513, .inl choiceItems)), (q2, .inl (aC 0, 513, .inl choiceLeast)), (q3, .inl (aC 0, 513, .inl choicePlaces)), (q4, .inl (aC 0, 32, .inl starts)), (q5, .inl (aC 0, 32, .inl lengths)), (q6, .inr (0, [.ref q7, .int t_length])), (q7, .inl (aC 1, t_n, .inl t_bytes))] H := hP
                have hD : va_D A [(q0, .inr (3, [.ref q1, .ref q2, .ref q3, .ref q4, .ref q5, .int choices, .int item, .int (x6 + 1), .int z_9.2])), (q1, .inl (aC 0, 513, .inl choiceItems)), (q2, .inl (aC 0, 513, .inl choiceLeast)), (q3, .inl (aC 0, 513, .inl choicePlaces)), (q4, .inl (aC 0, 32, .inl starts)), (q5, .inl (aC 0, 32, .inl lengths)), (q6, .inr (0, [.ref q7, .int t_length])), (q7, .inl (aC 1, t_n, .inl t_bytes))] := hD
                refine lv_iconst (v := 1) hx hb dX3_takePair_115 (by decide) ?_
                subst hu
                exact k_iret hx hb hr hlocks hP hD hS rfl rfl dX3_takePair_116
            · replace hu := hu.trans (if_pos c_14)
              refine lv_iinc (v := x5 + 1) (lv' := [(5, .int (x5 + 1)), (7, .int z_12), (0, .ref q0), (1, .ref q6), (2, .int x2), (3, .int x3), (4, .int x4), (6, .int x6)]) hx hb dX3_takePair_99 hl (k := 6) rfl rfl (by decide) rfl (fun ls hl => ?_)
              refine lv_iload hx hb dX3_takePair_102 (lv_at hl 0 rfl) ?_
              refine lv_if_ne (tgt := 117) hx hb dX3_takePair_104 (by decide) (fun c_16 => ?_) (fun c_16 => ?_)
              · replace hu := hu.trans (if_neg c_16)
                refine lv_iinc (v := x6 + 1) (lv' := [(6, .int (x6 + 1)), (5, .int (x5 + 1)), (7, .int z_12), (0, .ref q0), (1, .ref q6), (2, .int x2), (3, .int x3), (4, .int x4)]) hx hb dX3_takePair_117 hl (k := 7) rfl rfl (by decide) rfl (fun ls hl => ?_)
                refine lv_goto (tgt := 49) hx hb dX3_takePair_120 (by decide) ?_
                exact ih place z_9.2 x2 x3 x4 (x5 + 1) (x6 + 1) (Nat.lt_of_lt_of_le (kmu_up c_7) (Nat.le_of_lt_succ hk)) u hu _ _ _ hP hD hS (lv_sub hl [3, 4, 5, 6, 7, 1, 0] rfl)
              · replace hu := hu.trans (if_pos c_16)
                refine lv_aload_n hx hb dX3_takePair_107 rfl (lv_at hl 2 rfl) ?_
                refine lv_iload hx hb dX3_takePair_108 (lv_at hl 7 rfl) ?_
                refine lv_iconst (v := 1) hx hb dX3_takePair_110 (by decide) ?_
                refine lv_iadd hx hb dX3_takePair_111 ?_
                refine va_put (D := DD) (ci := 3) (v := .int (x6 + 1)) (ty := .int) (C := RX3) (T := TX3) (N := 9) hx hb hts (fun w h => List.mem_cons_of_mem _ (inX3 w h)) tyX3 tyX3_ok nmX3 hown hE.1 hP hD hS 0 rfl rfl 7 (by decide) (hts (.fieldLink "TextPatterns$Matcher" 31 "TextPatterns$Matcher" "place" "I") (List.mem_cons_of_mem _ w_155)) (fun _ h9 => h9) rfl (by decide +kernel) rfl rfl (Nat.le_of_ble_eq_true rfl) dX3_takePair_112 (fun H locs hP hD hS => ?_)
                have hP : va_P DD vwCl [(q0, .inr (3, [.ref q1, .ref q2, .ref q3, .ref q4, .ref q5, .int choices, .int item, .int (x6 + 1), .int z_9.2])), (q1, .inl (aC 0, 513, .inl choiceItems)), (q2, .inl (aC 0, 513, .inl choiceLeast)), (q3, .inl (aC 0, 513, .inl choicePlaces)), (q4, .inl (aC 0, 32, .inl starts)), (q5, .inl (aC 0, 32, .inl lengths)), (q6, .inr (0, [.ref q7, .int t_length])), (q7, .inl (aC 1, t_n, .inl t_bytes))] H := hP
                have hD : va_D A [(q0, .inr (3, [.ref q1, .ref q2, .ref q3, .ref q4, .ref q5, .int choices, .int item, .int (x6 + 1), .int z_9.2])), (q1, .inl (aC 0, 513, .inl choiceItems)), (q2, .inl (aC 0, 513, .inl choiceLeast)), (q3, .inl (aC 0, 513, .inl choicePlaces)), (q4, .inl (aC 0, 32, .inl starts)), (q5, .inl (aC 0, 32, .inl lengths)), (q6, .inr (0, [.ref q7, .int t_length])), (q7, .inl (aC 1, t_n, .inl t_bytes))] := hD
                refine lv_iconst (v := 1) hx hb dX3_takePair_115 (by decide) ?_
                subst hu
                exact k_iret hx hb hr hlocks hP hD hS rfl rfl dX3_takePair_116
          · replace hu := hu.trans (if_pos c_13)
            refine lv_iinc (v := x5 + (-1)) (lv' := [(5, .int (x5 + (-1))), (7, .int z_12), (0, .ref q0), (1, .ref q6), (2, .int x2), (3, .int x3), (4, .int x4), (6, .int x6)]) hx hb dX3_takePair_87 hl (k := 6) rfl rfl (by decide) rfl (fun ls hl => ?_)
            refine lv_goto (tgt := 102) hx hb dX3_takePair_90 (by decide) ?_
            refine lv_iload hx hb dX3_takePair_102 (lv_at hl 0 rfl) ?_
            refine lv_if_ne (tgt := 117) hx hb dX3_takePair_104 (by decide) (fun c_17 => ?_) (fun c_17 => ?_)
            · replace hu := hu.trans (if_neg c_17)
              refine lv_iinc (v := x6 + 1) (lv' := [(6, .int (x6 + 1)), (5, .int (x5 + (-1))), (7, .int z_12), (0, .ref q0), (1, .ref q6), (2, .int x2), (3, .int x3), (4, .int x4)]) hx hb dX3_takePair_117 hl (k := 7) rfl rfl (by decide) rfl (fun ls hl => ?_)
              refine lv_goto (tgt := 49) hx hb dX3_takePair_120 (by decide) ?_
              exact ih place z_9.2 x2 x3 x4 (x5 + (-1)) (x6 + 1) (Nat.lt_of_lt_of_le (kmu_up c_7) (Nat.le_of_lt_succ hk)) u hu _ _ _ hP hD hS (lv_sub hl [3, 4, 5, 6, 7, 1, 0] rfl)
            · replace hu := hu.trans (if_pos c_17)
              refine lv_aload_n hx hb dX3_takePair_107 rfl (lv_at hl 2 rfl) ?_
              refine lv_iload hx hb dX3_takePair_108 (lv_at hl 7 rfl) ?_
              refine lv_iconst (v := 1) hx hb dX3_takePair_110 (by decide) ?_
              refine lv_iadd hx hb dX3_takePair_111 ?_
              refine va_put (D := DD) (ci := 3) (v := .int (x6 + 1)) (ty := .int) (C := RX3) (T := TX3) (N := 9) hx hb hts (fun w h => List.mem_cons_of_mem _ (inX3 w h)) tyX3 tyX3_ok nmX3 hown hE.1 hP hD hS 0 rfl rfl 7 (by decide) (hts (.fieldLink "TextPatterns$Matcher" 31 "TextPatterns$Matcher" "place" "I") (List.mem_cons_of_mem _ w_155)) (fun _ h9 => h9) rfl (by decide +kernel) rfl rfl (Nat.le_of_ble_eq_true rfl) dX3_takePair_112 (fun H locs hP hD hS => ?_)
              have hP : va_P DD vwCl [(q0, .inr (3, [.ref q1, .ref q2, .ref q3, .ref q4, .ref q5, .int choices, .int item, .int (x6 + 1), .int z_9.2])), (q1, .inl (aC 0, 513, .inl choiceItems)), (q2, .inl (aC 0, 513, .inl choiceLeast)), (q3, .inl (aC 0, 513, .inl choicePlaces)), (q4, .inl (aC 0, 32, .inl starts)), (q5, .inl (aC 0, 32, .inl lengths)), (q6, .inr (0, [.ref q7, .int t_length])), (q7, .inl (aC 1, t_n, .inl t_bytes))] H := hP
              have hD : va_D A [(q0, .inr (3, [.ref q1, .ref q2, .ref q3, .ref q4, .ref q5, .int choices, .int item, .int (x6 + 1), .int z_9.2])), (q1, .inl (aC 0, 513, .inl choiceItems)), (q2, .inl (aC 0, 513, .inl choiceLeast)), (q3, .inl (aC 0, 513, .inl choicePlaces)), (q4, .inl (aC 0, 32, .inl starts)), (q5, .inl (aC 0, 32, .inl lengths)), (q6, .inr (0, [.ref q7, .int t_length])), (q7, .inl (aC 1, t_n, .inl t_bytes))] := hD
              refine lv_iconst (v := 1) hx hb dX3_takePair_115 (by decide) ?_
              subst hu
              exact k_iret hx hb hr hlocks hP hD hS rfl rfl dX3_takePair_116
        · replace hu := hu.trans (if_pos c_11)
          refine lv_bipush (v := (-4)) hx hb dX3_takePair_70 (by decide) ?_
          subst hu
          exact k_iret hx hb hr hlocks hP hD hS rfl rfl dX3_takePair_72
set_option maxHeartbeats 4000000 in
set_option maxRecDepth 100000 in
theorem c_X3_takePair (l : Launch) (DD : va_G) (aC : Nat → ClassId) (tt : Nat → Nat) (q0 q1 q2 q3 q4 q5 q6 q7 t_n : Nat) (choices : Int32) (item : Int32) (place : Int32) (looks : Int32) (choiceItems : Nat → Int32) (choiceLeast : Nat → Int32) (choicePlaces : Nat → Int32) (starts : Nat → Int32) (lengths : Nat → Int32) (t_length : Int32) (t_bytes : Nat → Int32) (a2 : Int32) (a3 : Int32) (hp_0 : t_length.toInt ≤ t_n) (u : Int32 × Int32 × Int32) (hu : u = f_X3_takePair place looks t_length t_bytes a2 a3) : kM l yX3_takePair wsX3_takePair rm_X3_takePair DD aC tt [.ref q0, .ref q6, .int a2, .int a3] [(q0, .inr (3, [.ref q1, .ref q2, .ref q3, .ref q4, .ref q5, .int choices, .int item, .int place, .int looks])), (q1, .inl (aC 0, 513, .inl choiceItems)), (q2, .inl (aC 0, 513, .inl choiceLeast)), (q3, .inl (aC 0, 513, .inl choicePlaces)), (q4, .inl (aC 0, 32, .inl starts)), (q5, .inl (aC 0, 32, .inl lengths)), (q6, .inr (0, [.ref q7, .int t_length])), (q7, .inl (aC 1, t_n, .inl t_bytes))] (some (.int u.1)) [(q0, .inr (3, [.ref q1, .ref q2, .ref q3, .ref q4, .ref q5, .int choices, .int item, .int u.2.1, .int u.2.2])), (q1, .inl (aC 0, 513, .inl choiceItems)), (q2, .inl (aC 0, 513, .inl choiceLeast)), (q3, .inl (aC 0, 513, .inl choicePlaces)), (q4, .inl (aC 0, 32, .inl starts)), (q5, .inl (aC 0, 32, .inl lengths)), (q6, .inr (0, [.ref q7, .int t_length])), (q7, .inl (aC 1, t_n, .inl t_bytes))] := by
  refine k_start (cc := cX3_takePair) (maxL := 8) (ret := (some .int)) (own := RX3) (lv0 := [(0, .ref q0), (1, .ref q6), (2, .int a2), (3, .int a3)]) (by decide) rfl rfl (Nat.le_of_ble_eq_true rfl) rfl (fun p e s m below meth c A ls X hP hD hS hl => ?_)
  obtain ⟨hx, hb, hr, hml, hts, hown, hlocks, hA, hE⟩ := id X
  unfold f_X3_takePair at hu
  refine lv_aload_n hx hb dX3_takePair_0 rfl (lv_at hl 1 rfl) ?_
  refine lv_aload_n hx hb dX3_takePair_1 rfl (lv_at hl 0 rfl) ?_
  refine va_get (D := DD) (ci := 3) (v := .int place) (C := RX3) (T := TX3) (N := 9) hx hb hts (fun w h => List.mem_cons_of_mem _ (inX3 w h)) hown hE.1 hP 0 rfl rfl 7 (by decide) (hts (.fieldLink "TextPatterns$Matcher" 31 "TextPatterns$Matcher" "place" "I") (List.mem_cons_of_mem _ w_155)) (fun _ h9 => h9) rfl dX3_takePair_2 ?_
  obtain ⟨z_1, hz_1⟩ : ∃ z, z = f_X0_at t_length t_bytes place := ⟨_, rfl⟩
  replace hu := hu.trans (kb_of hz_1)
  refine k_callV (As := [.int place]) (rest := []) (wc := [(q6, .inr (0, [.ref q7, .int t_length])), (q7, .inl (aC 1, t_n, .inl t_bytes))]) (wr := [(q0, .inr (3, [.ref q1, .ref q2, .ref q3, .ref q4, .ref q5, .int choices, .int item, .int place, .int looks])), (q1, .inl (aC 0, 513, .inl choiceItems)), (q2, .inl (aC 0, 513, .inl choiceLeast)), (q3, .inl (aC 0, 513, .inl choicePlaces)), (q4, .inl (aC 0, 32, .inl starts)), (q5, .inl (aC 0, 32, .inl lengths))]) (w1 := [(q6, .inr (0, [.ref q7, .int t_length])), (q7, .inl (aC 1, t_n, .inl t_bytes))]) (wn := [(q0, .inr (3, [.ref q1, .ref q2, .ref q3, .ref q4, .ref q5, .int choices, .int item, .int place, .int looks])), (q1, .inl (aC 0, 513, .inl choiceItems)), (q2, .inl (aC 0, 513, .inl choiceLeast)), (q3, .inl (aC 0, 513, .inl choicePlaces)), (q4, .inl (aC 0, 32, .inl starts)), (q5, .inl (aC 0, 32, .inl lengths)), (q6, .inr (0, [.ref q7, .int t_length])), (q7, .inl (aC 1, t_n, .inl t_bytes))]) ⟨hx, hb, hml, hown, hts⟩ (c_X0_at l DD aC tt q6 q7 t_n t_length t_bytes place hp_0 z_1 hz_1) (cwV 1 hts (gdV w_386 w_259 w_260 w_69 w_261) rfl rfl rfl (by decide +kernel) ⟨Nat.le_of_ble_eq_true rfl, Nat.le_of_ble_eq_true rfl⟩) hP hD hS hA hE [6, 7] [0, 1, 2, 3, 4, 5] [0, 1, 2, 3, 4, 5, 6, 7] rfl rfl rfl (by decide) (by decide) (by decide) (by decide) (ci := 0) (q0 := 0) rfl rfl rfl hl.1 rfl (Nat.le_of_ble_eq_true rfl) dX3_takePair_5 (fun H locs hP hD hS => ?_)
  refine W.eq (g2 := F0 m 8 ls [.int z_1]) rfl ?_
  refine lv_istore (lv' := [(4, .int z_1), (0, .ref q0), (1, .ref q6), (2, .int a2), (3, .int a3)]) hx hb dX3_takePair_8 hl (by decide) rfl (fun ls hl => ?_)
  refine lv_iload hx hb dX3_takePair_10 (lv_at hl 0 rfl) ?_
  refine lv_iconst (v := (-1)) hx hb dX3_takePair_12 (by decide) ?_
  refine lv_icmp_ne (tgt := 18) hx hb dX3_takePair_13 (by decide) (fun c_2 => ?_) (fun c_2 => ?_)
  · replace hu := hu.trans (if_neg c_2)
    refine lv_aload_n hx hb dX3_takePair_18 rfl (lv_at hl 1 rfl) ?_
    obtain ⟨z_3, hz_3⟩ : ∃ z, z = f_X3_mayLook looks := ⟨_, rfl⟩
    replace hu := hu.trans (kb_of hz_3)
    refine k_callV (As := []) (rest := []) (wc := [(q0, .inr (3, [.ref q1, .ref q2, .ref q3, .ref q4, .ref q5, .int choices, .int item, .int place, .int looks])), (q1, .inl (aC 0, 513, .inl choiceItems)), (q2, .inl (aC 0, 513, .inl choiceLeast)), (q3, .inl (aC 0, 513, .inl choicePlaces)), (q4, .inl (aC 0, 32, .inl starts)), (q5, .inl (aC 0, 32, .inl lengths))]) (wr := [(q6, .inr (0, [.ref q7, .int t_length])), (q7, .inl (aC 1, t_n, .inl t_bytes))]) (w1 := [(q0, .inr (3, [.ref q1, .ref q2, .ref q3, .ref q4, .ref q5, .int choices, .int item, .int place, .int z_3.2])), (q1, .inl (aC 0, 513, .inl choiceItems)), (q2, .inl (aC 0, 513, .inl choiceLeast)), (q3, .inl (aC 0, 513, .inl choicePlaces)), (q4, .inl (aC 0, 32, .inl starts)), (q5, .inl (aC 0, 32, .inl lengths))]) (wn := [(q0, .inr (3, [.ref q1, .ref q2, .ref q3, .ref q4, .ref q5, .int choices, .int item, .int place, .int z_3.2])), (q1, .inl (aC 0, 513, .inl choiceItems)), (q2, .inl (aC 0, 513, .inl choiceLeast)), (q3, .inl (aC 0, 513, .inl choicePlaces)), (q4, .inl (aC 0, 32, .inl starts)), (q5, .inl (aC 0, 32, .inl lengths)), (q6, .inr (0, [.ref q7, .int t_length])), (q7, .inl (aC 1, t_n, .inl t_bytes))]) ⟨hx, hb, hml, hown, hts⟩ (c_X3_mayLook l DD aC tt q0 q1 q2 q3 q4 q5  choices item place looks choiceItems choiceLeast choicePlaces starts lengths   z_3 hz_3) (cwV 0 hts (gdV w_387 w_389 w_23 w_73 w_390) rfl rfl rfl (by decide +kernel) ⟨Nat.le_of_ble_eq_true rfl, Nat.le_of_ble_eq_true rfl⟩) hP hD hS hA hE [0, 1, 2, 3, 4, 5] [6, 7] [2, 3, 4, 5, 6, 7, 0, 1] rfl rfl rfl (by decide) (by decide) (by decide) (by decide) (ci := 3) (q0 := 0) rfl rfl rfl hl.1 rfl (Nat.le_of_ble_eq_true rfl) dX3_takePair_19 (fun H locs hP hD hS => ?_)
    have hP : va_P DD vwCl [(q0, .inr (3, [.ref q1, .ref q2, .ref q3, .ref q4, .ref q5, .int choices, .int item, .int place, .int z_3.2])), (q1, .inl (aC 0, 513, .inl choiceItems)), (q2, .inl (aC 0, 513, .inl choiceLeast)), (q3, .inl (aC 0, 513, .inl choicePlaces)), (q4, .inl (aC 0, 32, .inl starts)), (q5, .inl (aC 0, 32, .inl lengths)), (q6, .inr (0, [.ref q7, .int t_length])), (q7, .inl (aC 1, t_n, .inl t_bytes))] H := hP
    have hD : va_D A [(q0, .inr (3, [.ref q1, .ref q2, .ref q3, .ref q4, .ref q5, .int choices, .int item, .int place, .int z_3.2])), (q1, .inl (aC 0, 513, .inl choiceItems)), (q2, .inl (aC 0, 513, .inl choiceLeast)), (q3, .inl (aC 0, 513, .inl choicePlaces)), (q4, .inl (aC 0, 32, .inl starts)), (q5, .inl (aC 0, 32, .inl lengths)), (q6, .inr (0, [.ref q7, .int t_length])), (q7, .inl (aC 1, t_n, .inl t_bytes))] := hD
    refine W.eq (g2 := F0 m 22 ls [.int z_3.1]) rfl ?_
    have h_4 := pf_X3_mayLook hz_3
    refine lv_if_ne (tgt := 28) hx hb dX3_takePair_22 (by decide) (fun c_5 => ?_) (fun c_5 => ?_)
    · replace hu := hu.trans (if_neg c_5)
      refine lv_iload hx hb dX3_takePair_28 (lv_at hl 0 rfl) ?_
      refine lv_iload_n hx hb dX3_takePair_30 rfl (lv_at hl 3 rfl) ?_
      refine lv_icmp_ne (tgt := 38) hx hb dX3_takePair_31 (by decide) (fun c_6 => ?_) (fun c_6 => ?_)
      · replace hu := hu.trans (if_neg c_6)
        refine lv_iconst (v := 0) hx hb dX3_takePair_38 (by decide) ?_
        refine lv_istore (lv' := [(5, .int 0), (4, .int z_1), (0, .ref q0), (1, .ref q6), (2, .int a2), (3, .int a3)]) hx hb dX3_takePair_39 hl (by decide) rfl (fun ls hl => ?_)
        refine lv_aload_n hx hb dX3_takePair_41 rfl (lv_at hl 2 rfl) ?_
        refine va_get (D := DD) (ci := 3) (v := .int place) (C := RX3) (T := TX3) (N := 9) hx hb hts (fun w h => List.mem_cons_of_mem _ (inX3 w h)) hown hE.1 hP 0 rfl rfl 7 (by decide) (hts (.fieldLink "TextPatterns$Matcher" 31 "TextPatterns$Matcher" "place" "I") (List.mem_cons_of_mem _ w_155)) (fun _ h9 => h9) rfl dX3_takePair_42 ?_
        refine lv_iconst (v := 1) hx hb dX3_takePair_45 (by decide) ?_
        refine lv_iadd hx hb dX3_takePair_46 ?_
        refine lv_istore (lv' := [(6, .int (place + 1)), (5, .int 0), (4, .int z_1), (0, .ref q0), (1, .ref q6), (2, .int a2), (3, .int a3)]) hx hb dX3_takePair_47 hl (by decide) rfl (fun ls hl => ?_)
        exact t_X3_takePair_L0 X q0 q1 q2 q3 q4 q5 q6 q7 t_n choices item choiceItems choiceLeast choicePlaces starts lengths t_length t_bytes a2 a3 hp_0 ((t_length.toInt - (place + 1).toInt).toNat + 1) place z_3.2 a2 a3 z_1 0 (place + 1) (Nat.lt_succ_self _) u hu _ _ _ hP hD hS (lv_sub hl [3, 4, 5, 6, 2, 1, 0] rfl)
      · replace hu := hu.trans (if_pos c_6)
        refine lv_iconst (v := 1) hx hb dX3_takePair_34 (by decide) ?_
        refine lv_goto (tgt := 39) hx hb dX3_takePair_35 (by decide) ?_
        refine lv_istore (lv' := [(5, .int 1), (4, .int z_1), (0, .ref q0), (1, .ref q6), (2, .int a2), (3, .int a3)]) hx hb dX3_takePair_39 hl (by decide) rfl (fun ls hl => ?_)
        refine lv_aload_n hx hb dX3_takePair_41 rfl (lv_at hl 2 rfl) ?_
        refine va_get (D := DD) (ci := 3) (v := .int place) (C := RX3) (T := TX3) (N := 9) hx hb hts (fun w h => List.mem_cons_of_mem _ (inX3 w h)) hown hE.1 hP 0 rfl rfl 7 (by decide) (hts (.fieldLink "TextPatterns$Matcher" 31 "TextPatterns$Matcher" "place" "I") (List.mem_cons_of_mem _ w_155)) (fun _ h9 => h9) rfl dX3_takePair_42 ?_
        refine lv_iconst (v := 1) hx hb dX3_takePair_45 (by decide) ?_
        refine lv_iadd hx hb dX3_takePair_46 ?_
        refine lv_istore (lv' := [(6, .int (place + 1)), (5, .int 1), (4, .int z_1), (0, .ref q0), (1, .ref q6), (2, .int a2), (3, .int a3)]) hx hb dX3_takePair_47 hl (by decide) rfl (fun ls hl => ?_)
        exact t_X3_takePair_L0 X q0 q1 q2 q3 q4 q5 q6 q7 t_n choices item choiceItems choiceLeast choicePlaces starts lengths t_length t_bytes a2 a3 hp_0 ((t_length.toInt - (place + 1).toInt).toNat + 1) place z_3.2 a2 a3 z_1 1 (place + 1) (Nat.lt_succ_self _) u hu _ _ _ hP hD hS (lv_sub hl [3, 4, 5, 6, 2, 1, 0] rfl)
    · replace hu := hu.trans (if_pos c_5)
      refine lv_bipush (v := (-4)) hx hb dX3_takePair_25 (by decide) ?_
      subst hu
      exact k_iret hx hb hr hlocks hP hD hS rfl rfl dX3_takePair_27
  · replace hu := hu.trans (if_pos c_2)
    refine lv_iconst (v := 0) hx hb dX3_takePair_16 (by decide) ?_
    subst hu
    exact k_iret hx hb hr hlocks hP hD hS rfl rfl dX3_takePair_17

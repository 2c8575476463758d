def f_X2_captureCount (captureCount : Int32) : Int32 := captureCount
abbrev rm_X2_captureCount : Room := { frames := 0, cells := 0, slots := 0, locals := 0 }
set_option maxHeartbeats 4000000 in
set_option maxRecDepth 100000 in
theorem c_X2_captureCount (l : Launch) (DD : va_G) (aC : Nat → ClassId) (tt : Nat → Nat) (q0 q1 q2 q3 q4 q5 q6 : Nat) (count : Int32) (captureCount : Int32) (kinds : Nat → Int32) (ones : Nat → Int32) (twos : Nat → Int32) (sets_words : Nat → Int64) (states : Nat → Int32) (u : Int32) (hu : u = f_X2_captureCount captureCount) : kM l yX2_captureCount wsX2_captureCount rm_X2_captureCount DD aC tt [.ref q0] [(q0, .inr (2, [.ref q1, .ref q2, .ref q3, .ref q4, .ref q6, .int count, .int captureCount])), (q1, .inl (aC 0, 513, .inl kinds)), (q2, .inl (aC 0, 513, .inl ones)), (q3, .inl (aC 0, 513, .inl twos)), (q4, .inr (1, [.ref q5])), (q5, .inl (aC 2, 2052, .inr (.inl sets_words))), (q6, .inl (aC 0, 32, .inl states))] (some (.int u)) [(q0, .inr (2, [.ref q1, .ref q2, .ref q3, .ref q4, .ref q6, .int count, .int captureCount])), (q1, .inl (aC 0, 513, .inl kinds)), (q2, .inl (aC 0, 513, .inl ones)), (q3, .inl (aC 0, 513, .inl twos)), (q4, .inr (1, [.ref q5])), (q5, .inl (aC 2, 2052, .inr (.inl sets_words))), (q6, .inl (aC 0, 32, .inl states))] := by
  refine k_start (cc := cX2_captureCount) (maxL := 1) (ret := (some .int)) (own := RX2) (lv0 := [(0, .ref q0)]) (by decide) rfl rfl (Nat.le_of_ble_eq_true rfl) rfl (fun p e s m below meth c A ls X hP hD hS hl => ?_)
  obtain ⟨hx, hb, hr, hml, hts, hown, hlocks, hA, hE⟩ := id X
  unfold f_X2_captureCount at hu
  refine lv_aload_n hx hb dX2_captureCount_0 rfl (lv_at hl 0 rfl) ?_
  refine va_get (D := DD) (ci := 2) (v := .int captureCount) (C := RX2) (T := TX2) (N := 7) hx hb hts (fun w h => List.mem_cons_of_mem _ (inX2 w h)) hown hE.1 hP 0 rfl rfl 6 (by decide) (hts (.fieldLink "TextPatterns$Items" 33 "TextPatterns$Items" "captureCount" "I") (List.mem_cons_of_mem _ w_126)) (fun _ h9 => h9) rfl dX2_captureCount_1 ?_
  subst hu
  exact k_iret hx hb hr hlocks hP hD hS rfl rfl dX2_captureCount_4
def f_X2_kind (count : Int32) (kinds : Nat → Int32) (a1 : Int32) : Int32 := (if a1 < 0 then 0 else (if count ≤ a1 then 0 else (if (513 : Int32) ≤ a1 then 0 else (kinds a1.toNatClampNeg))))
abbrev rm_X2_kind : Room := { frames := 0, cells := 0, slots := 0, locals := 0 }
set_option maxHeartbeats 4000000 in
set_option maxRecDepth 100000 in
theorem c_X2_kind (l : Launch) (DD : va_G) (aC : Nat → ClassId) (tt : Nat → Nat) (q0 q1 q2 q3 q4 q5 q6 : Nat) (count : Int32) (captureCount : Int32) (kinds : Nat → Int32) (ones : Nat → Int32) (twos : Nat → Int32) (sets_words : Nat → Int64) (states : Nat → Int32) (a1 : Int32) (u : Int32) (hu : u = f_X2_kind count kinds a1) : kM l yX2_kind wsX2_kind rm_X2_kind DD aC tt [.ref q0, .int a1] [(q0, .inr (2, [.ref q1, .ref q2, .ref q3, .ref q4, .ref q6, .int count, .int captureCount])), (q1, .inl (aC 0, 513, .inl kinds)), (q2, .inl (aC 0, 513, .inl ones)), (q3, .inl (aC 0, 513, .inl twos)), (q4, .inr (1, [.ref q5])), (q5, .inl (aC 2, 2052, .inr (.inl sets_words))), (q6, .inl (aC 0, 32, .inl states))] (some (.int u)) [(q0, .inr (2, [.ref q1, .ref q2, .ref q3, .ref q4, .ref q6, .int count, .int captureCount])), (q1, .inl (aC 0, 513, .inl kinds)), (q2, .inl (aC 0, 513, .inl ones)), (q3, .inl (aC 0, 513, .inl twos)), (q4, .inr (1, [.ref q5])), (q5, .inl (aC 2, 2052, .inr (.inl sets_words))), (q6, .inl (aC 0, 32, .inl states))] := by
  refine k_start (cc := cX2_kind) (maxL := 2) (ret := (some .int)) (own := RX2) (lv0 := [(0, .ref q0), (1, .int a1)]) (by decide) rfl rfl (Nat.le_of_ble_eq_true rfl) rfl (fun p e s m below meth c A ls X hP hD hS hl => ?_)
  obtain ⟨hx, hb, hr, hml, hts, hown, hlocks, hA, hE⟩ := id X
  unfold f_X2_kind at hu
  refine lv_iload_n hx hb dX2_kind_0 rfl (lv_at hl 1 rfl) ?_
  refine lv_if_lt (tgt := 30) hx hb dX2_kind_1 (by decide) (fun c_1 => ?_) (fun c_1 => ?_)
  · replace hu := hu.trans (if_pos c_1)
    refine lv_iconst (v := 0) hx hb dX2_kind_30 (by decide) ?_
    subst hu
    exact k_iret hx hb hr hlocks hP hD hS rfl rfl dX2_kind_31
  · replace hu := hu.trans (if_neg c_1)
    refine lv_iload_n hx hb dX2_kind_4 rfl (lv_at hl 1 rfl) ?_
    refine lv_aload_n hx hb dX2_kind_5 rfl (lv_at hl 0 rfl) ?_
    refine va_get (D := DD) (ci := 2) (v := .int count) (C := RX2) (T := TX2) (N := 7) hx hb hts (fun w h => List.mem_cons_of_mem _ (inX2 w h)) hown hE.1 hP 0 rfl rfl 5 (by decide) (hts (.fieldLink "TextPatterns$Items" 37 "TextPatterns$Items" "count" "I") (List.mem_cons_of_mem _ w_125)) (fun _ h9 => h9) rfl dX2_kind_6 ?_
    refine lv_icmp_ge (tgt := 30) hx hb dX2_kind_9 (by decide) (fun c_2 => ?_) (fun c_2 => ?_)
    · replace hu := hu.trans (if_pos c_2)
      refine lv_iconst (v := 0) hx hb dX2_kind_30 (by decide) ?_
      subst hu
      exact k_iret hx hb hr hlocks hP hD hS rfl rfl dX2_kind_31
    · replace hu := hu.trans (if_neg c_2)
      refine lv_iload_n hx hb dX2_kind_12 rfl (lv_at hl 1 rfl) ?_
      refine lv_aload_n hx hb dX2_kind_13 rfl (lv_at hl 0 rfl) ?_
      refine va_get (D := DD) (ci := 2) (v := .ref q1) (C := RX2) (T := TX2) (N := 7) hx hb hts (fun w h => List.mem_cons_of_mem _ (inX2 w h)) hown hE.1 hP 0 rfl rfl 0 (by decide) (hts (.fieldLink "TextPatterns$Items" 9 "TextPatterns$Items" "kinds" "[I") (List.mem_cons_of_mem _ w_119)) (fun _ h9 => h9) rfl dX2_kind_14 ?_
      refine va_alen (v := 513) hx hb hE.1 hP 1 0 rfl rfl rfl dX2_kind_17 ?_
      refine lv_icmp_ge (tgt := 30) hx hb dX2_kind_18 (by decide) (fun c_3 => ?_) (fun c_3 => ?_)
      · replace hu := hu.trans (if_pos c_3)
        refine lv_iconst (v := 0) hx hb dX2_kind_30 (by decide) ?_
        subst hu
        exact k_iret hx hb hr hlocks hP hD hS rfl rfl dX2_kind_31
      · replace hu := hu.trans (if_neg c_3)
        refine lv_aload_n hx hb dX2_kind_21 rfl (lv_at hl 0 rfl) ?_
        refine va_get (D := DD) (ci := 2) (v := .ref q1) (C := RX2) (T := TX2) (N := 7) hx hb hts (fun w h => List.mem_cons_of_mem _ (inX2 w h)) hown hE.1 hP 0 rfl rfl 0 (by decide) (hts (.fieldLink "TextPatterns$Items" 9 "TextPatterns$Items" "kinds" "[I") (List.mem_cons_of_mem _ w_119)) (fun _ h9 => h9) rfl dX2_kind_22 ?_
        refine lv_iload_n hx hb dX2_kind_25 rfl (lv_at hl 1 rfl) ?_
        refine va_iald hx hb hE.1 hP 1 0 rfl rfl (kb_in (kb_nlt0 c_1) (kb_nle c_3 (by decide))) dX2_kind_26 ?_
        refine lv_goto (tgt := 31) hx hb dX2_kind_27 (by decide) ?_
        subst hu
        exact k_iret hx hb hr hlocks hP hD hS rfl rfl dX2_kind_31
def f_X2_one (count : Int32) (ones : Nat → Int32) (a1 : Int32) : Int32 := (if a1 < 0 then 0 else (if count ≤ a1 then 0 else (if (513 : Int32) ≤ a1 then 0 else (ones a1.toNatClampNeg))))
abbrev rm_X2_one : Room := { frames := 0, cells := 0, slots := 0, locals := 0 }
set_option maxHeartbeats 4000000 in
set_option maxRecDepth 100000 in
theorem c_X2_one (l : Launch) (DD : va_G) (aC : Nat → ClassId) (tt : Nat → Nat) (q0 q1 q2 q3 q4 q5 q6 : Nat) (count : Int32) (captureCount : Int32) (kinds : Nat → Int32) (ones : Nat → Int32) (twos : Nat → Int32) (sets_words : Nat → Int64) (states : Nat → Int32) (a1 : Int32) (u : Int32) (hu : u = f_X2_one count ones a1) : kM l yX2_one wsX2_one rm_X2_one DD aC tt [.ref q0, .int a1] [(q0, .inr (2, [.ref q1, .ref q2, .ref q3, .ref q4, .ref q6, .int count, .int captureCount])), (q1, .inl (aC 0, 513, .inl kinds)), (q2, .inl (aC 0, 513, .inl ones)), (q3, .inl (aC 0, 513, .inl twos)), (q4, .inr (1, [.ref q5])), (q5, .inl (aC 2, 2052, .inr (.inl sets_words))), (q6, .inl (aC 0, 32, .inl states))] (some (.int u)) [(q0, .inr (2, [.ref q1, .ref q2, .ref q3, .ref q4, .ref q6, .int count, .int captureCount])), (q1, .inl (aC 0, 513, .inl kinds)), (q2, .inl (aC 0, 513, .inl ones)), (q3, .inl (aC 0, 513, .inl twos)), (q4, .inr (1, [.ref q5])), (q5, .inl (aC 2, 2052, .inr (.inl sets_words))), (q6, .inl (aC 0, 32, .inl states))] := by
  refine k_start (cc := cX2_one) (maxL := 2) (ret := (some .int)) (own := RX2) (lv0 := [(0, .ref q0), (1, .int a1)]) (by decide) rfl rfl (Nat.le_of_ble_eq_true rfl) rfl (fun p e s m below meth c A ls X hP hD hS hl => ?_)
  obtain ⟨hx, hb, hr, hml, hts, hown, hlocks, hA, hE⟩ := id X
  unfold f_X2_one at hu
  refine lv_iload_n hx hb dX2_one_0 rfl (lv_at hl 1 rfl) ?_
  refine lv_if_lt (tgt := 30) hx hb dX2_one_1 (by decide) (fun c_1 => ?_) (fun c_1 => ?_)
  · replace hu := hu.trans (if_pos c_1)
    refine lv_iconst (v := 0) hx hb dX2_one_30 (by decide) ?_
    subst hu
    exact k_iret hx hb hr hlocks hP hD hS rfl rfl dX2_one_31
  · replace hu := hu.trans (if_neg c_1)
    refine lv_iload_n hx hb dX2_one_4 rfl (lv_at hl 1 rfl) ?_
    refine lv_aload_n hx hb dX2_one_5 rfl (lv_at hl 0 rfl) ?_
    refine va_get (D := DD) (ci := 2) (v := .int count) (C := RX2) (T := TX2) (N := 7) hx hb hts (fun w h => List.mem_cons_of_mem _ (inX2 w h)) hown hE.1 hP 0 rfl rfl 5 (by decide) (hts (.fieldLink "TextPatterns$Items" 37 "TextPatterns$Items" "count" "I") (List.mem_cons_of_mem _ w_125)) (fun _ h9 => h9) rfl dX2_one_6 ?_
    refine lv_icmp_ge (tgt := 30) hx hb dX2_one_9 (by decide) (fun c_2 => ?_) (fun c_2 => ?_)
    · replace hu := hu.trans (if_pos c_2)
      refine lv_iconst (v := 0) hx hb dX2_one_30 (by decide) ?_
      subst hu
      exact k_iret hx hb hr hlocks hP hD hS rfl rfl dX2_one_31
    · replace hu := hu.trans (if_neg c_2)
      refine lv_iload_n hx hb dX2_one_12 rfl (lv_at hl 1 rfl) ?_
      refine lv_aload_n hx hb dX2_one_13 rfl (lv_at hl 0 rfl) ?_
      refine va_get (D := DD) (ci := 2) (v := .ref q2) (C := RX2) (T := TX2) (N := 7) hx hb hts (fun w h => List.mem_cons_of_mem _ (inX2 w h)) hown hE.1 hP 0 rfl rfl 1 (by decide) (hts (.fieldLink "TextPatterns$Items" 15 "TextPatterns$Items" "ones" "[I") (List.mem_cons_of_mem _ w_120)) (fun _ h9 => h9) rfl dX2_one_14 ?_
      refine va_alen (v := 513) hx hb hE.1 hP 2 0 rfl rfl rfl dX2_one_17 ?_
      refine lv_icmp_ge (tgt := 30) hx hb dX2_one_18 (by decide) (fun c_3 => ?_) (fun c_3 => ?_)
      · replace hu := hu.trans (if_pos c_3)
        refine lv_iconst (v := 0) hx hb dX2_one_30 (by decide) ?_
        subst hu
        exact k_iret hx hb hr hlocks hP hD hS rfl rfl dX2_one_31
      · replace hu := hu.trans (if_neg c_3)
        refine lv_aload_n hx hb dX2_one_21 rfl (lv_at hl 0 rfl) ?_
        refine va_get (D := DD) (ci := 2) (v := .ref q2) (C := RX2) (T := TX2) (N := 7) hx hb hts (fun w h => List.mem_cons_of_mem _ (inX2 w h)) hown hE.1 hP 0 rfl rfl 1 (by decide) (hts (.fieldLink "TextPatterns$Items" 15 "TextPatterns$Items" "ones" "[I") (List.mem_cons_of_mem _ w_120)) (fun _ h9 => h9) rfl dX2_one_22 ?_
        refine lv_iload_n hx hb dX2_one_25 rfl (lv_at hl 1 rfl) ?_
        refine va_iald hx hb hE.1 hP 2 0 rfl rfl (kb_in (kb_nlt0 c_1) (kb_nle c_3 (by decide))) dX2_one_26 ?_
        refine lv_goto (tgt := 31) hx hb dX2_one_27 (by decide) ?_
        subst hu
        exact k_iret hx hb hr hlocks hP hD hS rfl rfl dX2_one_31
def f_X2_two (count : Int32) (twos : Nat → Int32) (a1 : Int32) : Int32 := (if a1 < 0 then 0 else (if count ≤ a1 then 0 else (if (513 : Int32) ≤ a1 then 0 else (twos a1.toNatClampNeg))))
abbrev rm_X2_two : Room := { frames := 0, cells := 0, slots := 0, locals := 0 }
set_option maxHeartbeats 4000000 in
set_option maxRecDepth 100000 in
theorem c_X2_two (l : Launch) (DD : va_G) (aC : Nat → ClassId) (tt : Nat → Nat) (q0 q1 q2 q3 q4 q5 q6 : Nat) (count : Int32) (captureCount : Int32) (kinds : Nat → Int32) (ones : Nat → Int32) (twos : Nat → Int32) (sets_words : Nat → Int64) (states : Nat → Int32) (a1 : Int32) (u : Int32) (hu : u = f_X2_two count twos a1) : kM l yX2_two wsX2_two rm_X2_two DD aC tt [.ref q0, .int a1] [(q0, .inr (2, [.ref q1, .ref q2, .ref q3, .ref q4, .ref q6, .int count, .int captureCount])), (q1, .inl (aC 0, 513, .inl kinds)), (q2, .inl (aC 0, 513, .inl ones)), (q3, .inl (aC 0, 513, .inl twos)), (q4, .inr (1, [.ref q5])), (q5, .inl (aC 2, 2052, .inr (.inl sets_words))), (q6, .inl (aC 0, 32, .inl states))] (some (.int u)) [(q0, .inr (2, [.ref q1, .ref q2, .ref q3, .ref q4, .ref q6, .int count, .int captureCount])), (q1, .inl (aC 0, 513, .inl kinds)), (q2, .inl (aC 0, 513, .inl ones)), (q3, .inl (aC 0, 513, .inl twos)), (q4, .inr (1, [.ref q5])), (q5, .inl (aC 2, 2052, .inr (.inl sets_words))), (q6, .inl (aC 0, 32, .inl states))] := by
  refine k_start (cc := cX2_two) (maxL := 2) (ret := (some .int)) (own := RX2) (lv0 := [(0, .ref q0), (1, .int a1)]) (by decide) rfl rfl (Nat.le_of_ble_eq_true rfl) rfl (fun p e s m below meth c A ls X hP hD hS hl => ?_)
  obtain ⟨hx, hb, hr, hml, hts, hown, hlocks, hA, hE⟩ := id X
  unfold f_X2_two at hu
  refine lv_iload_n hx hb dX2_two_0 rfl (lv_at hl 1 rfl) ?_
  refine lv_if_lt (tgt := 30) hx hb dX2_two_1 (by decide) (fun c_1 => ?_) (fun c_1 => ?_)
  · replace hu := hu.trans (if_pos c_1)
    refine lv_iconst (v := 0) hx hb dX2_two_30 (by decide) ?_
    subst hu
    exact k_iret hx hb hr hlocks hP hD hS rfl rfl dX2_two_31
  · replace hu := hu.trans (if_neg c_1)
    refine lv_iload_n hx hb dX2_two_4 rfl (lv_at hl 1 rfl) ?_
    refine lv_aload_n hx hb dX2_two_5 rfl (lv_at hl 0 rfl) ?_
    refine va_get (D := DD) (ci := 2) (v := .int count) (C := RX2) (T := TX2) (N := 7) hx hb hts (fun w h => List.mem_cons_of_mem _ (inX2 w h)) hown hE.1 hP 0 rfl rfl 5 (by decide) (hts (.fieldLink "TextPatterns$Items" 37 "TextPatterns$Items" "count" "I") (List.mem_cons_of_mem _ w_125)) (fun _ h9 => h9) rfl dX2_two_6 ?_
    refine lv_icmp_ge (tgt := 30) hx hb dX2_two_9 (by decide) (fun c_2 => ?_) (fun c_2 => ?_)
    · replace hu := hu.trans (if_pos c_2)
      refine lv_iconst (v := 0) hx hb dX2_two_30 (by decide) ?_
      subst hu
      exact k_iret hx hb hr hlocks hP hD hS rfl rfl dX2_two_31
    · replace hu := hu.trans (if_neg c_2)
      refine lv_iload_n hx hb dX2_two_12 rfl (lv_at hl 1 rfl) ?_
      refine lv_aload_n hx hb dX2_two_13 rfl (lv_at hl 0 rfl) ?_
      refine va_get (D := DD) (ci := 2) (v := .ref q3) (C := RX2) (T := TX2) (N := 7) hx hb hts (fun w h => List.mem_cons_of_mem _ (inX2 w h)) hown hE.1 hP 0 rfl rfl 2 (by decide) (hts (.fieldLink "TextPatterns$Items" 18 "TextPatterns$Items" "twos" "[I") (List.mem_cons_of_mem _ w_121)) (fun _ h9 => h9) rfl dX2_two_14 ?_
      refine va_alen (v := 513) hx hb hE.1 hP 3 0 rfl rfl rfl dX2_two_17 ?_
      refine lv_icmp_ge (tgt := 30) hx hb dX2_two_18 (by decide) (fun c_3 => ?_) (fun c_3 => ?_)
      · replace hu := hu.trans (if_pos c_3)
        refine lv_iconst (v := 0) hx hb dX2_two_30 (by decide) ?_
        subst hu
        exact k_iret hx hb hr hlocks hP hD hS rfl rfl dX2_two_31
      · replace hu := hu.trans (if_neg c_3)
        refine lv_aload_n hx hb dX2_two_21 rfl (lv_at hl 0 rfl) ?_
        refine va_get (D := DD) (ci := 2) (v := .ref q3) (C := RX2) (T := TX2) (N := 7) hx hb hts (fun w h => List.mem_cons_of_mem _ (inX2 w h)) hown hE.1 hP 0 rfl rfl 2 (by decide) (hts (.fieldLink "TextPatterns$Items" 18 "TextPatterns$Items" "twos" "[I") (List.mem_cons_of_mem _ w_121)) (fun _ h9 => h9) rfl dX2_two_22 ?_
        refine lv_iload_n hx hb dX2_two_25 rfl (lv_at hl 1 rfl) ?_
        refine va_iald hx hb hE.1 hP 3 0 rfl rfl (kb_in (kb_nlt0 c_1) (kb_nle c_3 (by decide))) dX2_two_26 ?_
        refine lv_goto (tgt := 31) hx hb dX2_two_27 (by decide) ?_
        subst hu
        exact k_iret hx hb hr hlocks hP hD hS rfl rfl dX2_two_31
def f_X2_latestOpen_L0 (k : Nat) (captureCount : Int32) (states : Nat → Int32) (x1 : Int32) : Int32 := match k with
  | 0 => 0
  | k + 1 => (if x1 < 0 then (-1) else (if (states x1.toNatClampNeg) = 4 then x1 else (f_X2_latestOpen_L0 k captureCount states (x1 + (-1)))))
theorem f_X2_latestOpen_L0_s {k : Nat} {captureCount : Int32} {states : Nat → Int32} {x1 : Int32} : f_X2_latestOpen_L0 (k + 1) captureCount states x1 = (if x1 < 0 then (-1) else (if (states x1.toNatClampNeg) = 4 then x1 else (f_X2_latestOpen_L0 k captureCount states (x1 + (-1))))) := rfl
def f_X2_latestOpen (captureCount : Int32) (states : Nat → Int32) : Int32 := (f_X2_latestOpen_L0 ((((kmin captureCount 32) - 1).toInt + 1).toNat + 1) captureCount states ((kmin captureCount 32) - 1))
abbrev rm_X2_latestOpen : Room := { frames := 1, cells := 0, slots := 0, locals := 21 }
set_option maxHeartbeats 4000000 in
set_option maxRecDepth 100000 in
theorem t_X2_latestOpen_L0 {l : Launch} {DD : va_G} {aC : Nat → ClassId} {tt : Nat → Nat} {p : Program} {e : Env} {s : State} {m : MethodId} {below : List Frame} {meth : Method} {c : Code} {A : Nat → Prop} {AV : Array Value} (X : kX p s m AV meth c cX2_latestOpen (some .int) 2 wsX2_latestOpen RX2 DD aC tt A) (q0 q1 q2 q3 q4 q5 q6 : Nat) (count : Int32) (captureCount : Int32) (kinds : Nat → Int32) (ones : Nat → Int32) (twos : Nat → Int32) (sets_words : Nat → Int64) (states : Nat → Int32) (hcc : 0 ≤ captureCount.toInt) :
    ∀ (k : Nat) (x1 : Int32), (x1.toInt < 32) → (x1.toInt + 1).toNat < k → ∀ (u : Int32), u = f_X2_latestOpen_L0 k captureCount states x1 → ∀ (H : Heap) (locs : List Loc) (ls : Array Slot), va_P DD vwCl [(q0, .inr (2, [.ref q1, .ref q2, .ref q3, .ref q4, .ref q6, .int count, .int captureCount])), (q1, .inl (aC 0, 513, .inl kinds)), (q2, .inl (aC 0, 513, .inl ones)), (q3, .inl (aC 0, 513, .inl twos)), (q4, .inr (1, [.ref q5])), (q5, .inl (aC 2, 2052, .inr (.inl sets_words))), (q6, .inl (aC 0, 32, .inl states))] H → va_D A [(q0, .inr (2, [.ref q1, .ref q2, .ref q3, .ref q4, .ref q6, .int count, .int captureCount])), (q1, .inl (aC 0, 513, .inl kinds)), (q2, .inl (aC 0, 513, .inl ones)), (q3, .inl (aC 0, 513, .inl twos)), (q4, .inr (1, [.ref q5])), (q5, .inl (aC 2, 2052, .inr (.inl sets_words))), (q6, .inl (aC 0, 32, .inl states))] → va_S A s.heap H locs → lv_has ls 2 [(0, .ref q0), (1, .int x1)] → W p l e rm_X2_latestOpen s m AV below meth c H locs 0 0 (MQ below (kQ DD vwCl (some (.int u)) [(q0, .inr (2, [.ref q1, .ref q2, .ref q3, .ref q4, .ref q6, .int count, .int captureCount])), (q1, .inl (aC 0, 513, .inl kinds)), (q2, .inl (aC 0, 513, .inl ones)), (q3, .inl (aC 0, 513, .inl twos)), (q4, .inr (1, [.ref q5])), (q5, .inl (aC 2, 2052, .inr (.inl sets_words))), (q6, .inl (aC 0, 32, .inl states))] A) AV s 0 0 A) (F0 m 15 ls []) := by
  obtain ⟨hx, hb, hr, hml, hts, hown, hlocks, hA, hE⟩ := id X
  intro k
  induction k with
  | zero =>
    intro x1 hk1 hk
    exact absurd hk (Nat.not_lt_zero _)
  | succ k ih =>
    intro x1 hk1 hk u hu H locs ls hP hD hS hl
    replace hu := hu.trans f_X2_latestOpen_L0_s
    refine lv_iload_n hx hb dX2_latestOpen_15 rfl (lv_at hl 1 rfl) ?_
    refine lv_if_lt (tgt := 37) hx hb dX2_latestOpen_16 (by decide) (fun c_1 => ?_) (fun c_1 => ?_)
    · replace hu := hu.trans (if_pos c_1)
      refine lv_iconst (v := (-1)) hx hb dX2_latestOpen_37 (by decide) ?_
      subst hu
      exact k_iret hx hb hr hlocks hP hD hS rfl rfl dX2_latestOpen_38
    · replace hu := hu.trans (if_neg c_1)
      refine lv_aload_n hx hb dX2_latestOpen_19 rfl (lv_at hl 0 rfl) ?_
      refine va_get (D := DD) (ci := 2) (v := .ref q6) (C := RX2) (T := TX2) (N := 7) hx hb hts (fun w h => List.mem_cons_of_mem _ (inX2 w h)) hown hE.1 hP 0 rfl rfl 4 (by decide) (hts (.fieldLink "TextPatterns$Items" 30 "TextPatterns$Items" "states" "[I") (List.mem_cons_of_mem _ w_124)) (fun _ h9 => h9) rfl dX2_latestOpen_20 ?_
      refine lv_iload_n hx hb dX2_latestOpen_23 rfl (lv_at hl 1 rfl) ?_
      refine va_iald hx hb hE.1 hP 6 0 rfl rfl (kb_in (kb_nlt0 c_1) (by have i1 := kx_nlt c_1; have i2 := kx_rng (x1); have i3 : (0 : Int32).toInt = 0 := (by decide); omega)) dX2_latestOpen_24 ?_
      refine lv_iconst (v := 4) hx hb dX2_latestOpen_25 (by decide) ?_
      refine lv_icmp_ne (tgt := 31) hx hb dX2_latestOpen_26 (by decide) (fun c_2 => ?_) (fun c_2 => ?_)
      · replace hu := hu.trans (if_neg c_2)
        refine lv_iinc (v := x1 + (-1)) (lv' := [(1, .int (x1 + (-1))), (0, .ref q0)]) hx hb dX2_latestOpen_31 hl (k := 1) rfl rfl (by decide) rfl (fun ls hl => ?_)
        refine lv_goto (tgt := 15) hx hb dX2_latestOpen_34 (by decide) ?_
        exact ih (x1 + (-1)) (show (x1 + (-1)).toInt < 32 from (by have i1 := kx_nlt c_1; have i2 := kx_ne c_2; have i3 := kx_rng (x1 + (-1)); have i4 := kx_rng (x1); have i6 : (0 : Int32).toInt = 0 := (by decide); have i7 := kx_rng (states x1.toNatClampNeg); have i8 : (4 : Int32).toInt = 4 := (by decide); first | omega | (have i5 := kx_addK x1 (y := (-1)) (k := -1) (by decide); omega))) (Nat.lt_of_lt_of_le (kmu_dn c_1) (Nat.le_of_lt_succ hk)) u hu _ _ _ hP hD hS (lv_sub hl [1, 0] rfl)
      · replace hu := hu.trans (if_pos c_2)
        refine lv_iload_n hx hb dX2_latestOpen_29 rfl (lv_at hl 1 rfl) ?_
        subst hu
        exact k_iret hx hb hr hlocks hP hD hS rfl rfl dX2_latestOpen_30
set_option maxHeartbeats 4000000 in
set_option maxRecDepth 100000 in
theorem c_X2_latestOpen (l : Launch) (DD : va_G) (aC : Nat → ClassId) (tt : Nat → Nat) (q0 q1 q2 q3 q4 q5 q6 : Nat) (count : Int32) (captureCount : Int32) (kinds : Nat → Int32) (ones : Nat → Int32) (twos : Nat → Int32) (sets_words : Nat → Int64) (states : Nat → Int32) (hcc : 0 ≤ captureCount.toInt) (u : Int32) (hu : u = f_X2_latestOpen captureCount states) : kM l yX2_latestOpen wsX2_latestOpen rm_X2_latestOpen DD aC tt [.ref q0] [(q0, .inr (2, [.ref q1, .ref q2, .ref q3, .ref q4, .ref q6, .int count, .int captureCount])), (q1, .inl (aC 0, 513, .inl kinds)), (q2, .inl (aC 0, 513, .inl ones)), (q3, .inl (aC 0, 513, .inl twos)), (q4, .inr (1, [.ref q5])), (q5, .inl (aC 2, 2052, .inr (.inl sets_words))), (q6, .inl (aC 0, 32, .inl states))] (some (.int u)) [(q0, .inr (2, [.ref q1, .ref q2, .ref q3, .ref q4, .ref q6, .int count, .int captureCount])), (q1, .inl (aC 0, 513, .inl kinds)), (q2, .inl (aC 0, 513, .inl ones)), (q3, .inl (aC 0, 513, .inl twos)), (q4, .inr (1, [.ref q5])), (q5, .inl (aC 2, 2052, .inr (.inl sets_words))), (q6, .inl (aC 0, 32, .inl states))] := by
  refine k_start (cc := cX2_latestOpen) (maxL := 2) (ret := (some .int)) (own := RX2) (lv0 := [(0, .ref q0)]) (by decide) rfl rfl (Nat.le_of_ble_eq_true rfl) rfl (fun p e s m below meth c A ls X hP hD hS hl => ?_)
  obtain ⟨hx, hb, hr, hml, hts, hown, hlocks, hA, hE⟩ := id X
  unfold f_X2_latestOpen at hu
  refine lv_aload_n hx hb dX2_latestOpen_0 rfl (lv_at hl 0 rfl) ?_
  refine va_get (D := DD) (ci := 2) (v := .int captureCount) (C := RX2) (T := TX2) (N := 7) hx hb hts (fun w h => List.mem_cons_of_mem _ (inX2 w h)) hown hE.1 hP 0 rfl rfl 6 (by decide) (hts (.fieldLink "TextPatterns$Items" 33 "TextPatterns$Items" "captureCount" "I") (List.mem_cons_of_mem _ w_126)) (fun _ h9 => h9) rfl dX2_latestOpen_1 ?_
  refine lv_aload_n hx hb dX2_latestOpen_4 rfl (lv_at hl 0 rfl) ?_
  refine va_get (D := DD) (ci := 2) (v := .ref q6) (C := RX2) (T := TX2) (N := 7) hx hb hts (fun w h => List.mem_cons_of_mem _ (inX2 w h)) hown hE.1 hP 0 rfl rfl 4 (by decide) (hts (.fieldLink "TextPatterns$Items" 30 "TextPatterns$Items" "states" "[I") (List.mem_cons_of_mem _ w_124)) (fun _ h9 => h9) rfl dX2_latestOpen_5 ?_
  refine va_alen (v := 32) hx hb hE.1 hP 6 0 rfl rfl rfl dX2_latestOpen_8 ?_
  refine va_mmin hx hb (hml.trans hl.1.symm) hown (hts (.methodLink "TextPatterns$Items" 87 ⟨"java/lang/Math", "min", "(II)I"⟩) (List.mem_cons_of_mem _ w_338)) (hts (.static ⟨"java/lang/Math", "min", "(II)I"⟩) (List.mem_cons_of_mem _ w_339)) (hts (.initialized "java/lang/Math") (List.mem_cons_of_mem _ w_70)) (hts _ (List.mem_cons_of_mem _ w_340)) (Nat.le_of_ble_eq_true rfl) (Nat.le_of_ble_eq_true rfl) (Nat.zero_le _) (Nat.zero_le _) dX2_latestOpen_9 ?_
  refine W.eq (g2 := F0 m 12 ls [.int (kmin captureCount 32)]) rfl ?_
  refine lv_iconst (v := 1) hx hb dX2_latestOpen_12 (by decide) ?_
  refine lv_isub hx hb dX2_latestOpen_13 ?_
  refine lv_istore_n (lv' := [(1, .int ((kmin captureCount 32) - 1)), (0, .ref q0)]) hx hb dX2_latestOpen_14 rfl hl (by decide) rfl (fun ls hl => ?_)
  exact t_X2_latestOpen_L0 X q0 q1 q2 q3 q4 q5 q6 count captureCount kinds ones twos sets_words states hcc ((((kmin captureCount 32) - 1).toInt + 1).toNat + 1) ((kmin captureCount 32) - 1) (show ((kmin captureCount 32) - 1).toInt < 32 from (by have i1 := kx_rng ((kmin captureCount 32) - 1); have i2 := kx_rng (kmin captureCount 32); have i3 := kx_rng (captureCount); have i4 : (32 : Int32).toInt = 32 := (by decide); have i5 := kmin_i captureCount 32; first | omega | (have i6 := kx_subK (kmin captureCount 32) (y := 1) (k := 1) (by decide); omega))) (Nat.lt_succ_self _) u hu _ _ _ hP hD hS (lv_sub hl [1, 0] rfl)
def f_X2_add (count : Int32) (kinds : Nat → Int32) (ones : Nat → Int32) (twos : Nat → Int32) (a1 : Int32) (a2 : Int32) (a3 : Int32) : Int32 × (Nat → Int32) × (Nat → Int32) × (Nat → Int32) := (if (513 : Int32) ≤ count then (count, kinds, ones, twos) else (count + 1, upd kinds count.toNatClampNeg a1, upd ones count.toNatClampNeg a2, upd twos count.toNatClampNeg a3))
set_option maxHeartbeats 4000000 in
theorem pf_X2_add {count : Int32} {kinds : Nat → Int32} {ones : Nat → Int32} {twos : Nat → Int32} {a1 : Int32} {a2 : Int32} {a3 : Int32} (hp_0 : 0 ≤ count.toInt) {u : Int32 × (Nat → Int32) × (Nat → Int32) × (Nat → Int32)} (hu : u = f_X2_add count kinds ones twos a1 a2 a3) : 0 ≤ u.1.toInt := by
  unfold f_X2_add at hu
  rcases Classical.em ((513 : Int32) ≤ count) with c_1 | c_1
  · replace hu := hu.trans (if_pos c_1)
    rw [hu]
    exact show 0 ≤ count.toInt from hp_0
  · replace hu := hu.trans (if_neg c_1)
    rw [hu]
    exact show 0 ≤ (count + 1).toInt from (show 0 ≤ (count + 1).toInt from (by have i1 := kx_nle c_1; have i2 := kx_rng (count + 1); have i3 := kx_rng (count); have i5 : (513 : Int32).toInt = 513 := (by decide); first | omega | (have i4 := kx_addK count (y := 1) (k := 1) (by decide); omega)))
abbrev rm_X2_add : Room := { frames := 0, cells := 0, slots := 0, locals := 0 }
set_option maxHeartbeats 4000000 in
set_option maxRecDepth 100000 in
theorem c_X2_add (l : Launch) (DD : va_G) (aC : Nat → ClassId) (tt : Nat → Nat) (q0 q1 q2 q3 q4 q5 q6 : Nat) (count : Int32) (captureCount : Int32) (kinds : Nat → Int32) (ones : Nat → Int32) (twos : Nat → Int32) (sets_words : Nat → Int64) (states : Nat → Int32) (a1 : Int32) (a2 : Int32) (a3 : Int32) (hp_0 : 0 ≤ count.toInt) (u : Int32 × (Nat → Int32) × (Nat → Int32) × (Nat → Int32)) (hu : u = f_X2_add count kinds ones twos a1 a2 a3) : kM l yX2_add wsX2_add rm_X2_add DD aC tt [.ref q0, .int a1, .int a2, .int a3] [(q0, .inr (2, [.ref q1, .ref q2, .ref q3, .ref q4, .ref q6, .int count, .int captureCount])), (q1, .inl (aC 0, 513, .inl kinds)), (q2, .inl (aC 0, 513, .inl ones)), (q3, .inl (aC 0, 513, .inl twos)), (q4, .inr (1, [.ref q5])), (q5, .inl (aC 2, 2052, .inr (.inl sets_words))), (q6, .inl (aC 0, 32, .inl states))] none [(q0, .inr (2, [.ref q1, .ref q2, .ref q3, .ref q4, .ref q6, .int u.1, .int captureCount])), (q1, .inl (aC 0, 513, .inl u.2.1)), (q2, .inl (aC 0, 513, .inl u.2.2.1)), (q3, .inl (aC 0, 513, .inl u.2.2.2)), (q4, .inr (1, [.ref q5])), (q5, .inl (aC 2, 2052, .inr (.inl sets_words))), (q6, .inl (aC 0, 32, .inl states))] := by
  refine k_start (cc := cX2_add) (maxL := 4) (ret := none) (own := RX2) (lv0 := [(0, .ref q0), (1, .int a1), (2, .int a2), (3, .int a3)]) (by decide) rfl rfl (Nat.le_of_ble_eq_true rfl) rfl (fun p e s m below meth c A ls X hP hD hS hl => ?_)
  obtain ⟨hx, hb, hr, hml, hts, hown, hlocks, hA, hE⟩ := id X
  unfold f_X2_add at hu
  refine lv_aload_n hx hb dX2_add_0 rfl (lv_at hl 0 rfl) ?_
  refine va_get (D := DD) (ci := 2) (v := .int count) (C := RX2) (T := TX2) (N := 7) hx hb hts (fun w h => List.mem_cons_of_mem _ (inX2 w h)) hown hE.1 hP 0 rfl rfl 5 (by decide) (hts (.fieldLink "TextPatterns$Items" 37 "TextPatterns$Items" "count" "I") (List.mem_cons_of_mem _ w_125)) (fun _ h9 => h9) rfl dX2_add_1 ?_
  refine lv_aload_n hx hb dX2_add_4 rfl (lv_at hl 0 rfl) ?_
  refine va_get (D := DD) (ci := 2) (v := .ref q1) (C := RX2) (T := TX2) (N := 7) hx hb hts (fun w h => List.mem_cons_of_mem _ (inX2 w h)) hown hE.1 hP 0 rfl rfl 0 (by decide) (hts (.fieldLink "TextPatterns$Items" 9 "TextPatterns$Items" "kinds" "[I") (List.mem_cons_of_mem _ w_119)) (fun _ h9 => h9) rfl dX2_add_5 ?_
  refine va_alen (v := 513) hx hb hE.1 hP 1 0 rfl rfl rfl dX2_add_8 ?_
  refine lv_icmp_ge (tgt := 76) hx hb dX2_add_9 (by decide) (fun c_1 => ?_) (fun c_1 => ?_)
  · replace hu := hu.trans (if_pos c_1)
    subst hu
    exact k_vret hx hb hr hlocks hP hD hS rfl rfl dX2_add_76
  · replace hu := hu.trans (if_neg c_1)
    refine lv_aload_n hx hb dX2_add_12 rfl (lv_at hl 0 rfl) ?_
    refine va_get (D := DD) (ci := 2) (v := .int count) (C := RX2) (T := TX2) (N := 7) hx hb hts (fun w h => List.mem_cons_of_mem _ (inX2 w h)) hown hE.1 hP 0 rfl rfl 5 (by decide) (hts (.fieldLink "TextPatterns$Items" 37 "TextPatterns$Items" "count" "I") (List.mem_cons_of_mem _ w_125)) (fun _ h9 => h9) rfl dX2_add_13 ?_
    refine lv_aload_n hx hb dX2_add_16 rfl (lv_at hl 0 rfl) ?_
    refine va_get (D := DD) (ci := 2) (v := .ref q2) (C := RX2) (T := TX2) (N := 7) hx hb hts (fun w h => List.mem_cons_of_mem _ (inX2 w h)) hown hE.1 hP 0 rfl rfl 1 (by decide) (hts (.fieldLink "TextPatterns$Items" 15 "TextPatterns$Items" "ones" "[I") (List.mem_cons_of_mem _ w_120)) (fun _ h9 => h9) rfl dX2_add_17 ?_
    refine va_alen (v := 513) hx hb hE.1 hP 2 0 rfl rfl rfl dX2_add_20 ?_
    refine lv_icmp_ge (tgt := 76) hx hb dX2_add_21 (by decide) (fun h => absurd h c_1) (fun _ => ?_)
    refine lv_aload_n hx hb dX2_add_24 rfl (lv_at hl 0 rfl) ?_
    refine va_get (D := DD) (ci := 2) (v := .int count) (C := RX2) (T := TX2) (N := 7) hx hb hts (fun w h => List.mem_cons_of_mem _ (inX2 w h)) hown hE.1 hP 0 rfl rfl 5 (by decide) (hts (.fieldLink "TextPatterns$Items" 37 "TextPatterns$Items" "count" "I") (List.mem_cons_of_mem _ w_125)) (fun _ h9 => h9) rfl dX2_add_25 ?_
    refine lv_aload_n hx hb dX2_add_28 rfl (lv_at hl 0 rfl) ?_
    refine va_get (D := DD) (ci := 2) (v := .ref q3) (C := RX2) (T := TX2) (N := 7) hx hb hts (fun w h => List.mem_cons_of_mem _ (inX2 w h)) hown hE.1 hP 0 rfl rfl 2 (by decide) (hts (.fieldLink "TextPatterns$Items" 18 "TextPatterns$Items" "twos" "[I") (List.mem_cons_of_mem _ w_121)) (fun _ h9 => h9) rfl dX2_add_29 ?_
    refine va_alen (v := 513) hx hb hE.1 hP 3 0 rfl rfl rfl dX2_add_32 ?_
    refine lv_icmp_ge (tgt := 76) hx hb dX2_add_33 (by decide) (fun h => absurd h c_1) (fun _ => ?_)
    refine lv_aload_n hx hb dX2_add_36 rfl (lv_at hl 0 rfl) ?_
    refine va_get (D := DD) (ci := 2) (v := .ref q1) (C := RX2) (T := TX2) (N := 7) hx hb hts (fun w h => List.mem_cons_of_mem _ (inX2 w h)) hown hE.1 hP 0 rfl rfl 0 (by decide) (hts (.fieldLink "TextPatterns$Items" 9 "TextPatterns$Items" "kinds" "[I") (List.mem_cons_of_mem _ w_119)) (fun _ h9 => h9) rfl dX2_add_37 ?_
    refine lv_aload_n hx hb dX2_add_40 rfl (lv_at hl 0 rfl) ?_
    refine va_get (D := DD) (ci := 2) (v := .int count) (C := RX2) (T := TX2) (N := 7) hx hb hts (fun w h => List.mem_cons_of_mem _ (inX2 w h)) hown hE.1 hP 0 rfl rfl 5 (by decide) (hts (.fieldLink "TextPatterns$Items" 37 "TextPatterns$Items" "count" "I") (List.mem_cons_of_mem _ w_125)) (fun _ h9 => h9) rfl dX2_add_41 ?_
    refine lv_iload_n hx hb dX2_add_44 rfl (lv_at hl 1 rfl) ?_
    refine va_iast hx hb hE.1 hP hD hS 1 0 rfl rfl (kb_in (by have i1 := kx_nle c_1; have i2 := kx_rng (count); have i3 : (513 : Int32).toInt = 513 := (by decide); omega) (kb_nle c_1 (by decide))) dX2_add_45 (fun H locs hP hD hS => ?_)
    have hP : va_P DD vwCl [(q0, .inr (2, [.ref q1, .ref q2, .ref q3, .ref q4, .ref q6, .int count, .int captureCount])), (q1, .inl (aC 0, 513, .inl (upd kinds count.toNatClampNeg a1))), (q2, .inl (aC 0, 513, .inl ones)), (q3, .inl (aC 0, 513, .inl twos)), (q4, .inr (1, [.ref q5])), (q5, .inl (aC 2, 2052, .inr (.inl sets_words))), (q6, .inl (aC 0, 32, .inl states))] H := hP
    have hD : va_D A [(q0, .inr (2, [.ref q1, .ref q2, .ref q3, .ref q4, .ref q6, .int count, .int captureCount])), (q1, .inl (aC 0, 513, .inl (upd kinds count.toNatClampNeg a1))), (q2, .inl (aC 0, 513, .inl ones)), (q3, .inl (aC 0, 513, .inl twos)), (q4, .inr (1, [.ref q5])), (q5, .inl (aC 2, 2052, .inr (.inl sets_words))), (q6, .inl (aC 0, 32, .inl states))] := hD
    refine lv_aload_n hx hb dX2_add_46 rfl (lv_at hl 0 rfl) ?_
    refine va_get (D := DD) (ci := 2) (v := .ref q2) (C := RX2) (T := TX2) (N := 7) hx hb hts (fun w h => List.mem_cons_of_mem _ (inX2 w h)) hown hE.1 hP 0 rfl rfl 1 (by decide) (hts (.fieldLink "TextPatterns$Items" 15 "TextPatterns$Items" "ones" "[I") (List.mem_cons_of_mem _ w_120)) (fun _ h9 => h9) rfl dX2_add_47 ?_
    refine lv_aload_n hx hb dX2_add_50 rfl (lv_at hl 0 rfl) ?_
    refine va_get (D := DD) (ci := 2) (v := .int count) (C := RX2) (T := TX2) (N := 7) hx hb hts (fun w h => List.mem_cons_of_mem _ (inX2 w h)) hown hE.1 hP 0 rfl rfl 5 (by decide) (hts (.fieldLink "TextPatterns$Items" 37 "TextPatterns$Items" "count" "I") (List.mem_cons_of_mem _ w_125)) (fun _ h9 => h9) rfl dX2_add_51 ?_
    refine lv_iload_n hx hb dX2_add_54 rfl (lv_at hl 2 rfl) ?_
    refine va_iast hx hb hE.1 hP hD hS 2 0 rfl rfl (kb_in (by have i1 := kx_nle c_1; have i2 := kx_rng (count); have i3 : (513 : Int32).toInt = 513 := (by decide); omega) (kb_nle c_1 (by decide))) dX2_add_55 (fun H locs hP hD hS => ?_)
    have hP : va_P DD vwCl [(q0, .inr (2, [.ref q1, .ref q2, .ref q3, .ref q4, .ref q6, .int count, .int captureCount])), (q1, .inl (aC 0, 513, .inl (upd kinds count.toNatClampNeg a1))), (q2, .inl (aC 0, 513, .inl (upd ones count.toNatClampNeg a2))), (q3, .inl (aC 0, 513, .inl twos)), (q4, .inr (1, [.ref q5])), (q5, .inl (aC 2, 2052, .inr (.inl sets_words))), (q6, .inl (aC 0, 32, .inl states))] H := hP
    have hD : va_D A [(q0, .inr (2, [.ref q1, .ref q2, .ref q3, .ref q4, .ref q6, .int count, .int captureCount])), (q1, .inl (aC 0, 513, .inl (upd kinds count.toNatClampNeg a1))), (q2, .inl (aC 0, 513, .inl (upd ones count.toNatClampNeg a2))), (q3, .inl (aC 0, 513, .inl twos)), (q4, .inr (1, [.ref q5])), (q5, .inl (aC 2, 2052, .inr (.inl sets_words))), (q6, .inl (aC 0, 32, .inl states))] := hD
    refine lv_aload_n hx hb dX2_add_56 rfl (lv_at hl 0 rfl) ?_
    refine va_get (D := DD) (ci := 2) (v := .ref q3) (C := RX2) (T := TX2) (N := 7) hx hb hts (fun w h => List.mem_cons_of_mem _ (inX2 w h)) hown hE.1 hP 0 rfl rfl 2 (by decide) (hts (.fieldLink "TextPatterns$Items" 18 "TextPatterns$Items" "twos" "[I") (List.mem_cons_of_mem _ w_121)) (fun _ h9 => h9) rfl dX2_add_57 ?_
    refine lv_aload_n hx hb dX2_add_60 rfl (lv_at hl 0 rfl) ?_
    refine va_get (D := DD) (ci := 2) (v := .int count) (C := RX2) (T := TX2) (N := 7) hx hb hts (fun w h => List.mem_cons_of_mem _ (inX2 w h)) hown hE.1 hP 0 rfl rfl 5 (by decide) (hts (.fieldLink "TextPatterns$Items" 37 "TextPatterns$Items" "count" "I") (List.mem_cons_of_mem _ w_125)) (fun _ h9 => h9) rfl dX2_add_61 ?_
    refine lv_iload_n hx hb dX2_add_64 rfl (lv_at hl 3 rfl) ?_
    refine va_iast hx hb hE.1 hP hD hS 3 0 rfl rfl (kb_in (by have i1 := kx_nle c_1; have i2 := kx_rng (count); have i3 : (513 : Int32).toInt = 513 := (by decide); omega) (kb_nle c_1 (by decide))) dX2_add_65 (fun H locs hP hD hS => ?_)
    have hP : va_P DD vwCl [(q0, .inr (2, [.ref q1, .ref q2, .ref q3, .ref q4, .ref q6, .int count, .int captureCount])), (q1, .inl (aC 0, 513, .inl (upd kinds count.toNatClampNeg a1))), (q2, .inl (aC 0, 513, .inl (upd ones count.toNatClampNeg a2))), (q3, .inl (aC 0, 513, .inl (upd twos count.toNatClampNeg a3))), (q4, .inr (1, [.ref q5])), (q5, .inl (aC 2, 2052, .inr (.inl sets_words))), (q6, .inl (aC 0, 32, .inl states))] H := hP
    have hD : va_D A [(q0, .inr (2, [.ref q1, .ref q2, .ref q3, .ref q4, .ref q6, .int count, .int captureCount])), (q1, .inl (aC 0, 513, .inl (upd kinds count.toNatClampNeg a1))), (q2, .inl (aC 0, 513, .inl (upd ones count.toNatClampNeg a2))), (q3, .inl (aC 0, 513, .inl (upd twos count.toNatClampNeg a3))), (q4, .inr (1, [.ref q5])), (q5, .inl (aC 2, 2052, .inr (.inl sets_words))), (q6, .inl (aC 0, 32, .inl states))] := hD
    refine lv_aload_n hx hb dX2_add_66 rfl (lv_at hl 0 rfl) ?_
    refine lv_dup hx hb dX2_add_67 rfl ?_
    refine va_get (D := DD) (ci := 2) (v := .int count) (C := RX2) (T := TX2) (N := 7) hx hb hts (fun w h => List.mem_cons_of_mem _ (inX2 w h)) hown hE.1 hP 0 rfl rfl 5 (by decide) (hts (.fieldLink "TextPatterns$Items" 37 "TextPatterns$Items" "count" "I") (List.mem_cons_of_mem _ w_125)) (fun _ h9 => h9) rfl dX2_add_68 ?_
    refine lv_iconst (v := 1) hx hb dX2_add_71 (by decide) ?_
    refine lv_iadd hx hb dX2_add_72 ?_
    refine va_put (D := DD) (ci := 2) (v := .int (count + 1)) (ty := .int) (C := RX2) (T := TX2) (N := 7) hx hb hts (fun w h => List.mem_cons_of_mem _ (inX2 w h)) tyX2 tyX2_ok nmX2 hown hE.1 hP hD hS 0 rfl rfl 5 (by decide) (hts (.fieldLink "TextPatterns$Items" 37 "TextPatterns$Items" "count" "I") (List.mem_cons_of_mem _ w_125)) (fun _ h9 => h9) rfl (by decide +kernel) rfl rfl (Nat.le_of_ble_eq_true rfl) dX2_add_73 (fun H locs hP hD hS => ?_)
    have hP : va_P DD vwCl [(q0, .inr (2, [.ref q1, .ref q2, .ref q3, .ref q4, .ref q6, .int (count + 1), .int captureCount])), (q1, .inl (aC 0, 513, .inl (upd kinds count.toNatClampNeg a1))), (q2, .inl (aC 0, 513, .inl (upd ones count.toNatClampNeg a2))), (q3, .inl (aC 0, 513, .inl (upd twos count.toNatClampNeg a3))), (q4, .inr (1, [.ref q5])), (q5, .inl (aC 2, 2052, .inr (.inl sets_words))), (q6, .inl (aC 0, 32, .inl states))] H := hP
    have hD : va_D A [(q0, .inr (2, [.ref q1, .ref q2, .ref q3, .ref q4, .ref q6, .int (count + 1), .int captureCount])), (q1, .inl (aC 0, 513, .inl (upd kinds count.toNatClampNeg a1))), (q2, .inl (aC 0, 513, .inl (upd ones count.toNatClampNeg a2))), (q3, .inl (aC 0, 513, .inl (upd twos count.toNatClampNeg a3))), (q4, .inr (1, [.ref q5])), (q5, .inl (aC 2, 2052, .inr (.inl sets_words))), (q6, .inl (aC 0, 32, .inl states))] := hD
    subst hu
    exact k_vret hx hb hr hlocks hP hD hS rfl rfl dX2_add_76
def f_X2_kindAt (p_length : Int32) (p_bytes : Nat → Int32) (a1 : Int32) : Int32 := (kb (f_X0_at p_length p_bytes a1) (fun z_1 => (kb (f_X0_at p_length p_bytes (a1 + 1)) (fun z_2 => (if z_1 = 40 then (if z_2 = 41 then 6 else 4) else (if z_1 = 41 then 5 else (if z_1 = 36 then (if z_2 = (-1) then 10 else (if z_1 = 37 then (if z_2 = 98 then 8 else (if z_2 = 102 then 9 else (if z_2 < 49 then 2 else (if (57 : Int32) < z_2 then 2 else 7)))) else 2)) else (if z_1 = 37 then (if z_2 = 98 then 8 else (if z_2 = 102 then 9 else (if z_2 < 49 then 2 else (if (57 : Int32) < z_2 then 2 else 7)))) else 2))))))))
abbrev rm_X2_kindAt : Room := { frames := 1, cells := 0, slots := 0, locals := 21 }
set_option maxHeartbeats 4000000 in
set_option maxRecDepth 100000 in
theorem c_X2_kindAt (l : Launch) (DD : va_G) (aC : Nat → ClassId) (tt : Nat → Nat) (q0 q1 p_n : Nat) (p_length : Int32) (p_bytes : Nat → Int32) (a1 : Int32) (hp_0 : p_length.toInt ≤ p_n) (u : Int32) (hu : u = f_X2_kindAt p_length p_bytes a1) : kM l yX2_kindAt wsX2_kindAt rm_X2_kindAt DD aC tt [.ref q0, .int a1] [(q0, .inr (0, [.ref q1, .int p_length])), (q1, .inl (aC 1, p_n, .inl p_bytes))] (some (.int u)) [(q0, .inr (0, [.ref q1, .int p_length])), (q1, .inl (aC 1, p_n, .inl p_bytes))] := by
  refine k_start (cc := cX2_kindAt) (maxL := 4) (ret := (some .int)) (own := RX2) (lv0 := [(0, .ref q0), (1, .int a1)]) (by decide) rfl rfl (Nat.le_of_ble_eq_true rfl) rfl (fun p e s m below meth c A ls X hP hD hS hl => ?_)
  obtain ⟨hx, hb, hr, hml, hts, hown, hlocks, hA, hE⟩ := id X
  unfold f_X2_kindAt at hu
  refine lv_aload_n hx hb dX2_kindAt_0 rfl (lv_at hl 0 rfl) ?_
  refine lv_iload_n hx hb dX2_kindAt_1 rfl (lv_at hl 1 rfl) ?_
  obtain ⟨z_1, hz_1⟩ : ∃ z, z = f_X0_at p_length p_bytes a1 := ⟨_, rfl⟩
  replace hu := hu.trans (kb_of hz_1)
  refine k_callV (As := [.int a1]) (rest := []) (wc := [(q0, .inr (0, [.ref q1, .int p_length])), (q1, .inl (aC 1, p_n, .inl p_bytes))]) (wr := []) (w1 := [(q0, .inr (0, [.ref q1, .int p_length])), (q1, .inl (aC 1, p_n, .inl p_bytes))]) (wn := [(q0, .inr (0, [.ref q1, .int p_length])), (q1, .inl (aC 1, p_n, .inl p_bytes))]) ⟨hx, hb, hml, hown, hts⟩ (c_X0_at l DD aC tt q0 q1 p_n p_length p_bytes a1 hp_0 z_1 hz_1) (cwV 1 hts (gdV w_270 w_259 w_260 w_69 w_261) rfl rfl rfl (by decide +kernel) ⟨Nat.le_of_ble_eq_true rfl, Nat.le_of_ble_eq_true rfl⟩) hP hD hS hA hE [0, 1] [] [0, 1] rfl rfl rfl (by decide) (by decide) (by decide) (by decide) (ci := 0) (q0 := 0) rfl rfl rfl hl.1 rfl (Nat.le_of_ble_eq_true rfl) dX2_kindAt_2 (fun H locs hP hD hS => ?_)
  refine W.eq (g2 := F0 m 5 ls [.int z_1]) rfl ?_
  refine lv_istore_n (lv' := [(2, .int z_1), (0, .ref q0), (1, .int a1)]) hx hb dX2_kindAt_5 rfl hl (by decide) rfl (fun ls hl => ?_)
  refine lv_aload_n hx hb dX2_kindAt_6 rfl (lv_at hl 1 rfl) ?_
  refine lv_iload_n hx hb dX2_kindAt_7 rfl (lv_at hl 2 rfl) ?_
  refine lv_iconst (v := 1) hx hb dX2_kindAt_8 (by decide) ?_
  refine lv_iadd hx hb dX2_kindAt_9 ?_
  obtain ⟨z_2, hz_2⟩ : ∃ z, z = f_X0_at p_length p_bytes (a1 + 1) := ⟨_, rfl⟩
  replace hu := hu.trans (kb_of hz_2)
  refine k_callV (As := [.int (a1 + 1)]) (rest := []) (wc := [(q0, .inr (0, [.ref q1, .int p_length])), (q1, .inl (aC 1, p_n, .inl p_bytes))]) (wr := []) (w1 := [(q0, .inr (0, [.ref q1, .int p_length])), (q1, .inl (aC 1, p_n, .inl p_bytes))]) (wn := [(q0, .inr (0, [.ref q1, .int p_length])), (q1, .inl (aC 1, p_n, .inl p_bytes))]) ⟨hx, hb, hml, hown, hts⟩ (c_X0_at l DD aC tt q0 q1 p_n p_length p_bytes (a1 + 1) hp_0 z_2 hz_2) (cwV 1 hts (gdV w_270 w_259 w_260 w_69 w_261) rfl rfl rfl (by decide +kernel) ⟨Nat.le_of_ble_eq_true rfl, Nat.le_of_ble_eq_true rfl⟩) hP hD hS hA hE [0, 1] [] [0, 1] rfl rfl rfl (by decide) (by decide) (by decide) (by decide) (ci := 0) (q0 := 0) rfl rfl rfl hl.1 rfl (Nat.le_of_ble_eq_true rfl) dX2_kindAt_10 (fun H locs hP hD hS => ?_)
  refine W.eq (g2 := F0 m 13 ls [.int z_2]) rfl ?_
  refine lv_istore_n (lv' := [(3, .int z_2), (2, .int z_1), (0, .ref q0), (1, .int a1)]) hx hb dX2_kindAt_13 rfl hl (by decide) rfl (fun ls hl => ?_)
  refine lv_iload_n hx hb dX2_kindAt_14 rfl (lv_at hl 1 rfl) ?_
  refine lv_bipush (v := 40) hx hb dX2_kindAt_15 (by decide) ?_
  refine lv_icmp_ne (tgt := 33) hx hb dX2_kindAt_17 (by decide) (fun c_3 => ?_) (fun c_3 => ?_)
  · replace hu := hu.trans (if_neg c_3)
    refine lv_iload_n hx hb dX2_kindAt_33 rfl (lv_at hl 1 rfl) ?_
    refine lv_bipush (v := 41) hx hb dX2_kindAt_34 (by decide) ?_
    refine lv_icmp_ne (tgt := 41) hx hb dX2_kindAt_36 (by decide) (fun c_4 => ?_) (fun c_4 => ?_)
    · replace hu := hu.trans (if_neg c_4)
      refine lv_iload_n hx hb dX2_kindAt_41 rfl (lv_at hl 1 rfl) ?_
      refine lv_bipush (v := 36) hx hb dX2_kindAt_42 (by decide) ?_
      refine lv_icmp_ne (tgt := 55) hx hb dX2_kindAt_44 (by decide) (fun c_5 => ?_) (fun c_5 => ?_)
      · replace hu := hu.trans (if_neg c_5)
        refine lv_iload_n hx hb dX2_kindAt_55 rfl (lv_at hl 1 rfl) ?_
        refine lv_bipush (v := 37) hx hb dX2_kindAt_56 (by decide) ?_
        refine lv_icmp_eq (tgt := 63) hx hb dX2_kindAt_58 (by decide) (fun c_6 => ?_) (fun c_6 => ?_)
        · replace hu := hu.trans (if_pos c_6)
          refine lv_iload_n hx hb dX2_kindAt_63 rfl (lv_at hl 0 rfl) ?_
          refine lv_bipush (v := 98) hx hb dX2_kindAt_64 (by decide) ?_
          refine lv_icmp_ne (tgt := 72) hx hb dX2_kindAt_66 (by decide) (fun c_7 => ?_) (fun c_7 => ?_)
          · replace hu := hu.trans (if_neg c_7)
            refine lv_iload_n hx hb dX2_kindAt_72 rfl (lv_at hl 0 rfl) ?_
            refine lv_bipush (v := 102) hx hb dX2_kindAt_73 (by decide) ?_
            refine lv_icmp_ne (tgt := 81) hx hb dX2_kindAt_75 (by decide) (fun c_8 => ?_) (fun c_8 => ?_)
            · replace hu := hu.trans (if_neg c_8)
              refine lv_iload_n hx hb dX2_kindAt_81 rfl (lv_at hl 0 rfl) ?_
              refine lv_bipush (v := 49) hx hb dX2_kindAt_82 (by decide) ?_
              refine lv_icmp_lt (tgt := 98) hx hb dX2_kindAt_84 (by decide) (fun c_9 => ?_) (fun c_9 => ?_)
              · replace hu := hu.trans (if_pos c_9)
                refine lv_iconst (v := 2) hx hb dX2_kindAt_98 (by decide) ?_
                subst hu
                exact k_iret hx hb hr hlocks hP hD hS rfl rfl dX2_kindAt_99
              · replace hu := hu.trans (if_neg c_9)
                refine lv_iload_n hx hb dX2_kindAt_87 rfl (lv_at hl 0 rfl) ?_
                refine lv_bipush (v := 57) hx hb dX2_kindAt_88 (by decide) ?_
                refine lv_icmp_gt (tgt := 98) hx hb dX2_kindAt_90 (by decide) (fun c_10 => ?_) (fun c_10 => ?_)
                · replace hu := hu.trans (if_pos c_10)
                  refine lv_iconst (v := 2) hx hb dX2_kindAt_98 (by decide) ?_
                  subst hu
                  exact k_iret hx hb hr hlocks hP hD hS rfl rfl dX2_kindAt_99
                · replace hu := hu.trans (if_neg c_10)
                  refine lv_bipush (v := 7) hx hb dX2_kindAt_93 (by decide) ?_
                  refine lv_goto (tgt := 99) hx hb dX2_kindAt_95 (by decide) ?_
                  subst hu
                  exact k_iret hx hb hr hlocks hP hD hS rfl rfl dX2_kindAt_99
            · replace hu := hu.trans (if_pos c_8)
              refine lv_bipush (v := 9) hx hb dX2_kindAt_78 (by decide) ?_
              subst hu
              exact k_iret hx hb hr hlocks hP hD hS rfl rfl dX2_kindAt_80
          · replace hu := hu.trans (if_pos c_7)
            refine lv_bipush (v := 8) hx hb dX2_kindAt_69 (by decide) ?_
            subst hu
            exact k_iret hx hb hr hlocks hP hD hS rfl rfl dX2_kindAt_71
        · replace hu := hu.trans (if_neg c_6)
          refine lv_iconst (v := 2) hx hb dX2_kindAt_61 (by decide) ?_
          subst hu
          exact k_iret hx hb hr hlocks hP hD hS rfl rfl dX2_kindAt_62
      · replace hu := hu.trans (if_pos c_5)
        refine lv_iload_n hx hb dX2_kindAt_47 rfl (lv_at hl 0 rfl) ?_
        refine lv_iconst (v := (-1)) hx hb dX2_kindAt_48 (by decide) ?_
        refine lv_icmp_ne (tgt := 55) hx hb dX2_kindAt_49 (by decide) (fun c_11 => ?_) (fun c_11 => ?_)
        · replace hu := hu.trans (if_neg c_11)
          refine lv_iload_n hx hb dX2_kindAt_55 rfl (lv_at hl 1 rfl) ?_
          refine lv_bipush (v := 37) hx hb dX2_kindAt_56 (by decide) ?_
          refine lv_icmp_eq (tgt := 63) hx hb dX2_kindAt_58 (by decide) (fun c_12 => ?_) (fun c_12 => ?_)
          · replace hu := hu.trans (if_pos c_12)
            refine lv_iload_n hx hb dX2_kindAt_63 rfl (lv_at hl 0 rfl) ?_
            refine lv_bipush (v := 98) hx hb dX2_kindAt_64 (by decide) ?_
            refine lv_icmp_ne (tgt := 72) hx hb dX2_kindAt_66 (by decide) (fun c_13 => ?_) (fun c_13 => ?_)
            · replace hu := hu.trans (if_neg c_13)
              refine lv_iload_n hx hb dX2_kindAt_72 rfl (lv_at hl 0 rfl) ?_
              refine lv_bipush (v := 102) hx hb dX2_kindAt_73 (by decide) ?_
              refine lv_icmp_ne (tgt := 81) hx hb dX2_kindAt_75 (by decide) (fun c_14 => ?_) (fun c_14 => ?_)
              · replace hu := hu.trans (if_neg c_14)
                refine lv_iload_n hx hb dX2_kindAt_81 rfl (lv_at hl 0 rfl) ?_
                refine lv_bipush (v := 49) hx hb dX2_kindAt_82 (by decide) ?_
                refine lv_icmp_lt (tgt := 98) hx hb dX2_kindAt_84 (by decide) (fun c_15 => ?_) (fun c_15 => ?_)
                · replace hu := hu.trans (if_pos c_15)
                  refine lv_iconst (v := 2) hx hb dX2_kindAt_98 (by decide) ?_
                  subst hu
                  exact k_iret hx hb hr hlocks hP hD hS rfl rfl dX2_kindAt_99
                · replace hu := hu.trans (if_neg c_15)
                  refine lv_iload_n hx hb dX2_kindAt_87 rfl (lv_at hl 0 rfl) ?_
                  refine lv_bipush (v := 57) hx hb dX2_kindAt_88 (by decide) ?_
                  refine lv_icmp_gt (tgt := 98) hx hb dX2_kindAt_90 (by decide) (fun c_16 => ?_) (fun c_16 => ?_)
                  · replace hu := hu.trans (if_pos c_16)
                    refine lv_iconst (v := 2) hx hb dX2_kindAt_98 (by decide) ?_
                    subst hu
                    exact k_iret hx hb hr hlocks hP hD hS rfl rfl dX2_kindAt_99
                  · replace hu := hu.trans (if_neg c_16)
                    refine lv_bipush (v := 7) hx hb dX2_kindAt_93 (by decide) ?_
                    refine lv_goto (tgt := 99) hx hb dX2_kindAt_95 (by decide) ?_
                    subst hu
                    exact k_iret hx hb hr hlocks hP hD hS rfl rfl dX2_kindAt_99
              · replace hu := hu.trans (if_pos c_14)
                refine lv_bipush (v := 9) hx hb dX2_kindAt_78 (by decide) ?_
                subst hu
                exact k_iret hx hb hr hlocks hP hD hS rfl rfl dX2_kindAt_80
            · replace hu := hu.trans (if_pos c_13)
              refine lv_bipush (v := 8) hx hb dX2_kindAt_69 (by decide) ?_
              subst hu
              exact k_iret hx hb hr hlocks hP hD hS rfl rfl dX2_kindAt_71
          · replace hu := hu.trans (if_neg c_12)
            refine lv_iconst (v := 2) hx hb dX2_kindAt_61 (by decide) ?_
            subst hu
            exact k_iret hx hb hr hlocks hP hD hS rfl rfl dX2_kindAt_62
        · replace hu := hu.trans (if_pos c_11)
          refine lv_bipush (v := 10) hx hb dX2_kindAt_52 (by decide) ?_
          subst hu
          exact k_iret hx hb hr hlocks hP hD hS rfl rfl dX2_kindAt_54
    · replace hu := hu.trans (if_pos c_4)
      refine lv_iconst (v := 5) hx hb dX2_kindAt_39 (by decide) ?_
      subst hu
      exact k_iret hx hb hr hlocks hP hD hS rfl rfl dX2_kindAt_40
  · replace hu := hu.trans (if_pos c_3)
    refine lv_iload_n hx hb dX2_kindAt_20 rfl (lv_at hl 0 rfl) ?_
    refine lv_bipush (v := 41) hx hb dX2_kindAt_21 (by decide) ?_
    refine lv_icmp_ne (tgt := 31) hx hb dX2_kindAt_23 (by decide) (fun c_17 => ?_) (fun c_17 => ?_)
    · replace hu := hu.trans (if_neg c_17)
      refine lv_iconst (v := 4) hx hb dX2_kindAt_31 (by decide) ?_
      subst hu
      exact k_iret hx hb hr hlocks hP hD hS rfl rfl dX2_kindAt_32
    · replace hu := hu.trans (if_pos c_17)
      refine lv_bipush (v := 6) hx hb dX2_kindAt_26 (by decide) ?_
      refine lv_goto (tgt := 32) hx hb dX2_kindAt_28 (by decide) ?_
      subst hu
      exact k_iret hx hb hr hlocks hP hD hS rfl rfl dX2_kindAt_32
def f_X2_readOpening (count : Int32) (captureCount : Int32) (kinds : Nat → Int32) (ones : Nat → Int32) (twos : Nat → Int32) (states : Nat → Int32) (a1 : Int32) (a2 : Int32) : Int32 × Int32 × Int32 × (Nat → Int32) × (Nat → Int32) × (Nat → Int32) × (Nat → Int32) := (if captureCount < 32 then (kb (f_X2_add count kinds ones twos a1 captureCount 0) (fun z_2 => (a2, z_2.1, captureCount + 1, z_2.2.1, z_2.2.2.1, z_2.2.2.2, upd states captureCount.toNatClampNeg a1))) else ((-1), count, captureCount, kinds, ones, twos, states))
set_option maxHeartbeats 4000000 in
theorem pf_X2_readOpening {count : Int32} {captureCount : Int32} {kinds : Nat → Int32} {ones : Nat → Int32} {twos : Nat → Int32} {states : Nat → Int32} {a1 : Int32} {a2 : Int32} (hp_0 : 0 ≤ count.toInt) (hp_1 : 0 ≤ captureCount.toInt) {u : Int32 × Int32 × Int32 × (Nat → Int32) × (Nat → Int32) × (Nat → Int32) × (Nat → Int32)} (hu : u = f_X2_readOpening count captureCount kinds ones twos states a1 a2) : 0 ≤ u.2.1.toInt ∧ 0 ≤ u.2.2.1.toInt := by
  unfold f_X2_readOpening at hu
  rcases Classical.em (captureCount < 32) with c_1 | c_1
  · replace hu := hu.trans (if_pos c_1)
    obtain ⟨z_2, hz_2⟩ : ∃ z, z = f_X2_add count kinds ones twos a1 captureCount 0 := ⟨_, rfl⟩
    replace hu := hu.trans (kb_of hz_2)
    have h_3 := pf_X2_add hp_0 hz_2
    rw [hu]
    exact show 0 ≤ z_2.1.toInt ∧ 0 ≤ (captureCount + 1).toInt from ⟨h_3, (show 0 ≤ (captureCount + 1).toInt from (by have i1 := Int32.lt_iff_toInt_lt.mp c_1; have i2 := kx_rng (captureCount + 1); have i3 := kx_rng (captureCount); have i5 : (32 : Int32).toInt = 32 := (by decide); first | omega | (have i4 := kx_addK captureCount (y := 1) (k := 1) (by decide); omega)))⟩
  · replace hu := hu.trans (if_neg c_1)
    rw [hu]
    exact show 0 ≤ count.toInt ∧ 0 ≤ captureCount.toInt from ⟨hp_0, hp_1⟩
abbrev rm_X2_readOpening : Room := { frames := 1, cells := 0, slots := 0, locals := 23 }
set_option maxHeartbeats 4000000 in
set_option maxRecDepth 100000 in
theorem c_X2_readOpening (l : Launch) (DD : va_G) (aC : Nat → ClassId) (tt : Nat → Nat) (q0 q1 q2 q3 q4 q5 q6 : Nat) (count : Int32) (captureCount : Int32) (kinds : Nat → Int32) (ones : Nat → Int32) (twos : Nat → Int32) (sets_words : Nat → Int64) (states : Nat → Int32) (a1 : Int32) (a2 : Int32) (hp_0 : 0 ≤ count.toInt) (hp_1 : 0 ≤ captureCount.toInt) (u : Int32 × Int32 × Int32 × (Nat → Int32) × (Nat → Int32) × (Nat → Int32) × (Nat → Int32)) (hu : u = f_X2_readOpening count captureCount kinds ones twos states a1 a2) : kM l yX2_readOpening wsX2_readOpening rm_X2_readOpening DD aC tt [.ref q0, .int a1, .int a2] [(q0, .inr (2, [.ref q1, .ref q2, .ref q3, .ref q4, .ref q6, .int count, .int captureCount])), (q1, .inl (aC 0, 513, .inl kinds)), (q2, .inl (aC 0, 513, .inl ones)), (q3, .inl (aC 0, 513, .inl twos)), (q4, .inr (1, [.ref q5])), (q5, .inl (aC 2, 2052, .inr (.inl sets_words))), (q6, .inl (aC 0, 32, .inl states))] (some (.int u.1)) [(q0, .inr (2, [.ref q1, .ref q2, .ref q3, .ref q4, .ref q6, .int u.2.1, .int u.2.2.1])), (q1, .inl (aC 0, 513, .inl u.2.2.2.1)), (q2, .inl (aC 0, 513, .inl u.2.2.2.2.1)), (q3, .inl (aC 0, 513, .inl u.2.2.2.2.2.1)), (q4, .inr (1, [.ref q5])), (q5, .inl (aC 2, 2052, .inr (.inl sets_words))), (q6, .inl (aC 0, 32, .inl u.2.2.2.2.2.2))] := by
  refine k_start (cc := cX2_readOpening) (maxL := 3) (ret := (some .int)) (own := RX2) (lv0 := [(0, .ref q0), (1, .int a1), (2, .int a2)]) (by decide) rfl rfl (Nat.le_of_ble_eq_true rfl) rfl (fun p e s m below meth c A ls X hP hD hS hl => ?_)
  obtain ⟨hx, hb, hr, hml, hts, hown, hlocks, hA, hE⟩ := id X
  unfold f_X2_readOpening at hu
  refine lv_aload_n hx hb dX2_readOpening_0 rfl (lv_at hl 0 rfl) ?_
  refine va_get (D := DD) (ci := 2) (v := .int captureCount) (C := RX2) (T := TX2) (N := 7) hx hb hts (fun w h => List.mem_cons_of_mem _ (inX2 w h)) hown hE.1 hP 0 rfl rfl 6 (by decide) (hts (.fieldLink "TextPatterns$Items" 33 "TextPatterns$Items" "captureCount" "I") (List.mem_cons_of_mem _ w_126)) (fun _ h9 => h9) rfl dX2_readOpening_1 ?_
  refine lv_aload_n hx hb dX2_readOpening_4 rfl (lv_at hl 0 rfl) ?_
  refine va_get (D := DD) (ci := 2) (v := .ref q6) (C := RX2) (T := TX2) (N := 7) hx hb hts (fun w h => List.mem_cons_of_mem _ (inX2 w h)) hown hE.1 hP 0 rfl rfl 4 (by decide) (hts (.fieldLink "TextPatterns$Items" 30 "TextPatterns$Items" "states" "[I") (List.mem_cons_of_mem _ w_124)) (fun _ h9 => h9) rfl dX2_readOpening_5 ?_
  refine va_alen (v := 32) hx hb hE.1 hP 6 0 rfl rfl rfl dX2_readOpening_8 ?_
  refine lv_icmp_lt (tgt := 14) hx hb dX2_readOpening_9 (by decide) (fun c_1 => ?_) (fun c_1 => ?_)
  · replace hu := hu.trans (if_pos c_1)
    refine lv_aload_n hx hb dX2_readOpening_14 rfl (lv_at hl 0 rfl) ?_
    refine va_get (D := DD) (ci := 2) (v := .ref q6) (C := RX2) (T := TX2) (N := 7) hx hb hts (fun w h => List.mem_cons_of_mem _ (inX2 w h)) hown hE.1 hP 0 rfl rfl 4 (by decide) (hts (.fieldLink "TextPatterns$Items" 30 "TextPatterns$Items" "states" "[I") (List.mem_cons_of_mem _ w_124)) (fun _ h9 => h9) rfl dX2_readOpening_15 ?_
    refine lv_aload_n hx hb dX2_readOpening_18 rfl (lv_at hl 0 rfl) ?_
    refine va_get (D := DD) (ci := 2) (v := .int captureCount) (C := RX2) (T := TX2) (N := 7) hx hb hts (fun w h => List.mem_cons_of_mem _ (inX2 w h)) hown hE.1 hP 0 rfl rfl 6 (by decide) (hts (.fieldLink "TextPatterns$Items" 33 "TextPatterns$Items" "captureCount" "I") (List.mem_cons_of_mem _ w_126)) (fun _ h9 => h9) rfl dX2_readOpening_19 ?_
    refine lv_iload_n hx hb dX2_readOpening_22 rfl (lv_at hl 1 rfl) ?_
    refine va_iast hx hb hE.1 hP hD hS 6 0 rfl rfl (kb_in (by have i1 := Int32.lt_iff_toInt_lt.mp c_1; have i2 := kx_rng (captureCount); have i3 : (32 : Int32).toInt = 32 := (by decide); omega) (by have i1 := Int32.lt_iff_toInt_lt.mp c_1; have i2 := kx_rng (captureCount); have i3 : (32 : Int32).toInt = 32 := (by decide); omega)) dX2_readOpening_23 (fun H locs hP hD hS => ?_)
    have hP : va_P DD vwCl [(q0, .inr (2, [.ref q1, .ref q2, .ref q3, .ref q4, .ref q6, .int count, .int captureCount])), (q1, .inl (aC 0, 513, .inl kinds)), (q2, .inl (aC 0, 513, .inl ones)), (q3, .inl (aC 0, 513, .inl twos)), (q4, .inr (1, [.ref q5])), (q5, .inl (aC 2, 2052, .inr (.inl sets_words))), (q6, .inl (aC 0, 32, .inl (upd states captureCount.toNatClampNeg a1)))] H := hP
    have hD : va_D A [(q0, .inr (2, [.ref q1, .ref q2, .ref q3, .ref q4, .ref q6, .int count, .int captureCount])), (q1, .inl (aC 0, 513, .inl kinds)), (q2, .inl (aC 0, 513, .inl ones)), (q3, .inl (aC 0, 513, .inl twos)), (q4, .inr (1, [.ref q5])), (q5, .inl (aC 2, 2052, .inr (.inl sets_words))), (q6, .inl (aC 0, 32, .inl (upd states captureCount.toNatClampNeg a1)))] := hD
    refine lv_aload_n hx hb dX2_readOpening_24 rfl (lv_at hl 0 rfl) ?_
    refine lv_iload_n hx hb dX2_readOpening_25 rfl (lv_at hl 1 rfl) ?_
    refine lv_aload_n hx hb dX2_readOpening_26 rfl (lv_at hl 0 rfl) ?_
    refine va_get (D := DD) (ci := 2) (v := .int captureCount) (C := RX2) (T := TX2) (N := 7) hx hb hts (fun w h => List.mem_cons_of_mem _ (inX2 w h)) hown hE.1 hP 0 rfl rfl 6 (by decide) (hts (.fieldLink "TextPatterns$Items" 33 "TextPatterns$Items" "captureCount" "I") (List.mem_cons_of_mem _ w_126)) (fun _ h9 => h9) rfl dX2_readOpening_27 ?_
    refine lv_iconst (v := 0) hx hb dX2_readOpening_30 (by decide) ?_
    obtain ⟨z_2, hz_2⟩ : ∃ z, z = f_X2_add count kinds ones twos a1 captureCount 0 := ⟨_, rfl⟩
    replace hu := hu.trans (kb_of hz_2)
    refine k_callV (As := [.int a1, .int captureCount, .int 0]) (rest := []) (wc := [(q0, .inr (2, [.ref q1, .ref q2, .ref q3, .ref q4, .ref q6, .int count, .int captureCount])), (q1, .inl (aC 0, 513, .inl kinds)), (q2, .inl (aC 0, 513, .inl ones)), (q3, .inl (aC 0, 513, .inl twos)), (q4, .inr (1, [.ref q5])), (q5, .inl (aC 2, 2052, .inr (.inl sets_words))), (q6, .inl (aC 0, 32, .inl (upd states captureCount.toNatClampNeg a1)))]) (wr := []) (w1 := [(q0, .inr (2, [.ref q1, .ref q2, .ref q3, .ref q4, .ref q6, .int z_2.1, .int captureCount])), (q1, .inl (aC 0, 513, .inl z_2.2.1)), (q2, .inl (aC 0, 513, .inl z_2.2.2.1)), (q3, .inl (aC 0, 513, .inl z_2.2.2.2)), (q4, .inr (1, [.ref q5])), (q5, .inl (aC 2, 2052, .inr (.inl sets_words))), (q6, .inl (aC 0, 32, .inl (upd states captureCount.toNatClampNeg a1)))]) (wn := [(q0, .inr (2, [.ref q1, .ref q2, .ref q3, .ref q4, .ref q6, .int z_2.1, .int captureCount])), (q1, .inl (aC 0, 513, .inl z_2.2.1)), (q2, .inl (aC 0, 513, .inl z_2.2.2.1)), (q3, .inl (aC 0, 513, .inl z_2.2.2.2)), (q4, .inr (1, [.ref q5])), (q5, .inl (aC 2, 2052, .inr (.inl sets_words))), (q6, .inl (aC 0, 32, .inl (upd states captureCount.toNatClampNeg a1)))]) ⟨hx, hb, hml, hown, hts⟩ (c_X2_add l DD aC tt q0 q1 q2 q3 q4 q5 q6  count captureCount kinds ones twos sets_words (upd states captureCount.toNatClampNeg a1) a1 captureCount 0 hp_0 z_2 hz_2) (cwV 3 hts (gdV w_318 w_320 w_10 w_71 w_321) rfl rfl rfl (by decide +kernel) ⟨Nat.le_of_ble_eq_true rfl, Nat.le_of_ble_eq_true rfl⟩) hP hD hS hA hE [0, 1, 2, 3, 4, 5, 6] [] [0, 1, 2, 3, 4, 5, 6] rfl rfl rfl (by decide) (by decide) (by decide) (by decide) (ci := 2) (q0 := 0) rfl rfl rfl hl.1 rfl (Nat.le_of_ble_eq_true rfl) dX2_readOpening_31 (fun H locs hP hD hS => ?_)
    have hP : va_P DD vwCl [(q0, .inr (2, [.ref q1, .ref q2, .ref q3, .ref q4, .ref q6, .int z_2.1, .int captureCount])), (q1, .inl (aC 0, 513, .inl z_2.2.1)), (q2, .inl (aC 0, 513, .inl z_2.2.2.1)), (q3, .inl (aC 0, 513, .inl z_2.2.2.2)), (q4, .inr (1, [.ref q5])), (q5, .inl (aC 2, 2052, .inr (.inl sets_words))), (q6, .inl (aC 0, 32, .inl (upd states captureCount.toNatClampNeg a1)))] H := hP
    have hD : va_D A [(q0, .inr (2, [.ref q1, .ref q2, .ref q3, .ref q4, .ref q6, .int z_2.1, .int captureCount])), (q1, .inl (aC 0, 513, .inl z_2.2.1)), (q2, .inl (aC 0, 513, .inl z_2.2.2.1)), (q3, .inl (aC 0, 513, .inl z_2.2.2.2)), (q4, .inr (1, [.ref q5])), (q5, .inl (aC 2, 2052, .inr (.inl sets_words))), (q6, .inl (aC 0, 32, .inl (upd states captureCount.toNatClampNeg a1)))] := hD
    refine W.eq (g2 := F0 m 34 ls []) rfl ?_
    have h_3 := pf_X2_add hp_0 hz_2
    refine lv_aload_n hx hb dX2_readOpening_34 rfl (lv_at hl 0 rfl) ?_
    refine lv_dup hx hb dX2_readOpening_35 rfl ?_
    refine va_get (D := DD) (ci := 2) (v := .int captureCount) (C := RX2) (T := TX2) (N := 7) hx hb hts (fun w h => List.mem_cons_of_mem _ (inX2 w h)) hown hE.1 hP 0 rfl rfl 6 (by decide) (hts (.fieldLink "TextPatterns$Items" 33 "TextPatterns$Items" "captureCount" "I") (List.mem_cons_of_mem _ w_126)) (fun _ h9 => h9) rfl dX2_readOpening_36 ?_
    refine lv_iconst (v := 1) hx hb dX2_readOpening_39 (by decide) ?_
    refine lv_iadd hx hb dX2_readOpening_40 ?_
    refine va_put (D := DD) (ci := 2) (v := .int (captureCount + 1)) (ty := .int) (C := RX2) (T := TX2) (N := 7) hx hb hts (fun w h => List.mem_cons_of_mem _ (inX2 w h)) tyX2 tyX2_ok nmX2 hown hE.1 hP hD hS 0 rfl rfl 6 (by decide) (hts (.fieldLink "TextPatterns$Items" 33 "TextPatterns$Items" "captureCount" "I") (List.mem_cons_of_mem _ w_126)) (fun _ h9 => h9) rfl (by decide +kernel) rfl rfl (Nat.le_of_ble_eq_true rfl) dX2_readOpening_41 (fun H locs hP hD hS => ?_)
    have hP : va_P DD vwCl [(q0, .inr (2, [.ref q1, .ref q2, .ref q3, .ref q4, .ref q6, .int z_2.1, .int (captureCount + 1)])), (q1, .inl (aC 0, 513, .inl z_2.2.1)), (q2, .inl (aC 0, 513, .inl z_2.2.2.1)), (q3, .inl (aC 0, 513, .inl z_2.2.2.2)), (q4, .inr (1, [.ref q5])), (q5, .inl (aC 2, 2052, .inr (.inl sets_words))), (q6, .inl (aC 0, 32, .inl (upd states captureCount.toNatClampNeg a1)))] H := hP
    have hD : va_D A [(q0, .inr (2, [.ref q1, .ref q2, .ref q3, .ref q4, .ref q6, .int z_2.1, .int (captureCount + 1)])), (q1, .inl (aC 0, 513, .inl z_2.2.1)), (q2, .inl (aC 0, 513, .inl z_2.2.2.1)), (q3, .inl (aC 0, 513, .inl z_2.2.2.2)), (q4, .inr (1, [.ref q5])), (q5, .inl (aC 2, 2052, .inr (.inl sets_words))), (q6, .inl (aC 0, 32, .inl (upd states captureCount.toNatClampNeg a1)))] := hD
    refine lv_iload_n hx hb dX2_readOpening_44 rfl (lv_at hl 2 rfl) ?_
    subst hu
    exact k_iret hx hb hr hlocks hP hD hS rfl rfl dX2_readOpening_45
  · replace hu := hu.trans (if_neg c_1)
    refine lv_iconst (v := (-1)) hx hb dX2_readOpening_12 (by decide) ?_
    subst hu
    exact k_iret hx hb hr hlocks hP hD hS rfl rfl dX2_readOpening_13
def f_X2_readClosing (count : Int32) (captureCount : Int32) (kinds : Nat → Int32) (ones : Nat → Int32) (twos : Nat → Int32) (states : Nat → Int32) (a1 : Int32) : Int32 × Int32 × (Nat → Int32) × (Nat → Int32) × (Nat → Int32) × (Nat → Int32) := (kb (f_X2_latestOpen captureCount states) (fun z_1 => (if z_1 < 0 then ((-1), count, kinds, ones, twos, states) else (if z_1 < 32 then (kb (f_X2_add count kinds ones twos 5 z_1 0) (fun z_4 => (a1, z_4.1, z_4.2.1, z_4.2.2.1, z_4.2.2.2, upd states z_1.toNatClampNeg 5))) else ((-1), count, kinds, ones, twos, states)))))
set_option maxHeartbeats 4000000 in
theorem pf_X2_readClosing {count : Int32} {captureCount : Int32} {kinds : Nat → Int32} {ones : Nat → Int32} {twos : Nat → Int32} {states : Nat → Int32} {a1 : Int32} (hp_0 : 0 ≤ count.toInt) (hp_1 : 0 ≤ captureCount.toInt) {u : Int32 × Int32 × (Nat → Int32) × (Nat → Int32) × (Nat → Int32) × (Nat → Int32)} (hu : u = f_X2_readClosing count captureCount kinds ones twos states a1) : 0 ≤ u.2.1.toInt := by
  unfold f_X2_readClosing at hu
  obtain ⟨z_1, hz_1⟩ : ∃ z, z = f_X2_latestOpen captureCount states := ⟨_, rfl⟩
  replace hu := hu.trans (kb_of hz_1)
  rcases Classical.em (z_1 < 0) with c_2 | c_2
  · replace hu := hu.trans (if_pos c_2)
    rw [hu]
    exact show 0 ≤ count.toInt from hp_0
  · replace hu := hu.trans (if_neg c_2)
    rcases Classical.em (z_1 < 32) with c_3 | c_3
    · replace hu := hu.trans (if_pos c_3)
      obtain ⟨z_4, hz_4⟩ : ∃ z, z = f_X2_add count kinds ones twos 5 z_1 0 := ⟨_, rfl⟩
      replace hu := hu.trans (kb_of hz_4)
      have h_5 := pf_X2_add hp_0 hz_4
      rw [hu]
      exact show 0 ≤ z_4.1.toInt from h_5
    · replace hu := hu.trans (if_neg c_3)
      rw [hu]
      exact show 0 ≤ count.toInt from hp_0
abbrev rm_X2_readClosing : Room := { frames := 2, cells := 0, slots := 0, locals := 42 }
set_option maxHeartbeats 4000000 in
set_option maxRecDepth 100000 in
theorem c_X2_readClosing (l : Launch) (DD : va_G) (aC : Nat → ClassId) (tt : Nat → Nat) (q0 q1 q2 q3 q4 q5 q6 : Nat) (count : Int32) (captureCount : Int32) (kinds : Nat → Int32) (ones : Nat → Int32) (twos : Nat → Int32) (sets_words : Nat → Int64) (states : Nat → Int32) (a1 : Int32) (hp_0 : 0 ≤ count.toInt) (hp_1 : 0 ≤ captureCount.toInt) (u : Int32 × Int32 × (Nat → Int32) × (Nat → Int32) × (Nat → Int32) × (Nat → Int32)) (hu : u = f_X2_readClosing count captureCount kinds ones twos states a1) : kM l yX2_readClosing wsX2_readClosing rm_X2_readClosing DD aC tt [.ref q0, .int a1] [(q0, .inr (2, [.ref q1, .ref q2, .ref q3, .ref q4, .ref q6, .int count, .int captureCount])), (q1, .inl (aC 0, 513, .inl kinds)), (q2, .inl (aC 0, 513, .inl ones)), (q3, .inl (aC 0, 513, .inl twos)), (q4, .inr (1, [.ref q5])), (q5, .inl (aC 2, 2052, .inr (.inl sets_words))), (q6, .inl (aC 0, 32, .inl states))] (some (.int u.1)) [(q0, .inr (2, [.ref q1, .ref q2, .ref q3, .ref q4, .ref q6, .int u.2.1, .int captureCount])), (q1, .inl (aC 0, 513, .inl u.2.2.1)), (q2, .inl (aC 0, 513, .inl u.2.2.2.1)), (q3, .inl (aC 0, 513, .inl u.2.2.2.2.1)), (q4, .inr (1, [.ref q5])), (q5, .inl (aC 2, 2052, .inr (.inl sets_words))), (q6, .inl (aC 0, 32, .inl u.2.2.2.2.2))] := by
  refine k_start (cc := cX2_readClosing) (maxL := 3) (ret := (some .int)) (own := RX2) (lv0 := [(0, .ref q0), (1, .int a1)]) (by decide) rfl rfl (Nat.le_of_ble_eq_true rfl) rfl (fun p e s m below meth c A ls X hP hD hS hl => ?_)
  obtain ⟨hx, hb, hr, hml, hts, hown, hlocks, hA, hE⟩ := id X
  unfold f_X2_readClosing at hu
  refine lv_aload_n hx hb dX2_readClosing_0 rfl (lv_at hl 0 rfl) ?_
  obtain ⟨z_1, hz_1⟩ : ∃ z, z = f_X2_latestOpen captureCount states := ⟨_, rfl⟩
  replace hu := hu.trans (kb_of hz_1)
  refine k_callV (As := []) (rest := []) (wc := [(q0, .inr (2, [.ref q1, .ref q2, .ref q3, .ref q4, .ref q6, .int count, .int captureCount])), (q1, .inl (aC 0, 513, .inl kinds)), (q2, .inl (aC 0, 513, .inl ones)), (q3, .inl (aC 0, 513, .inl twos)), (q4, .inr (1, [.ref q5])), (q5, .inl (aC 2, 2052, .inr (.inl sets_words))), (q6, .inl (aC 0, 32, .inl states))]) (wr := []) (w1 := [(q0, .inr (2, [.ref q1, .ref q2, .ref q3, .ref q4, .ref q6, .int count, .int captureCount])), (q1, .inl (aC 0, 513, .inl kinds)), (q2, .inl (aC 0, 513, .inl ones)), (q3, .inl (aC 0, 513, .inl twos)), (q4, .inr (1, [.ref q5])), (q5, .inl (aC 2, 2052, .inr (.inl sets_words))), (q6, .inl (aC 0, 32, .inl states))]) (wn := [(q0, .inr (2, [.ref q1, .ref q2, .ref q3, .ref q4, .ref q6, .int count, .int captureCount])), (q1, .inl (aC 0, 513, .inl kinds)), (q2, .inl (aC 0, 513, .inl ones)), (q3, .inl (aC 0, 513, .inl twos)), (q4, .inr (1, [.ref q5])), (q5, .inl (aC 2, 2052, .inr (.inl sets_words))), (q6, .inl (aC 0, 32, .inl states))]) ⟨hx, hb, hml, hown, hts⟩ (c_X2_latestOpen l DD aC tt q0 q1 q2 q3 q4 q5 q6  count captureCount kinds ones twos sets_words states  hp_1 z_1 hz_1) (cwV 0 hts (gdV w_334 w_336 w_14 w_71 w_337) rfl rfl rfl (by decide +kernel) ⟨Nat.le_of_ble_eq_true rfl, Nat.le_of_ble_eq_true rfl⟩) hP hD hS hA hE [0, 1, 2, 3, 4, 5, 6] [] [0, 1, 2, 3, 4, 5, 6] rfl rfl rfl (by decide) (by decide) (by decide) (by decide) (ci := 2) (q0 := 0) rfl rfl rfl hl.1 rfl (Nat.le_of_ble_eq_true rfl) dX2_readClosing_1 (fun H locs hP hD hS => ?_)
  refine W.eq (g2 := F0 m 4 ls [.int z_1]) rfl ?_
  refine lv_istore_n (lv' := [(2, .int z_1), (0, .ref q0), (1, .int a1)]) hx hb dX2_readClosing_4 rfl hl (by decide) rfl (fun ls hl => ?_)
  refine lv_iload_n hx hb dX2_readClosing_5 rfl (lv_at hl 0 rfl) ?_
  refine lv_if_lt (tgt := 18) hx hb dX2_readClosing_6 (by decide) (fun c_2 => ?_) (fun c_2 => ?_)
  · replace hu := hu.trans (if_pos c_2)
    refine lv_iconst (v := (-1)) hx hb dX2_readClosing_18 (by decide) ?_
    subst hu
    exact k_iret hx hb hr hlocks hP hD hS rfl rfl dX2_readClosing_19
  · replace hu := hu.trans (if_neg c_2)
    refine lv_iload_n hx hb dX2_readClosing_9 rfl (lv_at hl 0 rfl) ?_
    refine lv_aload_n hx hb dX2_readClosing_10 rfl (lv_at hl 1 rfl) ?_
    refine va_get (D := DD) (ci := 2) (v := .ref q6) (C := RX2) (T := TX2) (N := 7) hx hb hts (fun w h => List.mem_cons_of_mem _ (inX2 w h)) hown hE.1 hP 0 rfl rfl 4 (by decide) (hts (.fieldLink "TextPatterns$Items" 30 "TextPatterns$Items" "states" "[I") (List.mem_cons_of_mem _ w_124)) (fun _ h9 => h9) rfl dX2_readClosing_11 ?_
    refine va_alen (v := 32) hx hb hE.1 hP 6 0 rfl rfl rfl dX2_readClosing_14 ?_
    refine lv_icmp_lt (tgt := 20) hx hb dX2_readClosing_15 (by decide) (fun c_3 => ?_) (fun c_3 => ?_)
    · replace hu := hu.trans (if_pos c_3)
      refine lv_aload_n hx hb dX2_readClosing_20 rfl (lv_at hl 1 rfl) ?_
      refine va_get (D := DD) (ci := 2) (v := .ref q6) (C := RX2) (T := TX2) (N := 7) hx hb hts (fun w h => List.mem_cons_of_mem _ (inX2 w h)) hown hE.1 hP 0 rfl rfl 4 (by decide) (hts (.fieldLink "TextPatterns$Items" 30 "TextPatterns$Items" "states" "[I") (List.mem_cons_of_mem _ w_124)) (fun _ h9 => h9) rfl dX2_readClosing_21 ?_
      refine lv_iload_n hx hb dX2_readClosing_24 rfl (lv_at hl 0 rfl) ?_
      refine lv_iconst (v := 5) hx hb dX2_readClosing_25 (by decide) ?_
      refine va_iast hx hb hE.1 hP hD hS 6 0 rfl rfl (kb_in (kb_nlt0 c_2) (by have i1 := kx_nlt c_2; have i2 := Int32.lt_iff_toInt_lt.mp c_3; have i3 := kx_rng (z_1); have i4 : (0 : Int32).toInt = 0 := (by decide); have i5 : (32 : Int32).toInt = 32 := (by decide); omega)) dX2_readClosing_26 (fun H locs hP hD hS => ?_)
      have hP : va_P DD vwCl [(q0, .inr (2, [.ref q1, .ref q2, .ref q3, .ref q4, .ref q6, .int count, .int captureCount])), (q1, .inl (aC 0, 513, .inl kinds)), (q2, .inl (aC 0, 513, .inl ones)), (q3, .inl (aC 0, 513, .inl twos)), (q4, .inr (1, [.ref q5])), (q5, .inl (aC 2, 2052, .inr (.inl sets_words))), (q6, .inl (aC 0, 32, .inl (upd states z_1.toNatClampNeg 5)))] H := hP
      have hD : va_D A [(q0, .inr (2, [.ref q1, .ref q2, .ref q3, .ref q4, .ref q6, .int count, .int captureCount])), (q1, .inl (aC 0, 513, .inl kinds)), (q2, .inl (aC 0, 513, .inl ones)), (q3, .inl (aC 0, 513, .inl twos)), (q4, .inr (1, [.ref q5])), (q5, .inl (aC 2, 2052, .inr (.inl sets_words))), (q6, .inl (aC 0, 32, .inl (upd states z_1.toNatClampNeg 5)))] := hD
      refine lv_aload_n hx hb dX2_readClosing_27 rfl (lv_at hl 1 rfl) ?_
      refine lv_iconst (v := 5) hx hb dX2_readClosing_28 (by decide) ?_
      refine lv_iload_n hx hb dX2_readClosing_29 rfl (lv_at hl 0 rfl) ?_
      refine lv_iconst (v := 0) hx hb dX2_readClosing_30 (by decide) ?_
      obtain ⟨z_4, hz_4⟩ : ∃ z, z = f_X2_add count kinds ones twos 5 z_1 0 := ⟨_, rfl⟩
      replace hu := hu.trans (kb_of hz_4)
      refine k_callV (As := [.int 5, .int z_1, .int 0]) (rest := []) (wc := [(q0, .inr (2, [.ref q1, .ref q2, .ref q3, .ref q4, .ref q6, .int count, .int captureCount])), (q1, .inl (aC 0, 513, .inl kinds)), (q2, .inl (aC 0, 513, .inl ones)), (q3, .inl (aC 0, 513, .inl twos)), (q4, .inr (1, [.ref q5])), (q5, .inl (aC 2, 2052, .inr (.inl sets_words))), (q6, .inl (aC 0, 32, .inl (upd states z_1.toNatClampNeg 5)))]) (wr := []) (w1 := [(q0, .inr (2, [.ref q1, .ref q2, .ref q3, .ref q4, .ref q6, .int z_4.1, .int captureCount])), (q1, .inl (aC 0, 513, .inl z_4.2.1)), (q2, .inl (aC 0, 513, .inl z_4.2.2.1)), (q3, .inl (aC 0, 513, .inl z_4.2.2.2)), (q4, .inr (1, [.ref q5])), (q5, .inl (aC 2, 2052, .inr (.inl sets_words))), (q6, .inl (aC 0, 32, .inl (upd states z_1.toNatClampNeg 5)))]) (wn := [(q0, .inr (2, [.ref q1, .ref q2, .ref q3, .ref q4, .ref q6, .int z_4.1, .int captureCount])), (q1, .inl (aC 0, 513, .inl z_4.2.1)), (q2, .inl (aC 0, 513, .inl z_4.2.2.1)), (q3, .inl (aC 0, 513, .inl z_4.2.2.2)), (q4, .inr (1, [.ref q5])), (q5, .inl (aC 2, 2052, .inr (.inl sets_words))), (q6, .inl (aC 0, 32, .inl (upd states z_1.toNatClampNeg 5)))]) ⟨hx, hb, hml, hown, hts⟩ (c_X2_add l DD aC tt q0 q1 q2 q3 q4 q5 q6  count captureCount kinds ones twos sets_words (upd states z_1.toNatClampNeg 5) 5 z_1 0 hp_0 z_4 hz_4) (cwV 3 hts (gdV w_318 w_320 w_10 w_71 w_321) rfl rfl rfl (by decide +kernel) ⟨Nat.le_of_ble_eq_true rfl, Nat.le_of_ble_eq_true rfl⟩) hP hD hS hA hE [0, 1, 2, 3, 4, 5, 6] [] [0, 1, 2, 3, 4, 5, 6] rfl rfl rfl (by decide) (by decide) (by decide) (by decide) (ci := 2) (q0 := 0) rfl rfl rfl hl.1 rfl (Nat.le_of_ble_eq_true rfl) dX2_readClosing_31 (fun H locs hP hD hS => ?_)
      have hP : va_P DD vwCl [(q0, .inr (2, [.ref q1, .ref q2, .ref q3, .ref q4, .ref q6, .int z_4.1, .int captureCount])), (q1, .inl (aC 0, 513, .inl z_4.2.1)), (q2, .inl (aC 0, 513, .inl z_4.2.2.1)), (q3, .inl (aC 0, 513, .inl z_4.2.2.2)), (q4, .inr (1, [.ref q5])), (q5, .inl (aC 2, 2052, .inr (.inl sets_words))), (q6, .inl (aC 0, 32, .inl (upd states z_1.toNatClampNeg 5)))] H := hP
      have hD : va_D A [(q0, .inr (2, [.ref q1, .ref q2, .ref q3, .ref q4, .ref q6, .int z_4.1, .int captureCount])), (q1, .inl (aC 0, 513, .inl z_4.2.1)), (q2, .inl (aC 0, 513, .inl z_4.2.2.1)), (q3, .inl (aC 0, 513, .inl z_4.2.2.2)), (q4, .inr (1, [.ref q5])), (q5, .inl (aC 2, 2052, .inr (.inl sets_words))), (q6, .inl (aC 0, 32, .inl (upd states z_1.toNatClampNeg 5)))] := hD
      refine W.eq (g2 := F0 m 34 ls []) rfl ?_
      have h_5 := pf_X2_add hp_0 hz_4
      refine lv_iload_n hx hb dX2_readClosing_34 rfl (lv_at hl 2 rfl) ?_
      subst hu
      exact k_iret hx hb hr hlocks hP hD hS rfl rfl dX2_readClosing_35
    · replace hu := hu.trans (if_neg c_3)
      refine lv_iconst (v := (-1)) hx hb dX2_readClosing_18 (by decide) ?_
      subst hu
      exact k_iret hx hb hr hlocks hP hD hS rfl rfl dX2_readClosing_19
def f_X2_readSame (count : Int32) (captureCount : Int32) (kinds : Nat → Int32) (ones : Nat → Int32) (twos : Nat → Int32) (states : Nat → Int32) (a1 : Int32) (a2 : Int32) : Int32 × Int32 × (Nat → Int32) × (Nat → Int32) × (Nat → Int32) := (if a1 < 0 then ((-1), count, kinds, ones, twos) else (if captureCount ≤ a1 then ((-1), count, kinds, ones, twos) else (if (32 : Int32) ≤ a1 then ((-1), count, kinds, ones, twos) else (if (states a1.toNatClampNeg) = 5 then (kb (f_X2_add count kinds ones twos 7 a1 0) (fun z_5 => (a2, z_5.1, z_5.2.1, z_5.2.2.1, z_5.2.2.2))) else ((-1), count, kinds, ones, twos)))))
set_option maxHeartbeats 4000000 in
theorem pf_X2_readSame {count : Int32} {captureCount : Int32} {kinds : Nat → Int32} {ones : Nat → Int32} {twos : Nat → Int32} {states : Nat → Int32} {a1 : Int32} {a2 : Int32} (hp_0 : 0 ≤ count.toInt) {u : Int32 × Int32 × (Nat → Int32) × (Nat → Int32) × (Nat → Int32)} (hu : u = f_X2_readSame count captureCount kinds ones twos states a1 a2) : 0 ≤ u.2.1.toInt := by
  unfold f_X2_readSame at hu
  rcases Classical.em (a1 < 0) with c_1 | c_1
  · replace hu := hu.trans (if_pos c_1)
    rw [hu]
    exact show 0 ≤ count.toInt from hp_0
  · replace hu := hu.trans (if_neg c_1)
    rcases Classical.em (captureCount ≤ a1) with c_2 | c_2
    · replace hu := hu.trans (if_pos c_2)
      rw [hu]
      exact show 0 ≤ count.toInt from hp_0
    · replace hu := hu.trans (if_neg c_2)
      rcases Classical.em ((32 : Int32) ≤ a1) with c_3 | c_3
      · replace hu := hu.trans (if_pos c_3)
        rw [hu]
        exact show 0 ≤ count.toInt from hp_0
      · replace hu := hu.trans (if_neg c_3)
        rcases Classical.em ((states a1.toNatClampNeg) = 5) with c_4 | c_4
        · replace hu := hu.trans (if_pos c_4)
          obtain ⟨z_5, hz_5⟩ : ∃ z, z = f_X2_add count kinds ones twos 7 a1 0 := ⟨_, rfl⟩
          replace hu := hu.trans (kb_of hz_5)
          have h_6 := pf_X2_add hp_0 hz_5
          rw [hu]
          exact show 0 ≤ z_5.1.toInt from h_6
        · replace hu := hu.trans (if_neg c_4)
          rw [hu]
          exact show 0 ≤ count.toInt from hp_0
abbrev rm_X2_readSame : Room := { frames := 1, cells := 0, slots := 0, locals := 23 }
set_option maxHeartbeats 4000000 in
set_option maxRecDepth 100000 in
theorem c_X2_readSame (l : Launch) (DD : va_G) (aC : Nat → ClassId) (tt : Nat → Nat) (q0 q1 q2 q3 q4 q5 q6 : Nat) (count : Int32) (captureCount : Int32) (kinds : Nat → Int32) (ones : Nat → Int32) (twos : Nat → Int32) (sets_words : Nat → Int64) (states : Nat → Int32) (a1 : Int32) (a2 : Int32) (hp_0 : 0 ≤ count.toInt) (u : Int32 × Int32 × (Nat → Int32) × (Nat → Int32) × (Nat → Int32)) (hu : u = f_X2_readSame count captureCount kinds ones twos states a1 a2) : kM l yX2_readSame wsX2_readSame rm_X2_readSame DD aC tt [.ref q0, .int a1, .int a2] [(q0, .inr (2, [.ref q1, .ref q2, .ref q3, .ref q4, .ref q6, .int count, .int captureCount])), (q1, .inl (aC 0, 513, .inl kinds)), (q2, .inl (aC 0, 513, .inl ones)), (q3, .inl (aC 0, 513, .inl twos)), (q4, .inr (1, [.ref q5])), (q5, .inl (aC 2, 2052, .inr (.inl sets_words))), (q6, .inl (aC 0, 32, .inl states))] (some (.int u.1)) [(q0, .inr (2, [.ref q1, .ref q2, .ref q3, .ref q4, .ref q6, .int u.2.1, .int captureCount])), (q1, .inl (aC 0, 513, .inl u.2.2.1)), (q2, .inl (aC 0, 513, .inl u.2.2.2.1)), (q3, .inl (aC 0, 513, .inl u.2.2.2.2)), (q4, .inr (1, [.ref q5])), (q5, .inl (aC 2, 2052, .inr (.inl sets_words))), (q6, .inl (aC 0, 32, .inl states))] := by
  refine k_start (cc := cX2_readSame) (maxL := 3) (ret := (some .int)) (own := RX2) (lv0 := [(0, .ref q0), (1, .int a1), (2, .int a2)]) (by decide) rfl rfl (Nat.le_of_ble_eq_true rfl) rfl (fun p e s m below meth c A ls X hP hD hS hl => ?_)
  obtain ⟨hx, hb, hr, hml, hts, hown, hlocks, hA, hE⟩ := id X
  unfold f_X2_readSame at hu
  refine lv_iload_n hx hb dX2_readSame_0 rfl (lv_at hl 1 rfl) ?_
  refine lv_if_lt (tgt := 31) hx hb dX2_readSame_1 (by decide) (fun c_1 => ?_) (fun c_1 => ?_)
  · replace hu := hu.trans (if_pos c_1)
    refine lv_iconst (v := (-1)) hx hb dX2_readSame_31 (by decide) ?_
    subst hu
    exact k_iret hx hb hr hlocks hP hD hS rfl rfl dX2_readSame_32
  · replace hu := hu.trans (if_neg c_1)
    refine lv_iload_n hx hb dX2_readSame_4 rfl (lv_at hl 1 rfl) ?_
    refine lv_aload_n hx hb dX2_readSame_5 rfl (lv_at hl 0 rfl) ?_
    refine va_get (D := DD) (ci := 2) (v := .int captureCount) (C := RX2) (T := TX2) (N := 7) hx hb hts (fun w h => List.mem_cons_of_mem _ (inX2 w h)) hown hE.1 hP 0 rfl rfl 6 (by decide) (hts (.fieldLink "TextPatterns$Items" 33 "TextPatterns$Items" "captureCount" "I") (List.mem_cons_of_mem _ w_126)) (fun _ h9 => h9) rfl dX2_readSame_6 ?_
    refine lv_icmp_ge (tgt := 31) hx hb dX2_readSame_9 (by decide) (fun c_2 => ?_) (fun c_2 => ?_)
    · replace hu := hu.trans (if_pos c_2)
      refine lv_iconst (v := (-1)) hx hb dX2_readSame_31 (by decide) ?_
      subst hu
      exact k_iret hx hb hr hlocks hP hD hS rfl rfl dX2_readSame_32
    · replace hu := hu.trans (if_neg c_2)
      refine lv_iload_n hx hb dX2_readSame_12 rfl (lv_at hl 1 rfl) ?_
      refine lv_aload_n hx hb dX2_readSame_13 rfl (lv_at hl 0 rfl) ?_
      refine va_get (D := DD) (ci := 2) (v := .ref q6) (C := RX2) (T := TX2) (N := 7) hx hb hts (fun w h => List.mem_cons_of_mem _ (inX2 w h)) hown hE.1 hP 0 rfl rfl 4 (by decide) (hts (.fieldLink "TextPatterns$Items" 30 "TextPatterns$Items" "states" "[I") (List.mem_cons_of_mem _ w_124)) (fun _ h9 => h9) rfl dX2_readSame_14 ?_
      refine va_alen (v := 32) hx hb hE.1 hP 6 0 rfl rfl rfl dX2_readSame_17 ?_
      refine lv_icmp_ge (tgt := 31) hx hb dX2_readSame_18 (by decide) (fun c_3 => ?_) (fun c_3 => ?_)
      · replace hu := hu.trans (if_pos c_3)
        refine lv_iconst (v := (-1)) hx hb dX2_readSame_31 (by decide) ?_
        subst hu
        exact k_iret hx hb hr hlocks hP hD hS rfl rfl dX2_readSame_32
      · replace hu := hu.trans (if_neg c_3)
        refine lv_aload_n hx hb dX2_readSame_21 rfl (lv_at hl 0 rfl) ?_
        refine va_get (D := DD) (ci := 2) (v := .ref q6) (C := RX2) (T := TX2) (N := 7) hx hb hts (fun w h => List.mem_cons_of_mem _ (inX2 w h)) hown hE.1 hP 0 rfl rfl 4 (by decide) (hts (.fieldLink "TextPatterns$Items" 30 "TextPatterns$Items" "states" "[I") (List.mem_cons_of_mem _ w_124)) (fun _ h9 => h9) rfl dX2_readSame_22 ?_
        refine lv_iload_n hx hb dX2_readSame_25 rfl (lv_at hl 1 rfl) ?_
        refine va_iald hx hb hE.1 hP 6 0 rfl rfl (kb_in (kb_nlt0 c_1) (kb_nle c_3 (by decide))) dX2_readSame_26 ?_
        refine lv_iconst (v := 5) hx hb dX2_readSame_27 (by decide) ?_
        refine lv_icmp_eq (tgt := 33) hx hb dX2_readSame_28 (by decide) (fun c_4 => ?_) (fun c_4 => ?_)
        · replace hu := hu.trans (if_pos c_4)
          refine lv_aload_n hx hb dX2_readSame_33 rfl (lv_at hl 0 rfl) ?_
          refine lv_bipush (v := 7) hx hb dX2_readSame_34 (by decide) ?_
          refine lv_iload_n hx hb dX2_readSame_36 rfl (lv_at hl 1 rfl) ?_
          refine lv_iconst (v := 0) hx hb dX2_readSame_37 (by decide) ?_
          obtain ⟨z_5, hz_5⟩ : ∃ z, z = f_X2_add count kinds ones twos 7 a1 0 := ⟨_, rfl⟩
          replace hu := hu.trans (kb_of hz_5)
          refine k_callV (As := [.int 7, .int a1, .int 0]) (rest := []) (wc := [(q0, .inr (2, [.ref q1, .ref q2, .ref q3, .ref q4, .ref q6, .int count, .int captureCount])), (q1, .inl (aC 0, 513, .inl kinds)), (q2, .inl (aC 0, 513, .inl ones)), (q3, .inl (aC 0, 513, .inl twos)), (q4, .inr (1, [.ref q5])), (q5, .inl (aC 2, 2052, .inr (.inl sets_words))), (q6, .inl (aC 0, 32, .inl states))]) (wr := []) (w1 := [(q0, .inr (2, [.ref q1, .ref q2, .ref q3, .ref q4, .ref q6, .int z_5.1, .int captureCount])), (q1, .inl (aC 0, 513, .inl z_5.2.1)), (q2, .inl (aC 0, 513, .inl z_5.2.2.1)), (q3, .inl (aC 0, 513, .inl z_5.2.2.2)), (q4, .inr (1, [.ref q5])), (q5, .inl (aC 2, 2052, .inr (.inl sets_words))), (q6, .inl (aC 0, 32, .inl states))]) (wn := [(q0, .inr (2, [.ref q1, .ref q2, .ref q3, .ref q4, .ref q6, .int z_5.1, .int captureCount])), (q1, .inl (aC 0, 513, .inl z_5.2.1)), (q2, .inl (aC 0, 513, .inl z_5.2.2.1)), (q3, .inl (aC 0, 513, .inl z_5.2.2.2)), (q4, .inr (1, [.ref q5])), (q5, .inl (aC 2, 2052, .inr (.inl sets_words))), (q6, .inl (aC 0, 32, .inl states))]) ⟨hx, hb, hml, hown, hts⟩ (c_X2_add l DD aC tt q0 q1 q2 q3 q4 q5 q6  count captureCount kinds ones twos sets_words states 7 a1 0 hp_0 z_5 hz_5) (cwV 3 hts (gdV w_318 w_320 w_10 w_71 w_321) rfl rfl rfl (by decide +kernel) ⟨Nat.le_of_ble_eq_true rfl, Nat.le_of_ble_eq_true rfl⟩) hP hD hS hA hE [0, 1, 2, 3, 4, 5, 6] [] [0, 1, 2, 3, 4, 5, 6] rfl rfl rfl (by decide) (by decide) (by decide) (by decide) (ci := 2) (q0 := 0) rfl rfl rfl hl.1 rfl (Nat.le_of_ble_eq_true rfl) dX2_readSame_38 (fun H locs hP hD hS => ?_)
          have hP : va_P DD vwCl [(q0, .inr (2, [.ref q1, .ref q2, .ref q3, .ref q4, .ref q6, .int z_5.1, .int captureCount])), (q1, .inl (aC 0, 513, .inl z_5.2.1)), (q2, .inl (aC 0, 513, .inl z_5.2.2.1)), (q3, .inl (aC 0, 513, .inl z_5.2.2.2)), (q4, .inr (1, [.ref q5])), (q5, .inl (aC 2, 2052, .inr (.inl sets_words))), (q6, .inl (aC 0, 32, .inl states))] H := hP
          have hD : va_D A [(q0, .inr (2, [.ref q1, .ref q2, .ref q3, .ref q4, .ref q6, .int z_5.1, .int captureCount])), (q1, .inl (aC 0, 513, .inl z_5.2.1)), (q2, .inl (aC 0, 513, .inl z_5.2.2.1)), (q3, .inl (aC 0, 513, .inl z_5.2.2.2)), (q4, .inr (1, [.ref q5])), (q5, .inl (aC 2, 2052, .inr (.inl sets_words))), (q6, .inl (aC 0, 32, .inl states))] := hD
          refine W.eq (g2 := F0 m 41 ls []) rfl ?_
          have h_6 := pf_X2_add hp_0 hz_5
          refine lv_iload_n hx hb dX2_readSame_41 rfl (lv_at hl 2 rfl) ?_
          subst hu
          exact k_iret hx hb hr hlocks hP hD hS rfl rfl dX2_readSame_42
        · replace hu := hu.trans (if_neg c_4)
          refine lv_iconst (v := (-1)) hx hb dX2_readSame_31 (by decide) ?_
          subst hu
          exact k_iret hx hb hr hlocks hP hD hS rfl rfl dX2_readSame_32

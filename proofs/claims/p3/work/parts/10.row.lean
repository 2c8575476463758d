def f_X0_length (length : Int32) : Int32 := length
abbrev rm_X0_length : Room := { frames := 0, cells := 0, slots := 0, locals := 0 }
set_option maxHeartbeats 4000000 in
set_option maxRecDepth 100000 in
theorem c_X0_length (l : Launch) (DD : va_G) (aC : Nat → ClassId) (tt : Nat → Nat) (q0 q1 n : Nat) (length : Int32) (bytes : Nat → Int32) (u : Int32) (hu : u = f_X0_length length) : kM l yX0_length wsX0_length rm_X0_length DD aC tt [.ref q0] [(q0, .inr (0, [.ref q1, .int length])), (q1, .inl (aC 1, n, .inl bytes))] (some (.int u)) [(q0, .inr (0, [.ref q1, .int length])), (q1, .inl (aC 1, n, .inl bytes))] := by
  refine k_start (cc := cX0_length) (maxL := 1) (ret := (some .int)) (own := RX0) (lv0 := [(0, .ref q0)]) (by decide) rfl rfl (Nat.le_of_ble_eq_true rfl) rfl (fun p e s m below meth c A ls X hP hD hS hl => ?_)
  obtain ⟨hx, hb, hr, hml, hts, hown, hlocks, hA, hE⟩ := id X
  unfold f_X0_length at hu
  refine lv_aload_n hx hb dX0_length_0 rfl (lv_at hl 0 rfl) ?_
  refine va_get (D := DD) (ci := 0) (v := .int length) (C := RX0) (T := TX0) (N := 2) hx hb hts (fun w h => List.mem_cons_of_mem _ (inX0 w h)) hown hE.1 hP 0 rfl rfl 1 (by decide) (hts (.fieldLink "TextPatterns$Row" 21 "TextPatterns$Row" "length" "I") (List.mem_cons_of_mem _ w_93)) (fun _ h9 => h9) rfl dX0_length_1 ?_
  subst hu
  exact k_iret hx hb hr hlocks hP hD hS rfl rfl dX0_length_4
def f_X0_room (n : Nat) (length : Int32) : Int32 := ((nI n) - length)
abbrev rm_X0_room : Room := { frames := 0, cells := 0, slots := 0, locals := 0 }
set_option maxHeartbeats 4000000 in
set_option maxRecDepth 100000 in
theorem c_X0_room (l : Launch) (DD : va_G) (aC : Nat → ClassId) (tt : Nat → Nat) (q0 q1 n : Nat) (length : Int32) (bytes : Nat → Int32) (u : Int32) (hu : u = f_X0_room n length) : kM l yX0_room wsX0_room rm_X0_room DD aC tt [.ref q0] [(q0, .inr (0, [.ref q1, .int length])), (q1, .inl (aC 1, n, .inl bytes))] (some (.int u)) [(q0, .inr (0, [.ref q1, .int length])), (q1, .inl (aC 1, n, .inl bytes))] := by
  refine k_start (cc := cX0_room) (maxL := 1) (ret := (some .int)) (own := RX0) (lv0 := [(0, .ref q0)]) (by decide) rfl rfl (Nat.le_of_ble_eq_true rfl) rfl (fun p e s m below meth c A ls X hP hD hS hl => ?_)
  obtain ⟨hx, hb, hr, hml, hts, hown, hlocks, hA, hE⟩ := id X
  unfold f_X0_room at hu
  refine lv_aload_n hx hb dX0_room_0 rfl (lv_at hl 0 rfl) ?_
  refine va_get (D := DD) (ci := 0) (v := .ref q1) (C := RX0) (T := TX0) (N := 2) hx hb hts (fun w h => List.mem_cons_of_mem _ (inX0 w h)) hown hE.1 hP 0 rfl rfl 0 (by decide) (hts (.fieldLink "TextPatterns$Row" 15 "TextPatterns$Row" "bytes" "[B") (List.mem_cons_of_mem _ w_92)) (fun _ h9 => h9) rfl dX0_room_1 ?_
  refine va_alen (v := nI n) hx hb hE.1 hP 1 1 rfl rfl rfl dX0_room_4 ?_
  refine lv_aload_n hx hb dX0_room_5 rfl (lv_at hl 0 rfl) ?_
  refine va_get (D := DD) (ci := 0) (v := .int length) (C := RX0) (T := TX0) (N := 2) hx hb hts (fun w h => List.mem_cons_of_mem _ (inX0 w h)) hown hE.1 hP 0 rfl rfl 1 (by decide) (hts (.fieldLink "TextPatterns$Row" 21 "TextPatterns$Row" "length" "I") (List.mem_cons_of_mem _ w_93)) (fun _ h9 => h9) rfl dX0_room_6 ?_
  refine lv_isub hx hb dX0_room_9 ?_
  subst hu
  exact k_iret hx hb hr hlocks hP hD hS rfl rfl dX0_room_10
def f_X0_empty (length : Int32) : Int32 := 0
set_option maxHeartbeats 4000000 in
theorem pf_X0_empty {n : Nat} {length : Int32} (hp_0 : 0 ≤ length.toInt) (hp_1 : length.toInt ≤ n) {u : Int32} (hu : u = f_X0_empty length) : 0 ≤ u.toInt ∧ u.toInt ≤ n := by
  unfold f_X0_empty at hu
  rw [hu]
  exact show 0 ≤ (0 : Int32).toInt ∧ (0 : Int32).toInt ≤ n from ⟨(by decide), (show (0 : Int32).toInt ≤ n from (by have i1 : (0 : Int32).toInt = 0 := (by decide); omega))⟩
abbrev rm_X0_empty : Room := { frames := 0, cells := 0, slots := 0, locals := 0 }
set_option maxHeartbeats 4000000 in
set_option maxRecDepth 100000 in
theorem c_X0_empty (l : Launch) (DD : va_G) (aC : Nat → ClassId) (tt : Nat → Nat) (q0 q1 n : Nat) (length : Int32) (bytes : Nat → Int32) (hp_0 : 0 ≤ length.toInt) (hp_1 : length.toInt ≤ n) (u : Int32) (hu : u = f_X0_empty length) : kM l yX0_empty wsX0_empty rm_X0_empty DD aC tt [.ref q0] [(q0, .inr (0, [.ref q1, .int length])), (q1, .inl (aC 1, n, .inl bytes))] none [(q0, .inr (0, [.ref q1, .int u])), (q1, .inl (aC 1, n, .inl bytes))] := by
  refine k_start (cc := cX0_empty) (maxL := 1) (ret := none) (own := RX0) (lv0 := [(0, .ref q0)]) (by decide) rfl rfl (Nat.le_of_ble_eq_true rfl) rfl (fun p e s m below meth c A ls X hP hD hS hl => ?_)
  obtain ⟨hx, hb, hr, hml, hts, hown, hlocks, hA, hE⟩ := id X
  unfold f_X0_empty at hu
  refine lv_aload_n hx hb dX0_empty_0 rfl (lv_at hl 0 rfl) ?_
  refine lv_iconst (v := 0) hx hb dX0_empty_1 (by decide) ?_
  refine va_put (D := DD) (ci := 0) (v := .int 0) (ty := .int) (C := RX0) (T := TX0) (N := 2) hx hb hts (fun w h => List.mem_cons_of_mem _ (inX0 w h)) tyX0 tyX0_ok nmX0 hown hE.1 hP hD hS 0 rfl rfl 1 (by decide) (hts (.fieldLink "TextPatterns$Row" 21 "TextPatterns$Row" "length" "I") (List.mem_cons_of_mem _ w_93)) (fun _ h9 => h9) rfl (by decide +kernel) rfl rfl (Nat.le_of_ble_eq_true rfl) dX0_empty_2 (fun H locs hP hD hS => ?_)
  have hP : va_P DD vwCl [(q0, .inr (0, [.ref q1, .int 0])), (q1, .inl (aC 1, n, .inl bytes))] H := hP
  have hD : va_D A [(q0, .inr (0, [.ref q1, .int 0])), (q1, .inl (aC 1, n, .inl bytes))] := hD
  subst hu
  exact k_vret hx hb hr hlocks hP hD hS rfl rfl dX0_empty_5
def f_X0_add (n : Nat) (length : Int32) (bytes : Nat → Int32) (a1 : Int32) : Int32 × (Nat → Int32) := (if (nI n) ≤ length then (length, bytes) else (length + 1, upd bytes length.toNatClampNeg (vp_nar .byte (a1.toInt8.toInt32))))
set_option maxHeartbeats 4000000 in
theorem pf_X0_add {n : Nat} {length : Int32} {bytes : Nat → Int32} {a1 : Int32} (hn_n : n < 1073741824) (hp_1 : 0 ≤ length.toInt) (hp_2 : length.toInt ≤ n) {u : Int32 × (Nat → Int32)} (hu : u = f_X0_add n length bytes a1) : 0 ≤ u.1.toInt ∧ u.1.toInt ≤ n := by
  unfold f_X0_add at hu
  rcases Classical.em ((nI n) ≤ length) with c_1 | c_1
  · replace hu := hu.trans (if_pos c_1)
    rw [hu]
    exact show 0 ≤ length.toInt ∧ length.toInt ≤ n from ⟨hp_1, hp_2⟩
  · replace hu := hu.trans (if_neg c_1)
    rw [hu]
    exact show 0 ≤ (length + 1).toInt ∧ (length + 1).toInt ≤ n from ⟨(show 0 ≤ (length + 1).toInt from (by have i1 := kx_nle c_1; have i2 := kx_rng (length + 1); have i3 := kx_rng (length); have i5 := nI_toInt (n := n) (by omega); first | omega | (have i4 := kx_addK length (y := 1) (k := 1) (by decide); omega))), (show (length + 1).toInt ≤ n from (by have i1 := kx_nle c_1; have i2 := kx_rng (length + 1); have i3 := kx_rng (length); have i5 := nI_toInt (n := n) (by omega); first | omega | (have i4 := kx_addK length (y := 1) (k := 1) (by decide); omega)))⟩
abbrev rm_X0_add : Room := { frames := 0, cells := 0, slots := 0, locals := 0 }
set_option maxHeartbeats 4000000 in
set_option maxRecDepth 100000 in
theorem c_X0_add (l : Launch) (DD : va_G) (aC : Nat → ClassId) (tt : Nat → Nat) (q0 q1 n : Nat) (length : Int32) (bytes : Nat → Int32) (a1 : Int32) (hn_n : n < 1073741824) (hp_1 : 0 ≤ length.toInt) (hp_2 : length.toInt ≤ n) (u : Int32 × (Nat → Int32)) (hu : u = f_X0_add n length bytes a1) : kM l yX0_add wsX0_add rm_X0_add DD aC tt [.ref q0, .int a1] [(q0, .inr (0, [.ref q1, .int length])), (q1, .inl (aC 1, n, .inl bytes))] none [(q0, .inr (0, [.ref q1, .int u.1])), (q1, .inl (aC 1, n, .inl u.2))] := by
  refine k_start (cc := cX0_add) (maxL := 2) (ret := none) (own := RX0) (lv0 := [(0, .ref q0), (1, .int a1)]) (by decide) rfl rfl (Nat.le_of_ble_eq_true rfl) rfl (fun p e s m below meth c A ls X hP hD hS hl => ?_)
  obtain ⟨hx, hb, hr, hml, hts, hown, hlocks, hA, hE⟩ := id X
  unfold f_X0_add at hu
  refine lv_aload_n hx hb dX0_add_0 rfl (lv_at hl 0 rfl) ?_
  refine va_get (D := DD) (ci := 0) (v := .int length) (C := RX0) (T := TX0) (N := 2) hx hb hts (fun w h => List.mem_cons_of_mem _ (inX0 w h)) hown hE.1 hP 0 rfl rfl 1 (by decide) (hts (.fieldLink "TextPatterns$Row" 21 "TextPatterns$Row" "length" "I") (List.mem_cons_of_mem _ w_93)) (fun _ h9 => h9) rfl dX0_add_1 ?_
  refine lv_aload_n hx hb dX0_add_4 rfl (lv_at hl 0 rfl) ?_
  refine va_get (D := DD) (ci := 0) (v := .ref q1) (C := RX0) (T := TX0) (N := 2) hx hb hts (fun w h => List.mem_cons_of_mem _ (inX0 w h)) hown hE.1 hP 0 rfl rfl 0 (by decide) (hts (.fieldLink "TextPatterns$Row" 15 "TextPatterns$Row" "bytes" "[B") (List.mem_cons_of_mem _ w_92)) (fun _ h9 => h9) rfl dX0_add_5 ?_
  refine va_alen (v := nI n) hx hb hE.1 hP 1 1 rfl rfl rfl dX0_add_8 ?_
  refine lv_icmp_ge (tgt := 33) hx hb dX0_add_9 (by decide) (fun c_1 => ?_) (fun c_1 => ?_)
  · replace hu := hu.trans (if_pos c_1)
    subst hu
    exact k_vret hx hb hr hlocks hP hD hS rfl rfl dX0_add_33
  · replace hu := hu.trans (if_neg c_1)
    refine lv_aload_n hx hb dX0_add_12 rfl (lv_at hl 0 rfl) ?_
    refine va_get (D := DD) (ci := 0) (v := .ref q1) (C := RX0) (T := TX0) (N := 2) hx hb hts (fun w h => List.mem_cons_of_mem _ (inX0 w h)) hown hE.1 hP 0 rfl rfl 0 (by decide) (hts (.fieldLink "TextPatterns$Row" 15 "TextPatterns$Row" "bytes" "[B") (List.mem_cons_of_mem _ w_92)) (fun _ h9 => h9) rfl dX0_add_13 ?_
    refine lv_aload_n hx hb dX0_add_16 rfl (lv_at hl 0 rfl) ?_
    refine va_get (D := DD) (ci := 0) (v := .int length) (C := RX0) (T := TX0) (N := 2) hx hb hts (fun w h => List.mem_cons_of_mem _ (inX0 w h)) hown hE.1 hP 0 rfl rfl 1 (by decide) (hts (.fieldLink "TextPatterns$Row" 21 "TextPatterns$Row" "length" "I") (List.mem_cons_of_mem _ w_93)) (fun _ h9 => h9) rfl dX0_add_17 ?_
    refine lv_iload_n hx hb dX0_add_20 rfl (lv_at hl 1 rfl) ?_
    refine lv_i2b (v := a1.toInt8.toInt32) hx hb dX0_add_21 rfl ?_
    refine va_bast hx hb hE.1 hP hD hS 1 1 rfl rfl (kb_in (by have i1 := kx_nle c_1; have i2 := kx_rng (length); have i3 := nI_toInt (n := n) (by omega); omega) (kb_nleN hn_n c_1)) dX0_add_22 (fun H locs hP hD hS => ?_)
    have hP : va_P DD vwCl [(q0, .inr (0, [.ref q1, .int length])), (q1, .inl (aC 1, n, .inl (upd bytes length.toNatClampNeg (vp_nar .byte (a1.toInt8.toInt32)))))] H := hP
    have hD : va_D A [(q0, .inr (0, [.ref q1, .int length])), (q1, .inl (aC 1, n, .inl (upd bytes length.toNatClampNeg (vp_nar .byte (a1.toInt8.toInt32)))))] := hD
    refine lv_aload_n hx hb dX0_add_23 rfl (lv_at hl 0 rfl) ?_
    refine lv_dup hx hb dX0_add_24 rfl ?_
    refine va_get (D := DD) (ci := 0) (v := .int length) (C := RX0) (T := TX0) (N := 2) hx hb hts (fun w h => List.mem_cons_of_mem _ (inX0 w h)) hown hE.1 hP 0 rfl rfl 1 (by decide) (hts (.fieldLink "TextPatterns$Row" 21 "TextPatterns$Row" "length" "I") (List.mem_cons_of_mem _ w_93)) (fun _ h9 => h9) rfl dX0_add_25 ?_
    refine lv_iconst (v := 1) hx hb dX0_add_28 (by decide) ?_
    refine lv_iadd hx hb dX0_add_29 ?_
    refine va_put (D := DD) (ci := 0) (v := .int (length + 1)) (ty := .int) (C := RX0) (T := TX0) (N := 2) hx hb hts (fun w h => List.mem_cons_of_mem _ (inX0 w h)) tyX0 tyX0_ok nmX0 hown hE.1 hP hD hS 0 rfl rfl 1 (by decide) (hts (.fieldLink "TextPatterns$Row" 21 "TextPatterns$Row" "length" "I") (List.mem_cons_of_mem _ w_93)) (fun _ h9 => h9) rfl (by decide +kernel) rfl rfl (Nat.le_of_ble_eq_true rfl) dX0_add_30 (fun H locs hP hD hS => ?_)
    have hP : va_P DD vwCl [(q0, .inr (0, [.ref q1, .int (length + 1)])), (q1, .inl (aC 1, n, .inl (upd bytes length.toNatClampNeg (vp_nar .byte (a1.toInt8.toInt32)))))] H := hP
    have hD : va_D A [(q0, .inr (0, [.ref q1, .int (length + 1)])), (q1, .inl (aC 1, n, .inl (upd bytes length.toNatClampNeg (vp_nar .byte (a1.toInt8.toInt32)))))] := hD
    subst hu
    exact k_vret hx hb hr hlocks hP hD hS rfl rfl dX0_add_33
def f_X0_at (length : Int32) (bytes : Nat → Int32) (a1 : Int32) : Int32 := (if a1 < 0 then (-1) else (if length ≤ a1 then (-1) else ((bytes a1.toNatClampNeg) &&& 255)))
abbrev rm_X0_at : Room := { frames := 0, cells := 0, slots := 0, locals := 0 }
set_option maxHeartbeats 4000000 in
set_option maxRecDepth 100000 in
theorem c_X0_at (l : Launch) (DD : va_G) (aC : Nat → ClassId) (tt : Nat → Nat) (q0 q1 n : Nat) (length : Int32) (bytes : Nat → Int32) (a1 : Int32) (hl1 : length.toInt ≤ n) (u : Int32) (hu : u = f_X0_at length bytes a1) : kM l yX0_at wsX0_at rm_X0_at DD aC tt [.ref q0, .int a1] [(q0, .inr (0, [.ref q1, .int length])), (q1, .inl (aC 1, n, .inl bytes))] (some (.int u)) [(q0, .inr (0, [.ref q1, .int length])), (q1, .inl (aC 1, n, .inl bytes))] := by
  refine k_start (cc := cX0_at) (maxL := 2) (ret := (some .int)) (own := RX0) (lv0 := [(0, .ref q0), (1, .int a1)]) (by decide) rfl rfl (Nat.le_of_ble_eq_true rfl) rfl (fun p e s m below meth c A ls X hP hD hS hl => ?_)
  obtain ⟨hx, hb, hr, hml, hts, hown, hlocks, hA, hE⟩ := id X
  unfold f_X0_at at hu
  refine lv_iload_n hx hb dX0_at_0 rfl (lv_at hl 1 rfl) ?_
  refine lv_if_lt (tgt := 25) hx hb dX0_at_1 (by decide) (fun c_1 => ?_) (fun c_1 => ?_)
  · replace hu := hu.trans (if_pos c_1)
    refine lv_iconst (v := (-1)) hx hb dX0_at_25 (by decide) ?_
    subst hu
    exact k_iret hx hb hr hlocks hP hD hS rfl rfl dX0_at_26
  · replace hu := hu.trans (if_neg c_1)
    refine lv_iload_n hx hb dX0_at_4 rfl (lv_at hl 1 rfl) ?_
    refine lv_aload_n hx hb dX0_at_5 rfl (lv_at hl 0 rfl) ?_
    refine va_get (D := DD) (ci := 0) (v := .int length) (C := RX0) (T := TX0) (N := 2) hx hb hts (fun w h => List.mem_cons_of_mem _ (inX0 w h)) hown hE.1 hP 0 rfl rfl 1 (by decide) (hts (.fieldLink "TextPatterns$Row" 21 "TextPatterns$Row" "length" "I") (List.mem_cons_of_mem _ w_93)) (fun _ h9 => h9) rfl dX0_at_6 ?_
    refine lv_icmp_ge (tgt := 25) hx hb dX0_at_9 (by decide) (fun c_2 => ?_) (fun c_2 => ?_)
    · replace hu := hu.trans (if_pos c_2)
      refine lv_iconst (v := (-1)) hx hb dX0_at_25 (by decide) ?_
      subst hu
      exact k_iret hx hb hr hlocks hP hD hS rfl rfl dX0_at_26
    · replace hu := hu.trans (if_neg c_2)
      refine lv_aload_n hx hb dX0_at_12 rfl (lv_at hl 0 rfl) ?_
      refine va_get (D := DD) (ci := 0) (v := .ref q1) (C := RX0) (T := TX0) (N := 2) hx hb hts (fun w h => List.mem_cons_of_mem _ (inX0 w h)) hown hE.1 hP 0 rfl rfl 0 (by decide) (hts (.fieldLink "TextPatterns$Row" 15 "TextPatterns$Row" "bytes" "[B") (List.mem_cons_of_mem _ w_92)) (fun _ h9 => h9) rfl dX0_at_13 ?_
      refine lv_iload_n hx hb dX0_at_16 rfl (lv_at hl 1 rfl) ?_
      refine va_bald hx hb hE.1 hP 1 1 rfl rfl (kb_in (kb_nlt0 c_1) (by have i1 := kx_nlt c_1; have i2 := kx_nle c_2; have i3 := kx_rng (a1); have i4 : (0 : Int32).toInt = 0 := (by decide); have i5 := kx_rng (length); omega)) dX0_at_17 ?_
      refine lv_sipush (v := 255) hx hb dX0_at_18 (by decide) ?_
      refine lv_iand hx hb dX0_at_21 ?_
      refine lv_goto (tgt := 26) hx hb dX0_at_22 (by decide) ?_
      subst hu
      exact k_iret hx hb hr hlocks hP hD hS rfl rfl dX0_at_26

def f_X1_spanBits (a0 : Int32) (a1 : Int32) (a2 : Int32) : Int64 := (if a0 ≤ (a2 * 64) then (if ((a2 * 64) + 64) ≤ a1 then (((((-1) : Int64).toUInt64 >>> ((((63 - 63) + 0) : Int32).toInt64.toUInt64 &&& Int64.toUInt64 63)).toInt64) <<< ((0 : Int32).toInt64 &&& 63)) else (if (0 : Int32) ≤ (a1 - (a2 * 64)) then (((((-1) : Int64).toUInt64 >>> (((63 - (a1 - (a2 * 64))) + 0).toInt64.toUInt64 &&& Int64.toUInt64 63)).toInt64) <<< ((0 : Int32).toInt64 &&& 63)) else 0)) else (if ((a2 * 64) + 64) ≤ a1 then (if (a0 - (a2 * 64)) ≤ 63 then (((((-1) : Int64).toUInt64 >>> (((63 - 63) + (a0 - (a2 * 64))).toInt64.toUInt64 &&& Int64.toUInt64 63)).toInt64) <<< ((a0 - (a2 * 64)).toInt64 &&& 63)) else 0) else (if (a0 - (a2 * 64)) ≤ (a1 - (a2 * 64)) then (((((-1) : Int64).toUInt64 >>> (((63 - (a1 - (a2 * 64))) + (a0 - (a2 * 64))).toInt64.toUInt64 &&& Int64.toUInt64 63)).toInt64) <<< ((a0 - (a2 * 64)).toInt64 &&& 63)) else 0)))
abbrev rm_X1_spanBits : Room := { frames := 0, cells := 0, slots := 0, locals := 0 }
set_option maxHeartbeats 4000000 in
set_option maxRecDepth 100000 in
theorem c_X1_spanBits (l : Launch) (DD : va_G) (aC : Nat → ClassId) (tt : Nat → Nat) (a0 : Int32) (a1 : Int32) (a2 : Int32) (u : Int64) (hu : u = f_X1_spanBits a0 a1 a2) : kM l yX1_spanBits wsX1_spanBits rm_X1_spanBits DD aC tt [.int a0, .int a1, .int a2] [] (some (.long u)) [] := by
  refine k_start (cc := cX1_spanBits) (maxL := 6) (ret := (some .long)) (own := RX1) (lv0 := [(0, .int a0), (1, .int a1), (2, .int a2)]) (by decide) rfl rfl (Nat.le_of_ble_eq_true rfl) rfl (fun p e s m below meth c A ls X hP hD hS hl => ?_)
  obtain ⟨hx, hb, hr, hml, hts, hown, hlocks, hA, hE⟩ := id X
  unfold f_X1_spanBits at hu
  refine lv_iload_n hx hb dX1_spanBits_0 rfl (lv_at hl 2 rfl) ?_
  refine lv_bipush (v := 64) hx hb dX1_spanBits_1 (by decide) ?_
  refine lv_imul hx hb dX1_spanBits_3 ?_
  refine lv_istore_n (lv' := [(3, .int (a2 * 64)), (0, .int a0), (1, .int a1), (2, .int a2)]) hx hb dX1_spanBits_4 rfl hl (by decide) rfl (fun ls hl => ?_)
  refine lv_iload_n hx hb dX1_spanBits_5 rfl (lv_at hl 1 rfl) ?_
  refine lv_iload_n hx hb dX1_spanBits_6 rfl (lv_at hl 0 rfl) ?_
  refine lv_icmp_le (tgt := 16) hx hb dX1_spanBits_7 (by decide) (fun c_1 => ?_) (fun c_1 => ?_)
  · replace hu := hu.trans (if_pos c_1)
    refine lv_iconst (v := 0) hx hb dX1_spanBits_16 (by decide) ?_
    refine lv_istore (lv' := [(4, .int 0), (3, .int (a2 * 64)), (0, .int a0), (1, .int a1), (2, .int a2)]) hx hb dX1_spanBits_17 hl (by decide) rfl (fun ls hl => ?_)
    refine lv_iload_n hx hb dX1_spanBits_19 rfl (lv_at hl 3 rfl) ?_
    refine lv_iload_n hx hb dX1_spanBits_20 rfl (lv_at hl 1 rfl) ?_
    refine lv_bipush (v := 64) hx hb dX1_spanBits_21 (by decide) ?_
    refine lv_iadd hx hb dX1_spanBits_23 ?_
    refine lv_icmp_ge (tgt := 33) hx hb dX1_spanBits_24 (by decide) (fun c_2 => ?_) (fun c_2 => ?_)
    · replace hu := hu.trans (if_pos c_2)
      refine lv_bipush (v := 63) hx hb dX1_spanBits_33 (by decide) ?_
      refine lv_istore (lv' := [(5, .int 63), (4, .int 0), (3, .int (a2 * 64)), (0, .int a0), (1, .int a1), (2, .int a2)]) hx hb dX1_spanBits_35 hl (by decide) rfl (fun ls hl => ?_)
      refine lv_iload hx hb dX1_spanBits_37 (lv_at hl 1 rfl) ?_
      refine lv_iload hx hb dX1_spanBits_39 (lv_at hl 0 rfl) ?_
      refine lv_icmp_le (tgt := 46) hx hb dX1_spanBits_41 (by decide) (fun _ => ?_) (fun h => absurd (by decide) h)
      refine lv_ldc2 hx hb hown (hts (.constantLong "TextPatterns$Sets" 66 (-1)) (List.mem_cons_of_mem _ w_301)) dX1_spanBits_46 ?_
      refine lv_bipush (v := 63) hx hb dX1_spanBits_49 (by decide) ?_
      refine lv_iload hx hb dX1_spanBits_51 (lv_at hl 0 rfl) ?_
      refine lv_isub hx hb dX1_spanBits_53 ?_
      refine lv_iload hx hb dX1_spanBits_54 (lv_at hl 1 rfl) ?_
      refine lv_iadd hx hb dX1_spanBits_56 ?_
      refine lv_lushr (v := (((-1) : Int64).toUInt64 >>> ((((63 - 63) + 0) : Int32).toInt64.toUInt64 &&& Int64.toUInt64 63)).toInt64) hx hb dX1_spanBits_57 rfl ?_
      refine lv_iload hx hb dX1_spanBits_58 (lv_at hl 1 rfl) ?_
      refine lv_lshl (v := ((((-1) : Int64).toUInt64 >>> ((((63 - 63) + 0) : Int32).toInt64.toUInt64 &&& Int64.toUInt64 63)).toInt64) <<< ((0 : Int32).toInt64 &&& 63)) hx hb dX1_spanBits_60 rfl ?_
      subst hu
      exact k_lret hx hb hr hlocks hP hD hS rfl rfl dX1_spanBits_61
    · replace hu := hu.trans (if_neg c_2)
      refine lv_iload_n hx hb dX1_spanBits_27 rfl (lv_at hl 3 rfl) ?_
      refine lv_iload_n hx hb dX1_spanBits_28 rfl (lv_at hl 1 rfl) ?_
      refine lv_isub hx hb dX1_spanBits_29 ?_
      refine lv_goto (tgt := 35) hx hb dX1_spanBits_30 (by decide) ?_
      refine lv_istore (lv' := [(5, .int (a1 - (a2 * 64))), (4, .int 0), (3, .int (a2 * 64)), (0, .int a0), (1, .int a1), (2, .int a2)]) hx hb dX1_spanBits_35 hl (by decide) rfl (fun ls hl => ?_)
      refine lv_iload hx hb dX1_spanBits_37 (lv_at hl 1 rfl) ?_
      refine lv_iload hx hb dX1_spanBits_39 (lv_at hl 0 rfl) ?_
      refine lv_icmp_le (tgt := 46) hx hb dX1_spanBits_41 (by decide) (fun c_3 => ?_) (fun c_3 => ?_)
      · replace hu := hu.trans (if_pos c_3)
        refine lv_ldc2 hx hb hown (hts (.constantLong "TextPatterns$Sets" 66 (-1)) (List.mem_cons_of_mem _ w_301)) dX1_spanBits_46 ?_
        refine lv_bipush (v := 63) hx hb dX1_spanBits_49 (by decide) ?_
        refine lv_iload hx hb dX1_spanBits_51 (lv_at hl 0 rfl) ?_
        refine lv_isub hx hb dX1_spanBits_53 ?_
        refine lv_iload hx hb dX1_spanBits_54 (lv_at hl 1 rfl) ?_
        refine lv_iadd hx hb dX1_spanBits_56 ?_
        refine lv_lushr (v := (((-1) : Int64).toUInt64 >>> (((63 - (a1 - (a2 * 64))) + 0).toInt64.toUInt64 &&& Int64.toUInt64 63)).toInt64) hx hb dX1_spanBits_57 rfl ?_
        refine lv_iload hx hb dX1_spanBits_58 (lv_at hl 1 rfl) ?_
        refine lv_lshl (v := ((((-1) : Int64).toUInt64 >>> (((63 - (a1 - (a2 * 64))) + 0).toInt64.toUInt64 &&& Int64.toUInt64 63)).toInt64) <<< ((0 : Int32).toInt64 &&& 63)) hx hb dX1_spanBits_60 rfl ?_
        subst hu
        exact k_lret hx hb hr hlocks hP hD hS rfl rfl dX1_spanBits_61
      · replace hu := hu.trans (if_neg c_3)
        refine lv_lconst (v := 0) hx hb dX1_spanBits_44 (by decide) ?_
        subst hu
        exact k_lret hx hb hr hlocks hP hD hS rfl rfl dX1_spanBits_45
  · replace hu := hu.trans (if_neg c_1)
    refine lv_iload_n hx hb dX1_spanBits_10 rfl (lv_at hl 1 rfl) ?_
    refine lv_iload_n hx hb dX1_spanBits_11 rfl (lv_at hl 0 rfl) ?_
    refine lv_isub hx hb dX1_spanBits_12 ?_
    refine lv_goto (tgt := 17) hx hb dX1_spanBits_13 (by decide) ?_
    refine lv_istore (lv' := [(4, .int (a0 - (a2 * 64))), (3, .int (a2 * 64)), (0, .int a0), (1, .int a1), (2, .int a2)]) hx hb dX1_spanBits_17 hl (by decide) rfl (fun ls hl => ?_)
    refine lv_iload_n hx hb dX1_spanBits_19 rfl (lv_at hl 3 rfl) ?_
    refine lv_iload_n hx hb dX1_spanBits_20 rfl (lv_at hl 1 rfl) ?_
    refine lv_bipush (v := 64) hx hb dX1_spanBits_21 (by decide) ?_
    refine lv_iadd hx hb dX1_spanBits_23 ?_
    refine lv_icmp_ge (tgt := 33) hx hb dX1_spanBits_24 (by decide) (fun c_4 => ?_) (fun c_4 => ?_)
    · replace hu := hu.trans (if_pos c_4)
      refine lv_bipush (v := 63) hx hb dX1_spanBits_33 (by decide) ?_
      refine lv_istore (lv' := [(5, .int 63), (4, .int (a0 - (a2 * 64))), (3, .int (a2 * 64)), (0, .int a0), (1, .int a1), (2, .int a2)]) hx hb dX1_spanBits_35 hl (by decide) rfl (fun ls hl => ?_)
      refine lv_iload hx hb dX1_spanBits_37 (lv_at hl 1 rfl) ?_
      refine lv_iload hx hb dX1_spanBits_39 (lv_at hl 0 rfl) ?_
      refine lv_icmp_le (tgt := 46) hx hb dX1_spanBits_41 (by decide) (fun c_5 => ?_) (fun c_5 => ?_)
      · replace hu := hu.trans (if_pos c_5)
        refine lv_ldc2 hx hb hown (hts (.constantLong "TextPatterns$Sets" 66 (-1)) (List.mem_cons_of_mem _ w_301)) dX1_spanBits_46 ?_
        refine lv_bipush (v := 63) hx hb dX1_spanBits_49 (by decide) ?_
        refine lv_iload hx hb dX1_spanBits_51 (lv_at hl 0 rfl) ?_
        refine lv_isub hx hb dX1_spanBits_53 ?_
        refine lv_iload hx hb dX1_spanBits_54 (lv_at hl 1 rfl) ?_
        refine lv_iadd hx hb dX1_spanBits_56 ?_
        refine lv_lushr (v := (((-1) : Int64).toUInt64 >>> (((63 - 63) + (a0 - (a2 * 64))).toInt64.toUInt64 &&& Int64.toUInt64 63)).toInt64) hx hb dX1_spanBits_57 rfl ?_
        refine lv_iload hx hb dX1_spanBits_58 (lv_at hl 1 rfl) ?_
        refine lv_lshl (v := ((((-1) : Int64).toUInt64 >>> (((63 - 63) + (a0 - (a2 * 64))).toInt64.toUInt64 &&& Int64.toUInt64 63)).toInt64) <<< ((a0 - (a2 * 64)).toInt64 &&& 63)) hx hb dX1_spanBits_60 rfl ?_
        subst hu
        exact k_lret hx hb hr hlocks hP hD hS rfl rfl dX1_spanBits_61
      · replace hu := hu.trans (if_neg c_5)
        refine lv_lconst (v := 0) hx hb dX1_spanBits_44 (by decide) ?_
        subst hu
        exact k_lret hx hb hr hlocks hP hD hS rfl rfl dX1_spanBits_45
    · replace hu := hu.trans (if_neg c_4)
      refine lv_iload_n hx hb dX1_spanBits_27 rfl (lv_at hl 3 rfl) ?_
      refine lv_iload_n hx hb dX1_spanBits_28 rfl (lv_at hl 1 rfl) ?_
      refine lv_isub hx hb dX1_spanBits_29 ?_
      refine lv_goto (tgt := 35) hx hb dX1_spanBits_30 (by decide) ?_
      refine lv_istore (lv' := [(5, .int (a1 - (a2 * 64))), (4, .int (a0 - (a2 * 64))), (3, .int (a2 * 64)), (0, .int a0), (1, .int a1), (2, .int a2)]) hx hb dX1_spanBits_35 hl (by decide) rfl (fun ls hl => ?_)
      refine lv_iload hx hb dX1_spanBits_37 (lv_at hl 1 rfl) ?_
      refine lv_iload hx hb dX1_spanBits_39 (lv_at hl 0 rfl) ?_
      refine lv_icmp_le (tgt := 46) hx hb dX1_spanBits_41 (by decide) (fun c_6 => ?_) (fun c_6 => ?_)
      · replace hu := hu.trans (if_pos c_6)
        refine lv_ldc2 hx hb hown (hts (.constantLong "TextPatterns$Sets" 66 (-1)) (List.mem_cons_of_mem _ w_301)) dX1_spanBits_46 ?_
        refine lv_bipush (v := 63) hx hb dX1_spanBits_49 (by decide) ?_
        refine lv_iload hx hb dX1_spanBits_51 (lv_at hl 0 rfl) ?_
        refine lv_isub hx hb dX1_spanBits_53 ?_
        refine lv_iload hx hb dX1_spanBits_54 (lv_at hl 1 rfl) ?_
        refine lv_iadd hx hb dX1_spanBits_56 ?_
        refine lv_lushr (v := (((-1) : Int64).toUInt64 >>> (((63 - (a1 - (a2 * 64))) + (a0 - (a2 * 64))).toInt64.toUInt64 &&& Int64.toUInt64 63)).toInt64) hx hb dX1_spanBits_57 rfl ?_
        refine lv_iload hx hb dX1_spanBits_58 (lv_at hl 1 rfl) ?_
        refine lv_lshl (v := ((((-1) : Int64).toUInt64 >>> (((63 - (a1 - (a2 * 64))) + (a0 - (a2 * 64))).toInt64.toUInt64 &&& Int64.toUInt64 63)).toInt64) <<< ((a0 - (a2 * 64)).toInt64 &&& 63)) hx hb dX1_spanBits_60 rfl ?_
        subst hu
        exact k_lret hx hb hr hlocks hP hD hS rfl rfl dX1_spanBits_61
      · replace hu := hu.trans (if_neg c_6)
        refine lv_lconst (v := 0) hx hb dX1_spanBits_44 (by decide) ?_
        subst hu
        exact k_lret hx hb hr hlocks hP hD hS rfl rfl dX1_spanBits_45
def f_X1_holds (n : Nat) (words : Nat → Int64) (a1 : Int32) (a2 : Int32) : Int32 := (if a2 < 0 then 0 else (if (255 : Int32) < a2 then 0 else (if ((4 * a1) + (a2 / 64)) < 0 then 0 else (if ((4 * a1) + (a2 / 64)) < (nI n) then (if (lg_cmp ((((words ((4 * a1) + (a2 / 64)).toNatClampNeg).toUInt64 >>> ((a2 - a2 / 64 * 64).toInt64.toUInt64 &&& Int64.toUInt64 63)).toInt64) &&& 1) 0) = 0 then 0 else 1) else 0))))
set_option maxHeartbeats 4000000 in
theorem pf_X1_holds {n : Nat} {words : Nat → Int64} {a1 : Int32} {a2 : Int32} (hn_n : n < 1073741824) {u : Int32} (hu : u = f_X1_holds n words a1 a2) : (u = 0 ∨ u = 1) := by
  unfold f_X1_holds at hu
  rcases Classical.em (a2 < 0) with c_1 | c_1
  · replace hu := hu.trans (if_pos c_1)
    rw [hu]
    exact show ((0 : Int32) = 0 ∨ (0 : Int32) = 1) from (Or.inl rfl)
  · replace hu := hu.trans (if_neg c_1)
    rcases Classical.em ((255 : Int32) < a2) with c_2 | c_2
    · replace hu := hu.trans (if_pos c_2)
      rw [hu]
      exact show ((0 : Int32) = 0 ∨ (0 : Int32) = 1) from (Or.inl rfl)
    · replace hu := hu.trans (if_neg c_2)
      rcases Classical.em (((4 * a1) + (a2 / 64)) < 0) with c_3 | c_3
      · replace hu := hu.trans (if_pos c_3)
        rw [hu]
        exact show ((0 : Int32) = 0 ∨ (0 : Int32) = 1) from (Or.inl rfl)
      · replace hu := hu.trans (if_neg c_3)
        rcases Classical.em (((4 * a1) + (a2 / 64)) < (nI n)) with c_4 | c_4
        · replace hu := hu.trans (if_pos c_4)
          rcases Classical.em ((lg_cmp ((((words ((4 * a1) + (a2 / 64)).toNatClampNeg).toUInt64 >>> ((a2 - a2 / 64 * 64).toInt64.toUInt64 &&& Int64.toUInt64 63)).toInt64) &&& 1) 0) = 0) with c_5 | c_5
          · replace hu := hu.trans (if_pos c_5)
            rw [hu]
            exact show ((0 : Int32) = 0 ∨ (0 : Int32) = 1) from (Or.inl rfl)
          · replace hu := hu.trans (if_neg c_5)
            rw [hu]
            exact show ((1 : Int32) = 0 ∨ (1 : Int32) = 1) from (Or.inr rfl)
        · replace hu := hu.trans (if_neg c_4)
          rw [hu]
          exact show ((0 : Int32) = 0 ∨ (0 : Int32) = 1) from (Or.inl rfl)
abbrev rm_X1_holds : Room := { frames := 0, cells := 0, slots := 0, locals := 0 }
set_option maxHeartbeats 4000000 in
set_option maxRecDepth 100000 in
theorem c_X1_holds (l : Launch) (DD : va_G) (aC : Nat → ClassId) (tt : Nat → Nat) (q0 q1 n : Nat) (words : Nat → Int64) (a1 : Int32) (a2 : Int32) (hn_n : n < 1073741824) (u : Int32) (hu : u = f_X1_holds n words a1 a2) : kM l yX1_holds wsX1_holds rm_X1_holds DD aC tt [.ref q0, .int a1, .int a2] [(q0, .inr (1, [.ref q1])), (q1, .inl (aC 2, n, .inr (.inl words)))] (some (.int u)) [(q0, .inr (1, [.ref q1])), (q1, .inl (aC 2, n, .inr (.inl words)))] := by
  refine k_start (cc := cX1_holds) (maxL := 4) (ret := (some .boolean)) (own := RX1) (lv0 := [(0, .ref q0), (1, .int a1), (2, .int a2)]) (by decide) rfl rfl (Nat.le_of_ble_eq_true rfl) rfl (fun p e s m below meth c A ls X hP hD hS hl => ?_)
  obtain ⟨hx, hb, hr, hml, hts, hown, hlocks, hA, hE⟩ := id X
  unfold f_X1_holds at hu
  refine lv_iconst (v := 4) hx hb dX1_holds_0 (by decide) ?_
  refine lv_iload_n hx hb dX1_holds_1 rfl (lv_at hl 1 rfl) ?_
  refine lv_imul hx hb dX1_holds_2 ?_
  refine lv_iload_n hx hb dX1_holds_3 rfl (lv_at hl 2 rfl) ?_
  refine lv_bipush (v := 64) hx hb dX1_holds_4 (by decide) ?_
  refine lv_idiv hx hb dX1_holds_6 (by decide) ?_
  refine lv_iadd hx hb dX1_holds_7 ?_
  refine lv_istore_n (lv' := [(3, .int ((4 * a1) + (a2 / 64))), (0, .ref q0), (1, .int a1), (2, .int a2)]) hx hb dX1_holds_8 rfl hl (by decide) rfl (fun ls hl => ?_)
  refine lv_iload_n hx hb dX1_holds_9 rfl (lv_at hl 3 rfl) ?_
  refine lv_if_lt (tgt := 33) hx hb dX1_holds_10 (by decide) (fun c_1 => ?_) (fun c_1 => ?_)
  · replace hu := hu.trans (if_pos c_1)
    refine lv_iconst (v := 0) hx hb dX1_holds_33 (by decide) ?_
    subst hu
    exact k_zret hx hb hr (by decide) hlocks hP hD hS rfl rfl dX1_holds_34
  · replace hu := hu.trans (if_neg c_1)
    refine lv_iload_n hx hb dX1_holds_13 rfl (lv_at hl 3 rfl) ?_
    refine lv_sipush (v := 255) hx hb dX1_holds_14 (by decide) ?_
    refine lv_icmp_gt (tgt := 33) hx hb dX1_holds_17 (by decide) (fun c_2 => ?_) (fun c_2 => ?_)
    · replace hu := hu.trans (if_pos c_2)
      refine lv_iconst (v := 0) hx hb dX1_holds_33 (by decide) ?_
      subst hu
      exact k_zret hx hb hr (by decide) hlocks hP hD hS rfl rfl dX1_holds_34
    · replace hu := hu.trans (if_neg c_2)
      refine lv_iload_n hx hb dX1_holds_20 rfl (lv_at hl 0 rfl) ?_
      refine lv_if_lt (tgt := 33) hx hb dX1_holds_21 (by decide) (fun c_3 => ?_) (fun c_3 => ?_)
      · replace hu := hu.trans (if_pos c_3)
        refine lv_iconst (v := 0) hx hb dX1_holds_33 (by decide) ?_
        subst hu
        exact k_zret hx hb hr (by decide) hlocks hP hD hS rfl rfl dX1_holds_34
      · replace hu := hu.trans (if_neg c_3)
        refine lv_iload_n hx hb dX1_holds_24 rfl (lv_at hl 0 rfl) ?_
        refine lv_aload_n hx hb dX1_holds_25 rfl (lv_at hl 1 rfl) ?_
        refine va_get (D := DD) (ci := 1) (v := .ref q1) (C := RX1) (T := TX1) (N := 1) hx hb hts (fun w h => List.mem_cons_of_mem _ (inX1 w h)) hown hE.1 hP 0 rfl rfl 0 (by decide) (hts (.fieldLink "TextPatterns$Sets" 15 "TextPatterns$Sets" "words" "[J") (List.mem_cons_of_mem _ w_113)) (fun _ h9 => h9) rfl dX1_holds_26 ?_
        refine va_alen (v := nI n) hx hb hE.1 hP 1 2 rfl rfl rfl dX1_holds_29 ?_
        refine lv_icmp_lt (tgt := 35) hx hb dX1_holds_30 (by decide) (fun c_4 => ?_) (fun c_4 => ?_)
        · replace hu := hu.trans (if_pos c_4)
          refine lv_aload_n hx hb dX1_holds_35 rfl (lv_at hl 1 rfl) ?_
          refine va_get (D := DD) (ci := 1) (v := .ref q1) (C := RX1) (T := TX1) (N := 1) hx hb hts (fun w h => List.mem_cons_of_mem _ (inX1 w h)) hown hE.1 hP 0 rfl rfl 0 (by decide) (hts (.fieldLink "TextPatterns$Sets" 15 "TextPatterns$Sets" "words" "[J") (List.mem_cons_of_mem _ w_113)) (fun _ h9 => h9) rfl dX1_holds_36 ?_
          refine lv_iload_n hx hb dX1_holds_39 rfl (lv_at hl 0 rfl) ?_
          refine va_lald hx hb hE.1 hP 1 2 rfl rfl (kb_in (kb_nlt0 c_3) (by have i1 := kx_nlt c_1; have i2 := kx_nlt c_2; have i3 := kx_nlt c_3; have i4 := Int32.lt_iff_toInt_lt.mp c_4; have i5 := kx_rng ((4 * a1) + (a2 / 64)); have i6 := kx_rng (4 * a1); have i7 := kx_rng (a1); have i9 := kx_rng (a2 / 64); have i11 := kx_rng (a2); have i12 : (0 : Int32).toInt = 0 := (by decide); have i13 : (255 : Int32).toInt = 255 := (by decide); have i14 := nI_toInt (n := n) (by omega); first | omega | (have i8 := kx_mulK a1 (y := 4) (k := 4) (by decide); have i10 := kx_addD (4 * a1) (a2 / 64); omega))) dX1_holds_40 ?_
          refine lv_iload_n hx hb dX1_holds_41 rfl (lv_at hl 3 rfl) ?_
          refine lv_bipush (v := 64) hx hb dX1_holds_42 (by decide) ?_
          refine lv_irem hx hb dX1_holds_44 (by decide) ?_
          refine lv_lushr (v := ((words ((4 * a1) + (a2 / 64)).toNatClampNeg).toUInt64 >>> ((a2 - a2 / 64 * 64).toInt64.toUInt64 &&& Int64.toUInt64 63)).toInt64) hx hb dX1_holds_45 rfl ?_
          refine lv_lconst (v := 1) hx hb dX1_holds_46 (by decide) ?_
          refine lv_land hx hb dX1_holds_47 ?_
          refine lv_lconst (v := 0) hx hb dX1_holds_48 (by decide) ?_
          refine W.lcmp hx hb dX1_holds_49 ?_
          refine lv_if_eq (tgt := 57) hx hb dX1_holds_50 (by decide) (fun c_5 => ?_) (fun c_5 => ?_)
          · replace hu := hu.trans (if_pos c_5)
            refine lv_iconst (v := 0) hx hb dX1_holds_57 (by decide) ?_
            subst hu
            exact k_zret hx hb hr (by decide) hlocks hP hD hS rfl rfl dX1_holds_58
          · replace hu := hu.trans (if_neg c_5)
            refine lv_iconst (v := 1) hx hb dX1_holds_53 (by decide) ?_
            refine lv_goto (tgt := 58) hx hb dX1_holds_54 (by decide) ?_
            subst hu
            exact k_zret hx hb hr (by decide) hlocks hP hD hS rfl rfl dX1_holds_58
        · replace hu := hu.trans (if_neg c_4)
          refine lv_iconst (v := 0) hx hb dX1_holds_33 (by decide) ?_
          subst hu
          exact k_zret hx hb hr (by decide) hlocks hP hD hS rfl rfl dX1_holds_34
def f_X1_addBits (n : Nat) (words : Nat → Int64) (a1 : Int32) (a2 : Int32) (a3 : Int64) : (Nat → Int64) := (if ((4 * a1) + a2) < 0 then words else (if (nI n) ≤ ((4 * a1) + a2) then words else (vp_updL words ((4 * a1) + a2).toNatClampNeg ((words ((4 * a1) + a2).toNatClampNeg) ||| a3))))
abbrev rm_X1_addBits : Room := { frames := 0, cells := 0, slots := 0, locals := 0 }
set_option maxHeartbeats 4000000 in
set_option maxRecDepth 100000 in
theorem c_X1_addBits (l : Launch) (DD : va_G) (aC : Nat → ClassId) (tt : Nat → Nat) (q0 q1 n : Nat) (words : Nat → Int64) (a1 : Int32) (a2 : Int32) (a3 : Int64) (hn_n : n < 1073741824) (u : (Nat → Int64)) (hu : u = f_X1_addBits n words a1 a2 a3) : kM l yX1_addBits wsX1_addBits rm_X1_addBits DD aC tt [.ref q0, .int a1, .int a2, .long a3] [(q0, .inr (1, [.ref q1])), (q1, .inl (aC 2, n, .inr (.inl words)))] none [(q0, .inr (1, [.ref q1])), (q1, .inl (aC 2, n, .inr (.inl u)))] := by
  refine k_start (cc := cX1_addBits) (maxL := 6) (ret := none) (own := RX1) (lv0 := [(0, .ref q0), (1, .int a1), (2, .int a2), (3, .long a3)]) (by decide) rfl rfl (Nat.le_of_ble_eq_true rfl) rfl (fun p e s m below meth c A ls X hP hD hS hl => ?_)
  obtain ⟨hx, hb, hr, hml, hts, hown, hlocks, hA, hE⟩ := id X
  unfold f_X1_addBits at hu
  refine lv_iconst (v := 4) hx hb dX1_addBits_0 (by decide) ?_
  refine lv_iload_n hx hb dX1_addBits_1 rfl (lv_at hl 1 rfl) ?_
  refine lv_imul hx hb dX1_addBits_2 ?_
  refine lv_iload_n hx hb dX1_addBits_3 rfl (lv_at hl 2 rfl) ?_
  refine lv_iadd hx hb dX1_addBits_4 ?_
  refine lv_istore (lv' := [(5, .int ((4 * a1) + a2)), (0, .ref q0), (1, .int a1), (2, .int a2), (3, .long a3)]) hx hb dX1_addBits_5 hl (by decide) rfl (fun ls hl => ?_)
  refine lv_iload hx hb dX1_addBits_7 (lv_at hl 0 rfl) ?_
  refine lv_if_lt (tgt := 33) hx hb dX1_addBits_9 (by decide) (fun c_1 => ?_) (fun c_1 => ?_)
  · replace hu := hu.trans (if_pos c_1)
    subst hu
    exact k_vret hx hb hr hlocks hP hD hS rfl rfl dX1_addBits_33
  · replace hu := hu.trans (if_neg c_1)
    refine lv_iload hx hb dX1_addBits_12 (lv_at hl 0 rfl) ?_
    refine lv_aload_n hx hb dX1_addBits_14 rfl (lv_at hl 1 rfl) ?_
    refine va_get (D := DD) (ci := 1) (v := .ref q1) (C := RX1) (T := TX1) (N := 1) hx hb hts (fun w h => List.mem_cons_of_mem _ (inX1 w h)) hown hE.1 hP 0 rfl rfl 0 (by decide) (hts (.fieldLink "TextPatterns$Sets" 15 "TextPatterns$Sets" "words" "[J") (List.mem_cons_of_mem _ w_113)) (fun _ h9 => h9) rfl dX1_addBits_15 ?_
    refine va_alen (v := nI n) hx hb hE.1 hP 1 2 rfl rfl rfl dX1_addBits_18 ?_
    refine lv_icmp_ge (tgt := 33) hx hb dX1_addBits_19 (by decide) (fun c_2 => ?_) (fun c_2 => ?_)
    · replace hu := hu.trans (if_pos c_2)
      subst hu
      exact k_vret hx hb hr hlocks hP hD hS rfl rfl dX1_addBits_33
    · replace hu := hu.trans (if_neg c_2)
      refine lv_aload_n hx hb dX1_addBits_22 rfl (lv_at hl 1 rfl) ?_
      refine va_get (D := DD) (ci := 1) (v := .ref q1) (C := RX1) (T := TX1) (N := 1) hx hb hts (fun w h => List.mem_cons_of_mem _ (inX1 w h)) hown hE.1 hP 0 rfl rfl 0 (by decide) (hts (.fieldLink "TextPatterns$Sets" 15 "TextPatterns$Sets" "words" "[J") (List.mem_cons_of_mem _ w_113)) (fun _ h9 => h9) rfl dX1_addBits_23 ?_
      refine lv_iload hx hb dX1_addBits_26 (lv_at hl 0 rfl) ?_
      refine lv_dup2_11 hx hb dX1_addBits_28 rfl rfl ?_
      refine va_lald hx hb hE.1 hP 1 2 rfl rfl (kb_in (kb_nlt0 c_1) (kb_nleN hn_n c_2)) dX1_addBits_29 ?_
      refine lv_lload_n hx hb dX1_addBits_30 rfl (lv_at hl 4 rfl) ?_
      refine lv_lor hx hb dX1_addBits_31 ?_
      refine va_last hx hb hE.1 hP hD hS 1 2 rfl rfl (kb_in (kb_nlt0 c_1) (kb_nleN hn_n c_2)) dX1_addBits_32 (fun H locs hP hD hS => ?_)
      have hP : va_P DD vwCl [(q0, .inr (1, [.ref q1])), (q1, .inl (aC 2, n, .inr (.inl (vp_updL words ((4 * a1) + a2).toNatClampNeg ((words ((4 * a1) + a2).toNatClampNeg) ||| a3)))))] H := hP
      have hD : va_D A [(q0, .inr (1, [.ref q1])), (q1, .inl (aC 2, n, .inr (.inl (vp_updL words ((4 * a1) + a2).toNatClampNeg ((words ((4 * a1) + a2).toNatClampNeg) ||| a3)))))] := hD
      subst hu
      exact k_vret hx hb hr hlocks hP hD hS rfl rfl dX1_addBits_33
def f_X1_empty_L0 (k : Nat) (n : Nat) (words : Nat → Int64) (x1 : Int32) (x2 : Int32) : (Nat → Int64) := match k with
  | 0 => fun _ => 0
  | k + 1 => (if (4 : Int32) ≤ x2 then words else (if ((4 * x1) + x2) < 0 then (f_X1_empty_L0 k n words x1 (x2 + 1)) else (if (nI n) ≤ ((4 * x1) + x2) then (f_X1_empty_L0 k n words x1 (x2 + 1)) else (f_X1_empty_L0 k n (vp_updL words ((4 * x1) + x2).toNatClampNeg 0) x1 (x2 + 1)))))
theorem f_X1_empty_L0_s {k : Nat} {n : Nat} {words : Nat → Int64} {x1 : Int32} {x2 : Int32} : f_X1_empty_L0 (k + 1) n words x1 x2 = (if (4 : Int32) ≤ x2 then words else (if ((4 * x1) + x2) < 0 then (f_X1_empty_L0 k n words x1 (x2 + 1)) else (if (nI n) ≤ ((4 * x1) + x2) then (f_X1_empty_L0 k n words x1 (x2 + 1)) else (f_X1_empty_L0 k n (vp_updL words ((4 * x1) + x2).toNatClampNeg 0) x1 (x2 + 1))))) := rfl
def f_X1_empty (n : Nat) (words : Nat → Int64) (a1 : Int32) : (Nat → Int64) := (f_X1_empty_L0 (((4 : Int32).toInt - (0 : Int32).toInt).toNat + 1) n words a1 0)
abbrev rm_X1_empty : Room := { frames := 0, cells := 0, slots := 0, locals := 0 }
set_option maxHeartbeats 4000000 in
set_option maxRecDepth 100000 in
theorem t_X1_empty_L0 {l : Launch} {DD : va_G} {aC : Nat → ClassId} {tt : Nat → Nat} {p : Program} {e : Env} {s : State} {m : MethodId} {below : List Frame} {meth : Method} {c : Code} {A : Nat → Prop} {AV : Array Value} (X : kX p s m AV meth c cX1_empty none 4 wsX1_empty RX1 DD aC tt A) (q0 q1 n : Nat) (a1 : Int32) (hn_n : n < 1073741824) :
    ∀ (k : Nat) (words : Nat → Int64) (x1 : Int32) (x2 : Int32), ((4 : Int32).toInt - x2.toInt).toNat < k → ∀ (u : (Nat → Int64)), u = f_X1_empty_L0 k n words x1 x2 → ∀ (H : Heap) (locs : List Loc) (ls : Array Slot), va_P DD vwCl [(q0, .inr (1, [.ref q1])), (q1, .inl (aC 2, n, .inr (.inl words)))] H → va_D A [(q0, .inr (1, [.ref q1])), (q1, .inl (aC 2, n, .inr (.inl words)))] → va_S A s.heap H locs → lv_has ls 4 [(0, .ref q0), (1, .int x1), (2, .int x2)] → W p l e rm_X1_empty s m AV below meth c H locs 0 0 (MQ below (kQ DD vwCl none [(q0, .inr (1, [.ref q1])), (q1, .inl (aC 2, n, .inr (.inl u)))] A) AV s 0 0 A) (F0 m 2 ls []) := by
  obtain ⟨hx, hb, hr, hml, hts, hown, hlocks, hA, hE⟩ := id X
  intro k
  induction k with
  | zero =>
    intro words x1 x2 hk
    exact absurd hk (Nat.not_lt_zero _)
  | succ k ih =>
    intro words x1 x2 hk u hu H locs ls hP hD hS hl
    replace hu := hu.trans f_X1_empty_L0_s
    refine lv_iload_n hx hb dX1_empty_2 rfl (lv_at hl 2 rfl) ?_
    refine lv_iconst (v := 4) hx hb dX1_empty_3 (by decide) ?_
    refine lv_icmp_ge (tgt := 39) hx hb dX1_empty_4 (by decide) (fun c_1 => ?_) (fun c_1 => ?_)
    · replace hu := hu.trans (if_pos c_1)
      subst hu
      exact k_vret hx hb hr hlocks hP hD hS rfl rfl dX1_empty_39
    · replace hu := hu.trans (if_neg c_1)
      refine lv_iconst (v := 4) hx hb dX1_empty_7 (by decide) ?_
      refine lv_iload_n hx hb dX1_empty_8 rfl (lv_at hl 1 rfl) ?_
      refine lv_imul hx hb dX1_empty_9 ?_
      refine lv_iload_n hx hb dX1_empty_10 rfl (lv_at hl 2 rfl) ?_
      refine lv_iadd hx hb dX1_empty_11 ?_
      refine lv_istore_n (lv' := [(3, .int ((4 * x1) + x2)), (0, .ref q0), (1, .int x1), (2, .int x2)]) hx hb dX1_empty_12 rfl hl (by decide) rfl (fun ls hl => ?_)
      refine lv_iload_n hx hb dX1_empty_13 rfl (lv_at hl 0 rfl) ?_
      refine lv_if_lt (tgt := 33) hx hb dX1_empty_14 (by decide) (fun c_2 => ?_) (fun c_2 => ?_)
      · replace hu := hu.trans (if_pos c_2)
        refine lv_iinc (v := x2 + 1) (lv' := [(2, .int (x2 + 1)), (3, .int ((4 * x1) + x2)), (0, .ref q0), (1, .int x1)]) hx hb dX1_empty_33 hl (k := 3) rfl rfl (by decide) rfl (fun ls hl => ?_)
        refine lv_goto (tgt := 2) hx hb dX1_empty_36 (by decide) ?_
        exact ih words x1 (x2 + 1) (Nat.lt_of_lt_of_le (kmu_up c_1) (Nat.le_of_lt_succ hk)) u hu _ _ _ hP hD hS (lv_sub hl [2, 3, 0] rfl)
      · replace hu := hu.trans (if_neg c_2)
        refine lv_iload_n hx hb dX1_empty_17 rfl (lv_at hl 0 rfl) ?_
        refine lv_aload_n hx hb dX1_empty_18 rfl (lv_at hl 1 rfl) ?_
        refine va_get (D := DD) (ci := 1) (v := .ref q1) (C := RX1) (T := TX1) (N := 1) hx hb hts (fun w h => List.mem_cons_of_mem _ (inX1 w h)) hown hE.1 hP 0 rfl rfl 0 (by decide) (hts (.fieldLink "TextPatterns$Sets" 15 "TextPatterns$Sets" "words" "[J") (List.mem_cons_of_mem _ w_113)) (fun _ h9 => h9) rfl dX1_empty_19 ?_
        refine va_alen (v := nI n) hx hb hE.1 hP 1 2 rfl rfl rfl dX1_empty_22 ?_
        refine lv_icmp_ge (tgt := 33) hx hb dX1_empty_23 (by decide) (fun c_3 => ?_) (fun c_3 => ?_)
        · replace hu := hu.trans (if_pos c_3)
          refine lv_iinc (v := x2 + 1) (lv' := [(2, .int (x2 + 1)), (3, .int ((4 * x1) + x2)), (0, .ref q0), (1, .int x1)]) hx hb dX1_empty_33 hl (k := 3) rfl rfl (by decide) rfl (fun ls hl => ?_)
          refine lv_goto (tgt := 2) hx hb dX1_empty_36 (by decide) ?_
          exact ih words x1 (x2 + 1) (Nat.lt_of_lt_of_le (kmu_up c_1) (Nat.le_of_lt_succ hk)) u hu _ _ _ hP hD hS (lv_sub hl [2, 3, 0] rfl)
        · replace hu := hu.trans (if_neg c_3)
          refine lv_aload_n hx hb dX1_empty_26 rfl (lv_at hl 1 rfl) ?_
          refine va_get (D := DD) (ci := 1) (v := .ref q1) (C := RX1) (T := TX1) (N := 1) hx hb hts (fun w h => List.mem_cons_of_mem _ (inX1 w h)) hown hE.1 hP 0 rfl rfl 0 (by decide) (hts (.fieldLink "TextPatterns$Sets" 15 "TextPatterns$Sets" "words" "[J") (List.mem_cons_of_mem _ w_113)) (fun _ h9 => h9) rfl dX1_empty_27 ?_
          refine lv_iload_n hx hb dX1_empty_30 rfl (lv_at hl 0 rfl) ?_
          refine lv_lconst (v := 0) hx hb dX1_empty_31 (by decide) ?_
          refine va_last hx hb hE.1 hP hD hS 1 2 rfl rfl (kb_in (kb_nlt0 c_2) (kb_nleN hn_n c_3)) dX1_empty_32 (fun H locs hP hD hS => ?_)
          have hP : va_P DD vwCl [(q0, .inr (1, [.ref q1])), (q1, .inl (aC 2, n, .inr (.inl (vp_updL words ((4 * x1) + x2).toNatClampNeg 0))))] H := hP
          have hD : va_D A [(q0, .inr (1, [.ref q1])), (q1, .inl (aC 2, n, .inr (.inl (vp_updL words ((4 * x1) + x2).toNatClampNeg 0))))] := hD
          refine lv_iinc (v := x2 + 1) (lv' := [(2, .int (x2 + 1)), (3, .int ((4 * x1) + x2)), (0, .ref q0), (1, .int x1)]) hx hb dX1_empty_33 hl (k := 3) rfl rfl (by decide) rfl (fun ls hl => ?_)
          refine lv_goto (tgt := 2) hx hb dX1_empty_36 (by decide) ?_
          exact ih (vp_updL words ((4 * x1) + x2).toNatClampNeg 0) x1 (x2 + 1) (Nat.lt_of_lt_of_le (kmu_up c_1) (Nat.le_of_lt_succ hk)) u hu _ _ _ hP hD hS (lv_sub hl [2, 3, 0] rfl)
set_option maxHeartbeats 4000000 in
set_option maxRecDepth 100000 in
theorem c_X1_empty (l : Launch) (DD : va_G) (aC : Nat → ClassId) (tt : Nat → Nat) (q0 q1 n : Nat) (words : Nat → Int64) (a1 : Int32) (hn_n : n < 1073741824) (u : (Nat → Int64)) (hu : u = f_X1_empty n words a1) : kM l yX1_empty wsX1_empty rm_X1_empty DD aC tt [.ref q0, .int a1] [(q0, .inr (1, [.ref q1])), (q1, .inl (aC 2, n, .inr (.inl words)))] none [(q0, .inr (1, [.ref q1])), (q1, .inl (aC 2, n, .inr (.inl u)))] := by
  refine k_start (cc := cX1_empty) (maxL := 4) (ret := none) (own := RX1) (lv0 := [(0, .ref q0), (1, .int a1)]) (by decide) rfl rfl (Nat.le_of_ble_eq_true rfl) rfl (fun p e s m below meth c A ls X hP hD hS hl => ?_)
  obtain ⟨hx, hb, hr, hml, hts, hown, hlocks, hA, hE⟩ := id X
  unfold f_X1_empty at hu
  refine lv_iconst (v := 0) hx hb dX1_empty_0 (by decide) ?_
  refine lv_istore_n (lv' := [(2, .int 0), (0, .ref q0), (1, .int a1)]) hx hb dX1_empty_1 rfl hl (by decide) rfl (fun ls hl => ?_)
  exact t_X1_empty_L0 X q0 q1 n a1 hn_n (((4 : Int32).toInt - (0 : Int32).toInt).toNat + 1) words a1 0 (Nat.lt_succ_self _) u hu _ _ _ hP hD hS (lv_sub hl [1, 2, 0] rfl)
def f_X1_turn_L0 (k : Nat) (n : Nat) (words : Nat → Int64) (x1 : Int32) (x2 : Int32) : (Nat → Int64) := match k with
  | 0 => fun _ => 0
  | k + 1 => (if (4 : Int32) ≤ x2 then words else (if ((4 * x1) + x2) < 0 then (f_X1_turn_L0 k n words x1 (x2 + 1)) else (if (nI n) ≤ ((4 * x1) + x2) then (f_X1_turn_L0 k n words x1 (x2 + 1)) else (f_X1_turn_L0 k n (vp_updL words ((4 * x1) + x2).toNatClampNeg ((words ((4 * x1) + x2).toNatClampNeg) ^^^ (-1))) x1 (x2 + 1)))))
theorem f_X1_turn_L0_s {k : Nat} {n : Nat} {words : Nat → Int64} {x1 : Int32} {x2 : Int32} : f_X1_turn_L0 (k + 1) n words x1 x2 = (if (4 : Int32) ≤ x2 then words else (if ((4 * x1) + x2) < 0 then (f_X1_turn_L0 k n words x1 (x2 + 1)) else (if (nI n) ≤ ((4 * x1) + x2) then (f_X1_turn_L0 k n words x1 (x2 + 1)) else (f_X1_turn_L0 k n (vp_updL words ((4 * x1) + x2).toNatClampNeg ((words ((4 * x1) + x2).toNatClampNeg) ^^^ (-1))) x1 (x2 + 1))))) := rfl
def f_X1_turn (n : Nat) (words : Nat → Int64) (a1 : Int32) : (Nat → Int64) := (f_X1_turn_L0 (((4 : Int32).toInt - (0 : Int32).toInt).toNat + 1) n words a1 0)
abbrev rm_X1_turn : Room := { frames := 0, cells := 0, slots := 0, locals := 0 }
set_option maxHeartbeats 4000000 in
set_option maxRecDepth 100000 in
theorem t_X1_turn_L0 {l : Launch} {DD : va_G} {aC : Nat → ClassId} {tt : Nat → Nat} {p : Program} {e : Env} {s : State} {m : MethodId} {below : List Frame} {meth : Method} {c : Code} {A : Nat → Prop} {AV : Array Value} (X : kX p s m AV meth c cX1_turn none 4 wsX1_turn RX1 DD aC tt A) (q0 q1 n : Nat) (a1 : Int32) (hn_n : n < 1073741824) :
    ∀ (k : Nat) (words : Nat → Int64) (x1 : Int32) (x2 : Int32), ((4 : Int32).toInt - x2.toInt).toNat < k → ∀ (u : (Nat → Int64)), u = f_X1_turn_L0 k n words x1 x2 → ∀ (H : Heap) (locs : List Loc) (ls : Array Slot), va_P DD vwCl [(q0, .inr (1, [.ref q1])), (q1, .inl (aC 2, n, .inr (.inl words)))] H → va_D A [(q0, .inr (1, [.ref q1])), (q1, .inl (aC 2, n, .inr (.inl words)))] → va_S A s.heap H locs → lv_has ls 4 [(0, .ref q0), (1, .int x1), (2, .int x2)] → W p l e rm_X1_turn s m AV below meth c H locs 0 0 (MQ below (kQ DD vwCl none [(q0, .inr (1, [.ref q1])), (q1, .inl (aC 2, n, .inr (.inl u)))] A) AV s 0 0 A) (F0 m 2 ls []) := by
  obtain ⟨hx, hb, hr, hml, hts, hown, hlocks, hA, hE⟩ := id X
  intro k
  induction k with
  | zero =>
    intro words x1 x2 hk
    exact absurd hk (Nat.not_lt_zero _)
  | succ k ih =>
    intro words x1 x2 hk u hu H locs ls hP hD hS hl
    replace hu := hu.trans f_X1_turn_L0_s
    refine lv_iload_n hx hb dX1_turn_2 rfl (lv_at hl 2 rfl) ?_
    refine lv_iconst (v := 4) hx hb dX1_turn_3 (by decide) ?_
    refine lv_icmp_ge (tgt := 48) hx hb dX1_turn_4 (by decide) (fun c_1 => ?_) (fun c_1 => ?_)
    · replace hu := hu.trans (if_pos c_1)
      subst hu
      exact k_vret hx hb hr hlocks hP hD hS rfl rfl dX1_turn_48
    · replace hu := hu.trans (if_neg c_1)
      refine lv_iconst (v := 4) hx hb dX1_turn_7 (by decide) ?_
      refine lv_iload_n hx hb dX1_turn_8 rfl (lv_at hl 1 rfl) ?_
      refine lv_imul hx hb dX1_turn_9 ?_
      refine lv_iload_n hx hb dX1_turn_10 rfl (lv_at hl 2 rfl) ?_
      refine lv_iadd hx hb dX1_turn_11 ?_
      refine lv_istore_n (lv' := [(3, .int ((4 * x1) + x2)), (0, .ref q0), (1, .int x1), (2, .int x2)]) hx hb dX1_turn_12 rfl hl (by decide) rfl (fun ls hl => ?_)
      refine lv_iload_n hx hb dX1_turn_13 rfl (lv_at hl 0 rfl) ?_
      refine lv_if_lt (tgt := 42) hx hb dX1_turn_14 (by decide) (fun c_2 => ?_) (fun c_2 => ?_)
      · replace hu := hu.trans (if_pos c_2)
        refine lv_iinc (v := x2 + 1) (lv' := [(2, .int (x2 + 1)), (3, .int ((4 * x1) + x2)), (0, .ref q0), (1, .int x1)]) hx hb dX1_turn_42 hl (k := 3) rfl rfl (by decide) rfl (fun ls hl => ?_)
        refine lv_goto (tgt := 2) hx hb dX1_turn_45 (by decide) ?_
        exact ih words x1 (x2 + 1) (Nat.lt_of_lt_of_le (kmu_up c_1) (Nat.le_of_lt_succ hk)) u hu _ _ _ hP hD hS (lv_sub hl [2, 3, 0] rfl)
      · replace hu := hu.trans (if_neg c_2)
        refine lv_iload_n hx hb dX1_turn_17 rfl (lv_at hl 0 rfl) ?_
        refine lv_aload_n hx hb dX1_turn_18 rfl (lv_at hl 1 rfl) ?_
        refine va_get (D := DD) (ci := 1) (v := .ref q1) (C := RX1) (T := TX1) (N := 1) hx hb hts (fun w h => List.mem_cons_of_mem _ (inX1 w h)) hown hE.1 hP 0 rfl rfl 0 (by decide) (hts (.fieldLink "TextPatterns$Sets" 15 "TextPatterns$Sets" "words" "[J") (List.mem_cons_of_mem _ w_113)) (fun _ h9 => h9) rfl dX1_turn_19 ?_
        refine va_alen (v := nI n) hx hb hE.1 hP 1 2 rfl rfl rfl dX1_turn_22 ?_
        refine lv_icmp_ge (tgt := 42) hx hb dX1_turn_23 (by decide) (fun c_3 => ?_) (fun c_3 => ?_)
        · replace hu := hu.trans (if_pos c_3)
          refine lv_iinc (v := x2 + 1) (lv' := [(2, .int (x2 + 1)), (3, .int ((4 * x1) + x2)), (0, .ref q0), (1, .int x1)]) hx hb dX1_turn_42 hl (k := 3) rfl rfl (by decide) rfl (fun ls hl => ?_)
          refine lv_goto (tgt := 2) hx hb dX1_turn_45 (by decide) ?_
          exact ih words x1 (x2 + 1) (Nat.lt_of_lt_of_le (kmu_up c_1) (Nat.le_of_lt_succ hk)) u hu _ _ _ hP hD hS (lv_sub hl [2, 3, 0] rfl)
        · replace hu := hu.trans (if_neg c_3)
          refine lv_aload_n hx hb dX1_turn_26 rfl (lv_at hl 1 rfl) ?_
          refine va_get (D := DD) (ci := 1) (v := .ref q1) (C := RX1) (T := TX1) (N := 1) hx hb hts (fun w h => List.mem_cons_of_mem _ (inX1 w h)) hown hE.1 hP 0 rfl rfl 0 (by decide) (hts (.fieldLink "TextPatterns$Sets" 15 "TextPatterns$Sets" "words" "[J") (List.mem_cons_of_mem _ w_113)) (fun _ h9 => h9) rfl dX1_turn_27 ?_
          refine lv_iload_n hx hb dX1_turn_30 rfl (lv_at hl 0 rfl) ?_
          refine lv_aload_n hx hb dX1_turn_31 rfl (lv_at hl 1 rfl) ?_
          refine va_get (D := DD) (ci := 1) (v := .ref q1) (C := RX1) (T := TX1) (N := 1) hx hb hts (fun w h => List.mem_cons_of_mem _ (inX1 w h)) hown hE.1 hP 0 rfl rfl 0 (by decide) (hts (.fieldLink "TextPatterns$Sets" 15 "TextPatterns$Sets" "words" "[J") (List.mem_cons_of_mem _ w_113)) (fun _ h9 => h9) rfl dX1_turn_32 ?_
          refine lv_iload_n hx hb dX1_turn_35 rfl (lv_at hl 0 rfl) ?_
          refine va_lald hx hb hE.1 hP 1 2 rfl rfl (kb_in (kb_nlt0 c_2) (kb_nleN hn_n c_3)) dX1_turn_36 ?_
          refine lv_ldc2 hx hb hown (hts (.constantLong "TextPatterns$Sets" 66 (-1)) (List.mem_cons_of_mem _ w_301)) dX1_turn_37 ?_
          refine lv_lxor hx hb dX1_turn_40 ?_
          refine va_last hx hb hE.1 hP hD hS 1 2 rfl rfl (kb_in (kb_nlt0 c_2) (kb_nleN hn_n c_3)) dX1_turn_41 (fun H locs hP hD hS => ?_)
          have hP : va_P DD vwCl [(q0, .inr (1, [.ref q1])), (q1, .inl (aC 2, n, .inr (.inl (vp_updL words ((4 * x1) + x2).toNatClampNeg ((words ((4 * x1) + x2).toNatClampNeg) ^^^ (-1))))))] H := hP
          have hD : va_D A [(q0, .inr (1, [.ref q1])), (q1, .inl (aC 2, n, .inr (.inl (vp_updL words ((4 * x1) + x2).toNatClampNeg ((words ((4 * x1) + x2).toNatClampNeg) ^^^ (-1))))))] := hD
          refine lv_iinc (v := x2 + 1) (lv' := [(2, .int (x2 + 1)), (3, .int ((4 * x1) + x2)), (0, .ref q0), (1, .int x1)]) hx hb dX1_turn_42 hl (k := 3) rfl rfl (by decide) rfl (fun ls hl => ?_)
          refine lv_goto (tgt := 2) hx hb dX1_turn_45 (by decide) ?_
          exact ih (vp_updL words ((4 * x1) + x2).toNatClampNeg ((words ((4 * x1) + x2).toNatClampNeg) ^^^ (-1))) x1 (x2 + 1) (Nat.lt_of_lt_of_le (kmu_up c_1) (Nat.le_of_lt_succ hk)) u hu _ _ _ hP hD hS (lv_sub hl [2, 3, 0] rfl)
set_option maxHeartbeats 4000000 in
set_option maxRecDepth 100000 in
theorem c_X1_turn (l : Launch) (DD : va_G) (aC : Nat → ClassId) (tt : Nat → Nat) (q0 q1 n : Nat) (words : Nat → Int64) (a1 : Int32) (hn_n : n < 1073741824) (u : (Nat → Int64)) (hu : u = f_X1_turn n words a1) : kM l yX1_turn wsX1_turn rm_X1_turn DD aC tt [.ref q0, .int a1] [(q0, .inr (1, [.ref q1])), (q1, .inl (aC 2, n, .inr (.inl words)))] none [(q0, .inr (1, [.ref q1])), (q1, .inl (aC 2, n, .inr (.inl u)))] := by
  refine k_start (cc := cX1_turn) (maxL := 4) (ret := none) (own := RX1) (lv0 := [(0, .ref q0), (1, .int a1)]) (by decide) rfl rfl (Nat.le_of_ble_eq_true rfl) rfl (fun p e s m below meth c A ls X hP hD hS hl => ?_)
  obtain ⟨hx, hb, hr, hml, hts, hown, hlocks, hA, hE⟩ := id X
  unfold f_X1_turn at hu
  refine lv_iconst (v := 0) hx hb dX1_turn_0 (by decide) ?_
  refine lv_istore_n (lv' := [(2, .int 0), (0, .ref q0), (1, .int a1)]) hx hb dX1_turn_1 rfl hl (by decide) rfl (fun ls hl => ?_)
  exact t_X1_turn_L0 X q0 q1 n a1 hn_n (((4 : Int32).toInt - (0 : Int32).toInt).toNat + 1) words a1 0 (Nat.lt_succ_self _) u hu _ _ _ hP hD hS (lv_sub hl [1, 2, 0] rfl)
def f_X1_addSpan_L0 (k : Nat) (n : Nat) (words : Nat → Int64) (x1 : Int32) (x2 : Int32) (x3 : Int32) (x4 : Int32) : (Nat → Int64) := match k with
  | 0 => fun _ => 0
  | k + 1 => (if (4 : Int32) ≤ x4 then words else (kb (f_X1_spanBits x2 x3 x4) (fun z_2 => (kb (f_X1_addBits n words x1 x4 z_2) (fun z_3 => (f_X1_addSpan_L0 k n z_3 x1 x2 x3 (x4 + 1)))))))
theorem f_X1_addSpan_L0_s {k : Nat} {n : Nat} {words : Nat → Int64} {x1 : Int32} {x2 : Int32} {x3 : Int32} {x4 : Int32} : f_X1_addSpan_L0 (k + 1) n words x1 x2 x3 x4 = (if (4 : Int32) ≤ x4 then words else (kb (f_X1_spanBits x2 x3 x4) (fun z_2 => (kb (f_X1_addBits n words x1 x4 z_2) (fun z_3 => (f_X1_addSpan_L0 k n z_3 x1 x2 x3 (x4 + 1))))))) := rfl
def f_X1_addSpan (n : Nat) (words : Nat → Int64) (a1 : Int32) (a2 : Int32) (a3 : Int32) : (Nat → Int64) := (f_X1_addSpan_L0 (((4 : Int32).toInt - (0 : Int32).toInt).toNat + 1) n words a1 a2 a3 0)
abbrev rm_X1_addSpan : Room := { frames := 1, cells := 0, slots := 0, locals := 25 }
set_option maxHeartbeats 4000000 in
set_option maxRecDepth 100000 in
theorem t_X1_addSpan_L0 {l : Launch} {DD : va_G} {aC : Nat → ClassId} {tt : Nat → Nat} {p : Program} {e : Env} {s : State} {m : MethodId} {below : List Frame} {meth : Method} {c : Code} {A : Nat → Prop} {AV : Array Value} (X : kX p s m AV meth c cX1_addSpan none 5 wsX1_addSpan RX1 DD aC tt A) (q0 q1 n : Nat) (a1 : Int32) (a2 : Int32) (a3 : Int32) (hp_0 : n < 1073741824) :
    ∀ (k : Nat) (words : Nat → Int64) (x1 : Int32) (x2 : Int32) (x3 : Int32) (x4 : Int32), ((4 : Int32).toInt - x4.toInt).toNat < k → ∀ (u : (Nat → Int64)), u = f_X1_addSpan_L0 k n words x1 x2 x3 x4 → ∀ (H : Heap) (locs : List Loc) (ls : Array Slot), va_P DD vwCl [(q0, .inr (1, [.ref q1])), (q1, .inl (aC 2, n, .inr (.inl words)))] H → va_D A [(q0, .inr (1, [.ref q1])), (q1, .inl (aC 2, n, .inr (.inl words)))] → va_S A s.heap H locs → lv_has ls 5 [(0, .ref q0), (1, .int x1), (2, .int x2), (3, .int x3), (4, .int x4)] → W p l e rm_X1_addSpan s m AV below meth c H locs 0 0 (MQ below (kQ DD vwCl none [(q0, .inr (1, [.ref q1])), (q1, .inl (aC 2, n, .inr (.inl u)))] A) AV s 0 0 A) (F0 m 3 ls []) := by
  obtain ⟨hx, hb, hr, hml, hts, hown, hlocks, hA, hE⟩ := id X
  intro k
  induction k with
  | zero =>
    intro words x1 x2 x3 x4 hk
    exact absurd hk (Nat.not_lt_zero _)
  | succ k ih =>
    intro words x1 x2 x3 x4 hk u hu H locs ls hP hD hS hl
    replace hu := hu.trans f_X1_addSpan_L0_s
    refine lv_iload hx hb dX1_addSpan_3 (lv_at hl 4 rfl) ?_
    refine lv_iconst (v := 4) hx hb dX1_addSpan_5 (by decide) ?_
    refine lv_icmp_ge (tgt := 29) hx hb dX1_addSpan_6 (by decide) (fun c_1 => ?_) (fun c_1 => ?_)
    · replace hu := hu.trans (if_pos c_1)
      subst hu
      exact k_vret hx hb hr hlocks hP hD hS rfl rfl dX1_addSpan_29
    · replace hu := hu.trans (if_neg c_1)
      refine lv_aload_n hx hb dX1_addSpan_9 rfl (lv_at hl 0 rfl) ?_
      refine lv_iload_n hx hb dX1_addSpan_10 rfl (lv_at hl 1 rfl) ?_
      refine lv_iload hx hb dX1_addSpan_11 (lv_at hl 4 rfl) ?_
      refine lv_iload_n hx hb dX1_addSpan_13 rfl (lv_at hl 2 rfl) ?_
      refine lv_iload_n hx hb dX1_addSpan_14 rfl (lv_at hl 3 rfl) ?_
      refine lv_iload hx hb dX1_addSpan_15 (lv_at hl 4 rfl) ?_
      obtain ⟨z_2, hz_2⟩ : ∃ z, z = f_X1_spanBits x2 x3 x4 := ⟨_, rfl⟩
      replace hu := hu.trans (kb_of hz_2)
      refine k_callS (As := [.int x2, .int x3, .int x4]) (rest := [.int x4, .int x1, .ref q0]) (wc := []) (wr := [(q0, .inr (1, [.ref q1])), (q1, .inl (aC 2, n, .inr (.inl words)))]) (w1 := []) (wn := [(q0, .inr (1, [.ref q1])), (q1, .inl (aC 2, n, .inr (.inl words)))]) ⟨hx, hb, hml, hown, hts⟩ (c_X1_spanBits l DD aC tt    x2 x3 x4  z_2 hz_2) (cwS 3 hts (gdS w_298 w_299 w_72 w_300) rfl rfl rfl (by decide +kernel) ⟨Nat.le_of_ble_eq_true rfl, Nat.le_of_ble_eq_true rfl⟩) hP hD hS hA hE [] [0, 1] [0, 1] rfl rfl rfl (by decide) (by decide) (by decide) (by decide) rfl hl.1 rfl (Nat.le_of_ble_eq_true rfl) dX1_addSpan_17 (fun H locs hP hD hS => ?_)
      refine W.eq (g2 := F0 m 20 ls [.long z_2, .int x4, .int x1, .ref q0]) rfl ?_
      obtain ⟨z_3, hz_3⟩ : ∃ z, z = f_X1_addBits n words x1 x4 z_2 := ⟨_, rfl⟩
      replace hu := hu.trans (kb_of hz_3)
      refine k_callV (As := [.int x1, .int x4, .long z_2]) (rest := []) (wc := [(q0, .inr (1, [.ref q1])), (q1, .inl (aC 2, n, .inr (.inl words)))]) (wr := []) (w1 := [(q0, .inr (1, [.ref q1])), (q1, .inl (aC 2, n, .inr (.inl z_3)))]) (wn := [(q0, .inr (1, [.ref q1])), (q1, .inl (aC 2, n, .inr (.inl z_3)))]) ⟨hx, hb, hml, hown, hts⟩ (c_X1_addBits l DD aC tt q0 q1 n words x1 x4 z_2 hp_0 z_3 hz_3) (cwV 3 hts (gdV w_302 w_304 w_6 w_72 w_305) rfl rfl rfl (by decide +kernel) ⟨Nat.le_of_ble_eq_true rfl, Nat.le_of_ble_eq_true rfl⟩) hP hD hS hA hE [0, 1] [] [0, 1] rfl rfl rfl (by decide) (by decide) (by decide) (by decide) (ci := 1) (q0 := 0) rfl rfl rfl hl.1 rfl (Nat.le_of_ble_eq_true rfl) dX1_addSpan_20 (fun H locs hP hD hS => ?_)
      have hP : va_P DD vwCl [(q0, .inr (1, [.ref q1])), (q1, .inl (aC 2, n, .inr (.inl z_3)))] H := hP
      have hD : va_D A [(q0, .inr (1, [.ref q1])), (q1, .inl (aC 2, n, .inr (.inl z_3)))] := hD
      refine W.eq (g2 := F0 m 23 ls []) rfl ?_
      refine lv_iinc (v := x4 + 1) (lv' := [(4, .int (x4 + 1)), (0, .ref q0), (1, .int x1), (2, .int x2), (3, .int x3)]) hx hb dX1_addSpan_23 hl (k := 4) rfl rfl (by decide) rfl (fun ls hl => ?_)
      refine lv_goto (tgt := 3) hx hb dX1_addSpan_26 (by decide) ?_
      exact ih z_3 x1 x2 x3 (x4 + 1) (Nat.lt_of_lt_of_le (kmu_up c_1) (Nat.le_of_lt_succ hk)) u hu _ _ _ hP hD hS (lv_sub hl [1, 2, 3, 4, 0] rfl)
set_option maxHeartbeats 4000000 in
set_option maxRecDepth 100000 in
theorem c_X1_addSpan (l : Launch) (DD : va_G) (aC : Nat → ClassId) (tt : Nat → Nat) (q0 q1 n : Nat) (words : Nat → Int64) (a1 : Int32) (a2 : Int32) (a3 : Int32) (hp_0 : n < 1073741824) (u : (Nat → Int64)) (hu : u = f_X1_addSpan n words a1 a2 a3) : kM l yX1_addSpan wsX1_addSpan rm_X1_addSpan DD aC tt [.ref q0, .int a1, .int a2, .int a3] [(q0, .inr (1, [.ref q1])), (q1, .inl (aC 2, n, .inr (.inl words)))] none [(q0, .inr (1, [.ref q1])), (q1, .inl (aC 2, n, .inr (.inl u)))] := by
  refine k_start (cc := cX1_addSpan) (maxL := 5) (ret := none) (own := RX1) (lv0 := [(0, .ref q0), (1, .int a1), (2, .int a2), (3, .int a3)]) (by decide) rfl rfl (Nat.le_of_ble_eq_true rfl) rfl (fun p e s m below meth c A ls X hP hD hS hl => ?_)
  obtain ⟨hx, hb, hr, hml, hts, hown, hlocks, hA, hE⟩ := id X
  unfold f_X1_addSpan at hu
  refine lv_iconst (v := 0) hx hb dX1_addSpan_0 (by decide) ?_
  refine lv_istore (lv' := [(4, .int 0), (0, .ref q0), (1, .int a1), (2, .int a2), (3, .int a3)]) hx hb dX1_addSpan_1 hl (by decide) rfl (fun ls hl => ?_)
  exact t_X1_addSpan_L0 X q0 q1 n a1 a2 a3 hp_0 (((4 : Int32).toInt - (0 : Int32).toInt).toNat + 1) words a1 a2 a3 0 (Nat.lt_succ_self _) u hu _ _ _ hP hD hS (lv_sub hl [1, 2, 3, 4, 0] rfl)
def f_X1_addNamed_L1 (k : Nat) (n : Nat) (words : Nat → Int64) (x1 : Int32) (x2 : Int32) (x3 : Int32) (x4 : Int32) (x5 : Int32) (x6 : Int32) (x7 : Int64) (x9 : Int32) : Int32 × Int64 × Int32 := match k with
  | 0 => (0, 0, 0)
  | k + 1 => (if (60 : Int32) ≤ (x9 + 2) then (x6, x7, x9) else (if (kSpans x9.toNatClampNeg) = x4 then (kb (f_X1_spanBits (kSpans (x9 + 1).toNatClampNeg) (kSpans (x9 + 2).toNatClampNeg) x5) (fun z_5 => (f_X1_addNamed_L1 k n words x1 x2 x3 x4 x5 1 (x7 ||| z_5) (x9 + 3)))) else (f_X1_addNamed_L1 k n words x1 x2 x3 x4 x5 x6 x7 (x9 + 3))))
theorem f_X1_addNamed_L1_s {k : Nat} {n : Nat} {words : Nat → Int64} {x1 : Int32} {x2 : Int32} {x3 : Int32} {x4 : Int32} {x5 : Int32} {x6 : Int32} {x7 : Int64} {x9 : Int32} : f_X1_addNamed_L1 (k + 1) n words x1 x2 x3 x4 x5 x6 x7 x9 = (if (60 : Int32) ≤ (x9 + 2) then (x6, x7, x9) else (if (kSpans x9.toNatClampNeg) = x4 then (kb (f_X1_spanBits (kSpans (x9 + 1).toNatClampNeg) (kSpans (x9 + 2).toNatClampNeg) x5) (fun z_5 => (f_X1_addNamed_L1 k n words x1 x2 x3 x4 x5 1 (x7 ||| z_5) (x9 + 3)))) else (f_X1_addNamed_L1 k n words x1 x2 x3 x4 x5 x6 x7 (x9 + 3)))) := rfl
def f_X1_addNamed_L0 (k : Nat) (n : Nat) (words : Nat → Int64) (x1 : Int32) (x2 : Int32) (x3 : Int32) (x4 : Int32) (x5 : Int32) : (Nat → Int64) := match k with
  | 0 => fun _ => 0
  | k + 1 => (if (4 : Int32) ≤ x5 then words else (kb (f_X1_addNamed_L1 (((60 : Int32).toInt - (0 : Int32).toInt).toNat + 1) n words x1 x2 x3 x4 x5 0 0 0) (fun z_6 => (if z_6.1 = 0 then (kb (f_X1_spanBits x2 x2 x5) (fun z_11 => (kb (f_X1_addBits n words x1 x5 z_11) (fun z_12 => (f_X1_addNamed_L0 k n z_12 x1 x2 x3 x4 (x5 + 1)))))) else (if x3 = 0 then (kb (f_X1_addBits n words x1 x5 z_6.2.1) (fun z_9 => (f_X1_addNamed_L0 k n z_9 x1 x2 x3 x4 (x5 + 1)))) else (kb (f_X1_addBits n words x1 x5 (z_6.2.1 ^^^ (-1))) (fun z_10 => (f_X1_addNamed_L0 k n z_10 x1 x2 x3 x4 (x5 + 1)))))))))
theorem f_X1_addNamed_L0_s {k : Nat} {n : Nat} {words : Nat → Int64} {x1 : Int32} {x2 : Int32} {x3 : Int32} {x4 : Int32} {x5 : Int32} : f_X1_addNamed_L0 (k + 1) n words x1 x2 x3 x4 x5 = (if (4 : Int32) ≤ x5 then words else (kb (f_X1_addNamed_L1 (((60 : Int32).toInt - (0 : Int32).toInt).toNat + 1) n words x1 x2 x3 x4 x5 0 0 0) (fun z_6 => (if z_6.1 = 0 then (kb (f_X1_spanBits x2 x2 x5) (fun z_11 => (kb (f_X1_addBits n words x1 x5 z_11) (fun z_12 => (f_X1_addNamed_L0 k n z_12 x1 x2 x3 x4 (x5 + 1)))))) else (if x3 = 0 then (kb (f_X1_addBits n words x1 x5 z_6.2.1) (fun z_9 => (f_X1_addNamed_L0 k n z_9 x1 x2 x3 x4 (x5 + 1)))) else (kb (f_X1_addBits n words x1 x5 (z_6.2.1 ^^^ (-1))) (fun z_10 => (f_X1_addNamed_L0 k n z_10 x1 x2 x3 x4 (x5 + 1))))))))) := rfl
def f_X1_addNamed (n : Nat) (words : Nat → Int64) (a1 : Int32) (a2 : Int32) : (Nat → Int64) := (if a2 < 65 then (f_X1_addNamed_L0 (((4 : Int32).toInt - (0 : Int32).toInt).toNat + 1) n words a1 a2 0 a2 0) else (if (90 : Int32) < a2 then (f_X1_addNamed_L0 (((4 : Int32).toInt - (0 : Int32).toInt).toNat + 1) n words a1 a2 0 a2 0) else (f_X1_addNamed_L0 (((4 : Int32).toInt - (0 : Int32).toInt).toNat + 1) n words a1 a2 1 ((a2 - 65) + 97) 0)))
abbrev rm_X1_addNamed : Room := { frames := 1, cells := 0, slots := 0, locals := 25 }
set_option maxHeartbeats 4000000 in
set_option maxRecDepth 100000 in
theorem t_X1_addNamed_L1 {l : Launch} {DD : va_G} {aC : Nat → ClassId} {tt : Nat → Nat} {p : Program} {e : Env} {s : State} {m : MethodId} {below : List Frame} {meth : Method} {c : Code} {A : Nat → Prop} {AV : Array Value} {Q : State → Prop} (X : kX p s m AV meth c cX1_addNamed none 10 wsX1_addNamed RX1 DD aC tt A) (q0 q1 n : Nat) (words : Nat → Int64) (hp_0 : n < 1073741824) :
    ∀ (k : Nat) (x1 : Int32) (x2 : Int32) (x3 : Int32) (x4 : Int32) (x5 : Int32) (x6 : Int32) (x7 : Int64) (x9 : Int32), (0 ≤ x9.toInt) → (x9.toInt < 64) → ((60 : Int32).toInt - x9.toInt).toNat < k → ∀ (z : Int32 × Int64 × Int32), z = f_X1_addNamed_L1 k n words x1 x2 x3 x4 x5 x6 x7 x9 → ∀ (H : Heap) (locs : List Loc) (ls : Array Slot), va_P DD vwCl [(q0, .inr (1, [.ref q1])), (q1, .inl (aC 2, n, .inr (.inl words)))] H → va_D A [(q0, .inr (1, [.ref q1])), (q1, .inl (aC 2, n, .inr (.inl words)))] → va_S A s.heap H locs → lv_has ls 10 [(0, .ref q0), (1, .int x1), (2, .int x2), (3, .int x3), (4, .int x4), (5, .int x5), (6, .int x6), (7, .long x7), (9, .int x9)] → (∀ (H : Heap) (locs : List Loc) (ls : Array Slot), va_P DD vwCl [(q0, .inr (1, [.ref q1])), (q1, .inl (aC 2, n, .inr (.inl words)))] H → va_D A [(q0, .inr (1, [.ref q1])), (q1, .inl (aC 2, n, .inr (.inl words)))] → va_S A s.heap H locs → lv_has ls 10 [(0, .ref q0), (1, .int x1), (2, .int x2), (3, .int x3), (4, .int x4), (5, .int x5), (6, .int z.1), (7, .long z.2.1), (9, .int z.2.2)] → W p l e rm_X1_addNamed s m AV below meth c H locs 0 0 Q (F0 m 110 ls [])) → W p l e rm_X1_addNamed s m AV below meth c H locs 0 0 Q (F0 m 53 ls []) := by
  obtain ⟨hx, hb, hr, hml, hts, hown, hlocks, hA, hE⟩ := id X
  intro k
  induction k with
  | zero =>
    intro x1 x2 x3 x4 x5 x6 x7 x9 hi0 hi1 hk
    exact absurd hk (Nat.not_lt_zero _)
  | succ k ih =>
    intro x1 x2 x3 x4 x5 x6 x7 x9 hi0 hi1 hk u hu H locs ls hP hD hS hl hK2
    replace hu := hu.trans f_X1_addNamed_L1_s
    refine lv_iload hx hb dX1_addNamed_53 (lv_at hl 8 rfl) ?_
    refine lv_iconst (v := 2) hx hb dX1_addNamed_55 (by decide) ?_
    refine lv_iadd hx hb dX1_addNamed_56 ?_
    refine va_getsN hx hb (hE.2.2.1) hS hown (va_Nw.use rfl (hE.2.1 (.fieldLinkNest "TextPatterns$Sets" 58 "TextPatterns" "CLASS_SPANS" "[I" "TextPatterns") (by decide +kernel))) (fun _ h9 => h9) dX1_addNamed_57 ?_
    refine va_tlen (v := 60) hx hb (hE.2.2.2) hS (by decide) dX1_addNamed_60 ?_
    refine lv_icmp_ge (tgt := 110) hx hb dX1_addNamed_61 (by decide) (fun c_3 => ?_) (fun c_3 => ?_)
    · replace hu := hu.trans (if_pos c_3)
      subst hu
      exact hK2 _ _ _ hP hD hS (lv_sub hl [0, 1, 2, 3, 4, 5, 6, 7, 8] rfl)
    · replace hu := hu.trans (if_neg c_3)
      refine va_getsN hx hb (hE.2.2.1) hS hown (va_Nw.use rfl (hE.2.1 (.fieldLinkNest "TextPatterns$Sets" 58 "TextPatterns" "CLASS_SPANS" "[I" "TextPatterns") (by decide +kernel))) (fun _ h9 => h9) dX1_addNamed_64 ?_
      refine lv_iload hx hb dX1_addNamed_67 (lv_at hl 8 rfl) ?_
      refine va_ti (v := .int (kSpans x9.toNatClampNeg)) hx hb (hE.2.2.2) hS (kb_in (by have i1 := kx_nle c_3; have i2 := kx_rng (x9); have i3 : (60 : Int32).toInt = 60 := (by decide); have i4 := kx_rng (x9 + 2); first | omega | (have i5 := kx_addK x9 (y := 2) (k := 2) (by decide); omega)) (by have i1 := kx_nle c_3; have i2 := kx_rng (x9); have i3 : (60 : Int32).toInt = 60 := (by decide); have i4 := kx_rng (x9 + 2); first | omega | (have i5 := kx_addK x9 (y := 2) (k := 2) (by decide); omega))) rfl dX1_addNamed_69 ?_
      refine lv_iload hx hb dX1_addNamed_70 (lv_at hl 4 rfl) ?_
      refine lv_icmp_ne (tgt := 104) hx hb dX1_addNamed_72 (by decide) (fun c_4 => ?_) (fun c_4 => ?_)
      · replace hu := hu.trans (if_neg c_4)
        refine lv_iinc (v := x9 + 3) (lv' := [(9, .int (x9 + 3)), (0, .ref q0), (1, .int x1), (2, .int x2), (3, .int x3), (4, .int x4), (5, .int x5), (6, .int x6), (7, .long x7)]) hx hb dX1_addNamed_104 hl (k := 8) rfl rfl (by decide) rfl (fun ls hl => ?_)
        refine lv_goto (tgt := 53) hx hb dX1_addNamed_107 (by decide) ?_
        exact ih x1 x2 x3 x4 x5 x6 x7 (x9 + 3) (show 0 ≤ (x9 + 3).toInt from (by have i1 := kx_nle c_3; have i2 := kx_ne c_4; have i3 := kx_rng (x9 + 3); have i4 := kx_rng (x9); have i6 : (60 : Int32).toInt = 60 := (by decide); have i7 := kx_rng (x9 + 2); have i9 := kx_rng (kSpans x9.toNatClampNeg); have i10 := kx_rng (x4); first | omega | (have i5 := kx_addK x9 (y := 3) (k := 3) (by decide); have i8 := kx_addK x9 (y := 2) (k := 2) (by decide); omega))) (show (x9 + 3).toInt < 64 from (by have i1 := kx_nle c_3; have i2 := kx_ne c_4; have i3 := kx_rng (x9 + 3); have i4 := kx_rng (x9); have i6 : (60 : Int32).toInt = 60 := (by decide); have i7 := kx_rng (x9 + 2); have i9 := kx_rng (kSpans x9.toNatClampNeg); have i10 := kx_rng (x4); first | omega | (have i5 := kx_addK x9 (y := 3) (k := 3) (by decide); have i8 := kx_addK x9 (y := 2) (k := 2) (by decide); omega))) (Nat.lt_of_lt_of_le (by have i1 := kx_nle c_3; have i2 := kx_ne c_4; have i3 : (60 : Int32).toInt = 60 := (by decide); have i4 := kx_rng (x9); have i5 := kx_rng (x9 + 3); have i7 := kx_rng (x9 + 2); have i9 := kx_rng (kSpans x9.toNatClampNeg); have i10 := kx_rng (x4); first | omega | (have i6 := kx_addK x9 (y := 3) (k := 3) (by decide); have i8 := kx_addK x9 (y := 2) (k := 2) (by decide); omega)) (Nat.le_of_lt_succ hk)) u hu _ _ _ hP hD hS (lv_sub hl [1, 2, 3, 4, 5, 6, 7, 8, 0] rfl) hK2
      · replace hu := hu.trans (if_pos c_4)
        refine lv_iconst (v := 1) hx hb dX1_addNamed_75 (by decide) ?_
        refine lv_istore (lv' := [(6, .int 1), (0, .ref q0), (1, .int x1), (2, .int x2), (3, .int x3), (4, .int x4), (5, .int x5), (7, .long x7), (9, .int x9)]) hx hb dX1_addNamed_76 hl (by decide) rfl (fun ls hl => ?_)
        refine lv_lload hx hb dX1_addNamed_78 (lv_at hl 7 rfl) ?_
        refine va_getsN hx hb (hE.2.2.1) hS hown (va_Nw.use rfl (hE.2.1 (.fieldLinkNest "TextPatterns$Sets" 58 "TextPatterns" "CLASS_SPANS" "[I" "TextPatterns") (by decide +kernel))) (fun _ h9 => h9) dX1_addNamed_80 ?_
        refine lv_iload hx hb dX1_addNamed_83 (lv_at hl 8 rfl) ?_
        refine lv_iconst (v := 1) hx hb dX1_addNamed_85 (by decide) ?_
        refine lv_iadd hx hb dX1_addNamed_86 ?_
        refine va_ti (v := .int (kSpans (x9 + 1).toNatClampNeg)) hx hb (hE.2.2.2) hS (kb_in (by have i1 := kx_nle c_3; have i2 := congrArg Int32.toInt c_4; have i3 := kx_rng (x9 + 1); have i4 := kx_rng (x9); have i6 : (60 : Int32).toInt = 60 := (by decide); have i7 := kx_rng (x9 + 2); have i9 := kx_rng (kSpans x9.toNatClampNeg); have i10 := kx_rng (x4); first | omega | (have i5 := kx_addK x9 (y := 1) (k := 1) (by decide); have i8 := kx_addK x9 (y := 2) (k := 2) (by decide); omega)) (by have i1 := kx_nle c_3; have i2 := congrArg Int32.toInt c_4; have i3 := kx_rng (x9 + 1); have i4 := kx_rng (x9); have i6 : (60 : Int32).toInt = 60 := (by decide); have i7 := kx_rng (x9 + 2); have i9 := kx_rng (kSpans x9.toNatClampNeg); have i10 := kx_rng (x4); first | omega | (have i5 := kx_addK x9 (y := 1) (k := 1) (by decide); have i8 := kx_addK x9 (y := 2) (k := 2) (by decide); omega))) rfl dX1_addNamed_87 ?_
        refine va_getsN hx hb (hE.2.2.1) hS hown (va_Nw.use rfl (hE.2.1 (.fieldLinkNest "TextPatterns$Sets" 58 "TextPatterns" "CLASS_SPANS" "[I" "TextPatterns") (by decide +kernel))) (fun _ h9 => h9) dX1_addNamed_88 ?_
        refine lv_iload hx hb dX1_addNamed_91 (lv_at hl 8 rfl) ?_
        refine lv_iconst (v := 2) hx hb dX1_addNamed_93 (by decide) ?_
        refine lv_iadd hx hb dX1_addNamed_94 ?_
        refine va_ti (v := .int (kSpans (x9 + 2).toNatClampNeg)) hx hb (hE.2.2.2) hS (kb_in (by have i1 := kx_nle c_3; have i2 := congrArg Int32.toInt c_4; have i3 := kx_rng (x9 + 2); have i4 := kx_rng (x9); have i6 : (60 : Int32).toInt = 60 := (by decide); have i7 := kx_rng (kSpans x9.toNatClampNeg); have i8 := kx_rng (x4); first | omega | (have i5 := kx_addK x9 (y := 2) (k := 2) (by decide); omega)) (kb_nle c_3 (by decide))) rfl dX1_addNamed_95 ?_
        refine lv_iload hx hb dX1_addNamed_96 (lv_at hl 6 rfl) ?_
        obtain ⟨z_5, hz_5⟩ : ∃ z, z = f_X1_spanBits (kSpans (x9 + 1).toNatClampNeg) (kSpans (x9 + 2).toNatClampNeg) x5 := ⟨_, rfl⟩
        replace hu := hu.trans (kb_of hz_5)
        refine k_callS (As := [.int (kSpans (x9 + 1).toNatClampNeg), .int (kSpans (x9 + 2).toNatClampNeg), .int x5]) (rest := [.long x7]) (wc := []) (wr := [(q0, .inr (1, [.ref q1])), (q1, .inl (aC 2, n, .inr (.inl words)))]) (w1 := []) (wn := [(q0, .inr (1, [.ref q1])), (q1, .inl (aC 2, n, .inr (.inl words)))]) ⟨hx, hb, hml, hown, hts⟩ (c_X1_spanBits l DD aC tt    (kSpans (x9 + 1).toNatClampNeg) (kSpans (x9 + 2).toNatClampNeg) x5  z_5 hz_5) (cwS 3 hts (gdS w_298 w_299 w_72 w_300) rfl rfl rfl (by decide +kernel) ⟨Nat.le_of_ble_eq_true rfl, Nat.le_of_ble_eq_true rfl⟩) hP hD hS hA hE [] [0, 1] [0, 1] rfl rfl rfl (by decide) (by decide) (by decide) (by decide) rfl hl.1 rfl (Nat.le_of_ble_eq_true rfl) dX1_addNamed_98 (fun H locs hP hD hS => ?_)
        refine W.eq (g2 := F0 m 101 ls [.long z_5, .long x7]) rfl ?_
        refine lv_lor hx hb dX1_addNamed_101 ?_
        refine lv_lstore (lv' := [(7, .long (x7 ||| z_5)), (6, .int 1), (0, .ref q0), (1, .int x1), (2, .int x2), (3, .int x3), (4, .int x4), (5, .int x5), (9, .int x9)]) hx hb dX1_addNamed_102 hl (by decide) rfl (fun ls hl => ?_)
        refine lv_iinc (v := x9 + 3) (lv' := [(9, .int (x9 + 3)), (7, .long (x7 ||| z_5)), (6, .int 1), (0, .ref q0), (1, .int x1), (2, .int x2), (3, .int x3), (4, .int x4), (5, .int x5)]) hx hb dX1_addNamed_104 hl (k := 8) rfl rfl (by decide) rfl (fun ls hl => ?_)
        refine lv_goto (tgt := 53) hx hb dX1_addNamed_107 (by decide) ?_
        exact ih x1 x2 x3 x4 x5 1 (x7 ||| z_5) (x9 + 3) (show 0 ≤ (x9 + 3).toInt from (by have i1 := kx_nle c_3; have i2 := congrArg Int32.toInt c_4; have i3 := kx_rng (x9 + 3); have i4 := kx_rng (x9); have i6 : (60 : Int32).toInt = 60 := (by decide); have i7 := kx_rng (x9 + 2); have i9 := kx_rng (kSpans x9.toNatClampNeg); have i10 := kx_rng (x4); first | omega | (have i5 := kx_addK x9 (y := 3) (k := 3) (by decide); have i8 := kx_addK x9 (y := 2) (k := 2) (by decide); omega))) (show (x9 + 3).toInt < 64 from (by have i1 := kx_nle c_3; have i2 := congrArg Int32.toInt c_4; have i3 := kx_rng (x9 + 3); have i4 := kx_rng (x9); have i6 : (60 : Int32).toInt = 60 := (by decide); have i7 := kx_rng (x9 + 2); have i9 := kx_rng (kSpans x9.toNatClampNeg); have i10 := kx_rng (x4); first | omega | (have i5 := kx_addK x9 (y := 3) (k := 3) (by decide); have i8 := kx_addK x9 (y := 2) (k := 2) (by decide); omega))) (Nat.lt_of_lt_of_le (by have i1 := kx_nle c_3; have i2 := congrArg Int32.toInt c_4; have i3 : (60 : Int32).toInt = 60 := (by decide); have i4 := kx_rng (x9); have i5 := kx_rng (x9 + 3); have i7 := kx_rng (x9 + 2); have i9 := kx_rng (kSpans x9.toNatClampNeg); have i10 := kx_rng (x4); first | omega | (have i6 := kx_addK x9 (y := 3) (k := 3) (by decide); have i8 := kx_addK x9 (y := 2) (k := 2) (by decide); omega)) (Nat.le_of_lt_succ hk)) u hu _ _ _ hP hD hS (lv_sub hl [3, 4, 5, 6, 7, 8, 2, 1, 0] rfl) hK2
set_option maxHeartbeats 4000000 in
set_option maxRecDepth 100000 in
theorem t_X1_addNamed_L0 {l : Launch} {DD : va_G} {aC : Nat → ClassId} {tt : Nat → Nat} {p : Program} {e : Env} {s : State} {m : MethodId} {below : List Frame} {meth : Method} {c : Code} {A : Nat → Prop} {AV : Array Value} (X : kX p s m AV meth c cX1_addNamed none 10 wsX1_addNamed RX1 DD aC tt A) (q0 q1 n : Nat) (a1 : Int32) (a2 : Int32) (hp_0 : n < 1073741824) :
    ∀ (k : Nat) (words : Nat → Int64) (x1 : Int32) (x2 : Int32) (x3 : Int32) (x4 : Int32) (x5 : Int32), ((4 : Int32).toInt - x5.toInt).toNat < k → ∀ (u : (Nat → Int64)), u = f_X1_addNamed_L0 k n words x1 x2 x3 x4 x5 → ∀ (H : Heap) (locs : List Loc) (ls : Array Slot), va_P DD vwCl [(q0, .inr (1, [.ref q1])), (q1, .inl (aC 2, n, .inr (.inl words)))] H → va_D A [(q0, .inr (1, [.ref q1])), (q1, .inl (aC 2, n, .inr (.inl words)))] → va_S A s.heap H locs → lv_has ls 10 [(0, .ref q0), (1, .int x1), (2, .int x2), (3, .int x3), (4, .int x4), (5, .int x5)] → W p l e rm_X1_addNamed s m AV below meth c H locs 0 0 (MQ below (kQ DD vwCl none [(q0, .inr (1, [.ref q1])), (q1, .inl (aC 2, n, .inr (.inl u)))] A) AV s 0 0 A) (F0 m 38 ls []) := by
  obtain ⟨hx, hb, hr, hml, hts, hown, hlocks, hA, hE⟩ := id X
  intro k
  induction k with
  | zero =>
    intro words x1 x2 x3 x4 x5 hk
    exact absurd hk (Nat.not_lt_zero _)
  | succ k ih =>
    intro words x1 x2 x3 x4 x5 hk u hu H locs ls hP hD hS hl
    replace hu := hu.trans f_X1_addNamed_L0_s
    refine lv_iload hx hb dX1_addNamed_38 (lv_at hl 5 rfl) ?_
    refine lv_iconst (v := 4) hx hb dX1_addNamed_40 (by decide) ?_
    refine lv_icmp_ge (tgt := 154) hx hb dX1_addNamed_41 (by decide) (fun c_2 => ?_) (fun c_2 => ?_)
    · replace hu := hu.trans (if_pos c_2)
      subst hu
      exact k_vret hx hb hr hlocks hP hD hS rfl rfl dX1_addNamed_154
    · replace hu := hu.trans (if_neg c_2)
      refine lv_iconst (v := 0) hx hb dX1_addNamed_44 (by decide) ?_
      refine lv_istore (lv' := [(6, .int 0), (0, .ref q0), (1, .int x1), (2, .int x2), (3, .int x3), (4, .int x4), (5, .int x5)]) hx hb dX1_addNamed_45 hl (by decide) rfl (fun ls hl => ?_)
      refine lv_lconst (v := 0) hx hb dX1_addNamed_47 (by decide) ?_
      refine lv_lstore (lv' := [(7, .long 0), (6, .int 0), (0, .ref q0), (1, .int x1), (2, .int x2), (3, .int x3), (4, .int x4), (5, .int x5)]) hx hb dX1_addNamed_48 hl (by decide) rfl (fun ls hl => ?_)
      refine lv_iconst (v := 0) hx hb dX1_addNamed_50 (by decide) ?_
      refine lv_istore (lv' := [(9, .int 0), (7, .long 0), (6, .int 0), (0, .ref q0), (1, .int x1), (2, .int x2), (3, .int x3), (4, .int x4), (5, .int x5)]) hx hb dX1_addNamed_51 hl (by decide) rfl (fun ls hl => ?_)
      obtain ⟨z_6, hz_6⟩ : ∃ z, z = f_X1_addNamed_L1 (((60 : Int32).toInt - (0 : Int32).toInt).toNat + 1) n words x1 x2 x3 x4 x5 0 0 0 := ⟨_, rfl⟩
      replace hu := hu.trans (kb_of hz_6)
      refine t_X1_addNamed_L1 X q0 q1 n words hp_0 (((60 : Int32).toInt - (0 : Int32).toInt).toNat + 1) x1 x2 x3 x4 x5 0 0 0 (by decide) (by decide) (Nat.lt_succ_self _) z_6 hz_6 _ _ _ hP hD hS (lv_sub hl [3, 4, 5, 6, 7, 8, 2, 1, 0] rfl) (fun H locs ls hP hD hS hl => ?_)
      refine lv_iload hx hb dX1_addNamed_110 (lv_at hl 6 rfl) ?_
      refine lv_if_ne (tgt := 127) hx hb dX1_addNamed_112 (by decide) (fun c_7 => ?_) (fun c_7 => ?_)
      · replace hu := hu.trans (if_neg c_7)
        refine lv_iload_n hx hb dX1_addNamed_127 rfl (lv_at hl 3 rfl) ?_
        refine lv_if_eq (tgt := 139) hx hb dX1_addNamed_128 (by decide) (fun c_8 => ?_) (fun c_8 => ?_)
        · replace hu := hu.trans (if_pos c_8)
          refine lv_aload_n hx hb dX1_addNamed_139 rfl (lv_at hl 0 rfl) ?_
          refine lv_iload_n hx hb dX1_addNamed_140 rfl (lv_at hl 1 rfl) ?_
          refine lv_iload hx hb dX1_addNamed_141 (lv_at hl 5 rfl) ?_
          refine lv_lload hx hb dX1_addNamed_143 (lv_at hl 7 rfl) ?_
          obtain ⟨z_9, hz_9⟩ : ∃ z, z = f_X1_addBits n words x1 x5 z_6.2.1 := ⟨_, rfl⟩
          replace hu := hu.trans (kb_of hz_9)
          refine k_callV (As := [.int x1, .int x5, .long z_6.2.1]) (rest := []) (wc := [(q0, .inr (1, [.ref q1])), (q1, .inl (aC 2, n, .inr (.inl words)))]) (wr := []) (w1 := [(q0, .inr (1, [.ref q1])), (q1, .inl (aC 2, n, .inr (.inl z_9)))]) (wn := [(q0, .inr (1, [.ref q1])), (q1, .inl (aC 2, n, .inr (.inl z_9)))]) ⟨hx, hb, hml, hown, hts⟩ (c_X1_addBits l DD aC tt q0 q1 n words x1 x5 z_6.2.1 hp_0 z_9 hz_9) (cwV 3 hts (gdV w_302 w_304 w_6 w_72 w_305) rfl rfl rfl (by decide +kernel) ⟨Nat.le_of_ble_eq_true rfl, Nat.le_of_ble_eq_true rfl⟩) hP hD hS hA hE [0, 1] [] [0, 1] rfl rfl rfl (by decide) (by decide) (by decide) (by decide) (ci := 1) (q0 := 0) rfl rfl rfl hl.1 rfl (Nat.le_of_ble_eq_true rfl) dX1_addNamed_145 (fun H locs hP hD hS => ?_)
          have hP : va_P DD vwCl [(q0, .inr (1, [.ref q1])), (q1, .inl (aC 2, n, .inr (.inl z_9)))] H := hP
          have hD : va_D A [(q0, .inr (1, [.ref q1])), (q1, .inl (aC 2, n, .inr (.inl z_9)))] := hD
          refine W.eq (g2 := F0 m 148 ls []) rfl ?_
          refine lv_iinc (v := x5 + 1) (lv' := [(5, .int (x5 + 1)), (0, .ref q0), (1, .int x1), (2, .int x2), (3, .int x3), (4, .int x4), (6, .int z_6.1), (7, .long z_6.2.1), (9, .int z_6.2.2)]) hx hb dX1_addNamed_148 hl (k := 5) rfl rfl (by decide) rfl (fun ls hl => ?_)
          refine lv_goto (tgt := 38) hx hb dX1_addNamed_151 (by decide) ?_
          exact ih z_9 x1 x2 x3 x4 (x5 + 1) (Nat.lt_of_lt_of_le (kmu_up c_2) (Nat.le_of_lt_succ hk)) u hu _ _ _ hP hD hS (lv_sub hl [1, 2, 3, 4, 5, 0] rfl)
        · replace hu := hu.trans (if_neg c_8)
          refine lv_lload hx hb dX1_addNamed_131 (lv_at hl 7 rfl) ?_
          refine lv_ldc2 hx hb hown (hts (.constantLong "TextPatterns$Sets" 66 (-1)) (List.mem_cons_of_mem _ w_301)) dX1_addNamed_133 ?_
          refine lv_lxor hx hb dX1_addNamed_136 ?_
          refine lv_lstore (lv' := [(7, .long (z_6.2.1 ^^^ (-1))), (0, .ref q0), (1, .int x1), (2, .int x2), (3, .int x3), (4, .int x4), (5, .int x5), (6, .int z_6.1), (9, .int z_6.2.2)]) hx hb dX1_addNamed_137 hl (by decide) rfl (fun ls hl => ?_)
          refine lv_aload_n hx hb dX1_addNamed_139 rfl (lv_at hl 1 rfl) ?_
          refine lv_iload_n hx hb dX1_addNamed_140 rfl (lv_at hl 2 rfl) ?_
          refine lv_iload hx hb dX1_addNamed_141 (lv_at hl 6 rfl) ?_
          refine lv_lload hx hb dX1_addNamed_143 (lv_at hl 0 rfl) ?_
          obtain ⟨z_10, hz_10⟩ : ∃ z, z = f_X1_addBits n words x1 x5 (z_6.2.1 ^^^ (-1)) := ⟨_, rfl⟩
          replace hu := hu.trans (kb_of hz_10)
          refine k_callV (As := [.int x1, .int x5, .long (z_6.2.1 ^^^ (-1))]) (rest := []) (wc := [(q0, .inr (1, [.ref q1])), (q1, .inl (aC 2, n, .inr (.inl words)))]) (wr := []) (w1 := [(q0, .inr (1, [.ref q1])), (q1, .inl (aC 2, n, .inr (.inl z_10)))]) (wn := [(q0, .inr (1, [.ref q1])), (q1, .inl (aC 2, n, .inr (.inl z_10)))]) ⟨hx, hb, hml, hown, hts⟩ (c_X1_addBits l DD aC tt q0 q1 n words x1 x5 (z_6.2.1 ^^^ (-1)) hp_0 z_10 hz_10) (cwV 3 hts (gdV w_302 w_304 w_6 w_72 w_305) rfl rfl rfl (by decide +kernel) ⟨Nat.le_of_ble_eq_true rfl, Nat.le_of_ble_eq_true rfl⟩) hP hD hS hA hE [0, 1] [] [0, 1] rfl rfl rfl (by decide) (by decide) (by decide) (by decide) (ci := 1) (q0 := 0) rfl rfl rfl hl.1 rfl (Nat.le_of_ble_eq_true rfl) dX1_addNamed_145 (fun H locs hP hD hS => ?_)
          have hP : va_P DD vwCl [(q0, .inr (1, [.ref q1])), (q1, .inl (aC 2, n, .inr (.inl z_10)))] H := hP
          have hD : va_D A [(q0, .inr (1, [.ref q1])), (q1, .inl (aC 2, n, .inr (.inl z_10)))] := hD
          refine W.eq (g2 := F0 m 148 ls []) rfl ?_
          refine lv_iinc (v := x5 + 1) (lv' := [(5, .int (x5 + 1)), (7, .long (z_6.2.1 ^^^ (-1))), (0, .ref q0), (1, .int x1), (2, .int x2), (3, .int x3), (4, .int x4), (6, .int z_6.1), (9, .int z_6.2.2)]) hx hb dX1_addNamed_148 hl (k := 6) rfl rfl (by decide) rfl (fun ls hl => ?_)
          refine lv_goto (tgt := 38) hx hb dX1_addNamed_151 (by decide) ?_
          exact ih z_10 x1 x2 x3 x4 (x5 + 1) (Nat.lt_of_lt_of_le (kmu_up c_2) (Nat.le_of_lt_succ hk)) u hu _ _ _ hP hD hS (lv_sub hl [2, 3, 4, 5, 6, 0] rfl)
      · replace hu := hu.trans (if_pos c_7)
        refine lv_iload_n hx hb dX1_addNamed_115 rfl (lv_at hl 2 rfl) ?_
        refine lv_iload_n hx hb dX1_addNamed_116 rfl (lv_at hl 2 rfl) ?_
        refine lv_iload hx hb dX1_addNamed_117 (lv_at hl 5 rfl) ?_
        obtain ⟨z_11, hz_11⟩ : ∃ z, z = f_X1_spanBits x2 x2 x5 := ⟨_, rfl⟩
        replace hu := hu.trans (kb_of hz_11)
        refine k_callS (As := [.int x2, .int x2, .int x5]) (rest := []) (wc := []) (wr := [(q0, .inr (1, [.ref q1])), (q1, .inl (aC 2, n, .inr (.inl words)))]) (w1 := []) (wn := [(q0, .inr (1, [.ref q1])), (q1, .inl (aC 2, n, .inr (.inl words)))]) ⟨hx, hb, hml, hown, hts⟩ (c_X1_spanBits l DD aC tt    x2 x2 x5  z_11 hz_11) (cwS 3 hts (gdS w_298 w_299 w_72 w_300) rfl rfl rfl (by decide +kernel) ⟨Nat.le_of_ble_eq_true rfl, Nat.le_of_ble_eq_true rfl⟩) hP hD hS hA hE [] [0, 1] [0, 1] rfl rfl rfl (by decide) (by decide) (by decide) (by decide) rfl hl.1 rfl (Nat.le_of_ble_eq_true rfl) dX1_addNamed_119 (fun H locs hP hD hS => ?_)
        refine W.eq (g2 := F0 m 122 ls [.long z_11]) rfl ?_
        refine lv_lstore (lv' := [(7, .long z_11), (0, .ref q0), (1, .int x1), (2, .int x2), (3, .int x3), (4, .int x4), (5, .int x5), (6, .int z_6.1), (9, .int z_6.2.2)]) hx hb dX1_addNamed_122 hl (by decide) rfl (fun ls hl => ?_)
        refine lv_goto (tgt := 139) hx hb dX1_addNamed_124 (by decide) ?_
        refine lv_aload_n hx hb dX1_addNamed_139 rfl (lv_at hl 1 rfl) ?_
        refine lv_iload_n hx hb dX1_addNamed_140 rfl (lv_at hl 2 rfl) ?_
        refine lv_iload hx hb dX1_addNamed_141 (lv_at hl 6 rfl) ?_
        refine lv_lload hx hb dX1_addNamed_143 (lv_at hl 0 rfl) ?_
        obtain ⟨z_12, hz_12⟩ : ∃ z, z = f_X1_addBits n words x1 x5 z_11 := ⟨_, rfl⟩
        replace hu := hu.trans (kb_of hz_12)
        refine k_callV (As := [.int x1, .int x5, .long z_11]) (rest := []) (wc := [(q0, .inr (1, [.ref q1])), (q1, .inl (aC 2, n, .inr (.inl words)))]) (wr := []) (w1 := [(q0, .inr (1, [.ref q1])), (q1, .inl (aC 2, n, .inr (.inl z_12)))]) (wn := [(q0, .inr (1, [.ref q1])), (q1, .inl (aC 2, n, .inr (.inl z_12)))]) ⟨hx, hb, hml, hown, hts⟩ (c_X1_addBits l DD aC tt q0 q1 n words x1 x5 z_11 hp_0 z_12 hz_12) (cwV 3 hts (gdV w_302 w_304 w_6 w_72 w_305) rfl rfl rfl (by decide +kernel) ⟨Nat.le_of_ble_eq_true rfl, Nat.le_of_ble_eq_true rfl⟩) hP hD hS hA hE [0, 1] [] [0, 1] rfl rfl rfl (by decide) (by decide) (by decide) (by decide) (ci := 1) (q0 := 0) rfl rfl rfl hl.1 rfl (Nat.le_of_ble_eq_true rfl) dX1_addNamed_145 (fun H locs hP hD hS => ?_)
        have hP : va_P DD vwCl [(q0, .inr (1, [.ref q1])), (q1, .inl (aC 2, n, .inr (.inl z_12)))] H := hP
        have hD : va_D A [(q0, .inr (1, [.ref q1])), (q1, .inl (aC 2, n, .inr (.inl z_12)))] := hD
        refine W.eq (g2 := F0 m 148 ls []) rfl ?_
        refine lv_iinc (v := x5 + 1) (lv' := [(5, .int (x5 + 1)), (7, .long z_11), (0, .ref q0), (1, .int x1), (2, .int x2), (3, .int x3), (4, .int x4), (6, .int z_6.1), (9, .int z_6.2.2)]) hx hb dX1_addNamed_148 hl (k := 6) rfl rfl (by decide) rfl (fun ls hl => ?_)
        refine lv_goto (tgt := 38) hx hb dX1_addNamed_151 (by decide) ?_
        exact ih z_12 x1 x2 x3 x4 (x5 + 1) (Nat.lt_of_lt_of_le (kmu_up c_2) (Nat.le_of_lt_succ hk)) u hu _ _ _ hP hD hS (lv_sub hl [2, 3, 4, 5, 6, 0] rfl)
set_option maxHeartbeats 4000000 in
set_option maxRecDepth 100000 in
theorem c_X1_addNamed (l : Launch) (DD : va_G) (aC : Nat → ClassId) (tt : Nat → Nat) (q0 q1 n : Nat) (words : Nat → Int64) (a1 : Int32) (a2 : Int32) (hp_0 : n < 1073741824) (u : (Nat → Int64)) (hu : u = f_X1_addNamed n words a1 a2) : kM l yX1_addNamed wsX1_addNamed rm_X1_addNamed DD aC tt [.ref q0, .int a1, .int a2] [(q0, .inr (1, [.ref q1])), (q1, .inl (aC 2, n, .inr (.inl words)))] none [(q0, .inr (1, [.ref q1])), (q1, .inl (aC 2, n, .inr (.inl u)))] := by
  refine k_start (cc := cX1_addNamed) (maxL := 10) (ret := none) (own := RX1) (lv0 := [(0, .ref q0), (1, .int a1), (2, .int a2)]) (by decide) rfl rfl (Nat.le_of_ble_eq_true rfl) rfl (fun p e s m below meth c A ls X hP hD hS hl => ?_)
  obtain ⟨hx, hb, hr, hml, hts, hown, hlocks, hA, hE⟩ := id X
  unfold f_X1_addNamed at hu
  refine lv_iload_n hx hb dX1_addNamed_0 rfl (lv_at hl 2 rfl) ?_
  refine lv_bipush (v := 65) hx hb dX1_addNamed_1 (by decide) ?_
  refine lv_icmp_lt (tgt := 16) hx hb dX1_addNamed_3 (by decide) (fun c_1 => ?_) (fun c_1 => ?_)
  · replace hu := hu.trans (if_pos c_1)
    refine lv_iconst (v := 0) hx hb dX1_addNamed_16 (by decide) ?_
    refine lv_istore_n (lv' := [(3, .int 0), (0, .ref q0), (1, .int a1), (2, .int a2)]) hx hb dX1_addNamed_17 rfl hl (by decide) rfl (fun ls hl => ?_)
    refine lv_iload_n hx hb dX1_addNamed_18 rfl (lv_at hl 0 rfl) ?_
    refine lv_if_eq (tgt := 32) hx hb dX1_addNamed_19 (by decide) (fun _ => ?_) (fun h => absurd (by decide) h)
    refine lv_iload_n hx hb dX1_addNamed_32 rfl (lv_at hl 3 rfl) ?_
    refine lv_istore (lv' := [(4, .int a2), (3, .int 0), (0, .ref q0), (1, .int a1), (2, .int a2)]) hx hb dX1_addNamed_33 hl (by decide) rfl (fun ls hl => ?_)
    refine lv_iconst (v := 0) hx hb dX1_addNamed_35 (by decide) ?_
    refine lv_istore (lv' := [(5, .int 0), (4, .int a2), (3, .int 0), (0, .ref q0), (1, .int a1), (2, .int a2)]) hx hb dX1_addNamed_36 hl (by decide) rfl (fun ls hl => ?_)
    exact t_X1_addNamed_L0 X q0 q1 n a1 a2 hp_0 (((4 : Int32).toInt - (0 : Int32).toInt).toNat + 1) words a1 a2 0 a2 0 (Nat.lt_succ_self _) u hu _ _ _ hP hD hS (lv_sub hl [3, 4, 5, 2, 1, 0] rfl)
  · replace hu := hu.trans (if_neg c_1)
    refine lv_iload_n hx hb dX1_addNamed_6 rfl (lv_at hl 2 rfl) ?_
    refine lv_bipush (v := 90) hx hb dX1_addNamed_7 (by decide) ?_
    refine lv_icmp_gt (tgt := 16) hx hb dX1_addNamed_9 (by decide) (fun c_13 => ?_) (fun c_13 => ?_)
    · replace hu := hu.trans (if_pos c_13)
      refine lv_iconst (v := 0) hx hb dX1_addNamed_16 (by decide) ?_
      refine lv_istore_n (lv' := [(3, .int 0), (0, .ref q0), (1, .int a1), (2, .int a2)]) hx hb dX1_addNamed_17 rfl hl (by decide) rfl (fun ls hl => ?_)
      refine lv_iload_n hx hb dX1_addNamed_18 rfl (lv_at hl 0 rfl) ?_
      refine lv_if_eq (tgt := 32) hx hb dX1_addNamed_19 (by decide) (fun _ => ?_) (fun h => absurd (by decide) h)
      refine lv_iload_n hx hb dX1_addNamed_32 rfl (lv_at hl 3 rfl) ?_
      refine lv_istore (lv' := [(4, .int a2), (3, .int 0), (0, .ref q0), (1, .int a1), (2, .int a2)]) hx hb dX1_addNamed_33 hl (by decide) rfl (fun ls hl => ?_)
      refine lv_iconst (v := 0) hx hb dX1_addNamed_35 (by decide) ?_
      refine lv_istore (lv' := [(5, .int 0), (4, .int a2), (3, .int 0), (0, .ref q0), (1, .int a1), (2, .int a2)]) hx hb dX1_addNamed_36 hl (by decide) rfl (fun ls hl => ?_)
      exact t_X1_addNamed_L0 X q0 q1 n a1 a2 hp_0 (((4 : Int32).toInt - (0 : Int32).toInt).toNat + 1) words a1 a2 0 a2 0 (Nat.lt_succ_self _) u hu _ _ _ hP hD hS (lv_sub hl [3, 4, 5, 2, 1, 0] rfl)
    · replace hu := hu.trans (if_neg c_13)
      refine lv_iconst (v := 1) hx hb dX1_addNamed_12 (by decide) ?_
      refine lv_goto (tgt := 17) hx hb dX1_addNamed_13 (by decide) ?_
      refine lv_istore_n (lv' := [(3, .int 1), (0, .ref q0), (1, .int a1), (2, .int a2)]) hx hb dX1_addNamed_17 rfl hl (by decide) rfl (fun ls hl => ?_)
      refine lv_iload_n hx hb dX1_addNamed_18 rfl (lv_at hl 0 rfl) ?_
      refine lv_if_eq (tgt := 32) hx hb dX1_addNamed_19 (by decide) (fun h => absurd h (by decide)) (fun _ => ?_)
      refine lv_iload_n hx hb dX1_addNamed_22 rfl (lv_at hl 3 rfl) ?_
      refine lv_bipush (v := 65) hx hb dX1_addNamed_23 (by decide) ?_
      refine lv_isub hx hb dX1_addNamed_25 ?_
      refine lv_bipush (v := 97) hx hb dX1_addNamed_26 (by decide) ?_
      refine lv_iadd hx hb dX1_addNamed_28 ?_
      refine lv_goto (tgt := 33) hx hb dX1_addNamed_29 (by decide) ?_
      refine lv_istore (lv' := [(4, .int ((a2 - 65) + 97)), (3, .int 1), (0, .ref q0), (1, .int a1), (2, .int a2)]) hx hb dX1_addNamed_33 hl (by decide) rfl (fun ls hl => ?_)
      refine lv_iconst (v := 0) hx hb dX1_addNamed_35 (by decide) ?_
      refine lv_istore (lv' := [(5, .int 0), (4, .int ((a2 - 65) + 97)), (3, .int 1), (0, .ref q0), (1, .int a1), (2, .int a2)]) hx hb dX1_addNamed_36 hl (by decide) rfl (fun ls hl => ?_)
      exact t_X1_addNamed_L0 X q0 q1 n a1 a2 hp_0 (((4 : Int32).toInt - (0 : Int32).toInt).toNat + 1) words a1 a2 1 ((a2 - 65) + 97) 0 (Nat.lt_succ_self _) u hu _ _ _ hP hD hS (lv_sub hl [3, 4, 5, 2, 1, 0] rfl)

set_option maxHeartbeats 4000000 in
set_option maxRecDepth 100000 in
theorem c_X6_nextToken (l : Launch) (D : va_G) (cI cZ cH : ClassId) (md bt : Nat) (tl ta : Nat) (bf : Nat → Int32) (s13 s14 s15 bd s17 : Int32) (vm_0 vm_1 vm_2 vm_3 vm_4 vm_5 vm_6 vm_7 vm_8 vm_9 vm_18 vm_19 vm_20 vm_21 vm_22 vm_23 : Value) (htl : tl ≤ 120) (hta : ta ≤ tl) : wt_M l yX6_nextToken wsX6_nextToken ({ frames := 1, cells := 0, slots := 0, locals := 25 } : Room) D (wt_T cI cZ cH) [.ref md] [(md, .inr (6, [vm_0, vm_1, vm_2, vm_3, vm_4, vm_5, vm_6, vm_7, vm_8, vm_9, .ref bt, .int (nI tl), .int (nI ta), .int s13, .int s14, .int s15, .int bd, .int s17, vm_18, vm_19, vm_20, vm_21, vm_22, vm_23])), (bt, .inl (cI, 120, .inl bf))] (wt_QV D (fun w => ∃ (ta2 : Nat) (md_f13 md_f14 md_f15 : Int32), w = [(md, .inr (6, [vm_0, vm_1, vm_2, vm_3, vm_4, vm_5, vm_6, vm_7, vm_8, vm_9, .ref bt, .int (nI tl), .int (nI ta2), .int md_f13, .int md_f14, .int md_f15, .int bd, .int s17, vm_18, vm_19, vm_20, vm_21, vm_22, vm_23])), (bt, .inl (cI, 120, .inl bf))] ∧ ta2 ≤ tl)) := by
  refine wt_M.ofW (cc := cX6_nextToken) (maxL := 1) (ret := none) (by decide) rfl (Nat.le_of_ble_eq_true rfl) ?_
  intro p e s m below meth c A ls hx hb hr hts hown hlocks hml hnm hP hK hD hA hS hl
  have hP : va_P D vwCl [(md, .inr (6, [vm_0, vm_1, vm_2, vm_3, vm_4, vm_5, vm_6, vm_7, vm_8, vm_9, .ref bt, .int (nI tl), .int (nI ta), .int s13, .int s14, .int s15, .int bd, .int s17, vm_18, vm_19, vm_20, vm_21, vm_22, vm_23])), (bt, .inl (cI, 120, .inl bf))] s.heap := hP
  have hown : s.vm.findClass RX6 = some m.cls := hown
  have hl : lv_has ls 1 [(0, .ref md)] := hl
  have hi6 : ∀ w ∈ u_ws RX6 TX6 24, w ∈ wsX6_nextToken := by decide +kernel
  have wc90 := hts (.constant RX6 90 (-1000000)) (by decide +kernel)
  have wf102 := hts (.fieldLink RX6 102 "WarmTubesModel" "token" "I") (by decide +kernel)
  have wf31 := hts (.fieldLink RX6 31 "WarmTubesModel" "tape" "[I") (by decide +kernel)
  have wf74 := hts (.fieldLink RX6 74 "WarmTubesModel" "taped" "I") (by decide +kernel)
  have wf81 := hts (.fieldLink RX6 81 "WarmTubesModel" "start" "I") (by decide +kernel)
  have wf87 := hts (.fieldLink RX6 87 "WarmTubesModel" "cursor" "I") (by decide +kernel)
  have wf91 := hts (.fieldLink RX6 91 "WarmTubesModel" "value" "I") (by decide +kernel)
  have wl100 := hts (.constantLong RX6 100 (57)) (by decide +kernel)
  have wl94 := hts (.constantLong RX6 94 (97)) (by decide +kernel)
  have wl96 := hts (.constantLong RX6 96 (122)) (by decide +kernel)
  have wl98 := hts (.constantLong RX6 98 (48)) (by decide +kernel)
  refine lv_aload_n hx hb dX6_nextToken_0 rfl (lv_at hl 0 rfl) ?_
  refine lv_aload_n hx hb dX6_nextToken_1 rfl (lv_at hl 0 rfl) ?_
  refine va_get (D := D) (ci := 6) (v := .int (nI ta)) (C := RX6) (T := TX6) (N := 24) hx hb hts hi6 hown hK.1 hP 0 rfl rfl 12 (by decide) wf87 (fun _ h9 => h9) rfl dX6_nextToken_2 ?_
  refine va_put (D := D) (ci := 6) (v := .int (nI ta)) (ty := .int) (C := RX6) (T := TX6) (N := 24) hx hb hts hi6 tyX6 tyX6_ok nmX6 hown hK.1 hP hD hS 0 rfl rfl 13 (by decide) wf81 (fun _ h9 => h9) rfl (by decide +kernel) rfl rfl (Nat.le_of_ble_eq_true rfl) dX6_nextToken_5 (fun H locs hP hD hS => ?_)
  have hP : va_P D vwCl [(md, .inr (6, [vm_0, vm_1, vm_2, vm_3, vm_4, vm_5, vm_6, vm_7, vm_8, vm_9, .ref bt, .int (nI tl), .int (nI ta), .int (nI ta), .int s14, .int s15, .int bd, .int s17, vm_18, vm_19, vm_20, vm_21, vm_22, vm_23])), (bt, .inl (cI, 120, .inl bf))] H := hP
  have hD : va_D A [(md, .inr (6, [vm_0, vm_1, vm_2, vm_3, vm_4, vm_5, vm_6, vm_7, vm_8, vm_9, .ref bt, .int (nI tl), .int (nI ta), .int (nI ta), .int s14, .int s15, .int bd, .int s17, vm_18, vm_19, vm_20, vm_21, vm_22, vm_23])), (bt, .inl (cI, 120, .inl bf))] := hD
  refine lv_aload_n hx hb dX6_nextToken_8 rfl (lv_at hl 0 rfl) ?_
  refine lv_aload_n hx hb dX6_nextToken_9 rfl (lv_at hl 0 rfl) ?_
  refine va_get (D := D) (ci := 6) (v := .int (nI ta)) (C := RX6) (T := TX6) (N := 24) hx hb hts hi6 hown hK.1 hP 0 rfl rfl 12 (by decide) wf87 (fun _ h9 => h9) rfl dX6_nextToken_10 ?_
  refine lv_aload_n hx hb dX6_nextToken_13 rfl (lv_at hl 0 rfl) ?_
  refine va_get (D := D) (ci := 6) (v := .int (nI tl)) (C := RX6) (T := TX6) (N := 24) hx hb hts hi6 hown hK.1 hP 0 rfl rfl 11 (by decide) wf74 (fun _ h9 => h9) rfl dX6_nextToken_14 ?_
  refine lv_icmp_ge (tgt := 32) hx hb dX6_nextToken_17 (by decide) (fun c_1 => ?_) (fun c_1 => ?_)
  · skip
    have c_1 : tl ≤ ta := (nI_leI (a := tl) (b := ta) (by omega) (by omega)).mp c_1
    refine lv_ldc hx hb hown wc90 dX6_nextToken_32 ?_
    refine va_put (D := D) (ci := 6) (v := .int (-1000000)) (ty := .int) (C := RX6) (T := TX6) (N := 24) hx hb hts hi6 tyX6 tyX6_ok nmX6 hown hK.1 hP hD hS 0 rfl rfl 15 (by decide) wf91 (fun _ h9 => h9) rfl (by decide +kernel) rfl rfl (Nat.le_of_ble_eq_true rfl) dX6_nextToken_34 (fun H locs hP hD hS => ?_)
    have hP : va_P D vwCl [(md, .inr (6, [vm_0, vm_1, vm_2, vm_3, vm_4, vm_5, vm_6, vm_7, vm_8, vm_9, .ref bt, .int (nI tl), .int (nI ta), .int (nI ta), .int s14, .int (-1000000), .int bd, .int s17, vm_18, vm_19, vm_20, vm_21, vm_22, vm_23])), (bt, .inl (cI, 120, .inl bf))] H := hP
    have hD : va_D A [(md, .inr (6, [vm_0, vm_1, vm_2, vm_3, vm_4, vm_5, vm_6, vm_7, vm_8, vm_9, .ref bt, .int (nI tl), .int (nI ta), .int (nI ta), .int s14, .int (-1000000), .int bd, .int s17, vm_18, vm_19, vm_20, vm_21, vm_22, vm_23])), (bt, .inl (cI, 120, .inl bf))] := hD
    refine lv_aload_n hx hb dX6_nextToken_37 rfl (lv_at hl 0 rfl) ?_
    refine lv_aload_n hx hb dX6_nextToken_38 rfl (lv_at hl 0 rfl) ?_
    refine va_get (D := D) (ci := 6) (v := .int (nI ta)) (C := RX6) (T := TX6) (N := 24) hx hb hts hi6 hown hK.1 hP 0 rfl rfl 12 (by decide) wf87 (fun _ h9 => h9) rfl dX6_nextToken_39 ?_
    refine lv_aload_n hx hb dX6_nextToken_42 rfl (lv_at hl 0 rfl) ?_
    refine va_get (D := D) (ci := 6) (v := .int (nI tl)) (C := RX6) (T := TX6) (N := 24) hx hb hts hi6 hown hK.1 hP 0 rfl rfl 11 (by decide) wf74 (fun _ h9 => h9) rfl dX6_nextToken_43 ?_
    refine lv_icmp_ne (tgt := 53) hx hb dX6_nextToken_46 (by decide) (fun c_2 => ?_) (fun c_2 => ?_)
    · skip
      have c_2 : ¬ (ta = tl) := fun h => c_2 ((nI_eq (a := ta) (b := tl) (by omega) (by omega)).mpr h)
      refine lv_aload_n hx hb dX6_nextToken_53 rfl (lv_at hl 0 rfl) ?_
      refine va_get (D := D) (ci := 6) (v := .int (-1000000)) (C := RX6) (T := TX6) (N := 24) hx hb hts hi6 hown hK.1 hP 0 rfl rfl 15 (by decide) wf91 (fun _ h9 => h9) rfl dX6_nextToken_54 ?_
      refine lv_i2l (v := (-1000000)) hx hb dX6_nextToken_57 (by decide) ?_
      refine lv_ldc2 hx hb hown wl94 dX6_nextToken_58 ?_
      refine lv_ldc2 hx hb hown wl96 dX6_nextToken_61 ?_
      refine wt_rS (As := [.long (-1000000), .long 97, .long 122]) (rest := [.ref md]) ⟨hx, hb, hml, hown, hts⟩ (c_X6_in l D cI cZ cH (-1000000) 97 122) (va_cwS 3 hts gX6_nextToken_X6_in rfl rfl rfl (by decide +kernel) ⟨Nat.le_of_ble_eq_true rfl, Nat.le_of_ble_eq_true rfl⟩) hK hP [] rfl rfl hl.1 rfl (Nat.le_of_ble_eq_true rfl) dX6_nextToken_64 ⟨Nat.le_of_ble_eq_true rfl, Nat.le_of_ble_eq_true rfl⟩ (fun r_3 e_4 => ?_)
      subst e_4
      refine lv_topi (fun ov_5 _ => ?_)
      refine lv_if_eq (tgt := 74) hx hb dX6_nextToken_67 (by decide) (fun c_6 => ?_) (fun c_6 => ?_)
      · skip
        refine lv_aload_n hx hb dX6_nextToken_74 rfl (lv_at hl 0 rfl) ?_
        refine va_get (D := D) (ci := 6) (v := .int (-1000000)) (C := RX6) (T := TX6) (N := 24) hx hb hts hi6 hown hK.1 hP 0 rfl rfl 15 (by decide) wf91 (fun _ h9 => h9) rfl dX6_nextToken_75 ?_
        refine lv_i2l (v := (-1000000)) hx hb dX6_nextToken_78 (by decide) ?_
        refine lv_ldc2 hx hb hown wl98 dX6_nextToken_79 ?_
        refine lv_ldc2 hx hb hown wl100 dX6_nextToken_82 ?_
        refine wt_rS (As := [.long (-1000000), .long 48, .long 57]) (rest := [.ref md]) ⟨hx, hb, hml, hown, hts⟩ (c_X6_in l D cI cZ cH (-1000000) 48 57) (va_cwS 3 hts gX6_nextToken_X6_in rfl rfl rfl (by decide +kernel) ⟨Nat.le_of_ble_eq_true rfl, Nat.le_of_ble_eq_true rfl⟩) hK hP [] rfl rfl hl.1 rfl (Nat.le_of_ble_eq_true rfl) dX6_nextToken_85 ⟨Nat.le_of_ble_eq_true rfl, Nat.le_of_ble_eq_true rfl⟩ (fun r_7 e_8 => ?_)
        subst e_8
        refine lv_topi (fun ov_9 _ => ?_)
        refine lv_if_eq (tgt := 95) hx hb dX6_nextToken_88 (by decide) (fun c_10 => ?_) (fun c_10 => ?_)
        · skip
          refine lv_aload_n hx hb dX6_nextToken_95 rfl (lv_at hl 0 rfl) ?_
          refine va_get (D := D) (ci := 6) (v := .int (-1000000)) (C := RX6) (T := TX6) (N := 24) hx hb hts hi6 hown hK.1 hP 0 rfl rfl 15 (by decide) wf91 (fun _ h9 => h9) rfl dX6_nextToken_96 ?_
          refine lv_bipush (v := 44) hx hb dX6_nextToken_99 (by decide) ?_
          refine lv_icmp_eq (tgt := 113) hx hb dX6_nextToken_101 (by decide) (fun h => absurd h (by decide)) (fun _ => ?_)
          refine lv_aload_n hx hb dX6_nextToken_104 rfl (lv_at hl 0 rfl) ?_
          refine va_get (D := D) (ci := 6) (v := .int (-1000000)) (C := RX6) (T := TX6) (N := 24) hx hb hts hi6 hown hK.1 hP 0 rfl rfl 15 (by decide) wf91 (fun _ h9 => h9) rfl dX6_nextToken_105 ?_
          refine lv_bipush (v := 59) hx hb dX6_nextToken_108 (by decide) ?_
          refine lv_icmp_ne (tgt := 117) hx hb dX6_nextToken_110 (by decide) (fun _ => ?_) (fun h => absurd h (by decide))
          refine lv_iconst (v := 0) hx hb dX6_nextToken_117 (by decide) ?_
          refine va_put (D := D) (ci := 6) (v := .int 0) (ty := .int) (C := RX6) (T := TX6) (N := 24) hx hb hts hi6 tyX6 tyX6_ok nmX6 hown hK.1 hP hD hS 0 rfl rfl 14 (by decide) wf102 (fun _ h9 => h9) rfl (by decide +kernel) rfl rfl (Nat.le_of_ble_eq_true rfl) dX6_nextToken_118 (fun H locs hP hD hS => ?_)
          have hP : va_P D vwCl [(md, .inr (6, [vm_0, vm_1, vm_2, vm_3, vm_4, vm_5, vm_6, vm_7, vm_8, vm_9, .ref bt, .int (nI tl), .int (nI ta), .int (nI ta), .int 0, .int (-1000000), .int bd, .int s17, vm_18, vm_19, vm_20, vm_21, vm_22, vm_23])), (bt, .inl (cI, 120, .inl bf))] H := hP
          have hD : va_D A [(md, .inr (6, [vm_0, vm_1, vm_2, vm_3, vm_4, vm_5, vm_6, vm_7, vm_8, vm_9, .ref bt, .int (nI tl), .int (nI ta), .int (nI ta), .int 0, .int (-1000000), .int bd, .int s17, vm_18, vm_19, vm_20, vm_21, vm_22, vm_23])), (bt, .inl (cI, 120, .inl bf))] := hD
          refine lv_aload_n hx hb dX6_nextToken_121 rfl (lv_at hl 0 rfl) ?_
          refine lv_dup hx hb dX6_nextToken_122 rfl ?_
          refine va_get (D := D) (ci := 6) (v := .int (nI ta)) (C := RX6) (T := TX6) (N := 24) hx hb hts hi6 hown hK.1 hP 0 rfl rfl 12 (by decide) wf87 (fun _ h9 => h9) rfl dX6_nextToken_123 ?_
          refine lv_aload_n hx hb dX6_nextToken_126 rfl (lv_at hl 0 rfl) ?_
          refine va_get (D := D) (ci := 6) (v := .int (nI ta)) (C := RX6) (T := TX6) (N := 24) hx hb hts hi6 hown hK.1 hP 0 rfl rfl 12 (by decide) wf87 (fun _ h9 => h9) rfl dX6_nextToken_127 ?_
          refine lv_aload_n hx hb dX6_nextToken_130 rfl (lv_at hl 0 rfl) ?_
          refine va_get (D := D) (ci := 6) (v := .int (nI tl)) (C := RX6) (T := TX6) (N := 24) hx hb hts hi6 hown hK.1 hP 0 rfl rfl 11 (by decide) wf74 (fun _ h9 => h9) rfl dX6_nextToken_131 ?_
          refine lv_icmp_ge (tgt := 141) hx hb dX6_nextToken_134 (by decide) (fun c_11 => ?_) (fun c_11 => ?_)
          · skip
            have c_11 : tl ≤ ta := (nI_leI (a := tl) (b := ta) (by omega) (by omega)).mp c_11
            refine lv_iconst (v := 0) hx hb dX6_nextToken_141 (by decide) ?_
            refine lv_iadd hx hb dX6_nextToken_142 ?_
            refine wt_top (z := nI (ta + 0)) (nI_add ta 0) ?_
            refine va_put (D := D) (ci := 6) (v := .int (nI (ta + 0))) (ty := .int) (C := RX6) (T := TX6) (N := 24) hx hb hts hi6 tyX6 tyX6_ok nmX6 hown hK.1 hP hD hS 0 rfl rfl 12 (by decide) wf87 (fun _ h9 => h9) rfl (by decide +kernel) rfl rfl (Nat.le_of_ble_eq_true rfl) dX6_nextToken_143 (fun H locs hP hD hS => ?_)
            have hP : va_P D vwCl [(md, .inr (6, [vm_0, vm_1, vm_2, vm_3, vm_4, vm_5, vm_6, vm_7, vm_8, vm_9, .ref bt, .int (nI tl), .int (nI (ta + 0)), .int (nI ta), .int 0, .int (-1000000), .int bd, .int s17, vm_18, vm_19, vm_20, vm_21, vm_22, vm_23])), (bt, .inl (cI, 120, .inl bf))] H := hP
            have hD : va_D A [(md, .inr (6, [vm_0, vm_1, vm_2, vm_3, vm_4, vm_5, vm_6, vm_7, vm_8, vm_9, .ref bt, .int (nI tl), .int (nI (ta + 0)), .int (nI ta), .int 0, .int (-1000000), .int bd, .int s17, vm_18, vm_19, vm_20, vm_21, vm_22, vm_23])), (bt, .inl (cI, 120, .inl bf))] := hD
            refine lv_aload_n hx hb dX6_nextToken_146 rfl (lv_at hl 0 rfl) ?_
            refine va_get (D := D) (ci := 6) (v := .int 0) (C := RX6) (T := TX6) (N := 24) hx hb hts hi6 hown hK.1 hP 0 rfl rfl 14 (by decide) wf102 (fun _ h9 => h9) rfl dX6_nextToken_147 ?_
            refine lv_iconst (v := 3) hx hb dX6_nextToken_150 (by decide) ?_
            refine lv_icmp_ne (tgt := 277) hx hb dX6_nextToken_151 (by decide) (fun _ => ?_) (fun h => absurd h (by decide))
            have hP9 := hP.sub (ws' := [(md, .inr (6, [vm_0, vm_1, vm_2, vm_3, vm_4, vm_5, vm_6, vm_7, vm_8, vm_9, .ref bt, .int (nI tl), .int (nI (ta + 0)), .int (nI ta), .int 0, .int (-1000000), .int bd, .int s17, vm_18, vm_19, vm_20, vm_21, vm_22, vm_23])), (bt, .inl (cI, 120, .inl bf))]) [0, 1] rfl
            have hD9 := hD.sub (ws' := [(md, .inr (6, [vm_0, vm_1, vm_2, vm_3, vm_4, vm_5, vm_6, vm_7, vm_8, vm_9, .ref bt, .int (nI tl), .int (nI (ta + 0)), .int (nI ta), .int 0, .int (-1000000), .int bd, .int s17, vm_18, vm_19, vm_20, vm_21, vm_22, vm_23])), (bt, .inl (cI, 120, .inl bf))]) [0, 1] (by decide) rfl
            exact wt_vret hx hb hr hlocks hP9 hD9 hS ⟨(ta + 0), (nI ta), 0, (-1000000), rfl, (by omega)⟩ dX6_nextToken_277
          · skip
            have c_11 : ¬ (tl ≤ ta) := fun h => c_11 ((nI_leI (a := tl) (b := ta) (by omega) (by omega)).mpr h)
            refine lv_iconst (v := 1) hx hb dX6_nextToken_137 (by decide) ?_
            refine lv_goto (tgt := 142) hx hb dX6_nextToken_138 (by decide) ?_
            refine lv_iadd hx hb dX6_nextToken_142 ?_
            refine wt_top (z := nI (ta + 1)) (nI_add ta 1) ?_
            refine va_put (D := D) (ci := 6) (v := .int (nI (ta + 1))) (ty := .int) (C := RX6) (T := TX6) (N := 24) hx hb hts hi6 tyX6 tyX6_ok nmX6 hown hK.1 hP hD hS 0 rfl rfl 12 (by decide) wf87 (fun _ h9 => h9) rfl (by decide +kernel) rfl rfl (Nat.le_of_ble_eq_true rfl) dX6_nextToken_143 (fun H locs hP hD hS => ?_)
            have hP : va_P D vwCl [(md, .inr (6, [vm_0, vm_1, vm_2, vm_3, vm_4, vm_5, vm_6, vm_7, vm_8, vm_9, .ref bt, .int (nI tl), .int (nI (ta + 1)), .int (nI ta), .int 0, .int (-1000000), .int bd, .int s17, vm_18, vm_19, vm_20, vm_21, vm_22, vm_23])), (bt, .inl (cI, 120, .inl bf))] H := hP
            have hD : va_D A [(md, .inr (6, [vm_0, vm_1, vm_2, vm_3, vm_4, vm_5, vm_6, vm_7, vm_8, vm_9, .ref bt, .int (nI tl), .int (nI (ta + 1)), .int (nI ta), .int 0, .int (-1000000), .int bd, .int s17, vm_18, vm_19, vm_20, vm_21, vm_22, vm_23])), (bt, .inl (cI, 120, .inl bf))] := hD
            refine lv_aload_n hx hb dX6_nextToken_146 rfl (lv_at hl 0 rfl) ?_
            refine va_get (D := D) (ci := 6) (v := .int 0) (C := RX6) (T := TX6) (N := 24) hx hb hts hi6 hown hK.1 hP 0 rfl rfl 14 (by decide) wf102 (fun _ h9 => h9) rfl dX6_nextToken_147 ?_
            refine lv_iconst (v := 3) hx hb dX6_nextToken_150 (by decide) ?_
            refine lv_icmp_ne (tgt := 277) hx hb dX6_nextToken_151 (by decide) (fun _ => ?_) (fun h => absurd h (by decide))
            have hP9 := hP.sub (ws' := [(md, .inr (6, [vm_0, vm_1, vm_2, vm_3, vm_4, vm_5, vm_6, vm_7, vm_8, vm_9, .ref bt, .int (nI tl), .int (nI (ta + 1)), .int (nI ta), .int 0, .int (-1000000), .int bd, .int s17, vm_18, vm_19, vm_20, vm_21, vm_22, vm_23])), (bt, .inl (cI, 120, .inl bf))]) [0, 1] rfl
            have hD9 := hD.sub (ws' := [(md, .inr (6, [vm_0, vm_1, vm_2, vm_3, vm_4, vm_5, vm_6, vm_7, vm_8, vm_9, .ref bt, .int (nI tl), .int (nI (ta + 1)), .int (nI ta), .int 0, .int (-1000000), .int bd, .int s17, vm_18, vm_19, vm_20, vm_21, vm_22, vm_23])), (bt, .inl (cI, 120, .inl bf))]) [0, 1] (by decide) rfl
            exact wt_vret hx hb hr hlocks hP9 hD9 hS ⟨(ta + 1), (nI ta), 0, (-1000000), rfl, (by omega)⟩ dX6_nextToken_277
        · skip
          refine lv_iconst (v := 3) hx hb dX6_nextToken_91 (by decide) ?_
          refine lv_goto (tgt := 118) hx hb dX6_nextToken_92 (by decide) ?_
          refine va_put (D := D) (ci := 6) (v := .int 3) (ty := .int) (C := RX6) (T := TX6) (N := 24) hx hb hts hi6 tyX6 tyX6_ok nmX6 hown hK.1 hP hD hS 0 rfl rfl 14 (by decide) wf102 (fun _ h9 => h9) rfl (by decide +kernel) rfl rfl (Nat.le_of_ble_eq_true rfl) dX6_nextToken_118 (fun H locs hP hD hS => ?_)
          have hP : va_P D vwCl [(md, .inr (6, [vm_0, vm_1, vm_2, vm_3, vm_4, vm_5, vm_6, vm_7, vm_8, vm_9, .ref bt, .int (nI tl), .int (nI ta), .int (nI ta), .int 3, .int (-1000000), .int bd, .int s17, vm_18, vm_19, vm_20, vm_21, vm_22, vm_23])), (bt, .inl (cI, 120, .inl bf))] H := hP
          have hD : va_D A [(md, .inr (6, [vm_0, vm_1, vm_2, vm_3, vm_4, vm_5, vm_6, vm_7, vm_8, vm_9, .ref bt, .int (nI tl), .int (nI ta), .int (nI ta), .int 3, .int (-1000000), .int bd, .int s17, vm_18, vm_19, vm_20, vm_21, vm_22, vm_23])), (bt, .inl (cI, 120, .inl bf))] := hD
          refine lv_aload_n hx hb dX6_nextToken_121 rfl (lv_at hl 0 rfl) ?_
          refine lv_dup hx hb dX6_nextToken_122 rfl ?_
          refine va_get (D := D) (ci := 6) (v := .int (nI ta)) (C := RX6) (T := TX6) (N := 24) hx hb hts hi6 hown hK.1 hP 0 rfl rfl 12 (by decide) wf87 (fun _ h9 => h9) rfl dX6_nextToken_123 ?_
          refine lv_aload_n hx hb dX6_nextToken_126 rfl (lv_at hl 0 rfl) ?_
          refine va_get (D := D) (ci := 6) (v := .int (nI ta)) (C := RX6) (T := TX6) (N := 24) hx hb hts hi6 hown hK.1 hP 0 rfl rfl 12 (by decide) wf87 (fun _ h9 => h9) rfl dX6_nextToken_127 ?_
          refine lv_aload_n hx hb dX6_nextToken_130 rfl (lv_at hl 0 rfl) ?_
          refine va_get (D := D) (ci := 6) (v := .int (nI tl)) (C := RX6) (T := TX6) (N := 24) hx hb hts hi6 hown hK.1 hP 0 rfl rfl 11 (by decide) wf74 (fun _ h9 => h9) rfl dX6_nextToken_131 ?_
          refine lv_icmp_ge (tgt := 141) hx hb dX6_nextToken_134 (by decide) (fun c_12 => ?_) (fun c_12 => ?_)
          · skip
            have c_12 : tl ≤ ta := (nI_leI (a := tl) (b := ta) (by omega) (by omega)).mp c_12
            refine lv_iconst (v := 0) hx hb dX6_nextToken_141 (by decide) ?_
            refine lv_iadd hx hb dX6_nextToken_142 ?_
            refine wt_top (z := nI (ta + 0)) (nI_add ta 0) ?_
            refine va_put (D := D) (ci := 6) (v := .int (nI (ta + 0))) (ty := .int) (C := RX6) (T := TX6) (N := 24) hx hb hts hi6 tyX6 tyX6_ok nmX6 hown hK.1 hP hD hS 0 rfl rfl 12 (by decide) wf87 (fun _ h9 => h9) rfl (by decide +kernel) rfl rfl (Nat.le_of_ble_eq_true rfl) dX6_nextToken_143 (fun H locs hP hD hS => ?_)
            have hP : va_P D vwCl [(md, .inr (6, [vm_0, vm_1, vm_2, vm_3, vm_4, vm_5, vm_6, vm_7, vm_8, vm_9, .ref bt, .int (nI tl), .int (nI (ta + 0)), .int (nI ta), .int 3, .int (-1000000), .int bd, .int s17, vm_18, vm_19, vm_20, vm_21, vm_22, vm_23])), (bt, .inl (cI, 120, .inl bf))] H := hP
            have hD : va_D A [(md, .inr (6, [vm_0, vm_1, vm_2, vm_3, vm_4, vm_5, vm_6, vm_7, vm_8, vm_9, .ref bt, .int (nI tl), .int (nI (ta + 0)), .int (nI ta), .int 3, .int (-1000000), .int bd, .int s17, vm_18, vm_19, vm_20, vm_21, vm_22, vm_23])), (bt, .inl (cI, 120, .inl bf))] := hD
            refine lv_aload_n hx hb dX6_nextToken_146 rfl (lv_at hl 0 rfl) ?_
            refine va_get (D := D) (ci := 6) (v := .int 3) (C := RX6) (T := TX6) (N := 24) hx hb hts hi6 hown hK.1 hP 0 rfl rfl 14 (by decide) wf102 (fun _ h9 => h9) rfl dX6_nextToken_147 ?_
            refine lv_iconst (v := 3) hx hb dX6_nextToken_150 (by decide) ?_
            refine lv_icmp_ne (tgt := 277) hx hb dX6_nextToken_151 (by decide) (fun h => absurd h (by decide)) (fun _ => ?_)
            refine lv_aload_n hx hb dX6_nextToken_154 rfl (lv_at hl 0 rfl) ?_
            refine lv_dup hx hb dX6_nextToken_155 rfl ?_
            refine va_get (D := D) (ci := 6) (v := .int (-1000000)) (C := RX6) (T := TX6) (N := 24) hx hb hts hi6 hown hK.1 hP 0 rfl rfl 15 (by decide) wf91 (fun _ h9 => h9) rfl dX6_nextToken_156 ?_
            refine lv_bipush (v := 48) hx hb dX6_nextToken_159 (by decide) ?_
            refine lv_isub hx hb dX6_nextToken_161 ?_
            refine wt_top (z := (-1000048)) (by decide) ?_
            refine va_put (D := D) (ci := 6) (v := .int (-1000048)) (ty := .int) (C := RX6) (T := TX6) (N := 24) hx hb hts hi6 tyX6 tyX6_ok nmX6 hown hK.1 hP hD hS 0 rfl rfl 15 (by decide) wf91 (fun _ h9 => h9) rfl (by decide +kernel) rfl rfl (Nat.le_of_ble_eq_true rfl) dX6_nextToken_162 (fun H locs hP hD hS => ?_)
            have hP : va_P D vwCl [(md, .inr (6, [vm_0, vm_1, vm_2, vm_3, vm_4, vm_5, vm_6, vm_7, vm_8, vm_9, .ref bt, .int (nI tl), .int (nI (ta + 0)), .int (nI ta), .int 3, .int (-1000048), .int bd, .int s17, vm_18, vm_19, vm_20, vm_21, vm_22, vm_23])), (bt, .inl (cI, 120, .inl bf))] H := hP
            have hD : va_D A [(md, .inr (6, [vm_0, vm_1, vm_2, vm_3, vm_4, vm_5, vm_6, vm_7, vm_8, vm_9, .ref bt, .int (nI tl), .int (nI (ta + 0)), .int (nI ta), .int 3, .int (-1000048), .int bd, .int s17, vm_18, vm_19, vm_20, vm_21, vm_22, vm_23])), (bt, .inl (cI, 120, .inl bf))] := hD
            have loop165 : ∀ (k i_13 : Nat) (v_14 : Int32) (H : Heap) (locs : List Loc) (ls : Array Slot), i_13 + k = tl → va_P D vwCl [(md, .inr (6, [vm_0, vm_1, vm_2, vm_3, vm_4, vm_5, vm_6, vm_7, vm_8, vm_9, .ref bt, .int (nI tl), .int (nI i_13), .int (nI ta), .int 3, .int v_14, .int bd, .int s17, vm_18, vm_19, vm_20, vm_21, vm_22, vm_23])), (bt, .inl (cI, 120, .inl bf))] H → va_D A [(md, .inr (6, [vm_0, vm_1, vm_2, vm_3, vm_4, vm_5, vm_6, vm_7, vm_8, vm_9, .ref bt, .int (nI tl), .int (nI i_13), .int (nI ta), .int 3, .int v_14, .int bd, .int s17, vm_18, vm_19, vm_20, vm_21, vm_22, vm_23])), (bt, .inl (cI, 120, .inl bf))] → va_S A s.heap H locs → lv_has ls 1 [(0, .ref md)] → W p l e ({ frames := 1, cells := 0, slots := 0, locals := 25 } : Room) s m ([.ref md] : List Value).toArray below meth c H locs 0 0 (MQ below (wt_QV D (fun w => ∃ (ta2 : Nat) (md_f13 md_f14 md_f15 : Int32), w = [(md, .inr (6, [vm_0, vm_1, vm_2, vm_3, vm_4, vm_5, vm_6, vm_7, vm_8, vm_9, .ref bt, .int (nI tl), .int (nI ta2), .int md_f13, .int md_f14, .int md_f15, .int bd, .int s17, vm_18, vm_19, vm_20, vm_21, vm_22, vm_23])), (bt, .inl (cI, 120, .inl bf))] ∧ ta2 ≤ tl) A) ([.ref md] : List Value).toArray s 0 0 A) (F0 m 165 ls []) := by
              intro k
              induction k with
              | zero =>
                intro i_13 v_14 H locs ls hik  hP hD hS hl
                refine lv_aload_n hx hb dX6_nextToken_165 rfl (lv_at hl 0 rfl) ?_
                refine va_get (D := D) (ci := 6) (v := .int (nI i_13)) (C := RX6) (T := TX6) (N := 24) hx hb hts hi6 hown hK.1 hP 0 rfl rfl 12 (by decide) wf87 (fun _ h9 => h9) rfl dX6_nextToken_166 ?_
                refine lv_aload_n hx hb dX6_nextToken_169 rfl (lv_at hl 0 rfl) ?_
                refine va_get (D := D) (ci := 6) (v := .int (nI tl)) (C := RX6) (T := TX6) (N := 24) hx hb hts hi6 hown hK.1 hP 0 rfl rfl 11 (by decide) wf74 (fun _ h9 => h9) rfl dX6_nextToken_170 ?_
                refine lv_icmp_ge (tgt := 255) hx hb dX6_nextToken_173 (by decide) (fun _ => ?_) (fun h => absurd (nI_le (a := tl) (b := i_13) (by omega) (by omega)) h)
                refine lv_aload_n hx hb dX6_nextToken_255 rfl (lv_at hl 0 rfl) ?_
                refine lv_aload_n hx hb dX6_nextToken_256 rfl (lv_at hl 0 rfl) ?_
                refine va_get (D := D) (ci := 6) (v := .int (nI i_13)) (C := RX6) (T := TX6) (N := 24) hx hb hts hi6 hown hK.1 hP 0 rfl rfl 12 (by decide) wf87 (fun _ h9 => h9) rfl dX6_nextToken_257 ?_
                refine lv_aload_n hx hb dX6_nextToken_260 rfl (lv_at hl 0 rfl) ?_
                refine va_get (D := D) (ci := 6) (v := .int (nI ta)) (C := RX6) (T := TX6) (N := 24) hx hb hts hi6 hown hK.1 hP 0 rfl rfl 13 (by decide) wf81 (fun _ h9 => h9) rfl dX6_nextToken_261 ?_
                refine lv_isub hx hb dX6_nextToken_264 ?_
                refine lv_topi (fun ov_15 _ => ?_)
                refine lv_iconst (v := 2) hx hb dX6_nextToken_265 (by decide) ?_
                refine lv_icmp_le (tgt := 273) hx hb dX6_nextToken_266 (by decide) (fun c_16 => ?_) (fun c_16 => ?_)
                · skip
                  refine lv_iconst (v := 3) hx hb dX6_nextToken_273 (by decide) ?_
                  refine va_put (D := D) (ci := 6) (v := .int 3) (ty := .int) (C := RX6) (T := TX6) (N := 24) hx hb hts hi6 tyX6 tyX6_ok nmX6 hown hK.1 hP hD hS 0 rfl rfl 14 (by decide) wf102 (fun _ h9 => h9) rfl (by decide +kernel) rfl rfl (Nat.le_of_ble_eq_true rfl) dX6_nextToken_274 (fun H locs hP hD hS => ?_)
                  have hP : va_P D vwCl [(md, .inr (6, [vm_0, vm_1, vm_2, vm_3, vm_4, vm_5, vm_6, vm_7, vm_8, vm_9, .ref bt, .int (nI tl), .int (nI i_13), .int (nI ta), .int 3, .int v_14, .int bd, .int s17, vm_18, vm_19, vm_20, vm_21, vm_22, vm_23])), (bt, .inl (cI, 120, .inl bf))] H := hP
                  have hD : va_D A [(md, .inr (6, [vm_0, vm_1, vm_2, vm_3, vm_4, vm_5, vm_6, vm_7, vm_8, vm_9, .ref bt, .int (nI tl), .int (nI i_13), .int (nI ta), .int 3, .int v_14, .int bd, .int s17, vm_18, vm_19, vm_20, vm_21, vm_22, vm_23])), (bt, .inl (cI, 120, .inl bf))] := hD
                  have hP9 := hP.sub (ws' := [(md, .inr (6, [vm_0, vm_1, vm_2, vm_3, vm_4, vm_5, vm_6, vm_7, vm_8, vm_9, .ref bt, .int (nI tl), .int (nI i_13), .int (nI ta), .int 3, .int v_14, .int bd, .int s17, vm_18, vm_19, vm_20, vm_21, vm_22, vm_23])), (bt, .inl (cI, 120, .inl bf))]) [0, 1] rfl
                  have hD9 := hD.sub (ws' := [(md, .inr (6, [vm_0, vm_1, vm_2, vm_3, vm_4, vm_5, vm_6, vm_7, vm_8, vm_9, .ref bt, .int (nI tl), .int (nI i_13), .int (nI ta), .int 3, .int v_14, .int bd, .int s17, vm_18, vm_19, vm_20, vm_21, vm_22, vm_23])), (bt, .inl (cI, 120, .inl bf))]) [0, 1] (by decide) rfl
                  exact wt_vret hx hb hr hlocks hP9 hD9 hS ⟨i_13, (nI ta), 3, v_14, rfl, (by omega)⟩ dX6_nextToken_277
                · skip
                  refine lv_iconst (v := 0) hx hb dX6_nextToken_269 (by decide) ?_
                  refine lv_goto (tgt := 274) hx hb dX6_nextToken_270 (by decide) ?_
                  refine va_put (D := D) (ci := 6) (v := .int 0) (ty := .int) (C := RX6) (T := TX6) (N := 24) hx hb hts hi6 tyX6 tyX6_ok nmX6 hown hK.1 hP hD hS 0 rfl rfl 14 (by decide) wf102 (fun _ h9 => h9) rfl (by decide +kernel) rfl rfl (Nat.le_of_ble_eq_true rfl) dX6_nextToken_274 (fun H locs hP hD hS => ?_)
                  have hP : va_P D vwCl [(md, .inr (6, [vm_0, vm_1, vm_2, vm_3, vm_4, vm_5, vm_6, vm_7, vm_8, vm_9, .ref bt, .int (nI tl), .int (nI i_13), .int (nI ta), .int 0, .int v_14, .int bd, .int s17, vm_18, vm_19, vm_20, vm_21, vm_22, vm_23])), (bt, .inl (cI, 120, .inl bf))] H := hP
                  have hD : va_D A [(md, .inr (6, [vm_0, vm_1, vm_2, vm_3, vm_4, vm_5, vm_6, vm_7, vm_8, vm_9, .ref bt, .int (nI tl), .int (nI i_13), .int (nI ta), .int 0, .int v_14, .int bd, .int s17, vm_18, vm_19, vm_20, vm_21, vm_22, vm_23])), (bt, .inl (cI, 120, .inl bf))] := hD
                  have hP9 := hP.sub (ws' := [(md, .inr (6, [vm_0, vm_1, vm_2, vm_3, vm_4, vm_5, vm_6, vm_7, vm_8, vm_9, .ref bt, .int (nI tl), .int (nI i_13), .int (nI ta), .int 0, .int v_14, .int bd, .int s17, vm_18, vm_19, vm_20, vm_21, vm_22, vm_23])), (bt, .inl (cI, 120, .inl bf))]) [0, 1] rfl
                  have hD9 := hD.sub (ws' := [(md, .inr (6, [vm_0, vm_1, vm_2, vm_3, vm_4, vm_5, vm_6, vm_7, vm_8, vm_9, .ref bt, .int (nI tl), .int (nI i_13), .int (nI ta), .int 0, .int v_14, .int bd, .int s17, vm_18, vm_19, vm_20, vm_21, vm_22, vm_23])), (bt, .inl (cI, 120, .inl bf))]) [0, 1] (by decide) rfl
                  exact wt_vret hx hb hr hlocks hP9 hD9 hS ⟨i_13, (nI ta), 0, v_14, rfl, (by omega)⟩ dX6_nextToken_277
              | succ k ih165 =>
                intro i_13 v_14 H locs ls hik  hP hD hS hl
                refine lv_aload_n hx hb dX6_nextToken_165 rfl (lv_at hl 0 rfl) ?_
                refine va_get (D := D) (ci := 6) (v := .int (nI i_13)) (C := RX6) (T := TX6) (N := 24) hx hb hts hi6 hown hK.1 hP 0 rfl rfl 12 (by decide) wf87 (fun _ h9 => h9) rfl dX6_nextToken_166 ?_
                refine lv_aload_n hx hb dX6_nextToken_169 rfl (lv_at hl 0 rfl) ?_
                refine va_get (D := D) (ci := 6) (v := .int (nI tl)) (C := RX6) (T := TX6) (N := 24) hx hb hts hi6 hown hK.1 hP 0 rfl rfl 11 (by decide) wf74 (fun _ h9 => h9) rfl dX6_nextToken_170 ?_
                refine lv_icmp_ge (tgt := 255) hx hb dX6_nextToken_173 (by decide) (fun h => absurd h (nI_ge (a := i_13) (b := tl) (by omega) (by omega))) (fun _ => ?_)
                refine lv_aload_n hx hb dX6_nextToken_176 rfl (lv_at hl 0 rfl) ?_
                refine va_get (D := D) (ci := 6) (v := .ref bt) (C := RX6) (T := TX6) (N := 24) hx hb hts hi6 hown hK.1 hP 0 rfl rfl 10 (by decide) wf31 (fun _ h9 => h9) rfl dX6_nextToken_177 ?_
                refine lv_aload_n hx hb dX6_nextToken_180 rfl (lv_at hl 0 rfl) ?_
                refine va_get (D := D) (ci := 6) (v := .int (nI i_13)) (C := RX6) (T := TX6) (N := 24) hx hb hts hi6 hown hK.1 hP 0 rfl rfl 12 (by decide) wf87 (fun _ h9 => h9) rfl dX6_nextToken_181 ?_
                refine va_iald hx hb hK.1 hP 1 0 rfl rfl (vp_in_nI (by omega) (by omega)) dX6_nextToken_184 ?_
                refine lv_topi (fun ov_17 _ => ?_)
                refine lv_i2l hx hb dX6_nextToken_185 rfl ?_
                refine lv_ldc2 hx hb hown wl98 dX6_nextToken_186 ?_
                refine lv_ldc2 hx hb hown wl100 dX6_nextToken_189 ?_
                refine wt_rS (As := [.long ov_17.toInt64, .long 48, .long 57]) (rest := []) ⟨hx, hb, hml, hown, hts⟩ (c_X6_in l D cI cZ cH ov_17.toInt64 48 57) (va_cwS 3 hts gX6_nextToken_X6_in rfl rfl rfl (by decide +kernel) ⟨Nat.le_of_ble_eq_true rfl, Nat.le_of_ble_eq_true rfl⟩) hK hP [] rfl rfl hl.1 rfl (Nat.le_of_ble_eq_true rfl) dX6_nextToken_192 ⟨Nat.le_of_ble_eq_true rfl, Nat.le_of_ble_eq_true rfl⟩ (fun r_18 e_19 => ?_)
                subst e_19
                refine wt_top (z := wI ov_17 48 57) (wL_I' (by decide) (by decide)) ?_
                refine lv_if_eq (tgt := 255) hx hb dX6_nextToken_195 (by decide) (fun c_20 => ?_) (fun c_20 => ?_)
                · skip
                  refine lv_aload_n hx hb dX6_nextToken_255 rfl (lv_at hl 0 rfl) ?_
                  refine lv_aload_n hx hb dX6_nextToken_256 rfl (lv_at hl 0 rfl) ?_
                  refine va_get (D := D) (ci := 6) (v := .int (nI i_13)) (C := RX6) (T := TX6) (N := 24) hx hb hts hi6 hown hK.1 hP 0 rfl rfl 12 (by decide) wf87 (fun _ h9 => h9) rfl dX6_nextToken_257 ?_
                  refine lv_aload_n hx hb dX6_nextToken_260 rfl (lv_at hl 0 rfl) ?_
                  refine va_get (D := D) (ci := 6) (v := .int (nI ta)) (C := RX6) (T := TX6) (N := 24) hx hb hts hi6 hown hK.1 hP 0 rfl rfl 13 (by decide) wf81 (fun _ h9 => h9) rfl dX6_nextToken_261 ?_
                  refine lv_isub hx hb dX6_nextToken_264 ?_
                  refine lv_topi (fun ov_21 _ => ?_)
                  refine lv_iconst (v := 2) hx hb dX6_nextToken_265 (by decide) ?_
                  refine lv_icmp_le (tgt := 273) hx hb dX6_nextToken_266 (by decide) (fun c_22 => ?_) (fun c_22 => ?_)
                  · skip
                    refine lv_iconst (v := 3) hx hb dX6_nextToken_273 (by decide) ?_
                    refine va_put (D := D) (ci := 6) (v := .int 3) (ty := .int) (C := RX6) (T := TX6) (N := 24) hx hb hts hi6 tyX6 tyX6_ok nmX6 hown hK.1 hP hD hS 0 rfl rfl 14 (by decide) wf102 (fun _ h9 => h9) rfl (by decide +kernel) rfl rfl (Nat.le_of_ble_eq_true rfl) dX6_nextToken_274 (fun H locs hP hD hS => ?_)
                    have hP : va_P D vwCl [(md, .inr (6, [vm_0, vm_1, vm_2, vm_3, vm_4, vm_5, vm_6, vm_7, vm_8, vm_9, .ref bt, .int (nI tl), .int (nI i_13), .int (nI ta), .int 3, .int v_14, .int bd, .int s17, vm_18, vm_19, vm_20, vm_21, vm_22, vm_23])), (bt, .inl (cI, 120, .inl bf))] H := hP
                    have hD : va_D A [(md, .inr (6, [vm_0, vm_1, vm_2, vm_3, vm_4, vm_5, vm_6, vm_7, vm_8, vm_9, .ref bt, .int (nI tl), .int (nI i_13), .int (nI ta), .int 3, .int v_14, .int bd, .int s17, vm_18, vm_19, vm_20, vm_21, vm_22, vm_23])), (bt, .inl (cI, 120, .inl bf))] := hD
                    have hP9 := hP.sub (ws' := [(md, .inr (6, [vm_0, vm_1, vm_2, vm_3, vm_4, vm_5, vm_6, vm_7, vm_8, vm_9, .ref bt, .int (nI tl), .int (nI i_13), .int (nI ta), .int 3, .int v_14, .int bd, .int s17, vm_18, vm_19, vm_20, vm_21, vm_22, vm_23])), (bt, .inl (cI, 120, .inl bf))]) [0, 1] rfl
                    have hD9 := hD.sub (ws' := [(md, .inr (6, [vm_0, vm_1, vm_2, vm_3, vm_4, vm_5, vm_6, vm_7, vm_8, vm_9, .ref bt, .int (nI tl), .int (nI i_13), .int (nI ta), .int 3, .int v_14, .int bd, .int s17, vm_18, vm_19, vm_20, vm_21, vm_22, vm_23])), (bt, .inl (cI, 120, .inl bf))]) [0, 1] (by decide) rfl
                    exact wt_vret hx hb hr hlocks hP9 hD9 hS ⟨i_13, (nI ta), 3, v_14, rfl, (by omega)⟩ dX6_nextToken_277
                  · skip
                    refine lv_iconst (v := 0) hx hb dX6_nextToken_269 (by decide) ?_
                    refine lv_goto (tgt := 274) hx hb dX6_nextToken_270 (by decide) ?_
                    refine va_put (D := D) (ci := 6) (v := .int 0) (ty := .int) (C := RX6) (T := TX6) (N := 24) hx hb hts hi6 tyX6 tyX6_ok nmX6 hown hK.1 hP hD hS 0 rfl rfl 14 (by decide) wf102 (fun _ h9 => h9) rfl (by decide +kernel) rfl rfl (Nat.le_of_ble_eq_true rfl) dX6_nextToken_274 (fun H locs hP hD hS => ?_)
                    have hP : va_P D vwCl [(md, .inr (6, [vm_0, vm_1, vm_2, vm_3, vm_4, vm_5, vm_6, vm_7, vm_8, vm_9, .ref bt, .int (nI tl), .int (nI i_13), .int (nI ta), .int 0, .int v_14, .int bd, .int s17, vm_18, vm_19, vm_20, vm_21, vm_22, vm_23])), (bt, .inl (cI, 120, .inl bf))] H := hP
                    have hD : va_D A [(md, .inr (6, [vm_0, vm_1, vm_2, vm_3, vm_4, vm_5, vm_6, vm_7, vm_8, vm_9, .ref bt, .int (nI tl), .int (nI i_13), .int (nI ta), .int 0, .int v_14, .int bd, .int s17, vm_18, vm_19, vm_20, vm_21, vm_22, vm_23])), (bt, .inl (cI, 120, .inl bf))] := hD
                    have hP9 := hP.sub (ws' := [(md, .inr (6, [vm_0, vm_1, vm_2, vm_3, vm_4, vm_5, vm_6, vm_7, vm_8, vm_9, .ref bt, .int (nI tl), .int (nI i_13), .int (nI ta), .int 0, .int v_14, .int bd, .int s17, vm_18, vm_19, vm_20, vm_21, vm_22, vm_23])), (bt, .inl (cI, 120, .inl bf))]) [0, 1] rfl
                    have hD9 := hD.sub (ws' := [(md, .inr (6, [vm_0, vm_1, vm_2, vm_3, vm_4, vm_5, vm_6, vm_7, vm_8, vm_9, .ref bt, .int (nI tl), .int (nI i_13), .int (nI ta), .int 0, .int v_14, .int bd, .int s17, vm_18, vm_19, vm_20, vm_21, vm_22, vm_23])), (bt, .inl (cI, 120, .inl bf))]) [0, 1] (by decide) rfl
                    exact wt_vret hx hb hr hlocks hP9 hD9 hS ⟨i_13, (nI ta), 0, v_14, rfl, (by omega)⟩ dX6_nextToken_277
                · skip
                  obtain ⟨j_23, hj_23, hj_23b, rfl⟩ := wI_nat (a := 48) (b := 57) (by omega) (by omega) c_20
                  refine lv_aload_n hx hb dX6_nextToken_198 rfl (lv_at hl 0 rfl) ?_
                  refine lv_aload_n hx hb dX6_nextToken_199 rfl (lv_at hl 0 rfl) ?_
                  refine va_get (D := D) (ci := 6) (v := .int (nI i_13)) (C := RX6) (T := TX6) (N := 24) hx hb hts hi6 hown hK.1 hP 0 rfl rfl 12 (by decide) wf87 (fun _ h9 => h9) rfl dX6_nextToken_200 ?_
                  refine lv_aload_n hx hb dX6_nextToken_203 rfl (lv_at hl 0 rfl) ?_
                  refine va_get (D := D) (ci := 6) (v := .int (nI ta)) (C := RX6) (T := TX6) (N := 24) hx hb hts hi6 hown hK.1 hP 0 rfl rfl 13 (by decide) wf81 (fun _ h9 => h9) rfl dX6_nextToken_204 ?_
                  refine lv_isub hx hb dX6_nextToken_207 ?_
                  refine lv_topi (fun ov_24 _ => ?_)
                  refine lv_iconst (v := 2) hx hb dX6_nextToken_208 (by decide) ?_
                  refine lv_icmp_ge (tgt := 235) hx hb dX6_nextToken_209 (by decide) (fun c_25 => ?_) (fun c_25 => ?_)
                  · skip
                    refine lv_aload_n hx hb dX6_nextToken_235 rfl (lv_at hl 0 rfl) ?_
                    refine va_get (D := D) (ci := 6) (v := .int v_14) (C := RX6) (T := TX6) (N := 24) hx hb hts hi6 hown hK.1 hP 0 rfl rfl 15 (by decide) wf91 (fun _ h9 => h9) rfl dX6_nextToken_236 ?_
                    refine va_put (D := D) (ci := 6) (v := .int v_14) (ty := .int) (C := RX6) (T := TX6) (N := 24) hx hb hts hi6 tyX6 tyX6_ok nmX6 hown hK.1 hP hD hS 0 rfl rfl 15 (by decide) wf91 (fun _ h9 => h9) rfl (by decide +kernel) rfl rfl (Nat.le_of_ble_eq_true rfl) dX6_nextToken_239 (fun H locs hP hD hS => ?_)
                    have hP : va_P D vwCl [(md, .inr (6, [vm_0, vm_1, vm_2, vm_3, vm_4, vm_5, vm_6, vm_7, vm_8, vm_9, .ref bt, .int (nI tl), .int (nI i_13), .int (nI ta), .int 3, .int v_14, .int bd, .int s17, vm_18, vm_19, vm_20, vm_21, vm_22, vm_23])), (bt, .inl (cI, 120, .inl bf))] H := hP
                    have hD : va_D A [(md, .inr (6, [vm_0, vm_1, vm_2, vm_3, vm_4, vm_5, vm_6, vm_7, vm_8, vm_9, .ref bt, .int (nI tl), .int (nI i_13), .int (nI ta), .int 3, .int v_14, .int bd, .int s17, vm_18, vm_19, vm_20, vm_21, vm_22, vm_23])), (bt, .inl (cI, 120, .inl bf))] := hD
                    refine lv_aload_n hx hb dX6_nextToken_242 rfl (lv_at hl 0 rfl) ?_
                    refine lv_dup hx hb dX6_nextToken_243 rfl ?_
                    refine va_get (D := D) (ci := 6) (v := .int (nI i_13)) (C := RX6) (T := TX6) (N := 24) hx hb hts hi6 hown hK.1 hP 0 rfl rfl 12 (by decide) wf87 (fun _ h9 => h9) rfl dX6_nextToken_244 ?_
                    refine lv_iconst (v := 1) hx hb dX6_nextToken_247 (by decide) ?_
                    refine lv_iadd hx hb dX6_nextToken_248 ?_
                    refine wt_top (z := nI (i_13 + 1)) (nI_add i_13 1) ?_
                    refine va_put (D := D) (ci := 6) (v := .int (nI (i_13 + 1))) (ty := .int) (C := RX6) (T := TX6) (N := 24) hx hb hts hi6 tyX6 tyX6_ok nmX6 hown hK.1 hP hD hS 0 rfl rfl 12 (by decide) wf87 (fun _ h9 => h9) rfl (by decide +kernel) rfl rfl (Nat.le_of_ble_eq_true rfl) dX6_nextToken_249 (fun H locs hP hD hS => ?_)
                    have hP : va_P D vwCl [(md, .inr (6, [vm_0, vm_1, vm_2, vm_3, vm_4, vm_5, vm_6, vm_7, vm_8, vm_9, .ref bt, .int (nI tl), .int (nI (i_13 + 1)), .int (nI ta), .int 3, .int v_14, .int bd, .int s17, vm_18, vm_19, vm_20, vm_21, vm_22, vm_23])), (bt, .inl (cI, 120, .inl bf))] H := hP
                    have hD : va_D A [(md, .inr (6, [vm_0, vm_1, vm_2, vm_3, vm_4, vm_5, vm_6, vm_7, vm_8, vm_9, .ref bt, .int (nI tl), .int (nI (i_13 + 1)), .int (nI ta), .int 3, .int v_14, .int bd, .int s17, vm_18, vm_19, vm_20, vm_21, vm_22, vm_23])), (bt, .inl (cI, 120, .inl bf))] := hD
                    refine lv_goto (tgt := 165) hx hb dX6_nextToken_252 (by decide) ?_
                    exact ih165 ((i_13 + 1)) v_14 H locs ls (by omega)  hP hD hS (lv_sub hl [0] rfl)
                  · skip
                    refine lv_bipush (v := 10) hx hb dX6_nextToken_212 (by decide) ?_
                    refine lv_aload_n hx hb dX6_nextToken_214 rfl (lv_at hl 0 rfl) ?_
                    refine va_get (D := D) (ci := 6) (v := .int v_14) (C := RX6) (T := TX6) (N := 24) hx hb hts hi6 hown hK.1 hP 0 rfl rfl 15 (by decide) wf91 (fun _ h9 => h9) rfl dX6_nextToken_215 ?_
                    refine lv_imul hx hb dX6_nextToken_218 ?_
                    refine lv_topi (fun ov_26 _ => ?_)
                    refine lv_aload_n hx hb dX6_nextToken_219 rfl (lv_at hl 0 rfl) ?_
                    refine va_get (D := D) (ci := 6) (v := .ref bt) (C := RX6) (T := TX6) (N := 24) hx hb hts hi6 hown hK.1 hP 0 rfl rfl 10 (by decide) wf31 (fun _ h9 => h9) rfl dX6_nextToken_220 ?_
                    refine lv_aload_n hx hb dX6_nextToken_223 rfl (lv_at hl 0 rfl) ?_
                    refine va_get (D := D) (ci := 6) (v := .int (nI i_13)) (C := RX6) (T := TX6) (N := 24) hx hb hts hi6 hown hK.1 hP 0 rfl rfl 12 (by decide) wf87 (fun _ h9 => h9) rfl dX6_nextToken_224 ?_
                    refine va_iald hx hb hK.1 hP 1 0 rfl rfl (vp_in_nI (by omega) (by omega)) dX6_nextToken_227 ?_
                    refine lv_topi (fun ov_27 _ => ?_)
                    refine lv_iadd hx hb dX6_nextToken_228 ?_
                    refine lv_topi (fun ov_28 _ => ?_)
                    refine lv_bipush (v := 48) hx hb dX6_nextToken_229 (by decide) ?_
                    refine lv_isub hx hb dX6_nextToken_231 ?_
                    refine lv_topi (fun ov_29 _ => ?_)
                    refine lv_goto (tgt := 239) hx hb dX6_nextToken_232 (by decide) ?_
                    refine va_put (D := D) (ci := 6) (v := .int ov_29) (ty := .int) (C := RX6) (T := TX6) (N := 24) hx hb hts hi6 tyX6 tyX6_ok nmX6 hown hK.1 hP hD hS 0 rfl rfl 15 (by decide) wf91 (fun _ h9 => h9) rfl (by decide +kernel) rfl rfl (Nat.le_of_ble_eq_true rfl) dX6_nextToken_239 (fun H locs hP hD hS => ?_)
                    have hP : va_P D vwCl [(md, .inr (6, [vm_0, vm_1, vm_2, vm_3, vm_4, vm_5, vm_6, vm_7, vm_8, vm_9, .ref bt, .int (nI tl), .int (nI i_13), .int (nI ta), .int 3, .int ov_29, .int bd, .int s17, vm_18, vm_19, vm_20, vm_21, vm_22, vm_23])), (bt, .inl (cI, 120, .inl bf))] H := hP
                    have hD : va_D A [(md, .inr (6, [vm_0, vm_1, vm_2, vm_3, vm_4, vm_5, vm_6, vm_7, vm_8, vm_9, .ref bt, .int (nI tl), .int (nI i_13), .int (nI ta), .int 3, .int ov_29, .int bd, .int s17, vm_18, vm_19, vm_20, vm_21, vm_22, vm_23])), (bt, .inl (cI, 120, .inl bf))] := hD
                    refine lv_aload_n hx hb dX6_nextToken_242 rfl (lv_at hl 0 rfl) ?_
                    refine lv_dup hx hb dX6_nextToken_243 rfl ?_
                    refine va_get (D := D) (ci := 6) (v := .int (nI i_13)) (C := RX6) (T := TX6) (N := 24) hx hb hts hi6 hown hK.1 hP 0 rfl rfl 12 (by decide) wf87 (fun _ h9 => h9) rfl dX6_nextToken_244 ?_
                    refine lv_iconst (v := 1) hx hb dX6_nextToken_247 (by decide) ?_
                    refine lv_iadd hx hb dX6_nextToken_248 ?_
                    refine wt_top (z := nI (i_13 + 1)) (nI_add i_13 1) ?_
                    refine va_put (D := D) (ci := 6) (v := .int (nI (i_13 + 1))) (ty := .int) (C := RX6) (T := TX6) (N := 24) hx hb hts hi6 tyX6 tyX6_ok nmX6 hown hK.1 hP hD hS 0 rfl rfl 12 (by decide) wf87 (fun _ h9 => h9) rfl (by decide +kernel) rfl rfl (Nat.le_of_ble_eq_true rfl) dX6_nextToken_249 (fun H locs hP hD hS => ?_)
                    have hP : va_P D vwCl [(md, .inr (6, [vm_0, vm_1, vm_2, vm_3, vm_4, vm_5, vm_6, vm_7, vm_8, vm_9, .ref bt, .int (nI tl), .int (nI (i_13 + 1)), .int (nI ta), .int 3, .int ov_29, .int bd, .int s17, vm_18, vm_19, vm_20, vm_21, vm_22, vm_23])), (bt, .inl (cI, 120, .inl bf))] H := hP
                    have hD : va_D A [(md, .inr (6, [vm_0, vm_1, vm_2, vm_3, vm_4, vm_5, vm_6, vm_7, vm_8, vm_9, .ref bt, .int (nI tl), .int (nI (i_13 + 1)), .int (nI ta), .int 3, .int ov_29, .int bd, .int s17, vm_18, vm_19, vm_20, vm_21, vm_22, vm_23])), (bt, .inl (cI, 120, .inl bf))] := hD
                    refine lv_goto (tgt := 165) hx hb dX6_nextToken_252 (by decide) ?_
                    exact ih165 ((i_13 + 1)) ov_29 H locs ls (by omega)  hP hD hS (lv_sub hl [0] rfl)
            exact loop165 (tl - (ta + 0)) ((ta + 0)) (-1000048) _ _ ls (by omega)  hP hD hS hl
          · skip
            have c_12 : ¬ (tl ≤ ta) := fun h => c_12 ((nI_leI (a := tl) (b := ta) (by omega) (by omega)).mpr h)
            refine lv_iconst (v := 1) hx hb dX6_nextToken_137 (by decide) ?_
            refine lv_goto (tgt := 142) hx hb dX6_nextToken_138 (by decide) ?_
            refine lv_iadd hx hb dX6_nextToken_142 ?_
            refine wt_top (z := nI (ta + 1)) (nI_add ta 1) ?_
            refine va_put (D := D) (ci := 6) (v := .int (nI (ta + 1))) (ty := .int) (C := RX6) (T := TX6) (N := 24) hx hb hts hi6 tyX6 tyX6_ok nmX6 hown hK.1 hP hD hS 0 rfl rfl 12 (by decide) wf87 (fun _ h9 => h9) rfl (by decide +kernel) rfl rfl (Nat.le_of_ble_eq_true rfl) dX6_nextToken_143 (fun H locs hP hD hS => ?_)
            have hP : va_P D vwCl [(md, .inr (6, [vm_0, vm_1, vm_2, vm_3, vm_4, vm_5, vm_6, vm_7, vm_8, vm_9, .ref bt, .int (nI tl), .int (nI (ta + 1)), .int (nI ta), .int 3, .int (-1000000), .int bd, .int s17, vm_18, vm_19, vm_20, vm_21, vm_22, vm_23])), (bt, .inl (cI, 120, .inl bf))] H := hP
            have hD : va_D A [(md, .inr (6, [vm_0, vm_1, vm_2, vm_3, vm_4, vm_5, vm_6, vm_7, vm_8, vm_9, .ref bt, .int (nI tl), .int (nI (ta + 1)), .int (nI ta), .int 3, .int (-1000000), .int bd, .int s17, vm_18, vm_19, vm_20, vm_21, vm_22, vm_23])), (bt, .inl (cI, 120, .inl bf))] := hD
            refine lv_aload_n hx hb dX6_nextToken_146 rfl (lv_at hl 0 rfl) ?_
            refine va_get (D := D) (ci := 6) (v := .int 3) (C := RX6) (T := TX6) (N := 24) hx hb hts hi6 hown hK.1 hP 0 rfl rfl 14 (by decide) wf102 (fun _ h9 => h9) rfl dX6_nextToken_147 ?_
            refine lv_iconst (v := 3) hx hb dX6_nextToken_150 (by decide) ?_
            refine lv_icmp_ne (tgt := 277) hx hb dX6_nextToken_151 (by decide) (fun h => absurd h (by decide)) (fun _ => ?_)
            refine lv_aload_n hx hb dX6_nextToken_154 rfl (lv_at hl 0 rfl) ?_
            refine lv_dup hx hb dX6_nextToken_155 rfl ?_
            refine va_get (D := D) (ci := 6) (v := .int (-1000000)) (C := RX6) (T := TX6) (N := 24) hx hb hts hi6 hown hK.1 hP 0 rfl rfl 15 (by decide) wf91 (fun _ h9 => h9) rfl dX6_nextToken_156 ?_
            refine lv_bipush (v := 48) hx hb dX6_nextToken_159 (by decide) ?_
            refine lv_isub hx hb dX6_nextToken_161 ?_
            refine wt_top (z := (-1000048)) (by decide) ?_
            refine va_put (D := D) (ci := 6) (v := .int (-1000048)) (ty := .int) (C := RX6) (T := TX6) (N := 24) hx hb hts hi6 tyX6 tyX6_ok nmX6 hown hK.1 hP hD hS 0 rfl rfl 15 (by decide) wf91 (fun _ h9 => h9) rfl (by decide +kernel) rfl rfl (Nat.le_of_ble_eq_true rfl) dX6_nextToken_162 (fun H locs hP hD hS => ?_)
            have hP : va_P D vwCl [(md, .inr (6, [vm_0, vm_1, vm_2, vm_3, vm_4, vm_5, vm_6, vm_7, vm_8, vm_9, .ref bt, .int (nI tl), .int (nI (ta + 1)), .int (nI ta), .int 3, .int (-1000048), .int bd, .int s17, vm_18, vm_19, vm_20, vm_21, vm_22, vm_23])), (bt, .inl (cI, 120, .inl bf))] H := hP
            have hD : va_D A [(md, .inr (6, [vm_0, vm_1, vm_2, vm_3, vm_4, vm_5, vm_6, vm_7, vm_8, vm_9, .ref bt, .int (nI tl), .int (nI (ta + 1)), .int (nI ta), .int 3, .int (-1000048), .int bd, .int s17, vm_18, vm_19, vm_20, vm_21, vm_22, vm_23])), (bt, .inl (cI, 120, .inl bf))] := hD
            have loop165 : ∀ (k i_30 : Nat) (v_31 : Int32) (H : Heap) (locs : List Loc) (ls : Array Slot), i_30 + k = tl → va_P D vwCl [(md, .inr (6, [vm_0, vm_1, vm_2, vm_3, vm_4, vm_5, vm_6, vm_7, vm_8, vm_9, .ref bt, .int (nI tl), .int (nI i_30), .int (nI ta), .int 3, .int v_31, .int bd, .int s17, vm_18, vm_19, vm_20, vm_21, vm_22, vm_23])), (bt, .inl (cI, 120, .inl bf))] H → va_D A [(md, .inr (6, [vm_0, vm_1, vm_2, vm_3, vm_4, vm_5, vm_6, vm_7, vm_8, vm_9, .ref bt, .int (nI tl), .int (nI i_30), .int (nI ta), .int 3, .int v_31, .int bd, .int s17, vm_18, vm_19, vm_20, vm_21, vm_22, vm_23])), (bt, .inl (cI, 120, .inl bf))] → va_S A s.heap H locs → lv_has ls 1 [(0, .ref md)] → W p l e ({ frames := 1, cells := 0, slots := 0, locals := 25 } : Room) s m ([.ref md] : List Value).toArray below meth c H locs 0 0 (MQ below (wt_QV D (fun w => ∃ (ta2 : Nat) (md_f13 md_f14 md_f15 : Int32), w = [(md, .inr (6, [vm_0, vm_1, vm_2, vm_3, vm_4, vm_5, vm_6, vm_7, vm_8, vm_9, .ref bt, .int (nI tl), .int (nI ta2), .int md_f13, .int md_f14, .int md_f15, .int bd, .int s17, vm_18, vm_19, vm_20, vm_21, vm_22, vm_23])), (bt, .inl (cI, 120, .inl bf))] ∧ ta2 ≤ tl) A) ([.ref md] : List Value).toArray s 0 0 A) (F0 m 165 ls []) := by
              intro k
              induction k with
              | zero =>
                intro i_30 v_31 H locs ls hik  hP hD hS hl
                refine lv_aload_n hx hb dX6_nextToken_165 rfl (lv_at hl 0 rfl) ?_
                refine va_get (D := D) (ci := 6) (v := .int (nI i_30)) (C := RX6) (T := TX6) (N := 24) hx hb hts hi6 hown hK.1 hP 0 rfl rfl 12 (by decide) wf87 (fun _ h9 => h9) rfl dX6_nextToken_166 ?_
                refine lv_aload_n hx hb dX6_nextToken_169 rfl (lv_at hl 0 rfl) ?_
                refine va_get (D := D) (ci := 6) (v := .int (nI tl)) (C := RX6) (T := TX6) (N := 24) hx hb hts hi6 hown hK.1 hP 0 rfl rfl 11 (by decide) wf74 (fun _ h9 => h9) rfl dX6_nextToken_170 ?_
                refine lv_icmp_ge (tgt := 255) hx hb dX6_nextToken_173 (by decide) (fun _ => ?_) (fun h => absurd (nI_le (a := tl) (b := i_30) (by omega) (by omega)) h)
                refine lv_aload_n hx hb dX6_nextToken_255 rfl (lv_at hl 0 rfl) ?_
                refine lv_aload_n hx hb dX6_nextToken_256 rfl (lv_at hl 0 rfl) ?_
                refine va_get (D := D) (ci := 6) (v := .int (nI i_30)) (C := RX6) (T := TX6) (N := 24) hx hb hts hi6 hown hK.1 hP 0 rfl rfl 12 (by decide) wf87 (fun _ h9 => h9) rfl dX6_nextToken_257 ?_
                refine lv_aload_n hx hb dX6_nextToken_260 rfl (lv_at hl 0 rfl) ?_
                refine va_get (D := D) (ci := 6) (v := .int (nI ta)) (C := RX6) (T := TX6) (N := 24) hx hb hts hi6 hown hK.1 hP 0 rfl rfl 13 (by decide) wf81 (fun _ h9 => h9) rfl dX6_nextToken_261 ?_
                refine lv_isub hx hb dX6_nextToken_264 ?_
                refine lv_topi (fun ov_32 _ => ?_)
                refine lv_iconst (v := 2) hx hb dX6_nextToken_265 (by decide) ?_
                refine lv_icmp_le (tgt := 273) hx hb dX6_nextToken_266 (by decide) (fun c_33 => ?_) (fun c_33 => ?_)
                · skip
                  refine lv_iconst (v := 3) hx hb dX6_nextToken_273 (by decide) ?_
                  refine va_put (D := D) (ci := 6) (v := .int 3) (ty := .int) (C := RX6) (T := TX6) (N := 24) hx hb hts hi6 tyX6 tyX6_ok nmX6 hown hK.1 hP hD hS 0 rfl rfl 14 (by decide) wf102 (fun _ h9 => h9) rfl (by decide +kernel) rfl rfl (Nat.le_of_ble_eq_true rfl) dX6_nextToken_274 (fun H locs hP hD hS => ?_)
                  have hP : va_P D vwCl [(md, .inr (6, [vm_0, vm_1, vm_2, vm_3, vm_4, vm_5, vm_6, vm_7, vm_8, vm_9, .ref bt, .int (nI tl), .int (nI i_30), .int (nI ta), .int 3, .int v_31, .int bd, .int s17, vm_18, vm_19, vm_20, vm_21, vm_22, vm_23])), (bt, .inl (cI, 120, .inl bf))] H := hP
                  have hD : va_D A [(md, .inr (6, [vm_0, vm_1, vm_2, vm_3, vm_4, vm_5, vm_6, vm_7, vm_8, vm_9, .ref bt, .int (nI tl), .int (nI i_30), .int (nI ta), .int 3, .int v_31, .int bd, .int s17, vm_18, vm_19, vm_20, vm_21, vm_22, vm_23])), (bt, .inl (cI, 120, .inl bf))] := hD
                  have hP9 := hP.sub (ws' := [(md, .inr (6, [vm_0, vm_1, vm_2, vm_3, vm_4, vm_5, vm_6, vm_7, vm_8, vm_9, .ref bt, .int (nI tl), .int (nI i_30), .int (nI ta), .int 3, .int v_31, .int bd, .int s17, vm_18, vm_19, vm_20, vm_21, vm_22, vm_23])), (bt, .inl (cI, 120, .inl bf))]) [0, 1] rfl
                  have hD9 := hD.sub (ws' := [(md, .inr (6, [vm_0, vm_1, vm_2, vm_3, vm_4, vm_5, vm_6, vm_7, vm_8, vm_9, .ref bt, .int (nI tl), .int (nI i_30), .int (nI ta), .int 3, .int v_31, .int bd, .int s17, vm_18, vm_19, vm_20, vm_21, vm_22, vm_23])), (bt, .inl (cI, 120, .inl bf))]) [0, 1] (by decide) rfl
                  exact wt_vret hx hb hr hlocks hP9 hD9 hS ⟨i_30, (nI ta), 3, v_31, rfl, (by omega)⟩ dX6_nextToken_277
                · skip
                  refine lv_iconst (v := 0) hx hb dX6_nextToken_269 (by decide) ?_
                  refine lv_goto (tgt := 274) hx hb dX6_nextToken_270 (by decide) ?_
                  refine va_put (D := D) (ci := 6) (v := .int 0) (ty := .int) (C := RX6) (T := TX6) (N := 24) hx hb hts hi6 tyX6 tyX6_ok nmX6 hown hK.1 hP hD hS 0 rfl rfl 14 (by decide) wf102 (fun _ h9 => h9) rfl (by decide +kernel) rfl rfl (Nat.le_of_ble_eq_true rfl) dX6_nextToken_274 (fun H locs hP hD hS => ?_)
                  have hP : va_P D vwCl [(md, .inr (6, [vm_0, vm_1, vm_2, vm_3, vm_4, vm_5, vm_6, vm_7, vm_8, vm_9, .ref bt, .int (nI tl), .int (nI i_30), .int (nI ta), .int 0, .int v_31, .int bd, .int s17, vm_18, vm_19, vm_20, vm_21, vm_22, vm_23])), (bt, .inl (cI, 120, .inl bf))] H := hP
                  have hD : va_D A [(md, .inr (6, [vm_0, vm_1, vm_2, vm_3, vm_4, vm_5, vm_6, vm_7, vm_8, vm_9, .ref bt, .int (nI tl), .int (nI i_30), .int (nI ta), .int 0, .int v_31, .int bd, .int s17, vm_18, vm_19, vm_20, vm_21, vm_22, vm_23])), (bt, .inl (cI, 120, .inl bf))] := hD
                  have hP9 := hP.sub (ws' := [(md, .inr (6, [vm_0, vm_1, vm_2, vm_3, vm_4, vm_5, vm_6, vm_7, vm_8, vm_9, .ref bt, .int (nI tl), .int (nI i_30), .int (nI ta), .int 0, .int v_31, .int bd, .int s17, vm_18, vm_19, vm_20, vm_21, vm_22, vm_23])), (bt, .inl (cI, 120, .inl bf))]) [0, 1] rfl
                  have hD9 := hD.sub (ws' := [(md, .inr (6, [vm_0, vm_1, vm_2, vm_3, vm_4, vm_5, vm_6, vm_7, vm_8, vm_9, .ref bt, .int (nI tl), .int (nI i_30), .int (nI ta), .int 0, .int v_31, .int bd, .int s17, vm_18, vm_19, vm_20, vm_21, vm_22, vm_23])), (bt, .inl (cI, 120, .inl bf))]) [0, 1] (by decide) rfl
                  exact wt_vret hx hb hr hlocks hP9 hD9 hS ⟨i_30, (nI ta), 0, v_31, rfl, (by omega)⟩ dX6_nextToken_277
              | succ k ih165 =>
                intro i_30 v_31 H locs ls hik  hP hD hS hl
                refine lv_aload_n hx hb dX6_nextToken_165 rfl (lv_at hl 0 rfl) ?_
                refine va_get (D := D) (ci := 6) (v := .int (nI i_30)) (C := RX6) (T := TX6) (N := 24) hx hb hts hi6 hown hK.1 hP 0 rfl rfl 12 (by decide) wf87 (fun _ h9 => h9) rfl dX6_nextToken_166 ?_
                refine lv_aload_n hx hb dX6_nextToken_169 rfl (lv_at hl 0 rfl) ?_
                refine va_get (D := D) (ci := 6) (v := .int (nI tl)) (C := RX6) (T := TX6) (N := 24) hx hb hts hi6 hown hK.1 hP 0 rfl rfl 11 (by decide) wf74 (fun _ h9 => h9) rfl dX6_nextToken_170 ?_
                refine lv_icmp_ge (tgt := 255) hx hb dX6_nextToken_173 (by decide) (fun h => absurd h (nI_ge (a := i_30) (b := tl) (by omega) (by omega))) (fun _ => ?_)
                refine lv_aload_n hx hb dX6_nextToken_176 rfl (lv_at hl 0 rfl) ?_
                refine va_get (D := D) (ci := 6) (v := .ref bt) (C := RX6) (T := TX6) (N := 24) hx hb hts hi6 hown hK.1 hP 0 rfl rfl 10 (by decide) wf31 (fun _ h9 => h9) rfl dX6_nextToken_177 ?_
                refine lv_aload_n hx hb dX6_nextToken_180 rfl (lv_at hl 0 rfl) ?_
                refine va_get (D := D) (ci := 6) (v := .int (nI i_30)) (C := RX6) (T := TX6) (N := 24) hx hb hts hi6 hown hK.1 hP 0 rfl rfl 12 (by decide) wf87 (fun _ h9 => h9) rfl dX6_nextToken_181 ?_
                refine va_iald hx hb hK.1 hP 1 0 rfl rfl (vp_in_nI (by omega) (by omega)) dX6_nextToken_184 ?_
                refine lv_topi (fun ov_34 _ => ?_)
                refine lv_i2l hx hb dX6_nextToken_185 rfl ?_
                refine lv_ldc2 hx hb hown wl98 dX6_nextToken_186 ?_
                refine lv_ldc2 hx hb hown wl100 dX6_nextToken_189 ?_
                refine wt_rS (As := [.long ov_34.toInt64, .long 48, .long 57]) (rest := []) ⟨hx, hb, hml, hown, hts⟩ (c_X6_in l D cI cZ cH ov_34.toInt64 48 57) (va_cwS 3 hts gX6_nextToken_X6_in rfl rfl rfl (by decide +kernel) ⟨Nat.le_of_ble_eq_true rfl, Nat.le_of_ble_eq_true rfl⟩) hK hP [] rfl rfl hl.1 rfl (Nat.le_of_ble_eq_true rfl) dX6_nextToken_192 ⟨Nat.le_of_ble_eq_true rfl, Nat.le_of_ble_eq_true rfl⟩ (fun r_35 e_36 => ?_)
                subst e_36
                refine wt_top (z := wI ov_34 48 57) (wL_I' (by decide) (by decide)) ?_
                refine lv_if_eq (tgt := 255) hx hb dX6_nextToken_195 (by decide) (fun c_37 => ?_) (fun c_37 => ?_)
                · skip
                  refine lv_aload_n hx hb dX6_nextToken_255 rfl (lv_at hl 0 rfl) ?_
                  refine lv_aload_n hx hb dX6_nextToken_256 rfl (lv_at hl 0 rfl) ?_
                  refine va_get (D := D) (ci := 6) (v := .int (nI i_30)) (C := RX6) (T := TX6) (N := 24) hx hb hts hi6 hown hK.1 hP 0 rfl rfl 12 (by decide) wf87 (fun _ h9 => h9) rfl dX6_nextToken_257 ?_
                  refine lv_aload_n hx hb dX6_nextToken_260 rfl (lv_at hl 0 rfl) ?_
                  refine va_get (D := D) (ci := 6) (v := .int (nI ta)) (C := RX6) (T := TX6) (N := 24) hx hb hts hi6 hown hK.1 hP 0 rfl rfl 13 (by decide) wf81 (fun _ h9 => h9) rfl dX6_nextToken_261 ?_
                  refine lv_isub hx hb dX6_nextToken_264 ?_
                  refine lv_topi (fun ov_38 _ => ?_)
                  refine lv_iconst (v := 2) hx hb dX6_nextToken_265 (by decide) ?_
                  refine lv_icmp_le (tgt := 273) hx hb dX6_nextToken_266 (by decide) (fun c_39 => ?_) (fun c_39 => ?_)
                  · skip
                    refine lv_iconst (v := 3) hx hb dX6_nextToken_273 (by decide) ?_
                    refine va_put (D := D) (ci := 6) (v := .int 3) (ty := .int) (C := RX6) (T := TX6) (N := 24) hx hb hts hi6 tyX6 tyX6_ok nmX6 hown hK.1 hP hD hS 0 rfl rfl 14 (by decide) wf102 (fun _ h9 => h9) rfl (by decide +kernel) rfl rfl (Nat.le_of_ble_eq_true rfl) dX6_nextToken_274 (fun H locs hP hD hS => ?_)
                    have hP : va_P D vwCl [(md, .inr (6, [vm_0, vm_1, vm_2, vm_3, vm_4, vm_5, vm_6, vm_7, vm_8, vm_9, .ref bt, .int (nI tl), .int (nI i_30), .int (nI ta), .int 3, .int v_31, .int bd, .int s17, vm_18, vm_19, vm_20, vm_21, vm_22, vm_23])), (bt, .inl (cI, 120, .inl bf))] H := hP
                    have hD : va_D A [(md, .inr (6, [vm_0, vm_1, vm_2, vm_3, vm_4, vm_5, vm_6, vm_7, vm_8, vm_9, .ref bt, .int (nI tl), .int (nI i_30), .int (nI ta), .int 3, .int v_31, .int bd, .int s17, vm_18, vm_19, vm_20, vm_21, vm_22, vm_23])), (bt, .inl (cI, 120, .inl bf))] := hD
                    have hP9 := hP.sub (ws' := [(md, .inr (6, [vm_0, vm_1, vm_2, vm_3, vm_4, vm_5, vm_6, vm_7, vm_8, vm_9, .ref bt, .int (nI tl), .int (nI i_30), .int (nI ta), .int 3, .int v_31, .int bd, .int s17, vm_18, vm_19, vm_20, vm_21, vm_22, vm_23])), (bt, .inl (cI, 120, .inl bf))]) [0, 1] rfl
                    have hD9 := hD.sub (ws' := [(md, .inr (6, [vm_0, vm_1, vm_2, vm_3, vm_4, vm_5, vm_6, vm_7, vm_8, vm_9, .ref bt, .int (nI tl), .int (nI i_30), .int (nI ta), .int 3, .int v_31, .int bd, .int s17, vm_18, vm_19, vm_20, vm_21, vm_22, vm_23])), (bt, .inl (cI, 120, .inl bf))]) [0, 1] (by decide) rfl
                    exact wt_vret hx hb hr hlocks hP9 hD9 hS ⟨i_30, (nI ta), 3, v_31, rfl, (by omega)⟩ dX6_nextToken_277
                  · skip
                    refine lv_iconst (v := 0) hx hb dX6_nextToken_269 (by decide) ?_
                    refine lv_goto (tgt := 274) hx hb dX6_nextToken_270 (by decide) ?_
                    refine va_put (D := D) (ci := 6) (v := .int 0) (ty := .int) (C := RX6) (T := TX6) (N := 24) hx hb hts hi6 tyX6 tyX6_ok nmX6 hown hK.1 hP hD hS 0 rfl rfl 14 (by decide) wf102 (fun _ h9 => h9) rfl (by decide +kernel) rfl rfl (Nat.le_of_ble_eq_true rfl) dX6_nextToken_274 (fun H locs hP hD hS => ?_)
                    have hP : va_P D vwCl [(md, .inr (6, [vm_0, vm_1, vm_2, vm_3, vm_4, vm_5, vm_6, vm_7, vm_8, vm_9, .ref bt, .int (nI tl), .int (nI i_30), .int (nI ta), .int 0, .int v_31, .int bd, .int s17, vm_18, vm_19, vm_20, vm_21, vm_22, vm_23])), (bt, .inl (cI, 120, .inl bf))] H := hP
                    have hD : va_D A [(md, .inr (6, [vm_0, vm_1, vm_2, vm_3, vm_4, vm_5, vm_6, vm_7, vm_8, vm_9, .ref bt, .int (nI tl), .int (nI i_30), .int (nI ta), .int 0, .int v_31, .int bd, .int s17, vm_18, vm_19, vm_20, vm_21, vm_22, vm_23])), (bt, .inl (cI, 120, .inl bf))] := hD
                    have hP9 := hP.sub (ws' := [(md, .inr (6, [vm_0, vm_1, vm_2, vm_3, vm_4, vm_5, vm_6, vm_7, vm_8, vm_9, .ref bt, .int (nI tl), .int (nI i_30), .int (nI ta), .int 0, .int v_31, .int bd, .int s17, vm_18, vm_19, vm_20, vm_21, vm_22, vm_23])), (bt, .inl (cI, 120, .inl bf))]) [0, 1] rfl
                    have hD9 := hD.sub (ws' := [(md, .inr (6, [vm_0, vm_1, vm_2, vm_3, vm_4, vm_5, vm_6, vm_7, vm_8, vm_9, .ref bt, .int (nI tl), .int (nI i_30), .int (nI ta), .int 0, .int v_31, .int bd, .int s17, vm_18, vm_19, vm_20, vm_21, vm_22, vm_23])), (bt, .inl (cI, 120, .inl bf))]) [0, 1] (by decide) rfl
                    exact wt_vret hx hb hr hlocks hP9 hD9 hS ⟨i_30, (nI ta), 0, v_31, rfl, (by omega)⟩ dX6_nextToken_277
                · skip
                  obtain ⟨j_40, hj_40, hj_40b, rfl⟩ := wI_nat (a := 48) (b := 57) (by omega) (by omega) c_37
                  refine lv_aload_n hx hb dX6_nextToken_198 rfl (lv_at hl 0 rfl) ?_
                  refine lv_aload_n hx hb dX6_nextToken_199 rfl (lv_at hl 0 rfl) ?_
                  refine va_get (D := D) (ci := 6) (v := .int (nI i_30)) (C := RX6) (T := TX6) (N := 24) hx hb hts hi6 hown hK.1 hP 0 rfl rfl 12 (by decide) wf87 (fun _ h9 => h9) rfl dX6_nextToken_200 ?_
                  refine lv_aload_n hx hb dX6_nextToken_203 rfl (lv_at hl 0 rfl) ?_
                  refine va_get (D := D) (ci := 6) (v := .int (nI ta)) (C := RX6) (T := TX6) (N := 24) hx hb hts hi6 hown hK.1 hP 0 rfl rfl 13 (by decide) wf81 (fun _ h9 => h9) rfl dX6_nextToken_204 ?_
                  refine lv_isub hx hb dX6_nextToken_207 ?_
                  refine lv_topi (fun ov_41 _ => ?_)
                  refine lv_iconst (v := 2) hx hb dX6_nextToken_208 (by decide) ?_
                  refine lv_icmp_ge (tgt := 235) hx hb dX6_nextToken_209 (by decide) (fun c_42 => ?_) (fun c_42 => ?_)
                  · skip
                    refine lv_aload_n hx hb dX6_nextToken_235 rfl (lv_at hl 0 rfl) ?_
                    refine va_get (D := D) (ci := 6) (v := .int v_31) (C := RX6) (T := TX6) (N := 24) hx hb hts hi6 hown hK.1 hP 0 rfl rfl 15 (by decide) wf91 (fun _ h9 => h9) rfl dX6_nextToken_236 ?_
                    refine va_put (D := D) (ci := 6) (v := .int v_31) (ty := .int) (C := RX6) (T := TX6) (N := 24) hx hb hts hi6 tyX6 tyX6_ok nmX6 hown hK.1 hP hD hS 0 rfl rfl 15 (by decide) wf91 (fun _ h9 => h9) rfl (by decide +kernel) rfl rfl (Nat.le_of_ble_eq_true rfl) dX6_nextToken_239 (fun H locs hP hD hS => ?_)
                    have hP : va_P D vwCl [(md, .inr (6, [vm_0, vm_1, vm_2, vm_3, vm_4, vm_5, vm_6, vm_7, vm_8, vm_9, .ref bt, .int (nI tl), .int (nI i_30), .int (nI ta), .int 3, .int v_31, .int bd, .int s17, vm_18, vm_19, vm_20, vm_21, vm_22, vm_23])), (bt, .inl (cI, 120, .inl bf))] H := hP
                    have hD : va_D A [(md, .inr (6, [vm_0, vm_1, vm_2, vm_3, vm_4, vm_5, vm_6, vm_7, vm_8, vm_9, .ref bt, .int (nI tl), .int (nI i_30), .int (nI ta), .int 3, .int v_31, .int bd, .int s17, vm_18, vm_19, vm_20, vm_21, vm_22, vm_23])), (bt, .inl (cI, 120, .inl bf))] := hD
                    refine lv_aload_n hx hb dX6_nextToken_242 rfl (lv_at hl 0 rfl) ?_
                    refine lv_dup hx hb dX6_nextToken_243 rfl ?_
                    refine va_get (D := D) (ci := 6) (v := .int (nI i_30)) (C := RX6) (T := TX6) (N := 24) hx hb hts hi6 hown hK.1 hP 0 rfl rfl 12 (by decide) wf87 (fun _ h9 => h9) rfl dX6_nextToken_244 ?_
                    refine lv_iconst (v := 1) hx hb dX6_nextToken_247 (by decide) ?_
                    refine lv_iadd hx hb dX6_nextToken_248 ?_
                    refine wt_top (z := nI (i_30 + 1)) (nI_add i_30 1) ?_
                    refine va_put (D := D) (ci := 6) (v := .int (nI (i_30 + 1))) (ty := .int) (C := RX6) (T := TX6) (N := 24) hx hb hts hi6 tyX6 tyX6_ok nmX6 hown hK.1 hP hD hS 0 rfl rfl 12 (by decide) wf87 (fun _ h9 => h9) rfl (by decide +kernel) rfl rfl (Nat.le_of_ble_eq_true rfl) dX6_nextToken_249 (fun H locs hP hD hS => ?_)
                    have hP : va_P D vwCl [(md, .inr (6, [vm_0, vm_1, vm_2, vm_3, vm_4, vm_5, vm_6, vm_7, vm_8, vm_9, .ref bt, .int (nI tl), .int (nI (i_30 + 1)), .int (nI ta), .int 3, .int v_31, .int bd, .int s17, vm_18, vm_19, vm_20, vm_21, vm_22, vm_23])), (bt, .inl (cI, 120, .inl bf))] H := hP
                    have hD : va_D A [(md, .inr (6, [vm_0, vm_1, vm_2, vm_3, vm_4, vm_5, vm_6, vm_7, vm_8, vm_9, .ref bt, .int (nI tl), .int (nI (i_30 + 1)), .int (nI ta), .int 3, .int v_31, .int bd, .int s17, vm_18, vm_19, vm_20, vm_21, vm_22, vm_23])), (bt, .inl (cI, 120, .inl bf))] := hD
                    refine lv_goto (tgt := 165) hx hb dX6_nextToken_252 (by decide) ?_
                    exact ih165 ((i_30 + 1)) v_31 H locs ls (by omega)  hP hD hS (lv_sub hl [0] rfl)
                  · skip
                    refine lv_bipush (v := 10) hx hb dX6_nextToken_212 (by decide) ?_
                    refine lv_aload_n hx hb dX6_nextToken_214 rfl (lv_at hl 0 rfl) ?_
                    refine va_get (D := D) (ci := 6) (v := .int v_31) (C := RX6) (T := TX6) (N := 24) hx hb hts hi6 hown hK.1 hP 0 rfl rfl 15 (by decide) wf91 (fun _ h9 => h9) rfl dX6_nextToken_215 ?_
                    refine lv_imul hx hb dX6_nextToken_218 ?_
                    refine lv_topi (fun ov_43 _ => ?_)
                    refine lv_aload_n hx hb dX6_nextToken_219 rfl (lv_at hl 0 rfl) ?_
                    refine va_get (D := D) (ci := 6) (v := .ref bt) (C := RX6) (T := TX6) (N := 24) hx hb hts hi6 hown hK.1 hP 0 rfl rfl 10 (by decide) wf31 (fun _ h9 => h9) rfl dX6_nextToken_220 ?_
                    refine lv_aload_n hx hb dX6_nextToken_223 rfl (lv_at hl 0 rfl) ?_
                    refine va_get (D := D) (ci := 6) (v := .int (nI i_30)) (C := RX6) (T := TX6) (N := 24) hx hb hts hi6 hown hK.1 hP 0 rfl rfl 12 (by decide) wf87 (fun _ h9 => h9) rfl dX6_nextToken_224 ?_
                    refine va_iald hx hb hK.1 hP 1 0 rfl rfl (vp_in_nI (by omega) (by omega)) dX6_nextToken_227 ?_
                    refine lv_topi (fun ov_44 _ => ?_)
                    refine lv_iadd hx hb dX6_nextToken_228 ?_
                    refine lv_topi (fun ov_45 _ => ?_)
                    refine lv_bipush (v := 48) hx hb dX6_nextToken_229 (by decide) ?_
                    refine lv_isub hx hb dX6_nextToken_231 ?_
                    refine lv_topi (fun ov_46 _ => ?_)
                    refine lv_goto (tgt := 239) hx hb dX6_nextToken_232 (by decide) ?_
                    refine va_put (D := D) (ci := 6) (v := .int ov_46) (ty := .int) (C := RX6) (T := TX6) (N := 24) hx hb hts hi6 tyX6 tyX6_ok nmX6 hown hK.1 hP hD hS 0 rfl rfl 15 (by decide) wf91 (fun _ h9 => h9) rfl (by decide +kernel) rfl rfl (Nat.le_of_ble_eq_true rfl) dX6_nextToken_239 (fun H locs hP hD hS => ?_)
                    have hP : va_P D vwCl [(md, .inr (6, [vm_0, vm_1, vm_2, vm_3, vm_4, vm_5, vm_6, vm_7, vm_8, vm_9, .ref bt, .int (nI tl), .int (nI i_30), .int (nI ta), .int 3, .int ov_46, .int bd, .int s17, vm_18, vm_19, vm_20, vm_21, vm_22, vm_23])), (bt, .inl (cI, 120, .inl bf))] H := hP
                    have hD : va_D A [(md, .inr (6, [vm_0, vm_1, vm_2, vm_3, vm_4, vm_5, vm_6, vm_7, vm_8, vm_9, .ref bt, .int (nI tl), .int (nI i_30), .int (nI ta), .int 3, .int ov_46, .int bd, .int s17, vm_18, vm_19, vm_20, vm_21, vm_22, vm_23])), (bt, .inl (cI, 120, .inl bf))] := hD
                    refine lv_aload_n hx hb dX6_nextToken_242 rfl (lv_at hl 0 rfl) ?_
                    refine lv_dup hx hb dX6_nextToken_243 rfl ?_
                    refine va_get (D := D) (ci := 6) (v := .int (nI i_30)) (C := RX6) (T := TX6) (N := 24) hx hb hts hi6 hown hK.1 hP 0 rfl rfl 12 (by decide) wf87 (fun _ h9 => h9) rfl dX6_nextToken_244 ?_
                    refine lv_iconst (v := 1) hx hb dX6_nextToken_247 (by decide) ?_
                    refine lv_iadd hx hb dX6_nextToken_248 ?_
                    refine wt_top (z := nI (i_30 + 1)) (nI_add i_30 1) ?_
                    refine va_put (D := D) (ci := 6) (v := .int (nI (i_30 + 1))) (ty := .int) (C := RX6) (T := TX6) (N := 24) hx hb hts hi6 tyX6 tyX6_ok nmX6 hown hK.1 hP hD hS 0 rfl rfl 12 (by decide) wf87 (fun _ h9 => h9) rfl (by decide +kernel) rfl rfl (Nat.le_of_ble_eq_true rfl) dX6_nextToken_249 (fun H locs hP hD hS => ?_)
                    have hP : va_P D vwCl [(md, .inr (6, [vm_0, vm_1, vm_2, vm_3, vm_4, vm_5, vm_6, vm_7, vm_8, vm_9, .ref bt, .int (nI tl), .int (nI (i_30 + 1)), .int (nI ta), .int 3, .int ov_46, .int bd, .int s17, vm_18, vm_19, vm_20, vm_21, vm_22, vm_23])), (bt, .inl (cI, 120, .inl bf))] H := hP
                    have hD : va_D A [(md, .inr (6, [vm_0, vm_1, vm_2, vm_3, vm_4, vm_5, vm_6, vm_7, vm_8, vm_9, .ref bt, .int (nI tl), .int (nI (i_30 + 1)), .int (nI ta), .int 3, .int ov_46, .int bd, .int s17, vm_18, vm_19, vm_20, vm_21, vm_22, vm_23])), (bt, .inl (cI, 120, .inl bf))] := hD
                    refine lv_goto (tgt := 165) hx hb dX6_nextToken_252 (by decide) ?_
                    exact ih165 ((i_30 + 1)) ov_46 H locs ls (by omega)  hP hD hS (lv_sub hl [0] rfl)
            exact loop165 (tl - (ta + 1)) ((ta + 1)) (-1000048) _ _ ls (by omega)  hP hD hS hl
      · skip
        refine lv_iconst (v := 2) hx hb dX6_nextToken_70 (by decide) ?_
        refine lv_goto (tgt := 118) hx hb dX6_nextToken_71 (by decide) ?_
        refine va_put (D := D) (ci := 6) (v := .int 2) (ty := .int) (C := RX6) (T := TX6) (N := 24) hx hb hts hi6 tyX6 tyX6_ok nmX6 hown hK.1 hP hD hS 0 rfl rfl 14 (by decide) wf102 (fun _ h9 => h9) rfl (by decide +kernel) rfl rfl (Nat.le_of_ble_eq_true rfl) dX6_nextToken_118 (fun H locs hP hD hS => ?_)
        have hP : va_P D vwCl [(md, .inr (6, [vm_0, vm_1, vm_2, vm_3, vm_4, vm_5, vm_6, vm_7, vm_8, vm_9, .ref bt, .int (nI tl), .int (nI ta), .int (nI ta), .int 2, .int (-1000000), .int bd, .int s17, vm_18, vm_19, vm_20, vm_21, vm_22, vm_23])), (bt, .inl (cI, 120, .inl bf))] H := hP
        have hD : va_D A [(md, .inr (6, [vm_0, vm_1, vm_2, vm_3, vm_4, vm_5, vm_6, vm_7, vm_8, vm_9, .ref bt, .int (nI tl), .int (nI ta), .int (nI ta), .int 2, .int (-1000000), .int bd, .int s17, vm_18, vm_19, vm_20, vm_21, vm_22, vm_23])), (bt, .inl (cI, 120, .inl bf))] := hD
        refine lv_aload_n hx hb dX6_nextToken_121 rfl (lv_at hl 0 rfl) ?_
        refine lv_dup hx hb dX6_nextToken_122 rfl ?_
        refine va_get (D := D) (ci := 6) (v := .int (nI ta)) (C := RX6) (T := TX6) (N := 24) hx hb hts hi6 hown hK.1 hP 0 rfl rfl 12 (by decide) wf87 (fun _ h9 => h9) rfl dX6_nextToken_123 ?_
        refine lv_aload_n hx hb dX6_nextToken_126 rfl (lv_at hl 0 rfl) ?_
        refine va_get (D := D) (ci := 6) (v := .int (nI ta)) (C := RX6) (T := TX6) (N := 24) hx hb hts hi6 hown hK.1 hP 0 rfl rfl 12 (by decide) wf87 (fun _ h9 => h9) rfl dX6_nextToken_127 ?_
        refine lv_aload_n hx hb dX6_nextToken_130 rfl (lv_at hl 0 rfl) ?_
        refine va_get (D := D) (ci := 6) (v := .int (nI tl)) (C := RX6) (T := TX6) (N := 24) hx hb hts hi6 hown hK.1 hP 0 rfl rfl 11 (by decide) wf74 (fun _ h9 => h9) rfl dX6_nextToken_131 ?_
        refine lv_icmp_ge (tgt := 141) hx hb dX6_nextToken_134 (by decide) (fun c_47 => ?_) (fun c_47 => ?_)
        · skip
          have c_47 : tl ≤ ta := (nI_leI (a := tl) (b := ta) (by omega) (by omega)).mp c_47
          refine lv_iconst (v := 0) hx hb dX6_nextToken_141 (by decide) ?_
          refine lv_iadd hx hb dX6_nextToken_142 ?_
          refine wt_top (z := nI (ta + 0)) (nI_add ta 0) ?_
          refine va_put (D := D) (ci := 6) (v := .int (nI (ta + 0))) (ty := .int) (C := RX6) (T := TX6) (N := 24) hx hb hts hi6 tyX6 tyX6_ok nmX6 hown hK.1 hP hD hS 0 rfl rfl 12 (by decide) wf87 (fun _ h9 => h9) rfl (by decide +kernel) rfl rfl (Nat.le_of_ble_eq_true rfl) dX6_nextToken_143 (fun H locs hP hD hS => ?_)
          have hP : va_P D vwCl [(md, .inr (6, [vm_0, vm_1, vm_2, vm_3, vm_4, vm_5, vm_6, vm_7, vm_8, vm_9, .ref bt, .int (nI tl), .int (nI (ta + 0)), .int (nI ta), .int 2, .int (-1000000), .int bd, .int s17, vm_18, vm_19, vm_20, vm_21, vm_22, vm_23])), (bt, .inl (cI, 120, .inl bf))] H := hP
          have hD : va_D A [(md, .inr (6, [vm_0, vm_1, vm_2, vm_3, vm_4, vm_5, vm_6, vm_7, vm_8, vm_9, .ref bt, .int (nI tl), .int (nI (ta + 0)), .int (nI ta), .int 2, .int (-1000000), .int bd, .int s17, vm_18, vm_19, vm_20, vm_21, vm_22, vm_23])), (bt, .inl (cI, 120, .inl bf))] := hD
          refine lv_aload_n hx hb dX6_nextToken_146 rfl (lv_at hl 0 rfl) ?_
          refine va_get (D := D) (ci := 6) (v := .int 2) (C := RX6) (T := TX6) (N := 24) hx hb hts hi6 hown hK.1 hP 0 rfl rfl 14 (by decide) wf102 (fun _ h9 => h9) rfl dX6_nextToken_147 ?_
          refine lv_iconst (v := 3) hx hb dX6_nextToken_150 (by decide) ?_
          refine lv_icmp_ne (tgt := 277) hx hb dX6_nextToken_151 (by decide) (fun _ => ?_) (fun h => absurd h (by decide))
          have hP9 := hP.sub (ws' := [(md, .inr (6, [vm_0, vm_1, vm_2, vm_3, vm_4, vm_5, vm_6, vm_7, vm_8, vm_9, .ref bt, .int (nI tl), .int (nI (ta + 0)), .int (nI ta), .int 2, .int (-1000000), .int bd, .int s17, vm_18, vm_19, vm_20, vm_21, vm_22, vm_23])), (bt, .inl (cI, 120, .inl bf))]) [0, 1] rfl
          have hD9 := hD.sub (ws' := [(md, .inr (6, [vm_0, vm_1, vm_2, vm_3, vm_4, vm_5, vm_6, vm_7, vm_8, vm_9, .ref bt, .int (nI tl), .int (nI (ta + 0)), .int (nI ta), .int 2, .int (-1000000), .int bd, .int s17, vm_18, vm_19, vm_20, vm_21, vm_22, vm_23])), (bt, .inl (cI, 120, .inl bf))]) [0, 1] (by decide) rfl
          exact wt_vret hx hb hr hlocks hP9 hD9 hS ⟨(ta + 0), (nI ta), 2, (-1000000), rfl, (by omega)⟩ dX6_nextToken_277
        · skip
          have c_47 : ¬ (tl ≤ ta) := fun h => c_47 ((nI_leI (a := tl) (b := ta) (by omega) (by omega)).mpr h)
          refine lv_iconst (v := 1) hx hb dX6_nextToken_137 (by decide) ?_
          refine lv_goto (tgt := 142) hx hb dX6_nextToken_138 (by decide) ?_
          refine lv_iadd hx hb dX6_nextToken_142 ?_
          refine wt_top (z := nI (ta + 1)) (nI_add ta 1) ?_
          refine va_put (D := D) (ci := 6) (v := .int (nI (ta + 1))) (ty := .int) (C := RX6) (T := TX6) (N := 24) hx hb hts hi6 tyX6 tyX6_ok nmX6 hown hK.1 hP hD hS 0 rfl rfl 12 (by decide) wf87 (fun _ h9 => h9) rfl (by decide +kernel) rfl rfl (Nat.le_of_ble_eq_true rfl) dX6_nextToken_143 (fun H locs hP hD hS => ?_)
          have hP : va_P D vwCl [(md, .inr (6, [vm_0, vm_1, vm_2, vm_3, vm_4, vm_5, vm_6, vm_7, vm_8, vm_9, .ref bt, .int (nI tl), .int (nI (ta + 1)), .int (nI ta), .int 2, .int (-1000000), .int bd, .int s17, vm_18, vm_19, vm_20, vm_21, vm_22, vm_23])), (bt, .inl (cI, 120, .inl bf))] H := hP
          have hD : va_D A [(md, .inr (6, [vm_0, vm_1, vm_2, vm_3, vm_4, vm_5, vm_6, vm_7, vm_8, vm_9, .ref bt, .int (nI tl), .int (nI (ta + 1)), .int (nI ta), .int 2, .int (-1000000), .int bd, .int s17, vm_18, vm_19, vm_20, vm_21, vm_22, vm_23])), (bt, .inl (cI, 120, .inl bf))] := hD
          refine lv_aload_n hx hb dX6_nextToken_146 rfl (lv_at hl 0 rfl) ?_
          refine va_get (D := D) (ci := 6) (v := .int 2) (C := RX6) (T := TX6) (N := 24) hx hb hts hi6 hown hK.1 hP 0 rfl rfl 14 (by decide) wf102 (fun _ h9 => h9) rfl dX6_nextToken_147 ?_
          refine lv_iconst (v := 3) hx hb dX6_nextToken_150 (by decide) ?_
          refine lv_icmp_ne (tgt := 277) hx hb dX6_nextToken_151 (by decide) (fun _ => ?_) (fun h => absurd h (by decide))
          have hP9 := hP.sub (ws' := [(md, .inr (6, [vm_0, vm_1, vm_2, vm_3, vm_4, vm_5, vm_6, vm_7, vm_8, vm_9, .ref bt, .int (nI tl), .int (nI (ta + 1)), .int (nI ta), .int 2, .int (-1000000), .int bd, .int s17, vm_18, vm_19, vm_20, vm_21, vm_22, vm_23])), (bt, .inl (cI, 120, .inl bf))]) [0, 1] rfl
          have hD9 := hD.sub (ws' := [(md, .inr (6, [vm_0, vm_1, vm_2, vm_3, vm_4, vm_5, vm_6, vm_7, vm_8, vm_9, .ref bt, .int (nI tl), .int (nI (ta + 1)), .int (nI ta), .int 2, .int (-1000000), .int bd, .int s17, vm_18, vm_19, vm_20, vm_21, vm_22, vm_23])), (bt, .inl (cI, 120, .inl bf))]) [0, 1] (by decide) rfl
          exact wt_vret hx hb hr hlocks hP9 hD9 hS ⟨(ta + 1), (nI ta), 2, (-1000000), rfl, (by omega)⟩ dX6_nextToken_277
    · skip
      have c_2 : ta = tl := (nI_eq (a := ta) (b := tl) (by omega) (by omega)).mp c_2
      refine lv_iconst (v := 1) hx hb dX6_nextToken_49 (by decide) ?_
      refine lv_goto (tgt := 118) hx hb dX6_nextToken_50 (by decide) ?_
      refine va_put (D := D) (ci := 6) (v := .int 1) (ty := .int) (C := RX6) (T := TX6) (N := 24) hx hb hts hi6 tyX6 tyX6_ok nmX6 hown hK.1 hP hD hS 0 rfl rfl 14 (by decide) wf102 (fun _ h9 => h9) rfl (by decide +kernel) rfl rfl (Nat.le_of_ble_eq_true rfl) dX6_nextToken_118 (fun H locs hP hD hS => ?_)
      have hP : va_P D vwCl [(md, .inr (6, [vm_0, vm_1, vm_2, vm_3, vm_4, vm_5, vm_6, vm_7, vm_8, vm_9, .ref bt, .int (nI tl), .int (nI ta), .int (nI ta), .int 1, .int (-1000000), .int bd, .int s17, vm_18, vm_19, vm_20, vm_21, vm_22, vm_23])), (bt, .inl (cI, 120, .inl bf))] H := hP
      have hD : va_D A [(md, .inr (6, [vm_0, vm_1, vm_2, vm_3, vm_4, vm_5, vm_6, vm_7, vm_8, vm_9, .ref bt, .int (nI tl), .int (nI ta), .int (nI ta), .int 1, .int (-1000000), .int bd, .int s17, vm_18, vm_19, vm_20, vm_21, vm_22, vm_23])), (bt, .inl (cI, 120, .inl bf))] := hD
      refine lv_aload_n hx hb dX6_nextToken_121 rfl (lv_at hl 0 rfl) ?_
      refine lv_dup hx hb dX6_nextToken_122 rfl ?_
      refine va_get (D := D) (ci := 6) (v := .int (nI ta)) (C := RX6) (T := TX6) (N := 24) hx hb hts hi6 hown hK.1 hP 0 rfl rfl 12 (by decide) wf87 (fun _ h9 => h9) rfl dX6_nextToken_123 ?_
      refine lv_aload_n hx hb dX6_nextToken_126 rfl (lv_at hl 0 rfl) ?_
      refine va_get (D := D) (ci := 6) (v := .int (nI ta)) (C := RX6) (T := TX6) (N := 24) hx hb hts hi6 hown hK.1 hP 0 rfl rfl 12 (by decide) wf87 (fun _ h9 => h9) rfl dX6_nextToken_127 ?_
      refine lv_aload_n hx hb dX6_nextToken_130 rfl (lv_at hl 0 rfl) ?_
      refine va_get (D := D) (ci := 6) (v := .int (nI tl)) (C := RX6) (T := TX6) (N := 24) hx hb hts hi6 hown hK.1 hP 0 rfl rfl 11 (by decide) wf74 (fun _ h9 => h9) rfl dX6_nextToken_131 ?_
      refine lv_icmp_ge (tgt := 141) hx hb dX6_nextToken_134 (by decide) (fun c_48 => ?_) (fun c_48 => ?_)
      · skip
        have c_48 : tl ≤ ta := (nI_leI (a := tl) (b := ta) (by omega) (by omega)).mp c_48
        refine lv_iconst (v := 0) hx hb dX6_nextToken_141 (by decide) ?_
        refine lv_iadd hx hb dX6_nextToken_142 ?_
        refine wt_top (z := nI (ta + 0)) (nI_add ta 0) ?_
        refine va_put (D := D) (ci := 6) (v := .int (nI (ta + 0))) (ty := .int) (C := RX6) (T := TX6) (N := 24) hx hb hts hi6 tyX6 tyX6_ok nmX6 hown hK.1 hP hD hS 0 rfl rfl 12 (by decide) wf87 (fun _ h9 => h9) rfl (by decide +kernel) rfl rfl (Nat.le_of_ble_eq_true rfl) dX6_nextToken_143 (fun H locs hP hD hS => ?_)
        have hP : va_P D vwCl [(md, .inr (6, [vm_0, vm_1, vm_2, vm_3, vm_4, vm_5, vm_6, vm_7, vm_8, vm_9, .ref bt, .int (nI tl), .int (nI (ta + 0)), .int (nI ta), .int 1, .int (-1000000), .int bd, .int s17, vm_18, vm_19, vm_20, vm_21, vm_22, vm_23])), (bt, .inl (cI, 120, .inl bf))] H := hP
        have hD : va_D A [(md, .inr (6, [vm_0, vm_1, vm_2, vm_3, vm_4, vm_5, vm_6, vm_7, vm_8, vm_9, .ref bt, .int (nI tl), .int (nI (ta + 0)), .int (nI ta), .int 1, .int (-1000000), .int bd, .int s17, vm_18, vm_19, vm_20, vm_21, vm_22, vm_23])), (bt, .inl (cI, 120, .inl bf))] := hD
        refine lv_aload_n hx hb dX6_nextToken_146 rfl (lv_at hl 0 rfl) ?_
        refine va_get (D := D) (ci := 6) (v := .int 1) (C := RX6) (T := TX6) (N := 24) hx hb hts hi6 hown hK.1 hP 0 rfl rfl 14 (by decide) wf102 (fun _ h9 => h9) rfl dX6_nextToken_147 ?_
        refine lv_iconst (v := 3) hx hb dX6_nextToken_150 (by decide) ?_
        refine lv_icmp_ne (tgt := 277) hx hb dX6_nextToken_151 (by decide) (fun _ => ?_) (fun h => absurd h (by decide))
        have hP9 := hP.sub (ws' := [(md, .inr (6, [vm_0, vm_1, vm_2, vm_3, vm_4, vm_5, vm_6, vm_7, vm_8, vm_9, .ref bt, .int (nI tl), .int (nI (ta + 0)), .int (nI ta), .int 1, .int (-1000000), .int bd, .int s17, vm_18, vm_19, vm_20, vm_21, vm_22, vm_23])), (bt, .inl (cI, 120, .inl bf))]) [0, 1] rfl
        have hD9 := hD.sub (ws' := [(md, .inr (6, [vm_0, vm_1, vm_2, vm_3, vm_4, vm_5, vm_6, vm_7, vm_8, vm_9, .ref bt, .int (nI tl), .int (nI (ta + 0)), .int (nI ta), .int 1, .int (-1000000), .int bd, .int s17, vm_18, vm_19, vm_20, vm_21, vm_22, vm_23])), (bt, .inl (cI, 120, .inl bf))]) [0, 1] (by decide) rfl
        exact wt_vret hx hb hr hlocks hP9 hD9 hS ⟨(ta + 0), (nI ta), 1, (-1000000), rfl, (by omega)⟩ dX6_nextToken_277
      · skip
        have c_48 : ¬ (tl ≤ ta) := fun h => c_48 ((nI_leI (a := tl) (b := ta) (by omega) (by omega)).mpr h)
        refine lv_iconst (v := 1) hx hb dX6_nextToken_137 (by decide) ?_
        refine lv_goto (tgt := 142) hx hb dX6_nextToken_138 (by decide) ?_
        refine lv_iadd hx hb dX6_nextToken_142 ?_
        refine wt_top (z := nI (ta + 1)) (nI_add ta 1) ?_
        refine va_put (D := D) (ci := 6) (v := .int (nI (ta + 1))) (ty := .int) (C := RX6) (T := TX6) (N := 24) hx hb hts hi6 tyX6 tyX6_ok nmX6 hown hK.1 hP hD hS 0 rfl rfl 12 (by decide) wf87 (fun _ h9 => h9) rfl (by decide +kernel) rfl rfl (Nat.le_of_ble_eq_true rfl) dX6_nextToken_143 (fun H locs hP hD hS => ?_)
        have hP : va_P D vwCl [(md, .inr (6, [vm_0, vm_1, vm_2, vm_3, vm_4, vm_5, vm_6, vm_7, vm_8, vm_9, .ref bt, .int (nI tl), .int (nI (ta + 1)), .int (nI ta), .int 1, .int (-1000000), .int bd, .int s17, vm_18, vm_19, vm_20, vm_21, vm_22, vm_23])), (bt, .inl (cI, 120, .inl bf))] H := hP
        have hD : va_D A [(md, .inr (6, [vm_0, vm_1, vm_2, vm_3, vm_4, vm_5, vm_6, vm_7, vm_8, vm_9, .ref bt, .int (nI tl), .int (nI (ta + 1)), .int (nI ta), .int 1, .int (-1000000), .int bd, .int s17, vm_18, vm_19, vm_20, vm_21, vm_22, vm_23])), (bt, .inl (cI, 120, .inl bf))] := hD
        refine lv_aload_n hx hb dX6_nextToken_146 rfl (lv_at hl 0 rfl) ?_
        refine va_get (D := D) (ci := 6) (v := .int 1) (C := RX6) (T := TX6) (N := 24) hx hb hts hi6 hown hK.1 hP 0 rfl rfl 14 (by decide) wf102 (fun _ h9 => h9) rfl dX6_nextToken_147 ?_
        refine lv_iconst (v := 3) hx hb dX6_nextToken_150 (by decide) ?_
        refine lv_icmp_ne (tgt := 277) hx hb dX6_nextToken_151 (by decide) (fun _ => ?_) (fun h => absurd h (by decide))
        have hP9 := hP.sub (ws' := [(md, .inr (6, [vm_0, vm_1, vm_2, vm_3, vm_4, vm_5, vm_6, vm_7, vm_8, vm_9, .ref bt, .int (nI tl), .int (nI (ta + 1)), .int (nI ta), .int 1, .int (-1000000), .int bd, .int s17, vm_18, vm_19, vm_20, vm_21, vm_22, vm_23])), (bt, .inl (cI, 120, .inl bf))]) [0, 1] rfl
        have hD9 := hD.sub (ws' := [(md, .inr (6, [vm_0, vm_1, vm_2, vm_3, vm_4, vm_5, vm_6, vm_7, vm_8, vm_9, .ref bt, .int (nI tl), .int (nI (ta + 1)), .int (nI ta), .int 1, .int (-1000000), .int bd, .int s17, vm_18, vm_19, vm_20, vm_21, vm_22, vm_23])), (bt, .inl (cI, 120, .inl bf))]) [0, 1] (by decide) rfl
        exact wt_vret hx hb hr hlocks hP9 hD9 hS ⟨(ta + 1), (nI ta), 1, (-1000000), rfl, (by omega)⟩ dX6_nextToken_277
  · skip
    have c_1 : ¬ (tl ≤ ta) := fun h => c_1 ((nI_leI (a := tl) (b := ta) (by omega) (by omega)).mpr h)
    refine lv_aload_n hx hb dX6_nextToken_20 rfl (lv_at hl 0 rfl) ?_
    refine va_get (D := D) (ci := 6) (v := .ref bt) (C := RX6) (T := TX6) (N := 24) hx hb hts hi6 hown hK.1 hP 0 rfl rfl 10 (by decide) wf31 (fun _ h9 => h9) rfl dX6_nextToken_21 ?_
    refine lv_aload_n hx hb dX6_nextToken_24 rfl (lv_at hl 0 rfl) ?_
    refine va_get (D := D) (ci := 6) (v := .int (nI ta)) (C := RX6) (T := TX6) (N := 24) hx hb hts hi6 hown hK.1 hP 0 rfl rfl 12 (by decide) wf87 (fun _ h9 => h9) rfl dX6_nextToken_25 ?_
    refine va_iald hx hb hK.1 hP 1 0 rfl rfl (vp_in_nI (by omega) (by omega)) dX6_nextToken_28 ?_
    refine lv_topi (fun ov_49 _ => ?_)
    refine lv_goto (tgt := 34) hx hb dX6_nextToken_29 (by decide) ?_
    refine va_put (D := D) (ci := 6) (v := .int ov_49) (ty := .int) (C := RX6) (T := TX6) (N := 24) hx hb hts hi6 tyX6 tyX6_ok nmX6 hown hK.1 hP hD hS 0 rfl rfl 15 (by decide) wf91 (fun _ h9 => h9) rfl (by decide +kernel) rfl rfl (Nat.le_of_ble_eq_true rfl) dX6_nextToken_34 (fun H locs hP hD hS => ?_)
    have hP : va_P D vwCl [(md, .inr (6, [vm_0, vm_1, vm_2, vm_3, vm_4, vm_5, vm_6, vm_7, vm_8, vm_9, .ref bt, .int (nI tl), .int (nI ta), .int (nI ta), .int s14, .int ov_49, .int bd, .int s17, vm_18, vm_19, vm_20, vm_21, vm_22, vm_23])), (bt, .inl (cI, 120, .inl bf))] H := hP
    have hD : va_D A [(md, .inr (6, [vm_0, vm_1, vm_2, vm_3, vm_4, vm_5, vm_6, vm_7, vm_8, vm_9, .ref bt, .int (nI tl), .int (nI ta), .int (nI ta), .int s14, .int ov_49, .int bd, .int s17, vm_18, vm_19, vm_20, vm_21, vm_22, vm_23])), (bt, .inl (cI, 120, .inl bf))] := hD
    refine lv_aload_n hx hb dX6_nextToken_37 rfl (lv_at hl 0 rfl) ?_
    refine lv_aload_n hx hb dX6_nextToken_38 rfl (lv_at hl 0 rfl) ?_
    refine va_get (D := D) (ci := 6) (v := .int (nI ta)) (C := RX6) (T := TX6) (N := 24) hx hb hts hi6 hown hK.1 hP 0 rfl rfl 12 (by decide) wf87 (fun _ h9 => h9) rfl dX6_nextToken_39 ?_
    refine lv_aload_n hx hb dX6_nextToken_42 rfl (lv_at hl 0 rfl) ?_
    refine va_get (D := D) (ci := 6) (v := .int (nI tl)) (C := RX6) (T := TX6) (N := 24) hx hb hts hi6 hown hK.1 hP 0 rfl rfl 11 (by decide) wf74 (fun _ h9 => h9) rfl dX6_nextToken_43 ?_
    refine lv_icmp_ne (tgt := 53) hx hb dX6_nextToken_46 (by decide) (fun c_50 => ?_) (fun c_50 => ?_)
    · skip
      have c_50 : ¬ (ta = tl) := fun h => c_50 ((nI_eq (a := ta) (b := tl) (by omega) (by omega)).mpr h)
      refine lv_aload_n hx hb dX6_nextToken_53 rfl (lv_at hl 0 rfl) ?_
      refine va_get (D := D) (ci := 6) (v := .int ov_49) (C := RX6) (T := TX6) (N := 24) hx hb hts hi6 hown hK.1 hP 0 rfl rfl 15 (by decide) wf91 (fun _ h9 => h9) rfl dX6_nextToken_54 ?_
      refine lv_i2l hx hb dX6_nextToken_57 rfl ?_
      refine lv_ldc2 hx hb hown wl94 dX6_nextToken_58 ?_
      refine lv_ldc2 hx hb hown wl96 dX6_nextToken_61 ?_
      refine wt_rS (As := [.long ov_49.toInt64, .long 97, .long 122]) (rest := [.ref md]) ⟨hx, hb, hml, hown, hts⟩ (c_X6_in l D cI cZ cH ov_49.toInt64 97 122) (va_cwS 3 hts gX6_nextToken_X6_in rfl rfl rfl (by decide +kernel) ⟨Nat.le_of_ble_eq_true rfl, Nat.le_of_ble_eq_true rfl⟩) hK hP [] rfl rfl hl.1 rfl (Nat.le_of_ble_eq_true rfl) dX6_nextToken_64 ⟨Nat.le_of_ble_eq_true rfl, Nat.le_of_ble_eq_true rfl⟩ (fun r_51 e_52 => ?_)
      subst e_52
      refine wt_top (z := wI ov_49 97 122) (wL_I' (by decide) (by decide)) ?_
      refine lv_if_eq (tgt := 74) hx hb dX6_nextToken_67 (by decide) (fun c_53 => ?_) (fun c_53 => ?_)
      · skip
        refine lv_aload_n hx hb dX6_nextToken_74 rfl (lv_at hl 0 rfl) ?_
        refine va_get (D := D) (ci := 6) (v := .int ov_49) (C := RX6) (T := TX6) (N := 24) hx hb hts hi6 hown hK.1 hP 0 rfl rfl 15 (by decide) wf91 (fun _ h9 => h9) rfl dX6_nextToken_75 ?_
        refine lv_i2l hx hb dX6_nextToken_78 rfl ?_
        refine lv_ldc2 hx hb hown wl98 dX6_nextToken_79 ?_
        refine lv_ldc2 hx hb hown wl100 dX6_nextToken_82 ?_
        refine wt_rS (As := [.long ov_49.toInt64, .long 48, .long 57]) (rest := [.ref md]) ⟨hx, hb, hml, hown, hts⟩ (c_X6_in l D cI cZ cH ov_49.toInt64 48 57) (va_cwS 3 hts gX6_nextToken_X6_in rfl rfl rfl (by decide +kernel) ⟨Nat.le_of_ble_eq_true rfl, Nat.le_of_ble_eq_true rfl⟩) hK hP [] rfl rfl hl.1 rfl (Nat.le_of_ble_eq_true rfl) dX6_nextToken_85 ⟨Nat.le_of_ble_eq_true rfl, Nat.le_of_ble_eq_true rfl⟩ (fun r_54 e_55 => ?_)
        subst e_55
        refine wt_top (z := wI ov_49 48 57) (wL_I' (by decide) (by decide)) ?_
        refine lv_if_eq (tgt := 95) hx hb dX6_nextToken_88 (by decide) (fun c_56 => ?_) (fun c_56 => ?_)
        · skip
          refine lv_aload_n hx hb dX6_nextToken_95 rfl (lv_at hl 0 rfl) ?_
          refine va_get (D := D) (ci := 6) (v := .int ov_49) (C := RX6) (T := TX6) (N := 24) hx hb hts hi6 hown hK.1 hP 0 rfl rfl 15 (by decide) wf91 (fun _ h9 => h9) rfl dX6_nextToken_96 ?_
          refine lv_bipush (v := 44) hx hb dX6_nextToken_99 (by decide) ?_
          refine lv_icmp_eq (tgt := 113) hx hb dX6_nextToken_101 (by decide) (fun c_57 => ?_) (fun c_57 => ?_)
          · skip
            refine lv_iconst (v := 4) hx hb dX6_nextToken_113 (by decide) ?_
            refine lv_goto (tgt := 118) hx hb dX6_nextToken_114 (by decide) ?_
            refine va_put (D := D) (ci := 6) (v := .int 4) (ty := .int) (C := RX6) (T := TX6) (N := 24) hx hb hts hi6 tyX6 tyX6_ok nmX6 hown hK.1 hP hD hS 0 rfl rfl 14 (by decide) wf102 (fun _ h9 => h9) rfl (by decide +kernel) rfl rfl (Nat.le_of_ble_eq_true rfl) dX6_nextToken_118 (fun H locs hP hD hS => ?_)
            have hP : va_P D vwCl [(md, .inr (6, [vm_0, vm_1, vm_2, vm_3, vm_4, vm_5, vm_6, vm_7, vm_8, vm_9, .ref bt, .int (nI tl), .int (nI ta), .int (nI ta), .int 4, .int ov_49, .int bd, .int s17, vm_18, vm_19, vm_20, vm_21, vm_22, vm_23])), (bt, .inl (cI, 120, .inl bf))] H := hP
            have hD : va_D A [(md, .inr (6, [vm_0, vm_1, vm_2, vm_3, vm_4, vm_5, vm_6, vm_7, vm_8, vm_9, .ref bt, .int (nI tl), .int (nI ta), .int (nI ta), .int 4, .int ov_49, .int bd, .int s17, vm_18, vm_19, vm_20, vm_21, vm_22, vm_23])), (bt, .inl (cI, 120, .inl bf))] := hD
            refine lv_aload_n hx hb dX6_nextToken_121 rfl (lv_at hl 0 rfl) ?_
            refine lv_dup hx hb dX6_nextToken_122 rfl ?_
            refine va_get (D := D) (ci := 6) (v := .int (nI ta)) (C := RX6) (T := TX6) (N := 24) hx hb hts hi6 hown hK.1 hP 0 rfl rfl 12 (by decide) wf87 (fun _ h9 => h9) rfl dX6_nextToken_123 ?_
            refine lv_aload_n hx hb dX6_nextToken_126 rfl (lv_at hl 0 rfl) ?_
            refine va_get (D := D) (ci := 6) (v := .int (nI ta)) (C := RX6) (T := TX6) (N := 24) hx hb hts hi6 hown hK.1 hP 0 rfl rfl 12 (by decide) wf87 (fun _ h9 => h9) rfl dX6_nextToken_127 ?_
            refine lv_aload_n hx hb dX6_nextToken_130 rfl (lv_at hl 0 rfl) ?_
            refine va_get (D := D) (ci := 6) (v := .int (nI tl)) (C := RX6) (T := TX6) (N := 24) hx hb hts hi6 hown hK.1 hP 0 rfl rfl 11 (by decide) wf74 (fun _ h9 => h9) rfl dX6_nextToken_131 ?_
            refine lv_icmp_ge (tgt := 141) hx hb dX6_nextToken_134 (by decide) (fun c_58 => ?_) (fun c_58 => ?_)
            · skip
              have c_58 : tl ≤ ta := (nI_leI (a := tl) (b := ta) (by omega) (by omega)).mp c_58
              refine lv_iconst (v := 0) hx hb dX6_nextToken_141 (by decide) ?_
              refine lv_iadd hx hb dX6_nextToken_142 ?_
              refine wt_top (z := nI (ta + 0)) (nI_add ta 0) ?_
              refine va_put (D := D) (ci := 6) (v := .int (nI (ta + 0))) (ty := .int) (C := RX6) (T := TX6) (N := 24) hx hb hts hi6 tyX6 tyX6_ok nmX6 hown hK.1 hP hD hS 0 rfl rfl 12 (by decide) wf87 (fun _ h9 => h9) rfl (by decide +kernel) rfl rfl (Nat.le_of_ble_eq_true rfl) dX6_nextToken_143 (fun H locs hP hD hS => ?_)
              have hP : va_P D vwCl [(md, .inr (6, [vm_0, vm_1, vm_2, vm_3, vm_4, vm_5, vm_6, vm_7, vm_8, vm_9, .ref bt, .int (nI tl), .int (nI (ta + 0)), .int (nI ta), .int 4, .int ov_49, .int bd, .int s17, vm_18, vm_19, vm_20, vm_21, vm_22, vm_23])), (bt, .inl (cI, 120, .inl bf))] H := hP
              have hD : va_D A [(md, .inr (6, [vm_0, vm_1, vm_2, vm_3, vm_4, vm_5, vm_6, vm_7, vm_8, vm_9, .ref bt, .int (nI tl), .int (nI (ta + 0)), .int (nI ta), .int 4, .int ov_49, .int bd, .int s17, vm_18, vm_19, vm_20, vm_21, vm_22, vm_23])), (bt, .inl (cI, 120, .inl bf))] := hD
              refine lv_aload_n hx hb dX6_nextToken_146 rfl (lv_at hl 0 rfl) ?_
              refine va_get (D := D) (ci := 6) (v := .int 4) (C := RX6) (T := TX6) (N := 24) hx hb hts hi6 hown hK.1 hP 0 rfl rfl 14 (by decide) wf102 (fun _ h9 => h9) rfl dX6_nextToken_147 ?_
              refine lv_iconst (v := 3) hx hb dX6_nextToken_150 (by decide) ?_
              refine lv_icmp_ne (tgt := 277) hx hb dX6_nextToken_151 (by decide) (fun _ => ?_) (fun h => absurd h (by decide))
              have hP9 := hP.sub (ws' := [(md, .inr (6, [vm_0, vm_1, vm_2, vm_3, vm_4, vm_5, vm_6, vm_7, vm_8, vm_9, .ref bt, .int (nI tl), .int (nI (ta + 0)), .int (nI ta), .int 4, .int ov_49, .int bd, .int s17, vm_18, vm_19, vm_20, vm_21, vm_22, vm_23])), (bt, .inl (cI, 120, .inl bf))]) [0, 1] rfl
              have hD9 := hD.sub (ws' := [(md, .inr (6, [vm_0, vm_1, vm_2, vm_3, vm_4, vm_5, vm_6, vm_7, vm_8, vm_9, .ref bt, .int (nI tl), .int (nI (ta + 0)), .int (nI ta), .int 4, .int ov_49, .int bd, .int s17, vm_18, vm_19, vm_20, vm_21, vm_22, vm_23])), (bt, .inl (cI, 120, .inl bf))]) [0, 1] (by decide) rfl
              exact wt_vret hx hb hr hlocks hP9 hD9 hS ⟨(ta + 0), (nI ta), 4, ov_49, rfl, (by omega)⟩ dX6_nextToken_277
            · skip
              have c_58 : ¬ (tl ≤ ta) := fun h => c_58 ((nI_leI (a := tl) (b := ta) (by omega) (by omega)).mpr h)
              refine lv_iconst (v := 1) hx hb dX6_nextToken_137 (by decide) ?_
              refine lv_goto (tgt := 142) hx hb dX6_nextToken_138 (by decide) ?_
              refine lv_iadd hx hb dX6_nextToken_142 ?_
              refine wt_top (z := nI (ta + 1)) (nI_add ta 1) ?_
              refine va_put (D := D) (ci := 6) (v := .int (nI (ta + 1))) (ty := .int) (C := RX6) (T := TX6) (N := 24) hx hb hts hi6 tyX6 tyX6_ok nmX6 hown hK.1 hP hD hS 0 rfl rfl 12 (by decide) wf87 (fun _ h9 => h9) rfl (by decide +kernel) rfl rfl (Nat.le_of_ble_eq_true rfl) dX6_nextToken_143 (fun H locs hP hD hS => ?_)
              have hP : va_P D vwCl [(md, .inr (6, [vm_0, vm_1, vm_2, vm_3, vm_4, vm_5, vm_6, vm_7, vm_8, vm_9, .ref bt, .int (nI tl), .int (nI (ta + 1)), .int (nI ta), .int 4, .int ov_49, .int bd, .int s17, vm_18, vm_19, vm_20, vm_21, vm_22, vm_23])), (bt, .inl (cI, 120, .inl bf))] H := hP
              have hD : va_D A [(md, .inr (6, [vm_0, vm_1, vm_2, vm_3, vm_4, vm_5, vm_6, vm_7, vm_8, vm_9, .ref bt, .int (nI tl), .int (nI (ta + 1)), .int (nI ta), .int 4, .int ov_49, .int bd, .int s17, vm_18, vm_19, vm_20, vm_21, vm_22, vm_23])), (bt, .inl (cI, 120, .inl bf))] := hD
              refine lv_aload_n hx hb dX6_nextToken_146 rfl (lv_at hl 0 rfl) ?_
              refine va_get (D := D) (ci := 6) (v := .int 4) (C := RX6) (T := TX6) (N := 24) hx hb hts hi6 hown hK.1 hP 0 rfl rfl 14 (by decide) wf102 (fun _ h9 => h9) rfl dX6_nextToken_147 ?_
              refine lv_iconst (v := 3) hx hb dX6_nextToken_150 (by decide) ?_
              refine lv_icmp_ne (tgt := 277) hx hb dX6_nextToken_151 (by decide) (fun _ => ?_) (fun h => absurd h (by decide))
              have hP9 := hP.sub (ws' := [(md, .inr (6, [vm_0, vm_1, vm_2, vm_3, vm_4, vm_5, vm_6, vm_7, vm_8, vm_9, .ref bt, .int (nI tl), .int (nI (ta + 1)), .int (nI ta), .int 4, .int ov_49, .int bd, .int s17, vm_18, vm_19, vm_20, vm_21, vm_22, vm_23])), (bt, .inl (cI, 120, .inl bf))]) [0, 1] rfl
              have hD9 := hD.sub (ws' := [(md, .inr (6, [vm_0, vm_1, vm_2, vm_3, vm_4, vm_5, vm_6, vm_7, vm_8, vm_9, .ref bt, .int (nI tl), .int (nI (ta + 1)), .int (nI ta), .int 4, .int ov_49, .int bd, .int s17, vm_18, vm_19, vm_20, vm_21, vm_22, vm_23])), (bt, .inl (cI, 120, .inl bf))]) [0, 1] (by decide) rfl
              exact wt_vret hx hb hr hlocks hP9 hD9 hS ⟨(ta + 1), (nI ta), 4, ov_49, rfl, (by omega)⟩ dX6_nextToken_277
          · skip
            refine lv_aload_n hx hb dX6_nextToken_104 rfl (lv_at hl 0 rfl) ?_
            refine va_get (D := D) (ci := 6) (v := .int ov_49) (C := RX6) (T := TX6) (N := 24) hx hb hts hi6 hown hK.1 hP 0 rfl rfl 15 (by decide) wf91 (fun _ h9 => h9) rfl dX6_nextToken_105 ?_
            refine lv_bipush (v := 59) hx hb dX6_nextToken_108 (by decide) ?_
            refine lv_icmp_ne (tgt := 117) hx hb dX6_nextToken_110 (by decide) (fun c_59 => ?_) (fun c_59 => ?_)
            · skip
              refine lv_iconst (v := 0) hx hb dX6_nextToken_117 (by decide) ?_
              refine va_put (D := D) (ci := 6) (v := .int 0) (ty := .int) (C := RX6) (T := TX6) (N := 24) hx hb hts hi6 tyX6 tyX6_ok nmX6 hown hK.1 hP hD hS 0 rfl rfl 14 (by decide) wf102 (fun _ h9 => h9) rfl (by decide +kernel) rfl rfl (Nat.le_of_ble_eq_true rfl) dX6_nextToken_118 (fun H locs hP hD hS => ?_)
              have hP : va_P D vwCl [(md, .inr (6, [vm_0, vm_1, vm_2, vm_3, vm_4, vm_5, vm_6, vm_7, vm_8, vm_9, .ref bt, .int (nI tl), .int (nI ta), .int (nI ta), .int 0, .int ov_49, .int bd, .int s17, vm_18, vm_19, vm_20, vm_21, vm_22, vm_23])), (bt, .inl (cI, 120, .inl bf))] H := hP
              have hD : va_D A [(md, .inr (6, [vm_0, vm_1, vm_2, vm_3, vm_4, vm_5, vm_6, vm_7, vm_8, vm_9, .ref bt, .int (nI tl), .int (nI ta), .int (nI ta), .int 0, .int ov_49, .int bd, .int s17, vm_18, vm_19, vm_20, vm_21, vm_22, vm_23])), (bt, .inl (cI, 120, .inl bf))] := hD
              refine lv_aload_n hx hb dX6_nextToken_121 rfl (lv_at hl 0 rfl) ?_
              refine lv_dup hx hb dX6_nextToken_122 rfl ?_
              refine va_get (D := D) (ci := 6) (v := .int (nI ta)) (C := RX6) (T := TX6) (N := 24) hx hb hts hi6 hown hK.1 hP 0 rfl rfl 12 (by decide) wf87 (fun _ h9 => h9) rfl dX6_nextToken_123 ?_
              refine lv_aload_n hx hb dX6_nextToken_126 rfl (lv_at hl 0 rfl) ?_
              refine va_get (D := D) (ci := 6) (v := .int (nI ta)) (C := RX6) (T := TX6) (N := 24) hx hb hts hi6 hown hK.1 hP 0 rfl rfl 12 (by decide) wf87 (fun _ h9 => h9) rfl dX6_nextToken_127 ?_
              refine lv_aload_n hx hb dX6_nextToken_130 rfl (lv_at hl 0 rfl) ?_
              refine va_get (D := D) (ci := 6) (v := .int (nI tl)) (C := RX6) (T := TX6) (N := 24) hx hb hts hi6 hown hK.1 hP 0 rfl rfl 11 (by decide) wf74 (fun _ h9 => h9) rfl dX6_nextToken_131 ?_
              refine lv_icmp_ge (tgt := 141) hx hb dX6_nextToken_134 (by decide) (fun c_60 => ?_) (fun c_60 => ?_)
              · skip
                have c_60 : tl ≤ ta := (nI_leI (a := tl) (b := ta) (by omega) (by omega)).mp c_60
                refine lv_iconst (v := 0) hx hb dX6_nextToken_141 (by decide) ?_
                refine lv_iadd hx hb dX6_nextToken_142 ?_
                refine wt_top (z := nI (ta + 0)) (nI_add ta 0) ?_
                refine va_put (D := D) (ci := 6) (v := .int (nI (ta + 0))) (ty := .int) (C := RX6) (T := TX6) (N := 24) hx hb hts hi6 tyX6 tyX6_ok nmX6 hown hK.1 hP hD hS 0 rfl rfl 12 (by decide) wf87 (fun _ h9 => h9) rfl (by decide +kernel) rfl rfl (Nat.le_of_ble_eq_true rfl) dX6_nextToken_143 (fun H locs hP hD hS => ?_)
                have hP : va_P D vwCl [(md, .inr (6, [vm_0, vm_1, vm_2, vm_3, vm_4, vm_5, vm_6, vm_7, vm_8, vm_9, .ref bt, .int (nI tl), .int (nI (ta + 0)), .int (nI ta), .int 0, .int ov_49, .int bd, .int s17, vm_18, vm_19, vm_20, vm_21, vm_22, vm_23])), (bt, .inl (cI, 120, .inl bf))] H := hP
                have hD : va_D A [(md, .inr (6, [vm_0, vm_1, vm_2, vm_3, vm_4, vm_5, vm_6, vm_7, vm_8, vm_9, .ref bt, .int (nI tl), .int (nI (ta + 0)), .int (nI ta), .int 0, .int ov_49, .int bd, .int s17, vm_18, vm_19, vm_20, vm_21, vm_22, vm_23])), (bt, .inl (cI, 120, .inl bf))] := hD
                refine lv_aload_n hx hb dX6_nextToken_146 rfl (lv_at hl 0 rfl) ?_
                refine va_get (D := D) (ci := 6) (v := .int 0) (C := RX6) (T := TX6) (N := 24) hx hb hts hi6 hown hK.1 hP 0 rfl rfl 14 (by decide) wf102 (fun _ h9 => h9) rfl dX6_nextToken_147 ?_
                refine lv_iconst (v := 3) hx hb dX6_nextToken_150 (by decide) ?_
                refine lv_icmp_ne (tgt := 277) hx hb dX6_nextToken_151 (by decide) (fun _ => ?_) (fun h => absurd h (by decide))
                have hP9 := hP.sub (ws' := [(md, .inr (6, [vm_0, vm_1, vm_2, vm_3, vm_4, vm_5, vm_6, vm_7, vm_8, vm_9, .ref bt, .int (nI tl), .int (nI (ta + 0)), .int (nI ta), .int 0, .int ov_49, .int bd, .int s17, vm_18, vm_19, vm_20, vm_21, vm_22, vm_23])), (bt, .inl (cI, 120, .inl bf))]) [0, 1] rfl
                have hD9 := hD.sub (ws' := [(md, .inr (6, [vm_0, vm_1, vm_2, vm_3, vm_4, vm_5, vm_6, vm_7, vm_8, vm_9, .ref bt, .int (nI tl), .int (nI (ta + 0)), .int (nI ta), .int 0, .int ov_49, .int bd, .int s17, vm_18, vm_19, vm_20, vm_21, vm_22, vm_23])), (bt, .inl (cI, 120, .inl bf))]) [0, 1] (by decide) rfl
                exact wt_vret hx hb hr hlocks hP9 hD9 hS ⟨(ta + 0), (nI ta), 0, ov_49, rfl, (by omega)⟩ dX6_nextToken_277
              · skip
                have c_60 : ¬ (tl ≤ ta) := fun h => c_60 ((nI_leI (a := tl) (b := ta) (by omega) (by omega)).mpr h)
                refine lv_iconst (v := 1) hx hb dX6_nextToken_137 (by decide) ?_
                refine lv_goto (tgt := 142) hx hb dX6_nextToken_138 (by decide) ?_
                refine lv_iadd hx hb dX6_nextToken_142 ?_
                refine wt_top (z := nI (ta + 1)) (nI_add ta 1) ?_
                refine va_put (D := D) (ci := 6) (v := .int (nI (ta + 1))) (ty := .int) (C := RX6) (T := TX6) (N := 24) hx hb hts hi6 tyX6 tyX6_ok nmX6 hown hK.1 hP hD hS 0 rfl rfl 12 (by decide) wf87 (fun _ h9 => h9) rfl (by decide +kernel) rfl rfl (Nat.le_of_ble_eq_true rfl) dX6_nextToken_143 (fun H locs hP hD hS => ?_)
                have hP : va_P D vwCl [(md, .inr (6, [vm_0, vm_1, vm_2, vm_3, vm_4, vm_5, vm_6, vm_7, vm_8, vm_9, .ref bt, .int (nI tl), .int (nI (ta + 1)), .int (nI ta), .int 0, .int ov_49, .int bd, .int s17, vm_18, vm_19, vm_20, vm_21, vm_22, vm_23])), (bt, .inl (cI, 120, .inl bf))] H := hP
                have hD : va_D A [(md, .inr (6, [vm_0, vm_1, vm_2, vm_3, vm_4, vm_5, vm_6, vm_7, vm_8, vm_9, .ref bt, .int (nI tl), .int (nI (ta + 1)), .int (nI ta), .int 0, .int ov_49, .int bd, .int s17, vm_18, vm_19, vm_20, vm_21, vm_22, vm_23])), (bt, .inl (cI, 120, .inl bf))] := hD
                refine lv_aload_n hx hb dX6_nextToken_146 rfl (lv_at hl 0 rfl) ?_
                refine va_get (D := D) (ci := 6) (v := .int 0) (C := RX6) (T := TX6) (N := 24) hx hb hts hi6 hown hK.1 hP 0 rfl rfl 14 (by decide) wf102 (fun _ h9 => h9) rfl dX6_nextToken_147 ?_
                refine lv_iconst (v := 3) hx hb dX6_nextToken_150 (by decide) ?_
                refine lv_icmp_ne (tgt := 277) hx hb dX6_nextToken_151 (by decide) (fun _ => ?_) (fun h => absurd h (by decide))
                have hP9 := hP.sub (ws' := [(md, .inr (6, [vm_0, vm_1, vm_2, vm_3, vm_4, vm_5, vm_6, vm_7, vm_8, vm_9, .ref bt, .int (nI tl), .int (nI (ta + 1)), .int (nI ta), .int 0, .int ov_49, .int bd, .int s17, vm_18, vm_19, vm_20, vm_21, vm_22, vm_23])), (bt, .inl (cI, 120, .inl bf))]) [0, 1] rfl
                have hD9 := hD.sub (ws' := [(md, .inr (6, [vm_0, vm_1, vm_2, vm_3, vm_4, vm_5, vm_6, vm_7, vm_8, vm_9, .ref bt, .int (nI tl), .int (nI (ta + 1)), .int (nI ta), .int 0, .int ov_49, .int bd, .int s17, vm_18, vm_19, vm_20, vm_21, vm_22, vm_23])), (bt, .inl (cI, 120, .inl bf))]) [0, 1] (by decide) rfl
                exact wt_vret hx hb hr hlocks hP9 hD9 hS ⟨(ta + 1), (nI ta), 0, ov_49, rfl, (by omega)⟩ dX6_nextToken_277
            · skip
              refine lv_iconst (v := 4) hx hb dX6_nextToken_113 (by decide) ?_
              refine lv_goto (tgt := 118) hx hb dX6_nextToken_114 (by decide) ?_
              refine va_put (D := D) (ci := 6) (v := .int 4) (ty := .int) (C := RX6) (T := TX6) (N := 24) hx hb hts hi6 tyX6 tyX6_ok nmX6 hown hK.1 hP hD hS 0 rfl rfl 14 (by decide) wf102 (fun _ h9 => h9) rfl (by decide +kernel) rfl rfl (Nat.le_of_ble_eq_true rfl) dX6_nextToken_118 (fun H locs hP hD hS => ?_)
              have hP : va_P D vwCl [(md, .inr (6, [vm_0, vm_1, vm_2, vm_3, vm_4, vm_5, vm_6, vm_7, vm_8, vm_9, .ref bt, .int (nI tl), .int (nI ta), .int (nI ta), .int 4, .int ov_49, .int bd, .int s17, vm_18, vm_19, vm_20, vm_21, vm_22, vm_23])), (bt, .inl (cI, 120, .inl bf))] H := hP
              have hD : va_D A [(md, .inr (6, [vm_0, vm_1, vm_2, vm_3, vm_4, vm_5, vm_6, vm_7, vm_8, vm_9, .ref bt, .int (nI tl), .int (nI ta), .int (nI ta), .int 4, .int ov_49, .int bd, .int s17, vm_18, vm_19, vm_20, vm_21, vm_22, vm_23])), (bt, .inl (cI, 120, .inl bf))] := hD
              refine lv_aload_n hx hb dX6_nextToken_121 rfl (lv_at hl 0 rfl) ?_
              refine lv_dup hx hb dX6_nextToken_122 rfl ?_
              refine va_get (D := D) (ci := 6) (v := .int (nI ta)) (C := RX6) (T := TX6) (N := 24) hx hb hts hi6 hown hK.1 hP 0 rfl rfl 12 (by decide) wf87 (fun _ h9 => h9) rfl dX6_nextToken_123 ?_
              refine lv_aload_n hx hb dX6_nextToken_126 rfl (lv_at hl 0 rfl) ?_
              refine va_get (D := D) (ci := 6) (v := .int (nI ta)) (C := RX6) (T := TX6) (N := 24) hx hb hts hi6 hown hK.1 hP 0 rfl rfl 12 (by decide) wf87 (fun _ h9 => h9) rfl dX6_nextToken_127 ?_
              refine lv_aload_n hx hb dX6_nextToken_130 rfl (lv_at hl 0 rfl) ?_
              refine va_get (D := D) (ci := 6) (v := .int (nI tl)) (C := RX6) (T := TX6) (N := 24) hx hb hts hi6 hown hK.1 hP 0 rfl rfl 11 (by decide) wf74 (fun _ h9 => h9) rfl dX6_nextToken_131 ?_
              refine lv_icmp_ge (tgt := 141) hx hb dX6_nextToken_134 (by decide) (fun c_61 => ?_) (fun c_61 => ?_)
              · skip
                have c_61 : tl ≤ ta := (nI_leI (a := tl) (b := ta) (by omega) (by omega)).mp c_61
                refine lv_iconst (v := 0) hx hb dX6_nextToken_141 (by decide) ?_
                refine lv_iadd hx hb dX6_nextToken_142 ?_
                refine wt_top (z := nI (ta + 0)) (nI_add ta 0) ?_
                refine va_put (D := D) (ci := 6) (v := .int (nI (ta + 0))) (ty := .int) (C := RX6) (T := TX6) (N := 24) hx hb hts hi6 tyX6 tyX6_ok nmX6 hown hK.1 hP hD hS 0 rfl rfl 12 (by decide) wf87 (fun _ h9 => h9) rfl (by decide +kernel) rfl rfl (Nat.le_of_ble_eq_true rfl) dX6_nextToken_143 (fun H locs hP hD hS => ?_)
                have hP : va_P D vwCl [(md, .inr (6, [vm_0, vm_1, vm_2, vm_3, vm_4, vm_5, vm_6, vm_7, vm_8, vm_9, .ref bt, .int (nI tl), .int (nI (ta + 0)), .int (nI ta), .int 4, .int ov_49, .int bd, .int s17, vm_18, vm_19, vm_20, vm_21, vm_22, vm_23])), (bt, .inl (cI, 120, .inl bf))] H := hP
                have hD : va_D A [(md, .inr (6, [vm_0, vm_1, vm_2, vm_3, vm_4, vm_5, vm_6, vm_7, vm_8, vm_9, .ref bt, .int (nI tl), .int (nI (ta + 0)), .int (nI ta), .int 4, .int ov_49, .int bd, .int s17, vm_18, vm_19, vm_20, vm_21, vm_22, vm_23])), (bt, .inl (cI, 120, .inl bf))] := hD
                refine lv_aload_n hx hb dX6_nextToken_146 rfl (lv_at hl 0 rfl) ?_
                refine va_get (D := D) (ci := 6) (v := .int 4) (C := RX6) (T := TX6) (N := 24) hx hb hts hi6 hown hK.1 hP 0 rfl rfl 14 (by decide) wf102 (fun _ h9 => h9) rfl dX6_nextToken_147 ?_
                refine lv_iconst (v := 3) hx hb dX6_nextToken_150 (by decide) ?_
                refine lv_icmp_ne (tgt := 277) hx hb dX6_nextToken_151 (by decide) (fun _ => ?_) (fun h => absurd h (by decide))
                have hP9 := hP.sub (ws' := [(md, .inr (6, [vm_0, vm_1, vm_2, vm_3, vm_4, vm_5, vm_6, vm_7, vm_8, vm_9, .ref bt, .int (nI tl), .int (nI (ta + 0)), .int (nI ta), .int 4, .int ov_49, .int bd, .int s17, vm_18, vm_19, vm_20, vm_21, vm_22, vm_23])), (bt, .inl (cI, 120, .inl bf))]) [0, 1] rfl
                have hD9 := hD.sub (ws' := [(md, .inr (6, [vm_0, vm_1, vm_2, vm_3, vm_4, vm_5, vm_6, vm_7, vm_8, vm_9, .ref bt, .int (nI tl), .int (nI (ta + 0)), .int (nI ta), .int 4, .int ov_49, .int bd, .int s17, vm_18, vm_19, vm_20, vm_21, vm_22, vm_23])), (bt, .inl (cI, 120, .inl bf))]) [0, 1] (by decide) rfl
                exact wt_vret hx hb hr hlocks hP9 hD9 hS ⟨(ta + 0), (nI ta), 4, ov_49, rfl, (by omega)⟩ dX6_nextToken_277
              · skip
                have c_61 : ¬ (tl ≤ ta) := fun h => c_61 ((nI_leI (a := tl) (b := ta) (by omega) (by omega)).mpr h)
                refine lv_iconst (v := 1) hx hb dX6_nextToken_137 (by decide) ?_
                refine lv_goto (tgt := 142) hx hb dX6_nextToken_138 (by decide) ?_
                refine lv_iadd hx hb dX6_nextToken_142 ?_
                refine wt_top (z := nI (ta + 1)) (nI_add ta 1) ?_
                refine va_put (D := D) (ci := 6) (v := .int (nI (ta + 1))) (ty := .int) (C := RX6) (T := TX6) (N := 24) hx hb hts hi6 tyX6 tyX6_ok nmX6 hown hK.1 hP hD hS 0 rfl rfl 12 (by decide) wf87 (fun _ h9 => h9) rfl (by decide +kernel) rfl rfl (Nat.le_of_ble_eq_true rfl) dX6_nextToken_143 (fun H locs hP hD hS => ?_)
                have hP : va_P D vwCl [(md, .inr (6, [vm_0, vm_1, vm_2, vm_3, vm_4, vm_5, vm_6, vm_7, vm_8, vm_9, .ref bt, .int (nI tl), .int (nI (ta + 1)), .int (nI ta), .int 4, .int ov_49, .int bd, .int s17, vm_18, vm_19, vm_20, vm_21, vm_22, vm_23])), (bt, .inl (cI, 120, .inl bf))] H := hP
                have hD : va_D A [(md, .inr (6, [vm_0, vm_1, vm_2, vm_3, vm_4, vm_5, vm_6, vm_7, vm_8, vm_9, .ref bt, .int (nI tl), .int (nI (ta + 1)), .int (nI ta), .int 4, .int ov_49, .int bd, .int s17, vm_18, vm_19, vm_20, vm_21, vm_22, vm_23])), (bt, .inl (cI, 120, .inl bf))] := hD
                refine lv_aload_n hx hb dX6_nextToken_146 rfl (lv_at hl 0 rfl) ?_
                refine va_get (D := D) (ci := 6) (v := .int 4) (C := RX6) (T := TX6) (N := 24) hx hb hts hi6 hown hK.1 hP 0 rfl rfl 14 (by decide) wf102 (fun _ h9 => h9) rfl dX6_nextToken_147 ?_
                refine lv_iconst (v := 3) hx hb dX6_nextToken_150 (by decide) ?_
                refine lv_icmp_ne (tgt := 277) hx hb dX6_nextToken_151 (by decide) (fun _ => ?_) (fun h => absurd h (by decide))
                have hP9 := hP.sub (ws' := [(md, .inr (6, [vm_0, vm_1, vm_2, vm_3, vm_4, vm_5, vm_6, vm_7, vm_8, vm_9, .ref bt, .int (nI tl), .int (nI (ta + 1)), .int (nI ta), .int 4, .int ov_49, .int bd, .int s17, vm_18, vm_19, vm_20, vm_21, vm_22, vm_23])), (bt, .inl (cI, 120, .inl bf))]) [0, 1] rfl
                have hD9 := hD.sub (ws' := [(md, .inr (6, [vm_0, vm_1, vm_2, vm_3, vm_4, vm_5, vm_6, vm_7, vm_8, vm_9, .ref bt, .int (nI tl), .int (nI (ta + 1)), .int (nI ta), .int 4, .int ov_49, .int bd, .int s17, vm_18, vm_19, vm_20, vm_21, vm_22, vm_23])), (bt, .inl (cI, 120, .inl bf))]) [0, 1] (by decide) rfl
                exact wt_vret hx hb hr hlocks hP9 hD9 hS ⟨(ta + 1), (nI ta), 4, ov_49, rfl, (by omega)⟩ dX6_nextToken_277
        · skip
          obtain ⟨j_62, hj_62, hj_62b, rfl⟩ := wI_nat (a := 48) (b := 57) (by omega) (by omega) c_56
          refine lv_iconst (v := 3) hx hb dX6_nextToken_91 (by decide) ?_
          refine lv_goto (tgt := 118) hx hb dX6_nextToken_92 (by decide) ?_
          refine va_put (D := D) (ci := 6) (v := .int 3) (ty := .int) (C := RX6) (T := TX6) (N := 24) hx hb hts hi6 tyX6 tyX6_ok nmX6 hown hK.1 hP hD hS 0 rfl rfl 14 (by decide) wf102 (fun _ h9 => h9) rfl (by decide +kernel) rfl rfl (Nat.le_of_ble_eq_true rfl) dX6_nextToken_118 (fun H locs hP hD hS => ?_)
          have hP : va_P D vwCl [(md, .inr (6, [vm_0, vm_1, vm_2, vm_3, vm_4, vm_5, vm_6, vm_7, vm_8, vm_9, .ref bt, .int (nI tl), .int (nI ta), .int (nI ta), .int 3, .int (nI j_62), .int bd, .int s17, vm_18, vm_19, vm_20, vm_21, vm_22, vm_23])), (bt, .inl (cI, 120, .inl bf))] H := hP
          have hD : va_D A [(md, .inr (6, [vm_0, vm_1, vm_2, vm_3, vm_4, vm_5, vm_6, vm_7, vm_8, vm_9, .ref bt, .int (nI tl), .int (nI ta), .int (nI ta), .int 3, .int (nI j_62), .int bd, .int s17, vm_18, vm_19, vm_20, vm_21, vm_22, vm_23])), (bt, .inl (cI, 120, .inl bf))] := hD
          refine lv_aload_n hx hb dX6_nextToken_121 rfl (lv_at hl 0 rfl) ?_
          refine lv_dup hx hb dX6_nextToken_122 rfl ?_
          refine va_get (D := D) (ci := 6) (v := .int (nI ta)) (C := RX6) (T := TX6) (N := 24) hx hb hts hi6 hown hK.1 hP 0 rfl rfl 12 (by decide) wf87 (fun _ h9 => h9) rfl dX6_nextToken_123 ?_
          refine lv_aload_n hx hb dX6_nextToken_126 rfl (lv_at hl 0 rfl) ?_
          refine va_get (D := D) (ci := 6) (v := .int (nI ta)) (C := RX6) (T := TX6) (N := 24) hx hb hts hi6 hown hK.1 hP 0 rfl rfl 12 (by decide) wf87 (fun _ h9 => h9) rfl dX6_nextToken_127 ?_
          refine lv_aload_n hx hb dX6_nextToken_130 rfl (lv_at hl 0 rfl) ?_
          refine va_get (D := D) (ci := 6) (v := .int (nI tl)) (C := RX6) (T := TX6) (N := 24) hx hb hts hi6 hown hK.1 hP 0 rfl rfl 11 (by decide) wf74 (fun _ h9 => h9) rfl dX6_nextToken_131 ?_
          refine lv_icmp_ge (tgt := 141) hx hb dX6_nextToken_134 (by decide) (fun c_63 => ?_) (fun c_63 => ?_)
          · skip
            have c_63 : tl ≤ ta := (nI_leI (a := tl) (b := ta) (by omega) (by omega)).mp c_63
            refine lv_iconst (v := 0) hx hb dX6_nextToken_141 (by decide) ?_
            refine lv_iadd hx hb dX6_nextToken_142 ?_
            refine wt_top (z := nI (ta + 0)) (nI_add ta 0) ?_
            refine va_put (D := D) (ci := 6) (v := .int (nI (ta + 0))) (ty := .int) (C := RX6) (T := TX6) (N := 24) hx hb hts hi6 tyX6 tyX6_ok nmX6 hown hK.1 hP hD hS 0 rfl rfl 12 (by decide) wf87 (fun _ h9 => h9) rfl (by decide +kernel) rfl rfl (Nat.le_of_ble_eq_true rfl) dX6_nextToken_143 (fun H locs hP hD hS => ?_)
            have hP : va_P D vwCl [(md, .inr (6, [vm_0, vm_1, vm_2, vm_3, vm_4, vm_5, vm_6, vm_7, vm_8, vm_9, .ref bt, .int (nI tl), .int (nI (ta + 0)), .int (nI ta), .int 3, .int (nI j_62), .int bd, .int s17, vm_18, vm_19, vm_20, vm_21, vm_22, vm_23])), (bt, .inl (cI, 120, .inl bf))] H := hP
            have hD : va_D A [(md, .inr (6, [vm_0, vm_1, vm_2, vm_3, vm_4, vm_5, vm_6, vm_7, vm_8, vm_9, .ref bt, .int (nI tl), .int (nI (ta + 0)), .int (nI ta), .int 3, .int (nI j_62), .int bd, .int s17, vm_18, vm_19, vm_20, vm_21, vm_22, vm_23])), (bt, .inl (cI, 120, .inl bf))] := hD
            refine lv_aload_n hx hb dX6_nextToken_146 rfl (lv_at hl 0 rfl) ?_
            refine va_get (D := D) (ci := 6) (v := .int 3) (C := RX6) (T := TX6) (N := 24) hx hb hts hi6 hown hK.1 hP 0 rfl rfl 14 (by decide) wf102 (fun _ h9 => h9) rfl dX6_nextToken_147 ?_
            refine lv_iconst (v := 3) hx hb dX6_nextToken_150 (by decide) ?_
            refine lv_icmp_ne (tgt := 277) hx hb dX6_nextToken_151 (by decide) (fun h => absurd h (by decide)) (fun _ => ?_)
            refine lv_aload_n hx hb dX6_nextToken_154 rfl (lv_at hl 0 rfl) ?_
            refine lv_dup hx hb dX6_nextToken_155 rfl ?_
            refine va_get (D := D) (ci := 6) (v := .int (nI j_62)) (C := RX6) (T := TX6) (N := 24) hx hb hts hi6 hown hK.1 hP 0 rfl rfl 15 (by decide) wf91 (fun _ h9 => h9) rfl dX6_nextToken_156 ?_
            refine lv_bipush (v := 48) hx hb dX6_nextToken_159 (by decide) ?_
            refine lv_isub hx hb dX6_nextToken_161 ?_
            refine lv_topi (fun ov_64 _ => ?_)
            refine va_put (D := D) (ci := 6) (v := .int ov_64) (ty := .int) (C := RX6) (T := TX6) (N := 24) hx hb hts hi6 tyX6 tyX6_ok nmX6 hown hK.1 hP hD hS 0 rfl rfl 15 (by decide) wf91 (fun _ h9 => h9) rfl (by decide +kernel) rfl rfl (Nat.le_of_ble_eq_true rfl) dX6_nextToken_162 (fun H locs hP hD hS => ?_)
            have hP : va_P D vwCl [(md, .inr (6, [vm_0, vm_1, vm_2, vm_3, vm_4, vm_5, vm_6, vm_7, vm_8, vm_9, .ref bt, .int (nI tl), .int (nI (ta + 0)), .int (nI ta), .int 3, .int ov_64, .int bd, .int s17, vm_18, vm_19, vm_20, vm_21, vm_22, vm_23])), (bt, .inl (cI, 120, .inl bf))] H := hP
            have hD : va_D A [(md, .inr (6, [vm_0, vm_1, vm_2, vm_3, vm_4, vm_5, vm_6, vm_7, vm_8, vm_9, .ref bt, .int (nI tl), .int (nI (ta + 0)), .int (nI ta), .int 3, .int ov_64, .int bd, .int s17, vm_18, vm_19, vm_20, vm_21, vm_22, vm_23])), (bt, .inl (cI, 120, .inl bf))] := hD
            have loop165 : ∀ (k i_65 : Nat) (v_66 : Int32) (H : Heap) (locs : List Loc) (ls : Array Slot), i_65 + k = tl → va_P D vwCl [(md, .inr (6, [vm_0, vm_1, vm_2, vm_3, vm_4, vm_5, vm_6, vm_7, vm_8, vm_9, .ref bt, .int (nI tl), .int (nI i_65), .int (nI ta), .int 3, .int v_66, .int bd, .int s17, vm_18, vm_19, vm_20, vm_21, vm_22, vm_23])), (bt, .inl (cI, 120, .inl bf))] H → va_D A [(md, .inr (6, [vm_0, vm_1, vm_2, vm_3, vm_4, vm_5, vm_6, vm_7, vm_8, vm_9, .ref bt, .int (nI tl), .int (nI i_65), .int (nI ta), .int 3, .int v_66, .int bd, .int s17, vm_18, vm_19, vm_20, vm_21, vm_22, vm_23])), (bt, .inl (cI, 120, .inl bf))] → va_S A s.heap H locs → lv_has ls 1 [(0, .ref md)] → W p l e ({ frames := 1, cells := 0, slots := 0, locals := 25 } : Room) s m ([.ref md] : List Value).toArray below meth c H locs 0 0 (MQ below (wt_QV D (fun w => ∃ (ta2 : Nat) (md_f13 md_f14 md_f15 : Int32), w = [(md, .inr (6, [vm_0, vm_1, vm_2, vm_3, vm_4, vm_5, vm_6, vm_7, vm_8, vm_9, .ref bt, .int (nI tl), .int (nI ta2), .int md_f13, .int md_f14, .int md_f15, .int bd, .int s17, vm_18, vm_19, vm_20, vm_21, vm_22, vm_23])), (bt, .inl (cI, 120, .inl bf))] ∧ ta2 ≤ tl) A) ([.ref md] : List Value).toArray s 0 0 A) (F0 m 165 ls []) := by
              intro k
              induction k with
              | zero =>
                intro i_65 v_66 H locs ls hik  hP hD hS hl
                refine lv_aload_n hx hb dX6_nextToken_165 rfl (lv_at hl 0 rfl) ?_
                refine va_get (D := D) (ci := 6) (v := .int (nI i_65)) (C := RX6) (T := TX6) (N := 24) hx hb hts hi6 hown hK.1 hP 0 rfl rfl 12 (by decide) wf87 (fun _ h9 => h9) rfl dX6_nextToken_166 ?_
                refine lv_aload_n hx hb dX6_nextToken_169 rfl (lv_at hl 0 rfl) ?_
                refine va_get (D := D) (ci := 6) (v := .int (nI tl)) (C := RX6) (T := TX6) (N := 24) hx hb hts hi6 hown hK.1 hP 0 rfl rfl 11 (by decide) wf74 (fun _ h9 => h9) rfl dX6_nextToken_170 ?_
                refine lv_icmp_ge (tgt := 255) hx hb dX6_nextToken_173 (by decide) (fun _ => ?_) (fun h => absurd (nI_le (a := tl) (b := i_65) (by omega) (by omega)) h)
                refine lv_aload_n hx hb dX6_nextToken_255 rfl (lv_at hl 0 rfl) ?_
                refine lv_aload_n hx hb dX6_nextToken_256 rfl (lv_at hl 0 rfl) ?_
                refine va_get (D := D) (ci := 6) (v := .int (nI i_65)) (C := RX6) (T := TX6) (N := 24) hx hb hts hi6 hown hK.1 hP 0 rfl rfl 12 (by decide) wf87 (fun _ h9 => h9) rfl dX6_nextToken_257 ?_
                refine lv_aload_n hx hb dX6_nextToken_260 rfl (lv_at hl 0 rfl) ?_
                refine va_get (D := D) (ci := 6) (v := .int (nI ta)) (C := RX6) (T := TX6) (N := 24) hx hb hts hi6 hown hK.1 hP 0 rfl rfl 13 (by decide) wf81 (fun _ h9 => h9) rfl dX6_nextToken_261 ?_
                refine lv_isub hx hb dX6_nextToken_264 ?_
                refine lv_topi (fun ov_67 _ => ?_)
                refine lv_iconst (v := 2) hx hb dX6_nextToken_265 (by decide) ?_
                refine lv_icmp_le (tgt := 273) hx hb dX6_nextToken_266 (by decide) (fun c_68 => ?_) (fun c_68 => ?_)
                · skip
                  refine lv_iconst (v := 3) hx hb dX6_nextToken_273 (by decide) ?_
                  refine va_put (D := D) (ci := 6) (v := .int 3) (ty := .int) (C := RX6) (T := TX6) (N := 24) hx hb hts hi6 tyX6 tyX6_ok nmX6 hown hK.1 hP hD hS 0 rfl rfl 14 (by decide) wf102 (fun _ h9 => h9) rfl (by decide +kernel) rfl rfl (Nat.le_of_ble_eq_true rfl) dX6_nextToken_274 (fun H locs hP hD hS => ?_)
                  have hP : va_P D vwCl [(md, .inr (6, [vm_0, vm_1, vm_2, vm_3, vm_4, vm_5, vm_6, vm_7, vm_8, vm_9, .ref bt, .int (nI tl), .int (nI i_65), .int (nI ta), .int 3, .int v_66, .int bd, .int s17, vm_18, vm_19, vm_20, vm_21, vm_22, vm_23])), (bt, .inl (cI, 120, .inl bf))] H := hP
                  have hD : va_D A [(md, .inr (6, [vm_0, vm_1, vm_2, vm_3, vm_4, vm_5, vm_6, vm_7, vm_8, vm_9, .ref bt, .int (nI tl), .int (nI i_65), .int (nI ta), .int 3, .int v_66, .int bd, .int s17, vm_18, vm_19, vm_20, vm_21, vm_22, vm_23])), (bt, .inl (cI, 120, .inl bf))] := hD
                  have hP9 := hP.sub (ws' := [(md, .inr (6, [vm_0, vm_1, vm_2, vm_3, vm_4, vm_5, vm_6, vm_7, vm_8, vm_9, .ref bt, .int (nI tl), .int (nI i_65), .int (nI ta), .int 3, .int v_66, .int bd, .int s17, vm_18, vm_19, vm_20, vm_21, vm_22, vm_23])), (bt, .inl (cI, 120, .inl bf))]) [0, 1] rfl
                  have hD9 := hD.sub (ws' := [(md, .inr (6, [vm_0, vm_1, vm_2, vm_3, vm_4, vm_5, vm_6, vm_7, vm_8, vm_9, .ref bt, .int (nI tl), .int (nI i_65), .int (nI ta), .int 3, .int v_66, .int bd, .int s17, vm_18, vm_19, vm_20, vm_21, vm_22, vm_23])), (bt, .inl (cI, 120, .inl bf))]) [0, 1] (by decide) rfl
                  exact wt_vret hx hb hr hlocks hP9 hD9 hS ⟨i_65, (nI ta), 3, v_66, rfl, (by omega)⟩ dX6_nextToken_277
                · skip
                  refine lv_iconst (v := 0) hx hb dX6_nextToken_269 (by decide) ?_
                  refine lv_goto (tgt := 274) hx hb dX6_nextToken_270 (by decide) ?_
                  refine va_put (D := D) (ci := 6) (v := .int 0) (ty := .int) (C := RX6) (T := TX6) (N := 24) hx hb hts hi6 tyX6 tyX6_ok nmX6 hown hK.1 hP hD hS 0 rfl rfl 14 (by decide) wf102 (fun _ h9 => h9) rfl (by decide +kernel) rfl rfl (Nat.le_of_ble_eq_true rfl) dX6_nextToken_274 (fun H locs hP hD hS => ?_)
                  have hP : va_P D vwCl [(md, .inr (6, [vm_0, vm_1, vm_2, vm_3, vm_4, vm_5, vm_6, vm_7, vm_8, vm_9, .ref bt, .int (nI tl), .int (nI i_65), .int (nI ta), .int 0, .int v_66, .int bd, .int s17, vm_18, vm_19, vm_20, vm_21, vm_22, vm_23])), (bt, .inl (cI, 120, .inl bf))] H := hP
                  have hD : va_D A [(md, .inr (6, [vm_0, vm_1, vm_2, vm_3, vm_4, vm_5, vm_6, vm_7, vm_8, vm_9, .ref bt, .int (nI tl), .int (nI i_65), .int (nI ta), .int 0, .int v_66, .int bd, .int s17, vm_18, vm_19, vm_20, vm_21, vm_22, vm_23])), (bt, .inl (cI, 120, .inl bf))] := hD
                  have hP9 := hP.sub (ws' := [(md, .inr (6, [vm_0, vm_1, vm_2, vm_3, vm_4, vm_5, vm_6, vm_7, vm_8, vm_9, .ref bt, .int (nI tl), .int (nI i_65), .int (nI ta), .int 0, .int v_66, .int bd, .int s17, vm_18, vm_19, vm_20, vm_21, vm_22, vm_23])), (bt, .inl (cI, 120, .inl bf))]) [0, 1] rfl
                  have hD9 := hD.sub (ws' := [(md, .inr (6, [vm_0, vm_1, vm_2, vm_3, vm_4, vm_5, vm_6, vm_7, vm_8, vm_9, .ref bt, .int (nI tl), .int (nI i_65), .int (nI ta), .int 0, .int v_66, .int bd, .int s17, vm_18, vm_19, vm_20, vm_21, vm_22, vm_23])), (bt, .inl (cI, 120, .inl bf))]) [0, 1] (by decide) rfl
                  exact wt_vret hx hb hr hlocks hP9 hD9 hS ⟨i_65, (nI ta), 0, v_66, rfl, (by omega)⟩ dX6_nextToken_277
              | succ k ih165 =>
                intro i_65 v_66 H locs ls hik  hP hD hS hl
                refine lv_aload_n hx hb dX6_nextToken_165 rfl (lv_at hl 0 rfl) ?_
                refine va_get (D := D) (ci := 6) (v := .int (nI i_65)) (C := RX6) (T := TX6) (N := 24) hx hb hts hi6 hown hK.1 hP 0 rfl rfl 12 (by decide) wf87 (fun _ h9 => h9) rfl dX6_nextToken_166 ?_
                refine lv_aload_n hx hb dX6_nextToken_169 rfl (lv_at hl 0 rfl) ?_
                refine va_get (D := D) (ci := 6) (v := .int (nI tl)) (C := RX6) (T := TX6) (N := 24) hx hb hts hi6 hown hK.1 hP 0 rfl rfl 11 (by decide) wf74 (fun _ h9 => h9) rfl dX6_nextToken_170 ?_
                refine lv_icmp_ge (tgt := 255) hx hb dX6_nextToken_173 (by decide) (fun h => absurd h (nI_ge (a := i_65) (b := tl) (by omega) (by omega))) (fun _ => ?_)
                refine lv_aload_n hx hb dX6_nextToken_176 rfl (lv_at hl 0 rfl) ?_
                refine va_get (D := D) (ci := 6) (v := .ref bt) (C := RX6) (T := TX6) (N := 24) hx hb hts hi6 hown hK.1 hP 0 rfl rfl 10 (by decide) wf31 (fun _ h9 => h9) rfl dX6_nextToken_177 ?_
                refine lv_aload_n hx hb dX6_nextToken_180 rfl (lv_at hl 0 rfl) ?_
                refine va_get (D := D) (ci := 6) (v := .int (nI i_65)) (C := RX6) (T := TX6) (N := 24) hx hb hts hi6 hown hK.1 hP 0 rfl rfl 12 (by decide) wf87 (fun _ h9 => h9) rfl dX6_nextToken_181 ?_
                refine va_iald hx hb hK.1 hP 1 0 rfl rfl (vp_in_nI (by omega) (by omega)) dX6_nextToken_184 ?_
                refine lv_topi (fun ov_69 _ => ?_)
                refine lv_i2l hx hb dX6_nextToken_185 rfl ?_
                refine lv_ldc2 hx hb hown wl98 dX6_nextToken_186 ?_
                refine lv_ldc2 hx hb hown wl100 dX6_nextToken_189 ?_
                refine wt_rS (As := [.long ov_69.toInt64, .long 48, .long 57]) (rest := []) ⟨hx, hb, hml, hown, hts⟩ (c_X6_in l D cI cZ cH ov_69.toInt64 48 57) (va_cwS 3 hts gX6_nextToken_X6_in rfl rfl rfl (by decide +kernel) ⟨Nat.le_of_ble_eq_true rfl, Nat.le_of_ble_eq_true rfl⟩) hK hP [] rfl rfl hl.1 rfl (Nat.le_of_ble_eq_true rfl) dX6_nextToken_192 ⟨Nat.le_of_ble_eq_true rfl, Nat.le_of_ble_eq_true rfl⟩ (fun r_70 e_71 => ?_)
                subst e_71
                refine wt_top (z := wI ov_69 48 57) (wL_I' (by decide) (by decide)) ?_
                refine lv_if_eq (tgt := 255) hx hb dX6_nextToken_195 (by decide) (fun c_72 => ?_) (fun c_72 => ?_)
                · skip
                  refine lv_aload_n hx hb dX6_nextToken_255 rfl (lv_at hl 0 rfl) ?_
                  refine lv_aload_n hx hb dX6_nextToken_256 rfl (lv_at hl 0 rfl) ?_
                  refine va_get (D := D) (ci := 6) (v := .int (nI i_65)) (C := RX6) (T := TX6) (N := 24) hx hb hts hi6 hown hK.1 hP 0 rfl rfl 12 (by decide) wf87 (fun _ h9 => h9) rfl dX6_nextToken_257 ?_
                  refine lv_aload_n hx hb dX6_nextToken_260 rfl (lv_at hl 0 rfl) ?_
                  refine va_get (D := D) (ci := 6) (v := .int (nI ta)) (C := RX6) (T := TX6) (N := 24) hx hb hts hi6 hown hK.1 hP 0 rfl rfl 13 (by decide) wf81 (fun _ h9 => h9) rfl dX6_nextToken_261 ?_
                  refine lv_isub hx hb dX6_nextToken_264 ?_
                  refine lv_topi (fun ov_73 _ => ?_)
                  refine lv_iconst (v := 2) hx hb dX6_nextToken_265 (by decide) ?_
                  refine lv_icmp_le (tgt := 273) hx hb dX6_nextToken_266 (by decide) (fun c_74 => ?_) (fun c_74 => ?_)
                  · skip
                    refine lv_iconst (v := 3) hx hb dX6_nextToken_273 (by decide) ?_
                    refine va_put (D := D) (ci := 6) (v := .int 3) (ty := .int) (C := RX6) (T := TX6) (N := 24) hx hb hts hi6 tyX6 tyX6_ok nmX6 hown hK.1 hP hD hS 0 rfl rfl 14 (by decide) wf102 (fun _ h9 => h9) rfl (by decide +kernel) rfl rfl (Nat.le_of_ble_eq_true rfl) dX6_nextToken_274 (fun H locs hP hD hS => ?_)
                    have hP : va_P D vwCl [(md, .inr (6, [vm_0, vm_1, vm_2, vm_3, vm_4, vm_5, vm_6, vm_7, vm_8, vm_9, .ref bt, .int (nI tl), .int (nI i_65), .int (nI ta), .int 3, .int v_66, .int bd, .int s17, vm_18, vm_19, vm_20, vm_21, vm_22, vm_23])), (bt, .inl (cI, 120, .inl bf))] H := hP
                    have hD : va_D A [(md, .inr (6, [vm_0, vm_1, vm_2, vm_3, vm_4, vm_5, vm_6, vm_7, vm_8, vm_9, .ref bt, .int (nI tl), .int (nI i_65), .int (nI ta), .int 3, .int v_66, .int bd, .int s17, vm_18, vm_19, vm_20, vm_21, vm_22, vm_23])), (bt, .inl (cI, 120, .inl bf))] := hD
                    have hP9 := hP.sub (ws' := [(md, .inr (6, [vm_0, vm_1, vm_2, vm_3, vm_4, vm_5, vm_6, vm_7, vm_8, vm_9, .ref bt, .int (nI tl), .int (nI i_65), .int (nI ta), .int 3, .int v_66, .int bd, .int s17, vm_18, vm_19, vm_20, vm_21, vm_22, vm_23])), (bt, .inl (cI, 120, .inl bf))]) [0, 1] rfl
                    have hD9 := hD.sub (ws' := [(md, .inr (6, [vm_0, vm_1, vm_2, vm_3, vm_4, vm_5, vm_6, vm_7, vm_8, vm_9, .ref bt, .int (nI tl), .int (nI i_65), .int (nI ta), .int 3, .int v_66, .int bd, .int s17, vm_18, vm_19, vm_20, vm_21, vm_22, vm_23])), (bt, .inl (cI, 120, .inl bf))]) [0, 1] (by decide) rfl
                    exact wt_vret hx hb hr hlocks hP9 hD9 hS ⟨i_65, (nI ta), 3, v_66, rfl, (by omega)⟩ dX6_nextToken_277
                  · skip
                    refine lv_iconst (v := 0) hx hb dX6_nextToken_269 (by decide) ?_
                    refine lv_goto (tgt := 274) hx hb dX6_nextToken_270 (by decide) ?_
                    refine va_put (D := D) (ci := 6) (v := .int 0) (ty := .int) (C := RX6) (T := TX6) (N := 24) hx hb hts hi6 tyX6 tyX6_ok nmX6 hown hK.1 hP hD hS 0 rfl rfl 14 (by decide) wf102 (fun _ h9 => h9) rfl (by decide +kernel) rfl rfl (Nat.le_of_ble_eq_true rfl) dX6_nextToken_274 (fun H locs hP hD hS => ?_)
                    have hP : va_P D vwCl [(md, .inr (6, [vm_0, vm_1, vm_2, vm_3, vm_4, vm_5, vm_6, vm_7, vm_8, vm_9, .ref bt, .int (nI tl), .int (nI i_65), .int (nI ta), .int 0, .int v_66, .int bd, .int s17, vm_18, vm_19, vm_20, vm_21, vm_22, vm_23])), (bt, .inl (cI, 120, .inl bf))] H := hP
                    have hD : va_D A [(md, .inr (6, [vm_0, vm_1, vm_2, vm_3, vm_4, vm_5, vm_6, vm_7, vm_8, vm_9, .ref bt, .int (nI tl), .int (nI i_65), .int (nI ta), .int 0, .int v_66, .int bd, .int s17, vm_18, vm_19, vm_20, vm_21, vm_22, vm_23])), (bt, .inl (cI, 120, .inl bf))] := hD
                    have hP9 := hP.sub (ws' := [(md, .inr (6, [vm_0, vm_1, vm_2, vm_3, vm_4, vm_5, vm_6, vm_7, vm_8, vm_9, .ref bt, .int (nI tl), .int (nI i_65), .int (nI ta), .int 0, .int v_66, .int bd, .int s17, vm_18, vm_19, vm_20, vm_21, vm_22, vm_23])), (bt, .inl (cI, 120, .inl bf))]) [0, 1] rfl
                    have hD9 := hD.sub (ws' := [(md, .inr (6, [vm_0, vm_1, vm_2, vm_3, vm_4, vm_5, vm_6, vm_7, vm_8, vm_9, .ref bt, .int (nI tl), .int (nI i_65), .int (nI ta), .int 0, .int v_66, .int bd, .int s17, vm_18, vm_19, vm_20, vm_21, vm_22, vm_23])), (bt, .inl (cI, 120, .inl bf))]) [0, 1] (by decide) rfl
                    exact wt_vret hx hb hr hlocks hP9 hD9 hS ⟨i_65, (nI ta), 0, v_66, rfl, (by omega)⟩ dX6_nextToken_277
                · skip
                  obtain ⟨j_75, hj_75, hj_75b, rfl⟩ := wI_nat (a := 48) (b := 57) (by omega) (by omega) c_72
                  refine lv_aload_n hx hb dX6_nextToken_198 rfl (lv_at hl 0 rfl) ?_
                  refine lv_aload_n hx hb dX6_nextToken_199 rfl (lv_at hl 0 rfl) ?_
                  refine va_get (D := D) (ci := 6) (v := .int (nI i_65)) (C := RX6) (T := TX6) (N := 24) hx hb hts hi6 hown hK.1 hP 0 rfl rfl 12 (by decide) wf87 (fun _ h9 => h9) rfl dX6_nextToken_200 ?_
                  refine lv_aload_n hx hb dX6_nextToken_203 rfl (lv_at hl 0 rfl) ?_
                  refine va_get (D := D) (ci := 6) (v := .int (nI ta)) (C := RX6) (T := TX6) (N := 24) hx hb hts hi6 hown hK.1 hP 0 rfl rfl 13 (by decide) wf81 (fun _ h9 => h9) rfl dX6_nextToken_204 ?_
                  refine lv_isub hx hb dX6_nextToken_207 ?_
                  refine lv_topi (fun ov_76 _ => ?_)
                  refine lv_iconst (v := 2) hx hb dX6_nextToken_208 (by decide) ?_
                  refine lv_icmp_ge (tgt := 235) hx hb dX6_nextToken_209 (by decide) (fun c_77 => ?_) (fun c_77 => ?_)
                  · skip
                    refine lv_aload_n hx hb dX6_nextToken_235 rfl (lv_at hl 0 rfl) ?_
                    refine va_get (D := D) (ci := 6) (v := .int v_66) (C := RX6) (T := TX6) (N := 24) hx hb hts hi6 hown hK.1 hP 0 rfl rfl 15 (by decide) wf91 (fun _ h9 => h9) rfl dX6_nextToken_236 ?_
                    refine va_put (D := D) (ci := 6) (v := .int v_66) (ty := .int) (C := RX6) (T := TX6) (N := 24) hx hb hts hi6 tyX6 tyX6_ok nmX6 hown hK.1 hP hD hS 0 rfl rfl 15 (by decide) wf91 (fun _ h9 => h9) rfl (by decide +kernel) rfl rfl (Nat.le_of_ble_eq_true rfl) dX6_nextToken_239 (fun H locs hP hD hS => ?_)
                    have hP : va_P D vwCl [(md, .inr (6, [vm_0, vm_1, vm_2, vm_3, vm_4, vm_5, vm_6, vm_7, vm_8, vm_9, .ref bt, .int (nI tl), .int (nI i_65), .int (nI ta), .int 3, .int v_66, .int bd, .int s17, vm_18, vm_19, vm_20, vm_21, vm_22, vm_23])), (bt, .inl (cI, 120, .inl bf))] H := hP
                    have hD : va_D A [(md, .inr (6, [vm_0, vm_1, vm_2, vm_3, vm_4, vm_5, vm_6, vm_7, vm_8, vm_9, .ref bt, .int (nI tl), .int (nI i_65), .int (nI ta), .int 3, .int v_66, .int bd, .int s17, vm_18, vm_19, vm_20, vm_21, vm_22, vm_23])), (bt, .inl (cI, 120, .inl bf))] := hD
                    refine lv_aload_n hx hb dX6_nextToken_242 rfl (lv_at hl 0 rfl) ?_
                    refine lv_dup hx hb dX6_nextToken_243 rfl ?_
                    refine va_get (D := D) (ci := 6) (v := .int (nI i_65)) (C := RX6) (T := TX6) (N := 24) hx hb hts hi6 hown hK.1 hP 0 rfl rfl 12 (by decide) wf87 (fun _ h9 => h9) rfl dX6_nextToken_244 ?_
                    refine lv_iconst (v := 1) hx hb dX6_nextToken_247 (by decide) ?_
                    refine lv_iadd hx hb dX6_nextToken_248 ?_
                    refine wt_top (z := nI (i_65 + 1)) (nI_add i_65 1) ?_
                    refine va_put (D := D) (ci := 6) (v := .int (nI (i_65 + 1))) (ty := .int) (C := RX6) (T := TX6) (N := 24) hx hb hts hi6 tyX6 tyX6_ok nmX6 hown hK.1 hP hD hS 0 rfl rfl 12 (by decide) wf87 (fun _ h9 => h9) rfl (by decide +kernel) rfl rfl (Nat.le_of_ble_eq_true rfl) dX6_nextToken_249 (fun H locs hP hD hS => ?_)
                    have hP : va_P D vwCl [(md, .inr (6, [vm_0, vm_1, vm_2, vm_3, vm_4, vm_5, vm_6, vm_7, vm_8, vm_9, .ref bt, .int (nI tl), .int (nI (i_65 + 1)), .int (nI ta), .int 3, .int v_66, .int bd, .int s17, vm_18, vm_19, vm_20, vm_21, vm_22, vm_23])), (bt, .inl (cI, 120, .inl bf))] H := hP
                    have hD : va_D A [(md, .inr (6, [vm_0, vm_1, vm_2, vm_3, vm_4, vm_5, vm_6, vm_7, vm_8, vm_9, .ref bt, .int (nI tl), .int (nI (i_65 + 1)), .int (nI ta), .int 3, .int v_66, .int bd, .int s17, vm_18, vm_19, vm_20, vm_21, vm_22, vm_23])), (bt, .inl (cI, 120, .inl bf))] := hD
                    refine lv_goto (tgt := 165) hx hb dX6_nextToken_252 (by decide) ?_
                    exact ih165 ((i_65 + 1)) v_66 H locs ls (by omega)  hP hD hS (lv_sub hl [0] rfl)
                  · skip
                    refine lv_bipush (v := 10) hx hb dX6_nextToken_212 (by decide) ?_
                    refine lv_aload_n hx hb dX6_nextToken_214 rfl (lv_at hl 0 rfl) ?_
                    refine va_get (D := D) (ci := 6) (v := .int v_66) (C := RX6) (T := TX6) (N := 24) hx hb hts hi6 hown hK.1 hP 0 rfl rfl 15 (by decide) wf91 (fun _ h9 => h9) rfl dX6_nextToken_215 ?_
                    refine lv_imul hx hb dX6_nextToken_218 ?_
                    refine lv_topi (fun ov_78 _ => ?_)
                    refine lv_aload_n hx hb dX6_nextToken_219 rfl (lv_at hl 0 rfl) ?_
                    refine va_get (D := D) (ci := 6) (v := .ref bt) (C := RX6) (T := TX6) (N := 24) hx hb hts hi6 hown hK.1 hP 0 rfl rfl 10 (by decide) wf31 (fun _ h9 => h9) rfl dX6_nextToken_220 ?_
                    refine lv_aload_n hx hb dX6_nextToken_223 rfl (lv_at hl 0 rfl) ?_
                    refine va_get (D := D) (ci := 6) (v := .int (nI i_65)) (C := RX6) (T := TX6) (N := 24) hx hb hts hi6 hown hK.1 hP 0 rfl rfl 12 (by decide) wf87 (fun _ h9 => h9) rfl dX6_nextToken_224 ?_
                    refine va_iald hx hb hK.1 hP 1 0 rfl rfl (vp_in_nI (by omega) (by omega)) dX6_nextToken_227 ?_
                    refine lv_topi (fun ov_79 _ => ?_)
                    refine lv_iadd hx hb dX6_nextToken_228 ?_
                    refine lv_topi (fun ov_80 _ => ?_)
                    refine lv_bipush (v := 48) hx hb dX6_nextToken_229 (by decide) ?_
                    refine lv_isub hx hb dX6_nextToken_231 ?_
                    refine lv_topi (fun ov_81 _ => ?_)
                    refine lv_goto (tgt := 239) hx hb dX6_nextToken_232 (by decide) ?_
                    refine va_put (D := D) (ci := 6) (v := .int ov_81) (ty := .int) (C := RX6) (T := TX6) (N := 24) hx hb hts hi6 tyX6 tyX6_ok nmX6 hown hK.1 hP hD hS 0 rfl rfl 15 (by decide) wf91 (fun _ h9 => h9) rfl (by decide +kernel) rfl rfl (Nat.le_of_ble_eq_true rfl) dX6_nextToken_239 (fun H locs hP hD hS => ?_)
                    have hP : va_P D vwCl [(md, .inr (6, [vm_0, vm_1, vm_2, vm_3, vm_4, vm_5, vm_6, vm_7, vm_8, vm_9, .ref bt, .int (nI tl), .int (nI i_65), .int (nI ta), .int 3, .int ov_81, .int bd, .int s17, vm_18, vm_19, vm_20, vm_21, vm_22, vm_23])), (bt, .inl (cI, 120, .inl bf))] H := hP
                    have hD : va_D A [(md, .inr (6, [vm_0, vm_1, vm_2, vm_3, vm_4, vm_5, vm_6, vm_7, vm_8, vm_9, .ref bt, .int (nI tl), .int (nI i_65), .int (nI ta), .int 3, .int ov_81, .int bd, .int s17, vm_18, vm_19, vm_20, vm_21, vm_22, vm_23])), (bt, .inl (cI, 120, .inl bf))] := hD
                    refine lv_aload_n hx hb dX6_nextToken_242 rfl (lv_at hl 0 rfl) ?_
                    refine lv_dup hx hb dX6_nextToken_243 rfl ?_
                    refine va_get (D := D) (ci := 6) (v := .int (nI i_65)) (C := RX6) (T := TX6) (N := 24) hx hb hts hi6 hown hK.1 hP 0 rfl rfl 12 (by decide) wf87 (fun _ h9 => h9) rfl dX6_nextToken_244 ?_
                    refine lv_iconst (v := 1) hx hb dX6_nextToken_247 (by decide) ?_
                    refine lv_iadd hx hb dX6_nextToken_248 ?_
                    refine wt_top (z := nI (i_65 + 1)) (nI_add i_65 1) ?_
                    refine va_put (D := D) (ci := 6) (v := .int (nI (i_65 + 1))) (ty := .int) (C := RX6) (T := TX6) (N := 24) hx hb hts hi6 tyX6 tyX6_ok nmX6 hown hK.1 hP hD hS 0 rfl rfl 12 (by decide) wf87 (fun _ h9 => h9) rfl (by decide +kernel) rfl rfl (Nat.le_of_ble_eq_true rfl) dX6_nextToken_249 (fun H locs hP hD hS => ?_)
                    have hP : va_P D vwCl [(md, .inr (6, [vm_0, vm_1, vm_2, vm_3, vm_4, vm_5, vm_6, vm_7, vm_8, vm_9, .ref bt, .int (nI tl), .int (nI (i_65 + 1)), .int (nI ta), .int 3, .int ov_81, .int bd, .int s17, vm_18, vm_19, vm_20, vm_21, vm_22, vm_23])), (bt, .inl (cI, 120, .inl bf))] H := hP
                    have hD : va_D A [(md, .inr (6, [vm_0, vm_1, vm_2, vm_3, vm_4, vm_5, vm_6, vm_7, vm_8, vm_9, .ref bt, .int (nI tl), .int (nI (i_65 + 1)), .int (nI ta), .int 3, .int ov_81, .int bd, .int s17, vm_18, vm_19, vm_20, vm_21, vm_22, vm_23])), (bt, .inl (cI, 120, .inl bf))] := hD
                    refine lv_goto (tgt := 165) hx hb dX6_nextToken_252 (by decide) ?_
                    exact ih165 ((i_65 + 1)) ov_81 H locs ls (by omega)  hP hD hS (lv_sub hl [0] rfl)
            exact loop165 (tl - (ta + 0)) ((ta + 0)) ov_64 _ _ ls (by omega)  hP hD hS hl
          · skip
            have c_63 : ¬ (tl ≤ ta) := fun h => c_63 ((nI_leI (a := tl) (b := ta) (by omega) (by omega)).mpr h)
            refine lv_iconst (v := 1) hx hb dX6_nextToken_137 (by decide) ?_
            refine lv_goto (tgt := 142) hx hb dX6_nextToken_138 (by decide) ?_
            refine lv_iadd hx hb dX6_nextToken_142 ?_
            refine wt_top (z := nI (ta + 1)) (nI_add ta 1) ?_
            refine va_put (D := D) (ci := 6) (v := .int (nI (ta + 1))) (ty := .int) (C := RX6) (T := TX6) (N := 24) hx hb hts hi6 tyX6 tyX6_ok nmX6 hown hK.1 hP hD hS 0 rfl rfl 12 (by decide) wf87 (fun _ h9 => h9) rfl (by decide +kernel) rfl rfl (Nat.le_of_ble_eq_true rfl) dX6_nextToken_143 (fun H locs hP hD hS => ?_)
            have hP : va_P D vwCl [(md, .inr (6, [vm_0, vm_1, vm_2, vm_3, vm_4, vm_5, vm_6, vm_7, vm_8, vm_9, .ref bt, .int (nI tl), .int (nI (ta + 1)), .int (nI ta), .int 3, .int (nI j_62), .int bd, .int s17, vm_18, vm_19, vm_20, vm_21, vm_22, vm_23])), (bt, .inl (cI, 120, .inl bf))] H := hP
            have hD : va_D A [(md, .inr (6, [vm_0, vm_1, vm_2, vm_3, vm_4, vm_5, vm_6, vm_7, vm_8, vm_9, .ref bt, .int (nI tl), .int (nI (ta + 1)), .int (nI ta), .int 3, .int (nI j_62), .int bd, .int s17, vm_18, vm_19, vm_20, vm_21, vm_22, vm_23])), (bt, .inl (cI, 120, .inl bf))] := hD
            refine lv_aload_n hx hb dX6_nextToken_146 rfl (lv_at hl 0 rfl) ?_
            refine va_get (D := D) (ci := 6) (v := .int 3) (C := RX6) (T := TX6) (N := 24) hx hb hts hi6 hown hK.1 hP 0 rfl rfl 14 (by decide) wf102 (fun _ h9 => h9) rfl dX6_nextToken_147 ?_
            refine lv_iconst (v := 3) hx hb dX6_nextToken_150 (by decide) ?_
            refine lv_icmp_ne (tgt := 277) hx hb dX6_nextToken_151 (by decide) (fun h => absurd h (by decide)) (fun _ => ?_)
            refine lv_aload_n hx hb dX6_nextToken_154 rfl (lv_at hl 0 rfl) ?_
            refine lv_dup hx hb dX6_nextToken_155 rfl ?_
            refine va_get (D := D) (ci := 6) (v := .int (nI j_62)) (C := RX6) (T := TX6) (N := 24) hx hb hts hi6 hown hK.1 hP 0 rfl rfl 15 (by decide) wf91 (fun _ h9 => h9) rfl dX6_nextToken_156 ?_
            refine lv_bipush (v := 48) hx hb dX6_nextToken_159 (by decide) ?_
            refine lv_isub hx hb dX6_nextToken_161 ?_
            refine lv_topi (fun ov_82 _ => ?_)
            refine va_put (D := D) (ci := 6) (v := .int ov_82) (ty := .int) (C := RX6) (T := TX6) (N := 24) hx hb hts hi6 tyX6 tyX6_ok nmX6 hown hK.1 hP hD hS 0 rfl rfl 15 (by decide) wf91 (fun _ h9 => h9) rfl (by decide +kernel) rfl rfl (Nat.le_of_ble_eq_true rfl) dX6_nextToken_162 (fun H locs hP hD hS => ?_)
            have hP : va_P D vwCl [(md, .inr (6, [vm_0, vm_1, vm_2, vm_3, vm_4, vm_5, vm_6, vm_7, vm_8, vm_9, .ref bt, .int (nI tl), .int (nI (ta + 1)), .int (nI ta), .int 3, .int ov_82, .int bd, .int s17, vm_18, vm_19, vm_20, vm_21, vm_22, vm_23])), (bt, .inl (cI, 120, .inl bf))] H := hP
            have hD : va_D A [(md, .inr (6, [vm_0, vm_1, vm_2, vm_3, vm_4, vm_5, vm_6, vm_7, vm_8, vm_9, .ref bt, .int (nI tl), .int (nI (ta + 1)), .int (nI ta), .int 3, .int ov_82, .int bd, .int s17, vm_18, vm_19, vm_20, vm_21, vm_22, vm_23])), (bt, .inl (cI, 120, .inl bf))] := hD
            have loop165 : ∀ (k i_83 : Nat) (v_84 : Int32) (H : Heap) (locs : List Loc) (ls : Array Slot), i_83 + k = tl → va_P D vwCl [(md, .inr (6, [vm_0, vm_1, vm_2, vm_3, vm_4, vm_5, vm_6, vm_7, vm_8, vm_9, .ref bt, .int (nI tl), .int (nI i_83), .int (nI ta), .int 3, .int v_84, .int bd, .int s17, vm_18, vm_19, vm_20, vm_21, vm_22, vm_23])), (bt, .inl (cI, 120, .inl bf))] H → va_D A [(md, .inr (6, [vm_0, vm_1, vm_2, vm_3, vm_4, vm_5, vm_6, vm_7, vm_8, vm_9, .ref bt, .int (nI tl), .int (nI i_83), .int (nI ta), .int 3, .int v_84, .int bd, .int s17, vm_18, vm_19, vm_20, vm_21, vm_22, vm_23])), (bt, .inl (cI, 120, .inl bf))] → va_S A s.heap H locs → lv_has ls 1 [(0, .ref md)] → W p l e ({ frames := 1, cells := 0, slots := 0, locals := 25 } : Room) s m ([.ref md] : List Value).toArray below meth c H locs 0 0 (MQ below (wt_QV D (fun w => ∃ (ta2 : Nat) (md_f13 md_f14 md_f15 : Int32), w = [(md, .inr (6, [vm_0, vm_1, vm_2, vm_3, vm_4, vm_5, vm_6, vm_7, vm_8, vm_9, .ref bt, .int (nI tl), .int (nI ta2), .int md_f13, .int md_f14, .int md_f15, .int bd, .int s17, vm_18, vm_19, vm_20, vm_21, vm_22, vm_23])), (bt, .inl (cI, 120, .inl bf))] ∧ ta2 ≤ tl) A) ([.ref md] : List Value).toArray s 0 0 A) (F0 m 165 ls []) := by
              intro k
              induction k with
              | zero =>
                intro i_83 v_84 H locs ls hik  hP hD hS hl
                refine lv_aload_n hx hb dX6_nextToken_165 rfl (lv_at hl 0 rfl) ?_
                refine va_get (D := D) (ci := 6) (v := .int (nI i_83)) (C := RX6) (T := TX6) (N := 24) hx hb hts hi6 hown hK.1 hP 0 rfl rfl 12 (by decide) wf87 (fun _ h9 => h9) rfl dX6_nextToken_166 ?_
                refine lv_aload_n hx hb dX6_nextToken_169 rfl (lv_at hl 0 rfl) ?_
                refine va_get (D := D) (ci := 6) (v := .int (nI tl)) (C := RX6) (T := TX6) (N := 24) hx hb hts hi6 hown hK.1 hP 0 rfl rfl 11 (by decide) wf74 (fun _ h9 => h9) rfl dX6_nextToken_170 ?_
                refine lv_icmp_ge (tgt := 255) hx hb dX6_nextToken_173 (by decide) (fun _ => ?_) (fun h => absurd (nI_le (a := tl) (b := i_83) (by omega) (by omega)) h)
                refine lv_aload_n hx hb dX6_nextToken_255 rfl (lv_at hl 0 rfl) ?_
                refine lv_aload_n hx hb dX6_nextToken_256 rfl (lv_at hl 0 rfl) ?_
                refine va_get (D := D) (ci := 6) (v := .int (nI i_83)) (C := RX6) (T := TX6) (N := 24) hx hb hts hi6 hown hK.1 hP 0 rfl rfl 12 (by decide) wf87 (fun _ h9 => h9) rfl dX6_nextToken_257 ?_
                refine lv_aload_n hx hb dX6_nextToken_260 rfl (lv_at hl 0 rfl) ?_
                refine va_get (D := D) (ci := 6) (v := .int (nI ta)) (C := RX6) (T := TX6) (N := 24) hx hb hts hi6 hown hK.1 hP 0 rfl rfl 13 (by decide) wf81 (fun _ h9 => h9) rfl dX6_nextToken_261 ?_
                refine lv_isub hx hb dX6_nextToken_264 ?_
                refine lv_topi (fun ov_85 _ => ?_)
                refine lv_iconst (v := 2) hx hb dX6_nextToken_265 (by decide) ?_
                refine lv_icmp_le (tgt := 273) hx hb dX6_nextToken_266 (by decide) (fun c_86 => ?_) (fun c_86 => ?_)
                · skip
                  refine lv_iconst (v := 3) hx hb dX6_nextToken_273 (by decide) ?_
                  refine va_put (D := D) (ci := 6) (v := .int 3) (ty := .int) (C := RX6) (T := TX6) (N := 24) hx hb hts hi6 tyX6 tyX6_ok nmX6 hown hK.1 hP hD hS 0 rfl rfl 14 (by decide) wf102 (fun _ h9 => h9) rfl (by decide +kernel) rfl rfl (Nat.le_of_ble_eq_true rfl) dX6_nextToken_274 (fun H locs hP hD hS => ?_)
                  have hP : va_P D vwCl [(md, .inr (6, [vm_0, vm_1, vm_2, vm_3, vm_4, vm_5, vm_6, vm_7, vm_8, vm_9, .ref bt, .int (nI tl), .int (nI i_83), .int (nI ta), .int 3, .int v_84, .int bd, .int s17, vm_18, vm_19, vm_20, vm_21, vm_22, vm_23])), (bt, .inl (cI, 120, .inl bf))] H := hP
                  have hD : va_D A [(md, .inr (6, [vm_0, vm_1, vm_2, vm_3, vm_4, vm_5, vm_6, vm_7, vm_8, vm_9, .ref bt, .int (nI tl), .int (nI i_83), .int (nI ta), .int 3, .int v_84, .int bd, .int s17, vm_18, vm_19, vm_20, vm_21, vm_22, vm_23])), (bt, .inl (cI, 120, .inl bf))] := hD
                  have hP9 := hP.sub (ws' := [(md, .inr (6, [vm_0, vm_1, vm_2, vm_3, vm_4, vm_5, vm_6, vm_7, vm_8, vm_9, .ref bt, .int (nI tl), .int (nI i_83), .int (nI ta), .int 3, .int v_84, .int bd, .int s17, vm_18, vm_19, vm_20, vm_21, vm_22, vm_23])), (bt, .inl (cI, 120, .inl bf))]) [0, 1] rfl
                  have hD9 := hD.sub (ws' := [(md, .inr (6, [vm_0, vm_1, vm_2, vm_3, vm_4, vm_5, vm_6, vm_7, vm_8, vm_9, .ref bt, .int (nI tl), .int (nI i_83), .int (nI ta), .int 3, .int v_84, .int bd, .int s17, vm_18, vm_19, vm_20, vm_21, vm_22, vm_23])), (bt, .inl (cI, 120, .inl bf))]) [0, 1] (by decide) rfl
                  exact wt_vret hx hb hr hlocks hP9 hD9 hS ⟨i_83, (nI ta), 3, v_84, rfl, (by omega)⟩ dX6_nextToken_277
                · skip
                  refine lv_iconst (v := 0) hx hb dX6_nextToken_269 (by decide) ?_
                  refine lv_goto (tgt := 274) hx hb dX6_nextToken_270 (by decide) ?_
                  refine va_put (D := D) (ci := 6) (v := .int 0) (ty := .int) (C := RX6) (T := TX6) (N := 24) hx hb hts hi6 tyX6 tyX6_ok nmX6 hown hK.1 hP hD hS 0 rfl rfl 14 (by decide) wf102 (fun _ h9 => h9) rfl (by decide +kernel) rfl rfl (Nat.le_of_ble_eq_true rfl) dX6_nextToken_274 (fun H locs hP hD hS => ?_)
                  have hP : va_P D vwCl [(md, .inr (6, [vm_0, vm_1, vm_2, vm_3, vm_4, vm_5, vm_6, vm_7, vm_8, vm_9, .ref bt, .int (nI tl), .int (nI i_83), .int (nI ta), .int 0, .int v_84, .int bd, .int s17, vm_18, vm_19, vm_20, vm_21, vm_22, vm_23])), (bt, .inl (cI, 120, .inl bf))] H := hP
                  have hD : va_D A [(md, .inr (6, [vm_0, vm_1, vm_2, vm_3, vm_4, vm_5, vm_6, vm_7, vm_8, vm_9, .ref bt, .int (nI tl), .int (nI i_83), .int (nI ta), .int 0, .int v_84, .int bd, .int s17, vm_18, vm_19, vm_20, vm_21, vm_22, vm_23])), (bt, .inl (cI, 120, .inl bf))] := hD
                  have hP9 := hP.sub (ws' := [(md, .inr (6, [vm_0, vm_1, vm_2, vm_3, vm_4, vm_5, vm_6, vm_7, vm_8, vm_9, .ref bt, .int (nI tl), .int (nI i_83), .int (nI ta), .int 0, .int v_84, .int bd, .int s17, vm_18, vm_19, vm_20, vm_21, vm_22, vm_23])), (bt, .inl (cI, 120, .inl bf))]) [0, 1] rfl
                  have hD9 := hD.sub (ws' := [(md, .inr (6, [vm_0, vm_1, vm_2, vm_3, vm_4, vm_5, vm_6, vm_7, vm_8, vm_9, .ref bt, .int (nI tl), .int (nI i_83), .int (nI ta), .int 0, .int v_84, .int bd, .int s17, vm_18, vm_19, vm_20, vm_21, vm_22, vm_23])), (bt, .inl (cI, 120, .inl bf))]) [0, 1] (by decide) rfl
                  exact wt_vret hx hb hr hlocks hP9 hD9 hS ⟨i_83, (nI ta), 0, v_84, rfl, (by omega)⟩ dX6_nextToken_277
              | succ k ih165 =>
                intro i_83 v_84 H locs ls hik  hP hD hS hl
                refine lv_aload_n hx hb dX6_nextToken_165 rfl (lv_at hl 0 rfl) ?_
                refine va_get (D := D) (ci := 6) (v := .int (nI i_83)) (C := RX6) (T := TX6) (N := 24) hx hb hts hi6 hown hK.1 hP 0 rfl rfl 12 (by decide) wf87 (fun _ h9 => h9) rfl dX6_nextToken_166 ?_
                refine lv_aload_n hx hb dX6_nextToken_169 rfl (lv_at hl 0 rfl) ?_
                refine va_get (D := D) (ci := 6) (v := .int (nI tl)) (C := RX6) (T := TX6) (N := 24) hx hb hts hi6 hown hK.1 hP 0 rfl rfl 11 (by decide) wf74 (fun _ h9 => h9) rfl dX6_nextToken_170 ?_
                refine lv_icmp_ge (tgt := 255) hx hb dX6_nextToken_173 (by decide) (fun h => absurd h (nI_ge (a := i_83) (b := tl) (by omega) (by omega))) (fun _ => ?_)
                refine lv_aload_n hx hb dX6_nextToken_176 rfl (lv_at hl 0 rfl) ?_
                refine va_get (D := D) (ci := 6) (v := .ref bt) (C := RX6) (T := TX6) (N := 24) hx hb hts hi6 hown hK.1 hP 0 rfl rfl 10 (by decide) wf31 (fun _ h9 => h9) rfl dX6_nextToken_177 ?_
                refine lv_aload_n hx hb dX6_nextToken_180 rfl (lv_at hl 0 rfl) ?_
                refine va_get (D := D) (ci := 6) (v := .int (nI i_83)) (C := RX6) (T := TX6) (N := 24) hx hb hts hi6 hown hK.1 hP 0 rfl rfl 12 (by decide) wf87 (fun _ h9 => h9) rfl dX6_nextToken_181 ?_
                refine va_iald hx hb hK.1 hP 1 0 rfl rfl (vp_in_nI (by omega) (by omega)) dX6_nextToken_184 ?_
                refine lv_topi (fun ov_87 _ => ?_)
                refine lv_i2l hx hb dX6_nextToken_185 rfl ?_
                refine lv_ldc2 hx hb hown wl98 dX6_nextToken_186 ?_
                refine lv_ldc2 hx hb hown wl100 dX6_nextToken_189 ?_
                refine wt_rS (As := [.long ov_87.toInt64, .long 48, .long 57]) (rest := []) ⟨hx, hb, hml, hown, hts⟩ (c_X6_in l D cI cZ cH ov_87.toInt64 48 57) (va_cwS 3 hts gX6_nextToken_X6_in rfl rfl rfl (by decide +kernel) ⟨Nat.le_of_ble_eq_true rfl, Nat.le_of_ble_eq_true rfl⟩) hK hP [] rfl rfl hl.1 rfl (Nat.le_of_ble_eq_true rfl) dX6_nextToken_192 ⟨Nat.le_of_ble_eq_true rfl, Nat.le_of_ble_eq_true rfl⟩ (fun r_88 e_89 => ?_)
                subst e_89
                refine wt_top (z := wI ov_87 48 57) (wL_I' (by decide) (by decide)) ?_
                refine lv_if_eq (tgt := 255) hx hb dX6_nextToken_195 (by decide) (fun c_90 => ?_) (fun c_90 => ?_)
                · skip
                  refine lv_aload_n hx hb dX6_nextToken_255 rfl (lv_at hl 0 rfl) ?_
                  refine lv_aload_n hx hb dX6_nextToken_256 rfl (lv_at hl 0 rfl) ?_
                  refine va_get (D := D) (ci := 6) (v := .int (nI i_83)) (C := RX6) (T := TX6) (N := 24) hx hb hts hi6 hown hK.1 hP 0 rfl rfl 12 (by decide) wf87 (fun _ h9 => h9) rfl dX6_nextToken_257 ?_
                  refine lv_aload_n hx hb dX6_nextToken_260 rfl (lv_at hl 0 rfl) ?_
                  refine va_get (D := D) (ci := 6) (v := .int (nI ta)) (C := RX6) (T := TX6) (N := 24) hx hb hts hi6 hown hK.1 hP 0 rfl rfl 13 (by decide) wf81 (fun _ h9 => h9) rfl dX6_nextToken_261 ?_
                  refine lv_isub hx hb dX6_nextToken_264 ?_
                  refine lv_topi (fun ov_91 _ => ?_)
                  refine lv_iconst (v := 2) hx hb dX6_nextToken_265 (by decide) ?_
                  refine lv_icmp_le (tgt := 273) hx hb dX6_nextToken_266 (by decide) (fun c_92 => ?_) (fun c_92 => ?_)
                  · skip
                    refine lv_iconst (v := 3) hx hb dX6_nextToken_273 (by decide) ?_
                    refine va_put (D := D) (ci := 6) (v := .int 3) (ty := .int) (C := RX6) (T := TX6) (N := 24) hx hb hts hi6 tyX6 tyX6_ok nmX6 hown hK.1 hP hD hS 0 rfl rfl 14 (by decide) wf102 (fun _ h9 => h9) rfl (by decide +kernel) rfl rfl (Nat.le_of_ble_eq_true rfl) dX6_nextToken_274 (fun H locs hP hD hS => ?_)
                    have hP : va_P D vwCl [(md, .inr (6, [vm_0, vm_1, vm_2, vm_3, vm_4, vm_5, vm_6, vm_7, vm_8, vm_9, .ref bt, .int (nI tl), .int (nI i_83), .int (nI ta), .int 3, .int v_84, .int bd, .int s17, vm_18, vm_19, vm_20, vm_21, vm_22, vm_23])), (bt, .inl (cI, 120, .inl bf))] H := hP
                    have hD : va_D A [(md, .inr (6, [vm_0, vm_1, vm_2, vm_3, vm_4, vm_5, vm_6, vm_7, vm_8, vm_9, .ref bt, .int (nI tl), .int (nI i_83), .int (nI ta), .int 3, .int v_84, .int bd, .int s17, vm_18, vm_19, vm_20, vm_21, vm_22, vm_23])), (bt, .inl (cI, 120, .inl bf))] := hD
                    have hP9 := hP.sub (ws' := [(md, .inr (6, [vm_0, vm_1, vm_2, vm_3, vm_4, vm_5, vm_6, vm_7, vm_8, vm_9, .ref bt, .int (nI tl), .int (nI i_83), .int (nI ta), .int 3, .int v_84, .int bd, .int s17, vm_18, vm_19, vm_20, vm_21, vm_22, vm_23])), (bt, .inl (cI, 120, .inl bf))]) [0, 1] rfl
                    have hD9 := hD.sub (ws' := [(md, .inr (6, [vm_0, vm_1, vm_2, vm_3, vm_4, vm_5, vm_6, vm_7, vm_8, vm_9, .ref bt, .int (nI tl), .int (nI i_83), .int (nI ta), .int 3, .int v_84, .int bd, .int s17, vm_18, vm_19, vm_20, vm_21, vm_22, vm_23])), (bt, .inl (cI, 120, .inl bf))]) [0, 1] (by decide) rfl
                    exact wt_vret hx hb hr hlocks hP9 hD9 hS ⟨i_83, (nI ta), 3, v_84, rfl, (by omega)⟩ dX6_nextToken_277
                  · skip
                    refine lv_iconst (v := 0) hx hb dX6_nextToken_269 (by decide) ?_
                    refine lv_goto (tgt := 274) hx hb dX6_nextToken_270 (by decide) ?_
                    refine va_put (D := D) (ci := 6) (v := .int 0) (ty := .int) (C := RX6) (T := TX6) (N := 24) hx hb hts hi6 tyX6 tyX6_ok nmX6 hown hK.1 hP hD hS 0 rfl rfl 14 (by decide) wf102 (fun _ h9 => h9) rfl (by decide +kernel) rfl rfl (Nat.le_of_ble_eq_true rfl) dX6_nextToken_274 (fun H locs hP hD hS => ?_)
                    have hP : va_P D vwCl [(md, .inr (6, [vm_0, vm_1, vm_2, vm_3, vm_4, vm_5, vm_6, vm_7, vm_8, vm_9, .ref bt, .int (nI tl), .int (nI i_83), .int (nI ta), .int 0, .int v_84, .int bd, .int s17, vm_18, vm_19, vm_20, vm_21, vm_22, vm_23])), (bt, .inl (cI, 120, .inl bf))] H := hP
                    have hD : va_D A [(md, .inr (6, [vm_0, vm_1, vm_2, vm_3, vm_4, vm_5, vm_6, vm_7, vm_8, vm_9, .ref bt, .int (nI tl), .int (nI i_83), .int (nI ta), .int 0, .int v_84, .int bd, .int s17, vm_18, vm_19, vm_20, vm_21, vm_22, vm_23])), (bt, .inl (cI, 120, .inl bf))] := hD
                    have hP9 := hP.sub (ws' := [(md, .inr (6, [vm_0, vm_1, vm_2, vm_3, vm_4, vm_5, vm_6, vm_7, vm_8, vm_9, .ref bt, .int (nI tl), .int (nI i_83), .int (nI ta), .int 0, .int v_84, .int bd, .int s17, vm_18, vm_19, vm_20, vm_21, vm_22, vm_23])), (bt, .inl (cI, 120, .inl bf))]) [0, 1] rfl
                    have hD9 := hD.sub (ws' := [(md, .inr (6, [vm_0, vm_1, vm_2, vm_3, vm_4, vm_5, vm_6, vm_7, vm_8, vm_9, .ref bt, .int (nI tl), .int (nI i_83), .int (nI ta), .int 0, .int v_84, .int bd, .int s17, vm_18, vm_19, vm_20, vm_21, vm_22, vm_23])), (bt, .inl (cI, 120, .inl bf))]) [0, 1] (by decide) rfl
                    exact wt_vret hx hb hr hlocks hP9 hD9 hS ⟨i_83, (nI ta), 0, v_84, rfl, (by omega)⟩ dX6_nextToken_277
                · skip
                  obtain ⟨j_93, hj_93, hj_93b, rfl⟩ := wI_nat (a := 48) (b := 57) (by omega) (by omega) c_90
                  refine lv_aload_n hx hb dX6_nextToken_198 rfl (lv_at hl 0 rfl) ?_
                  refine lv_aload_n hx hb dX6_nextToken_199 rfl (lv_at hl 0 rfl) ?_
                  refine va_get (D := D) (ci := 6) (v := .int (nI i_83)) (C := RX6) (T := TX6) (N := 24) hx hb hts hi6 hown hK.1 hP 0 rfl rfl 12 (by decide) wf87 (fun _ h9 => h9) rfl dX6_nextToken_200 ?_
                  refine lv_aload_n hx hb dX6_nextToken_203 rfl (lv_at hl 0 rfl) ?_
                  refine va_get (D := D) (ci := 6) (v := .int (nI ta)) (C := RX6) (T := TX6) (N := 24) hx hb hts hi6 hown hK.1 hP 0 rfl rfl 13 (by decide) wf81 (fun _ h9 => h9) rfl dX6_nextToken_204 ?_
                  refine lv_isub hx hb dX6_nextToken_207 ?_
                  refine lv_topi (fun ov_94 _ => ?_)
                  refine lv_iconst (v := 2) hx hb dX6_nextToken_208 (by decide) ?_
                  refine lv_icmp_ge (tgt := 235) hx hb dX6_nextToken_209 (by decide) (fun c_95 => ?_) (fun c_95 => ?_)
                  · skip
                    refine lv_aload_n hx hb dX6_nextToken_235 rfl (lv_at hl 0 rfl) ?_
                    refine va_get (D := D) (ci := 6) (v := .int v_84) (C := RX6) (T := TX6) (N := 24) hx hb hts hi6 hown hK.1 hP 0 rfl rfl 15 (by decide) wf91 (fun _ h9 => h9) rfl dX6_nextToken_236 ?_
                    refine va_put (D := D) (ci := 6) (v := .int v_84) (ty := .int) (C := RX6) (T := TX6) (N := 24) hx hb hts hi6 tyX6 tyX6_ok nmX6 hown hK.1 hP hD hS 0 rfl rfl 15 (by decide) wf91 (fun _ h9 => h9) rfl (by decide +kernel) rfl rfl (Nat.le_of_ble_eq_true rfl) dX6_nextToken_239 (fun H locs hP hD hS => ?_)
                    have hP : va_P D vwCl [(md, .inr (6, [vm_0, vm_1, vm_2, vm_3, vm_4, vm_5, vm_6, vm_7, vm_8, vm_9, .ref bt, .int (nI tl), .int (nI i_83), .int (nI ta), .int 3, .int v_84, .int bd, .int s17, vm_18, vm_19, vm_20, vm_21, vm_22, vm_23])), (bt, .inl (cI, 120, .inl bf))] H := hP
                    have hD : va_D A [(md, .inr (6, [vm_0, vm_1, vm_2, vm_3, vm_4, vm_5, vm_6, vm_7, vm_8, vm_9, .ref bt, .int (nI tl), .int (nI i_83), .int (nI ta), .int 3, .int v_84, .int bd, .int s17, vm_18, vm_19, vm_20, vm_21, vm_22, vm_23])), (bt, .inl (cI, 120, .inl bf))] := hD
                    refine lv_aload_n hx hb dX6_nextToken_242 rfl (lv_at hl 0 rfl) ?_
                    refine lv_dup hx hb dX6_nextToken_243 rfl ?_
                    refine va_get (D := D) (ci := 6) (v := .int (nI i_83)) (C := RX6) (T := TX6) (N := 24) hx hb hts hi6 hown hK.1 hP 0 rfl rfl 12 (by decide) wf87 (fun _ h9 => h9) rfl dX6_nextToken_244 ?_
                    refine lv_iconst (v := 1) hx hb dX6_nextToken_247 (by decide) ?_
                    refine lv_iadd hx hb dX6_nextToken_248 ?_
                    refine wt_top (z := nI (i_83 + 1)) (nI_add i_83 1) ?_
                    refine va_put (D := D) (ci := 6) (v := .int (nI (i_83 + 1))) (ty := .int) (C := RX6) (T := TX6) (N := 24) hx hb hts hi6 tyX6 tyX6_ok nmX6 hown hK.1 hP hD hS 0 rfl rfl 12 (by decide) wf87 (fun _ h9 => h9) rfl (by decide +kernel) rfl rfl (Nat.le_of_ble_eq_true rfl) dX6_nextToken_249 (fun H locs hP hD hS => ?_)
                    have hP : va_P D vwCl [(md, .inr (6, [vm_0, vm_1, vm_2, vm_3, vm_4, vm_5, vm_6, vm_7, vm_8, vm_9, .ref bt, .int (nI tl), .int (nI (i_83 + 1)), .int (nI ta), .int 3, .int v_84, .int bd, .int s17, vm_18, vm_19, vm_20, vm_21, vm_22, vm_23])), (bt, .inl (cI, 120, .inl bf))] H := hP
                    have hD : va_D A [(md, .inr (6, [vm_0, vm_1, vm_2, vm_3, vm_4, vm_5, vm_6, vm_7, vm_8, vm_9, .ref bt, .int (nI tl), .int (nI (i_83 + 1)), .int (nI ta), .int 3, .int v_84, .int bd, .int s17, vm_18, vm_19, vm_20, vm_21, vm_22, vm_23])), (bt, .inl (cI, 120, .inl bf))] := hD
                    refine lv_goto (tgt := 165) hx hb dX6_nextToken_252 (by decide) ?_
                    exact ih165 ((i_83 + 1)) v_84 H locs ls (by omega)  hP hD hS (lv_sub hl [0] rfl)
                  · skip
                    refine lv_bipush (v := 10) hx hb dX6_nextToken_212 (by decide) ?_
                    refine lv_aload_n hx hb dX6_nextToken_214 rfl (lv_at hl 0 rfl) ?_
                    refine va_get (D := D) (ci := 6) (v := .int v_84) (C := RX6) (T := TX6) (N := 24) hx hb hts hi6 hown hK.1 hP 0 rfl rfl 15 (by decide) wf91 (fun _ h9 => h9) rfl dX6_nextToken_215 ?_
                    refine lv_imul hx hb dX6_nextToken_218 ?_
                    refine lv_topi (fun ov_96 _ => ?_)
                    refine lv_aload_n hx hb dX6_nextToken_219 rfl (lv_at hl 0 rfl) ?_
                    refine va_get (D := D) (ci := 6) (v := .ref bt) (C := RX6) (T := TX6) (N := 24) hx hb hts hi6 hown hK.1 hP 0 rfl rfl 10 (by decide) wf31 (fun _ h9 => h9) rfl dX6_nextToken_220 ?_
                    refine lv_aload_n hx hb dX6_nextToken_223 rfl (lv_at hl 0 rfl) ?_
                    refine va_get (D := D) (ci := 6) (v := .int (nI i_83)) (C := RX6) (T := TX6) (N := 24) hx hb hts hi6 hown hK.1 hP 0 rfl rfl 12 (by decide) wf87 (fun _ h9 => h9) rfl dX6_nextToken_224 ?_
                    refine va_iald hx hb hK.1 hP 1 0 rfl rfl (vp_in_nI (by omega) (by omega)) dX6_nextToken_227 ?_
                    refine lv_topi (fun ov_97 _ => ?_)
                    refine lv_iadd hx hb dX6_nextToken_228 ?_
                    refine lv_topi (fun ov_98 _ => ?_)
                    refine lv_bipush (v := 48) hx hb dX6_nextToken_229 (by decide) ?_
                    refine lv_isub hx hb dX6_nextToken_231 ?_
                    refine lv_topi (fun ov_99 _ => ?_)
                    refine lv_goto (tgt := 239) hx hb dX6_nextToken_232 (by decide) ?_
                    refine va_put (D := D) (ci := 6) (v := .int ov_99) (ty := .int) (C := RX6) (T := TX6) (N := 24) hx hb hts hi6 tyX6 tyX6_ok nmX6 hown hK.1 hP hD hS 0 rfl rfl 15 (by decide) wf91 (fun _ h9 => h9) rfl (by decide +kernel) rfl rfl (Nat.le_of_ble_eq_true rfl) dX6_nextToken_239 (fun H locs hP hD hS => ?_)
                    have hP : va_P D vwCl [(md, .inr (6, [vm_0, vm_1, vm_2, vm_3, vm_4, vm_5, vm_6, vm_7, vm_8, vm_9, .ref bt, .int (nI tl), .int (nI i_83), .int (nI ta), .int 3, .int ov_99, .int bd, .int s17, vm_18, vm_19, vm_20, vm_21, vm_22, vm_23])), (bt, .inl (cI, 120, .inl bf))] H := hP
                    have hD : va_D A [(md, .inr (6, [vm_0, vm_1, vm_2, vm_3, vm_4, vm_5, vm_6, vm_7, vm_8, vm_9, .ref bt, .int (nI tl), .int (nI i_83), .int (nI ta), .int 3, .int ov_99, .int bd, .int s17, vm_18, vm_19, vm_20, vm_21, vm_22, vm_23])), (bt, .inl (cI, 120, .inl bf))] := hD
                    refine lv_aload_n hx hb dX6_nextToken_242 rfl (lv_at hl 0 rfl) ?_
                    refine lv_dup hx hb dX6_nextToken_243 rfl ?_
                    refine va_get (D := D) (ci := 6) (v := .int (nI i_83)) (C := RX6) (T := TX6) (N := 24) hx hb hts hi6 hown hK.1 hP 0 rfl rfl 12 (by decide) wf87 (fun _ h9 => h9) rfl dX6_nextToken_244 ?_
                    refine lv_iconst (v := 1) hx hb dX6_nextToken_247 (by decide) ?_
                    refine lv_iadd hx hb dX6_nextToken_248 ?_
                    refine wt_top (z := nI (i_83 + 1)) (nI_add i_83 1) ?_
                    refine va_put (D := D) (ci := 6) (v := .int (nI (i_83 + 1))) (ty := .int) (C := RX6) (T := TX6) (N := 24) hx hb hts hi6 tyX6 tyX6_ok nmX6 hown hK.1 hP hD hS 0 rfl rfl 12 (by decide) wf87 (fun _ h9 => h9) rfl (by decide +kernel) rfl rfl (Nat.le_of_ble_eq_true rfl) dX6_nextToken_249 (fun H locs hP hD hS => ?_)
                    have hP : va_P D vwCl [(md, .inr (6, [vm_0, vm_1, vm_2, vm_3, vm_4, vm_5, vm_6, vm_7, vm_8, vm_9, .ref bt, .int (nI tl), .int (nI (i_83 + 1)), .int (nI ta), .int 3, .int ov_99, .int bd, .int s17, vm_18, vm_19, vm_20, vm_21, vm_22, vm_23])), (bt, .inl (cI, 120, .inl bf))] H := hP
                    have hD : va_D A [(md, .inr (6, [vm_0, vm_1, vm_2, vm_3, vm_4, vm_5, vm_6, vm_7, vm_8, vm_9, .ref bt, .int (nI tl), .int (nI (i_83 + 1)), .int (nI ta), .int 3, .int ov_99, .int bd, .int s17, vm_18, vm_19, vm_20, vm_21, vm_22, vm_23])), (bt, .inl (cI, 120, .inl bf))] := hD
                    refine lv_goto (tgt := 165) hx hb dX6_nextToken_252 (by decide) ?_
                    exact ih165 ((i_83 + 1)) ov_99 H locs ls (by omega)  hP hD hS (lv_sub hl [0] rfl)
            exact loop165 (tl - (ta + 1)) ((ta + 1)) ov_82 _ _ ls (by omega)  hP hD hS hl
      · skip
        obtain ⟨j_100, hj_100, hj_100b, rfl⟩ := wI_nat (a := 97) (b := 122) (by omega) (by omega) c_53
        refine lv_iconst (v := 2) hx hb dX6_nextToken_70 (by decide) ?_
        refine lv_goto (tgt := 118) hx hb dX6_nextToken_71 (by decide) ?_
        refine va_put (D := D) (ci := 6) (v := .int 2) (ty := .int) (C := RX6) (T := TX6) (N := 24) hx hb hts hi6 tyX6 tyX6_ok nmX6 hown hK.1 hP hD hS 0 rfl rfl 14 (by decide) wf102 (fun _ h9 => h9) rfl (by decide +kernel) rfl rfl (Nat.le_of_ble_eq_true rfl) dX6_nextToken_118 (fun H locs hP hD hS => ?_)
        have hP : va_P D vwCl [(md, .inr (6, [vm_0, vm_1, vm_2, vm_3, vm_4, vm_5, vm_6, vm_7, vm_8, vm_9, .ref bt, .int (nI tl), .int (nI ta), .int (nI ta), .int 2, .int (nI j_100), .int bd, .int s17, vm_18, vm_19, vm_20, vm_21, vm_22, vm_23])), (bt, .inl (cI, 120, .inl bf))] H := hP
        have hD : va_D A [(md, .inr (6, [vm_0, vm_1, vm_2, vm_3, vm_4, vm_5, vm_6, vm_7, vm_8, vm_9, .ref bt, .int (nI tl), .int (nI ta), .int (nI ta), .int 2, .int (nI j_100), .int bd, .int s17, vm_18, vm_19, vm_20, vm_21, vm_22, vm_23])), (bt, .inl (cI, 120, .inl bf))] := hD
        refine lv_aload_n hx hb dX6_nextToken_121 rfl (lv_at hl 0 rfl) ?_
        refine lv_dup hx hb dX6_nextToken_122 rfl ?_
        refine va_get (D := D) (ci := 6) (v := .int (nI ta)) (C := RX6) (T := TX6) (N := 24) hx hb hts hi6 hown hK.1 hP 0 rfl rfl 12 (by decide) wf87 (fun _ h9 => h9) rfl dX6_nextToken_123 ?_
        refine lv_aload_n hx hb dX6_nextToken_126 rfl (lv_at hl 0 rfl) ?_
        refine va_get (D := D) (ci := 6) (v := .int (nI ta)) (C := RX6) (T := TX6) (N := 24) hx hb hts hi6 hown hK.1 hP 0 rfl rfl 12 (by decide) wf87 (fun _ h9 => h9) rfl dX6_nextToken_127 ?_
        refine lv_aload_n hx hb dX6_nextToken_130 rfl (lv_at hl 0 rfl) ?_
        refine va_get (D := D) (ci := 6) (v := .int (nI tl)) (C := RX6) (T := TX6) (N := 24) hx hb hts hi6 hown hK.1 hP 0 rfl rfl 11 (by decide) wf74 (fun _ h9 => h9) rfl dX6_nextToken_131 ?_
        refine lv_icmp_ge (tgt := 141) hx hb dX6_nextToken_134 (by decide) (fun c_101 => ?_) (fun c_101 => ?_)
        · skip
          have c_101 : tl ≤ ta := (nI_leI (a := tl) (b := ta) (by omega) (by omega)).mp c_101
          refine lv_iconst (v := 0) hx hb dX6_nextToken_141 (by decide) ?_
          refine lv_iadd hx hb dX6_nextToken_142 ?_
          refine wt_top (z := nI (ta + 0)) (nI_add ta 0) ?_
          refine va_put (D := D) (ci := 6) (v := .int (nI (ta + 0))) (ty := .int) (C := RX6) (T := TX6) (N := 24) hx hb hts hi6 tyX6 tyX6_ok nmX6 hown hK.1 hP hD hS 0 rfl rfl 12 (by decide) wf87 (fun _ h9 => h9) rfl (by decide +kernel) rfl rfl (Nat.le_of_ble_eq_true rfl) dX6_nextToken_143 (fun H locs hP hD hS => ?_)
          have hP : va_P D vwCl [(md, .inr (6, [vm_0, vm_1, vm_2, vm_3, vm_4, vm_5, vm_6, vm_7, vm_8, vm_9, .ref bt, .int (nI tl), .int (nI (ta + 0)), .int (nI ta), .int 2, .int (nI j_100), .int bd, .int s17, vm_18, vm_19, vm_20, vm_21, vm_22, vm_23])), (bt, .inl (cI, 120, .inl bf))] H := hP
          have hD : va_D A [(md, .inr (6, [vm_0, vm_1, vm_2, vm_3, vm_4, vm_5, vm_6, vm_7, vm_8, vm_9, .ref bt, .int (nI tl), .int (nI (ta + 0)), .int (nI ta), .int 2, .int (nI j_100), .int bd, .int s17, vm_18, vm_19, vm_20, vm_21, vm_22, vm_23])), (bt, .inl (cI, 120, .inl bf))] := hD
          refine lv_aload_n hx hb dX6_nextToken_146 rfl (lv_at hl 0 rfl) ?_
          refine va_get (D := D) (ci := 6) (v := .int 2) (C := RX6) (T := TX6) (N := 24) hx hb hts hi6 hown hK.1 hP 0 rfl rfl 14 (by decide) wf102 (fun _ h9 => h9) rfl dX6_nextToken_147 ?_
          refine lv_iconst (v := 3) hx hb dX6_nextToken_150 (by decide) ?_
          refine lv_icmp_ne (tgt := 277) hx hb dX6_nextToken_151 (by decide) (fun _ => ?_) (fun h => absurd h (by decide))
          have hP9 := hP.sub (ws' := [(md, .inr (6, [vm_0, vm_1, vm_2, vm_3, vm_4, vm_5, vm_6, vm_7, vm_8, vm_9, .ref bt, .int (nI tl), .int (nI (ta + 0)), .int (nI ta), .int 2, .int (nI j_100), .int bd, .int s17, vm_18, vm_19, vm_20, vm_21, vm_22, vm_23])), (bt, .inl (cI, 120, .inl bf))]) [0, 1] rfl
          have hD9 := hD.sub (ws' := [(md, .inr (6, [vm_0, vm_1, vm_2, vm_3, vm_4, vm_5, vm_6, vm_7, vm_8, vm_9, .ref bt, .int (nI tl), .int (nI (ta + 0)), .int (nI ta), .int 2, .int (nI j_100), .int bd, .int s17, vm_18, vm_19, vm_20, vm_21, vm_22, vm_23])), (bt, .inl (cI, 120, .inl bf))]) [0, 1] (by decide) rfl
          exact wt_vret hx hb hr hlocks hP9 hD9 hS ⟨(ta + 0), (nI ta), 2, (nI j_100), rfl, (by omega)⟩ dX6_nextToken_277
        · skip
          have c_101 : ¬ (tl ≤ ta) := fun h => c_101 ((nI_leI (a := tl) (b := ta) (by omega) (by omega)).mpr h)
          refine lv_iconst (v := 1) hx hb dX6_nextToken_137 (by decide) ?_
          refine lv_goto (tgt := 142) hx hb dX6_nextToken_138 (by decide) ?_
          refine lv_iadd hx hb dX6_nextToken_142 ?_
          refine wt_top (z := nI (ta + 1)) (nI_add ta 1) ?_
          refine va_put (D := D) (ci := 6) (v := .int (nI (ta + 1))) (ty := .int) (C := RX6) (T := TX6) (N := 24) hx hb hts hi6 tyX6 tyX6_ok nmX6 hown hK.1 hP hD hS 0 rfl rfl 12 (by decide) wf87 (fun _ h9 => h9) rfl (by decide +kernel) rfl rfl (Nat.le_of_ble_eq_true rfl) dX6_nextToken_143 (fun H locs hP hD hS => ?_)
          have hP : va_P D vwCl [(md, .inr (6, [vm_0, vm_1, vm_2, vm_3, vm_4, vm_5, vm_6, vm_7, vm_8, vm_9, .ref bt, .int (nI tl), .int (nI (ta + 1)), .int (nI ta), .int 2, .int (nI j_100), .int bd, .int s17, vm_18, vm_19, vm_20, vm_21, vm_22, vm_23])), (bt, .inl (cI, 120, .inl bf))] H := hP
          have hD : va_D A [(md, .inr (6, [vm_0, vm_1, vm_2, vm_3, vm_4, vm_5, vm_6, vm_7, vm_8, vm_9, .ref bt, .int (nI tl), .int (nI (ta + 1)), .int (nI ta), .int 2, .int (nI j_100), .int bd, .int s17, vm_18, vm_19, vm_20, vm_21, vm_22, vm_23])), (bt, .inl (cI, 120, .inl bf))] := hD
          refine lv_aload_n hx hb dX6_nextToken_146 rfl (lv_at hl 0 rfl) ?_
          refine va_get (D := D) (ci := 6) (v := .int 2) (C := RX6) (T := TX6) (N := 24) hx hb hts hi6 hown hK.1 hP 0 rfl rfl 14 (by decide) wf102 (fun _ h9 => h9) rfl dX6_nextToken_147 ?_
          refine lv_iconst (v := 3) hx hb dX6_nextToken_150 (by decide) ?_
          refine lv_icmp_ne (tgt := 277) hx hb dX6_nextToken_151 (by decide) (fun _ => ?_) (fun h => absurd h (by decide))
          have hP9 := hP.sub (ws' := [(md, .inr (6, [vm_0, vm_1, vm_2, vm_3, vm_4, vm_5, vm_6, vm_7, vm_8, vm_9, .ref bt, .int (nI tl), .int (nI (ta + 1)), .int (nI ta), .int 2, .int (nI j_100), .int bd, .int s17, vm_18, vm_19, vm_20, vm_21, vm_22, vm_23])), (bt, .inl (cI, 120, .inl bf))]) [0, 1] rfl
          have hD9 := hD.sub (ws' := [(md, .inr (6, [vm_0, vm_1, vm_2, vm_3, vm_4, vm_5, vm_6, vm_7, vm_8, vm_9, .ref bt, .int (nI tl), .int (nI (ta + 1)), .int (nI ta), .int 2, .int (nI j_100), .int bd, .int s17, vm_18, vm_19, vm_20, vm_21, vm_22, vm_23])), (bt, .inl (cI, 120, .inl bf))]) [0, 1] (by decide) rfl
          exact wt_vret hx hb hr hlocks hP9 hD9 hS ⟨(ta + 1), (nI ta), 2, (nI j_100), rfl, (by omega)⟩ dX6_nextToken_277
    · skip
      have c_50 : ta = tl := (nI_eq (a := ta) (b := tl) (by omega) (by omega)).mp c_50
      refine lv_iconst (v := 1) hx hb dX6_nextToken_49 (by decide) ?_
      refine lv_goto (tgt := 118) hx hb dX6_nextToken_50 (by decide) ?_
      refine va_put (D := D) (ci := 6) (v := .int 1) (ty := .int) (C := RX6) (T := TX6) (N := 24) hx hb hts hi6 tyX6 tyX6_ok nmX6 hown hK.1 hP hD hS 0 rfl rfl 14 (by decide) wf102 (fun _ h9 => h9) rfl (by decide +kernel) rfl rfl (Nat.le_of_ble_eq_true rfl) dX6_nextToken_118 (fun H locs hP hD hS => ?_)
      have hP : va_P D vwCl [(md, .inr (6, [vm_0, vm_1, vm_2, vm_3, vm_4, vm_5, vm_6, vm_7, vm_8, vm_9, .ref bt, .int (nI tl), .int (nI ta), .int (nI ta), .int 1, .int ov_49, .int bd, .int s17, vm_18, vm_19, vm_20, vm_21, vm_22, vm_23])), (bt, .inl (cI, 120, .inl bf))] H := hP
      have hD : va_D A [(md, .inr (6, [vm_0, vm_1, vm_2, vm_3, vm_4, vm_5, vm_6, vm_7, vm_8, vm_9, .ref bt, .int (nI tl), .int (nI ta), .int (nI ta), .int 1, .int ov_49, .int bd, .int s17, vm_18, vm_19, vm_20, vm_21, vm_22, vm_23])), (bt, .inl (cI, 120, .inl bf))] := hD
      refine lv_aload_n hx hb dX6_nextToken_121 rfl (lv_at hl 0 rfl) ?_
      refine lv_dup hx hb dX6_nextToken_122 rfl ?_
      refine va_get (D := D) (ci := 6) (v := .int (nI ta)) (C := RX6) (T := TX6) (N := 24) hx hb hts hi6 hown hK.1 hP 0 rfl rfl 12 (by decide) wf87 (fun _ h9 => h9) rfl dX6_nextToken_123 ?_
      refine lv_aload_n hx hb dX6_nextToken_126 rfl (lv_at hl 0 rfl) ?_
      refine va_get (D := D) (ci := 6) (v := .int (nI ta)) (C := RX6) (T := TX6) (N := 24) hx hb hts hi6 hown hK.1 hP 0 rfl rfl 12 (by decide) wf87 (fun _ h9 => h9) rfl dX6_nextToken_127 ?_
      refine lv_aload_n hx hb dX6_nextToken_130 rfl (lv_at hl 0 rfl) ?_
      refine va_get (D := D) (ci := 6) (v := .int (nI tl)) (C := RX6) (T := TX6) (N := 24) hx hb hts hi6 hown hK.1 hP 0 rfl rfl 11 (by decide) wf74 (fun _ h9 => h9) rfl dX6_nextToken_131 ?_
      refine lv_icmp_ge (tgt := 141) hx hb dX6_nextToken_134 (by decide) (fun c_102 => ?_) (fun c_102 => ?_)
      · skip
        have c_102 : tl ≤ ta := (nI_leI (a := tl) (b := ta) (by omega) (by omega)).mp c_102
        refine lv_iconst (v := 0) hx hb dX6_nextToken_141 (by decide) ?_
        refine lv_iadd hx hb dX6_nextToken_142 ?_
        refine wt_top (z := nI (ta + 0)) (nI_add ta 0) ?_
        refine va_put (D := D) (ci := 6) (v := .int (nI (ta + 0))) (ty := .int) (C := RX6) (T := TX6) (N := 24) hx hb hts hi6 tyX6 tyX6_ok nmX6 hown hK.1 hP hD hS 0 rfl rfl 12 (by decide) wf87 (fun _ h9 => h9) rfl (by decide +kernel) rfl rfl (Nat.le_of_ble_eq_true rfl) dX6_nextToken_143 (fun H locs hP hD hS => ?_)
        have hP : va_P D vwCl [(md, .inr (6, [vm_0, vm_1, vm_2, vm_3, vm_4, vm_5, vm_6, vm_7, vm_8, vm_9, .ref bt, .int (nI tl), .int (nI (ta + 0)), .int (nI ta), .int 1, .int ov_49, .int bd, .int s17, vm_18, vm_19, vm_20, vm_21, vm_22, vm_23])), (bt, .inl (cI, 120, .inl bf))] H := hP
        have hD : va_D A [(md, .inr (6, [vm_0, vm_1, vm_2, vm_3, vm_4, vm_5, vm_6, vm_7, vm_8, vm_9, .ref bt, .int (nI tl), .int (nI (ta + 0)), .int (nI ta), .int 1, .int ov_49, .int bd, .int s17, vm_18, vm_19, vm_20, vm_21, vm_22, vm_23])), (bt, .inl (cI, 120, .inl bf))] := hD
        refine lv_aload_n hx hb dX6_nextToken_146 rfl (lv_at hl 0 rfl) ?_
        refine va_get (D := D) (ci := 6) (v := .int 1) (C := RX6) (T := TX6) (N := 24) hx hb hts hi6 hown hK.1 hP 0 rfl rfl 14 (by decide) wf102 (fun _ h9 => h9) rfl dX6_nextToken_147 ?_
        refine lv_iconst (v := 3) hx hb dX6_nextToken_150 (by decide) ?_
        refine lv_icmp_ne (tgt := 277) hx hb dX6_nextToken_151 (by decide) (fun _ => ?_) (fun h => absurd h (by decide))
        have hP9 := hP.sub (ws' := [(md, .inr (6, [vm_0, vm_1, vm_2, vm_3, vm_4, vm_5, vm_6, vm_7, vm_8, vm_9, .ref bt, .int (nI tl), .int (nI (ta + 0)), .int (nI ta), .int 1, .int ov_49, .int bd, .int s17, vm_18, vm_19, vm_20, vm_21, vm_22, vm_23])), (bt, .inl (cI, 120, .inl bf))]) [0, 1] rfl
        have hD9 := hD.sub (ws' := [(md, .inr (6, [vm_0, vm_1, vm_2, vm_3, vm_4, vm_5, vm_6, vm_7, vm_8, vm_9, .ref bt, .int (nI tl), .int (nI (ta + 0)), .int (nI ta), .int 1, .int ov_49, .int bd, .int s17, vm_18, vm_19, vm_20, vm_21, vm_22, vm_23])), (bt, .inl (cI, 120, .inl bf))]) [0, 1] (by decide) rfl
        exact wt_vret hx hb hr hlocks hP9 hD9 hS ⟨(ta + 0), (nI ta), 1, ov_49, rfl, (by omega)⟩ dX6_nextToken_277
      · skip
        have c_102 : ¬ (tl ≤ ta) := fun h => c_102 ((nI_leI (a := tl) (b := ta) (by omega) (by omega)).mpr h)
        refine lv_iconst (v := 1) hx hb dX6_nextToken_137 (by decide) ?_
        refine lv_goto (tgt := 142) hx hb dX6_nextToken_138 (by decide) ?_
        refine lv_iadd hx hb dX6_nextToken_142 ?_
        refine wt_top (z := nI (ta + 1)) (nI_add ta 1) ?_
        refine va_put (D := D) (ci := 6) (v := .int (nI (ta + 1))) (ty := .int) (C := RX6) (T := TX6) (N := 24) hx hb hts hi6 tyX6 tyX6_ok nmX6 hown hK.1 hP hD hS 0 rfl rfl 12 (by decide) wf87 (fun _ h9 => h9) rfl (by decide +kernel) rfl rfl (Nat.le_of_ble_eq_true rfl) dX6_nextToken_143 (fun H locs hP hD hS => ?_)
        have hP : va_P D vwCl [(md, .inr (6, [vm_0, vm_1, vm_2, vm_3, vm_4, vm_5, vm_6, vm_7, vm_8, vm_9, .ref bt, .int (nI tl), .int (nI (ta + 1)), .int (nI ta), .int 1, .int ov_49, .int bd, .int s17, vm_18, vm_19, vm_20, vm_21, vm_22, vm_23])), (bt, .inl (cI, 120, .inl bf))] H := hP
        have hD : va_D A [(md, .inr (6, [vm_0, vm_1, vm_2, vm_3, vm_4, vm_5, vm_6, vm_7, vm_8, vm_9, .ref bt, .int (nI tl), .int (nI (ta + 1)), .int (nI ta), .int 1, .int ov_49, .int bd, .int s17, vm_18, vm_19, vm_20, vm_21, vm_22, vm_23])), (bt, .inl (cI, 120, .inl bf))] := hD
        refine lv_aload_n hx hb dX6_nextToken_146 rfl (lv_at hl 0 rfl) ?_
        refine va_get (D := D) (ci := 6) (v := .int 1) (C := RX6) (T := TX6) (N := 24) hx hb hts hi6 hown hK.1 hP 0 rfl rfl 14 (by decide) wf102 (fun _ h9 => h9) rfl dX6_nextToken_147 ?_
        refine lv_iconst (v := 3) hx hb dX6_nextToken_150 (by decide) ?_
        refine lv_icmp_ne (tgt := 277) hx hb dX6_nextToken_151 (by decide) (fun _ => ?_) (fun h => absurd h (by decide))
        have hP9 := hP.sub (ws' := [(md, .inr (6, [vm_0, vm_1, vm_2, vm_3, vm_4, vm_5, vm_6, vm_7, vm_8, vm_9, .ref bt, .int (nI tl), .int (nI (ta + 1)), .int (nI ta), .int 1, .int ov_49, .int bd, .int s17, vm_18, vm_19, vm_20, vm_21, vm_22, vm_23])), (bt, .inl (cI, 120, .inl bf))]) [0, 1] rfl
        have hD9 := hD.sub (ws' := [(md, .inr (6, [vm_0, vm_1, vm_2, vm_3, vm_4, vm_5, vm_6, vm_7, vm_8, vm_9, .ref bt, .int (nI tl), .int (nI (ta + 1)), .int (nI ta), .int 1, .int ov_49, .int bd, .int s17, vm_18, vm_19, vm_20, vm_21, vm_22, vm_23])), (bt, .inl (cI, 120, .inl bf))]) [0, 1] (by decide) rfl
        exact wt_vret hx hb hr hlocks hP9 hD9 hS ⟨(ta + 1), (nI ta), 1, ov_49, rfl, (by omega)⟩ dX6_nextToken_277
set_option maxHeartbeats 4000000 in
set_option maxRecDepth 100000 in
theorem c_X6_bad (l : Launch) (D : va_G) (cI cZ cH : ClassId) (md : Nat) (s13 bd s17 k : Int32) (vm_0 vm_1 vm_2 vm_3 vm_4 vm_5 vm_6 vm_7 vm_8 vm_9 vm_10 vm_11 vm_12 vm_14 vm_15 vm_18 vm_19 vm_20 vm_21 vm_22 vm_23 : Value) (hb0 : 0 ≤ bd) (hk0 : 0 < k) : wt_M l yX6_bad wsX6_bad ({ frames := 0, cells := 0, slots := 0, locals := 0 } : Room) D (wt_T cI cZ cH) [.ref md, .int k] [(md, .inr (6, [vm_0, vm_1, vm_2, vm_3, vm_4, vm_5, vm_6, vm_7, vm_8, vm_9, vm_10, vm_11, vm_12, .int s13, vm_14, vm_15, .int bd, .int s17, vm_18, vm_19, vm_20, vm_21, vm_22, vm_23]))] (wt_QV D (fun w => ∃ (md_f16 md_f17 : Int32), w = [(md, .inr (6, [vm_0, vm_1, vm_2, vm_3, vm_4, vm_5, vm_6, vm_7, vm_8, vm_9, vm_10, vm_11, vm_12, .int s13, vm_14, vm_15, .int md_f16, .int md_f17, vm_18, vm_19, vm_20, vm_21, vm_22, vm_23]))] ∧ (¬ k = 0 → ¬ md_f16 = 0) ∧ (¬ bd = 0 → ¬ md_f16 = 0) ∧ 0 ≤ md_f16)) := by
  refine wt_M.ofW (cc := cX6_bad) (maxL := 2) (ret := none) (by decide) rfl (Nat.le_of_ble_eq_true rfl) ?_
  intro p e s m below meth c A ls hx hb hr hts hown hlocks hml hnm hP hK hD hA hS hl
  have hP : va_P D vwCl [(md, .inr (6, [vm_0, vm_1, vm_2, vm_3, vm_4, vm_5, vm_6, vm_7, vm_8, vm_9, vm_10, vm_11, vm_12, .int s13, vm_14, vm_15, .int bd, .int s17, vm_18, vm_19, vm_20, vm_21, vm_22, vm_23]))] s.heap := hP
  have hown : s.vm.findClass RX6 = some m.cls := hown
  have hl : lv_has ls 2 [(0, .ref md), (1, .int k)] := hl
  have hi6 : ∀ w ∈ u_ws RX6 TX6 24, w ∈ wsX6_bad := by decide +kernel
  have wf78 := hts (.fieldLink RX6 78 "WarmTubesModel" "fault" "I") (by decide +kernel)
  have wf81 := hts (.fieldLink RX6 81 "WarmTubesModel" "start" "I") (by decide +kernel)
  have wf84 := hts (.fieldLink RX6 84 "WarmTubesModel" "faultAt" "I") (by decide +kernel)
  refine lv_aload_n hx hb dX6_bad_0 rfl (lv_at hl 0 rfl) ?_
  refine va_get (D := D) (ci := 6) (v := .int bd) (C := RX6) (T := TX6) (N := 24) hx hb hts hi6 hown hK.1 hP 0 rfl rfl 16 (by decide) wf78 (fun _ h9 => h9) rfl dX6_bad_1 ?_
  refine lv_if_ne (tgt := 20) hx hb dX6_bad_4 (by decide) (fun c_1 => ?_) (fun c_1 => ?_)
  · skip
    have hP9 := hP.sub (ws' := [(md, .inr (6, [vm_0, vm_1, vm_2, vm_3, vm_4, vm_5, vm_6, vm_7, vm_8, vm_9, vm_10, vm_11, vm_12, .int s13, vm_14, vm_15, .int bd, .int s17, vm_18, vm_19, vm_20, vm_21, vm_22, vm_23]))]) [0] rfl
    have hD9 := hD.sub (ws' := [(md, .inr (6, [vm_0, vm_1, vm_2, vm_3, vm_4, vm_5, vm_6, vm_7, vm_8, vm_9, vm_10, vm_11, vm_12, .int s13, vm_14, vm_15, .int bd, .int s17, vm_18, vm_19, vm_20, vm_21, vm_22, vm_23]))]) [0] (by decide) rfl
    exact wt_vret hx hb hr hlocks hP9 hD9 hS ⟨bd, s17, rfl, ⟨by first | exact fun h => h | exact fun _ => c_1, by first | exact fun h => h | exact fun h => absurd c_1 h, by first | exact hb0 | exact wt_lele hk0⟩⟩ dX6_bad_20
  · skip
    refine lv_aload_n hx hb dX6_bad_7 rfl (lv_at hl 0 rfl) ?_
    refine lv_iload_n hx hb dX6_bad_8 rfl (lv_at hl 1 rfl) ?_
    refine va_put (D := D) (ci := 6) (v := .int k) (ty := .int) (C := RX6) (T := TX6) (N := 24) hx hb hts hi6 tyX6 tyX6_ok nmX6 hown hK.1 hP hD hS 0 rfl rfl 16 (by decide) wf78 (fun _ h9 => h9) rfl (by decide +kernel) rfl rfl (Nat.le_of_ble_eq_true rfl) dX6_bad_9 (fun H locs hP hD hS => ?_)
    have hP : va_P D vwCl [(md, .inr (6, [vm_0, vm_1, vm_2, vm_3, vm_4, vm_5, vm_6, vm_7, vm_8, vm_9, vm_10, vm_11, vm_12, .int s13, vm_14, vm_15, .int k, .int s17, vm_18, vm_19, vm_20, vm_21, vm_22, vm_23]))] H := hP
    have hD : va_D A [(md, .inr (6, [vm_0, vm_1, vm_2, vm_3, vm_4, vm_5, vm_6, vm_7, vm_8, vm_9, vm_10, vm_11, vm_12, .int s13, vm_14, vm_15, .int k, .int s17, vm_18, vm_19, vm_20, vm_21, vm_22, vm_23]))] := hD
    refine lv_aload_n hx hb dX6_bad_12 rfl (lv_at hl 0 rfl) ?_
    refine lv_aload_n hx hb dX6_bad_13 rfl (lv_at hl 0 rfl) ?_
    refine va_get (D := D) (ci := 6) (v := .int s13) (C := RX6) (T := TX6) (N := 24) hx hb hts hi6 hown hK.1 hP 0 rfl rfl 13 (by decide) wf81 (fun _ h9 => h9) rfl dX6_bad_14 ?_
    refine va_put (D := D) (ci := 6) (v := .int s13) (ty := .int) (C := RX6) (T := TX6) (N := 24) hx hb hts hi6 tyX6 tyX6_ok nmX6 hown hK.1 hP hD hS 0 rfl rfl 17 (by decide) wf84 (fun _ h9 => h9) rfl (by decide +kernel) rfl rfl (Nat.le_of_ble_eq_true rfl) dX6_bad_17 (fun H locs hP hD hS => ?_)
    have hP : va_P D vwCl [(md, .inr (6, [vm_0, vm_1, vm_2, vm_3, vm_4, vm_5, vm_6, vm_7, vm_8, vm_9, vm_10, vm_11, vm_12, .int s13, vm_14, vm_15, .int k, .int s13, vm_18, vm_19, vm_20, vm_21, vm_22, vm_23]))] H := hP
    have hD : va_D A [(md, .inr (6, [vm_0, vm_1, vm_2, vm_3, vm_4, vm_5, vm_6, vm_7, vm_8, vm_9, vm_10, vm_11, vm_12, .int s13, vm_14, vm_15, .int k, .int s13, vm_18, vm_19, vm_20, vm_21, vm_22, vm_23]))] := hD
    have hP9 := hP.sub (ws' := [(md, .inr (6, [vm_0, vm_1, vm_2, vm_3, vm_4, vm_5, vm_6, vm_7, vm_8, vm_9, vm_10, vm_11, vm_12, .int s13, vm_14, vm_15, .int k, .int s13, vm_18, vm_19, vm_20, vm_21, vm_22, vm_23]))]) [0] rfl
    have hD9 := hD.sub (ws' := [(md, .inr (6, [vm_0, vm_1, vm_2, vm_3, vm_4, vm_5, vm_6, vm_7, vm_8, vm_9, vm_10, vm_11, vm_12, .int s13, vm_14, vm_15, .int k, .int s13, vm_18, vm_19, vm_20, vm_21, vm_22, vm_23]))]) [0] (by decide) rfl
    exact wt_vret hx hb hr hlocks hP9 hD9 hS ⟨k, s13, rfl, ⟨by first | exact fun h => h | exact fun _ => c_1, by first | exact fun h => h | exact fun h => absurd c_1 h, by first | exact hb0 | exact wt_lele hk0⟩⟩ dX6_bad_20
set_option maxHeartbeats 4000000 in
set_option maxRecDepth 100000 in
theorem c_X6_must (l : Launch) (D : va_G) (cI cZ cH : ClassId) (md bt : Nat) (tl ta : Nat) (bf : Nat → Int32) (s13 s14 s15 bd s17 : Int32) (a1 : Int32) (vm_0 vm_1 vm_2 vm_3 vm_4 vm_5 vm_6 vm_7 vm_8 vm_9 vm_18 vm_19 vm_20 vm_21 vm_22 vm_23 : Value) (htl : tl ≤ 120) (hta : ta ≤ tl) (hb0 : 0 ≤ bd) : wt_M l yX6_must wsX6_must ({ frames := 2, cells := 0, slots := 0, locals := 45 } : Room) D (wt_T cI cZ cH) [.ref md, .int a1] [(md, .inr (6, [vm_0, vm_1, vm_2, vm_3, vm_4, vm_5, vm_6, vm_7, vm_8, vm_9, .ref bt, .int (nI tl), .int (nI ta), .int s13, .int s14, .int s15, .int bd, .int s17, vm_18, vm_19, vm_20, vm_21, vm_22, vm_23])), (bt, .inl (cI, 120, .inl bf))] (wt_QV D (fun w => ∃ (ta2 : Nat) (md_f13 md_f14 md_f15 md_f16 md_f17 : Int32), w = [(md, .inr (6, [vm_0, vm_1, vm_2, vm_3, vm_4, vm_5, vm_6, vm_7, vm_8, vm_9, .ref bt, .int (nI tl), .int (nI ta2), .int md_f13, .int md_f14, .int md_f15, .int md_f16, .int md_f17, vm_18, vm_19, vm_20, vm_21, vm_22, vm_23])), (bt, .inl (cI, 120, .inl bf))] ∧ ta2 ≤ tl ∧ (¬ bd = 0 → ¬ md_f16 = 0) ∧ (a1 = 0 → ¬ md_f16 = 0) ∧ 0 ≤ md_f16)) := by
  refine wt_M.ofW (cc := cX6_must) (maxL := 2) (ret := none) (by decide) rfl (Nat.le_of_ble_eq_true rfl) ?_
  intro p e s m below meth c A ls hx hb hr hts hown hlocks hml hnm hP hK hD hA hS hl
  have hP : va_P D vwCl [(md, .inr (6, [vm_0, vm_1, vm_2, vm_3, vm_4, vm_5, vm_6, vm_7, vm_8, vm_9, .ref bt, .int (nI tl), .int (nI ta), .int s13, .int s14, .int s15, .int bd, .int s17, vm_18, vm_19, vm_20, vm_21, vm_22, vm_23])), (bt, .inl (cI, 120, .inl bf))] s.heap := hP
  have hown : s.vm.findClass RX6 = some m.cls := hown
  have hl : lv_has ls 2 [(0, .ref md), (1, .int a1)] := hl
  have hi6 : ∀ w ∈ u_ws RX6 TX6 24, w ∈ wsX6_must := by decide +kernel
  have wf78 := hts (.fieldLink RX6 78 "WarmTubesModel" "fault" "I") (by decide +kernel)
  refine lv_iload_n hx hb dX6_must_0 rfl (lv_at hl 1 rfl) ?_
  refine lv_if_ne (tgt := 9) hx hb dX6_must_1 (by decide) (fun c_1 => ?_) (fun c_1 => ?_)
  · skip
    refine lv_aload_n hx hb dX6_must_9 rfl (lv_at hl 0 rfl) ?_
    refine va_get (D := D) (ci := 6) (v := .int bd) (C := RX6) (T := TX6) (N := 24) hx hb hts hi6 hown hK.1 hP 0 rfl rfl 16 (by decide) wf78 (fun _ h9 => h9) rfl dX6_must_10 ?_
    refine lv_if_ne (tgt := 20) hx hb dX6_must_13 (by decide) (fun c_2 => ?_) (fun c_2 => ?_)
    · skip
      have hP9 := hP.sub (ws' := [(md, .inr (6, [vm_0, vm_1, vm_2, vm_3, vm_4, vm_5, vm_6, vm_7, vm_8, vm_9, .ref bt, .int (nI tl), .int (nI ta), .int s13, .int s14, .int s15, .int bd, .int s17, vm_18, vm_19, vm_20, vm_21, vm_22, vm_23])), (bt, .inl (cI, 120, .inl bf))]) [0, 1] rfl
      have hD9 := hD.sub (ws' := [(md, .inr (6, [vm_0, vm_1, vm_2, vm_3, vm_4, vm_5, vm_6, vm_7, vm_8, vm_9, .ref bt, .int (nI tl), .int (nI ta), .int s13, .int s14, .int s15, .int bd, .int s17, vm_18, vm_19, vm_20, vm_21, vm_22, vm_23])), (bt, .inl (cI, 120, .inl bf))]) [0, 1] (by decide) rfl
      exact wt_vret hx hb hr hlocks hP9 hD9 hS ⟨ta, s13, s14, s15, bd, s17, rfl, ⟨by omega, fun h => h, fun h => absurd h c_1, hb0⟩⟩ dX6_must_20
    · skip
      refine lv_aload_n hx hb dX6_must_16 rfl (lv_at hl 0 rfl) ?_
      refine wt_goV (wr := []) (wt_runV (As := []) (rest := []) ⟨hx, hb, hml, hown, hts⟩ (c_X6_nextToken l D cI cZ cH md bt tl ta bf s13 s14 s15 bd s17 vm_0 vm_1 vm_2 vm_3 vm_4 vm_5 vm_6 vm_7 vm_8 vm_9 vm_18 vm_19 vm_20 vm_21 vm_22 vm_23 (by first | assumption | omega) (by first | assumption | omega)) (cwV 0 hts gX6_must_X6_nextToken rfl rfl rfl (by decide +kernel) ⟨Nat.le_of_ble_eq_true rfl, Nat.le_of_ble_eq_true rfl⟩) hK hP hD [0, 1] rfl (by decide) (va_recv hK.1 hP (ci := 6) (q0 := 0) rfl rfl) rfl hl.1 rfl (Nat.le_of_ble_eq_true rfl) dX6_must_17 ⟨Nat.le_of_ble_eq_true rfl, Nat.le_of_ble_eq_true rfl⟩) hP hD hS hA [0, 1] [] rfl rfl (by decide) (by decide) (fun w_4 H locs h_5 hP hD hS => ?_)
      obtain ⟨ta2_6, md_f13_7, md_f14_8, md_f15_9, rfl, x_10⟩ := h_5
      have hP : va_P D vwCl [(md, .inr (6, [vm_0, vm_1, vm_2, vm_3, vm_4, vm_5, vm_6, vm_7, vm_8, vm_9, .ref bt, .int (nI tl), .int (nI ta2_6), .int md_f13_7, .int md_f14_8, .int md_f15_9, .int bd, .int s17, vm_18, vm_19, vm_20, vm_21, vm_22, vm_23])), (bt, .inl (cI, 120, .inl bf))] H := hP
      have hD : va_D A [(md, .inr (6, [vm_0, vm_1, vm_2, vm_3, vm_4, vm_5, vm_6, vm_7, vm_8, vm_9, .ref bt, .int (nI tl), .int (nI ta2_6), .int md_f13_7, .int md_f14_8, .int md_f15_9, .int bd, .int s17, vm_18, vm_19, vm_20, vm_21, vm_22, vm_23])), (bt, .inl (cI, 120, .inl bf))] := hD
      have hP9 := hP.sub (ws' := [(md, .inr (6, [vm_0, vm_1, vm_2, vm_3, vm_4, vm_5, vm_6, vm_7, vm_8, vm_9, .ref bt, .int (nI tl), .int (nI ta2_6), .int md_f13_7, .int md_f14_8, .int md_f15_9, .int bd, .int s17, vm_18, vm_19, vm_20, vm_21, vm_22, vm_23])), (bt, .inl (cI, 120, .inl bf))]) [0, 1] rfl
      have hD9 := hD.sub (ws' := [(md, .inr (6, [vm_0, vm_1, vm_2, vm_3, vm_4, vm_5, vm_6, vm_7, vm_8, vm_9, .ref bt, .int (nI tl), .int (nI ta2_6), .int md_f13_7, .int md_f14_8, .int md_f15_9, .int bd, .int s17, vm_18, vm_19, vm_20, vm_21, vm_22, vm_23])), (bt, .inl (cI, 120, .inl bf))]) [0, 1] (by decide) rfl
      exact wt_vret hx hb hr hlocks hP9 hD9 hS ⟨ta2_6, md_f13_7, md_f14_8, md_f15_9, bd, s17, rfl, ⟨by omega, fun h => h, fun h => absurd h c_1, hb0⟩⟩ dX6_must_20
  · skip
    refine lv_aload_n hx hb dX6_must_4 rfl (lv_at hl 0 rfl) ?_
    refine lv_iconst (v := 1) hx hb dX6_must_5 (by decide) ?_
    refine wt_goV (wr := [(bt, .inl (cI, 120, .inl bf))]) (wt_runV (As := [.int 1]) (rest := []) ⟨hx, hb, hml, hown, hts⟩ (c_X6_bad l D cI cZ cH md s13 bd s17 1 vm_0 vm_1 vm_2 vm_3 vm_4 vm_5 vm_6 vm_7 vm_8 vm_9 (.ref bt) (.int (nI tl)) (.int (nI ta)) (.int s14) (.int s15) vm_18 vm_19 vm_20 vm_21 vm_22 vm_23 (by first | assumption | omega) (by decide)) (cwV 1 hts gX6_must_X6_bad rfl rfl rfl (by decide +kernel) ⟨Nat.le_of_ble_eq_true rfl, Nat.le_of_ble_eq_true rfl⟩) hK hP hD [0] rfl (by decide) (va_recv hK.1 hP (ci := 6) (q0 := 0) rfl rfl) rfl hl.1 rfl (Nat.le_of_ble_eq_true rfl) dX6_must_6 ⟨Nat.le_of_ble_eq_true rfl, Nat.le_of_ble_eq_true rfl⟩) hP hD hS hA [0] [1] rfl rfl (by decide) (by decide) (fun w_12 H locs h_13 hP hD hS => ?_)
    obtain ⟨md_f16_14, md_f17_15, rfl, x_16⟩ := h_13
    have hP : va_P D vwCl [(bt, .inl (cI, 120, .inl bf)), (md, .inr (6, [vm_0, vm_1, vm_2, vm_3, vm_4, vm_5, vm_6, vm_7, vm_8, vm_9, .ref bt, .int (nI tl), .int (nI ta), .int s13, .int s14, .int s15, .int md_f16_14, .int md_f17_15, vm_18, vm_19, vm_20, vm_21, vm_22, vm_23]))] H := hP
    have hD : va_D A [(bt, .inl (cI, 120, .inl bf)), (md, .inr (6, [vm_0, vm_1, vm_2, vm_3, vm_4, vm_5, vm_6, vm_7, vm_8, vm_9, .ref bt, .int (nI tl), .int (nI ta), .int s13, .int s14, .int s15, .int md_f16_14, .int md_f17_15, vm_18, vm_19, vm_20, vm_21, vm_22, vm_23]))] := hD
    obtain ⟨yk0_17, ybd_18, yge_19⟩ := x_16
    have hbd_20 : ¬ md_f16_14 = 0 := yk0_17 (by decide)
    refine lv_aload_n hx hb dX6_must_9 rfl (lv_at hl 0 rfl) ?_
    refine va_get (D := D) (ci := 6) (v := .int md_f16_14) (C := RX6) (T := TX6) (N := 24) hx hb hts hi6 hown hK.1 hP 1 rfl rfl 16 (by decide) wf78 (fun _ h9 => h9) rfl dX6_must_10 ?_
    refine lv_if_ne (tgt := 20) hx hb dX6_must_13 (by decide) (fun _ => ?_) (fun h => absurd h hbd_20)
    have hP9 := hP.sub (ws' := [(md, .inr (6, [vm_0, vm_1, vm_2, vm_3, vm_4, vm_5, vm_6, vm_7, vm_8, vm_9, .ref bt, .int (nI tl), .int (nI ta), .int s13, .int s14, .int s15, .int md_f16_14, .int md_f17_15, vm_18, vm_19, vm_20, vm_21, vm_22, vm_23])), (bt, .inl (cI, 120, .inl bf))]) [1, 0] rfl
    have hD9 := hD.sub (ws' := [(md, .inr (6, [vm_0, vm_1, vm_2, vm_3, vm_4, vm_5, vm_6, vm_7, vm_8, vm_9, .ref bt, .int (nI tl), .int (nI ta), .int s13, .int s14, .int s15, .int md_f16_14, .int md_f17_15, vm_18, vm_19, vm_20, vm_21, vm_22, vm_23])), (bt, .inl (cI, 120, .inl bf))]) [1, 0] (by decide) rfl
    exact wt_vret hx hb hr hlocks hP9 hD9 hS ⟨ta, s13, s14, s15, md_f16_14, md_f17_15, rfl, ⟨by omega, fun _ => hbd_20, fun _ => hbd_20, yge_19⟩⟩ dX6_must_20
set_option maxHeartbeats 4000000 in
set_option maxRecDepth 100000 in
theorem c_X6_isLetter (l : Launch) (D : va_G) (cI cZ cH : ClassId) (md : Nat) (s14 s15 bd k : Int32) (vm_0 vm_1 vm_2 vm_3 vm_4 vm_5 vm_6 vm_7 vm_8 vm_9 vm_10 vm_11 vm_12 vm_13 vm_17 vm_18 vm_19 vm_20 vm_21 vm_22 vm_23 : Value) : wt_R l yX6_isLetter wsX6_isLetter ({ frames := 0, cells := 0, slots := 0, locals := 0 } : Room) D (wt_T cI cZ cH) [.ref md, .int k] [(md, .inr (6, [vm_0, vm_1, vm_2, vm_3, vm_4, vm_5, vm_6, vm_7, vm_8, vm_9, vm_10, vm_11, vm_12, vm_13, .int s14, .int s15, .int bd, vm_17, vm_18, vm_19, vm_20, vm_21, vm_22, vm_23]))] (vp_Si (fun r => r = lB bd s14 s15 k)) := by
  refine wt_R.ofW (cc := cX6_isLetter) (maxL := 2) (ret := (some .boolean)) (by decide) rfl (Nat.le_of_ble_eq_true rfl) ?_
  intro p e s m below meth c ls hx hb hr hts hown hlocks hml hP hK hl
  have hown : s.vm.findClass RX6 = some m.cls := hown
  have hl : lv_has ls 2 [(0, .ref md), (1, .int k)] := hl
  have hi6 : ∀ w ∈ u_ws RX6 TX6 24, w ∈ wsX6_isLetter := by decide +kernel
  have wf102 := hts (.fieldLink RX6 102 "WarmTubesModel" "token" "I") (by decide +kernel)
  have wf78 := hts (.fieldLink RX6 78 "WarmTubesModel" "fault" "I") (by decide +kernel)
  have wf91 := hts (.fieldLink RX6 91 "WarmTubesModel" "value" "I") (by decide +kernel)
  refine lv_aload_n hx hb dX6_isLetter_0 rfl (lv_at hl 0 rfl) ?_
  refine va_get (D := D) (ci := 6) (v := .int bd) (C := RX6) (T := TX6) (N := 24) hx hb hts hi6 hown hK.1 hP 0 rfl rfl 16 (by decide) wf78 (fun _ h9 => h9) rfl dX6_isLetter_1 ?_
  refine lv_if_ne (tgt := 27) hx hb dX6_isLetter_4 (by decide) (fun c_1 => ?_) (fun c_1 => ?_)
  · skip
    refine lv_iconst (v := 0) hx hb dX6_isLetter_27 (by decide) ?_
    exact wt_szret hx hb hr hlocks (by decide) (by simp [lB, c_1]) dX6_isLetter_28
  · skip
    refine lv_aload_n hx hb dX6_isLetter_7 rfl (lv_at hl 0 rfl) ?_
    refine va_get (D := D) (ci := 6) (v := .int s14) (C := RX6) (T := TX6) (N := 24) hx hb hts hi6 hown hK.1 hP 0 rfl rfl 14 (by decide) wf102 (fun _ h9 => h9) rfl dX6_isLetter_8 ?_
    refine lv_iconst (v := 2) hx hb dX6_isLetter_11 (by decide) ?_
    refine lv_icmp_ne (tgt := 27) hx hb dX6_isLetter_12 (by decide) (fun c_2 => ?_) (fun c_2 => ?_)
    · skip
      refine lv_iconst (v := 0) hx hb dX6_isLetter_27 (by decide) ?_
      exact wt_szret hx hb hr hlocks (by decide) (by simp [lB, c_1, c_2]) dX6_isLetter_28
    · skip
      refine lv_aload_n hx hb dX6_isLetter_15 rfl (lv_at hl 0 rfl) ?_
      refine va_get (D := D) (ci := 6) (v := .int s15) (C := RX6) (T := TX6) (N := 24) hx hb hts hi6 hown hK.1 hP 0 rfl rfl 15 (by decide) wf91 (fun _ h9 => h9) rfl dX6_isLetter_16 ?_
      refine lv_iload_n hx hb dX6_isLetter_19 rfl (lv_at hl 1 rfl) ?_
      refine lv_icmp_ne (tgt := 27) hx hb dX6_isLetter_20 (by decide) (fun c_3 => ?_) (fun c_3 => ?_)
      · skip
        refine lv_iconst (v := 0) hx hb dX6_isLetter_27 (by decide) ?_
        exact wt_szret hx hb hr hlocks (by decide) (by simp [lB, c_1, c_2, c_3]) dX6_isLetter_28
      · skip
        refine lv_iconst (v := 1) hx hb dX6_isLetter_23 (by decide) ?_
        refine lv_goto (tgt := 28) hx hb dX6_isLetter_24 (by decide) ?_
        exact wt_szret hx hb hr hlocks (by decide) (by simp [lB, c_1, c_2, c_3]) dX6_isLetter_28
set_option maxHeartbeats 4000000 in
set_option maxRecDepth 100000 in
theorem c_X6_kindBy (l : Launch) (D : va_G) (cI cZ cH : ClassId) (a1 : Int32) : wt_R l yX6_kindBy wsX6_kindBy ({ frames := 0, cells := 0, slots := 0, locals := 0 } : Room) D (wt_T cI cZ cH) [.int a1] [] (vp_Si (fun r => r = kB a1)) := by
  refine wt_R.ofW (cc := cX6_kindBy) (maxL := 1) (ret := (some .int)) (by decide) rfl (Nat.le_of_ble_eq_true rfl) ?_
  intro p e s m below meth c ls hx hb hr hts hown hlocks hml hP hK hl
  have hown : s.vm.findClass RX6 = some m.cls := hown
  have hl : lv_has ls 1 [(0, .int a1)] := hl
  have wc90 := hts (.constant RX6 90 (-1000000)) (by decide +kernel)
  refine lv_iload_n hx hb dX6_kindBy_0 rfl (lv_at hl 0 rfl) ?_
  refine lv_bipush (v := 112) hx hb dX6_kindBy_1 (by decide) ?_
  refine lv_icmp_ne (tgt := 10) hx hb dX6_kindBy_3 (by decide) (fun c_1 => ?_) (fun c_1 => ?_)
  · skip
    refine lv_iload_n hx hb dX6_kindBy_10 rfl (lv_at hl 0 rfl) ?_
    refine lv_bipush (v := 103) hx hb dX6_kindBy_11 (by decide) ?_
    refine lv_icmp_ne (tgt := 20) hx hb dX6_kindBy_13 (by decide) (fun c_2 => ?_) (fun c_2 => ?_)
    · skip
      refine lv_iload_n hx hb dX6_kindBy_20 rfl (lv_at hl 0 rfl) ?_
      refine lv_bipush (v := 115) hx hb dX6_kindBy_21 (by decide) ?_
      refine lv_icmp_ne (tgt := 30) hx hb dX6_kindBy_23 (by decide) (fun c_3 => ?_) (fun c_3 => ?_)
      · skip
        refine lv_iload_n hx hb dX6_kindBy_30 rfl (lv_at hl 0 rfl) ?_
        refine lv_bipush (v := 119) hx hb dX6_kindBy_31 (by decide) ?_
        refine lv_icmp_ne (tgt := 40) hx hb dX6_kindBy_33 (by decide) (fun c_4 => ?_) (fun c_4 => ?_)
        · skip
          refine lv_iload_n hx hb dX6_kindBy_40 rfl (lv_at hl 0 rfl) ?_
          refine lv_bipush (v := 108) hx hb dX6_kindBy_41 (by decide) ?_
          refine lv_icmp_ne (tgt := 50) hx hb dX6_kindBy_43 (by decide) (fun c_5 => ?_) (fun c_5 => ?_)
          · skip
            refine lv_ldc hx hb hown wc90 dX6_kindBy_50 ?_
            exact wt_siret hx hb hr hlocks (by simp [kB, c_1, c_2, c_3, c_4, c_5]) dX6_kindBy_52
          · skip
            refine lv_iconst (v := 5) hx hb dX6_kindBy_46 (by decide) ?_
            refine lv_goto (tgt := 52) hx hb dX6_kindBy_47 (by decide) ?_
            exact wt_siret hx hb hr hlocks (by simp [kB, c_1, c_2, c_3, c_4, c_5]) dX6_kindBy_52
        · skip
          refine lv_iconst (v := 4) hx hb dX6_kindBy_36 (by decide) ?_
          refine lv_goto (tgt := 52) hx hb dX6_kindBy_37 (by decide) ?_
          exact wt_siret hx hb hr hlocks (by simp [kB, c_1, c_2, c_3, c_4]) dX6_kindBy_52
      · skip
        refine lv_iconst (v := 3) hx hb dX6_kindBy_26 (by decide) ?_
        refine lv_goto (tgt := 52) hx hb dX6_kindBy_27 (by decide) ?_
        exact wt_siret hx hb hr hlocks (by simp [kB, c_1, c_2, c_3]) dX6_kindBy_52
    · skip
      refine lv_iconst (v := 2) hx hb dX6_kindBy_16 (by decide) ?_
      refine lv_goto (tgt := 52) hx hb dX6_kindBy_17 (by decide) ?_
      exact wt_siret hx hb hr hlocks (by simp [kB, c_1, c_2]) dX6_kindBy_52
  · skip
    refine lv_iconst (v := 1) hx hb dX6_kindBy_6 (by decide) ?_
    refine lv_goto (tgt := 52) hx hb dX6_kindBy_7 (by decide) ?_
    exact wt_siret hx hb hr hlocks (by simp [kB, c_1]) dX6_kindBy_52
set_option maxHeartbeats 4000000 in
set_option maxRecDepth 100000 in
theorem c_X6_isSort (l : Launch) (D : va_G) (cI cZ cH : ClassId) (md : Nat) (s14 s15 bd : Int32) (vm_0 vm_1 vm_2 vm_3 vm_4 vm_5 vm_6 vm_7 vm_8 vm_9 vm_10 vm_11 vm_12 vm_13 vm_17 vm_18 vm_19 vm_20 vm_21 vm_22 vm_23 : Value) : wt_R l yX6_isSort wsX6_isSort ({ frames := 1, cells := 0, slots := 0, locals := 20 } : Room) D (wt_T cI cZ cH) [.ref md] [(md, .inr (6, [vm_0, vm_1, vm_2, vm_3, vm_4, vm_5, vm_6, vm_7, vm_8, vm_9, vm_10, vm_11, vm_12, vm_13, .int s14, .int s15, .int bd, vm_17, vm_18, vm_19, vm_20, vm_21, vm_22, vm_23]))] (vp_Si (fun r => r = sB bd s14 s15)) := by
  refine wt_R.ofW (cc := cX6_isSort) (maxL := 1) (ret := (some .boolean)) (by decide) rfl (Nat.le_of_ble_eq_true rfl) ?_
  intro p e s m below meth c ls hx hb hr hts hown hlocks hml hP hK hl
  have hown : s.vm.findClass RX6 = some m.cls := hown
  have hl : lv_has ls 1 [(0, .ref md)] := hl
  have hi6 : ∀ w ∈ u_ws RX6 TX6 24, w ∈ wsX6_isSort := by decide +kernel
  have wc90 := hts (.constant RX6 90 (-1000000)) (by decide +kernel)
  have wf102 := hts (.fieldLink RX6 102 "WarmTubesModel" "token" "I") (by decide +kernel)
  have wf78 := hts (.fieldLink RX6 78 "WarmTubesModel" "fault" "I") (by decide +kernel)
  have wf91 := hts (.fieldLink RX6 91 "WarmTubesModel" "value" "I") (by decide +kernel)
  refine lv_aload_n hx hb dX6_isSort_0 rfl (lv_at hl 0 rfl) ?_
  refine va_get (D := D) (ci := 6) (v := .int bd) (C := RX6) (T := TX6) (N := 24) hx hb hts hi6 hown hK.1 hP 0 rfl rfl 16 (by decide) wf78 (fun _ h9 => h9) rfl dX6_isSort_1 ?_
  refine lv_if_ne (tgt := 31) hx hb dX6_isSort_4 (by decide) (fun c_1 => ?_) (fun c_1 => ?_)
  · skip
    refine lv_iconst (v := 0) hx hb dX6_isSort_31 (by decide) ?_
    exact wt_szret hx hb hr hlocks (by decide) (by simp [sB, c_1]) dX6_isSort_32
  · skip
    refine lv_aload_n hx hb dX6_isSort_7 rfl (lv_at hl 0 rfl) ?_
    refine va_get (D := D) (ci := 6) (v := .int s14) (C := RX6) (T := TX6) (N := 24) hx hb hts hi6 hown hK.1 hP 0 rfl rfl 14 (by decide) wf102 (fun _ h9 => h9) rfl dX6_isSort_8 ?_
    refine lv_iconst (v := 2) hx hb dX6_isSort_11 (by decide) ?_
    refine lv_icmp_ne (tgt := 31) hx hb dX6_isSort_12 (by decide) (fun c_2 => ?_) (fun c_2 => ?_)
    · skip
      refine lv_iconst (v := 0) hx hb dX6_isSort_31 (by decide) ?_
      exact wt_szret hx hb hr hlocks (by decide) (by simp [sB, c_1, c_2]) dX6_isSort_32
    · skip
      refine lv_aload_n hx hb dX6_isSort_15 rfl (lv_at hl 0 rfl) ?_
      refine va_get (D := D) (ci := 6) (v := .int s15) (C := RX6) (T := TX6) (N := 24) hx hb hts hi6 hown hK.1 hP 0 rfl rfl 15 (by decide) wf91 (fun _ h9 => h9) rfl dX6_isSort_16 ?_
      refine wt_rS (As := [.int s15]) (rest := []) ⟨hx, hb, hml, hown, hts⟩ (c_X6_kindBy l D cI cZ cH s15) (va_cwS 1 hts gX6_isSort_X6_kindBy rfl rfl rfl (by decide +kernel) ⟨Nat.le_of_ble_eq_true rfl, Nat.le_of_ble_eq_true rfl⟩) hK hP [] rfl rfl hl.1 rfl (Nat.le_of_ble_eq_true rfl) dX6_isSort_19 ⟨Nat.le_of_ble_eq_true rfl, Nat.le_of_ble_eq_true rfl⟩ (fun r_3 e_4 => ?_)
      subst e_4
      refine lv_ldc hx hb hown wc90 dX6_isSort_22 ?_
      refine lv_icmp_eq (tgt := 31) hx hb dX6_isSort_24 (by decide) (fun c_5 => ?_) (fun c_5 => ?_)
      · skip
        refine lv_iconst (v := 0) hx hb dX6_isSort_31 (by decide) ?_
        exact wt_szret hx hb hr hlocks (by decide) (by simp [sB, c_1, c_2, c_5]) dX6_isSort_32
      · skip
        refine lv_iconst (v := 1) hx hb dX6_isSort_27 (by decide) ?_
        refine lv_goto (tgt := 32) hx hb dX6_isSort_28 (by decide) ?_
        exact wt_szret hx hb hr hlocks (by decide) (by simp [sB, c_1, c_2, c_5]) dX6_isSort_32
set_option maxHeartbeats 4000000 in
set_option maxRecDepth 100000 in
theorem c_X6_number (l : Launch) (D : va_G) (cI cZ cH : ClassId) (md bt : Nat) (tl ta : Nat) (bf : Nat → Int32) (s13 s14 s15 bd s17 : Int32) (lo hi : Nat) (vm_0 vm_1 vm_2 vm_3 vm_4 vm_5 vm_6 vm_7 vm_8 vm_9 vm_18 vm_19 vm_20 vm_21 vm_22 vm_23 : Value) (htl : tl ≤ 120) (hta : ta ≤ tl) (hb0 : 0 ≤ bd) (hlh : lo ≤ hi) (hh9 : hi ≤ 999) : wt_M l yX6_number wsX6_number ({ frames := 3, cells := 0, slots := 0, locals := 66 } : Room) D (wt_T cI cZ cH) [.ref md, .int (nI lo), .int (nI hi)] [(md, .inr (6, [vm_0, vm_1, vm_2, vm_3, vm_4, vm_5, vm_6, vm_7, vm_8, vm_9, .ref bt, .int (nI tl), .int (nI ta), .int s13, .int s14, .int s15, .int bd, .int s17, vm_18, vm_19, vm_20, vm_21, vm_22, vm_23])), (bt, .inl (cI, 120, .inl bf))] (wt_QI D (fun r w => ∃ (ta2 : Nat) (md_f13 md_f14 md_f15 md_f16 md_f17 : Int32), w = [(md, .inr (6, [vm_0, vm_1, vm_2, vm_3, vm_4, vm_5, vm_6, vm_7, vm_8, vm_9, .ref bt, .int (nI tl), .int (nI ta2), .int md_f13, .int md_f14, .int md_f15, .int md_f16, .int md_f17, vm_18, vm_19, vm_20, vm_21, vm_22, vm_23])), (bt, .inl (cI, 120, .inl bf))] ∧ (∃ v : Nat, lo ≤ v ∧ v ≤ hi ∧ r = nI v) ∧ ta2 ≤ tl ∧ (¬ bd = 0 → ¬ md_f16 = 0) ∧ 0 ≤ md_f16)) := by
  refine wt_M.ofW (cc := cX6_number) (maxL := 4) (ret := (some .int)) (by decide) rfl (Nat.le_of_ble_eq_true rfl) ?_
  intro p e s m below meth c A ls hx hb hr hts hown hlocks hml hnm hP hK hD hA hS hl
  have hP : va_P D vwCl [(md, .inr (6, [vm_0, vm_1, vm_2, vm_3, vm_4, vm_5, vm_6, vm_7, vm_8, vm_9, .ref bt, .int (nI tl), .int (nI ta), .int s13, .int s14, .int s15, .int bd, .int s17, vm_18, vm_19, vm_20, vm_21, vm_22, vm_23])), (bt, .inl (cI, 120, .inl bf))] s.heap := hP
  have hown : s.vm.findClass RX6 = some m.cls := hown
  have hl : lv_has ls 4 [(0, .ref md), (1, .int (nI lo)), (2, .int (nI hi))] := hl
  have hi6 : ∀ w ∈ u_ws RX6 TX6 24, w ∈ wsX6_number := by decide +kernel
  have wf102 := hts (.fieldLink RX6 102 "WarmTubesModel" "token" "I") (by decide +kernel)
  have wf78 := hts (.fieldLink RX6 78 "WarmTubesModel" "fault" "I") (by decide +kernel)
  have wf91 := hts (.fieldLink RX6 91 "WarmTubesModel" "value" "I") (by decide +kernel)
  refine lv_aload_n hx hb dX6_number_0 rfl (lv_at hl 0 rfl) ?_
  refine va_get (D := D) (ci := 6) (v := .int bd) (C := RX6) (T := TX6) (N := 24) hx hb hts hi6 hown hK.1 hP 0 rfl rfl 16 (by decide) wf78 (fun _ h9 => h9) rfl dX6_number_1 ?_
  refine lv_if_ne (tgt := 20) hx hb dX6_number_4 (by decide) (fun c_1 => ?_) (fun c_1 => ?_)
  · skip
    refine lv_aload_n hx hb dX6_number_20 rfl (lv_at hl 0 rfl) ?_
    refine va_get (D := D) (ci := 6) (v := .int bd) (C := RX6) (T := TX6) (N := 24) hx hb hts hi6 hown hK.1 hP 0 rfl rfl 16 (by decide) wf78 (fun _ h9 => h9) rfl dX6_number_21 ?_
    refine lv_if_ne (tgt := 47) hx hb dX6_number_24 (by decide) (fun _ => ?_) (fun h => absurd h c_1)
    refine lv_aload_n hx hb dX6_number_47 rfl (lv_at hl 0 rfl) ?_
    refine va_get (D := D) (ci := 6) (v := .int bd) (C := RX6) (T := TX6) (N := 24) hx hb hts hi6 hown hK.1 hP 0 rfl rfl 16 (by decide) wf78 (fun _ h9 => h9) rfl dX6_number_48 ?_
    refine lv_if_ne (tgt := 61) hx hb dX6_number_51 (by decide) (fun _ => ?_) (fun h => absurd h c_1)
    refine lv_iload_n hx hb dX6_number_61 rfl (lv_at hl 1 rfl) ?_
    refine lv_istore_n (lv' := [(3, .int (nI lo)), (0, .ref md), (1, .int (nI lo)), (2, .int (nI hi))]) hx hb dX6_number_62 rfl hl (by decide) rfl (fun ls hl => ?_)
    refine lv_aload_n hx hb dX6_number_63 rfl (lv_at hl 1 rfl) ?_
    refine lv_iconst (v := 1) hx hb dX6_number_64 (by decide) ?_
    refine wt_goV (wr := []) (wt_runV (As := [.int 1]) (rest := []) ⟨hx, hb, hml, hown, hts⟩ (c_X6_must l D cI cZ cH md bt tl ta bf s13 s14 s15 bd s17 1 vm_0 vm_1 vm_2 vm_3 vm_4 vm_5 vm_6 vm_7 vm_8 vm_9 vm_18 vm_19 vm_20 vm_21 vm_22 vm_23 (by first | assumption | omega) (by first | assumption | omega) (by first | assumption | omega)) (cwV 1 hts gX6_number_X6_must rfl rfl rfl (by decide +kernel) ⟨Nat.le_of_ble_eq_true rfl, Nat.le_of_ble_eq_true rfl⟩) hK hP hD [0, 1] rfl (by decide) (va_recv hK.1 hP (ci := 6) (q0 := 0) rfl rfl) rfl hl.1 rfl (Nat.le_of_ble_eq_true rfl) dX6_number_65 ⟨Nat.le_of_ble_eq_true rfl, Nat.le_of_ble_eq_true rfl⟩) hP hD hS hA [0, 1] [] rfl rfl (by decide) (by decide) (fun w_3 H locs h_4 hP hD hS => ?_)
    obtain ⟨ta2_5, md_f13_6, md_f14_7, md_f15_8, md_f16_9, md_f17_10, rfl, x_11⟩ := h_4
    have hP : va_P D vwCl [(md, .inr (6, [vm_0, vm_1, vm_2, vm_3, vm_4, vm_5, vm_6, vm_7, vm_8, vm_9, .ref bt, .int (nI tl), .int (nI ta2_5), .int md_f13_6, .int md_f14_7, .int md_f15_8, .int md_f16_9, .int md_f17_10, vm_18, vm_19, vm_20, vm_21, vm_22, vm_23])), (bt, .inl (cI, 120, .inl bf))] H := hP
    have hD : va_D A [(md, .inr (6, [vm_0, vm_1, vm_2, vm_3, vm_4, vm_5, vm_6, vm_7, vm_8, vm_9, .ref bt, .int (nI tl), .int (nI ta2_5), .int md_f13_6, .int md_f14_7, .int md_f15_8, .int md_f16_9, .int md_f17_10, vm_18, vm_19, vm_20, vm_21, vm_22, vm_23])), (bt, .inl (cI, 120, .inl bf))] := hD
    obtain ⟨yx_12, ybd_13, yk0_14, yge_15⟩ := x_11
    have hbd_16 : ¬ md_f16_9 = 0 := ybd_13 c_1
    refine lv_iload_n hx hb dX6_number_68 rfl (lv_at hl 0 rfl) ?_
    have hP9 := hP.sub (ws' := [(md, .inr (6, [vm_0, vm_1, vm_2, vm_3, vm_4, vm_5, vm_6, vm_7, vm_8, vm_9, .ref bt, .int (nI tl), .int (nI ta2_5), .int md_f13_6, .int md_f14_7, .int md_f15_8, .int md_f16_9, .int md_f17_10, vm_18, vm_19, vm_20, vm_21, vm_22, vm_23])), (bt, .inl (cI, 120, .inl bf))]) [0, 1] rfl
    have hD9 := hD.sub (ws' := [(md, .inr (6, [vm_0, vm_1, vm_2, vm_3, vm_4, vm_5, vm_6, vm_7, vm_8, vm_9, .ref bt, .int (nI tl), .int (nI ta2_5), .int md_f13_6, .int md_f14_7, .int md_f15_8, .int md_f16_9, .int md_f17_10, vm_18, vm_19, vm_20, vm_21, vm_22, vm_23])), (bt, .inl (cI, 120, .inl bf))]) [0, 1] (by decide) rfl
    exact wt_iret hx hb hr hlocks hP9 hD9 hS ⟨ta2_5, md_f13_6, md_f14_7, md_f15_8, md_f16_9, md_f17_10, rfl, ⟨⟨lo, by omega, by omega, rfl⟩, by omega, fun _ => hbd_16, yge_15⟩⟩ dX6_number_69
  · skip
    refine lv_aload_n hx hb dX6_number_7 rfl (lv_at hl 0 rfl) ?_
    refine va_get (D := D) (ci := 6) (v := .int s14) (C := RX6) (T := TX6) (N := 24) hx hb hts hi6 hown hK.1 hP 0 rfl rfl 14 (by decide) wf102 (fun _ h9 => h9) rfl dX6_number_8 ?_
    refine lv_iconst (v := 3) hx hb dX6_number_11 (by decide) ?_
    refine lv_icmp_eq (tgt := 20) hx hb dX6_number_12 (by decide) (fun c_17 => ?_) (fun c_17 => ?_)
    · skip
      refine lv_aload_n hx hb dX6_number_20 rfl (lv_at hl 0 rfl) ?_
      refine va_get (D := D) (ci := 6) (v := .int bd) (C := RX6) (T := TX6) (N := 24) hx hb hts hi6 hown hK.1 hP 0 rfl rfl 16 (by decide) wf78 (fun _ h9 => h9) rfl dX6_number_21 ?_
      refine lv_if_ne (tgt := 47) hx hb dX6_number_24 (by decide) (fun h => absurd c_1 h) (fun _ => ?_)
      refine lv_aload_n hx hb dX6_number_27 rfl (lv_at hl 0 rfl) ?_
      refine va_get (D := D) (ci := 6) (v := .int s15) (C := RX6) (T := TX6) (N := 24) hx hb hts hi6 hown hK.1 hP 0 rfl rfl 15 (by decide) wf91 (fun _ h9 => h9) rfl dX6_number_28 ?_
      refine lv_i2l hx hb dX6_number_31 rfl ?_
      refine lv_iload_n hx hb dX6_number_32 rfl (lv_at hl 1 rfl) ?_
      refine lv_i2l hx hb dX6_number_33 rfl ?_
      refine lv_iload_n hx hb dX6_number_34 rfl (lv_at hl 2 rfl) ?_
      refine lv_i2l hx hb dX6_number_35 rfl ?_
      refine wt_rS (As := [.long s15.toInt64, .long ((nI lo).toInt64), .long ((nI hi).toInt64)]) (rest := []) ⟨hx, hb, hml, hown, hts⟩ (c_X6_in l D cI cZ cH s15.toInt64 ((nI lo).toInt64) ((nI hi).toInt64)) (va_cwS 3 hts gX6_number_X6_in rfl rfl rfl (by decide +kernel) ⟨Nat.le_of_ble_eq_true rfl, Nat.le_of_ble_eq_true rfl⟩) hK hP [] rfl rfl hl.1 rfl (Nat.le_of_ble_eq_true rfl) dX6_number_36 ⟨Nat.le_of_ble_eq_true rfl, Nat.le_of_ble_eq_true rfl⟩ (fun r_18 e_19 => ?_)
      subst e_19
      refine wt_top (z := wI s15 (nI lo) (nI hi)) (wL_I' rfl rfl) ?_
      refine lv_if_ne (tgt := 47) hx hb dX6_number_39 (by decide) (fun c_20 => ?_) (fun c_20 => ?_)
      · skip
        obtain ⟨j_21, hj_21, hj_21b, rfl⟩ := wI_nat (a := lo) (b := hi) (by omega) (by omega) c_20
        refine lv_aload_n hx hb dX6_number_47 rfl (lv_at hl 0 rfl) ?_
        refine va_get (D := D) (ci := 6) (v := .int bd) (C := RX6) (T := TX6) (N := 24) hx hb hts hi6 hown hK.1 hP 0 rfl rfl 16 (by decide) wf78 (fun _ h9 => h9) rfl dX6_number_48 ?_
        refine lv_if_ne (tgt := 61) hx hb dX6_number_51 (by decide) (fun h => absurd c_1 h) (fun _ => ?_)
        refine lv_aload_n hx hb dX6_number_54 rfl (lv_at hl 0 rfl) ?_
        refine va_get (D := D) (ci := 6) (v := .int (nI j_21)) (C := RX6) (T := TX6) (N := 24) hx hb hts hi6 hown hK.1 hP 0 rfl rfl 15 (by decide) wf91 (fun _ h9 => h9) rfl dX6_number_55 ?_
        refine lv_goto (tgt := 62) hx hb dX6_number_58 (by decide) ?_
        refine lv_istore_n (lv' := [(3, .int (nI j_21)), (0, .ref md), (1, .int (nI lo)), (2, .int (nI hi))]) hx hb dX6_number_62 rfl hl (by decide) rfl (fun ls hl => ?_)
        refine lv_aload_n hx hb dX6_number_63 rfl (lv_at hl 1 rfl) ?_
        refine lv_iconst (v := 1) hx hb dX6_number_64 (by decide) ?_
        refine wt_goV (wr := []) (wt_runV (As := [.int 1]) (rest := []) ⟨hx, hb, hml, hown, hts⟩ (c_X6_must l D cI cZ cH md bt tl ta bf s13 s14 (nI j_21) bd s17 1 vm_0 vm_1 vm_2 vm_3 vm_4 vm_5 vm_6 vm_7 vm_8 vm_9 vm_18 vm_19 vm_20 vm_21 vm_22 vm_23 (by first | assumption | omega) (by first | assumption | omega) (by first | assumption | omega)) (cwV 1 hts gX6_number_X6_must rfl rfl rfl (by decide +kernel) ⟨Nat.le_of_ble_eq_true rfl, Nat.le_of_ble_eq_true rfl⟩) hK hP hD [0, 1] rfl (by decide) (va_recv hK.1 hP (ci := 6) (q0 := 0) rfl rfl) rfl hl.1 rfl (Nat.le_of_ble_eq_true rfl) dX6_number_65 ⟨Nat.le_of_ble_eq_true rfl, Nat.le_of_ble_eq_true rfl⟩) hP hD hS hA [0, 1] [] rfl rfl (by decide) (by decide) (fun w_23 H locs h_24 hP hD hS => ?_)
        obtain ⟨ta2_25, md_f13_26, md_f14_27, md_f15_28, md_f16_29, md_f17_30, rfl, x_31⟩ := h_24
        have hP : va_P D vwCl [(md, .inr (6, [vm_0, vm_1, vm_2, vm_3, vm_4, vm_5, vm_6, vm_7, vm_8, vm_9, .ref bt, .int (nI tl), .int (nI ta2_25), .int md_f13_26, .int md_f14_27, .int md_f15_28, .int md_f16_29, .int md_f17_30, vm_18, vm_19, vm_20, vm_21, vm_22, vm_23])), (bt, .inl (cI, 120, .inl bf))] H := hP
        have hD : va_D A [(md, .inr (6, [vm_0, vm_1, vm_2, vm_3, vm_4, vm_5, vm_6, vm_7, vm_8, vm_9, .ref bt, .int (nI tl), .int (nI ta2_25), .int md_f13_26, .int md_f14_27, .int md_f15_28, .int md_f16_29, .int md_f17_30, vm_18, vm_19, vm_20, vm_21, vm_22, vm_23])), (bt, .inl (cI, 120, .inl bf))] := hD
        obtain ⟨yx_32, ybd_33, yk0_34, yge_35⟩ := x_31
        refine lv_iload_n hx hb dX6_number_68 rfl (lv_at hl 0 rfl) ?_
        have hP9 := hP.sub (ws' := [(md, .inr (6, [vm_0, vm_1, vm_2, vm_3, vm_4, vm_5, vm_6, vm_7, vm_8, vm_9, .ref bt, .int (nI tl), .int (nI ta2_25), .int md_f13_26, .int md_f14_27, .int md_f15_28, .int md_f16_29, .int md_f17_30, vm_18, vm_19, vm_20, vm_21, vm_22, vm_23])), (bt, .inl (cI, 120, .inl bf))]) [0, 1] rfl
        have hD9 := hD.sub (ws' := [(md, .inr (6, [vm_0, vm_1, vm_2, vm_3, vm_4, vm_5, vm_6, vm_7, vm_8, vm_9, .ref bt, .int (nI tl), .int (nI ta2_25), .int md_f13_26, .int md_f14_27, .int md_f15_28, .int md_f16_29, .int md_f17_30, vm_18, vm_19, vm_20, vm_21, vm_22, vm_23])), (bt, .inl (cI, 120, .inl bf))]) [0, 1] (by decide) rfl
        exact wt_iret hx hb hr hlocks hP9 hD9 hS ⟨ta2_25, md_f13_26, md_f14_27, md_f15_28, md_f16_29, md_f17_30, rfl, ⟨⟨j_21, by omega, by omega, rfl⟩, by omega, fun h => absurd c_1 h, yge_35⟩⟩ dX6_number_69
      · skip
        refine lv_aload_n hx hb dX6_number_42 rfl (lv_at hl 0 rfl) ?_
        refine lv_iconst (v := 2) hx hb dX6_number_43 (by decide) ?_
        refine wt_goV (wr := [(bt, .inl (cI, 120, .inl bf))]) (wt_runV (As := [.int 2]) (rest := []) ⟨hx, hb, hml, hown, hts⟩ (c_X6_bad l D cI cZ cH md s13 bd s17 2 vm_0 vm_1 vm_2 vm_3 vm_4 vm_5 vm_6 vm_7 vm_8 vm_9 (.ref bt) (.int (nI tl)) (.int (nI ta)) (.int s14) (.int s15) vm_18 vm_19 vm_20 vm_21 vm_22 vm_23 (by first | assumption | omega) (by decide)) (cwV 1 hts gX6_number_X6_bad rfl rfl rfl (by decide +kernel) ⟨Nat.le_of_ble_eq_true rfl, Nat.le_of_ble_eq_true rfl⟩) hK hP hD [0] rfl (by decide) (va_recv hK.1 hP (ci := 6) (q0 := 0) rfl rfl) rfl hl.1 rfl (Nat.le_of_ble_eq_true rfl) dX6_number_44 ⟨Nat.le_of_ble_eq_true rfl, Nat.le_of_ble_eq_true rfl⟩) hP hD hS hA [0] [1] rfl rfl (by decide) (by decide) (fun w_37 H locs h_38 hP hD hS => ?_)
        obtain ⟨md_f16_39, md_f17_40, rfl, x_41⟩ := h_38
        have hP : va_P D vwCl [(bt, .inl (cI, 120, .inl bf)), (md, .inr (6, [vm_0, vm_1, vm_2, vm_3, vm_4, vm_5, vm_6, vm_7, vm_8, vm_9, .ref bt, .int (nI tl), .int (nI ta), .int s13, .int s14, .int s15, .int md_f16_39, .int md_f17_40, vm_18, vm_19, vm_20, vm_21, vm_22, vm_23]))] H := hP
        have hD : va_D A [(bt, .inl (cI, 120, .inl bf)), (md, .inr (6, [vm_0, vm_1, vm_2, vm_3, vm_4, vm_5, vm_6, vm_7, vm_8, vm_9, .ref bt, .int (nI tl), .int (nI ta), .int s13, .int s14, .int s15, .int md_f16_39, .int md_f17_40, vm_18, vm_19, vm_20, vm_21, vm_22, vm_23]))] := hD
        obtain ⟨yk0_42, ybd_43, yge_44⟩ := x_41
        have hbd_45 : ¬ md_f16_39 = 0 := yk0_42 (by decide)
        refine lv_aload_n hx hb dX6_number_47 rfl (lv_at hl 0 rfl) ?_
        refine va_get (D := D) (ci := 6) (v := .int md_f16_39) (C := RX6) (T := TX6) (N := 24) hx hb hts hi6 hown hK.1 hP 1 rfl rfl 16 (by decide) wf78 (fun _ h9 => h9) rfl dX6_number_48 ?_
        refine lv_if_ne (tgt := 61) hx hb dX6_number_51 (by decide) (fun _ => ?_) (fun h => absurd h hbd_45)
        refine lv_iload_n hx hb dX6_number_61 rfl (lv_at hl 1 rfl) ?_
        refine lv_istore_n (lv' := [(3, .int (nI lo)), (0, .ref md), (1, .int (nI lo)), (2, .int (nI hi))]) hx hb dX6_number_62 rfl hl (by decide) rfl (fun ls hl => ?_)
        refine lv_aload_n hx hb dX6_number_63 rfl (lv_at hl 1 rfl) ?_
        refine lv_iconst (v := 1) hx hb dX6_number_64 (by decide) ?_
        refine wt_goV (wr := []) (wt_runV (As := [.int 1]) (rest := []) ⟨hx, hb, hml, hown, hts⟩ (c_X6_must l D cI cZ cH md bt tl ta bf s13 s14 s15 md_f16_39 md_f17_40 1 vm_0 vm_1 vm_2 vm_3 vm_4 vm_5 vm_6 vm_7 vm_8 vm_9 vm_18 vm_19 vm_20 vm_21 vm_22 vm_23 (by first | assumption | omega) (by first | assumption | omega) (by first | assumption | omega)) (cwV 1 hts gX6_number_X6_must rfl rfl rfl (by decide +kernel) ⟨Nat.le_of_ble_eq_true rfl, Nat.le_of_ble_eq_true rfl⟩) hK hP hD [1, 0] rfl (by decide) (va_recv hK.1 hP (ci := 6) (q0 := 1) rfl rfl) rfl hl.1 rfl (Nat.le_of_ble_eq_true rfl) dX6_number_65 ⟨Nat.le_of_ble_eq_true rfl, Nat.le_of_ble_eq_true rfl⟩) hP hD hS hA [1, 0] [] rfl rfl (by decide) (by decide) (fun w_47 H locs h_48 hP hD hS => ?_)
        obtain ⟨ta2_49, md_f13_50, md_f14_51, md_f15_52, md_f16_53, md_f17_54, rfl, x_55⟩ := h_48
        have hP : va_P D vwCl [(md, .inr (6, [vm_0, vm_1, vm_2, vm_3, vm_4, vm_5, vm_6, vm_7, vm_8, vm_9, .ref bt, .int (nI tl), .int (nI ta2_49), .int md_f13_50, .int md_f14_51, .int md_f15_52, .int md_f16_53, .int md_f17_54, vm_18, vm_19, vm_20, vm_21, vm_22, vm_23])), (bt, .inl (cI, 120, .inl bf))] H := hP
        have hD : va_D A [(md, .inr (6, [vm_0, vm_1, vm_2, vm_3, vm_4, vm_5, vm_6, vm_7, vm_8, vm_9, .ref bt, .int (nI tl), .int (nI ta2_49), .int md_f13_50, .int md_f14_51, .int md_f15_52, .int md_f16_53, .int md_f17_54, vm_18, vm_19, vm_20, vm_21, vm_22, vm_23])), (bt, .inl (cI, 120, .inl bf))] := hD
        obtain ⟨yx_56, ybd_57, yk0_58, yge_59⟩ := x_55
        have hbd_60 : ¬ md_f16_53 = 0 := ybd_57 hbd_45
        refine lv_iload_n hx hb dX6_number_68 rfl (lv_at hl 0 rfl) ?_
        have hP9 := hP.sub (ws' := [(md, .inr (6, [vm_0, vm_1, vm_2, vm_3, vm_4, vm_5, vm_6, vm_7, vm_8, vm_9, .ref bt, .int (nI tl), .int (nI ta2_49), .int md_f13_50, .int md_f14_51, .int md_f15_52, .int md_f16_53, .int md_f17_54, vm_18, vm_19, vm_20, vm_21, vm_22, vm_23])), (bt, .inl (cI, 120, .inl bf))]) [0, 1] rfl
        have hD9 := hD.sub (ws' := [(md, .inr (6, [vm_0, vm_1, vm_2, vm_3, vm_4, vm_5, vm_6, vm_7, vm_8, vm_9, .ref bt, .int (nI tl), .int (nI ta2_49), .int md_f13_50, .int md_f14_51, .int md_f15_52, .int md_f16_53, .int md_f17_54, vm_18, vm_19, vm_20, vm_21, vm_22, vm_23])), (bt, .inl (cI, 120, .inl bf))]) [0, 1] (by decide) rfl
        exact wt_iret hx hb hr hlocks hP9 hD9 hS ⟨ta2_49, md_f13_50, md_f14_51, md_f15_52, md_f16_53, md_f17_54, rfl, ⟨⟨lo, by omega, by omega, rfl⟩, by omega, fun _ => hbd_60, yge_59⟩⟩ dX6_number_69
    · skip
      refine lv_aload_n hx hb dX6_number_15 rfl (lv_at hl 0 rfl) ?_
      refine lv_iconst (v := 1) hx hb dX6_number_16 (by decide) ?_
      refine wt_goV (wr := [(bt, .inl (cI, 120, .inl bf))]) (wt_runV (As := [.int 1]) (rest := []) ⟨hx, hb, hml, hown, hts⟩ (c_X6_bad l D cI cZ cH md s13 bd s17 1 vm_0 vm_1 vm_2 vm_3 vm_4 vm_5 vm_6 vm_7 vm_8 vm_9 (.ref bt) (.int (nI tl)) (.int (nI ta)) (.int s14) (.int s15) vm_18 vm_19 vm_20 vm_21 vm_22 vm_23 (by first | assumption | omega) (by decide)) (cwV 1 hts gX6_number_X6_bad rfl rfl rfl (by decide +kernel) ⟨Nat.le_of_ble_eq_true rfl, Nat.le_of_ble_eq_true rfl⟩) hK hP hD [0] rfl (by decide) (va_recv hK.1 hP (ci := 6) (q0 := 0) rfl rfl) rfl hl.1 rfl (Nat.le_of_ble_eq_true rfl) dX6_number_17 ⟨Nat.le_of_ble_eq_true rfl, Nat.le_of_ble_eq_true rfl⟩) hP hD hS hA [0] [1] rfl rfl (by decide) (by decide) (fun w_62 H locs h_63 hP hD hS => ?_)
      obtain ⟨md_f16_64, md_f17_65, rfl, x_66⟩ := h_63
      have hP : va_P D vwCl [(bt, .inl (cI, 120, .inl bf)), (md, .inr (6, [vm_0, vm_1, vm_2, vm_3, vm_4, vm_5, vm_6, vm_7, vm_8, vm_9, .ref bt, .int (nI tl), .int (nI ta), .int s13, .int s14, .int s15, .int md_f16_64, .int md_f17_65, vm_18, vm_19, vm_20, vm_21, vm_22, vm_23]))] H := hP
      have hD : va_D A [(bt, .inl (cI, 120, .inl bf)), (md, .inr (6, [vm_0, vm_1, vm_2, vm_3, vm_4, vm_5, vm_6, vm_7, vm_8, vm_9, .ref bt, .int (nI tl), .int (nI ta), .int s13, .int s14, .int s15, .int md_f16_64, .int md_f17_65, vm_18, vm_19, vm_20, vm_21, vm_22, vm_23]))] := hD
      obtain ⟨yk0_67, ybd_68, yge_69⟩ := x_66
      have hbd_70 : ¬ md_f16_64 = 0 := yk0_67 (by decide)
      refine lv_aload_n hx hb dX6_number_20 rfl (lv_at hl 0 rfl) ?_
      refine va_get (D := D) (ci := 6) (v := .int md_f16_64) (C := RX6) (T := TX6) (N := 24) hx hb hts hi6 hown hK.1 hP 1 rfl rfl 16 (by decide) wf78 (fun _ h9 => h9) rfl dX6_number_21 ?_
      refine lv_if_ne (tgt := 47) hx hb dX6_number_24 (by decide) (fun _ => ?_) (fun h => absurd h hbd_70)
      refine lv_aload_n hx hb dX6_number_47 rfl (lv_at hl 0 rfl) ?_
      refine va_get (D := D) (ci := 6) (v := .int md_f16_64) (C := RX6) (T := TX6) (N := 24) hx hb hts hi6 hown hK.1 hP 1 rfl rfl 16 (by decide) wf78 (fun _ h9 => h9) rfl dX6_number_48 ?_
      refine lv_if_ne (tgt := 61) hx hb dX6_number_51 (by decide) (fun _ => ?_) (fun h => absurd h hbd_70)
      refine lv_iload_n hx hb dX6_number_61 rfl (lv_at hl 1 rfl) ?_
      refine lv_istore_n (lv' := [(3, .int (nI lo)), (0, .ref md), (1, .int (nI lo)), (2, .int (nI hi))]) hx hb dX6_number_62 rfl hl (by decide) rfl (fun ls hl => ?_)
      refine lv_aload_n hx hb dX6_number_63 rfl (lv_at hl 1 rfl) ?_
      refine lv_iconst (v := 1) hx hb dX6_number_64 (by decide) ?_
      refine wt_goV (wr := []) (wt_runV (As := [.int 1]) (rest := []) ⟨hx, hb, hml, hown, hts⟩ (c_X6_must l D cI cZ cH md bt tl ta bf s13 s14 s15 md_f16_64 md_f17_65 1 vm_0 vm_1 vm_2 vm_3 vm_4 vm_5 vm_6 vm_7 vm_8 vm_9 vm_18 vm_19 vm_20 vm_21 vm_22 vm_23 (by first | assumption | omega) (by first | assumption | omega) (by first | assumption | omega)) (cwV 1 hts gX6_number_X6_must rfl rfl rfl (by decide +kernel) ⟨Nat.le_of_ble_eq_true rfl, Nat.le_of_ble_eq_true rfl⟩) hK hP hD [1, 0] rfl (by decide) (va_recv hK.1 hP (ci := 6) (q0 := 1) rfl rfl) rfl hl.1 rfl (Nat.le_of_ble_eq_true rfl) dX6_number_65 ⟨Nat.le_of_ble_eq_true rfl, Nat.le_of_ble_eq_true rfl⟩) hP hD hS hA [1, 0] [] rfl rfl (by decide) (by decide) (fun w_72 H locs h_73 hP hD hS => ?_)
      obtain ⟨ta2_74, md_f13_75, md_f14_76, md_f15_77, md_f16_78, md_f17_79, rfl, x_80⟩ := h_73
      have hP : va_P D vwCl [(md, .inr (6, [vm_0, vm_1, vm_2, vm_3, vm_4, vm_5, vm_6, vm_7, vm_8, vm_9, .ref bt, .int (nI tl), .int (nI ta2_74), .int md_f13_75, .int md_f14_76, .int md_f15_77, .int md_f16_78, .int md_f17_79, vm_18, vm_19, vm_20, vm_21, vm_22, vm_23])), (bt, .inl (cI, 120, .inl bf))] H := hP
      have hD : va_D A [(md, .inr (6, [vm_0, vm_1, vm_2, vm_3, vm_4, vm_5, vm_6, vm_7, vm_8, vm_9, .ref bt, .int (nI tl), .int (nI ta2_74), .int md_f13_75, .int md_f14_76, .int md_f15_77, .int md_f16_78, .int md_f17_79, vm_18, vm_19, vm_20, vm_21, vm_22, vm_23])), (bt, .inl (cI, 120, .inl bf))] := hD
      obtain ⟨yx_81, ybd_82, yk0_83, yge_84⟩ := x_80
      have hbd_85 : ¬ md_f16_78 = 0 := ybd_82 hbd_70
      refine lv_iload_n hx hb dX6_number_68 rfl (lv_at hl 0 rfl) ?_
      have hP9 := hP.sub (ws' := [(md, .inr (6, [vm_0, vm_1, vm_2, vm_3, vm_4, vm_5, vm_6, vm_7, vm_8, vm_9, .ref bt, .int (nI tl), .int (nI ta2_74), .int md_f13_75, .int md_f14_76, .int md_f15_77, .int md_f16_78, .int md_f17_79, vm_18, vm_19, vm_20, vm_21, vm_22, vm_23])), (bt, .inl (cI, 120, .inl bf))]) [0, 1] rfl
      have hD9 := hD.sub (ws' := [(md, .inr (6, [vm_0, vm_1, vm_2, vm_3, vm_4, vm_5, vm_6, vm_7, vm_8, vm_9, .ref bt, .int (nI tl), .int (nI ta2_74), .int md_f13_75, .int md_f14_76, .int md_f15_77, .int md_f16_78, .int md_f17_79, vm_18, vm_19, vm_20, vm_21, vm_22, vm_23])), (bt, .inl (cI, 120, .inl bf))]) [0, 1] (by decide) rfl
      exact wt_iret hx hb hr hlocks hP9 hD9 hS ⟨ta2_74, md_f13_75, md_f14_76, md_f15_77, md_f16_78, md_f17_79, rfl, ⟨⟨lo, by omega, by omega, rfl⟩, by omega, fun _ => hbd_85, yge_84⟩⟩ dX6_number_69
set_option maxHeartbeats 4000000 in
set_option maxRecDepth 100000 in
theorem c_X6_mustSign (l : Launch) (D : va_G) (cI cZ cH : ClassId) (md bt : Nat) (tl ta : Nat) (bf : Nat → Int32) (s13 s14 s15 bd s17 : Int32) (k : Int32) (vm_0 vm_1 vm_2 vm_3 vm_4 vm_5 vm_6 vm_7 vm_8 vm_9 vm_18 vm_19 vm_20 vm_21 vm_22 vm_23 : Value) (htl : tl ≤ 120) (hta : ta ≤ tl) (hb0 : 0 ≤ bd) : wt_M l yX6_mustSign wsX6_mustSign ({ frames := 3, cells := 0, slots := 0, locals := 66 } : Room) D (wt_T cI cZ cH) [.ref md, .int k] [(md, .inr (6, [vm_0, vm_1, vm_2, vm_3, vm_4, vm_5, vm_6, vm_7, vm_8, vm_9, .ref bt, .int (nI tl), .int (nI ta), .int s13, .int s14, .int s15, .int bd, .int s17, vm_18, vm_19, vm_20, vm_21, vm_22, vm_23])), (bt, .inl (cI, 120, .inl bf))] (wt_QV D (fun w => ∃ (ta2 : Nat) (md_f13 md_f14 md_f15 md_f16 md_f17 : Int32), w = [(md, .inr (6, [vm_0, vm_1, vm_2, vm_3, vm_4, vm_5, vm_6, vm_7, vm_8, vm_9, .ref bt, .int (nI tl), .int (nI ta2), .int md_f13, .int md_f14, .int md_f15, .int md_f16, .int md_f17, vm_18, vm_19, vm_20, vm_21, vm_22, vm_23])), (bt, .inl (cI, 120, .inl bf))] ∧ ta2 ≤ tl ∧ (¬ bd = 0 → ¬ md_f16 = 0) ∧ 0 ≤ md_f16)) := by
  refine wt_M.ofW (cc := cX6_mustSign) (maxL := 2) (ret := none) (by decide) rfl (Nat.le_of_ble_eq_true rfl) ?_
  intro p e s m below meth c A ls hx hb hr hts hown hlocks hml hnm hP hK hD hA hS hl
  have hP : va_P D vwCl [(md, .inr (6, [vm_0, vm_1, vm_2, vm_3, vm_4, vm_5, vm_6, vm_7, vm_8, vm_9, .ref bt, .int (nI tl), .int (nI ta), .int s13, .int s14, .int s15, .int bd, .int s17, vm_18, vm_19, vm_20, vm_21, vm_22, vm_23])), (bt, .inl (cI, 120, .inl bf))] s.heap := hP
  have hown : s.vm.findClass RX6 = some m.cls := hown
  have hl : lv_has ls 2 [(0, .ref md), (1, .int k)] := hl
  have hi6 : ∀ w ∈ u_ws RX6 TX6 24, w ∈ wsX6_mustSign := by decide +kernel
  have wf102 := hts (.fieldLink RX6 102 "WarmTubesModel" "token" "I") (by decide +kernel)
  have wf91 := hts (.fieldLink RX6 91 "WarmTubesModel" "value" "I") (by decide +kernel)
  refine lv_aload_n hx hb dX6_mustSign_0 rfl (lv_at hl 0 rfl) ?_
  refine lv_aload_n hx hb dX6_mustSign_1 rfl (lv_at hl 0 rfl) ?_
  refine va_get (D := D) (ci := 6) (v := .int s14) (C := RX6) (T := TX6) (N := 24) hx hb hts hi6 hown hK.1 hP 0 rfl rfl 14 (by decide) wf102 (fun _ h9 => h9) rfl dX6_mustSign_2 ?_
  refine lv_iconst (v := 4) hx hb dX6_mustSign_5 (by decide) ?_
  refine lv_icmp_ne (tgt := 21) hx hb dX6_mustSign_6 (by decide) (fun c_1 => ?_) (fun c_1 => ?_)
  · skip
    refine lv_iconst (v := 0) hx hb dX6_mustSign_21 (by decide) ?_
    refine wt_goV (wr := []) (wt_runV (As := [.int 0]) (rest := []) ⟨hx, hb, hml, hown, hts⟩ (c_X6_must l D cI cZ cH md bt tl ta bf s13 s14 s15 bd s17 0 vm_0 vm_1 vm_2 vm_3 vm_4 vm_5 vm_6 vm_7 vm_8 vm_9 vm_18 vm_19 vm_20 vm_21 vm_22 vm_23 (by first | assumption | omega) (by first | assumption | omega) (by first | assumption | omega)) (cwV 1 hts gX6_mustSign_X6_must rfl rfl rfl (by decide +kernel) ⟨Nat.le_of_ble_eq_true rfl, Nat.le_of_ble_eq_true rfl⟩) hK hP hD [0, 1] rfl (by decide) (va_recv hK.1 hP (ci := 6) (q0 := 0) rfl rfl) rfl hl.1 rfl (Nat.le_of_ble_eq_true rfl) dX6_mustSign_22 ⟨Nat.le_of_ble_eq_true rfl, Nat.le_of_ble_eq_true rfl⟩) hP hD hS hA [0, 1] [] rfl rfl (by decide) (by decide) (fun w_3 H locs h_4 hP hD hS => ?_)
    obtain ⟨ta2_5, md_f13_6, md_f14_7, md_f15_8, md_f16_9, md_f17_10, rfl, x_11⟩ := h_4
    have hP : va_P D vwCl [(md, .inr (6, [vm_0, vm_1, vm_2, vm_3, vm_4, vm_5, vm_6, vm_7, vm_8, vm_9, .ref bt, .int (nI tl), .int (nI ta2_5), .int md_f13_6, .int md_f14_7, .int md_f15_8, .int md_f16_9, .int md_f17_10, vm_18, vm_19, vm_20, vm_21, vm_22, vm_23])), (bt, .inl (cI, 120, .inl bf))] H := hP
    have hD : va_D A [(md, .inr (6, [vm_0, vm_1, vm_2, vm_3, vm_4, vm_5, vm_6, vm_7, vm_8, vm_9, .ref bt, .int (nI tl), .int (nI ta2_5), .int md_f13_6, .int md_f14_7, .int md_f15_8, .int md_f16_9, .int md_f17_10, vm_18, vm_19, vm_20, vm_21, vm_22, vm_23])), (bt, .inl (cI, 120, .inl bf))] := hD
    obtain ⟨yx_12, ybd_13, yk0_14, yge_15⟩ := x_11
    have hbd_16 : ¬ md_f16_9 = 0 := yk0_14 rfl
    have hP9 := hP.sub (ws' := [(md, .inr (6, [vm_0, vm_1, vm_2, vm_3, vm_4, vm_5, vm_6, vm_7, vm_8, vm_9, .ref bt, .int (nI tl), .int (nI ta2_5), .int md_f13_6, .int md_f14_7, .int md_f15_8, .int md_f16_9, .int md_f17_10, vm_18, vm_19, vm_20, vm_21, vm_22, vm_23])), (bt, .inl (cI, 120, .inl bf))]) [0, 1] rfl
    have hD9 := hD.sub (ws' := [(md, .inr (6, [vm_0, vm_1, vm_2, vm_3, vm_4, vm_5, vm_6, vm_7, vm_8, vm_9, .ref bt, .int (nI tl), .int (nI ta2_5), .int md_f13_6, .int md_f14_7, .int md_f15_8, .int md_f16_9, .int md_f17_10, vm_18, vm_19, vm_20, vm_21, vm_22, vm_23])), (bt, .inl (cI, 120, .inl bf))]) [0, 1] (by decide) rfl
    exact wt_vret hx hb hr hlocks hP9 hD9 hS ⟨ta2_5, md_f13_6, md_f14_7, md_f15_8, md_f16_9, md_f17_10, rfl, ⟨by omega, fun _ => hbd_16, yge_15⟩⟩ dX6_mustSign_25
  · skip
    refine lv_aload_n hx hb dX6_mustSign_9 rfl (lv_at hl 0 rfl) ?_
    refine va_get (D := D) (ci := 6) (v := .int s15) (C := RX6) (T := TX6) (N := 24) hx hb hts hi6 hown hK.1 hP 0 rfl rfl 15 (by decide) wf91 (fun _ h9 => h9) rfl dX6_mustSign_10 ?_
    refine lv_iload_n hx hb dX6_mustSign_13 rfl (lv_at hl 1 rfl) ?_
    refine lv_icmp_ne (tgt := 21) hx hb dX6_mustSign_14 (by decide) (fun c_17 => ?_) (fun c_17 => ?_)
    · skip
      refine lv_iconst (v := 0) hx hb dX6_mustSign_21 (by decide) ?_
      refine wt_goV (wr := []) (wt_runV (As := [.int 0]) (rest := []) ⟨hx, hb, hml, hown, hts⟩ (c_X6_must l D cI cZ cH md bt tl ta bf s13 s14 s15 bd s17 0 vm_0 vm_1 vm_2 vm_3 vm_4 vm_5 vm_6 vm_7 vm_8 vm_9 vm_18 vm_19 vm_20 vm_21 vm_22 vm_23 (by first | assumption | omega) (by first | assumption | omega) (by first | assumption | omega)) (cwV 1 hts gX6_mustSign_X6_must rfl rfl rfl (by decide +kernel) ⟨Nat.le_of_ble_eq_true rfl, Nat.le_of_ble_eq_true rfl⟩) hK hP hD [0, 1] rfl (by decide) (va_recv hK.1 hP (ci := 6) (q0 := 0) rfl rfl) rfl hl.1 rfl (Nat.le_of_ble_eq_true rfl) dX6_mustSign_22 ⟨Nat.le_of_ble_eq_true rfl, Nat.le_of_ble_eq_true rfl⟩) hP hD hS hA [0, 1] [] rfl rfl (by decide) (by decide) (fun w_19 H locs h_20 hP hD hS => ?_)
      obtain ⟨ta2_21, md_f13_22, md_f14_23, md_f15_24, md_f16_25, md_f17_26, rfl, x_27⟩ := h_20
      have hP : va_P D vwCl [(md, .inr (6, [vm_0, vm_1, vm_2, vm_3, vm_4, vm_5, vm_6, vm_7, vm_8, vm_9, .ref bt, .int (nI tl), .int (nI ta2_21), .int md_f13_22, .int md_f14_23, .int md_f15_24, .int md_f16_25, .int md_f17_26, vm_18, vm_19, vm_20, vm_21, vm_22, vm_23])), (bt, .inl (cI, 120, .inl bf))] H := hP
      have hD : va_D A [(md, .inr (6, [vm_0, vm_1, vm_2, vm_3, vm_4, vm_5, vm_6, vm_7, vm_8, vm_9, .ref bt, .int (nI tl), .int (nI ta2_21), .int md_f13_22, .int md_f14_23, .int md_f15_24, .int md_f16_25, .int md_f17_26, vm_18, vm_19, vm_20, vm_21, vm_22, vm_23])), (bt, .inl (cI, 120, .inl bf))] := hD
      obtain ⟨yx_28, ybd_29, yk0_30, yge_31⟩ := x_27
      have hbd_32 : ¬ md_f16_25 = 0 := yk0_30 rfl
      have hP9 := hP.sub (ws' := [(md, .inr (6, [vm_0, vm_1, vm_2, vm_3, vm_4, vm_5, vm_6, vm_7, vm_8, vm_9, .ref bt, .int (nI tl), .int (nI ta2_21), .int md_f13_22, .int md_f14_23, .int md_f15_24, .int md_f16_25, .int md_f17_26, vm_18, vm_19, vm_20, vm_21, vm_22, vm_23])), (bt, .inl (cI, 120, .inl bf))]) [0, 1] rfl
      have hD9 := hD.sub (ws' := [(md, .inr (6, [vm_0, vm_1, vm_2, vm_3, vm_4, vm_5, vm_6, vm_7, vm_8, vm_9, .ref bt, .int (nI tl), .int (nI ta2_21), .int md_f13_22, .int md_f14_23, .int md_f15_24, .int md_f16_25, .int md_f17_26, vm_18, vm_19, vm_20, vm_21, vm_22, vm_23])), (bt, .inl (cI, 120, .inl bf))]) [0, 1] (by decide) rfl
      exact wt_vret hx hb hr hlocks hP9 hD9 hS ⟨ta2_21, md_f13_22, md_f14_23, md_f15_24, md_f16_25, md_f17_26, rfl, ⟨by omega, fun _ => hbd_32, yge_31⟩⟩ dX6_mustSign_25
    · skip
      refine lv_iconst (v := 1) hx hb dX6_mustSign_17 (by decide) ?_
      refine lv_goto (tgt := 22) hx hb dX6_mustSign_18 (by decide) ?_
      refine wt_goV (wr := []) (wt_runV (As := [.int 1]) (rest := []) ⟨hx, hb, hml, hown, hts⟩ (c_X6_must l D cI cZ cH md bt tl ta bf s13 s14 s15 bd s17 1 vm_0 vm_1 vm_2 vm_3 vm_4 vm_5 vm_6 vm_7 vm_8 vm_9 vm_18 vm_19 vm_20 vm_21 vm_22 vm_23 (by first | assumption | omega) (by first | assumption | omega) (by first | assumption | omega)) (cwV 1 hts gX6_mustSign_X6_must rfl rfl rfl (by decide +kernel) ⟨Nat.le_of_ble_eq_true rfl, Nat.le_of_ble_eq_true rfl⟩) hK hP hD [0, 1] rfl (by decide) (va_recv hK.1 hP (ci := 6) (q0 := 0) rfl rfl) rfl hl.1 rfl (Nat.le_of_ble_eq_true rfl) dX6_mustSign_22 ⟨Nat.le_of_ble_eq_true rfl, Nat.le_of_ble_eq_true rfl⟩) hP hD hS hA [0, 1] [] rfl rfl (by decide) (by decide) (fun w_34 H locs h_35 hP hD hS => ?_)
      obtain ⟨ta2_36, md_f13_37, md_f14_38, md_f15_39, md_f16_40, md_f17_41, rfl, x_42⟩ := h_35
      have hP : va_P D vwCl [(md, .inr (6, [vm_0, vm_1, vm_2, vm_3, vm_4, vm_5, vm_6, vm_7, vm_8, vm_9, .ref bt, .int (nI tl), .int (nI ta2_36), .int md_f13_37, .int md_f14_38, .int md_f15_39, .int md_f16_40, .int md_f17_41, vm_18, vm_19, vm_20, vm_21, vm_22, vm_23])), (bt, .inl (cI, 120, .inl bf))] H := hP
      have hD : va_D A [(md, .inr (6, [vm_0, vm_1, vm_2, vm_3, vm_4, vm_5, vm_6, vm_7, vm_8, vm_9, .ref bt, .int (nI tl), .int (nI ta2_36), .int md_f13_37, .int md_f14_38, .int md_f15_39, .int md_f16_40, .int md_f17_41, vm_18, vm_19, vm_20, vm_21, vm_22, vm_23])), (bt, .inl (cI, 120, .inl bf))] := hD
      obtain ⟨yx_43, ybd_44, yk0_45, yge_46⟩ := x_42
      have hP9 := hP.sub (ws' := [(md, .inr (6, [vm_0, vm_1, vm_2, vm_3, vm_4, vm_5, vm_6, vm_7, vm_8, vm_9, .ref bt, .int (nI tl), .int (nI ta2_36), .int md_f13_37, .int md_f14_38, .int md_f15_39, .int md_f16_40, .int md_f17_41, vm_18, vm_19, vm_20, vm_21, vm_22, vm_23])), (bt, .inl (cI, 120, .inl bf))]) [0, 1] rfl
      have hD9 := hD.sub (ws' := [(md, .inr (6, [vm_0, vm_1, vm_2, vm_3, vm_4, vm_5, vm_6, vm_7, vm_8, vm_9, .ref bt, .int (nI tl), .int (nI ta2_36), .int md_f13_37, .int md_f14_38, .int md_f15_39, .int md_f16_40, .int md_f17_41, vm_18, vm_19, vm_20, vm_21, vm_22, vm_23])), (bt, .inl (cI, 120, .inl bf))]) [0, 1] (by decide) rfl
      exact wt_vret hx hb hr hlocks hP9 hD9 hS ⟨ta2_36, md_f13_37, md_f14_38, md_f15_39, md_f16_40, md_f17_41, rfl, ⟨by omega, ybd_44, yge_46⟩⟩ dX6_mustSign_25
set_option maxHeartbeats 4000000 in
set_option maxRecDepth 100000 in
theorem c_X6_readRoom (l : Launch) (D : va_G) (cI cZ cH : ClassId) (md bt : Nat) (tl ta : Nat) (bf : Nat → Int32) (s13 s14 s15 bd s17 : Int32) (fr : Nat) (R T : Nat) (tf : Nat → Int32) (vm_0 vm_1 vm_2 vm_3 vm_4 vm_5 vm_7 vm_8 vm_9 vm_18 vm_19 vm_20 vm_21 vm_22 vm_23 : Value) (htl : tl ≤ 120) (hta : ta ≤ tl) (hb0 : 0 ≤ bd) (hR5 : R ≤ 5) (hT6 : T ≤ 6) (hrk : rk R T tf) : wt_M l yX6_readRoom wsX6_readRoom ({ frames := 4, cells := 0, slots := 0, locals := 89 } : Room) D (wt_T cI cZ cH) [.ref md] [(md, .inr (6, [vm_0, vm_1, vm_2, vm_3, vm_4, vm_5, .ref fr, vm_7, vm_8, vm_9, .ref bt, .int (nI tl), .int (nI ta), .int s13, .int s14, .int s15, .int bd, .int s17, vm_18, vm_19, vm_20, vm_21, vm_22, vm_23])), (bt, .inl (cI, 120, .inl bf)), (fr, .inl (cI, 45, .inl tf))] (wt_QV D (fun w => ∃ (tf2 : Nat → Int32) (ta2 : Nat) (md_f13 md_f14 md_f15 md_f16 md_f17 : Int32), w = [(md, .inr (6, [vm_0, vm_1, vm_2, vm_3, vm_4, vm_5, .ref fr, vm_7, vm_8, vm_9, .ref bt, .int (nI tl), .int (nI ta2), .int md_f13, .int md_f14, .int md_f15, .int md_f16, .int md_f17, vm_18, vm_19, vm_20, vm_21, vm_22, vm_23])), (bt, .inl (cI, 120, .inl bf)), (fr, .inl (cI, 45, .inl tf2))] ∧ ∃ R2 : Nat, R2 ≤ 5 ∧ R ≤ R2 ∧ rk R2 T tf2 ∧ ta2 ≤ tl ∧ 0 ≤ md_f16 ∧ (md_f16 = 0 → R2 = R + 1))) := by
  refine wt_M.ofW (cc := cX6_readRoom) (maxL := 3) (ret := none) (by decide) rfl (Nat.le_of_ble_eq_true rfl) ?_
  intro p e s m below meth c A ls hx hb hr hts hown hlocks hml hnm hP hK hD hA hS hl
  have hP : va_P D vwCl [(md, .inr (6, [vm_0, vm_1, vm_2, vm_3, vm_4, vm_5, .ref fr, vm_7, vm_8, vm_9, .ref bt, .int (nI tl), .int (nI ta), .int s13, .int s14, .int s15, .int bd, .int s17, vm_18, vm_19, vm_20, vm_21, vm_22, vm_23])), (bt, .inl (cI, 120, .inl bf)), (fr, .inl (cI, 45, .inl tf))] s.heap := hP
  have hown : s.vm.findClass RX6 = some m.cls := hown
  have hl : lv_has ls 3 [(0, .ref md)] := hl
  have hi6 : ∀ w ∈ u_ws RX6 TX6 24, w ∈ wsX6_readRoom := by decide +kernel
  have wf22 := hts (.fieldLink RX6 22 "WarmTubesModel" "fresh" "[I") (by decide +kernel)
  have wf78 := hts (.fieldLink RX6 78 "WarmTubesModel" "fault" "I") (by decide +kernel)
  refine lv_aload_n hx hb dX6_readRoom_0 rfl (lv_at hl 0 rfl) ?_
  refine va_get (D := D) (ci := 6) (v := .ref fr) (C := RX6) (T := TX6) (N := 24) hx hb hts hi6 hown hK.1 hP 0 rfl rfl 6 (by decide) wf22 (fun _ h9 => h9) rfl dX6_readRoom_1 ?_
  refine lv_iconst (v := 0) hx hb dX6_readRoom_4 (by decide) ?_
  refine va_iald hx hb hK.1 hP 2 0 rfl rfl (by rw [vp_in_iff]; decide) dX6_readRoom_5 ?_
  refine wt_top (z := nI R) (hrk.1) ?_
  refine lv_iconst (v := 5) hx hb dX6_readRoom_6 (by decide) ?_
  refine lv_icmp_ne (tgt := 15) hx hb dX6_readRoom_7 (by decide) (fun c_1 => ?_) (fun c_1 => ?_)
  · skip
    have c_1 : ¬ (R = 5) := fun h => c_1 ((nI_eq (a := R) (b := 5) (by omega) (by omega)).mpr h)
    refine lv_aload_n hx hb dX6_readRoom_15 rfl (lv_at hl 0 rfl) ?_
    refine lv_aload_n hx hb dX6_readRoom_16 rfl (lv_at hl 0 rfl) ?_
    refine lv_bipush (v := 109) hx hb dX6_readRoom_17 (by decide) ?_
    refine wt_rV (As := [.int 109]) (rest := [.ref md]) ⟨hx, hb, hml, hown, hts⟩ (c_X6_isLetter l D cI cZ cH md s14 s15 bd 109 vm_0 vm_1 vm_2 vm_3 vm_4 vm_5 (.ref fr) vm_7 vm_8 vm_9 (.ref bt) (.int (nI tl)) (.int (nI ta)) (.int s13) (.int s17) vm_18 vm_19 vm_20 vm_21 vm_22 vm_23) (cwV 1 hts gX6_readRoom_X6_isLetter rfl rfl rfl (by decide +kernel) ⟨Nat.le_of_ble_eq_true rfl, Nat.le_of_ble_eq_true rfl⟩) hK hP [0] rfl (va_recv hK.1 hP (ci := 6) (q0 := 0) rfl rfl) rfl hl.1 rfl (Nat.le_of_ble_eq_true rfl) dX6_readRoom_19 ⟨Nat.le_of_ble_eq_true rfl, Nat.le_of_ble_eq_true rfl⟩ (fun r_2 e_3 => ?_)
    subst e_3
    refine wt_goV (wr := [(fr, .inl (cI, 45, .inl tf))]) (wt_runV (As := [.int (lB bd s14 s15 109)]) (rest := []) ⟨hx, hb, hml, hown, hts⟩ (c_X6_must l D cI cZ cH md bt tl ta bf s13 s14 s15 bd s17 (lB bd s14 s15 109) vm_0 vm_1 vm_2 vm_3 vm_4 vm_5 (.ref fr) vm_7 vm_8 vm_9 vm_18 vm_19 vm_20 vm_21 vm_22 vm_23 (by first | assumption | omega) (by first | assumption | omega) (by first | assumption | omega)) (cwV 1 hts gX6_readRoom_X6_must rfl rfl rfl (by decide +kernel) ⟨Nat.le_of_ble_eq_true rfl, Nat.le_of_ble_eq_true rfl⟩) hK hP hD [0, 1] rfl (by decide) (va_recv hK.1 hP (ci := 6) (q0 := 0) rfl rfl) rfl hl.1 rfl (Nat.le_of_ble_eq_true rfl) dX6_readRoom_22 ⟨Nat.le_of_ble_eq_true rfl, Nat.le_of_ble_eq_true rfl⟩) hP hD hS hA [0, 1] [2] rfl rfl (by decide) (by decide) (fun w_5 H locs h_6 hP hD hS => ?_)
    obtain ⟨ta2_7, md_f13_8, md_f14_9, md_f15_10, md_f16_11, md_f17_12, rfl, x_13⟩ := h_6
    have hP : va_P D vwCl [(fr, .inl (cI, 45, .inl tf)), (md, .inr (6, [vm_0, vm_1, vm_2, vm_3, vm_4, vm_5, .ref fr, vm_7, vm_8, vm_9, .ref bt, .int (nI tl), .int (nI ta2_7), .int md_f13_8, .int md_f14_9, .int md_f15_10, .int md_f16_11, .int md_f17_12, vm_18, vm_19, vm_20, vm_21, vm_22, vm_23])), (bt, .inl (cI, 120, .inl bf))] H := hP
    have hD : va_D A [(fr, .inl (cI, 45, .inl tf)), (md, .inr (6, [vm_0, vm_1, vm_2, vm_3, vm_4, vm_5, .ref fr, vm_7, vm_8, vm_9, .ref bt, .int (nI tl), .int (nI ta2_7), .int md_f13_8, .int md_f14_9, .int md_f15_10, .int md_f16_11, .int md_f17_12, vm_18, vm_19, vm_20, vm_21, vm_22, vm_23])), (bt, .inl (cI, 120, .inl bf))] := hD
    obtain ⟨yx_14, ybd_15, yk0_16, yge_17⟩ := x_13
    refine lv_aload_n hx hb dX6_readRoom_25 rfl (lv_at hl 0 rfl) ?_
    refine lv_iconst (v := 0) hx hb dX6_readRoom_26 (by decide) ?_
    refine lv_bipush (v := 99) hx hb dX6_readRoom_27 (by decide) ?_
    refine wt_goI (wr := [(fr, .inl (cI, 45, .inl tf))]) (wt_runV (As := [.int 0, .int 99]) (rest := []) ⟨hx, hb, hml, hown, hts⟩ (c_X6_number l D cI cZ cH md bt tl ta2_7 bf md_f13_8 md_f14_9 md_f15_10 md_f16_11 md_f17_12 0 99 vm_0 vm_1 vm_2 vm_3 vm_4 vm_5 (.ref fr) vm_7 vm_8 vm_9 vm_18 vm_19 vm_20 vm_21 vm_22 vm_23 (by first | assumption | omega) (by first | assumption | omega) (by first | assumption | omega) (by first | assumption | omega) (by first | assumption | omega)) (cwV 2 hts gX6_readRoom_X6_number rfl rfl rfl (by decide +kernel) ⟨Nat.le_of_ble_eq_true rfl, Nat.le_of_ble_eq_true rfl⟩) hK hP hD [1, 2] rfl (by decide) (va_recv hK.1 hP (ci := 6) (q0 := 1) rfl rfl) rfl hl.1 rfl (Nat.le_of_ble_eq_true rfl) dX6_readRoom_29 ⟨Nat.le_of_ble_eq_true rfl, Nat.le_of_ble_eq_true rfl⟩) hP hD hS hA [1, 2] [0] rfl rfl (by decide) (by decide) (fun r_18 w_19 H locs h_20 hP hD hS => ?_)
    obtain ⟨ta2_21, md_f13_22, md_f14_23, md_f15_24, md_f16_25, md_f17_26, rfl, x_27⟩ := h_20
    have hP : va_P D vwCl [(fr, .inl (cI, 45, .inl tf)), (md, .inr (6, [vm_0, vm_1, vm_2, vm_3, vm_4, vm_5, .ref fr, vm_7, vm_8, vm_9, .ref bt, .int (nI tl), .int (nI ta2_21), .int md_f13_22, .int md_f14_23, .int md_f15_24, .int md_f16_25, .int md_f17_26, vm_18, vm_19, vm_20, vm_21, vm_22, vm_23])), (bt, .inl (cI, 120, .inl bf))] H := hP
    have hD : va_D A [(fr, .inl (cI, 45, .inl tf)), (md, .inr (6, [vm_0, vm_1, vm_2, vm_3, vm_4, vm_5, .ref fr, vm_7, vm_8, vm_9, .ref bt, .int (nI tl), .int (nI ta2_21), .int md_f13_22, .int md_f14_23, .int md_f15_24, .int md_f16_25, .int md_f17_26, vm_18, vm_19, vm_20, vm_21, vm_22, vm_23])), (bt, .inl (cI, 120, .inl bf))] := hD
    obtain ⟨⟨v_28, hv_28a, hv_28b, rfl⟩, yx_29, ybd_30, yge_31⟩ := x_27
    refine lv_istore_n (lv' := [(1, .int (nI v_28)), (0, .ref md)]) hx hb dX6_readRoom_32 rfl hl (by decide) rfl (fun ls hl => ?_)
    refine lv_aload_n hx hb dX6_readRoom_33 rfl (lv_at hl 1 rfl) ?_
    refine lv_bipush (v := 44) hx hb dX6_readRoom_34 (by decide) ?_
    refine wt_goV (wr := [(fr, .inl (cI, 45, .inl tf))]) (wt_runV (As := [.int 44]) (rest := []) ⟨hx, hb, hml, hown, hts⟩ (c_X6_mustSign l D cI cZ cH md bt tl ta2_21 bf md_f13_22 md_f14_23 md_f15_24 md_f16_25 md_f17_26 44 vm_0 vm_1 vm_2 vm_3 vm_4 vm_5 (.ref fr) vm_7 vm_8 vm_9 vm_18 vm_19 vm_20 vm_21 vm_22 vm_23 (by first | assumption | omega) (by first | assumption | omega) (by first | assumption | omega)) (cwV 1 hts gX6_readRoom_X6_mustSign rfl rfl rfl (by decide +kernel) ⟨Nat.le_of_ble_eq_true rfl, Nat.le_of_ble_eq_true rfl⟩) hK hP hD [1, 2] rfl (by decide) (va_recv hK.1 hP (ci := 6) (q0 := 1) rfl rfl) rfl hl.1 rfl (Nat.le_of_ble_eq_true rfl) dX6_readRoom_36 ⟨Nat.le_of_ble_eq_true rfl, Nat.le_of_ble_eq_true rfl⟩) hP hD hS hA [1, 2] [0] rfl rfl (by decide) (by decide) (fun w_33 H locs h_34 hP hD hS => ?_)
    obtain ⟨ta2_35, md_f13_36, md_f14_37, md_f15_38, md_f16_39, md_f17_40, rfl, x_41⟩ := h_34
    have hP : va_P D vwCl [(fr, .inl (cI, 45, .inl tf)), (md, .inr (6, [vm_0, vm_1, vm_2, vm_3, vm_4, vm_5, .ref fr, vm_7, vm_8, vm_9, .ref bt, .int (nI tl), .int (nI ta2_35), .int md_f13_36, .int md_f14_37, .int md_f15_38, .int md_f16_39, .int md_f17_40, vm_18, vm_19, vm_20, vm_21, vm_22, vm_23])), (bt, .inl (cI, 120, .inl bf))] H := hP
    have hD : va_D A [(fr, .inl (cI, 45, .inl tf)), (md, .inr (6, [vm_0, vm_1, vm_2, vm_3, vm_4, vm_5, .ref fr, vm_7, vm_8, vm_9, .ref bt, .int (nI tl), .int (nI ta2_35), .int md_f13_36, .int md_f14_37, .int md_f15_38, .int md_f16_39, .int md_f17_40, vm_18, vm_19, vm_20, vm_21, vm_22, vm_23])), (bt, .inl (cI, 120, .inl bf))] := hD
    obtain ⟨yx_42, ybd_43, yge_44⟩ := x_41
    refine lv_aload_n hx hb dX6_readRoom_39 rfl (lv_at hl 1 rfl) ?_
    refine lv_iconst (v := 0) hx hb dX6_readRoom_40 (by decide) ?_
    refine lv_bipush (v := 20) hx hb dX6_readRoom_41 (by decide) ?_
    refine wt_goI (wr := [(fr, .inl (cI, 45, .inl tf))]) (wt_runV (As := [.int 0, .int 20]) (rest := []) ⟨hx, hb, hml, hown, hts⟩ (c_X6_number l D cI cZ cH md bt tl ta2_35 bf md_f13_36 md_f14_37 md_f15_38 md_f16_39 md_f17_40 0 20 vm_0 vm_1 vm_2 vm_3 vm_4 vm_5 (.ref fr) vm_7 vm_8 vm_9 vm_18 vm_19 vm_20 vm_21 vm_22 vm_23 (by first | assumption | omega) (by first | assumption | omega) (by first | assumption | omega) (by first | assumption | omega) (by first | assumption | omega)) (cwV 2 hts gX6_readRoom_X6_number rfl rfl rfl (by decide +kernel) ⟨Nat.le_of_ble_eq_true rfl, Nat.le_of_ble_eq_true rfl⟩) hK hP hD [1, 2] rfl (by decide) (va_recv hK.1 hP (ci := 6) (q0 := 1) rfl rfl) rfl hl.1 rfl (Nat.le_of_ble_eq_true rfl) dX6_readRoom_43 ⟨Nat.le_of_ble_eq_true rfl, Nat.le_of_ble_eq_true rfl⟩) hP hD hS hA [1, 2] [0] rfl rfl (by decide) (by decide) (fun r_45 w_46 H locs h_47 hP hD hS => ?_)
    obtain ⟨ta2_48, md_f13_49, md_f14_50, md_f15_51, md_f16_52, md_f17_53, rfl, x_54⟩ := h_47
    have hP : va_P D vwCl [(fr, .inl (cI, 45, .inl tf)), (md, .inr (6, [vm_0, vm_1, vm_2, vm_3, vm_4, vm_5, .ref fr, vm_7, vm_8, vm_9, .ref bt, .int (nI tl), .int (nI ta2_48), .int md_f13_49, .int md_f14_50, .int md_f15_51, .int md_f16_52, .int md_f17_53, vm_18, vm_19, vm_20, vm_21, vm_22, vm_23])), (bt, .inl (cI, 120, .inl bf))] H := hP
    have hD : va_D A [(fr, .inl (cI, 45, .inl tf)), (md, .inr (6, [vm_0, vm_1, vm_2, vm_3, vm_4, vm_5, .ref fr, vm_7, vm_8, vm_9, .ref bt, .int (nI tl), .int (nI ta2_48), .int md_f13_49, .int md_f14_50, .int md_f15_51, .int md_f16_52, .int md_f17_53, vm_18, vm_19, vm_20, vm_21, vm_22, vm_23])), (bt, .inl (cI, 120, .inl bf))] := hD
    obtain ⟨⟨v_55, hv_55a, hv_55b, rfl⟩, yx_56, ybd_57, yge_58⟩ := x_54
    refine lv_istore_n (lv' := [(2, .int (nI v_55)), (1, .int (nI v_28)), (0, .ref md)]) hx hb dX6_readRoom_46 rfl hl (by decide) rfl (fun ls hl => ?_)
    refine lv_aload_n hx hb dX6_readRoom_47 rfl (lv_at hl 2 rfl) ?_
    refine lv_bipush (v := 59) hx hb dX6_readRoom_48 (by decide) ?_
    refine wt_goV (wr := [(fr, .inl (cI, 45, .inl tf))]) (wt_runV (As := [.int 59]) (rest := []) ⟨hx, hb, hml, hown, hts⟩ (c_X6_mustSign l D cI cZ cH md bt tl ta2_48 bf md_f13_49 md_f14_50 md_f15_51 md_f16_52 md_f17_53 59 vm_0 vm_1 vm_2 vm_3 vm_4 vm_5 (.ref fr) vm_7 vm_8 vm_9 vm_18 vm_19 vm_20 vm_21 vm_22 vm_23 (by first | assumption | omega) (by first | assumption | omega) (by first | assumption | omega)) (cwV 1 hts gX6_readRoom_X6_mustSign rfl rfl rfl (by decide +kernel) ⟨Nat.le_of_ble_eq_true rfl, Nat.le_of_ble_eq_true rfl⟩) hK hP hD [1, 2] rfl (by decide) (va_recv hK.1 hP (ci := 6) (q0 := 1) rfl rfl) rfl hl.1 rfl (Nat.le_of_ble_eq_true rfl) dX6_readRoom_50 ⟨Nat.le_of_ble_eq_true rfl, Nat.le_of_ble_eq_true rfl⟩) hP hD hS hA [1, 2] [0] rfl rfl (by decide) (by decide) (fun w_60 H locs h_61 hP hD hS => ?_)
    obtain ⟨ta2_62, md_f13_63, md_f14_64, md_f15_65, md_f16_66, md_f17_67, rfl, x_68⟩ := h_61
    have hP : va_P D vwCl [(fr, .inl (cI, 45, .inl tf)), (md, .inr (6, [vm_0, vm_1, vm_2, vm_3, vm_4, vm_5, .ref fr, vm_7, vm_8, vm_9, .ref bt, .int (nI tl), .int (nI ta2_62), .int md_f13_63, .int md_f14_64, .int md_f15_65, .int md_f16_66, .int md_f17_67, vm_18, vm_19, vm_20, vm_21, vm_22, vm_23])), (bt, .inl (cI, 120, .inl bf))] H := hP
    have hD : va_D A [(fr, .inl (cI, 45, .inl tf)), (md, .inr (6, [vm_0, vm_1, vm_2, vm_3, vm_4, vm_5, .ref fr, vm_7, vm_8, vm_9, .ref bt, .int (nI tl), .int (nI ta2_62), .int md_f13_63, .int md_f14_64, .int md_f15_65, .int md_f16_66, .int md_f17_67, vm_18, vm_19, vm_20, vm_21, vm_22, vm_23])), (bt, .inl (cI, 120, .inl bf))] := hD
    obtain ⟨yx_69, ybd_70, yge_71⟩ := x_68
    refine lv_aload_n hx hb dX6_readRoom_53 rfl (lv_at hl 2 rfl) ?_
    refine va_get (D := D) (ci := 6) (v := .int md_f16_66) (C := RX6) (T := TX6) (N := 24) hx hb hts hi6 hown hK.1 hP 1 rfl rfl 16 (by decide) wf78 (fun _ h9 => h9) rfl dX6_readRoom_54 ?_
    refine lv_if_ne (tgt := 104) hx hb dX6_readRoom_57 (by decide) (fun c_72 => ?_) (fun c_72 => ?_)
    · skip
      have hP9 := hP.sub (ws' := [(md, .inr (6, [vm_0, vm_1, vm_2, vm_3, vm_4, vm_5, .ref fr, vm_7, vm_8, vm_9, .ref bt, .int (nI tl), .int (nI ta2_62), .int md_f13_63, .int md_f14_64, .int md_f15_65, .int md_f16_66, .int md_f17_67, vm_18, vm_19, vm_20, vm_21, vm_22, vm_23])), (bt, .inl (cI, 120, .inl bf)), (fr, .inl (cI, 45, .inl tf))]) [1, 2, 0] rfl
      have hD9 := hD.sub (ws' := [(md, .inr (6, [vm_0, vm_1, vm_2, vm_3, vm_4, vm_5, .ref fr, vm_7, vm_8, vm_9, .ref bt, .int (nI tl), .int (nI ta2_62), .int md_f13_63, .int md_f14_64, .int md_f15_65, .int md_f16_66, .int md_f17_67, vm_18, vm_19, vm_20, vm_21, vm_22, vm_23])), (bt, .inl (cI, 120, .inl bf)), (fr, .inl (cI, 45, .inl tf))]) [1, 2, 0] (by decide) rfl
      exact wt_vret hx hb hr hlocks hP9 hD9 hS ⟨tf, ta2_62, md_f13_63, md_f14_64, md_f15_65, md_f16_66, md_f17_67, rfl, ⟨R, by omega, by omega, hrk, by omega, yge_71, fun h => absurd h c_72⟩⟩ dX6_readRoom_104
    · skip
      refine lv_aload_n hx hb dX6_readRoom_60 rfl (lv_at hl 2 rfl) ?_
      refine va_get (D := D) (ci := 6) (v := .ref fr) (C := RX6) (T := TX6) (N := 24) hx hb hts hi6 hown hK.1 hP 1 rfl rfl 6 (by decide) wf22 (fun _ h9 => h9) rfl dX6_readRoom_61 ?_
      refine lv_iconst (v := 5) hx hb dX6_readRoom_64 (by decide) ?_
      refine lv_iconst (v := 2) hx hb dX6_readRoom_65 (by decide) ?_
      refine lv_aload_n hx hb dX6_readRoom_66 rfl (lv_at hl 2 rfl) ?_
      refine va_get (D := D) (ci := 6) (v := .ref fr) (C := RX6) (T := TX6) (N := 24) hx hb hts hi6 hown hK.1 hP 1 rfl rfl 6 (by decide) wf22 (fun _ h9 => h9) rfl dX6_readRoom_67 ?_
      refine lv_iconst (v := 0) hx hb dX6_readRoom_70 (by decide) ?_
      refine va_iald hx hb hK.1 hP 0 0 rfl rfl (by rw [vp_in_iff]; decide) dX6_readRoom_71 ?_
      refine wt_top (z := nI R) (hrk.1) ?_
      refine lv_imul hx hb dX6_readRoom_72 ?_
      refine wt_top (z := nI (2 * R)) (pk_mul 2 R) ?_
      refine lv_iadd hx hb dX6_readRoom_73 ?_
      refine wt_top (z := nI (5 + (2 * R))) (nI_add 5 (2 * R)) ?_
      refine lv_iload_n hx hb dX6_readRoom_74 rfl (lv_at hl 1 rfl) ?_
      refine va_iast hx hb hK.1 hP hD hS 0 0 rfl rfl (vp_in_nI (by omega) (by omega)) dX6_readRoom_75 (fun H locs hP hD hS => ?_)
      have hP : va_P D vwCl [(fr, .inl (cI, 45, .inl (upd tf ((nI (5 + (2 * R))).toNatClampNeg) (nI v_28)))), (md, .inr (6, [vm_0, vm_1, vm_2, vm_3, vm_4, vm_5, .ref fr, vm_7, vm_8, vm_9, .ref bt, .int (nI tl), .int (nI ta2_62), .int md_f13_63, .int md_f14_64, .int md_f15_65, .int md_f16_66, .int md_f17_67, vm_18, vm_19, vm_20, vm_21, vm_22, vm_23])), (bt, .inl (cI, 120, .inl bf))] H := hP
      have hD : va_D A [(fr, .inl (cI, 45, .inl (upd tf ((nI (5 + (2 * R))).toNatClampNeg) (nI v_28)))), (md, .inr (6, [vm_0, vm_1, vm_2, vm_3, vm_4, vm_5, .ref fr, vm_7, vm_8, vm_9, .ref bt, .int (nI tl), .int (nI ta2_62), .int md_f13_63, .int md_f14_64, .int md_f15_65, .int md_f16_66, .int md_f17_67, vm_18, vm_19, vm_20, vm_21, vm_22, vm_23])), (bt, .inl (cI, 120, .inl bf))] := hD
      have rk_73 : rk R T (upd tf ((nI (5 + (2 * R))).toNatClampNeg) (nI v_28)) := rk_upd (k := (5 + (2 * R))) hrk (nI_clamp (by omega)) (by omega) _
      generalize upd tf ((nI (5 + (2 * R))).toNatClampNeg) (nI v_28) = rf_74 at hP hD rk_73
      refine lv_aload_n hx hb dX6_readRoom_76 rfl (lv_at hl 2 rfl) ?_
      refine va_get (D := D) (ci := 6) (v := .ref fr) (C := RX6) (T := TX6) (N := 24) hx hb hts hi6 hown hK.1 hP 1 rfl rfl 6 (by decide) wf22 (fun _ h9 => h9) rfl dX6_readRoom_77 ?_
      refine lv_iconst (v := 5) hx hb dX6_readRoom_80 (by decide) ?_
      refine lv_iconst (v := 2) hx hb dX6_readRoom_81 (by decide) ?_
      refine lv_aload_n hx hb dX6_readRoom_82 rfl (lv_at hl 2 rfl) ?_
      refine va_get (D := D) (ci := 6) (v := .ref fr) (C := RX6) (T := TX6) (N := 24) hx hb hts hi6 hown hK.1 hP 1 rfl rfl 6 (by decide) wf22 (fun _ h9 => h9) rfl dX6_readRoom_83 ?_
      refine lv_iconst (v := 0) hx hb dX6_readRoom_86 (by decide) ?_
      refine va_iald hx hb hK.1 hP 0 0 rfl rfl (by rw [vp_in_iff]; decide) dX6_readRoom_87 ?_
      refine wt_top (z := nI R) (rk_73.1) ?_
      refine lv_imul hx hb dX6_readRoom_88 ?_
      refine wt_top (z := nI (2 * R)) (pk_mul 2 R) ?_
      refine lv_iadd hx hb dX6_readRoom_89 ?_
      refine wt_top (z := nI (5 + (2 * R))) (nI_add 5 (2 * R)) ?_
      refine lv_iconst (v := 1) hx hb dX6_readRoom_90 (by decide) ?_
      refine lv_iadd hx hb dX6_readRoom_91 ?_
      refine wt_top (z := nI ((5 + (2 * R)) + 1)) (nI_add (5 + (2 * R)) 1) ?_
      refine lv_iload_n hx hb dX6_readRoom_92 rfl (lv_at hl 0 rfl) ?_
      refine va_iast hx hb hK.1 hP hD hS 0 0 rfl rfl (vp_in_nI (by omega) (by omega)) dX6_readRoom_93 (fun H locs hP hD hS => ?_)
      have hP : va_P D vwCl [(fr, .inl (cI, 45, .inl (upd rf_74 ((nI ((5 + (2 * R)) + 1)).toNatClampNeg) (nI v_55)))), (md, .inr (6, [vm_0, vm_1, vm_2, vm_3, vm_4, vm_5, .ref fr, vm_7, vm_8, vm_9, .ref bt, .int (nI tl), .int (nI ta2_62), .int md_f13_63, .int md_f14_64, .int md_f15_65, .int md_f16_66, .int md_f17_67, vm_18, vm_19, vm_20, vm_21, vm_22, vm_23])), (bt, .inl (cI, 120, .inl bf))] H := hP
      have hD : va_D A [(fr, .inl (cI, 45, .inl (upd rf_74 ((nI ((5 + (2 * R)) + 1)).toNatClampNeg) (nI v_55)))), (md, .inr (6, [vm_0, vm_1, vm_2, vm_3, vm_4, vm_5, .ref fr, vm_7, vm_8, vm_9, .ref bt, .int (nI tl), .int (nI ta2_62), .int md_f13_63, .int md_f14_64, .int md_f15_65, .int md_f16_66, .int md_f17_67, vm_18, vm_19, vm_20, vm_21, vm_22, vm_23])), (bt, .inl (cI, 120, .inl bf))] := hD
      have rk_75 : rk R T (upd rf_74 ((nI ((5 + (2 * R)) + 1)).toNatClampNeg) (nI v_55)) := rk_upd (k := ((5 + (2 * R)) + 1)) rk_73 (nI_clamp (by omega)) (by omega) _
      generalize upd rf_74 ((nI ((5 + (2 * R)) + 1)).toNatClampNeg) (nI v_55) = rf_76 at hP hD rk_75
      refine lv_aload_n hx hb dX6_readRoom_94 rfl (lv_at hl 2 rfl) ?_
      refine va_get (D := D) (ci := 6) (v := .ref fr) (C := RX6) (T := TX6) (N := 24) hx hb hts hi6 hown hK.1 hP 1 rfl rfl 6 (by decide) wf22 (fun _ h9 => h9) rfl dX6_readRoom_95 ?_
      refine lv_iconst (v := 0) hx hb dX6_readRoom_98 (by decide) ?_
      refine lv_dup2_11 hx hb dX6_readRoom_99 rfl rfl ?_
      refine va_iald hx hb hK.1 hP 0 0 rfl rfl (by rw [vp_in_iff]; decide) dX6_readRoom_100 ?_
      refine wt_top (z := nI R) (rk_75.1) ?_
      refine lv_iconst (v := 1) hx hb dX6_readRoom_101 (by decide) ?_
      refine lv_iadd hx hb dX6_readRoom_102 ?_
      refine wt_top (z := nI (R + 1)) (nI_add R 1) ?_
      refine va_iast hx hb hK.1 hP hD hS 0 0 rfl rfl (by rw [vp_in_iff]; decide) dX6_readRoom_103 (fun H locs hP hD hS => ?_)
      have hP : va_P D vwCl [(fr, .inl (cI, 45, .inl (upd rf_76 (Int32.toNatClampNeg 0) (nI (R + 1))))), (md, .inr (6, [vm_0, vm_1, vm_2, vm_3, vm_4, vm_5, .ref fr, vm_7, vm_8, vm_9, .ref bt, .int (nI tl), .int (nI ta2_62), .int md_f13_63, .int md_f14_64, .int md_f15_65, .int md_f16_66, .int md_f17_67, vm_18, vm_19, vm_20, vm_21, vm_22, vm_23])), (bt, .inl (cI, 120, .inl bf))] H := hP
      have hD : va_D A [(fr, .inl (cI, 45, .inl (upd rf_76 (Int32.toNatClampNeg 0) (nI (R + 1))))), (md, .inr (6, [vm_0, vm_1, vm_2, vm_3, vm_4, vm_5, .ref fr, vm_7, vm_8, vm_9, .ref bt, .int (nI tl), .int (nI ta2_62), .int md_f13_63, .int md_f14_64, .int md_f15_65, .int md_f16_66, .int md_f17_67, vm_18, vm_19, vm_20, vm_21, vm_22, vm_23])), (bt, .inl (cI, 120, .inl bf))] := hD
      have rk_77 : rk (R + 1) T (upd rf_76 (Int32.toNatClampNeg 0) (nI (R + 1))) := rk_room rk_75
      generalize upd rf_76 (Int32.toNatClampNeg 0) (nI (R + 1)) = rf_78 at hP hD rk_77
      have hP9 := hP.sub (ws' := [(md, .inr (6, [vm_0, vm_1, vm_2, vm_3, vm_4, vm_5, .ref fr, vm_7, vm_8, vm_9, .ref bt, .int (nI tl), .int (nI ta2_62), .int md_f13_63, .int md_f14_64, .int md_f15_65, .int md_f16_66, .int md_f17_67, vm_18, vm_19, vm_20, vm_21, vm_22, vm_23])), (bt, .inl (cI, 120, .inl bf)), (fr, .inl (cI, 45, .inl rf_78))]) [1, 2, 0] rfl
      have hD9 := hD.sub (ws' := [(md, .inr (6, [vm_0, vm_1, vm_2, vm_3, vm_4, vm_5, .ref fr, vm_7, vm_8, vm_9, .ref bt, .int (nI tl), .int (nI ta2_62), .int md_f13_63, .int md_f14_64, .int md_f15_65, .int md_f16_66, .int md_f17_67, vm_18, vm_19, vm_20, vm_21, vm_22, vm_23])), (bt, .inl (cI, 120, .inl bf)), (fr, .inl (cI, 45, .inl rf_78))]) [1, 2, 0] (by decide) rfl
      exact wt_vret hx hb hr hlocks hP9 hD9 hS ⟨rf_78, ta2_62, md_f13_63, md_f14_64, md_f15_65, md_f16_66, md_f17_67, rfl, ⟨(R + 1), by omega, by omega, rk_77, by omega, yge_71, fun _ => rfl⟩⟩ dX6_readRoom_104
  · skip
    have c_1 : R = 5 := (nI_eq (a := R) (b := 5) (by omega) (by omega)).mp c_1
    refine lv_aload_n hx hb dX6_readRoom_10 rfl (lv_at hl 0 rfl) ?_
    refine lv_iconst (v := 3) hx hb dX6_readRoom_11 (by decide) ?_
    refine wt_goV (wr := [(bt, .inl (cI, 120, .inl bf)), (fr, .inl (cI, 45, .inl tf))]) (wt_runV (As := [.int 3]) (rest := []) ⟨hx, hb, hml, hown, hts⟩ (c_X6_bad l D cI cZ cH md s13 bd s17 3 vm_0 vm_1 vm_2 vm_3 vm_4 vm_5 (.ref fr) vm_7 vm_8 vm_9 (.ref bt) (.int (nI tl)) (.int (nI ta)) (.int s14) (.int s15) vm_18 vm_19 vm_20 vm_21 vm_22 vm_23 (by first | assumption | omega) (by decide)) (cwV 1 hts gX6_readRoom_X6_bad rfl rfl rfl (by decide +kernel) ⟨Nat.le_of_ble_eq_true rfl, Nat.le_of_ble_eq_true rfl⟩) hK hP hD [0] rfl (by decide) (va_recv hK.1 hP (ci := 6) (q0 := 0) rfl rfl) rfl hl.1 rfl (Nat.le_of_ble_eq_true rfl) dX6_readRoom_12 ⟨Nat.le_of_ble_eq_true rfl, Nat.le_of_ble_eq_true rfl⟩) hP hD hS hA [0] [1, 2] rfl rfl (by decide) (by decide) (fun w_80 H locs h_81 hP hD hS => ?_)
    obtain ⟨md_f16_82, md_f17_83, rfl, x_84⟩ := h_81
    have hP : va_P D vwCl [(bt, .inl (cI, 120, .inl bf)), (fr, .inl (cI, 45, .inl tf)), (md, .inr (6, [vm_0, vm_1, vm_2, vm_3, vm_4, vm_5, .ref fr, vm_7, vm_8, vm_9, .ref bt, .int (nI tl), .int (nI ta), .int s13, .int s14, .int s15, .int md_f16_82, .int md_f17_83, vm_18, vm_19, vm_20, vm_21, vm_22, vm_23]))] H := hP
    have hD : va_D A [(bt, .inl (cI, 120, .inl bf)), (fr, .inl (cI, 45, .inl tf)), (md, .inr (6, [vm_0, vm_1, vm_2, vm_3, vm_4, vm_5, .ref fr, vm_7, vm_8, vm_9, .ref bt, .int (nI tl), .int (nI ta), .int s13, .int s14, .int s15, .int md_f16_82, .int md_f17_83, vm_18, vm_19, vm_20, vm_21, vm_22, vm_23]))] := hD
    obtain ⟨yk0_85, ybd_86, yge_87⟩ := x_84
    have hbd_88 : ¬ md_f16_82 = 0 := yk0_85 (by decide)
    refine lv_aload_n hx hb dX6_readRoom_15 rfl (lv_at hl 0 rfl) ?_
    refine lv_aload_n hx hb dX6_readRoom_16 rfl (lv_at hl 0 rfl) ?_
    refine lv_bipush (v := 109) hx hb dX6_readRoom_17 (by decide) ?_
    refine wt_rV (As := [.int 109]) (rest := [.ref md]) ⟨hx, hb, hml, hown, hts⟩ (c_X6_isLetter l D cI cZ cH md s14 s15 md_f16_82 109 vm_0 vm_1 vm_2 vm_3 vm_4 vm_5 (.ref fr) vm_7 vm_8 vm_9 (.ref bt) (.int (nI tl)) (.int (nI ta)) (.int s13) (.int md_f17_83) vm_18 vm_19 vm_20 vm_21 vm_22 vm_23) (cwV 1 hts gX6_readRoom_X6_isLetter rfl rfl rfl (by decide +kernel) ⟨Nat.le_of_ble_eq_true rfl, Nat.le_of_ble_eq_true rfl⟩) hK hP [2] rfl (va_recv hK.1 hP (ci := 6) (q0 := 2) rfl rfl) rfl hl.1 rfl (Nat.le_of_ble_eq_true rfl) dX6_readRoom_19 ⟨Nat.le_of_ble_eq_true rfl, Nat.le_of_ble_eq_true rfl⟩ (fun r_89 e_90 => ?_)
    subst e_90
    refine wt_goV (wr := [(fr, .inl (cI, 45, .inl tf))]) (wt_runV (As := [.int (lB md_f16_82 s14 s15 109)]) (rest := []) ⟨hx, hb, hml, hown, hts⟩ (c_X6_must l D cI cZ cH md bt tl ta bf s13 s14 s15 md_f16_82 md_f17_83 (lB md_f16_82 s14 s15 109) vm_0 vm_1 vm_2 vm_3 vm_4 vm_5 (.ref fr) vm_7 vm_8 vm_9 vm_18 vm_19 vm_20 vm_21 vm_22 vm_23 (by first | assumption | omega) (by first | assumption | omega) (by first | assumption | omega)) (cwV 1 hts gX6_readRoom_X6_must rfl rfl rfl (by decide +kernel) ⟨Nat.le_of_ble_eq_true rfl, Nat.le_of_ble_eq_true rfl⟩) hK hP hD [2, 0] rfl (by decide) (va_recv hK.1 hP (ci := 6) (q0 := 2) rfl rfl) rfl hl.1 rfl (Nat.le_of_ble_eq_true rfl) dX6_readRoom_22 ⟨Nat.le_of_ble_eq_true rfl, Nat.le_of_ble_eq_true rfl⟩) hP hD hS hA [2, 0] [1] rfl rfl (by decide) (by decide) (fun w_92 H locs h_93 hP hD hS => ?_)
    obtain ⟨ta2_94, md_f13_95, md_f14_96, md_f15_97, md_f16_98, md_f17_99, rfl, x_100⟩ := h_93
    have hP : va_P D vwCl [(fr, .inl (cI, 45, .inl tf)), (md, .inr (6, [vm_0, vm_1, vm_2, vm_3, vm_4, vm_5, .ref fr, vm_7, vm_8, vm_9, .ref bt, .int (nI tl), .int (nI ta2_94), .int md_f13_95, .int md_f14_96, .int md_f15_97, .int md_f16_98, .int md_f17_99, vm_18, vm_19, vm_20, vm_21, vm_22, vm_23])), (bt, .inl (cI, 120, .inl bf))] H := hP
    have hD : va_D A [(fr, .inl (cI, 45, .inl tf)), (md, .inr (6, [vm_0, vm_1, vm_2, vm_3, vm_4, vm_5, .ref fr, vm_7, vm_8, vm_9, .ref bt, .int (nI tl), .int (nI ta2_94), .int md_f13_95, .int md_f14_96, .int md_f15_97, .int md_f16_98, .int md_f17_99, vm_18, vm_19, vm_20, vm_21, vm_22, vm_23])), (bt, .inl (cI, 120, .inl bf))] := hD
    obtain ⟨yx_101, ybd_102, yk0_103, yge_104⟩ := x_100
    have hbd_105 : ¬ md_f16_98 = 0 := ybd_102 hbd_88
    refine lv_aload_n hx hb dX6_readRoom_25 rfl (lv_at hl 0 rfl) ?_
    refine lv_iconst (v := 0) hx hb dX6_readRoom_26 (by decide) ?_
    refine lv_bipush (v := 99) hx hb dX6_readRoom_27 (by decide) ?_
    refine wt_goI (wr := [(fr, .inl (cI, 45, .inl tf))]) (wt_runV (As := [.int 0, .int 99]) (rest := []) ⟨hx, hb, hml, hown, hts⟩ (c_X6_number l D cI cZ cH md bt tl ta2_94 bf md_f13_95 md_f14_96 md_f15_97 md_f16_98 md_f17_99 0 99 vm_0 vm_1 vm_2 vm_3 vm_4 vm_5 (.ref fr) vm_7 vm_8 vm_9 vm_18 vm_19 vm_20 vm_21 vm_22 vm_23 (by first | assumption | omega) (by first | assumption | omega) (by first | assumption | omega) (by first | assumption | omega) (by first | assumption | omega)) (cwV 2 hts gX6_readRoom_X6_number rfl rfl rfl (by decide +kernel) ⟨Nat.le_of_ble_eq_true rfl, Nat.le_of_ble_eq_true rfl⟩) hK hP hD [1, 2] rfl (by decide) (va_recv hK.1 hP (ci := 6) (q0 := 1) rfl rfl) rfl hl.1 rfl (Nat.le_of_ble_eq_true rfl) dX6_readRoom_29 ⟨Nat.le_of_ble_eq_true rfl, Nat.le_of_ble_eq_true rfl⟩) hP hD hS hA [1, 2] [0] rfl rfl (by decide) (by decide) (fun r_106 w_107 H locs h_108 hP hD hS => ?_)
    obtain ⟨ta2_109, md_f13_110, md_f14_111, md_f15_112, md_f16_113, md_f17_114, rfl, x_115⟩ := h_108
    have hP : va_P D vwCl [(fr, .inl (cI, 45, .inl tf)), (md, .inr (6, [vm_0, vm_1, vm_2, vm_3, vm_4, vm_5, .ref fr, vm_7, vm_8, vm_9, .ref bt, .int (nI tl), .int (nI ta2_109), .int md_f13_110, .int md_f14_111, .int md_f15_112, .int md_f16_113, .int md_f17_114, vm_18, vm_19, vm_20, vm_21, vm_22, vm_23])), (bt, .inl (cI, 120, .inl bf))] H := hP
    have hD : va_D A [(fr, .inl (cI, 45, .inl tf)), (md, .inr (6, [vm_0, vm_1, vm_2, vm_3, vm_4, vm_5, .ref fr, vm_7, vm_8, vm_9, .ref bt, .int (nI tl), .int (nI ta2_109), .int md_f13_110, .int md_f14_111, .int md_f15_112, .int md_f16_113, .int md_f17_114, vm_18, vm_19, vm_20, vm_21, vm_22, vm_23])), (bt, .inl (cI, 120, .inl bf))] := hD
    obtain ⟨⟨v_116, hv_116a, hv_116b, rfl⟩, yx_117, ybd_118, yge_119⟩ := x_115
    have hbd_120 : ¬ md_f16_113 = 0 := ybd_118 hbd_105
    refine lv_istore_n (lv' := [(1, .int (nI v_116)), (0, .ref md)]) hx hb dX6_readRoom_32 rfl hl (by decide) rfl (fun ls hl => ?_)
    refine lv_aload_n hx hb dX6_readRoom_33 rfl (lv_at hl 1 rfl) ?_
    refine lv_bipush (v := 44) hx hb dX6_readRoom_34 (by decide) ?_
    refine wt_goV (wr := [(fr, .inl (cI, 45, .inl tf))]) (wt_runV (As := [.int 44]) (rest := []) ⟨hx, hb, hml, hown, hts⟩ (c_X6_mustSign l D cI cZ cH md bt tl ta2_109 bf md_f13_110 md_f14_111 md_f15_112 md_f16_113 md_f17_114 44 vm_0 vm_1 vm_2 vm_3 vm_4 vm_5 (.ref fr) vm_7 vm_8 vm_9 vm_18 vm_19 vm_20 vm_21 vm_22 vm_23 (by first | assumption | omega) (by first | assumption | omega) (by first | assumption | omega)) (cwV 1 hts gX6_readRoom_X6_mustSign rfl rfl rfl (by decide +kernel) ⟨Nat.le_of_ble_eq_true rfl, Nat.le_of_ble_eq_true rfl⟩) hK hP hD [1, 2] rfl (by decide) (va_recv hK.1 hP (ci := 6) (q0 := 1) rfl rfl) rfl hl.1 rfl (Nat.le_of_ble_eq_true rfl) dX6_readRoom_36 ⟨Nat.le_of_ble_eq_true rfl, Nat.le_of_ble_eq_true rfl⟩) hP hD hS hA [1, 2] [0] rfl rfl (by decide) (by decide) (fun w_122 H locs h_123 hP hD hS => ?_)
    obtain ⟨ta2_124, md_f13_125, md_f14_126, md_f15_127, md_f16_128, md_f17_129, rfl, x_130⟩ := h_123
    have hP : va_P D vwCl [(fr, .inl (cI, 45, .inl tf)), (md, .inr (6, [vm_0, vm_1, vm_2, vm_3, vm_4, vm_5, .ref fr, vm_7, vm_8, vm_9, .ref bt, .int (nI tl), .int (nI ta2_124), .int md_f13_125, .int md_f14_126, .int md_f15_127, .int md_f16_128, .int md_f17_129, vm_18, vm_19, vm_20, vm_21, vm_22, vm_23])), (bt, .inl (cI, 120, .inl bf))] H := hP
    have hD : va_D A [(fr, .inl (cI, 45, .inl tf)), (md, .inr (6, [vm_0, vm_1, vm_2, vm_3, vm_4, vm_5, .ref fr, vm_7, vm_8, vm_9, .ref bt, .int (nI tl), .int (nI ta2_124), .int md_f13_125, .int md_f14_126, .int md_f15_127, .int md_f16_128, .int md_f17_129, vm_18, vm_19, vm_20, vm_21, vm_22, vm_23])), (bt, .inl (cI, 120, .inl bf))] := hD
    obtain ⟨yx_131, ybd_132, yge_133⟩ := x_130
    have hbd_134 : ¬ md_f16_128 = 0 := ybd_132 hbd_120
    refine lv_aload_n hx hb dX6_readRoom_39 rfl (lv_at hl 1 rfl) ?_
    refine lv_iconst (v := 0) hx hb dX6_readRoom_40 (by decide) ?_
    refine lv_bipush (v := 20) hx hb dX6_readRoom_41 (by decide) ?_
    refine wt_goI (wr := [(fr, .inl (cI, 45, .inl tf))]) (wt_runV (As := [.int 0, .int 20]) (rest := []) ⟨hx, hb, hml, hown, hts⟩ (c_X6_number l D cI cZ cH md bt tl ta2_124 bf md_f13_125 md_f14_126 md_f15_127 md_f16_128 md_f17_129 0 20 vm_0 vm_1 vm_2 vm_3 vm_4 vm_5 (.ref fr) vm_7 vm_8 vm_9 vm_18 vm_19 vm_20 vm_21 vm_22 vm_23 (by first | assumption | omega) (by first | assumption | omega) (by first | assumption | omega) (by first | assumption | omega) (by first | assumption | omega)) (cwV 2 hts gX6_readRoom_X6_number rfl rfl rfl (by decide +kernel) ⟨Nat.le_of_ble_eq_true rfl, Nat.le_of_ble_eq_true rfl⟩) hK hP hD [1, 2] rfl (by decide) (va_recv hK.1 hP (ci := 6) (q0 := 1) rfl rfl) rfl hl.1 rfl (Nat.le_of_ble_eq_true rfl) dX6_readRoom_43 ⟨Nat.le_of_ble_eq_true rfl, Nat.le_of_ble_eq_true rfl⟩) hP hD hS hA [1, 2] [0] rfl rfl (by decide) (by decide) (fun r_135 w_136 H locs h_137 hP hD hS => ?_)
    obtain ⟨ta2_138, md_f13_139, md_f14_140, md_f15_141, md_f16_142, md_f17_143, rfl, x_144⟩ := h_137
    have hP : va_P D vwCl [(fr, .inl (cI, 45, .inl tf)), (md, .inr (6, [vm_0, vm_1, vm_2, vm_3, vm_4, vm_5, .ref fr, vm_7, vm_8, vm_9, .ref bt, .int (nI tl), .int (nI ta2_138), .int md_f13_139, .int md_f14_140, .int md_f15_141, .int md_f16_142, .int md_f17_143, vm_18, vm_19, vm_20, vm_21, vm_22, vm_23])), (bt, .inl (cI, 120, .inl bf))] H := hP
    have hD : va_D A [(fr, .inl (cI, 45, .inl tf)), (md, .inr (6, [vm_0, vm_1, vm_2, vm_3, vm_4, vm_5, .ref fr, vm_7, vm_8, vm_9, .ref bt, .int (nI tl), .int (nI ta2_138), .int md_f13_139, .int md_f14_140, .int md_f15_141, .int md_f16_142, .int md_f17_143, vm_18, vm_19, vm_20, vm_21, vm_22, vm_23])), (bt, .inl (cI, 120, .inl bf))] := hD
    obtain ⟨⟨v_145, hv_145a, hv_145b, rfl⟩, yx_146, ybd_147, yge_148⟩ := x_144
    have hbd_149 : ¬ md_f16_142 = 0 := ybd_147 hbd_134
    refine lv_istore_n (lv' := [(2, .int (nI v_145)), (1, .int (nI v_116)), (0, .ref md)]) hx hb dX6_readRoom_46 rfl hl (by decide) rfl (fun ls hl => ?_)
    refine lv_aload_n hx hb dX6_readRoom_47 rfl (lv_at hl 2 rfl) ?_
    refine lv_bipush (v := 59) hx hb dX6_readRoom_48 (by decide) ?_
    refine wt_goV (wr := [(fr, .inl (cI, 45, .inl tf))]) (wt_runV (As := [.int 59]) (rest := []) ⟨hx, hb, hml, hown, hts⟩ (c_X6_mustSign l D cI cZ cH md bt tl ta2_138 bf md_f13_139 md_f14_140 md_f15_141 md_f16_142 md_f17_143 59 vm_0 vm_1 vm_2 vm_3 vm_4 vm_5 (.ref fr) vm_7 vm_8 vm_9 vm_18 vm_19 vm_20 vm_21 vm_22 vm_23 (by first | assumption | omega) (by first | assumption | omega) (by first | assumption | omega)) (cwV 1 hts gX6_readRoom_X6_mustSign rfl rfl rfl (by decide +kernel) ⟨Nat.le_of_ble_eq_true rfl, Nat.le_of_ble_eq_true rfl⟩) hK hP hD [1, 2] rfl (by decide) (va_recv hK.1 hP (ci := 6) (q0 := 1) rfl rfl) rfl hl.1 rfl (Nat.le_of_ble_eq_true rfl) dX6_readRoom_50 ⟨Nat.le_of_ble_eq_true rfl, Nat.le_of_ble_eq_true rfl⟩) hP hD hS hA [1, 2] [0] rfl rfl (by decide) (by decide) (fun w_151 H locs h_152 hP hD hS => ?_)
    obtain ⟨ta2_153, md_f13_154, md_f14_155, md_f15_156, md_f16_157, md_f17_158, rfl, x_159⟩ := h_152
    have hP : va_P D vwCl [(fr, .inl (cI, 45, .inl tf)), (md, .inr (6, [vm_0, vm_1, vm_2, vm_3, vm_4, vm_5, .ref fr, vm_7, vm_8, vm_9, .ref bt, .int (nI tl), .int (nI ta2_153), .int md_f13_154, .int md_f14_155, .int md_f15_156, .int md_f16_157, .int md_f17_158, vm_18, vm_19, vm_20, vm_21, vm_22, vm_23])), (bt, .inl (cI, 120, .inl bf))] H := hP
    have hD : va_D A [(fr, .inl (cI, 45, .inl tf)), (md, .inr (6, [vm_0, vm_1, vm_2, vm_3, vm_4, vm_5, .ref fr, vm_7, vm_8, vm_9, .ref bt, .int (nI tl), .int (nI ta2_153), .int md_f13_154, .int md_f14_155, .int md_f15_156, .int md_f16_157, .int md_f17_158, vm_18, vm_19, vm_20, vm_21, vm_22, vm_23])), (bt, .inl (cI, 120, .inl bf))] := hD
    obtain ⟨yx_160, ybd_161, yge_162⟩ := x_159
    have hbd_163 : ¬ md_f16_157 = 0 := ybd_161 hbd_149
    refine lv_aload_n hx hb dX6_readRoom_53 rfl (lv_at hl 2 rfl) ?_
    refine va_get (D := D) (ci := 6) (v := .int md_f16_157) (C := RX6) (T := TX6) (N := 24) hx hb hts hi6 hown hK.1 hP 1 rfl rfl 16 (by decide) wf78 (fun _ h9 => h9) rfl dX6_readRoom_54 ?_
    refine lv_if_ne (tgt := 104) hx hb dX6_readRoom_57 (by decide) (fun _ => ?_) (fun h => absurd h hbd_163)
    have hP9 := hP.sub (ws' := [(md, .inr (6, [vm_0, vm_1, vm_2, vm_3, vm_4, vm_5, .ref fr, vm_7, vm_8, vm_9, .ref bt, .int (nI tl), .int (nI ta2_153), .int md_f13_154, .int md_f14_155, .int md_f15_156, .int md_f16_157, .int md_f17_158, vm_18, vm_19, vm_20, vm_21, vm_22, vm_23])), (bt, .inl (cI, 120, .inl bf)), (fr, .inl (cI, 45, .inl tf))]) [1, 2, 0] rfl
    have hD9 := hD.sub (ws' := [(md, .inr (6, [vm_0, vm_1, vm_2, vm_3, vm_4, vm_5, .ref fr, vm_7, vm_8, vm_9, .ref bt, .int (nI tl), .int (nI ta2_153), .int md_f13_154, .int md_f14_155, .int md_f15_156, .int md_f16_157, .int md_f17_158, vm_18, vm_19, vm_20, vm_21, vm_22, vm_23])), (bt, .inl (cI, 120, .inl bf)), (fr, .inl (cI, 45, .inl tf))]) [1, 2, 0] (by decide) rfl
    exact wt_vret hx hb hr hlocks hP9 hD9 hS ⟨tf, ta2_153, md_f13_154, md_f14_155, md_f15_156, md_f16_157, md_f17_158, rfl, ⟨R, by omega, by omega, hrk, by omega, yge_162, fun h => absurd h hbd_163⟩⟩ dX6_readRoom_104
set_option maxHeartbeats 4000000 in
set_option maxRecDepth 100000 in
theorem c_X6_readTube (l : Launch) (D : va_G) (cI cZ cH : ClassId) (md bt : Nat) (tl ta : Nat) (bf : Nat → Int32) (s13 s14 s15 bd s17 : Int32) (fr : Nat) (R T : Nat) (tf : Nat → Int32) (vm_0 vm_1 vm_2 vm_3 vm_4 vm_5 vm_7 vm_8 vm_9 vm_18 vm_19 vm_20 vm_21 vm_22 vm_23 : Value) (htl : tl ≤ 120) (hta : ta ≤ tl) (hb0 : 0 ≤ bd) (hR5 : R ≤ 5) (hT6 : T ≤ 6) (hrk : rk R T tf) : wt_M l yX6_readTube wsX6_readTube ({ frames := 4, cells := 0, slots := 0, locals := 89 } : Room) D (wt_T cI cZ cH) [.ref md] [(md, .inr (6, [vm_0, vm_1, vm_2, vm_3, vm_4, vm_5, .ref fr, vm_7, vm_8, vm_9, .ref bt, .int (nI tl), .int (nI ta), .int s13, .int s14, .int s15, .int bd, .int s17, vm_18, vm_19, vm_20, vm_21, vm_22, vm_23])), (bt, .inl (cI, 120, .inl bf)), (fr, .inl (cI, 45, .inl tf))] (wt_QV D (fun w => ∃ (tf2 : Nat → Int32) (ta2 : Nat) (md_f13 md_f14 md_f15 md_f16 md_f17 : Int32), w = [(md, .inr (6, [vm_0, vm_1, vm_2, vm_3, vm_4, vm_5, .ref fr, vm_7, vm_8, vm_9, .ref bt, .int (nI tl), .int (nI ta2), .int md_f13, .int md_f14, .int md_f15, .int md_f16, .int md_f17, vm_18, vm_19, vm_20, vm_21, vm_22, vm_23])), (bt, .inl (cI, 120, .inl bf)), (fr, .inl (cI, 45, .inl tf2))] ∧ ∃ T2 : Nat, T2 ≤ 6 ∧ T ≤ T2 ∧ rk R T2 tf2 ∧ ta2 ≤ tl ∧ 0 ≤ md_f16 ∧ (md_f16 = 0 → T2 = T + 1))) := by
  refine wt_M.ofW (cc := cX6_readTube) (maxL := 6) (ret := none) (by decide) rfl (Nat.le_of_ble_eq_true rfl) ?_
  intro p e s m below meth c A ls hx hb hr hts hown hlocks hml hnm hP hK hD hA hS hl
  have hP : va_P D vwCl [(md, .inr (6, [vm_0, vm_1, vm_2, vm_3, vm_4, vm_5, .ref fr, vm_7, vm_8, vm_9, .ref bt, .int (nI tl), .int (nI ta), .int s13, .int s14, .int s15, .int bd, .int s17, vm_18, vm_19, vm_20, vm_21, vm_22, vm_23])), (bt, .inl (cI, 120, .inl bf)), (fr, .inl (cI, 45, .inl tf))] s.heap := hP
  have hown : s.vm.findClass RX6 = some m.cls := hown
  have hl : lv_has ls 6 [(0, .ref md)] := hl
  have hi6 : ∀ w ∈ u_ws RX6 TX6 24, w ∈ wsX6_readTube := by decide +kernel
  have wf22 := hts (.fieldLink RX6 22 "WarmTubesModel" "fresh" "[I") (by decide +kernel)
  have wf78 := hts (.fieldLink RX6 78 "WarmTubesModel" "fault" "I") (by decide +kernel)
  have wf91 := hts (.fieldLink RX6 91 "WarmTubesModel" "value" "I") (by decide +kernel)
  refine lv_aload_n hx hb dX6_readTube_0 rfl (lv_at hl 0 rfl) ?_
  refine va_get (D := D) (ci := 6) (v := .int s15) (C := RX6) (T := TX6) (N := 24) hx hb hts hi6 hown hK.1 hP 0 rfl rfl 15 (by decide) wf91 (fun _ h9 => h9) rfl dX6_readTube_1 ?_
  refine wt_rS (As := [.int s15]) (rest := []) ⟨hx, hb, hml, hown, hts⟩ (c_X6_kindBy l D cI cZ cH s15) (va_cwS 1 hts gX6_readTube_X6_kindBy rfl rfl rfl (by decide +kernel) ⟨Nat.le_of_ble_eq_true rfl, Nat.le_of_ble_eq_true rfl⟩) hK hP [] rfl rfl hl.1 rfl (Nat.le_of_ble_eq_true rfl) dX6_readTube_4 ⟨Nat.le_of_ble_eq_true rfl, Nat.le_of_ble_eq_true rfl⟩ (fun r_1 e_2 => ?_)
  subst e_2
  refine lv_istore_n (lv' := [(1, .int (kB s15)), (0, .ref md)]) hx hb dX6_readTube_7 rfl hl (by decide) rfl (fun ls hl => ?_)
  refine lv_aload_n hx hb dX6_readTube_8 rfl (lv_at hl 1 rfl) ?_
  refine va_get (D := D) (ci := 6) (v := .ref fr) (C := RX6) (T := TX6) (N := 24) hx hb hts hi6 hown hK.1 hP 0 rfl rfl 6 (by decide) wf22 (fun _ h9 => h9) rfl dX6_readTube_9 ?_
  refine lv_iconst (v := 1) hx hb dX6_readTube_12 (by decide) ?_
  refine va_iald hx hb hK.1 hP 2 0 rfl rfl (by rw [vp_in_iff]; decide) dX6_readTube_13 ?_
  refine wt_top (z := nI T) (hrk.2.1) ?_
  refine lv_bipush (v := 6) hx hb dX6_readTube_14 (by decide) ?_
  refine lv_icmp_ne (tgt := 24) hx hb dX6_readTube_16 (by decide) (fun c_3 => ?_) (fun c_3 => ?_)
  · skip
    have c_3 : ¬ (T = 6) := fun h => c_3 ((nI_eq (a := T) (b := 6) (by omega) (by omega)).mpr h)
    refine lv_aload_n hx hb dX6_readTube_24 rfl (lv_at hl 1 rfl) ?_
    refine lv_iconst (v := 1) hx hb dX6_readTube_25 (by decide) ?_
    refine wt_goV (wr := [(fr, .inl (cI, 45, .inl tf))]) (wt_runV (As := [.int 1]) (rest := []) ⟨hx, hb, hml, hown, hts⟩ (c_X6_must l D cI cZ cH md bt tl ta bf s13 s14 s15 bd s17 1 vm_0 vm_1 vm_2 vm_3 vm_4 vm_5 (.ref fr) vm_7 vm_8 vm_9 vm_18 vm_19 vm_20 vm_21 vm_22 vm_23 (by first | assumption | omega) (by first | assumption | omega) (by first | assumption | omega)) (cwV 1 hts gX6_readTube_X6_must rfl rfl rfl (by decide +kernel) ⟨Nat.le_of_ble_eq_true rfl, Nat.le_of_ble_eq_true rfl⟩) hK hP hD [0, 1] rfl (by decide) (va_recv hK.1 hP (ci := 6) (q0 := 0) rfl rfl) rfl hl.1 rfl (Nat.le_of_ble_eq_true rfl) dX6_readTube_26 ⟨Nat.le_of_ble_eq_true rfl, Nat.le_of_ble_eq_true rfl⟩) hP hD hS hA [0, 1] [2] rfl rfl (by decide) (by decide) (fun w_5 H locs h_6 hP hD hS => ?_)
    obtain ⟨ta2_7, md_f13_8, md_f14_9, md_f15_10, md_f16_11, md_f17_12, rfl, x_13⟩ := h_6
    have hP : va_P D vwCl [(fr, .inl (cI, 45, .inl tf)), (md, .inr (6, [vm_0, vm_1, vm_2, vm_3, vm_4, vm_5, .ref fr, vm_7, vm_8, vm_9, .ref bt, .int (nI tl), .int (nI ta2_7), .int md_f13_8, .int md_f14_9, .int md_f15_10, .int md_f16_11, .int md_f17_12, vm_18, vm_19, vm_20, vm_21, vm_22, vm_23])), (bt, .inl (cI, 120, .inl bf))] H := hP
    have hD : va_D A [(fr, .inl (cI, 45, .inl tf)), (md, .inr (6, [vm_0, vm_1, vm_2, vm_3, vm_4, vm_5, .ref fr, vm_7, vm_8, vm_9, .ref bt, .int (nI tl), .int (nI ta2_7), .int md_f13_8, .int md_f14_9, .int md_f15_10, .int md_f16_11, .int md_f17_12, vm_18, vm_19, vm_20, vm_21, vm_22, vm_23])), (bt, .inl (cI, 120, .inl bf))] := hD
    obtain ⟨yx_14, ybd_15, yk0_16, yge_17⟩ := x_13
    refine lv_aload_n hx hb dX6_readTube_29 rfl (lv_at hl 1 rfl) ?_
    refine lv_iconst (v := 0) hx hb dX6_readTube_30 (by decide) ?_
    refine lv_aload_n hx hb dX6_readTube_31 rfl (lv_at hl 1 rfl) ?_
    refine va_get (D := D) (ci := 6) (v := .ref fr) (C := RX6) (T := TX6) (N := 24) hx hb hts hi6 hown hK.1 hP 1 rfl rfl 6 (by decide) wf22 (fun _ h9 => h9) rfl dX6_readTube_32 ?_
    refine lv_iconst (v := 0) hx hb dX6_readTube_35 (by decide) ?_
    refine va_iald hx hb hK.1 hP 0 0 rfl rfl (by rw [vp_in_iff]; decide) dX6_readTube_36 ?_
    refine wt_top (z := nI R) (hrk.1) ?_
    refine wt_goI (wr := [(fr, .inl (cI, 45, .inl tf))]) (wt_runV (As := [.int 0, .int (nI R)]) (rest := []) ⟨hx, hb, hml, hown, hts⟩ (c_X6_number l D cI cZ cH md bt tl ta2_7 bf md_f13_8 md_f14_9 md_f15_10 md_f16_11 md_f17_12 0 R vm_0 vm_1 vm_2 vm_3 vm_4 vm_5 (.ref fr) vm_7 vm_8 vm_9 vm_18 vm_19 vm_20 vm_21 vm_22 vm_23 (by first | assumption | omega) (by first | assumption | omega) (by first | assumption | omega) (by first | assumption | omega) (by first | assumption | omega)) (cwV 2 hts gX6_readTube_X6_number rfl rfl rfl (by decide +kernel) ⟨Nat.le_of_ble_eq_true rfl, Nat.le_of_ble_eq_true rfl⟩) hK hP hD [1, 2] rfl (by decide) (va_recv hK.1 hP (ci := 6) (q0 := 1) rfl rfl) rfl hl.1 rfl (Nat.le_of_ble_eq_true rfl) dX6_readTube_37 ⟨Nat.le_of_ble_eq_true rfl, Nat.le_of_ble_eq_true rfl⟩) hP hD hS hA [1, 2] [0] rfl rfl (by decide) (by decide) (fun r_18 w_19 H locs h_20 hP hD hS => ?_)
    obtain ⟨ta2_21, md_f13_22, md_f14_23, md_f15_24, md_f16_25, md_f17_26, rfl, x_27⟩ := h_20
    have hP : va_P D vwCl [(fr, .inl (cI, 45, .inl tf)), (md, .inr (6, [vm_0, vm_1, vm_2, vm_3, vm_4, vm_5, .ref fr, vm_7, vm_8, vm_9, .ref bt, .int (nI tl), .int (nI ta2_21), .int md_f13_22, .int md_f14_23, .int md_f15_24, .int md_f16_25, .int md_f17_26, vm_18, vm_19, vm_20, vm_21, vm_22, vm_23])), (bt, .inl (cI, 120, .inl bf))] H := hP
    have hD : va_D A [(fr, .inl (cI, 45, .inl tf)), (md, .inr (6, [vm_0, vm_1, vm_2, vm_3, vm_4, vm_5, .ref fr, vm_7, vm_8, vm_9, .ref bt, .int (nI tl), .int (nI ta2_21), .int md_f13_22, .int md_f14_23, .int md_f15_24, .int md_f16_25, .int md_f17_26, vm_18, vm_19, vm_20, vm_21, vm_22, vm_23])), (bt, .inl (cI, 120, .inl bf))] := hD
    obtain ⟨⟨v_28, hv_28a, hv_28b, rfl⟩, yx_29, ybd_30, yge_31⟩ := x_27
    refine lv_istore_n (lv' := [(2, .int (nI v_28)), (1, .int (kB s15)), (0, .ref md)]) hx hb dX6_readTube_40 rfl hl (by decide) rfl (fun ls hl => ?_)
    refine lv_aload_n hx hb dX6_readTube_41 rfl (lv_at hl 2 rfl) ?_
    refine lv_bipush (v := 44) hx hb dX6_readTube_42 (by decide) ?_
    refine wt_goV (wr := [(fr, .inl (cI, 45, .inl tf))]) (wt_runV (As := [.int 44]) (rest := []) ⟨hx, hb, hml, hown, hts⟩ (c_X6_mustSign l D cI cZ cH md bt tl ta2_21 bf md_f13_22 md_f14_23 md_f15_24 md_f16_25 md_f17_26 44 vm_0 vm_1 vm_2 vm_3 vm_4 vm_5 (.ref fr) vm_7 vm_8 vm_9 vm_18 vm_19 vm_20 vm_21 vm_22 vm_23 (by first | assumption | omega) (by first | assumption | omega) (by first | assumption | omega)) (cwV 1 hts gX6_readTube_X6_mustSign rfl rfl rfl (by decide +kernel) ⟨Nat.le_of_ble_eq_true rfl, Nat.le_of_ble_eq_true rfl⟩) hK hP hD [1, 2] rfl (by decide) (va_recv hK.1 hP (ci := 6) (q0 := 1) rfl rfl) rfl hl.1 rfl (Nat.le_of_ble_eq_true rfl) dX6_readTube_44 ⟨Nat.le_of_ble_eq_true rfl, Nat.le_of_ble_eq_true rfl⟩) hP hD hS hA [1, 2] [0] rfl rfl (by decide) (by decide) (fun w_33 H locs h_34 hP hD hS => ?_)
    obtain ⟨ta2_35, md_f13_36, md_f14_37, md_f15_38, md_f16_39, md_f17_40, rfl, x_41⟩ := h_34
    have hP : va_P D vwCl [(fr, .inl (cI, 45, .inl tf)), (md, .inr (6, [vm_0, vm_1, vm_2, vm_3, vm_4, vm_5, .ref fr, vm_7, vm_8, vm_9, .ref bt, .int (nI tl), .int (nI ta2_35), .int md_f13_36, .int md_f14_37, .int md_f15_38, .int md_f16_39, .int md_f17_40, vm_18, vm_19, vm_20, vm_21, vm_22, vm_23])), (bt, .inl (cI, 120, .inl bf))] H := hP
    have hD : va_D A [(fr, .inl (cI, 45, .inl tf)), (md, .inr (6, [vm_0, vm_1, vm_2, vm_3, vm_4, vm_5, .ref fr, vm_7, vm_8, vm_9, .ref bt, .int (nI tl), .int (nI ta2_35), .int md_f13_36, .int md_f14_37, .int md_f15_38, .int md_f16_39, .int md_f17_40, vm_18, vm_19, vm_20, vm_21, vm_22, vm_23])), (bt, .inl (cI, 120, .inl bf))] := hD
    obtain ⟨yx_42, ybd_43, yge_44⟩ := x_41
    refine lv_aload_n hx hb dX6_readTube_47 rfl (lv_at hl 2 rfl) ?_
    refine lv_iconst (v := 1) hx hb dX6_readTube_48 (by decide) ?_
    refine lv_bipush (v := 9) hx hb dX6_readTube_49 (by decide) ?_
    refine wt_goI (wr := [(fr, .inl (cI, 45, .inl tf))]) (wt_runV (As := [.int 1, .int 9]) (rest := []) ⟨hx, hb, hml, hown, hts⟩ (c_X6_number l D cI cZ cH md bt tl ta2_35 bf md_f13_36 md_f14_37 md_f15_38 md_f16_39 md_f17_40 1 9 vm_0 vm_1 vm_2 vm_3 vm_4 vm_5 (.ref fr) vm_7 vm_8 vm_9 vm_18 vm_19 vm_20 vm_21 vm_22 vm_23 (by first | assumption | omega) (by first | assumption | omega) (by first | assumption | omega) (by first | assumption | omega) (by first | assumption | omega)) (cwV 2 hts gX6_readTube_X6_number rfl rfl rfl (by decide +kernel) ⟨Nat.le_of_ble_eq_true rfl, Nat.le_of_ble_eq_true rfl⟩) hK hP hD [1, 2] rfl (by decide) (va_recv hK.1 hP (ci := 6) (q0 := 1) rfl rfl) rfl hl.1 rfl (Nat.le_of_ble_eq_true rfl) dX6_readTube_51 ⟨Nat.le_of_ble_eq_true rfl, Nat.le_of_ble_eq_true rfl⟩) hP hD hS hA [1, 2] [0] rfl rfl (by decide) (by decide) (fun r_45 w_46 H locs h_47 hP hD hS => ?_)
    obtain ⟨ta2_48, md_f13_49, md_f14_50, md_f15_51, md_f16_52, md_f17_53, rfl, x_54⟩ := h_47
    have hP : va_P D vwCl [(fr, .inl (cI, 45, .inl tf)), (md, .inr (6, [vm_0, vm_1, vm_2, vm_3, vm_4, vm_5, .ref fr, vm_7, vm_8, vm_9, .ref bt, .int (nI tl), .int (nI ta2_48), .int md_f13_49, .int md_f14_50, .int md_f15_51, .int md_f16_52, .int md_f17_53, vm_18, vm_19, vm_20, vm_21, vm_22, vm_23])), (bt, .inl (cI, 120, .inl bf))] H := hP
    have hD : va_D A [(fr, .inl (cI, 45, .inl tf)), (md, .inr (6, [vm_0, vm_1, vm_2, vm_3, vm_4, vm_5, .ref fr, vm_7, vm_8, vm_9, .ref bt, .int (nI tl), .int (nI ta2_48), .int md_f13_49, .int md_f14_50, .int md_f15_51, .int md_f16_52, .int md_f17_53, vm_18, vm_19, vm_20, vm_21, vm_22, vm_23])), (bt, .inl (cI, 120, .inl bf))] := hD
    obtain ⟨⟨v_55, hv_55a, hv_55b, rfl⟩, yx_56, ybd_57, yge_58⟩ := x_54
    refine lv_istore_n (lv' := [(3, .int (nI v_55)), (2, .int (nI v_28)), (1, .int (kB s15)), (0, .ref md)]) hx hb dX6_readTube_54 rfl hl (by decide) rfl (fun ls hl => ?_)
    refine lv_aload_n hx hb dX6_readTube_55 rfl (lv_at hl 3 rfl) ?_
    refine lv_bipush (v := 44) hx hb dX6_readTube_56 (by decide) ?_
    refine wt_goV (wr := [(fr, .inl (cI, 45, .inl tf))]) (wt_runV (As := [.int 44]) (rest := []) ⟨hx, hb, hml, hown, hts⟩ (c_X6_mustSign l D cI cZ cH md bt tl ta2_48 bf md_f13_49 md_f14_50 md_f15_51 md_f16_52 md_f17_53 44 vm_0 vm_1 vm_2 vm_3 vm_4 vm_5 (.ref fr) vm_7 vm_8 vm_9 vm_18 vm_19 vm_20 vm_21 vm_22 vm_23 (by first | assumption | omega) (by first | assumption | omega) (by first | assumption | omega)) (cwV 1 hts gX6_readTube_X6_mustSign rfl rfl rfl (by decide +kernel) ⟨Nat.le_of_ble_eq_true rfl, Nat.le_of_ble_eq_true rfl⟩) hK hP hD [1, 2] rfl (by decide) (va_recv hK.1 hP (ci := 6) (q0 := 1) rfl rfl) rfl hl.1 rfl (Nat.le_of_ble_eq_true rfl) dX6_readTube_58 ⟨Nat.le_of_ble_eq_true rfl, Nat.le_of_ble_eq_true rfl⟩) hP hD hS hA [1, 2] [0] rfl rfl (by decide) (by decide) (fun w_60 H locs h_61 hP hD hS => ?_)
    obtain ⟨ta2_62, md_f13_63, md_f14_64, md_f15_65, md_f16_66, md_f17_67, rfl, x_68⟩ := h_61
    have hP : va_P D vwCl [(fr, .inl (cI, 45, .inl tf)), (md, .inr (6, [vm_0, vm_1, vm_2, vm_3, vm_4, vm_5, .ref fr, vm_7, vm_8, vm_9, .ref bt, .int (nI tl), .int (nI ta2_62), .int md_f13_63, .int md_f14_64, .int md_f15_65, .int md_f16_66, .int md_f17_67, vm_18, vm_19, vm_20, vm_21, vm_22, vm_23])), (bt, .inl (cI, 120, .inl bf))] H := hP
    have hD : va_D A [(fr, .inl (cI, 45, .inl tf)), (md, .inr (6, [vm_0, vm_1, vm_2, vm_3, vm_4, vm_5, .ref fr, vm_7, vm_8, vm_9, .ref bt, .int (nI tl), .int (nI ta2_62), .int md_f13_63, .int md_f14_64, .int md_f15_65, .int md_f16_66, .int md_f17_67, vm_18, vm_19, vm_20, vm_21, vm_22, vm_23])), (bt, .inl (cI, 120, .inl bf))] := hD
    obtain ⟨yx_69, ybd_70, yge_71⟩ := x_68
    refine lv_aload_n hx hb dX6_readTube_61 rfl (lv_at hl 3 rfl) ?_
    refine lv_iconst (v := 1) hx hb dX6_readTube_62 (by decide) ?_
    refine lv_bipush (v := 40) hx hb dX6_readTube_63 (by decide) ?_
    refine wt_goI (wr := [(fr, .inl (cI, 45, .inl tf))]) (wt_runV (As := [.int 1, .int 40]) (rest := []) ⟨hx, hb, hml, hown, hts⟩ (c_X6_number l D cI cZ cH md bt tl ta2_62 bf md_f13_63 md_f14_64 md_f15_65 md_f16_66 md_f17_67 1 40 vm_0 vm_1 vm_2 vm_3 vm_4 vm_5 (.ref fr) vm_7 vm_8 vm_9 vm_18 vm_19 vm_20 vm_21 vm_22 vm_23 (by first | assumption | omega) (by first | assumption | omega) (by first | assumption | omega) (by first | assumption | omega) (by first | assumption | omega)) (cwV 2 hts gX6_readTube_X6_number rfl rfl rfl (by decide +kernel) ⟨Nat.le_of_ble_eq_true rfl, Nat.le_of_ble_eq_true rfl⟩) hK hP hD [1, 2] rfl (by decide) (va_recv hK.1 hP (ci := 6) (q0 := 1) rfl rfl) rfl hl.1 rfl (Nat.le_of_ble_eq_true rfl) dX6_readTube_65 ⟨Nat.le_of_ble_eq_true rfl, Nat.le_of_ble_eq_true rfl⟩) hP hD hS hA [1, 2] [0] rfl rfl (by decide) (by decide) (fun r_72 w_73 H locs h_74 hP hD hS => ?_)
    obtain ⟨ta2_75, md_f13_76, md_f14_77, md_f15_78, md_f16_79, md_f17_80, rfl, x_81⟩ := h_74
    have hP : va_P D vwCl [(fr, .inl (cI, 45, .inl tf)), (md, .inr (6, [vm_0, vm_1, vm_2, vm_3, vm_4, vm_5, .ref fr, vm_7, vm_8, vm_9, .ref bt, .int (nI tl), .int (nI ta2_75), .int md_f13_76, .int md_f14_77, .int md_f15_78, .int md_f16_79, .int md_f17_80, vm_18, vm_19, vm_20, vm_21, vm_22, vm_23])), (bt, .inl (cI, 120, .inl bf))] H := hP
    have hD : va_D A [(fr, .inl (cI, 45, .inl tf)), (md, .inr (6, [vm_0, vm_1, vm_2, vm_3, vm_4, vm_5, .ref fr, vm_7, vm_8, vm_9, .ref bt, .int (nI tl), .int (nI ta2_75), .int md_f13_76, .int md_f14_77, .int md_f15_78, .int md_f16_79, .int md_f17_80, vm_18, vm_19, vm_20, vm_21, vm_22, vm_23])), (bt, .inl (cI, 120, .inl bf))] := hD
    obtain ⟨⟨v_82, hv_82a, hv_82b, rfl⟩, yx_83, ybd_84, yge_85⟩ := x_81
    refine lv_istore (lv' := [(4, .int (nI v_82)), (3, .int (nI v_55)), (2, .int (nI v_28)), (1, .int (kB s15)), (0, .ref md)]) hx hb dX6_readTube_68 hl (by decide) rfl (fun ls hl => ?_)
    refine lv_aload_n hx hb dX6_readTube_70 rfl (lv_at hl 4 rfl) ?_
    refine lv_bipush (v := 59) hx hb dX6_readTube_71 (by decide) ?_
    refine wt_goV (wr := [(fr, .inl (cI, 45, .inl tf))]) (wt_runV (As := [.int 59]) (rest := []) ⟨hx, hb, hml, hown, hts⟩ (c_X6_mustSign l D cI cZ cH md bt tl ta2_75 bf md_f13_76 md_f14_77 md_f15_78 md_f16_79 md_f17_80 59 vm_0 vm_1 vm_2 vm_3 vm_4 vm_5 (.ref fr) vm_7 vm_8 vm_9 vm_18 vm_19 vm_20 vm_21 vm_22 vm_23 (by first | assumption | omega) (by first | assumption | omega) (by first | assumption | omega)) (cwV 1 hts gX6_readTube_X6_mustSign rfl rfl rfl (by decide +kernel) ⟨Nat.le_of_ble_eq_true rfl, Nat.le_of_ble_eq_true rfl⟩) hK hP hD [1, 2] rfl (by decide) (va_recv hK.1 hP (ci := 6) (q0 := 1) rfl rfl) rfl hl.1 rfl (Nat.le_of_ble_eq_true rfl) dX6_readTube_73 ⟨Nat.le_of_ble_eq_true rfl, Nat.le_of_ble_eq_true rfl⟩) hP hD hS hA [1, 2] [0] rfl rfl (by decide) (by decide) (fun w_87 H locs h_88 hP hD hS => ?_)
    obtain ⟨ta2_89, md_f13_90, md_f14_91, md_f15_92, md_f16_93, md_f17_94, rfl, x_95⟩ := h_88
    have hP : va_P D vwCl [(fr, .inl (cI, 45, .inl tf)), (md, .inr (6, [vm_0, vm_1, vm_2, vm_3, vm_4, vm_5, .ref fr, vm_7, vm_8, vm_9, .ref bt, .int (nI tl), .int (nI ta2_89), .int md_f13_90, .int md_f14_91, .int md_f15_92, .int md_f16_93, .int md_f17_94, vm_18, vm_19, vm_20, vm_21, vm_22, vm_23])), (bt, .inl (cI, 120, .inl bf))] H := hP
    have hD : va_D A [(fr, .inl (cI, 45, .inl tf)), (md, .inr (6, [vm_0, vm_1, vm_2, vm_3, vm_4, vm_5, .ref fr, vm_7, vm_8, vm_9, .ref bt, .int (nI tl), .int (nI ta2_89), .int md_f13_90, .int md_f14_91, .int md_f15_92, .int md_f16_93, .int md_f17_94, vm_18, vm_19, vm_20, vm_21, vm_22, vm_23])), (bt, .inl (cI, 120, .inl bf))] := hD
    obtain ⟨yx_96, ybd_97, yge_98⟩ := x_95
    refine lv_aload_n hx hb dX6_readTube_76 rfl (lv_at hl 4 rfl) ?_
    refine va_get (D := D) (ci := 6) (v := .int md_f16_93) (C := RX6) (T := TX6) (N := 24) hx hb hts hi6 hown hK.1 hP 1 rfl rfl 16 (by decide) wf78 (fun _ h9 => h9) rfl dX6_readTube_77 ?_
    refine lv_if_ne (tgt := 145) hx hb dX6_readTube_80 (by decide) (fun c_99 => ?_) (fun c_99 => ?_)
    · skip
      have hP9 := hP.sub (ws' := [(md, .inr (6, [vm_0, vm_1, vm_2, vm_3, vm_4, vm_5, .ref fr, vm_7, vm_8, vm_9, .ref bt, .int (nI tl), .int (nI ta2_89), .int md_f13_90, .int md_f14_91, .int md_f15_92, .int md_f16_93, .int md_f17_94, vm_18, vm_19, vm_20, vm_21, vm_22, vm_23])), (bt, .inl (cI, 120, .inl bf)), (fr, .inl (cI, 45, .inl tf))]) [1, 2, 0] rfl
      have hD9 := hD.sub (ws' := [(md, .inr (6, [vm_0, vm_1, vm_2, vm_3, vm_4, vm_5, .ref fr, vm_7, vm_8, vm_9, .ref bt, .int (nI tl), .int (nI ta2_89), .int md_f13_90, .int md_f14_91, .int md_f15_92, .int md_f16_93, .int md_f17_94, vm_18, vm_19, vm_20, vm_21, vm_22, vm_23])), (bt, .inl (cI, 120, .inl bf)), (fr, .inl (cI, 45, .inl tf))]) [1, 2, 0] (by decide) rfl
      exact wt_vret hx hb hr hlocks hP9 hD9 hS ⟨tf, ta2_89, md_f13_90, md_f14_91, md_f15_92, md_f16_93, md_f17_94, rfl, ⟨T, by omega, by omega, hrk, by omega, yge_98, fun h => absurd h c_99⟩⟩ dX6_readTube_145
    · skip
      refine lv_bipush (v := 15) hx hb dX6_readTube_83 (by decide) ?_
      refine lv_iconst (v := 5) hx hb dX6_readTube_85 (by decide) ?_
      refine lv_aload_n hx hb dX6_readTube_86 rfl (lv_at hl 4 rfl) ?_
      refine va_get (D := D) (ci := 6) (v := .ref fr) (C := RX6) (T := TX6) (N := 24) hx hb hts hi6 hown hK.1 hP 1 rfl rfl 6 (by decide) wf22 (fun _ h9 => h9) rfl dX6_readTube_87 ?_
      refine lv_iconst (v := 1) hx hb dX6_readTube_90 (by decide) ?_
      refine va_iald hx hb hK.1 hP 0 0 rfl rfl (by rw [vp_in_iff]; decide) dX6_readTube_91 ?_
      refine wt_top (z := nI T) (hrk.2.1) ?_
      refine lv_imul hx hb dX6_readTube_92 ?_
      refine wt_top (z := nI (5 * T)) (pk_mul 5 T) ?_
      refine lv_iadd hx hb dX6_readTube_93 ?_
      refine wt_top (z := nI (15 + (5 * T))) (nI_add 15 (5 * T)) ?_
      refine lv_istore (lv' := [(5, .int (nI (15 + (5 * T)))), (4, .int (nI v_82)), (3, .int (nI v_55)), (2, .int (nI v_28)), (1, .int (kB s15)), (0, .ref md)]) hx hb dX6_readTube_94 hl (by decide) rfl (fun ls hl => ?_)
      refine lv_aload_n hx hb dX6_readTube_96 rfl (lv_at hl 5 rfl) ?_
      refine va_get (D := D) (ci := 6) (v := .ref fr) (C := RX6) (T := TX6) (N := 24) hx hb hts hi6 hown hK.1 hP 1 rfl rfl 6 (by decide) wf22 (fun _ h9 => h9) rfl dX6_readTube_97 ?_
      refine lv_iload hx hb dX6_readTube_100 (lv_at hl 0 rfl) ?_
      refine lv_iload_n hx hb dX6_readTube_102 rfl (lv_at hl 4 rfl) ?_
      refine va_iast hx hb hK.1 hP hD hS 0 0 rfl rfl (vp_in_nI (by omega) (by omega)) dX6_readTube_103 (fun H locs hP hD hS => ?_)
      have hP : va_P D vwCl [(fr, .inl (cI, 45, .inl (upd tf ((nI (15 + (5 * T))).toNatClampNeg) (kB s15)))), (md, .inr (6, [vm_0, vm_1, vm_2, vm_3, vm_4, vm_5, .ref fr, vm_7, vm_8, vm_9, .ref bt, .int (nI tl), .int (nI ta2_89), .int md_f13_90, .int md_f14_91, .int md_f15_92, .int md_f16_93, .int md_f17_94, vm_18, vm_19, vm_20, vm_21, vm_22, vm_23])), (bt, .inl (cI, 120, .inl bf))] H := hP
      have hD : va_D A [(fr, .inl (cI, 45, .inl (upd tf ((nI (15 + (5 * T))).toNatClampNeg) (kB s15)))), (md, .inr (6, [vm_0, vm_1, vm_2, vm_3, vm_4, vm_5, .ref fr, vm_7, vm_8, vm_9, .ref bt, .int (nI tl), .int (nI ta2_89), .int md_f13_90, .int md_f14_91, .int md_f15_92, .int md_f16_93, .int md_f17_94, vm_18, vm_19, vm_20, vm_21, vm_22, vm_23])), (bt, .inl (cI, 120, .inl bf))] := hD
      have rk_100 : rk R T (upd tf ((nI (15 + (5 * T))).toNatClampNeg) (kB s15)) := rk_upd (k := (15 + (5 * T))) hrk (nI_clamp (by omega)) (by omega) _
      generalize upd tf ((nI (15 + (5 * T))).toNatClampNeg) (kB s15) = rf_101 at hP hD rk_100
      refine lv_aload_n hx hb dX6_readTube_104 rfl (lv_at hl 5 rfl) ?_
      refine va_get (D := D) (ci := 6) (v := .ref fr) (C := RX6) (T := TX6) (N := 24) hx hb hts hi6 hown hK.1 hP 1 rfl rfl 6 (by decide) wf22 (fun _ h9 => h9) rfl dX6_readTube_105 ?_
      refine lv_iload hx hb dX6_readTube_108 (lv_at hl 0 rfl) ?_
      refine lv_iconst (v := 1) hx hb dX6_readTube_110 (by decide) ?_
      refine lv_iadd hx hb dX6_readTube_111 ?_
      refine wt_top (z := nI ((15 + (5 * T)) + 1)) (nI_add (15 + (5 * T)) 1) ?_
      refine lv_iload_n hx hb dX6_readTube_112 rfl (lv_at hl 3 rfl) ?_
      refine va_iast hx hb hK.1 hP hD hS 0 0 rfl rfl (vp_in_nI (by omega) (by omega)) dX6_readTube_113 (fun H locs hP hD hS => ?_)
      have hP : va_P D vwCl [(fr, .inl (cI, 45, .inl (upd rf_101 ((nI ((15 + (5 * T)) + 1)).toNatClampNeg) (nI v_28)))), (md, .inr (6, [vm_0, vm_1, vm_2, vm_3, vm_4, vm_5, .ref fr, vm_7, vm_8, vm_9, .ref bt, .int (nI tl), .int (nI ta2_89), .int md_f13_90, .int md_f14_91, .int md_f15_92, .int md_f16_93, .int md_f17_94, vm_18, vm_19, vm_20, vm_21, vm_22, vm_23])), (bt, .inl (cI, 120, .inl bf))] H := hP
      have hD : va_D A [(fr, .inl (cI, 45, .inl (upd rf_101 ((nI ((15 + (5 * T)) + 1)).toNatClampNeg) (nI v_28)))), (md, .inr (6, [vm_0, vm_1, vm_2, vm_3, vm_4, vm_5, .ref fr, vm_7, vm_8, vm_9, .ref bt, .int (nI tl), .int (nI ta2_89), .int md_f13_90, .int md_f14_91, .int md_f15_92, .int md_f16_93, .int md_f17_94, vm_18, vm_19, vm_20, vm_21, vm_22, vm_23])), (bt, .inl (cI, 120, .inl bf))] := hD
      have rk_102 : rk R T (upd rf_101 ((nI ((15 + (5 * T)) + 1)).toNatClampNeg) (nI v_28)) := rk_updP (v := v_28) (k := ((15 + (5 * T)) + 1)) rk_100 (nI_clamp (by omega)) (by omega) (by omega)
      generalize upd rf_101 ((nI ((15 + (5 * T)) + 1)).toNatClampNeg) (nI v_28) = rf_103 at hP hD rk_102
      refine lv_aload_n hx hb dX6_readTube_114 rfl (lv_at hl 5 rfl) ?_
      refine va_get (D := D) (ci := 6) (v := .ref fr) (C := RX6) (T := TX6) (N := 24) hx hb hts hi6 hown hK.1 hP 1 rfl rfl 6 (by decide) wf22 (fun _ h9 => h9) rfl dX6_readTube_115 ?_
      refine lv_iload hx hb dX6_readTube_118 (lv_at hl 0 rfl) ?_
      refine lv_iconst (v := 2) hx hb dX6_readTube_120 (by decide) ?_
      refine lv_iadd hx hb dX6_readTube_121 ?_
      refine wt_top (z := nI ((15 + (5 * T)) + 2)) (nI_add (15 + (5 * T)) 2) ?_
      refine lv_iload_n hx hb dX6_readTube_122 rfl (lv_at hl 2 rfl) ?_
      refine va_iast hx hb hK.1 hP hD hS 0 0 rfl rfl (vp_in_nI (by omega) (by omega)) dX6_readTube_123 (fun H locs hP hD hS => ?_)
      have hP : va_P D vwCl [(fr, .inl (cI, 45, .inl (upd rf_103 ((nI ((15 + (5 * T)) + 2)).toNatClampNeg) (nI v_55)))), (md, .inr (6, [vm_0, vm_1, vm_2, vm_3, vm_4, vm_5, .ref fr, vm_7, vm_8, vm_9, .ref bt, .int (nI tl), .int (nI ta2_89), .int md_f13_90, .int md_f14_91, .int md_f15_92, .int md_f16_93, .int md_f17_94, vm_18, vm_19, vm_20, vm_21, vm_22, vm_23])), (bt, .inl (cI, 120, .inl bf))] H := hP
      have hD : va_D A [(fr, .inl (cI, 45, .inl (upd rf_103 ((nI ((15 + (5 * T)) + 2)).toNatClampNeg) (nI v_55)))), (md, .inr (6, [vm_0, vm_1, vm_2, vm_3, vm_4, vm_5, .ref fr, vm_7, vm_8, vm_9, .ref bt, .int (nI tl), .int (nI ta2_89), .int md_f13_90, .int md_f14_91, .int md_f15_92, .int md_f16_93, .int md_f17_94, vm_18, vm_19, vm_20, vm_21, vm_22, vm_23])), (bt, .inl (cI, 120, .inl bf))] := hD
      have rk_104 : rk R T (upd rf_103 ((nI ((15 + (5 * T)) + 2)).toNatClampNeg) (nI v_55)) := rk_upd (k := ((15 + (5 * T)) + 2)) rk_102 (nI_clamp (by omega)) (by omega) _
      generalize upd rf_103 ((nI ((15 + (5 * T)) + 2)).toNatClampNeg) (nI v_55) = rf_105 at hP hD rk_104
      refine lv_aload_n hx hb dX6_readTube_124 rfl (lv_at hl 5 rfl) ?_
      refine va_get (D := D) (ci := 6) (v := .ref fr) (C := RX6) (T := TX6) (N := 24) hx hb hts hi6 hown hK.1 hP 1 rfl rfl 6 (by decide) wf22 (fun _ h9 => h9) rfl dX6_readTube_125 ?_
      refine lv_iload hx hb dX6_readTube_128 (lv_at hl 0 rfl) ?_
      refine lv_iconst (v := 3) hx hb dX6_readTube_130 (by decide) ?_
      refine lv_iadd hx hb dX6_readTube_131 ?_
      refine wt_top (z := nI ((15 + (5 * T)) + 3)) (nI_add (15 + (5 * T)) 3) ?_
      refine lv_iload hx hb dX6_readTube_132 (lv_at hl 1 rfl) ?_
      refine va_iast hx hb hK.1 hP hD hS 0 0 rfl rfl (vp_in_nI (by omega) (by omega)) dX6_readTube_134 (fun H locs hP hD hS => ?_)
      have hP : va_P D vwCl [(fr, .inl (cI, 45, .inl (upd rf_105 ((nI ((15 + (5 * T)) + 3)).toNatClampNeg) (nI v_82)))), (md, .inr (6, [vm_0, vm_1, vm_2, vm_3, vm_4, vm_5, .ref fr, vm_7, vm_8, vm_9, .ref bt, .int (nI tl), .int (nI ta2_89), .int md_f13_90, .int md_f14_91, .int md_f15_92, .int md_f16_93, .int md_f17_94, vm_18, vm_19, vm_20, vm_21, vm_22, vm_23])), (bt, .inl (cI, 120, .inl bf))] H := hP
      have hD : va_D A [(fr, .inl (cI, 45, .inl (upd rf_105 ((nI ((15 + (5 * T)) + 3)).toNatClampNeg) (nI v_82)))), (md, .inr (6, [vm_0, vm_1, vm_2, vm_3, vm_4, vm_5, .ref fr, vm_7, vm_8, vm_9, .ref bt, .int (nI tl), .int (nI ta2_89), .int md_f13_90, .int md_f14_91, .int md_f15_92, .int md_f16_93, .int md_f17_94, vm_18, vm_19, vm_20, vm_21, vm_22, vm_23])), (bt, .inl (cI, 120, .inl bf))] := hD
      have rk_106 : rk R T (upd rf_105 ((nI ((15 + (5 * T)) + 3)).toNatClampNeg) (nI v_82)) := rk_upd (k := ((15 + (5 * T)) + 3)) rk_104 (nI_clamp (by omega)) (by omega) _
      generalize upd rf_105 ((nI ((15 + (5 * T)) + 3)).toNatClampNeg) (nI v_82) = rf_107 at hP hD rk_106
      refine lv_aload_n hx hb dX6_readTube_135 rfl (lv_at hl 5 rfl) ?_
      refine va_get (D := D) (ci := 6) (v := .ref fr) (C := RX6) (T := TX6) (N := 24) hx hb hts hi6 hown hK.1 hP 1 rfl rfl 6 (by decide) wf22 (fun _ h9 => h9) rfl dX6_readTube_136 ?_
      refine lv_iconst (v := 1) hx hb dX6_readTube_139 (by decide) ?_
      refine lv_dup2_11 hx hb dX6_readTube_140 rfl rfl ?_
      refine va_iald hx hb hK.1 hP 0 0 rfl rfl (by rw [vp_in_iff]; decide) dX6_readTube_141 ?_
      refine wt_top (z := nI T) (rk_106.2.1) ?_
      refine lv_iconst (v := 1) hx hb dX6_readTube_142 (by decide) ?_
      refine lv_iadd hx hb dX6_readTube_143 ?_
      refine wt_top (z := nI (T + 1)) (nI_add T 1) ?_
      refine va_iast hx hb hK.1 hP hD hS 0 0 rfl rfl (by rw [vp_in_iff]; decide) dX6_readTube_144 (fun H locs hP hD hS => ?_)
      have hP : va_P D vwCl [(fr, .inl (cI, 45, .inl (upd rf_107 (Int32.toNatClampNeg 1) (nI (T + 1))))), (md, .inr (6, [vm_0, vm_1, vm_2, vm_3, vm_4, vm_5, .ref fr, vm_7, vm_8, vm_9, .ref bt, .int (nI tl), .int (nI ta2_89), .int md_f13_90, .int md_f14_91, .int md_f15_92, .int md_f16_93, .int md_f17_94, vm_18, vm_19, vm_20, vm_21, vm_22, vm_23])), (bt, .inl (cI, 120, .inl bf))] H := hP
      have hD : va_D A [(fr, .inl (cI, 45, .inl (upd rf_107 (Int32.toNatClampNeg 1) (nI (T + 1))))), (md, .inr (6, [vm_0, vm_1, vm_2, vm_3, vm_4, vm_5, .ref fr, vm_7, vm_8, vm_9, .ref bt, .int (nI tl), .int (nI ta2_89), .int md_f13_90, .int md_f14_91, .int md_f15_92, .int md_f16_93, .int md_f17_94, vm_18, vm_19, vm_20, vm_21, vm_22, vm_23])), (bt, .inl (cI, 120, .inl bf))] := hD
      have rk_108 : rk R (T + 1) (upd rf_107 (Int32.toNatClampNeg 1) (nI (T + 1))) := rk_tube rk_106
      generalize upd rf_107 (Int32.toNatClampNeg 1) (nI (T + 1)) = rf_109 at hP hD rk_108
      have hP9 := hP.sub (ws' := [(md, .inr (6, [vm_0, vm_1, vm_2, vm_3, vm_4, vm_5, .ref fr, vm_7, vm_8, vm_9, .ref bt, .int (nI tl), .int (nI ta2_89), .int md_f13_90, .int md_f14_91, .int md_f15_92, .int md_f16_93, .int md_f17_94, vm_18, vm_19, vm_20, vm_21, vm_22, vm_23])), (bt, .inl (cI, 120, .inl bf)), (fr, .inl (cI, 45, .inl rf_109))]) [1, 2, 0] rfl
      have hD9 := hD.sub (ws' := [(md, .inr (6, [vm_0, vm_1, vm_2, vm_3, vm_4, vm_5, .ref fr, vm_7, vm_8, vm_9, .ref bt, .int (nI tl), .int (nI ta2_89), .int md_f13_90, .int md_f14_91, .int md_f15_92, .int md_f16_93, .int md_f17_94, vm_18, vm_19, vm_20, vm_21, vm_22, vm_23])), (bt, .inl (cI, 120, .inl bf)), (fr, .inl (cI, 45, .inl rf_109))]) [1, 2, 0] (by decide) rfl
      exact wt_vret hx hb hr hlocks hP9 hD9 hS ⟨rf_109, ta2_89, md_f13_90, md_f14_91, md_f15_92, md_f16_93, md_f17_94, rfl, ⟨(T + 1), by omega, by omega, rk_108, by omega, yge_98, fun _ => rfl⟩⟩ dX6_readTube_145
  · skip
    have c_3 : T = 6 := (nI_eq (a := T) (b := 6) (by omega) (by omega)).mp c_3
    refine lv_aload_n hx hb dX6_readTube_19 rfl (lv_at hl 1 rfl) ?_
    refine lv_iconst (v := 3) hx hb dX6_readTube_20 (by decide) ?_
    refine wt_goV (wr := [(bt, .inl (cI, 120, .inl bf)), (fr, .inl (cI, 45, .inl tf))]) (wt_runV (As := [.int 3]) (rest := []) ⟨hx, hb, hml, hown, hts⟩ (c_X6_bad l D cI cZ cH md s13 bd s17 3 vm_0 vm_1 vm_2 vm_3 vm_4 vm_5 (.ref fr) vm_7 vm_8 vm_9 (.ref bt) (.int (nI tl)) (.int (nI ta)) (.int s14) (.int s15) vm_18 vm_19 vm_20 vm_21 vm_22 vm_23 (by first | assumption | omega) (by decide)) (cwV 1 hts gX6_readTube_X6_bad rfl rfl rfl (by decide +kernel) ⟨Nat.le_of_ble_eq_true rfl, Nat.le_of_ble_eq_true rfl⟩) hK hP hD [0] rfl (by decide) (va_recv hK.1 hP (ci := 6) (q0 := 0) rfl rfl) rfl hl.1 rfl (Nat.le_of_ble_eq_true rfl) dX6_readTube_21 ⟨Nat.le_of_ble_eq_true rfl, Nat.le_of_ble_eq_true rfl⟩) hP hD hS hA [0] [1, 2] rfl rfl (by decide) (by decide) (fun w_111 H locs h_112 hP hD hS => ?_)
    obtain ⟨md_f16_113, md_f17_114, rfl, x_115⟩ := h_112
    have hP : va_P D vwCl [(bt, .inl (cI, 120, .inl bf)), (fr, .inl (cI, 45, .inl tf)), (md, .inr (6, [vm_0, vm_1, vm_2, vm_3, vm_4, vm_5, .ref fr, vm_7, vm_8, vm_9, .ref bt, .int (nI tl), .int (nI ta), .int s13, .int s14, .int s15, .int md_f16_113, .int md_f17_114, vm_18, vm_19, vm_20, vm_21, vm_22, vm_23]))] H := hP
    have hD : va_D A [(bt, .inl (cI, 120, .inl bf)), (fr, .inl (cI, 45, .inl tf)), (md, .inr (6, [vm_0, vm_1, vm_2, vm_3, vm_4, vm_5, .ref fr, vm_7, vm_8, vm_9, .ref bt, .int (nI tl), .int (nI ta), .int s13, .int s14, .int s15, .int md_f16_113, .int md_f17_114, vm_18, vm_19, vm_20, vm_21, vm_22, vm_23]))] := hD
    obtain ⟨yk0_116, ybd_117, yge_118⟩ := x_115
    have hbd_119 : ¬ md_f16_113 = 0 := yk0_116 (by decide)
    refine lv_aload_n hx hb dX6_readTube_24 rfl (lv_at hl 1 rfl) ?_
    refine lv_iconst (v := 1) hx hb dX6_readTube_25 (by decide) ?_
    refine wt_goV (wr := [(fr, .inl (cI, 45, .inl tf))]) (wt_runV (As := [.int 1]) (rest := []) ⟨hx, hb, hml, hown, hts⟩ (c_X6_must l D cI cZ cH md bt tl ta bf s13 s14 s15 md_f16_113 md_f17_114 1 vm_0 vm_1 vm_2 vm_3 vm_4 vm_5 (.ref fr) vm_7 vm_8 vm_9 vm_18 vm_19 vm_20 vm_21 vm_22 vm_23 (by first | assumption | omega) (by first | assumption | omega) (by first | assumption | omega)) (cwV 1 hts gX6_readTube_X6_must rfl rfl rfl (by decide +kernel) ⟨Nat.le_of_ble_eq_true rfl, Nat.le_of_ble_eq_true rfl⟩) hK hP hD [2, 0] rfl (by decide) (va_recv hK.1 hP (ci := 6) (q0 := 2) rfl rfl) rfl hl.1 rfl (Nat.le_of_ble_eq_true rfl) dX6_readTube_26 ⟨Nat.le_of_ble_eq_true rfl, Nat.le_of_ble_eq_true rfl⟩) hP hD hS hA [2, 0] [1] rfl rfl (by decide) (by decide) (fun w_121 H locs h_122 hP hD hS => ?_)
    obtain ⟨ta2_123, md_f13_124, md_f14_125, md_f15_126, md_f16_127, md_f17_128, rfl, x_129⟩ := h_122
    have hP : va_P D vwCl [(fr, .inl (cI, 45, .inl tf)), (md, .inr (6, [vm_0, vm_1, vm_2, vm_3, vm_4, vm_5, .ref fr, vm_7, vm_8, vm_9, .ref bt, .int (nI tl), .int (nI ta2_123), .int md_f13_124, .int md_f14_125, .int md_f15_126, .int md_f16_127, .int md_f17_128, vm_18, vm_19, vm_20, vm_21, vm_22, vm_23])), (bt, .inl (cI, 120, .inl bf))] H := hP
    have hD : va_D A [(fr, .inl (cI, 45, .inl tf)), (md, .inr (6, [vm_0, vm_1, vm_2, vm_3, vm_4, vm_5, .ref fr, vm_7, vm_8, vm_9, .ref bt, .int (nI tl), .int (nI ta2_123), .int md_f13_124, .int md_f14_125, .int md_f15_126, .int md_f16_127, .int md_f17_128, vm_18, vm_19, vm_20, vm_21, vm_22, vm_23])), (bt, .inl (cI, 120, .inl bf))] := hD
    obtain ⟨yx_130, ybd_131, yk0_132, yge_133⟩ := x_129
    have hbd_134 : ¬ md_f16_127 = 0 := ybd_131 hbd_119
    refine lv_aload_n hx hb dX6_readTube_29 rfl (lv_at hl 1 rfl) ?_
    refine lv_iconst (v := 0) hx hb dX6_readTube_30 (by decide) ?_
    refine lv_aload_n hx hb dX6_readTube_31 rfl (lv_at hl 1 rfl) ?_
    refine va_get (D := D) (ci := 6) (v := .ref fr) (C := RX6) (T := TX6) (N := 24) hx hb hts hi6 hown hK.1 hP 1 rfl rfl 6 (by decide) wf22 (fun _ h9 => h9) rfl dX6_readTube_32 ?_
    refine lv_iconst (v := 0) hx hb dX6_readTube_35 (by decide) ?_
    refine va_iald hx hb hK.1 hP 0 0 rfl rfl (by rw [vp_in_iff]; decide) dX6_readTube_36 ?_
    refine wt_top (z := nI R) (hrk.1) ?_
    refine wt_goI (wr := [(fr, .inl (cI, 45, .inl tf))]) (wt_runV (As := [.int 0, .int (nI R)]) (rest := []) ⟨hx, hb, hml, hown, hts⟩ (c_X6_number l D cI cZ cH md bt tl ta2_123 bf md_f13_124 md_f14_125 md_f15_126 md_f16_127 md_f17_128 0 R vm_0 vm_1 vm_2 vm_3 vm_4 vm_5 (.ref fr) vm_7 vm_8 vm_9 vm_18 vm_19 vm_20 vm_21 vm_22 vm_23 (by first | assumption | omega) (by first | assumption | omega) (by first | assumption | omega) (by first | assumption | omega) (by first | assumption | omega)) (cwV 2 hts gX6_readTube_X6_number rfl rfl rfl (by decide +kernel) ⟨Nat.le_of_ble_eq_true rfl, Nat.le_of_ble_eq_true rfl⟩) hK hP hD [1, 2] rfl (by decide) (va_recv hK.1 hP (ci := 6) (q0 := 1) rfl rfl) rfl hl.1 rfl (Nat.le_of_ble_eq_true rfl) dX6_readTube_37 ⟨Nat.le_of_ble_eq_true rfl, Nat.le_of_ble_eq_true rfl⟩) hP hD hS hA [1, 2] [0] rfl rfl (by decide) (by decide) (fun r_135 w_136 H locs h_137 hP hD hS => ?_)
    obtain ⟨ta2_138, md_f13_139, md_f14_140, md_f15_141, md_f16_142, md_f17_143, rfl, x_144⟩ := h_137
    have hP : va_P D vwCl [(fr, .inl (cI, 45, .inl tf)), (md, .inr (6, [vm_0, vm_1, vm_2, vm_3, vm_4, vm_5, .ref fr, vm_7, vm_8, vm_9, .ref bt, .int (nI tl), .int (nI ta2_138), .int md_f13_139, .int md_f14_140, .int md_f15_141, .int md_f16_142, .int md_f17_143, vm_18, vm_19, vm_20, vm_21, vm_22, vm_23])), (bt, .inl (cI, 120, .inl bf))] H := hP
    have hD : va_D A [(fr, .inl (cI, 45, .inl tf)), (md, .inr (6, [vm_0, vm_1, vm_2, vm_3, vm_4, vm_5, .ref fr, vm_7, vm_8, vm_9, .ref bt, .int (nI tl), .int (nI ta2_138), .int md_f13_139, .int md_f14_140, .int md_f15_141, .int md_f16_142, .int md_f17_143, vm_18, vm_19, vm_20, vm_21, vm_22, vm_23])), (bt, .inl (cI, 120, .inl bf))] := hD
    obtain ⟨⟨v_145, hv_145a, hv_145b, rfl⟩, yx_146, ybd_147, yge_148⟩ := x_144
    have hbd_149 : ¬ md_f16_142 = 0 := ybd_147 hbd_134
    refine lv_istore_n (lv' := [(2, .int (nI v_145)), (1, .int (kB s15)), (0, .ref md)]) hx hb dX6_readTube_40 rfl hl (by decide) rfl (fun ls hl => ?_)
    refine lv_aload_n hx hb dX6_readTube_41 rfl (lv_at hl 2 rfl) ?_
    refine lv_bipush (v := 44) hx hb dX6_readTube_42 (by decide) ?_
    refine wt_goV (wr := [(fr, .inl (cI, 45, .inl tf))]) (wt_runV (As := [.int 44]) (rest := []) ⟨hx, hb, hml, hown, hts⟩ (c_X6_mustSign l D cI cZ cH md bt tl ta2_138 bf md_f13_139 md_f14_140 md_f15_141 md_f16_142 md_f17_143 44 vm_0 vm_1 vm_2 vm_3 vm_4 vm_5 (.ref fr) vm_7 vm_8 vm_9 vm_18 vm_19 vm_20 vm_21 vm_22 vm_23 (by first | assumption | omega) (by first | assumption | omega) (by first | assumption | omega)) (cwV 1 hts gX6_readTube_X6_mustSign rfl rfl rfl (by decide +kernel) ⟨Nat.le_of_ble_eq_true rfl, Nat.le_of_ble_eq_true rfl⟩) hK hP hD [1, 2] rfl (by decide) (va_recv hK.1 hP (ci := 6) (q0 := 1) rfl rfl) rfl hl.1 rfl (Nat.le_of_ble_eq_true rfl) dX6_readTube_44 ⟨Nat.le_of_ble_eq_true rfl, Nat.le_of_ble_eq_true rfl⟩) hP hD hS hA [1, 2] [0] rfl rfl (by decide) (by decide) (fun w_151 H locs h_152 hP hD hS => ?_)
    obtain ⟨ta2_153, md_f13_154, md_f14_155, md_f15_156, md_f16_157, md_f17_158, rfl, x_159⟩ := h_152
    have hP : va_P D vwCl [(fr, .inl (cI, 45, .inl tf)), (md, .inr (6, [vm_0, vm_1, vm_2, vm_3, vm_4, vm_5, .ref fr, vm_7, vm_8, vm_9, .ref bt, .int (nI tl), .int (nI ta2_153), .int md_f13_154, .int md_f14_155, .int md_f15_156, .int md_f16_157, .int md_f17_158, vm_18, vm_19, vm_20, vm_21, vm_22, vm_23])), (bt, .inl (cI, 120, .inl bf))] H := hP
    have hD : va_D A [(fr, .inl (cI, 45, .inl tf)), (md, .inr (6, [vm_0, vm_1, vm_2, vm_3, vm_4, vm_5, .ref fr, vm_7, vm_8, vm_9, .ref bt, .int (nI tl), .int (nI ta2_153), .int md_f13_154, .int md_f14_155, .int md_f15_156, .int md_f16_157, .int md_f17_158, vm_18, vm_19, vm_20, vm_21, vm_22, vm_23])), (bt, .inl (cI, 120, .inl bf))] := hD
    obtain ⟨yx_160, ybd_161, yge_162⟩ := x_159
    have hbd_163 : ¬ md_f16_157 = 0 := ybd_161 hbd_149
    refine lv_aload_n hx hb dX6_readTube_47 rfl (lv_at hl 2 rfl) ?_
    refine lv_iconst (v := 1) hx hb dX6_readTube_48 (by decide) ?_
    refine lv_bipush (v := 9) hx hb dX6_readTube_49 (by decide) ?_
    refine wt_goI (wr := [(fr, .inl (cI, 45, .inl tf))]) (wt_runV (As := [.int 1, .int 9]) (rest := []) ⟨hx, hb, hml, hown, hts⟩ (c_X6_number l D cI cZ cH md bt tl ta2_153 bf md_f13_154 md_f14_155 md_f15_156 md_f16_157 md_f17_158 1 9 vm_0 vm_1 vm_2 vm_3 vm_4 vm_5 (.ref fr) vm_7 vm_8 vm_9 vm_18 vm_19 vm_20 vm_21 vm_22 vm_23 (by first | assumption | omega) (by first | assumption | omega) (by first | assumption | omega) (by first | assumption | omega) (by first | assumption | omega)) (cwV 2 hts gX6_readTube_X6_number rfl rfl rfl (by decide +kernel) ⟨Nat.le_of_ble_eq_true rfl, Nat.le_of_ble_eq_true rfl⟩) hK hP hD [1, 2] rfl (by decide) (va_recv hK.1 hP (ci := 6) (q0 := 1) rfl rfl) rfl hl.1 rfl (Nat.le_of_ble_eq_true rfl) dX6_readTube_51 ⟨Nat.le_of_ble_eq_true rfl, Nat.le_of_ble_eq_true rfl⟩) hP hD hS hA [1, 2] [0] rfl rfl (by decide) (by decide) (fun r_164 w_165 H locs h_166 hP hD hS => ?_)
    obtain ⟨ta2_167, md_f13_168, md_f14_169, md_f15_170, md_f16_171, md_f17_172, rfl, x_173⟩ := h_166
    have hP : va_P D vwCl [(fr, .inl (cI, 45, .inl tf)), (md, .inr (6, [vm_0, vm_1, vm_2, vm_3, vm_4, vm_5, .ref fr, vm_7, vm_8, vm_9, .ref bt, .int (nI tl), .int (nI ta2_167), .int md_f13_168, .int md_f14_169, .int md_f15_170, .int md_f16_171, .int md_f17_172, vm_18, vm_19, vm_20, vm_21, vm_22, vm_23])), (bt, .inl (cI, 120, .inl bf))] H := hP
    have hD : va_D A [(fr, .inl (cI, 45, .inl tf)), (md, .inr (6, [vm_0, vm_1, vm_2, vm_3, vm_4, vm_5, .ref fr, vm_7, vm_8, vm_9, .ref bt, .int (nI tl), .int (nI ta2_167), .int md_f13_168, .int md_f14_169, .int md_f15_170, .int md_f16_171, .int md_f17_172, vm_18, vm_19, vm_20, vm_21, vm_22, vm_23])), (bt, .inl (cI, 120, .inl bf))] := hD
    obtain ⟨⟨v_174, hv_174a, hv_174b, rfl⟩, yx_175, ybd_176, yge_177⟩ := x_173
    have hbd_178 : ¬ md_f16_171 = 0 := ybd_176 hbd_163
    refine lv_istore_n (lv' := [(3, .int (nI v_174)), (2, .int (nI v_145)), (1, .int (kB s15)), (0, .ref md)]) hx hb dX6_readTube_54 rfl hl (by decide) rfl (fun ls hl => ?_)
    refine lv_aload_n hx hb dX6_readTube_55 rfl (lv_at hl 3 rfl) ?_
    refine lv_bipush (v := 44) hx hb dX6_readTube_56 (by decide) ?_
    refine wt_goV (wr := [(fr, .inl (cI, 45, .inl tf))]) (wt_runV (As := [.int 44]) (rest := []) ⟨hx, hb, hml, hown, hts⟩ (c_X6_mustSign l D cI cZ cH md bt tl ta2_167 bf md_f13_168 md_f14_169 md_f15_170 md_f16_171 md_f17_172 44 vm_0 vm_1 vm_2 vm_3 vm_4 vm_5 (.ref fr) vm_7 vm_8 vm_9 vm_18 vm_19 vm_20 vm_21 vm_22 vm_23 (by first | assumption | omega) (by first | assumption | omega) (by first | assumption | omega)) (cwV 1 hts gX6_readTube_X6_mustSign rfl rfl rfl (by decide +kernel) ⟨Nat.le_of_ble_eq_true rfl, Nat.le_of_ble_eq_true rfl⟩) hK hP hD [1, 2] rfl (by decide) (va_recv hK.1 hP (ci := 6) (q0 := 1) rfl rfl) rfl hl.1 rfl (Nat.le_of_ble_eq_true rfl) dX6_readTube_58 ⟨Nat.le_of_ble_eq_true rfl, Nat.le_of_ble_eq_true rfl⟩) hP hD hS hA [1, 2] [0] rfl rfl (by decide) (by decide) (fun w_180 H locs h_181 hP hD hS => ?_)
    obtain ⟨ta2_182, md_f13_183, md_f14_184, md_f15_185, md_f16_186, md_f17_187, rfl, x_188⟩ := h_181
    have hP : va_P D vwCl [(fr, .inl (cI, 45, .inl tf)), (md, .inr (6, [vm_0, vm_1, vm_2, vm_3, vm_4, vm_5, .ref fr, vm_7, vm_8, vm_9, .ref bt, .int (nI tl), .int (nI ta2_182), .int md_f13_183, .int md_f14_184, .int md_f15_185, .int md_f16_186, .int md_f17_187, vm_18, vm_19, vm_20, vm_21, vm_22, vm_23])), (bt, .inl (cI, 120, .inl bf))] H := hP
    have hD : va_D A [(fr, .inl (cI, 45, .inl tf)), (md, .inr (6, [vm_0, vm_1, vm_2, vm_3, vm_4, vm_5, .ref fr, vm_7, vm_8, vm_9, .ref bt, .int (nI tl), .int (nI ta2_182), .int md_f13_183, .int md_f14_184, .int md_f15_185, .int md_f16_186, .int md_f17_187, vm_18, vm_19, vm_20, vm_21, vm_22, vm_23])), (bt, .inl (cI, 120, .inl bf))] := hD
    obtain ⟨yx_189, ybd_190, yge_191⟩ := x_188
    have hbd_192 : ¬ md_f16_186 = 0 := ybd_190 hbd_178
    refine lv_aload_n hx hb dX6_readTube_61 rfl (lv_at hl 3 rfl) ?_
    refine lv_iconst (v := 1) hx hb dX6_readTube_62 (by decide) ?_
    refine lv_bipush (v := 40) hx hb dX6_readTube_63 (by decide) ?_
    refine wt_goI (wr := [(fr, .inl (cI, 45, .inl tf))]) (wt_runV (As := [.int 1, .int 40]) (rest := []) ⟨hx, hb, hml, hown, hts⟩ (c_X6_number l D cI cZ cH md bt tl ta2_182 bf md_f13_183 md_f14_184 md_f15_185 md_f16_186 md_f17_187 1 40 vm_0 vm_1 vm_2 vm_3 vm_4 vm_5 (.ref fr) vm_7 vm_8 vm_9 vm_18 vm_19 vm_20 vm_21 vm_22 vm_23 (by first | assumption | omega) (by first | assumption | omega) (by first | assumption | omega) (by first | assumption | omega) (by first | assumption | omega)) (cwV 2 hts gX6_readTube_X6_number rfl rfl rfl (by decide +kernel) ⟨Nat.le_of_ble_eq_true rfl, Nat.le_of_ble_eq_true rfl⟩) hK hP hD [1, 2] rfl (by decide) (va_recv hK.1 hP (ci := 6) (q0 := 1) rfl rfl) rfl hl.1 rfl (Nat.le_of_ble_eq_true rfl) dX6_readTube_65 ⟨Nat.le_of_ble_eq_true rfl, Nat.le_of_ble_eq_true rfl⟩) hP hD hS hA [1, 2] [0] rfl rfl (by decide) (by decide) (fun r_193 w_194 H locs h_195 hP hD hS => ?_)
    obtain ⟨ta2_196, md_f13_197, md_f14_198, md_f15_199, md_f16_200, md_f17_201, rfl, x_202⟩ := h_195
    have hP : va_P D vwCl [(fr, .inl (cI, 45, .inl tf)), (md, .inr (6, [vm_0, vm_1, vm_2, vm_3, vm_4, vm_5, .ref fr, vm_7, vm_8, vm_9, .ref bt, .int (nI tl), .int (nI ta2_196), .int md_f13_197, .int md_f14_198, .int md_f15_199, .int md_f16_200, .int md_f17_201, vm_18, vm_19, vm_20, vm_21, vm_22, vm_23])), (bt, .inl (cI, 120, .inl bf))] H := hP
    have hD : va_D A [(fr, .inl (cI, 45, .inl tf)), (md, .inr (6, [vm_0, vm_1, vm_2, vm_3, vm_4, vm_5, .ref fr, vm_7, vm_8, vm_9, .ref bt, .int (nI tl), .int (nI ta2_196), .int md_f13_197, .int md_f14_198, .int md_f15_199, .int md_f16_200, .int md_f17_201, vm_18, vm_19, vm_20, vm_21, vm_22, vm_23])), (bt, .inl (cI, 120, .inl bf))] := hD
    obtain ⟨⟨v_203, hv_203a, hv_203b, rfl⟩, yx_204, ybd_205, yge_206⟩ := x_202
    have hbd_207 : ¬ md_f16_200 = 0 := ybd_205 hbd_192
    refine lv_istore (lv' := [(4, .int (nI v_203)), (3, .int (nI v_174)), (2, .int (nI v_145)), (1, .int (kB s15)), (0, .ref md)]) hx hb dX6_readTube_68 hl (by decide) rfl (fun ls hl => ?_)
    refine lv_aload_n hx hb dX6_readTube_70 rfl (lv_at hl 4 rfl) ?_
    refine lv_bipush (v := 59) hx hb dX6_readTube_71 (by decide) ?_
    refine wt_goV (wr := [(fr, .inl (cI, 45, .inl tf))]) (wt_runV (As := [.int 59]) (rest := []) ⟨hx, hb, hml, hown, hts⟩ (c_X6_mustSign l D cI cZ cH md bt tl ta2_196 bf md_f13_197 md_f14_198 md_f15_199 md_f16_200 md_f17_201 59 vm_0 vm_1 vm_2 vm_3 vm_4 vm_5 (.ref fr) vm_7 vm_8 vm_9 vm_18 vm_19 vm_20 vm_21 vm_22 vm_23 (by first | assumption | omega) (by first | assumption | omega) (by first | assumption | omega)) (cwV 1 hts gX6_readTube_X6_mustSign rfl rfl rfl (by decide +kernel) ⟨Nat.le_of_ble_eq_true rfl, Nat.le_of_ble_eq_true rfl⟩) hK hP hD [1, 2] rfl (by decide) (va_recv hK.1 hP (ci := 6) (q0 := 1) rfl rfl) rfl hl.1 rfl (Nat.le_of_ble_eq_true rfl) dX6_readTube_73 ⟨Nat.le_of_ble_eq_true rfl, Nat.le_of_ble_eq_true rfl⟩) hP hD hS hA [1, 2] [0] rfl rfl (by decide) (by decide) (fun w_209 H locs h_210 hP hD hS => ?_)
    obtain ⟨ta2_211, md_f13_212, md_f14_213, md_f15_214, md_f16_215, md_f17_216, rfl, x_217⟩ := h_210
    have hP : va_P D vwCl [(fr, .inl (cI, 45, .inl tf)), (md, .inr (6, [vm_0, vm_1, vm_2, vm_3, vm_4, vm_5, .ref fr, vm_7, vm_8, vm_9, .ref bt, .int (nI tl), .int (nI ta2_211), .int md_f13_212, .int md_f14_213, .int md_f15_214, .int md_f16_215, .int md_f17_216, vm_18, vm_19, vm_20, vm_21, vm_22, vm_23])), (bt, .inl (cI, 120, .inl bf))] H := hP
    have hD : va_D A [(fr, .inl (cI, 45, .inl tf)), (md, .inr (6, [vm_0, vm_1, vm_2, vm_3, vm_4, vm_5, .ref fr, vm_7, vm_8, vm_9, .ref bt, .int (nI tl), .int (nI ta2_211), .int md_f13_212, .int md_f14_213, .int md_f15_214, .int md_f16_215, .int md_f17_216, vm_18, vm_19, vm_20, vm_21, vm_22, vm_23])), (bt, .inl (cI, 120, .inl bf))] := hD
    obtain ⟨yx_218, ybd_219, yge_220⟩ := x_217
    have hbd_221 : ¬ md_f16_215 = 0 := ybd_219 hbd_207
    refine lv_aload_n hx hb dX6_readTube_76 rfl (lv_at hl 4 rfl) ?_
    refine va_get (D := D) (ci := 6) (v := .int md_f16_215) (C := RX6) (T := TX6) (N := 24) hx hb hts hi6 hown hK.1 hP 1 rfl rfl 16 (by decide) wf78 (fun _ h9 => h9) rfl dX6_readTube_77 ?_
    refine lv_if_ne (tgt := 145) hx hb dX6_readTube_80 (by decide) (fun _ => ?_) (fun h => absurd h hbd_221)
    have hP9 := hP.sub (ws' := [(md, .inr (6, [vm_0, vm_1, vm_2, vm_3, vm_4, vm_5, .ref fr, vm_7, vm_8, vm_9, .ref bt, .int (nI tl), .int (nI ta2_211), .int md_f13_212, .int md_f14_213, .int md_f15_214, .int md_f16_215, .int md_f17_216, vm_18, vm_19, vm_20, vm_21, vm_22, vm_23])), (bt, .inl (cI, 120, .inl bf)), (fr, .inl (cI, 45, .inl tf))]) [1, 2, 0] rfl
    have hD9 := hD.sub (ws' := [(md, .inr (6, [vm_0, vm_1, vm_2, vm_3, vm_4, vm_5, .ref fr, vm_7, vm_8, vm_9, .ref bt, .int (nI tl), .int (nI ta2_211), .int md_f13_212, .int md_f14_213, .int md_f15_214, .int md_f16_215, .int md_f17_216, vm_18, vm_19, vm_20, vm_21, vm_22, vm_23])), (bt, .inl (cI, 120, .inl bf)), (fr, .inl (cI, 45, .inl tf))]) [1, 2, 0] (by decide) rfl
    exact wt_vret hx hb hr hlocks hP9 hD9 hS ⟨tf, ta2_211, md_f13_212, md_f14_213, md_f15_214, md_f16_215, md_f17_216, rfl, ⟨T, by omega, by omega, hrk, by omega, yge_220, fun h => absurd h hbd_221⟩⟩ dX6_readTube_145

set_option maxHeartbeats 1000000 in
set_option maxRecDepth 100000 in
theorem c_X6_nextToken_x (l : Launch) (D : va_G) (cI cZ cH : ClassId) (md bt : Nat) (tl ta : Nat) (bf : Nat → Int32) (s13 s14 s15 bd s17 : Int32) (vm_0 vm_1 vm_2 vm_3 vm_4 vm_5 vm_6 vm_7 vm_8 vm_9 vm_18 vm_19 vm_20 vm_21 vm_22 vm_23 : Value) (htl : tl ≤ 120) (hta : ta ≤ tl) : wt_M l yX6_nextToken wsX6_nextToken ({ frames := 1, cells := 0, slots := 0, locals := 25 } : Room) D (wt_T cI cZ cH) [.ref md] [(md, .inr (6, [vm_0, vm_1, vm_2, vm_3, vm_4, vm_5, vm_6, vm_7, vm_8, vm_9, .ref bt, .int (nI tl), .int (nI ta), .int s13, .int s14, .int s15, .int bd, .int s17, vm_18, vm_19, vm_20, vm_21, vm_22, vm_23])), (bt, .inl (cI, 120, .inl bf))] (wt_QV D (fun w => ∃ (ta2 : Nat) (md_f13 md_f14 md_f15 : Int32), w = [(md, .inr (6, [vm_0, vm_1, vm_2, vm_3, vm_4, vm_5, vm_6, vm_7, vm_8, vm_9, .ref bt, .int (nI tl), .int (nI ta2), .int md_f13, .int md_f14, .int md_f15, .int bd, .int s17, vm_18, vm_19, vm_20, vm_21, vm_22, vm_23])), (bt, .inl (cI, 120, .inl bf))] ∧ md_f13 = nI ta ∧ TK tl bf ta ta2 md_f14 md_f15 ∧ ta2 ≤ tl)) := by
  refine wt_M.ofW (cc := cX6_nextToken) (maxL := 1) (ret := none) (by decide) rfl (Nat.le_of_ble_eq_true rfl) ?_
  intro p e s m below meth c A ls hx hb hr hts hown hlocks hml hnm hP hK hD hA hS hl
  have hP : va_P D vwCl [(md, .inr (6, [vm_0, vm_1, vm_2, vm_3, vm_4, vm_5, vm_6, vm_7, vm_8, vm_9, .ref bt, .int (nI tl), .int (nI ta), .int s13, .int s14, .int s15, .int bd, .int s17, vm_18, vm_19, vm_20, vm_21, vm_22, vm_23])), (bt, .inl (cI, 120, .inl bf))] s.heap := hP
  have hown : s.vm.findClass RX6 = some m.cls := hown
  have hl : lv_has ls 1 [(0, .ref md)] := hl
  have hi6 : ∀ w ∈ u_ws RX6 TX6 24, w ∈ wsX6_nextToken := by decide +kernel
  have wc90 := hts (.constant RX6 90 (-1000000)) (by decide +kernel)
  have wf102 := hts (.fieldLink RX6 102 "WarmTubesModel" "token" "I") (by decide +kernel)
  have wf31 := hts (.fieldLink RX6 31 "WarmTubesModel" "tape" "[I") (by decide +kernel)
  have wf74 := hts (.fieldLink RX6 74 "WarmTubesModel" "taped" "I") (by decide +kernel)
  have wf81 := hts (.fieldLink RX6 81 "WarmTubesModel" "start" "I") (by decide +kernel)
  have wf87 := hts (.fieldLink RX6 87 "WarmTubesModel" "cursor" "I") (by decide +kernel)
  have wf91 := hts (.fieldLink RX6 91 "WarmTubesModel" "value" "I") (by decide +kernel)
  have wl100 := hts (.constantLong RX6 100 (57)) (by decide +kernel)
  have wl94 := hts (.constantLong RX6 94 (97)) (by decide +kernel)
  have wl96 := hts (.constantLong RX6 96 (122)) (by decide +kernel)
  have wl98 := hts (.constantLong RX6 98 (48)) (by decide +kernel)
  refine lv_aload_n hx hb dX6_nextToken_0 rfl (lv_at hl 0 rfl) ?_
  refine lv_aload_n hx hb dX6_nextToken_1 rfl (lv_at hl 0 rfl) ?_
  refine va_get (D := D) (ci := 6) (v := .int (nI ta)) (C := RX6) (T := TX6) (N := 24) hx hb hts hi6 hown hK.1 hP 0 rfl rfl 12 (by decide) wf87 (fun _ h9 => h9) rfl dX6_nextToken_2 ?_
  refine va_put (D := D) (ci := 6) (v := .int (nI ta)) (ty := .int) (C := RX6) (T := TX6) (N := 24) hx hb hts hi6 tyX6 tyX6_ok nmX6 hown hK.1 hP hD hS 0 rfl rfl 13 (by decide) wf81 (fun _ h9 => h9) rfl (by decide +kernel) rfl rfl (Nat.le_of_ble_eq_true rfl) dX6_nextToken_5 (fun H locs hP hD hS => ?_)
  have hP : va_P D vwCl [(md, .inr (6, [vm_0, vm_1, vm_2, vm_3, vm_4, vm_5, vm_6, vm_7, vm_8, vm_9, .ref bt, .int (nI tl), .int (nI ta), .int (nI ta), .int s14, .int s15, .int bd, .int s17, vm_18, vm_19, vm_20, vm_21, vm_22, vm_23])), (bt, .inl (cI, 120, .inl bf))] H := hP
  have hD : va_D A [(md, .inr (6, [vm_0, vm_1, vm_2, vm_3, vm_4, vm_5, vm_6, vm_7, vm_8, vm_9, .ref bt, .int (nI tl), .int (nI ta), .int (nI ta), .int s14, .int s15, .int bd, .int s17, vm_18, vm_19, vm_20, vm_21, vm_22, vm_23])), (bt, .inl (cI, 120, .inl bf))] := hD
  refine lv_aload_n hx hb dX6_nextToken_8 rfl (lv_at hl 0 rfl) ?_
  refine lv_aload_n hx hb dX6_nextToken_9 rfl (lv_at hl 0 rfl) ?_
  refine va_get (D := D) (ci := 6) (v := .int (nI ta)) (C := RX6) (T := TX6) (N := 24) hx hb hts hi6 hown hK.1 hP 0 rfl rfl 12 (by decide) wf87 (fun _ h9 => h9) rfl dX6_nextToken_10 ?_
  refine lv_aload_n hx hb dX6_nextToken_13 rfl (lv_at hl 0 rfl) ?_
  refine va_get (D := D) (ci := 6) (v := .int (nI tl)) (C := RX6) (T := TX6) (N := 24) hx hb hts hi6 hown hK.1 hP 0 rfl rfl 11 (by decide) wf74 (fun _ h9 => h9) rfl dX6_nextToken_14 ?_
  refine lv_icmp_ge (tgt := 32) hx hb dX6_nextToken_17 (by decide) (fun c_1 => ?_) (fun c_1 => ?_)
  · skip
    have c_1 : tl ≤ ta := (nI_leI (a := tl) (b := ta) (by omega) (by omega)).mp c_1
    refine lv_ldc hx hb hown wc90 dX6_nextToken_32 ?_
    refine va_put (D := D) (ci := 6) (v := .int (-1000000)) (ty := .int) (C := RX6) (T := TX6) (N := 24) hx hb hts hi6 tyX6 tyX6_ok nmX6 hown hK.1 hP hD hS 0 rfl rfl 15 (by decide) wf91 (fun _ h9 => h9) rfl (by decide +kernel) rfl rfl (Nat.le_of_ble_eq_true rfl) dX6_nextToken_34 (fun H locs hP hD hS => ?_)
    have hP : va_P D vwCl [(md, .inr (6, [vm_0, vm_1, vm_2, vm_3, vm_4, vm_5, vm_6, vm_7, vm_8, vm_9, .ref bt, .int (nI tl), .int (nI ta), .int (nI ta), .int s14, .int (-1000000), .int bd, .int s17, vm_18, vm_19, vm_20, vm_21, vm_22, vm_23])), (bt, .inl (cI, 120, .inl bf))] H := hP
    have hD : va_D A [(md, .inr (6, [vm_0, vm_1, vm_2, vm_3, vm_4, vm_5, vm_6, vm_7, vm_8, vm_9, .ref bt, .int (nI tl), .int (nI ta), .int (nI ta), .int s14, .int (-1000000), .int bd, .int s17, vm_18, vm_19, vm_20, vm_21, vm_22, vm_23])), (bt, .inl (cI, 120, .inl bf))] := hD
    refine lv_aload_n hx hb dX6_nextToken_37 rfl (lv_at hl 0 rfl) ?_
    refine lv_aload_n hx hb dX6_nextToken_38 rfl (lv_at hl 0 rfl) ?_
    refine va_get (D := D) (ci := 6) (v := .int (nI ta)) (C := RX6) (T := TX6) (N := 24) hx hb hts hi6 hown hK.1 hP 0 rfl rfl 12 (by decide) wf87 (fun _ h9 => h9) rfl dX6_nextToken_39 ?_
    refine lv_aload_n hx hb dX6_nextToken_42 rfl (lv_at hl 0 rfl) ?_
    refine va_get (D := D) (ci := 6) (v := .int (nI tl)) (C := RX6) (T := TX6) (N := 24) hx hb hts hi6 hown hK.1 hP 0 rfl rfl 11 (by decide) wf74 (fun _ h9 => h9) rfl dX6_nextToken_43 ?_
    refine lv_icmp_ne (tgt := 53) hx hb dX6_nextToken_46 (by decide) (fun c_2 => ?_) (fun c_2 => ?_)
    · skip
      have c_2 : ¬ (ta = tl) := fun h => c_2 ((nI_eq (a := ta) (b := tl) (by omega) (by omega)).mpr h)
      exfalso
      omega
    · skip
      have c_2 : ta = tl := (nI_eq (a := ta) (b := tl) (by omega) (by omega)).mp c_2
      refine lv_iconst (v := 1) hx hb dX6_nextToken_49 (by decide) ?_
      refine lv_goto (tgt := 118) hx hb dX6_nextToken_50 (by decide) ?_
      refine va_put (D := D) (ci := 6) (v := .int 1) (ty := .int) (C := RX6) (T := TX6) (N := 24) hx hb hts hi6 tyX6 tyX6_ok nmX6 hown hK.1 hP hD hS 0 rfl rfl 14 (by decide) wf102 (fun _ h9 => h9) rfl (by decide +kernel) rfl rfl (Nat.le_of_ble_eq_true rfl) dX6_nextToken_118 (fun H locs hP hD hS => ?_)
      have hP : va_P D vwCl [(md, .inr (6, [vm_0, vm_1, vm_2, vm_3, vm_4, vm_5, vm_6, vm_7, vm_8, vm_9, .ref bt, .int (nI tl), .int (nI ta), .int (nI ta), .int 1, .int (-1000000), .int bd, .int s17, vm_18, vm_19, vm_20, vm_21, vm_22, vm_23])), (bt, .inl (cI, 120, .inl bf))] H := hP
      have hD : va_D A [(md, .inr (6, [vm_0, vm_1, vm_2, vm_3, vm_4, vm_5, vm_6, vm_7, vm_8, vm_9, .ref bt, .int (nI tl), .int (nI ta), .int (nI ta), .int 1, .int (-1000000), .int bd, .int s17, vm_18, vm_19, vm_20, vm_21, vm_22, vm_23])), (bt, .inl (cI, 120, .inl bf))] := hD
      refine lv_aload_n hx hb dX6_nextToken_121 rfl (lv_at hl 0 rfl) ?_
      refine lv_dup hx hb dX6_nextToken_122 rfl ?_
      refine va_get (D := D) (ci := 6) (v := .int (nI ta)) (C := RX6) (T := TX6) (N := 24) hx hb hts hi6 hown hK.1 hP 0 rfl rfl 12 (by decide) wf87 (fun _ h9 => h9) rfl dX6_nextToken_123 ?_
      refine lv_aload_n hx hb dX6_nextToken_126 rfl (lv_at hl 0 rfl) ?_
      refine va_get (D := D) (ci := 6) (v := .int (nI ta)) (C := RX6) (T := TX6) (N := 24) hx hb hts hi6 hown hK.1 hP 0 rfl rfl 12 (by decide) wf87 (fun _ h9 => h9) rfl dX6_nextToken_127 ?_
      refine lv_aload_n hx hb dX6_nextToken_130 rfl (lv_at hl 0 rfl) ?_
      refine va_get (D := D) (ci := 6) (v := .int (nI tl)) (C := RX6) (T := TX6) (N := 24) hx hb hts hi6 hown hK.1 hP 0 rfl rfl 11 (by decide) wf74 (fun _ h9 => h9) rfl dX6_nextToken_131 ?_
      refine lv_icmp_ge (tgt := 141) hx hb dX6_nextToken_134 (by decide) (fun c_3 => ?_) (fun c_3 => ?_)
      · skip
        have c_3 : tl ≤ ta := (nI_leI (a := tl) (b := ta) (by omega) (by omega)).mp c_3
        refine lv_iconst (v := 0) hx hb dX6_nextToken_141 (by decide) ?_
        refine lv_iadd hx hb dX6_nextToken_142 ?_
        refine wt_top (z := nI (ta + 0)) (nI_add ta 0) ?_
        refine va_put (D := D) (ci := 6) (v := .int (nI (ta + 0))) (ty := .int) (C := RX6) (T := TX6) (N := 24) hx hb hts hi6 tyX6 tyX6_ok nmX6 hown hK.1 hP hD hS 0 rfl rfl 12 (by decide) wf87 (fun _ h9 => h9) rfl (by decide +kernel) rfl rfl (Nat.le_of_ble_eq_true rfl) dX6_nextToken_143 (fun H locs hP hD hS => ?_)
        have hP : va_P D vwCl [(md, .inr (6, [vm_0, vm_1, vm_2, vm_3, vm_4, vm_5, vm_6, vm_7, vm_8, vm_9, .ref bt, .int (nI tl), .int (nI (ta + 0)), .int (nI ta), .int 1, .int (-1000000), .int bd, .int s17, vm_18, vm_19, vm_20, vm_21, vm_22, vm_23])), (bt, .inl (cI, 120, .inl bf))] H := hP
        have hD : va_D A [(md, .inr (6, [vm_0, vm_1, vm_2, vm_3, vm_4, vm_5, vm_6, vm_7, vm_8, vm_9, .ref bt, .int (nI tl), .int (nI (ta + 0)), .int (nI ta), .int 1, .int (-1000000), .int bd, .int s17, vm_18, vm_19, vm_20, vm_21, vm_22, vm_23])), (bt, .inl (cI, 120, .inl bf))] := hD
        refine lv_aload_n hx hb dX6_nextToken_146 rfl (lv_at hl 0 rfl) ?_
        refine va_get (D := D) (ci := 6) (v := .int 1) (C := RX6) (T := TX6) (N := 24) hx hb hts hi6 hown hK.1 hP 0 rfl rfl 14 (by decide) wf102 (fun _ h9 => h9) rfl dX6_nextToken_147 ?_
        refine lv_iconst (v := 3) hx hb dX6_nextToken_150 (by decide) ?_
        refine lv_icmp_ne (tgt := 277) hx hb dX6_nextToken_151 (by decide) (fun _ => ?_) (fun h => absurd h (by decide))
        have hP9 := hP.sub (ws' := [(md, .inr (6, [vm_0, vm_1, vm_2, vm_3, vm_4, vm_5, vm_6, vm_7, vm_8, vm_9, .ref bt, .int (nI tl), .int (nI (ta + 0)), .int (nI ta), .int 1, .int (-1000000), .int bd, .int s17, vm_18, vm_19, vm_20, vm_21, vm_22, vm_23])), (bt, .inl (cI, 120, .inl bf))]) [0, 1] rfl
        have hD9 := hD.sub (ws' := [(md, .inr (6, [vm_0, vm_1, vm_2, vm_3, vm_4, vm_5, vm_6, vm_7, vm_8, vm_9, .ref bt, .int (nI tl), .int (nI (ta + 0)), .int (nI ta), .int 1, .int (-1000000), .int bd, .int s17, vm_18, vm_19, vm_20, vm_21, vm_22, vm_23])), (bt, .inl (cI, 120, .inl bf))]) [0, 1] (by decide) rfl
        exact wt_vret hx hb hr hlocks hP9 hD9 hS ⟨(ta + 0), (nI ta), 1, (-1000000), rfl, ⟨rfl, tk_end (by omega), by omega⟩⟩ dX6_nextToken_277
      · skip
        have c_3 : ¬ (tl ≤ ta) := fun h => c_3 ((nI_leI (a := tl) (b := ta) (by omega) (by omega)).mpr h)
        exfalso
        omega
  · skip
    have c_1 : ¬ (tl ≤ ta) := fun h => c_1 ((nI_leI (a := tl) (b := ta) (by omega) (by omega)).mpr h)
    refine lv_aload_n hx hb dX6_nextToken_20 rfl (lv_at hl 0 rfl) ?_
    refine va_get (D := D) (ci := 6) (v := .ref bt) (C := RX6) (T := TX6) (N := 24) hx hb hts hi6 hown hK.1 hP 0 rfl rfl 10 (by decide) wf31 (fun _ h9 => h9) rfl dX6_nextToken_21 ?_
    refine lv_aload_n hx hb dX6_nextToken_24 rfl (lv_at hl 0 rfl) ?_
    refine va_get (D := D) (ci := 6) (v := .int (nI ta)) (C := RX6) (T := TX6) (N := 24) hx hb hts hi6 hown hK.1 hP 0 rfl rfl 12 (by decide) wf87 (fun _ h9 => h9) rfl dX6_nextToken_25 ?_
    refine va_iald hx hb hK.1 hP 1 0 rfl rfl (vp_in_nI (by omega) (by omega)) dX6_nextToken_28 ?_
    refine wt_top (z := bf ta) (by rw [nI_clamp (by omega)]) ?_
    refine lv_goto (tgt := 34) hx hb dX6_nextToken_29 (by decide) ?_
    refine va_put (D := D) (ci := 6) (v := .int (bf ta)) (ty := .int) (C := RX6) (T := TX6) (N := 24) hx hb hts hi6 tyX6 tyX6_ok nmX6 hown hK.1 hP hD hS 0 rfl rfl 15 (by decide) wf91 (fun _ h9 => h9) rfl (by decide +kernel) rfl rfl (Nat.le_of_ble_eq_true rfl) dX6_nextToken_34 (fun H locs hP hD hS => ?_)
    have hP : va_P D vwCl [(md, .inr (6, [vm_0, vm_1, vm_2, vm_3, vm_4, vm_5, vm_6, vm_7, vm_8, vm_9, .ref bt, .int (nI tl), .int (nI ta), .int (nI ta), .int s14, .int (bf ta), .int bd, .int s17, vm_18, vm_19, vm_20, vm_21, vm_22, vm_23])), (bt, .inl (cI, 120, .inl bf))] H := hP
    have hD : va_D A [(md, .inr (6, [vm_0, vm_1, vm_2, vm_3, vm_4, vm_5, vm_6, vm_7, vm_8, vm_9, .ref bt, .int (nI tl), .int (nI ta), .int (nI ta), .int s14, .int (bf ta), .int bd, .int s17, vm_18, vm_19, vm_20, vm_21, vm_22, vm_23])), (bt, .inl (cI, 120, .inl bf))] := hD
    refine lv_aload_n hx hb dX6_nextToken_37 rfl (lv_at hl 0 rfl) ?_
    refine lv_aload_n hx hb dX6_nextToken_38 rfl (lv_at hl 0 rfl) ?_
    refine va_get (D := D) (ci := 6) (v := .int (nI ta)) (C := RX6) (T := TX6) (N := 24) hx hb hts hi6 hown hK.1 hP 0 rfl rfl 12 (by decide) wf87 (fun _ h9 => h9) rfl dX6_nextToken_39 ?_
    refine lv_aload_n hx hb dX6_nextToken_42 rfl (lv_at hl 0 rfl) ?_
    refine va_get (D := D) (ci := 6) (v := .int (nI tl)) (C := RX6) (T := TX6) (N := 24) hx hb hts hi6 hown hK.1 hP 0 rfl rfl 11 (by decide) wf74 (fun _ h9 => h9) rfl dX6_nextToken_43 ?_
    refine lv_icmp_ne (tgt := 53) hx hb dX6_nextToken_46 (by decide) (fun c_4 => ?_) (fun c_4 => ?_)
    · skip
      have c_4 : ¬ (ta = tl) := fun h => c_4 ((nI_eq (a := ta) (b := tl) (by omega) (by omega)).mpr h)
      refine lv_aload_n hx hb dX6_nextToken_53 rfl (lv_at hl 0 rfl) ?_
      refine va_get (D := D) (ci := 6) (v := .int (bf ta)) (C := RX6) (T := TX6) (N := 24) hx hb hts hi6 hown hK.1 hP 0 rfl rfl 15 (by decide) wf91 (fun _ h9 => h9) rfl dX6_nextToken_54 ?_
      refine lv_i2l hx hb dX6_nextToken_57 rfl ?_
      refine lv_ldc2 hx hb hown wl94 dX6_nextToken_58 ?_
      refine lv_ldc2 hx hb hown wl96 dX6_nextToken_61 ?_
      refine wt_rS (As := [.long ((bf ta).toInt64), .long 97, .long 122]) (rest := [.ref md]) ⟨hx, hb, hml, hown, hts⟩ (c_X6_in l D cI cZ cH ((bf ta).toInt64) 97 122) (va_cwS 3 hts gX6_nextToken_X6_in rfl rfl rfl (by decide +kernel) ⟨Nat.le_of_ble_eq_true rfl, Nat.le_of_ble_eq_true rfl⟩) hK hP [] rfl rfl hl.1 rfl (Nat.le_of_ble_eq_true rfl) dX6_nextToken_64 ⟨Nat.le_of_ble_eq_true rfl, Nat.le_of_ble_eq_true rfl⟩ (fun r_5 e_6 => ?_)
      subst e_6
      refine wt_top (z := wI (bf ta) 97 122) (wL_I' (by decide) (by decide)) ?_
      refine lv_if_eq (tgt := 74) hx hb dX6_nextToken_67 (by decide) (fun c_7 => ?_) (fun c_7 => ?_)
      · skip
        refine lv_aload_n hx hb dX6_nextToken_74 rfl (lv_at hl 0 rfl) ?_
        refine va_get (D := D) (ci := 6) (v := .int (bf ta)) (C := RX6) (T := TX6) (N := 24) hx hb hts hi6 hown hK.1 hP 0 rfl rfl 15 (by decide) wf91 (fun _ h9 => h9) rfl dX6_nextToken_75 ?_
        refine lv_i2l hx hb dX6_nextToken_78 rfl ?_
        refine lv_ldc2 hx hb hown wl98 dX6_nextToken_79 ?_
        refine lv_ldc2 hx hb hown wl100 dX6_nextToken_82 ?_
        refine wt_rS (As := [.long ((bf ta).toInt64), .long 48, .long 57]) (rest := [.ref md]) ⟨hx, hb, hml, hown, hts⟩ (c_X6_in l D cI cZ cH ((bf ta).toInt64) 48 57) (va_cwS 3 hts gX6_nextToken_X6_in rfl rfl rfl (by decide +kernel) ⟨Nat.le_of_ble_eq_true rfl, Nat.le_of_ble_eq_true rfl⟩) hK hP [] rfl rfl hl.1 rfl (Nat.le_of_ble_eq_true rfl) dX6_nextToken_85 ⟨Nat.le_of_ble_eq_true rfl, Nat.le_of_ble_eq_true rfl⟩ (fun r_8 e_9 => ?_)
        subst e_9
        refine wt_top (z := wI (bf ta) 48 57) (wL_I' (by decide) (by decide)) ?_
        refine lv_if_eq (tgt := 95) hx hb dX6_nextToken_88 (by decide) (fun c_10 => ?_) (fun c_10 => ?_)
        · skip
          refine lv_aload_n hx hb dX6_nextToken_95 rfl (lv_at hl 0 rfl) ?_
          refine va_get (D := D) (ci := 6) (v := .int (bf ta)) (C := RX6) (T := TX6) (N := 24) hx hb hts hi6 hown hK.1 hP 0 rfl rfl 15 (by decide) wf91 (fun _ h9 => h9) rfl dX6_nextToken_96 ?_
          refine lv_bipush (v := 44) hx hb dX6_nextToken_99 (by decide) ?_
          refine lv_icmp_eq (tgt := 113) hx hb dX6_nextToken_101 (by decide) (fun c_11 => ?_) (fun c_11 => ?_)
          · skip
            refine lv_iconst (v := 4) hx hb dX6_nextToken_113 (by decide) ?_
            refine lv_goto (tgt := 118) hx hb dX6_nextToken_114 (by decide) ?_
            refine va_put (D := D) (ci := 6) (v := .int 4) (ty := .int) (C := RX6) (T := TX6) (N := 24) hx hb hts hi6 tyX6 tyX6_ok nmX6 hown hK.1 hP hD hS 0 rfl rfl 14 (by decide) wf102 (fun _ h9 => h9) rfl (by decide +kernel) rfl rfl (Nat.le_of_ble_eq_true rfl) dX6_nextToken_118 (fun H locs hP hD hS => ?_)
            have hP : va_P D vwCl [(md, .inr (6, [vm_0, vm_1, vm_2, vm_3, vm_4, vm_5, vm_6, vm_7, vm_8, vm_9, .ref bt, .int (nI tl), .int (nI ta), .int (nI ta), .int 4, .int (bf ta), .int bd, .int s17, vm_18, vm_19, vm_20, vm_21, vm_22, vm_23])), (bt, .inl (cI, 120, .inl bf))] H := hP
            have hD : va_D A [(md, .inr (6, [vm_0, vm_1, vm_2, vm_3, vm_4, vm_5, vm_6, vm_7, vm_8, vm_9, .ref bt, .int (nI tl), .int (nI ta), .int (nI ta), .int 4, .int (bf ta), .int bd, .int s17, vm_18, vm_19, vm_20, vm_21, vm_22, vm_23])), (bt, .inl (cI, 120, .inl bf))] := hD
            refine lv_aload_n hx hb dX6_nextToken_121 rfl (lv_at hl 0 rfl) ?_
            refine lv_dup hx hb dX6_nextToken_122 rfl ?_
            refine va_get (D := D) (ci := 6) (v := .int (nI ta)) (C := RX6) (T := TX6) (N := 24) hx hb hts hi6 hown hK.1 hP 0 rfl rfl 12 (by decide) wf87 (fun _ h9 => h9) rfl dX6_nextToken_123 ?_
            refine lv_aload_n hx hb dX6_nextToken_126 rfl (lv_at hl 0 rfl) ?_
            refine va_get (D := D) (ci := 6) (v := .int (nI ta)) (C := RX6) (T := TX6) (N := 24) hx hb hts hi6 hown hK.1 hP 0 rfl rfl 12 (by decide) wf87 (fun _ h9 => h9) rfl dX6_nextToken_127 ?_
            refine lv_aload_n hx hb dX6_nextToken_130 rfl (lv_at hl 0 rfl) ?_
            refine va_get (D := D) (ci := 6) (v := .int (nI tl)) (C := RX6) (T := TX6) (N := 24) hx hb hts hi6 hown hK.1 hP 0 rfl rfl 11 (by decide) wf74 (fun _ h9 => h9) rfl dX6_nextToken_131 ?_
            refine lv_icmp_ge (tgt := 141) hx hb dX6_nextToken_134 (by decide) (fun c_12 => ?_) (fun c_12 => ?_)
            · skip
              have c_12 : tl ≤ ta := (nI_leI (a := tl) (b := ta) (by omega) (by omega)).mp c_12
              exfalso
              omega
            · skip
              have c_12 : ¬ (tl ≤ ta) := fun h => c_12 ((nI_leI (a := tl) (b := ta) (by omega) (by omega)).mpr h)
              refine lv_iconst (v := 1) hx hb dX6_nextToken_137 (by decide) ?_
              refine lv_goto (tgt := 142) hx hb dX6_nextToken_138 (by decide) ?_
              refine lv_iadd hx hb dX6_nextToken_142 ?_
              refine wt_top (z := nI (ta + 1)) (nI_add ta 1) ?_
              refine va_put (D := D) (ci := 6) (v := .int (nI (ta + 1))) (ty := .int) (C := RX6) (T := TX6) (N := 24) hx hb hts hi6 tyX6 tyX6_ok nmX6 hown hK.1 hP hD hS 0 rfl rfl 12 (by decide) wf87 (fun _ h9 => h9) rfl (by decide +kernel) rfl rfl (Nat.le_of_ble_eq_true rfl) dX6_nextToken_143 (fun H locs hP hD hS => ?_)
              have hP : va_P D vwCl [(md, .inr (6, [vm_0, vm_1, vm_2, vm_3, vm_4, vm_5, vm_6, vm_7, vm_8, vm_9, .ref bt, .int (nI tl), .int (nI (ta + 1)), .int (nI ta), .int 4, .int (bf ta), .int bd, .int s17, vm_18, vm_19, vm_20, vm_21, vm_22, vm_23])), (bt, .inl (cI, 120, .inl bf))] H := hP
              have hD : va_D A [(md, .inr (6, [vm_0, vm_1, vm_2, vm_3, vm_4, vm_5, vm_6, vm_7, vm_8, vm_9, .ref bt, .int (nI tl), .int (nI (ta + 1)), .int (nI ta), .int 4, .int (bf ta), .int bd, .int s17, vm_18, vm_19, vm_20, vm_21, vm_22, vm_23])), (bt, .inl (cI, 120, .inl bf))] := hD
              refine lv_aload_n hx hb dX6_nextToken_146 rfl (lv_at hl 0 rfl) ?_
              refine va_get (D := D) (ci := 6) (v := .int 4) (C := RX6) (T := TX6) (N := 24) hx hb hts hi6 hown hK.1 hP 0 rfl rfl 14 (by decide) wf102 (fun _ h9 => h9) rfl dX6_nextToken_147 ?_
              refine lv_iconst (v := 3) hx hb dX6_nextToken_150 (by decide) ?_
              refine lv_icmp_ne (tgt := 277) hx hb dX6_nextToken_151 (by decide) (fun _ => ?_) (fun h => absurd h (by decide))
              have hP9 := hP.sub (ws' := [(md, .inr (6, [vm_0, vm_1, vm_2, vm_3, vm_4, vm_5, vm_6, vm_7, vm_8, vm_9, .ref bt, .int (nI tl), .int (nI (ta + 1)), .int (nI ta), .int 4, .int (bf ta), .int bd, .int s17, vm_18, vm_19, vm_20, vm_21, vm_22, vm_23])), (bt, .inl (cI, 120, .inl bf))]) [0, 1] rfl
              have hD9 := hD.sub (ws' := [(md, .inr (6, [vm_0, vm_1, vm_2, vm_3, vm_4, vm_5, vm_6, vm_7, vm_8, vm_9, .ref bt, .int (nI tl), .int (nI (ta + 1)), .int (nI ta), .int 4, .int (bf ta), .int bd, .int s17, vm_18, vm_19, vm_20, vm_21, vm_22, vm_23])), (bt, .inl (cI, 120, .inl bf))]) [0, 1] (by decide) rfl
              exact wt_vret hx hb hr hlocks hP9 hD9 hS ⟨(ta + 1), (nI ta), 4, (bf ta), rfl, ⟨rfl, tk_sign (by omega) c_7 c_10 (Or.inl c_11), by omega⟩⟩ dX6_nextToken_277
          · skip
            refine lv_aload_n hx hb dX6_nextToken_104 rfl (lv_at hl 0 rfl) ?_
            refine va_get (D := D) (ci := 6) (v := .int (bf ta)) (C := RX6) (T := TX6) (N := 24) hx hb hts hi6 hown hK.1 hP 0 rfl rfl 15 (by decide) wf91 (fun _ h9 => h9) rfl dX6_nextToken_105 ?_
            refine lv_bipush (v := 59) hx hb dX6_nextToken_108 (by decide) ?_
            refine lv_icmp_ne (tgt := 117) hx hb dX6_nextToken_110 (by decide) (fun c_13 => ?_) (fun c_13 => ?_)
            · skip
              refine lv_iconst (v := 0) hx hb dX6_nextToken_117 (by decide) ?_
              refine va_put (D := D) (ci := 6) (v := .int 0) (ty := .int) (C := RX6) (T := TX6) (N := 24) hx hb hts hi6 tyX6 tyX6_ok nmX6 hown hK.1 hP hD hS 0 rfl rfl 14 (by decide) wf102 (fun _ h9 => h9) rfl (by decide +kernel) rfl rfl (Nat.le_of_ble_eq_true rfl) dX6_nextToken_118 (fun H locs hP hD hS => ?_)
              have hP : va_P D vwCl [(md, .inr (6, [vm_0, vm_1, vm_2, vm_3, vm_4, vm_5, vm_6, vm_7, vm_8, vm_9, .ref bt, .int (nI tl), .int (nI ta), .int (nI ta), .int 0, .int (bf ta), .int bd, .int s17, vm_18, vm_19, vm_20, vm_21, vm_22, vm_23])), (bt, .inl (cI, 120, .inl bf))] H := hP
              have hD : va_D A [(md, .inr (6, [vm_0, vm_1, vm_2, vm_3, vm_4, vm_5, vm_6, vm_7, vm_8, vm_9, .ref bt, .int (nI tl), .int (nI ta), .int (nI ta), .int 0, .int (bf ta), .int bd, .int s17, vm_18, vm_19, vm_20, vm_21, vm_22, vm_23])), (bt, .inl (cI, 120, .inl bf))] := hD
              refine lv_aload_n hx hb dX6_nextToken_121 rfl (lv_at hl 0 rfl) ?_
              refine lv_dup hx hb dX6_nextToken_122 rfl ?_
              refine va_get (D := D) (ci := 6) (v := .int (nI ta)) (C := RX6) (T := TX6) (N := 24) hx hb hts hi6 hown hK.1 hP 0 rfl rfl 12 (by decide) wf87 (fun _ h9 => h9) rfl dX6_nextToken_123 ?_
              refine lv_aload_n hx hb dX6_nextToken_126 rfl (lv_at hl 0 rfl) ?_
              refine va_get (D := D) (ci := 6) (v := .int (nI ta)) (C := RX6) (T := TX6) (N := 24) hx hb hts hi6 hown hK.1 hP 0 rfl rfl 12 (by decide) wf87 (fun _ h9 => h9) rfl dX6_nextToken_127 ?_
              refine lv_aload_n hx hb dX6_nextToken_130 rfl (lv_at hl 0 rfl) ?_
              refine va_get (D := D) (ci := 6) (v := .int (nI tl)) (C := RX6) (T := TX6) (N := 24) hx hb hts hi6 hown hK.1 hP 0 rfl rfl 11 (by decide) wf74 (fun _ h9 => h9) rfl dX6_nextToken_131 ?_
              refine lv_icmp_ge (tgt := 141) hx hb dX6_nextToken_134 (by decide) (fun c_14 => ?_) (fun c_14 => ?_)
              · skip
                have c_14 : tl ≤ ta := (nI_leI (a := tl) (b := ta) (by omega) (by omega)).mp c_14
                exfalso
                omega
              · skip
                have c_14 : ¬ (tl ≤ ta) := fun h => c_14 ((nI_leI (a := tl) (b := ta) (by omega) (by omega)).mpr h)
                refine lv_iconst (v := 1) hx hb dX6_nextToken_137 (by decide) ?_
                refine lv_goto (tgt := 142) hx hb dX6_nextToken_138 (by decide) ?_
                refine lv_iadd hx hb dX6_nextToken_142 ?_
                refine wt_top (z := nI (ta + 1)) (nI_add ta 1) ?_
                refine va_put (D := D) (ci := 6) (v := .int (nI (ta + 1))) (ty := .int) (C := RX6) (T := TX6) (N := 24) hx hb hts hi6 tyX6 tyX6_ok nmX6 hown hK.1 hP hD hS 0 rfl rfl 12 (by decide) wf87 (fun _ h9 => h9) rfl (by decide +kernel) rfl rfl (Nat.le_of_ble_eq_true rfl) dX6_nextToken_143 (fun H locs hP hD hS => ?_)
                have hP : va_P D vwCl [(md, .inr (6, [vm_0, vm_1, vm_2, vm_3, vm_4, vm_5, vm_6, vm_7, vm_8, vm_9, .ref bt, .int (nI tl), .int (nI (ta + 1)), .int (nI ta), .int 0, .int (bf ta), .int bd, .int s17, vm_18, vm_19, vm_20, vm_21, vm_22, vm_23])), (bt, .inl (cI, 120, .inl bf))] H := hP
                have hD : va_D A [(md, .inr (6, [vm_0, vm_1, vm_2, vm_3, vm_4, vm_5, vm_6, vm_7, vm_8, vm_9, .ref bt, .int (nI tl), .int (nI (ta + 1)), .int (nI ta), .int 0, .int (bf ta), .int bd, .int s17, vm_18, vm_19, vm_20, vm_21, vm_22, vm_23])), (bt, .inl (cI, 120, .inl bf))] := hD
                refine lv_aload_n hx hb dX6_nextToken_146 rfl (lv_at hl 0 rfl) ?_
                refine va_get (D := D) (ci := 6) (v := .int 0) (C := RX6) (T := TX6) (N := 24) hx hb hts hi6 hown hK.1 hP 0 rfl rfl 14 (by decide) wf102 (fun _ h9 => h9) rfl dX6_nextToken_147 ?_
                refine lv_iconst (v := 3) hx hb dX6_nextToken_150 (by decide) ?_
                refine lv_icmp_ne (tgt := 277) hx hb dX6_nextToken_151 (by decide) (fun _ => ?_) (fun h => absurd h (by decide))
                have hP9 := hP.sub (ws' := [(md, .inr (6, [vm_0, vm_1, vm_2, vm_3, vm_4, vm_5, vm_6, vm_7, vm_8, vm_9, .ref bt, .int (nI tl), .int (nI (ta + 1)), .int (nI ta), .int 0, .int (bf ta), .int bd, .int s17, vm_18, vm_19, vm_20, vm_21, vm_22, vm_23])), (bt, .inl (cI, 120, .inl bf))]) [0, 1] rfl
                have hD9 := hD.sub (ws' := [(md, .inr (6, [vm_0, vm_1, vm_2, vm_3, vm_4, vm_5, vm_6, vm_7, vm_8, vm_9, .ref bt, .int (nI tl), .int (nI (ta + 1)), .int (nI ta), .int 0, .int (bf ta), .int bd, .int s17, vm_18, vm_19, vm_20, vm_21, vm_22, vm_23])), (bt, .inl (cI, 120, .inl bf))]) [0, 1] (by decide) rfl
                exact wt_vret hx hb hr hlocks hP9 hD9 hS ⟨(ta + 1), (nI ta), 0, (bf ta), rfl, ⟨rfl, tk_none (by omega) c_7 c_10 c_11 c_13, by omega⟩⟩ dX6_nextToken_277
            · skip
              refine lv_iconst (v := 4) hx hb dX6_nextToken_113 (by decide) ?_
              refine lv_goto (tgt := 118) hx hb dX6_nextToken_114 (by decide) ?_
              refine va_put (D := D) (ci := 6) (v := .int 4) (ty := .int) (C := RX6) (T := TX6) (N := 24) hx hb hts hi6 tyX6 tyX6_ok nmX6 hown hK.1 hP hD hS 0 rfl rfl 14 (by decide) wf102 (fun _ h9 => h9) rfl (by decide +kernel) rfl rfl (Nat.le_of_ble_eq_true rfl) dX6_nextToken_118 (fun H locs hP hD hS => ?_)
              have hP : va_P D vwCl [(md, .inr (6, [vm_0, vm_1, vm_2, vm_3, vm_4, vm_5, vm_6, vm_7, vm_8, vm_9, .ref bt, .int (nI tl), .int (nI ta), .int (nI ta), .int 4, .int (bf ta), .int bd, .int s17, vm_18, vm_19, vm_20, vm_21, vm_22, vm_23])), (bt, .inl (cI, 120, .inl bf))] H := hP
              have hD : va_D A [(md, .inr (6, [vm_0, vm_1, vm_2, vm_3, vm_4, vm_5, vm_6, vm_7, vm_8, vm_9, .ref bt, .int (nI tl), .int (nI ta), .int (nI ta), .int 4, .int (bf ta), .int bd, .int s17, vm_18, vm_19, vm_20, vm_21, vm_22, vm_23])), (bt, .inl (cI, 120, .inl bf))] := hD
              refine lv_aload_n hx hb dX6_nextToken_121 rfl (lv_at hl 0 rfl) ?_
              refine lv_dup hx hb dX6_nextToken_122 rfl ?_
              refine va_get (D := D) (ci := 6) (v := .int (nI ta)) (C := RX6) (T := TX6) (N := 24) hx hb hts hi6 hown hK.1 hP 0 rfl rfl 12 (by decide) wf87 (fun _ h9 => h9) rfl dX6_nextToken_123 ?_
              refine lv_aload_n hx hb dX6_nextToken_126 rfl (lv_at hl 0 rfl) ?_
              refine va_get (D := D) (ci := 6) (v := .int (nI ta)) (C := RX6) (T := TX6) (N := 24) hx hb hts hi6 hown hK.1 hP 0 rfl rfl 12 (by decide) wf87 (fun _ h9 => h9) rfl dX6_nextToken_127 ?_
              refine lv_aload_n hx hb dX6_nextToken_130 rfl (lv_at hl 0 rfl) ?_
              refine va_get (D := D) (ci := 6) (v := .int (nI tl)) (C := RX6) (T := TX6) (N := 24) hx hb hts hi6 hown hK.1 hP 0 rfl rfl 11 (by decide) wf74 (fun _ h9 => h9) rfl dX6_nextToken_131 ?_
              refine lv_icmp_ge (tgt := 141) hx hb dX6_nextToken_134 (by decide) (fun c_15 => ?_) (fun c_15 => ?_)
              · skip
                have c_15 : tl ≤ ta := (nI_leI (a := tl) (b := ta) (by omega) (by omega)).mp c_15
                exfalso
                omega
              · skip
                have c_15 : ¬ (tl ≤ ta) := fun h => c_15 ((nI_leI (a := tl) (b := ta) (by omega) (by omega)).mpr h)
                refine lv_iconst (v := 1) hx hb dX6_nextToken_137 (by decide) ?_
                refine lv_goto (tgt := 142) hx hb dX6_nextToken_138 (by decide) ?_
                refine lv_iadd hx hb dX6_nextToken_142 ?_
                refine wt_top (z := nI (ta + 1)) (nI_add ta 1) ?_
                refine va_put (D := D) (ci := 6) (v := .int (nI (ta + 1))) (ty := .int) (C := RX6) (T := TX6) (N := 24) hx hb hts hi6 tyX6 tyX6_ok nmX6 hown hK.1 hP hD hS 0 rfl rfl 12 (by decide) wf87 (fun _ h9 => h9) rfl (by decide +kernel) rfl rfl (Nat.le_of_ble_eq_true rfl) dX6_nextToken_143 (fun H locs hP hD hS => ?_)
                have hP : va_P D vwCl [(md, .inr (6, [vm_0, vm_1, vm_2, vm_3, vm_4, vm_5, vm_6, vm_7, vm_8, vm_9, .ref bt, .int (nI tl), .int (nI (ta + 1)), .int (nI ta), .int 4, .int (bf ta), .int bd, .int s17, vm_18, vm_19, vm_20, vm_21, vm_22, vm_23])), (bt, .inl (cI, 120, .inl bf))] H := hP
                have hD : va_D A [(md, .inr (6, [vm_0, vm_1, vm_2, vm_3, vm_4, vm_5, vm_6, vm_7, vm_8, vm_9, .ref bt, .int (nI tl), .int (nI (ta + 1)), .int (nI ta), .int 4, .int (bf ta), .int bd, .int s17, vm_18, vm_19, vm_20, vm_21, vm_22, vm_23])), (bt, .inl (cI, 120, .inl bf))] := hD
                refine lv_aload_n hx hb dX6_nextToken_146 rfl (lv_at hl 0 rfl) ?_
                refine va_get (D := D) (ci := 6) (v := .int 4) (C := RX6) (T := TX6) (N := 24) hx hb hts hi6 hown hK.1 hP 0 rfl rfl 14 (by decide) wf102 (fun _ h9 => h9) rfl dX6_nextToken_147 ?_
                refine lv_iconst (v := 3) hx hb dX6_nextToken_150 (by decide) ?_
                refine lv_icmp_ne (tgt := 277) hx hb dX6_nextToken_151 (by decide) (fun _ => ?_) (fun h => absurd h (by decide))
                have hP9 := hP.sub (ws' := [(md, .inr (6, [vm_0, vm_1, vm_2, vm_3, vm_4, vm_5, vm_6, vm_7, vm_8, vm_9, .ref bt, .int (nI tl), .int (nI (ta + 1)), .int (nI ta), .int 4, .int (bf ta), .int bd, .int s17, vm_18, vm_19, vm_20, vm_21, vm_22, vm_23])), (bt, .inl (cI, 120, .inl bf))]) [0, 1] rfl
                have hD9 := hD.sub (ws' := [(md, .inr (6, [vm_0, vm_1, vm_2, vm_3, vm_4, vm_5, vm_6, vm_7, vm_8, vm_9, .ref bt, .int (nI tl), .int (nI (ta + 1)), .int (nI ta), .int 4, .int (bf ta), .int bd, .int s17, vm_18, vm_19, vm_20, vm_21, vm_22, vm_23])), (bt, .inl (cI, 120, .inl bf))]) [0, 1] (by decide) rfl
                exact wt_vret hx hb hr hlocks hP9 hD9 hS ⟨(ta + 1), (nI ta), 4, (bf ta), rfl, ⟨rfl, tk_sign (by omega) c_7 c_10 (Or.inr c_13), by omega⟩⟩ dX6_nextToken_277
        · skip
          refine lv_iconst (v := 3) hx hb dX6_nextToken_91 (by decide) ?_
          refine lv_goto (tgt := 118) hx hb dX6_nextToken_92 (by decide) ?_
          refine va_put (D := D) (ci := 6) (v := .int 3) (ty := .int) (C := RX6) (T := TX6) (N := 24) hx hb hts hi6 tyX6 tyX6_ok nmX6 hown hK.1 hP hD hS 0 rfl rfl 14 (by decide) wf102 (fun _ h9 => h9) rfl (by decide +kernel) rfl rfl (Nat.le_of_ble_eq_true rfl) dX6_nextToken_118 (fun H locs hP hD hS => ?_)
          have hP : va_P D vwCl [(md, .inr (6, [vm_0, vm_1, vm_2, vm_3, vm_4, vm_5, vm_6, vm_7, vm_8, vm_9, .ref bt, .int (nI tl), .int (nI ta), .int (nI ta), .int 3, .int (bf ta), .int bd, .int s17, vm_18, vm_19, vm_20, vm_21, vm_22, vm_23])), (bt, .inl (cI, 120, .inl bf))] H := hP
          have hD : va_D A [(md, .inr (6, [vm_0, vm_1, vm_2, vm_3, vm_4, vm_5, vm_6, vm_7, vm_8, vm_9, .ref bt, .int (nI tl), .int (nI ta), .int (nI ta), .int 3, .int (bf ta), .int bd, .int s17, vm_18, vm_19, vm_20, vm_21, vm_22, vm_23])), (bt, .inl (cI, 120, .inl bf))] := hD
          refine lv_aload_n hx hb dX6_nextToken_121 rfl (lv_at hl 0 rfl) ?_
          refine lv_dup hx hb dX6_nextToken_122 rfl ?_
          refine va_get (D := D) (ci := 6) (v := .int (nI ta)) (C := RX6) (T := TX6) (N := 24) hx hb hts hi6 hown hK.1 hP 0 rfl rfl 12 (by decide) wf87 (fun _ h9 => h9) rfl dX6_nextToken_123 ?_
          refine lv_aload_n hx hb dX6_nextToken_126 rfl (lv_at hl 0 rfl) ?_
          refine va_get (D := D) (ci := 6) (v := .int (nI ta)) (C := RX6) (T := TX6) (N := 24) hx hb hts hi6 hown hK.1 hP 0 rfl rfl 12 (by decide) wf87 (fun _ h9 => h9) rfl dX6_nextToken_127 ?_
          refine lv_aload_n hx hb dX6_nextToken_130 rfl (lv_at hl 0 rfl) ?_
          refine va_get (D := D) (ci := 6) (v := .int (nI tl)) (C := RX6) (T := TX6) (N := 24) hx hb hts hi6 hown hK.1 hP 0 rfl rfl 11 (by decide) wf74 (fun _ h9 => h9) rfl dX6_nextToken_131 ?_
          refine lv_icmp_ge (tgt := 141) hx hb dX6_nextToken_134 (by decide) (fun c_16 => ?_) (fun c_16 => ?_)
          · skip
            have c_16 : tl ≤ ta := (nI_leI (a := tl) (b := ta) (by omega) (by omega)).mp c_16
            exfalso
            omega
          · skip
            have c_16 : ¬ (tl ≤ ta) := fun h => c_16 ((nI_leI (a := tl) (b := ta) (by omega) (by omega)).mpr h)
            refine lv_iconst (v := 1) hx hb dX6_nextToken_137 (by decide) ?_
            refine lv_goto (tgt := 142) hx hb dX6_nextToken_138 (by decide) ?_
            refine lv_iadd hx hb dX6_nextToken_142 ?_
            refine wt_top (z := nI (ta + 1)) (nI_add ta 1) ?_
            refine va_put (D := D) (ci := 6) (v := .int (nI (ta + 1))) (ty := .int) (C := RX6) (T := TX6) (N := 24) hx hb hts hi6 tyX6 tyX6_ok nmX6 hown hK.1 hP hD hS 0 rfl rfl 12 (by decide) wf87 (fun _ h9 => h9) rfl (by decide +kernel) rfl rfl (Nat.le_of_ble_eq_true rfl) dX6_nextToken_143 (fun H locs hP hD hS => ?_)
            have hP : va_P D vwCl [(md, .inr (6, [vm_0, vm_1, vm_2, vm_3, vm_4, vm_5, vm_6, vm_7, vm_8, vm_9, .ref bt, .int (nI tl), .int (nI (ta + 1)), .int (nI ta), .int 3, .int (bf ta), .int bd, .int s17, vm_18, vm_19, vm_20, vm_21, vm_22, vm_23])), (bt, .inl (cI, 120, .inl bf))] H := hP
            have hD : va_D A [(md, .inr (6, [vm_0, vm_1, vm_2, vm_3, vm_4, vm_5, vm_6, vm_7, vm_8, vm_9, .ref bt, .int (nI tl), .int (nI (ta + 1)), .int (nI ta), .int 3, .int (bf ta), .int bd, .int s17, vm_18, vm_19, vm_20, vm_21, vm_22, vm_23])), (bt, .inl (cI, 120, .inl bf))] := hD
            refine lv_aload_n hx hb dX6_nextToken_146 rfl (lv_at hl 0 rfl) ?_
            refine va_get (D := D) (ci := 6) (v := .int 3) (C := RX6) (T := TX6) (N := 24) hx hb hts hi6 hown hK.1 hP 0 rfl rfl 14 (by decide) wf102 (fun _ h9 => h9) rfl dX6_nextToken_147 ?_
            refine lv_iconst (v := 3) hx hb dX6_nextToken_150 (by decide) ?_
            refine lv_icmp_ne (tgt := 277) hx hb dX6_nextToken_151 (by decide) (fun h => absurd h (by decide)) (fun _ => ?_)
            have hd0 := dg_wI c_10
            refine lv_aload_n hx hb dX6_nextToken_154 rfl (lv_at hl 0 rfl) ?_
            refine lv_dup hx hb dX6_nextToken_155 rfl ?_
            refine va_get (D := D) (ci := 6) (v := .int (bf ta)) (C := RX6) (T := TX6) (N := 24) hx hb hts hi6 hown hK.1 hP 0 rfl rfl 15 (by decide) wf91 (fun _ h9 => h9) rfl dX6_nextToken_156 ?_
            refine lv_bipush (v := 48) hx hb dX6_nextToken_159 (by decide) ?_
            refine lv_isub hx hb dX6_nextToken_161 ?_
            refine wt_top (z := nI (dv (bf ta))) (dvS hd0) ?_
            refine va_put (D := D) (ci := 6) (v := .int (nI (dv (bf ta)))) (ty := .int) (C := RX6) (T := TX6) (N := 24) hx hb hts hi6 tyX6 tyX6_ok nmX6 hown hK.1 hP hD hS 0 rfl rfl 15 (by decide) wf91 (fun _ h9 => h9) rfl (by decide +kernel) rfl rfl (Nat.le_of_ble_eq_true rfl) dX6_nextToken_162 (fun H locs hP hD hS => ?_)
            have hP : va_P D vwCl [(md, .inr (6, [vm_0, vm_1, vm_2, vm_3, vm_4, vm_5, vm_6, vm_7, vm_8, vm_9, .ref bt, .int (nI tl), .int (nI (ta + 1)), .int (nI ta), .int 3, .int (nI (dv (bf ta))), .int bd, .int s17, vm_18, vm_19, vm_20, vm_21, vm_22, vm_23])), (bt, .inl (cI, 120, .inl bf))] H := hP
            have hD : va_D A [(md, .inr (6, [vm_0, vm_1, vm_2, vm_3, vm_4, vm_5, vm_6, vm_7, vm_8, vm_9, .ref bt, .int (nI tl), .int (nI (ta + 1)), .int (nI ta), .int 3, .int (nI (dv (bf ta))), .int bd, .int s17, vm_18, vm_19, vm_20, vm_21, vm_22, vm_23])), (bt, .inl (cI, 120, .inl bf))] := hD
            have loop165 : ∀ (k i_17 : Nat) (v_18 : Int32) (H : Heap) (locs : List Loc) (ls : Array Slot), i_17 + k = tl → (dR bf ta i_17) → (ta + 1 ≤ i_17) → (i_17 = ta + 1 → v_18 = nI (dv (bf ta))) → (ta + 2 ≤ i_17 → v_18 = nI (dv (bf ta) * 10 + dv (bf (ta + 1)))) → va_P D vwCl [(md, .inr (6, [vm_0, vm_1, vm_2, vm_3, vm_4, vm_5, vm_6, vm_7, vm_8, vm_9, .ref bt, .int (nI tl), .int (nI i_17), .int (nI ta), .int 3, .int v_18, .int bd, .int s17, vm_18, vm_19, vm_20, vm_21, vm_22, vm_23])), (bt, .inl (cI, 120, .inl bf))] H → va_D A [(md, .inr (6, [vm_0, vm_1, vm_2, vm_3, vm_4, vm_5, vm_6, vm_7, vm_8, vm_9, .ref bt, .int (nI tl), .int (nI i_17), .int (nI ta), .int 3, .int v_18, .int bd, .int s17, vm_18, vm_19, vm_20, vm_21, vm_22, vm_23])), (bt, .inl (cI, 120, .inl bf))] → va_S A s.heap H locs → lv_has ls 1 [(0, .ref md)] → W p l e ({ frames := 1, cells := 0, slots := 0, locals := 25 } : Room) s m ([.ref md] : List Value).toArray below meth c H locs 0 0 (MQ below (wt_QV D (fun w => ∃ (ta2 : Nat) (md_f13 md_f14 md_f15 : Int32), w = [(md, .inr (6, [vm_0, vm_1, vm_2, vm_3, vm_4, vm_5, vm_6, vm_7, vm_8, vm_9, .ref bt, .int (nI tl), .int (nI ta2), .int md_f13, .int md_f14, .int md_f15, .int bd, .int s17, vm_18, vm_19, vm_20, vm_21, vm_22, vm_23])), (bt, .inl (cI, 120, .inl bf))] ∧ md_f13 = nI ta ∧ TK tl bf ta ta2 md_f14 md_f15 ∧ ta2 ≤ tl) A) ([.ref md] : List Value).toArray s 0 0 A) (F0 m 165 ls []) := by
              intro k
              induction k with
              | zero =>
                intro i_17 v_18 H locs ls hik hdg hi1 hv1 hv2 hP hD hS hl
                refine lv_aload_n hx hb dX6_nextToken_165 rfl (lv_at hl 0 rfl) ?_
                refine va_get (D := D) (ci := 6) (v := .int (nI i_17)) (C := RX6) (T := TX6) (N := 24) hx hb hts hi6 hown hK.1 hP 0 rfl rfl 12 (by decide) wf87 (fun _ h9 => h9) rfl dX6_nextToken_166 ?_
                refine lv_aload_n hx hb dX6_nextToken_169 rfl (lv_at hl 0 rfl) ?_
                refine va_get (D := D) (ci := 6) (v := .int (nI tl)) (C := RX6) (T := TX6) (N := 24) hx hb hts hi6 hown hK.1 hP 0 rfl rfl 11 (by decide) wf74 (fun _ h9 => h9) rfl dX6_nextToken_170 ?_
                refine lv_icmp_ge (tgt := 255) hx hb dX6_nextToken_173 (by decide) (fun _ => ?_) (fun h => absurd (nI_le (a := tl) (b := i_17) (by omega) (by omega)) h)
                refine lv_aload_n hx hb dX6_nextToken_255 rfl (lv_at hl 0 rfl) ?_
                refine lv_aload_n hx hb dX6_nextToken_256 rfl (lv_at hl 0 rfl) ?_
                refine va_get (D := D) (ci := 6) (v := .int (nI i_17)) (C := RX6) (T := TX6) (N := 24) hx hb hts hi6 hown hK.1 hP 0 rfl rfl 12 (by decide) wf87 (fun _ h9 => h9) rfl dX6_nextToken_257 ?_
                refine lv_aload_n hx hb dX6_nextToken_260 rfl (lv_at hl 0 rfl) ?_
                refine va_get (D := D) (ci := 6) (v := .int (nI ta)) (C := RX6) (T := TX6) (N := 24) hx hb hts hi6 hown hK.1 hP 0 rfl rfl 13 (by decide) wf81 (fun _ h9 => h9) rfl dX6_nextToken_261 ?_
                refine lv_isub hx hb dX6_nextToken_264 ?_
                refine wt_top (z := nI (i_17 - ta)) (pk_sub (a := i_17) (b := ta) (by omega)) ?_
                refine lv_iconst (v := 2) hx hb dX6_nextToken_265 (by decide) ?_
                refine lv_icmp_le (tgt := 273) hx hb dX6_nextToken_266 (by decide) (fun c_19 => ?_) (fun c_19 => ?_)
                · skip
                  have c_19 : (i_17 - ta) ≤ 2 := (nI_leI (a := (i_17 - ta)) (b := 2) (by omega) (by omega)).mp c_19
                  refine lv_iconst (v := 3) hx hb dX6_nextToken_273 (by decide) ?_
                  refine va_put (D := D) (ci := 6) (v := .int 3) (ty := .int) (C := RX6) (T := TX6) (N := 24) hx hb hts hi6 tyX6 tyX6_ok nmX6 hown hK.1 hP hD hS 0 rfl rfl 14 (by decide) wf102 (fun _ h9 => h9) rfl (by decide +kernel) rfl rfl (Nat.le_of_ble_eq_true rfl) dX6_nextToken_274 (fun H locs hP hD hS => ?_)
                  have hP : va_P D vwCl [(md, .inr (6, [vm_0, vm_1, vm_2, vm_3, vm_4, vm_5, vm_6, vm_7, vm_8, vm_9, .ref bt, .int (nI tl), .int (nI i_17), .int (nI ta), .int 3, .int v_18, .int bd, .int s17, vm_18, vm_19, vm_20, vm_21, vm_22, vm_23])), (bt, .inl (cI, 120, .inl bf))] H := hP
                  have hD : va_D A [(md, .inr (6, [vm_0, vm_1, vm_2, vm_3, vm_4, vm_5, vm_6, vm_7, vm_8, vm_9, .ref bt, .int (nI tl), .int (nI i_17), .int (nI ta), .int 3, .int v_18, .int bd, .int s17, vm_18, vm_19, vm_20, vm_21, vm_22, vm_23])), (bt, .inl (cI, 120, .inl bf))] := hD
                  have hP9 := hP.sub (ws' := [(md, .inr (6, [vm_0, vm_1, vm_2, vm_3, vm_4, vm_5, vm_6, vm_7, vm_8, vm_9, .ref bt, .int (nI tl), .int (nI i_17), .int (nI ta), .int 3, .int v_18, .int bd, .int s17, vm_18, vm_19, vm_20, vm_21, vm_22, vm_23])), (bt, .inl (cI, 120, .inl bf))]) [0, 1] rfl
                  have hD9 := hD.sub (ws' := [(md, .inr (6, [vm_0, vm_1, vm_2, vm_3, vm_4, vm_5, vm_6, vm_7, vm_8, vm_9, .ref bt, .int (nI tl), .int (nI i_17), .int (nI ta), .int 3, .int v_18, .int bd, .int s17, vm_18, vm_19, vm_20, vm_21, vm_22, vm_23])), (bt, .inl (cI, 120, .inl bf))]) [0, 1] (by decide) rfl
                  exact wt_vret hx hb hr hlocks hP9 hD9 hS ⟨i_17, (nI ta), 3, v_18, rfl, ⟨rfl, tk_num hdg (by omega) (by omega) (Or.inl (by omega)) hv1 hv2 (by omega), by omega⟩⟩ dX6_nextToken_277
                · skip
                  have c_19 : ¬ ((i_17 - ta) ≤ 2) := fun h => c_19 ((nI_leI (a := (i_17 - ta)) (b := 2) (by omega) (by omega)).mpr h)
                  refine lv_iconst (v := 0) hx hb dX6_nextToken_269 (by decide) ?_
                  refine lv_goto (tgt := 274) hx hb dX6_nextToken_270 (by decide) ?_
                  refine va_put (D := D) (ci := 6) (v := .int 0) (ty := .int) (C := RX6) (T := TX6) (N := 24) hx hb hts hi6 tyX6 tyX6_ok nmX6 hown hK.1 hP hD hS 0 rfl rfl 14 (by decide) wf102 (fun _ h9 => h9) rfl (by decide +kernel) rfl rfl (Nat.le_of_ble_eq_true rfl) dX6_nextToken_274 (fun H locs hP hD hS => ?_)
                  have hP : va_P D vwCl [(md, .inr (6, [vm_0, vm_1, vm_2, vm_3, vm_4, vm_5, vm_6, vm_7, vm_8, vm_9, .ref bt, .int (nI tl), .int (nI i_17), .int (nI ta), .int 0, .int v_18, .int bd, .int s17, vm_18, vm_19, vm_20, vm_21, vm_22, vm_23])), (bt, .inl (cI, 120, .inl bf))] H := hP
                  have hD : va_D A [(md, .inr (6, [vm_0, vm_1, vm_2, vm_3, vm_4, vm_5, vm_6, vm_7, vm_8, vm_9, .ref bt, .int (nI tl), .int (nI i_17), .int (nI ta), .int 0, .int v_18, .int bd, .int s17, vm_18, vm_19, vm_20, vm_21, vm_22, vm_23])), (bt, .inl (cI, 120, .inl bf))] := hD
                  have hP9 := hP.sub (ws' := [(md, .inr (6, [vm_0, vm_1, vm_2, vm_3, vm_4, vm_5, vm_6, vm_7, vm_8, vm_9, .ref bt, .int (nI tl), .int (nI i_17), .int (nI ta), .int 0, .int v_18, .int bd, .int s17, vm_18, vm_19, vm_20, vm_21, vm_22, vm_23])), (bt, .inl (cI, 120, .inl bf))]) [0, 1] rfl
                  have hD9 := hD.sub (ws' := [(md, .inr (6, [vm_0, vm_1, vm_2, vm_3, vm_4, vm_5, vm_6, vm_7, vm_8, vm_9, .ref bt, .int (nI tl), .int (nI i_17), .int (nI ta), .int 0, .int v_18, .int bd, .int s17, vm_18, vm_19, vm_20, vm_21, vm_22, vm_23])), (bt, .inl (cI, 120, .inl bf))]) [0, 1] (by decide) rfl
                  exact wt_vret hx hb hr hlocks hP9 hD9 hS ⟨i_17, (nI ta), 0, v_18, rfl, ⟨rfl, tk_run hdg (by omega) (by omega), by omega⟩⟩ dX6_nextToken_277
              | succ k ih165 =>
                intro i_17 v_18 H locs ls hik hdg hi1 hv1 hv2 hP hD hS hl
                refine lv_aload_n hx hb dX6_nextToken_165 rfl (lv_at hl 0 rfl) ?_
                refine va_get (D := D) (ci := 6) (v := .int (nI i_17)) (C := RX6) (T := TX6) (N := 24) hx hb hts hi6 hown hK.1 hP 0 rfl rfl 12 (by decide) wf87 (fun _ h9 => h9) rfl dX6_nextToken_166 ?_
                refine lv_aload_n hx hb dX6_nextToken_169 rfl (lv_at hl 0 rfl) ?_
                refine va_get (D := D) (ci := 6) (v := .int (nI tl)) (C := RX6) (T := TX6) (N := 24) hx hb hts hi6 hown hK.1 hP 0 rfl rfl 11 (by decide) wf74 (fun _ h9 => h9) rfl dX6_nextToken_170 ?_
                refine lv_icmp_ge (tgt := 255) hx hb dX6_nextToken_173 (by decide) (fun h => absurd h (nI_ge (a := i_17) (b := tl) (by omega) (by omega))) (fun _ => ?_)
                refine lv_aload_n hx hb dX6_nextToken_176 rfl (lv_at hl 0 rfl) ?_
                refine va_get (D := D) (ci := 6) (v := .ref bt) (C := RX6) (T := TX6) (N := 24) hx hb hts hi6 hown hK.1 hP 0 rfl rfl 10 (by decide) wf31 (fun _ h9 => h9) rfl dX6_nextToken_177 ?_
                refine lv_aload_n hx hb dX6_nextToken_180 rfl (lv_at hl 0 rfl) ?_
                refine va_get (D := D) (ci := 6) (v := .int (nI i_17)) (C := RX6) (T := TX6) (N := 24) hx hb hts hi6 hown hK.1 hP 0 rfl rfl 12 (by decide) wf87 (fun _ h9 => h9) rfl dX6_nextToken_181 ?_
                refine va_iald hx hb hK.1 hP 1 0 rfl rfl (vp_in_nI (by omega) (by omega)) dX6_nextToken_184 ?_
                refine wt_top (z := bf i_17) (by rw [nI_clamp (by omega)]) ?_
                refine lv_i2l hx hb dX6_nextToken_185 rfl ?_
                refine lv_ldc2 hx hb hown wl98 dX6_nextToken_186 ?_
                refine lv_ldc2 hx hb hown wl100 dX6_nextToken_189 ?_
                refine wt_rS (As := [.long ((bf i_17).toInt64), .long 48, .long 57]) (rest := []) ⟨hx, hb, hml, hown, hts⟩ (c_X6_in l D cI cZ cH ((bf i_17).toInt64) 48 57) (va_cwS 3 hts gX6_nextToken_X6_in rfl rfl rfl (by decide +kernel) ⟨Nat.le_of_ble_eq_true rfl, Nat.le_of_ble_eq_true rfl⟩) hK hP [] rfl rfl hl.1 rfl (Nat.le_of_ble_eq_true rfl) dX6_nextToken_192 ⟨Nat.le_of_ble_eq_true rfl, Nat.le_of_ble_eq_true rfl⟩ (fun r_20 e_21 => ?_)
                subst e_21
                refine wt_top (z := wI (bf i_17) 48 57) (wL_I' (by decide) (by decide)) ?_
                refine lv_if_eq (tgt := 255) hx hb dX6_nextToken_195 (by decide) (fun c_22 => ?_) (fun c_22 => ?_)
                · skip
                  refine lv_aload_n hx hb dX6_nextToken_255 rfl (lv_at hl 0 rfl) ?_
                  refine lv_aload_n hx hb dX6_nextToken_256 rfl (lv_at hl 0 rfl) ?_
                  refine va_get (D := D) (ci := 6) (v := .int (nI i_17)) (C := RX6) (T := TX6) (N := 24) hx hb hts hi6 hown hK.1 hP 0 rfl rfl 12 (by decide) wf87 (fun _ h9 => h9) rfl dX6_nextToken_257 ?_
                  refine lv_aload_n hx hb dX6_nextToken_260 rfl (lv_at hl 0 rfl) ?_
                  refine va_get (D := D) (ci := 6) (v := .int (nI ta)) (C := RX6) (T := TX6) (N := 24) hx hb hts hi6 hown hK.1 hP 0 rfl rfl 13 (by decide) wf81 (fun _ h9 => h9) rfl dX6_nextToken_261 ?_
                  refine lv_isub hx hb dX6_nextToken_264 ?_
                  refine wt_top (z := nI (i_17 - ta)) (pk_sub (a := i_17) (b := ta) (by omega)) ?_
                  refine lv_iconst (v := 2) hx hb dX6_nextToken_265 (by decide) ?_
                  refine lv_icmp_le (tgt := 273) hx hb dX6_nextToken_266 (by decide) (fun c_23 => ?_) (fun c_23 => ?_)
                  · skip
                    have c_23 : (i_17 - ta) ≤ 2 := (nI_leI (a := (i_17 - ta)) (b := 2) (by omega) (by omega)).mp c_23
                    refine lv_iconst (v := 3) hx hb dX6_nextToken_273 (by decide) ?_
                    refine va_put (D := D) (ci := 6) (v := .int 3) (ty := .int) (C := RX6) (T := TX6) (N := 24) hx hb hts hi6 tyX6 tyX6_ok nmX6 hown hK.1 hP hD hS 0 rfl rfl 14 (by decide) wf102 (fun _ h9 => h9) rfl (by decide +kernel) rfl rfl (Nat.le_of_ble_eq_true rfl) dX6_nextToken_274 (fun H locs hP hD hS => ?_)
                    have hP : va_P D vwCl [(md, .inr (6, [vm_0, vm_1, vm_2, vm_3, vm_4, vm_5, vm_6, vm_7, vm_8, vm_9, .ref bt, .int (nI tl), .int (nI i_17), .int (nI ta), .int 3, .int v_18, .int bd, .int s17, vm_18, vm_19, vm_20, vm_21, vm_22, vm_23])), (bt, .inl (cI, 120, .inl bf))] H := hP
                    have hD : va_D A [(md, .inr (6, [vm_0, vm_1, vm_2, vm_3, vm_4, vm_5, vm_6, vm_7, vm_8, vm_9, .ref bt, .int (nI tl), .int (nI i_17), .int (nI ta), .int 3, .int v_18, .int bd, .int s17, vm_18, vm_19, vm_20, vm_21, vm_22, vm_23])), (bt, .inl (cI, 120, .inl bf))] := hD
                    have hP9 := hP.sub (ws' := [(md, .inr (6, [vm_0, vm_1, vm_2, vm_3, vm_4, vm_5, vm_6, vm_7, vm_8, vm_9, .ref bt, .int (nI tl), .int (nI i_17), .int (nI ta), .int 3, .int v_18, .int bd, .int s17, vm_18, vm_19, vm_20, vm_21, vm_22, vm_23])), (bt, .inl (cI, 120, .inl bf))]) [0, 1] rfl
                    have hD9 := hD.sub (ws' := [(md, .inr (6, [vm_0, vm_1, vm_2, vm_3, vm_4, vm_5, vm_6, vm_7, vm_8, vm_9, .ref bt, .int (nI tl), .int (nI i_17), .int (nI ta), .int 3, .int v_18, .int bd, .int s17, vm_18, vm_19, vm_20, vm_21, vm_22, vm_23])), (bt, .inl (cI, 120, .inl bf))]) [0, 1] (by decide) rfl
                    exact wt_vret hx hb hr hlocks hP9 hD9 hS ⟨i_17, (nI ta), 3, v_18, rfl, ⟨rfl, tk_num hdg (by omega) (by omega) (Or.inr (dg_nI c_22)) hv1 hv2 (by omega), by omega⟩⟩ dX6_nextToken_277
                  · skip
                    have c_23 : ¬ ((i_17 - ta) ≤ 2) := fun h => c_23 ((nI_leI (a := (i_17 - ta)) (b := 2) (by omega) (by omega)).mpr h)
                    refine lv_iconst (v := 0) hx hb dX6_nextToken_269 (by decide) ?_
                    refine lv_goto (tgt := 274) hx hb dX6_nextToken_270 (by decide) ?_
                    refine va_put (D := D) (ci := 6) (v := .int 0) (ty := .int) (C := RX6) (T := TX6) (N := 24) hx hb hts hi6 tyX6 tyX6_ok nmX6 hown hK.1 hP hD hS 0 rfl rfl 14 (by decide) wf102 (fun _ h9 => h9) rfl (by decide +kernel) rfl rfl (Nat.le_of_ble_eq_true rfl) dX6_nextToken_274 (fun H locs hP hD hS => ?_)
                    have hP : va_P D vwCl [(md, .inr (6, [vm_0, vm_1, vm_2, vm_3, vm_4, vm_5, vm_6, vm_7, vm_8, vm_9, .ref bt, .int (nI tl), .int (nI i_17), .int (nI ta), .int 0, .int v_18, .int bd, .int s17, vm_18, vm_19, vm_20, vm_21, vm_22, vm_23])), (bt, .inl (cI, 120, .inl bf))] H := hP
                    have hD : va_D A [(md, .inr (6, [vm_0, vm_1, vm_2, vm_3, vm_4, vm_5, vm_6, vm_7, vm_8, vm_9, .ref bt, .int (nI tl), .int (nI i_17), .int (nI ta), .int 0, .int v_18, .int bd, .int s17, vm_18, vm_19, vm_20, vm_21, vm_22, vm_23])), (bt, .inl (cI, 120, .inl bf))] := hD
                    have hP9 := hP.sub (ws' := [(md, .inr (6, [vm_0, vm_1, vm_2, vm_3, vm_4, vm_5, vm_6, vm_7, vm_8, vm_9, .ref bt, .int (nI tl), .int (nI i_17), .int (nI ta), .int 0, .int v_18, .int bd, .int s17, vm_18, vm_19, vm_20, vm_21, vm_22, vm_23])), (bt, .inl (cI, 120, .inl bf))]) [0, 1] rfl
                    have hD9 := hD.sub (ws' := [(md, .inr (6, [vm_0, vm_1, vm_2, vm_3, vm_4, vm_5, vm_6, vm_7, vm_8, vm_9, .ref bt, .int (nI tl), .int (nI i_17), .int (nI ta), .int 0, .int v_18, .int bd, .int s17, vm_18, vm_19, vm_20, vm_21, vm_22, vm_23])), (bt, .inl (cI, 120, .inl bf))]) [0, 1] (by decide) rfl
                    exact wt_vret hx hb hr hlocks hP9 hD9 hS ⟨i_17, (nI ta), 0, v_18, rfl, ⟨rfl, tk_run hdg (by omega) (by omega), by omega⟩⟩ dX6_nextToken_277
                · skip
                  have hdi := dg_wI c_22
                  refine lv_aload_n hx hb dX6_nextToken_198 rfl (lv_at hl 0 rfl) ?_
                  refine lv_aload_n hx hb dX6_nextToken_199 rfl (lv_at hl 0 rfl) ?_
                  refine va_get (D := D) (ci := 6) (v := .int (nI i_17)) (C := RX6) (T := TX6) (N := 24) hx hb hts hi6 hown hK.1 hP 0 rfl rfl 12 (by decide) wf87 (fun _ h9 => h9) rfl dX6_nextToken_200 ?_
                  refine lv_aload_n hx hb dX6_nextToken_203 rfl (lv_at hl 0 rfl) ?_
                  refine va_get (D := D) (ci := 6) (v := .int (nI ta)) (C := RX6) (T := TX6) (N := 24) hx hb hts hi6 hown hK.1 hP 0 rfl rfl 13 (by decide) wf81 (fun _ h9 => h9) rfl dX6_nextToken_204 ?_
                  refine lv_isub hx hb dX6_nextToken_207 ?_
                  refine wt_top (z := nI (i_17 - ta)) (pk_sub (a := i_17) (b := ta) (by omega)) ?_
                  refine lv_iconst (v := 2) hx hb dX6_nextToken_208 (by decide) ?_
                  refine lv_icmp_ge (tgt := 235) hx hb dX6_nextToken_209 (by decide) (fun c_24 => ?_) (fun c_24 => ?_)
                  · skip
                    have c_24 : 2 ≤ (i_17 - ta) := (nI_leI (a := 2) (b := (i_17 - ta)) (by omega) (by omega)).mp c_24
                    refine lv_aload_n hx hb dX6_nextToken_235 rfl (lv_at hl 0 rfl) ?_
                    refine va_get (D := D) (ci := 6) (v := .int v_18) (C := RX6) (T := TX6) (N := 24) hx hb hts hi6 hown hK.1 hP 0 rfl rfl 15 (by decide) wf91 (fun _ h9 => h9) rfl dX6_nextToken_236 ?_
                    refine va_put (D := D) (ci := 6) (v := .int v_18) (ty := .int) (C := RX6) (T := TX6) (N := 24) hx hb hts hi6 tyX6 tyX6_ok nmX6 hown hK.1 hP hD hS 0 rfl rfl 15 (by decide) wf91 (fun _ h9 => h9) rfl (by decide +kernel) rfl rfl (Nat.le_of_ble_eq_true rfl) dX6_nextToken_239 (fun H locs hP hD hS => ?_)
                    have hP : va_P D vwCl [(md, .inr (6, [vm_0, vm_1, vm_2, vm_3, vm_4, vm_5, vm_6, vm_7, vm_8, vm_9, .ref bt, .int (nI tl), .int (nI i_17), .int (nI ta), .int 3, .int v_18, .int bd, .int s17, vm_18, vm_19, vm_20, vm_21, vm_22, vm_23])), (bt, .inl (cI, 120, .inl bf))] H := hP
                    have hD : va_D A [(md, .inr (6, [vm_0, vm_1, vm_2, vm_3, vm_4, vm_5, vm_6, vm_7, vm_8, vm_9, .ref bt, .int (nI tl), .int (nI i_17), .int (nI ta), .int 3, .int v_18, .int bd, .int s17, vm_18, vm_19, vm_20, vm_21, vm_22, vm_23])), (bt, .inl (cI, 120, .inl bf))] := hD
                    refine lv_aload_n hx hb dX6_nextToken_242 rfl (lv_at hl 0 rfl) ?_
                    refine lv_dup hx hb dX6_nextToken_243 rfl ?_
                    refine va_get (D := D) (ci := 6) (v := .int (nI i_17)) (C := RX6) (T := TX6) (N := 24) hx hb hts hi6 hown hK.1 hP 0 rfl rfl 12 (by decide) wf87 (fun _ h9 => h9) rfl dX6_nextToken_244 ?_
                    refine lv_iconst (v := 1) hx hb dX6_nextToken_247 (by decide) ?_
                    refine lv_iadd hx hb dX6_nextToken_248 ?_
                    refine wt_top (z := nI (i_17 + 1)) (nI_add i_17 1) ?_
                    refine va_put (D := D) (ci := 6) (v := .int (nI (i_17 + 1))) (ty := .int) (C := RX6) (T := TX6) (N := 24) hx hb hts hi6 tyX6 tyX6_ok nmX6 hown hK.1 hP hD hS 0 rfl rfl 12 (by decide) wf87 (fun _ h9 => h9) rfl (by decide +kernel) rfl rfl (Nat.le_of_ble_eq_true rfl) dX6_nextToken_249 (fun H locs hP hD hS => ?_)
                    have hP : va_P D vwCl [(md, .inr (6, [vm_0, vm_1, vm_2, vm_3, vm_4, vm_5, vm_6, vm_7, vm_8, vm_9, .ref bt, .int (nI tl), .int (nI (i_17 + 1)), .int (nI ta), .int 3, .int v_18, .int bd, .int s17, vm_18, vm_19, vm_20, vm_21, vm_22, vm_23])), (bt, .inl (cI, 120, .inl bf))] H := hP
                    have hD : va_D A [(md, .inr (6, [vm_0, vm_1, vm_2, vm_3, vm_4, vm_5, vm_6, vm_7, vm_8, vm_9, .ref bt, .int (nI tl), .int (nI (i_17 + 1)), .int (nI ta), .int 3, .int v_18, .int bd, .int s17, vm_18, vm_19, vm_20, vm_21, vm_22, vm_23])), (bt, .inl (cI, 120, .inl bf))] := hD
                    refine lv_goto (tgt := 165) hx hb dX6_nextToken_252 (by decide) ?_
                    exact ih165 ((i_17 + 1)) v_18 H locs ls (by omega) (dR_s hdg hdi) (by omega) (fun h => absurd h (by omega)) (fun _ => hv2 (by omega)) hP hD hS (lv_sub hl [0] rfl)
                  · skip
                    have c_24 : ¬ (2 ≤ (i_17 - ta)) := fun h => c_24 ((nI_leI (a := 2) (b := (i_17 - ta)) (by omega) (by omega)).mpr h)
                    have ei : i_17 = ta + 1 := by omega
                    have ev := hv1 ei
                    subst ev
                    refine lv_bipush (v := 10) hx hb dX6_nextToken_212 (by decide) ?_
                    refine lv_aload_n hx hb dX6_nextToken_214 rfl (lv_at hl 0 rfl) ?_
                    refine va_get (D := D) (ci := 6) (v := .int (nI (dv (bf ta)))) (C := RX6) (T := TX6) (N := 24) hx hb hts hi6 hown hK.1 hP 0 rfl rfl 15 (by decide) wf91 (fun _ h9 => h9) rfl dX6_nextToken_215 ?_
                    refine lv_imul hx hb dX6_nextToken_218 ?_
                    refine wt_top (z := nI (10 * (dv (bf ta)))) (pk_mul 10 (dv (bf ta))) ?_
                    refine lv_aload_n hx hb dX6_nextToken_219 rfl (lv_at hl 0 rfl) ?_
                    refine va_get (D := D) (ci := 6) (v := .ref bt) (C := RX6) (T := TX6) (N := 24) hx hb hts hi6 hown hK.1 hP 0 rfl rfl 10 (by decide) wf31 (fun _ h9 => h9) rfl dX6_nextToken_220 ?_
                    refine lv_aload_n hx hb dX6_nextToken_223 rfl (lv_at hl 0 rfl) ?_
                    refine va_get (D := D) (ci := 6) (v := .int (nI i_17)) (C := RX6) (T := TX6) (N := 24) hx hb hts hi6 hown hK.1 hP 0 rfl rfl 12 (by decide) wf87 (fun _ h9 => h9) rfl dX6_nextToken_224 ?_
                    refine va_iald hx hb hK.1 hP 1 0 rfl rfl (vp_in_nI (by omega) (by omega)) dX6_nextToken_227 ?_
                    refine wt_top (z := bf i_17) (by rw [nI_clamp (by omega)]) ?_
                    refine lv_iadd hx hb dX6_nextToken_228 ?_
                    refine lv_bipush (v := 48) hx hb dX6_nextToken_229 (by decide) ?_
                    refine lv_isub hx hb dX6_nextToken_231 ?_
                    refine wt_top (z := nI (dv (bf ta) * 10 + dv (bf i_17))) (dvB _ hdi) ?_
                    refine lv_goto (tgt := 239) hx hb dX6_nextToken_232 (by decide) ?_
                    refine va_put (D := D) (ci := 6) (v := .int (nI (dv (bf ta) * 10 + dv (bf i_17)))) (ty := .int) (C := RX6) (T := TX6) (N := 24) hx hb hts hi6 tyX6 tyX6_ok nmX6 hown hK.1 hP hD hS 0 rfl rfl 15 (by decide) wf91 (fun _ h9 => h9) rfl (by decide +kernel) rfl rfl (Nat.le_of_ble_eq_true rfl) dX6_nextToken_239 (fun H locs hP hD hS => ?_)
                    have hP : va_P D vwCl [(md, .inr (6, [vm_0, vm_1, vm_2, vm_3, vm_4, vm_5, vm_6, vm_7, vm_8, vm_9, .ref bt, .int (nI tl), .int (nI i_17), .int (nI ta), .int 3, .int (nI (dv (bf ta) * 10 + dv (bf i_17))), .int bd, .int s17, vm_18, vm_19, vm_20, vm_21, vm_22, vm_23])), (bt, .inl (cI, 120, .inl bf))] H := hP
                    have hD : va_D A [(md, .inr (6, [vm_0, vm_1, vm_2, vm_3, vm_4, vm_5, vm_6, vm_7, vm_8, vm_9, .ref bt, .int (nI tl), .int (nI i_17), .int (nI ta), .int 3, .int (nI (dv (bf ta) * 10 + dv (bf i_17))), .int bd, .int s17, vm_18, vm_19, vm_20, vm_21, vm_22, vm_23])), (bt, .inl (cI, 120, .inl bf))] := hD
                    refine lv_aload_n hx hb dX6_nextToken_242 rfl (lv_at hl 0 rfl) ?_
                    refine lv_dup hx hb dX6_nextToken_243 rfl ?_
                    refine va_get (D := D) (ci := 6) (v := .int (nI i_17)) (C := RX6) (T := TX6) (N := 24) hx hb hts hi6 hown hK.1 hP 0 rfl rfl 12 (by decide) wf87 (fun _ h9 => h9) rfl dX6_nextToken_244 ?_
                    refine lv_iconst (v := 1) hx hb dX6_nextToken_247 (by decide) ?_
                    refine lv_iadd hx hb dX6_nextToken_248 ?_
                    refine wt_top (z := nI (i_17 + 1)) (nI_add i_17 1) ?_
                    refine va_put (D := D) (ci := 6) (v := .int (nI (i_17 + 1))) (ty := .int) (C := RX6) (T := TX6) (N := 24) hx hb hts hi6 tyX6 tyX6_ok nmX6 hown hK.1 hP hD hS 0 rfl rfl 12 (by decide) wf87 (fun _ h9 => h9) rfl (by decide +kernel) rfl rfl (Nat.le_of_ble_eq_true rfl) dX6_nextToken_249 (fun H locs hP hD hS => ?_)
                    have hP : va_P D vwCl [(md, .inr (6, [vm_0, vm_1, vm_2, vm_3, vm_4, vm_5, vm_6, vm_7, vm_8, vm_9, .ref bt, .int (nI tl), .int (nI (i_17 + 1)), .int (nI ta), .int 3, .int (nI (dv (bf ta) * 10 + dv (bf i_17))), .int bd, .int s17, vm_18, vm_19, vm_20, vm_21, vm_22, vm_23])), (bt, .inl (cI, 120, .inl bf))] H := hP
                    have hD : va_D A [(md, .inr (6, [vm_0, vm_1, vm_2, vm_3, vm_4, vm_5, vm_6, vm_7, vm_8, vm_9, .ref bt, .int (nI tl), .int (nI (i_17 + 1)), .int (nI ta), .int 3, .int (nI (dv (bf ta) * 10 + dv (bf i_17))), .int bd, .int s17, vm_18, vm_19, vm_20, vm_21, vm_22, vm_23])), (bt, .inl (cI, 120, .inl bf))] := hD
                    refine lv_goto (tgt := 165) hx hb dX6_nextToken_252 (by decide) ?_
                    exact ih165 ((i_17 + 1)) (nI (dv (bf ta) * 10 + dv (bf i_17))) H locs ls (by omega) (dR_s hdg hdi) (by omega) (fun h => absurd h (by omega)) (fun _ => by rw [ei]) hP hD hS (lv_sub hl [0] rfl)
            exact loop165 (tl - (ta + 1)) ((ta + 1)) (nI (dv (bf ta))) _ _ ls (by omega) (dR_1 hd0) (by omega) (fun _ => rfl) (fun h => absurd h (by omega)) hP hD hS hl
      · skip
        refine lv_iconst (v := 2) hx hb dX6_nextToken_70 (by decide) ?_
        refine lv_goto (tgt := 118) hx hb dX6_nextToken_71 (by decide) ?_
        refine va_put (D := D) (ci := 6) (v := .int 2) (ty := .int) (C := RX6) (T := TX6) (N := 24) hx hb hts hi6 tyX6 tyX6_ok nmX6 hown hK.1 hP hD hS 0 rfl rfl 14 (by decide) wf102 (fun _ h9 => h9) rfl (by decide +kernel) rfl rfl (Nat.le_of_ble_eq_true rfl) dX6_nextToken_118 (fun H locs hP hD hS => ?_)
        have hP : va_P D vwCl [(md, .inr (6, [vm_0, vm_1, vm_2, vm_3, vm_4, vm_5, vm_6, vm_7, vm_8, vm_9, .ref bt, .int (nI tl), .int (nI ta), .int (nI ta), .int 2, .int (bf ta), .int bd, .int s17, vm_18, vm_19, vm_20, vm_21, vm_22, vm_23])), (bt, .inl (cI, 120, .inl bf))] H := hP
        have hD : va_D A [(md, .inr (6, [vm_0, vm_1, vm_2, vm_3, vm_4, vm_5, vm_6, vm_7, vm_8, vm_9, .ref bt, .int (nI tl), .int (nI ta), .int (nI ta), .int 2, .int (bf ta), .int bd, .int s17, vm_18, vm_19, vm_20, vm_21, vm_22, vm_23])), (bt, .inl (cI, 120, .inl bf))] := hD
        refine lv_aload_n hx hb dX6_nextToken_121 rfl (lv_at hl 0 rfl) ?_
        refine lv_dup hx hb dX6_nextToken_122 rfl ?_
        refine va_get (D := D) (ci := 6) (v := .int (nI ta)) (C := RX6) (T := TX6) (N := 24) hx hb hts hi6 hown hK.1 hP 0 rfl rfl 12 (by decide) wf87 (fun _ h9 => h9) rfl dX6_nextToken_123 ?_
        refine lv_aload_n hx hb dX6_nextToken_126 rfl (lv_at hl 0 rfl) ?_
        refine va_get (D := D) (ci := 6) (v := .int (nI ta)) (C := RX6) (T := TX6) (N := 24) hx hb hts hi6 hown hK.1 hP 0 rfl rfl 12 (by decide) wf87 (fun _ h9 => h9) rfl dX6_nextToken_127 ?_
        refine lv_aload_n hx hb dX6_nextToken_130 rfl (lv_at hl 0 rfl) ?_
        refine va_get (D := D) (ci := 6) (v := .int (nI tl)) (C := RX6) (T := TX6) (N := 24) hx hb hts hi6 hown hK.1 hP 0 rfl rfl 11 (by decide) wf74 (fun _ h9 => h9) rfl dX6_nextToken_131 ?_
        refine lv_icmp_ge (tgt := 141) hx hb dX6_nextToken_134 (by decide) (fun c_25 => ?_) (fun c_25 => ?_)
        · skip
          have c_25 : tl ≤ ta := (nI_leI (a := tl) (b := ta) (by omega) (by omega)).mp c_25
          exfalso
          omega
        · skip
          have c_25 : ¬ (tl ≤ ta) := fun h => c_25 ((nI_leI (a := tl) (b := ta) (by omega) (by omega)).mpr h)
          refine lv_iconst (v := 1) hx hb dX6_nextToken_137 (by decide) ?_
          refine lv_goto (tgt := 142) hx hb dX6_nextToken_138 (by decide) ?_
          refine lv_iadd hx hb dX6_nextToken_142 ?_
          refine wt_top (z := nI (ta + 1)) (nI_add ta 1) ?_
          refine va_put (D := D) (ci := 6) (v := .int (nI (ta + 1))) (ty := .int) (C := RX6) (T := TX6) (N := 24) hx hb hts hi6 tyX6 tyX6_ok nmX6 hown hK.1 hP hD hS 0 rfl rfl 12 (by decide) wf87 (fun _ h9 => h9) rfl (by decide +kernel) rfl rfl (Nat.le_of_ble_eq_true rfl) dX6_nextToken_143 (fun H locs hP hD hS => ?_)
          have hP : va_P D vwCl [(md, .inr (6, [vm_0, vm_1, vm_2, vm_3, vm_4, vm_5, vm_6, vm_7, vm_8, vm_9, .ref bt, .int (nI tl), .int (nI (ta + 1)), .int (nI ta), .int 2, .int (bf ta), .int bd, .int s17, vm_18, vm_19, vm_20, vm_21, vm_22, vm_23])), (bt, .inl (cI, 120, .inl bf))] H := hP
          have hD : va_D A [(md, .inr (6, [vm_0, vm_1, vm_2, vm_3, vm_4, vm_5, vm_6, vm_7, vm_8, vm_9, .ref bt, .int (nI tl), .int (nI (ta + 1)), .int (nI ta), .int 2, .int (bf ta), .int bd, .int s17, vm_18, vm_19, vm_20, vm_21, vm_22, vm_23])), (bt, .inl (cI, 120, .inl bf))] := hD
          refine lv_aload_n hx hb dX6_nextToken_146 rfl (lv_at hl 0 rfl) ?_
          refine va_get (D := D) (ci := 6) (v := .int 2) (C := RX6) (T := TX6) (N := 24) hx hb hts hi6 hown hK.1 hP 0 rfl rfl 14 (by decide) wf102 (fun _ h9 => h9) rfl dX6_nextToken_147 ?_
          refine lv_iconst (v := 3) hx hb dX6_nextToken_150 (by decide) ?_
          refine lv_icmp_ne (tgt := 277) hx hb dX6_nextToken_151 (by decide) (fun _ => ?_) (fun h => absurd h (by decide))
          have hP9 := hP.sub (ws' := [(md, .inr (6, [vm_0, vm_1, vm_2, vm_3, vm_4, vm_5, vm_6, vm_7, vm_8, vm_9, .ref bt, .int (nI tl), .int (nI (ta + 1)), .int (nI ta), .int 2, .int (bf ta), .int bd, .int s17, vm_18, vm_19, vm_20, vm_21, vm_22, vm_23])), (bt, .inl (cI, 120, .inl bf))]) [0, 1] rfl
          have hD9 := hD.sub (ws' := [(md, .inr (6, [vm_0, vm_1, vm_2, vm_3, vm_4, vm_5, vm_6, vm_7, vm_8, vm_9, .ref bt, .int (nI tl), .int (nI (ta + 1)), .int (nI ta), .int 2, .int (bf ta), .int bd, .int s17, vm_18, vm_19, vm_20, vm_21, vm_22, vm_23])), (bt, .inl (cI, 120, .inl bf))]) [0, 1] (by decide) rfl
          exact wt_vret hx hb hr hlocks hP9 hD9 hS ⟨(ta + 1), (nI ta), 2, (bf ta), rfl, ⟨rfl, tk_name (by omega) c_7, by omega⟩⟩ dX6_nextToken_277
    · skip
      have c_4 : ta = tl := (nI_eq (a := ta) (b := tl) (by omega) (by omega)).mp c_4
      exfalso
      omega
set_option maxHeartbeats 1000000 in
set_option maxRecDepth 100000 in
theorem c_X6_bad_x (l : Launch) (D : va_G) (cI cZ cH : ClassId) (md bt : Nat) (tl ta : Nat) (bf : Nat → Int32) (s13 s14 s15 bd s17 : Int32) (k : Int32) (s0 : Int32 × Nat) (vm_0 vm_1 vm_2 vm_3 vm_4 vm_5 vm_6 vm_7 vm_8 vm_9 vm_18 vm_19 vm_20 vm_21 vm_22 vm_23 : Value) (hb0 : 0 ≤ bd) (hk0 : 0 < k) (hri : RI tl bf bd s13 s14 s15 s17 ta s0) : wt_M l yX6_bad wsX6_bad ({ frames := 0, cells := 0, slots := 0, locals := 0 } : Room) D (wt_T cI cZ cH) [.ref md, .int k] [(md, .inr (6, [vm_0, vm_1, vm_2, vm_3, vm_4, vm_5, vm_6, vm_7, vm_8, vm_9, .ref bt, .int (nI tl), .int (nI ta), .int s13, .int s14, .int s15, .int bd, .int s17, vm_18, vm_19, vm_20, vm_21, vm_22, vm_23])), (bt, .inl (cI, 120, .inl bf))] (wt_QV D (fun w => ∃ (md_f16 md_f17 : Int32), w = [(md, .inr (6, [vm_0, vm_1, vm_2, vm_3, vm_4, vm_5, vm_6, vm_7, vm_8, vm_9, .ref bt, .int (nI tl), .int (nI ta), .int s13, .int s14, .int s15, .int md_f16, .int md_f17, vm_18, vm_19, vm_20, vm_21, vm_22, vm_23])), (bt, .inl (cI, 120, .inl bf))] ∧ (¬ k = 0 → ¬ md_f16 = 0) ∧ (¬ bd = 0 → ¬ md_f16 = 0) ∧ 0 ≤ md_f16 ∧ RI tl bf md_f16 s13 s14 s15 md_f17 ta (badS k s0))) := by
  refine wt_M.ofW (cc := cX6_bad) (maxL := 2) (ret := none) (by decide) rfl (Nat.le_of_ble_eq_true rfl) ?_
  intro p e s m below meth c A ls hx hb hr hts hown hlocks hml hnm hP hK hD hA hS hl
  have hP : va_P D vwCl [(md, .inr (6, [vm_0, vm_1, vm_2, vm_3, vm_4, vm_5, vm_6, vm_7, vm_8, vm_9, .ref bt, .int (nI tl), .int (nI ta), .int s13, .int s14, .int s15, .int bd, .int s17, vm_18, vm_19, vm_20, vm_21, vm_22, vm_23])), (bt, .inl (cI, 120, .inl bf))] s.heap := hP
  have hown : s.vm.findClass RX6 = some m.cls := hown
  have hl : lv_has ls 2 [(0, .ref md), (1, .int k)] := hl
  have hi6 : ∀ w ∈ u_ws RX6 TX6 24, w ∈ wsX6_bad := by decide +kernel
  have wf78 := hts (.fieldLink RX6 78 "WarmTubesModel" "fault" "I") (by decide +kernel)
  have wf81 := hts (.fieldLink RX6 81 "WarmTubesModel" "start" "I") (by decide +kernel)
  have wf84 := hts (.fieldLink RX6 84 "WarmTubesModel" "faultAt" "I") (by decide +kernel)
  refine lv_aload_n hx hb dX6_bad_0 rfl (lv_at hl 0 rfl) ?_
  refine va_get (D := D) (ci := 6) (v := .int bd) (C := RX6) (T := TX6) (N := 24) hx hb hts hi6 hown hK.1 hP 0 rfl rfl 16 (by decide) wf78 (fun _ h9 => h9) rfl dX6_bad_1 ?_
  refine lv_if_ne (tgt := 20) hx hb dX6_bad_4 (by decide) (fun c_1 => ?_) (fun c_1 => ?_)
  · skip
    have hP9 := hP.sub (ws' := [(md, .inr (6, [vm_0, vm_1, vm_2, vm_3, vm_4, vm_5, vm_6, vm_7, vm_8, vm_9, .ref bt, .int (nI tl), .int (nI ta), .int s13, .int s14, .int s15, .int bd, .int s17, vm_18, vm_19, vm_20, vm_21, vm_22, vm_23])), (bt, .inl (cI, 120, .inl bf))]) [0, 1] rfl
    have hD9 := hD.sub (ws' := [(md, .inr (6, [vm_0, vm_1, vm_2, vm_3, vm_4, vm_5, vm_6, vm_7, vm_8, vm_9, .ref bt, .int (nI tl), .int (nI ta), .int s13, .int s14, .int s15, .int bd, .int s17, vm_18, vm_19, vm_20, vm_21, vm_22, vm_23])), (bt, .inl (cI, 120, .inl bf))]) [0, 1] (by decide) rfl
    exact wt_vret hx hb hr hlocks hP9 hD9 hS ⟨bd, s17, rfl, ⟨by first | exact fun h => h | exact fun _ => c_1, by first | exact fun h => h | exact fun h => absurd c_1 h, by first | exact hb0 | exact wt_lele hk0, ri_bn hri c_1⟩⟩ dX6_bad_20
  · skip
    refine lv_aload_n hx hb dX6_bad_7 rfl (lv_at hl 0 rfl) ?_
    refine lv_iload_n hx hb dX6_bad_8 rfl (lv_at hl 1 rfl) ?_
    refine va_put (D := D) (ci := 6) (v := .int k) (ty := .int) (C := RX6) (T := TX6) (N := 24) hx hb hts hi6 tyX6 tyX6_ok nmX6 hown hK.1 hP hD hS 0 rfl rfl 16 (by decide) wf78 (fun _ h9 => h9) rfl (by decide +kernel) rfl rfl (Nat.le_of_ble_eq_true rfl) dX6_bad_9 (fun H locs hP hD hS => ?_)
    have hP : va_P D vwCl [(md, .inr (6, [vm_0, vm_1, vm_2, vm_3, vm_4, vm_5, vm_6, vm_7, vm_8, vm_9, .ref bt, .int (nI tl), .int (nI ta), .int s13, .int s14, .int s15, .int k, .int s17, vm_18, vm_19, vm_20, vm_21, vm_22, vm_23])), (bt, .inl (cI, 120, .inl bf))] H := hP
    have hD : va_D A [(md, .inr (6, [vm_0, vm_1, vm_2, vm_3, vm_4, vm_5, vm_6, vm_7, vm_8, vm_9, .ref bt, .int (nI tl), .int (nI ta), .int s13, .int s14, .int s15, .int k, .int s17, vm_18, vm_19, vm_20, vm_21, vm_22, vm_23])), (bt, .inl (cI, 120, .inl bf))] := hD
    refine lv_aload_n hx hb dX6_bad_12 rfl (lv_at hl 0 rfl) ?_
    refine lv_aload_n hx hb dX6_bad_13 rfl (lv_at hl 0 rfl) ?_
    refine va_get (D := D) (ci := 6) (v := .int s13) (C := RX6) (T := TX6) (N := 24) hx hb hts hi6 hown hK.1 hP 0 rfl rfl 13 (by decide) wf81 (fun _ h9 => h9) rfl dX6_bad_14 ?_
    refine va_put (D := D) (ci := 6) (v := .int s13) (ty := .int) (C := RX6) (T := TX6) (N := 24) hx hb hts hi6 tyX6 tyX6_ok nmX6 hown hK.1 hP hD hS 0 rfl rfl 17 (by decide) wf84 (fun _ h9 => h9) rfl (by decide +kernel) rfl rfl (Nat.le_of_ble_eq_true rfl) dX6_bad_17 (fun H locs hP hD hS => ?_)
    have hP : va_P D vwCl [(md, .inr (6, [vm_0, vm_1, vm_2, vm_3, vm_4, vm_5, vm_6, vm_7, vm_8, vm_9, .ref bt, .int (nI tl), .int (nI ta), .int s13, .int s14, .int s15, .int k, .int s13, vm_18, vm_19, vm_20, vm_21, vm_22, vm_23])), (bt, .inl (cI, 120, .inl bf))] H := hP
    have hD : va_D A [(md, .inr (6, [vm_0, vm_1, vm_2, vm_3, vm_4, vm_5, vm_6, vm_7, vm_8, vm_9, .ref bt, .int (nI tl), .int (nI ta), .int s13, .int s14, .int s15, .int k, .int s13, vm_18, vm_19, vm_20, vm_21, vm_22, vm_23])), (bt, .inl (cI, 120, .inl bf))] := hD
    have hP9 := hP.sub (ws' := [(md, .inr (6, [vm_0, vm_1, vm_2, vm_3, vm_4, vm_5, vm_6, vm_7, vm_8, vm_9, .ref bt, .int (nI tl), .int (nI ta), .int s13, .int s14, .int s15, .int k, .int s13, vm_18, vm_19, vm_20, vm_21, vm_22, vm_23])), (bt, .inl (cI, 120, .inl bf))]) [0, 1] rfl
    have hD9 := hD.sub (ws' := [(md, .inr (6, [vm_0, vm_1, vm_2, vm_3, vm_4, vm_5, vm_6, vm_7, vm_8, vm_9, .ref bt, .int (nI tl), .int (nI ta), .int s13, .int s14, .int s15, .int k, .int s13, vm_18, vm_19, vm_20, vm_21, vm_22, vm_23])), (bt, .inl (cI, 120, .inl bf))]) [0, 1] (by decide) rfl
    exact wt_vret hx hb hr hlocks hP9 hD9 hS ⟨k, s13, rfl, ⟨by first | exact fun h => h | exact fun _ => c_1, by first | exact fun h => h | exact fun h => absurd c_1 h, by first | exact hb0 | exact wt_lele hk0, ri_by hri c_1 (pos_n0 hk0)⟩⟩ dX6_bad_20
set_option maxHeartbeats 1000000 in
set_option maxRecDepth 100000 in
theorem c_X6_must_x (l : Launch) (D : va_G) (cI cZ cH : ClassId) (md bt : Nat) (tl ta : Nat) (bf : Nat → Int32) (s13 s14 s15 bd s17 : Int32) (a1 : Int32) (s0 : Int32 × Nat) (vm_0 vm_1 vm_2 vm_3 vm_4 vm_5 vm_6 vm_7 vm_8 vm_9 vm_18 vm_19 vm_20 vm_21 vm_22 vm_23 : Value) (htl : tl ≤ 120) (hta : ta ≤ tl) (hb0 : 0 ≤ bd) (hri : RI tl bf bd s13 s14 s15 s17 ta s0) : wt_M l yX6_must wsX6_must ({ frames := 2, cells := 0, slots := 0, locals := 45 } : Room) D (wt_T cI cZ cH) [.ref md, .int a1] [(md, .inr (6, [vm_0, vm_1, vm_2, vm_3, vm_4, vm_5, vm_6, vm_7, vm_8, vm_9, .ref bt, .int (nI tl), .int (nI ta), .int s13, .int s14, .int s15, .int bd, .int s17, vm_18, vm_19, vm_20, vm_21, vm_22, vm_23])), (bt, .inl (cI, 120, .inl bf))] (wt_QV D (fun w => ∃ (ta2 : Nat) (md_f13 md_f14 md_f15 md_f16 md_f17 : Int32), w = [(md, .inr (6, [vm_0, vm_1, vm_2, vm_3, vm_4, vm_5, vm_6, vm_7, vm_8, vm_9, .ref bt, .int (nI tl), .int (nI ta2), .int md_f13, .int md_f14, .int md_f15, .int md_f16, .int md_f17, vm_18, vm_19, vm_20, vm_21, vm_22, vm_23])), (bt, .inl (cI, 120, .inl bf))] ∧ ta2 ≤ tl ∧ (¬ bd = 0 → ¬ md_f16 = 0) ∧ (a1 = 0 → ¬ md_f16 = 0) ∧ 0 ≤ md_f16 ∧ RI tl bf md_f16 md_f13 md_f14 md_f15 md_f17 ta2 (musS a1 ta s0))) := by
  refine wt_M.ofW (cc := cX6_must) (maxL := 2) (ret := none) (by decide) rfl (Nat.le_of_ble_eq_true rfl) ?_
  intro p e s m below meth c A ls hx hb hr hts hown hlocks hml hnm hP hK hD hA hS hl
  have hP : va_P D vwCl [(md, .inr (6, [vm_0, vm_1, vm_2, vm_3, vm_4, vm_5, vm_6, vm_7, vm_8, vm_9, .ref bt, .int (nI tl), .int (nI ta), .int s13, .int s14, .int s15, .int bd, .int s17, vm_18, vm_19, vm_20, vm_21, vm_22, vm_23])), (bt, .inl (cI, 120, .inl bf))] s.heap := hP
  have hown : s.vm.findClass RX6 = some m.cls := hown
  have hl : lv_has ls 2 [(0, .ref md), (1, .int a1)] := hl
  have hi6 : ∀ w ∈ u_ws RX6 TX6 24, w ∈ wsX6_must := by decide +kernel
  have wf78 := hts (.fieldLink RX6 78 "WarmTubesModel" "fault" "I") (by decide +kernel)
  refine lv_iload_n hx hb dX6_must_0 rfl (lv_at hl 1 rfl) ?_
  refine lv_if_ne (tgt := 9) hx hb dX6_must_1 (by decide) (fun c_1 => ?_) (fun c_1 => ?_)
  · skip
    refine lv_aload_n hx hb dX6_must_9 rfl (lv_at hl 0 rfl) ?_
    refine va_get (D := D) (ci := 6) (v := .int bd) (C := RX6) (T := TX6) (N := 24) hx hb hts hi6 hown hK.1 hP 0 rfl rfl 16 (by decide) wf78 (fun _ h9 => h9) rfl dX6_must_10 ?_
    refine lv_if_ne (tgt := 20) hx hb dX6_must_13 (by decide) (fun c_2 => ?_) (fun c_2 => ?_)
    · skip
      have hP9 := hP.sub (ws' := [(md, .inr (6, [vm_0, vm_1, vm_2, vm_3, vm_4, vm_5, vm_6, vm_7, vm_8, vm_9, .ref bt, .int (nI tl), .int (nI ta), .int s13, .int s14, .int s15, .int bd, .int s17, vm_18, vm_19, vm_20, vm_21, vm_22, vm_23])), (bt, .inl (cI, 120, .inl bf))]) [0, 1] rfl
      have hD9 := hD.sub (ws' := [(md, .inr (6, [vm_0, vm_1, vm_2, vm_3, vm_4, vm_5, vm_6, vm_7, vm_8, vm_9, .ref bt, .int (nI tl), .int (nI ta), .int s13, .int s14, .int s15, .int bd, .int s17, vm_18, vm_19, vm_20, vm_21, vm_22, vm_23])), (bt, .inl (cI, 120, .inl bf))]) [0, 1] (by decide) rfl
      exact wt_vret hx hb hr hlocks hP9 hD9 hS ⟨ta, s13, s14, s15, bd, s17, rfl, ⟨by omega, fun h => h, fun h => absurd h c_1, hb0, ri_ms hri c_2⟩⟩ dX6_must_20
    · skip
      refine lv_aload_n hx hb dX6_must_16 rfl (lv_at hl 0 rfl) ?_
      refine wt_goV (wr := []) (wt_runV (As := []) (rest := []) ⟨hx, hb, hml, hown, hts⟩ (c_X6_nextToken_x l D cI cZ cH md bt tl ta bf s13 s14 s15 bd s17 vm_0 vm_1 vm_2 vm_3 vm_4 vm_5 vm_6 vm_7 vm_8 vm_9 vm_18 vm_19 vm_20 vm_21 vm_22 vm_23 (by first | assumption | omega) (by first | assumption | omega)) (cwV 0 hts gX6_must_X6_nextToken rfl rfl rfl (by decide +kernel) ⟨Nat.le_of_ble_eq_true rfl, Nat.le_of_ble_eq_true rfl⟩) hK hP hD [0, 1] rfl (by decide) (va_recv hK.1 hP (ci := 6) (q0 := 0) rfl rfl) rfl hl.1 rfl (Nat.le_of_ble_eq_true rfl) dX6_must_17 ⟨Nat.le_of_ble_eq_true rfl, Nat.le_of_ble_eq_true rfl⟩) hP hD hS hA [0, 1] [] rfl rfl (by decide) (by decide) (fun w_4 H locs h_5 hP hD hS => ?_)
      obtain ⟨ta2_6, md_f13_7, md_f14_8, md_f15_9, rfl, x_10⟩ := h_5
      have hP : va_P D vwCl [(md, .inr (6, [vm_0, vm_1, vm_2, vm_3, vm_4, vm_5, vm_6, vm_7, vm_8, vm_9, .ref bt, .int (nI tl), .int (nI ta2_6), .int md_f13_7, .int md_f14_8, .int md_f15_9, .int bd, .int s17, vm_18, vm_19, vm_20, vm_21, vm_22, vm_23])), (bt, .inl (cI, 120, .inl bf))] H := hP
      have hD : va_D A [(md, .inr (6, [vm_0, vm_1, vm_2, vm_3, vm_4, vm_5, vm_6, vm_7, vm_8, vm_9, .ref bt, .int (nI tl), .int (nI ta2_6), .int md_f13_7, .int md_f14_8, .int md_f15_9, .int bd, .int s17, vm_18, vm_19, vm_20, vm_21, vm_22, vm_23])), (bt, .inl (cI, 120, .inl bf))] := hD
      obtain ⟨n13_11, ntk_12, hta_13⟩ := x_10
      have hP9 := hP.sub (ws' := [(md, .inr (6, [vm_0, vm_1, vm_2, vm_3, vm_4, vm_5, vm_6, vm_7, vm_8, vm_9, .ref bt, .int (nI tl), .int (nI ta2_6), .int md_f13_7, .int md_f14_8, .int md_f15_9, .int bd, .int s17, vm_18, vm_19, vm_20, vm_21, vm_22, vm_23])), (bt, .inl (cI, 120, .inl bf))]) [0, 1] rfl
      have hD9 := hD.sub (ws' := [(md, .inr (6, [vm_0, vm_1, vm_2, vm_3, vm_4, vm_5, vm_6, vm_7, vm_8, vm_9, .ref bt, .int (nI tl), .int (nI ta2_6), .int md_f13_7, .int md_f14_8, .int md_f15_9, .int bd, .int s17, vm_18, vm_19, vm_20, vm_21, vm_22, vm_23])), (bt, .inl (cI, 120, .inl bf))]) [0, 1] (by decide) rfl
      exact wt_vret hx hb hr hlocks hP9 hD9 hS ⟨ta2_6, md_f13_7, md_f14_8, md_f15_9, bd, s17, rfl, ⟨by omega, fun h => h, fun h => absurd h c_1, hb0, ri_next hri c_2 c_1 (by omega) n13_11 ntk_12⟩⟩ dX6_must_20
  · skip
    refine lv_aload_n hx hb dX6_must_4 rfl (lv_at hl 0 rfl) ?_
    refine lv_iconst (v := 1) hx hb dX6_must_5 (by decide) ?_
    refine wt_goV (wr := []) (wt_runV (As := [.int 1]) (rest := []) ⟨hx, hb, hml, hown, hts⟩ (c_X6_bad_x l D cI cZ cH md bt tl ta bf s13 s14 s15 bd s17 1 _ vm_0 vm_1 vm_2 vm_3 vm_4 vm_5 vm_6 vm_7 vm_8 vm_9 vm_18 vm_19 vm_20 vm_21 vm_22 vm_23 (by first | assumption | omega) (by decide) hri) (cwV 1 hts gX6_must_X6_bad rfl rfl rfl (by decide +kernel) ⟨Nat.le_of_ble_eq_true rfl, Nat.le_of_ble_eq_true rfl⟩) hK hP hD [0, 1] rfl (by decide) (va_recv hK.1 hP (ci := 6) (q0 := 0) rfl rfl) rfl hl.1 rfl (Nat.le_of_ble_eq_true rfl) dX6_must_6 ⟨Nat.le_of_ble_eq_true rfl, Nat.le_of_ble_eq_true rfl⟩) hP hD hS hA [0, 1] [] rfl rfl (by decide) (by decide) (fun w_15 H locs h_16 hP hD hS => ?_)
    obtain ⟨md_f16_17, md_f17_18, rfl, x_19⟩ := h_16
    have hP : va_P D vwCl [(md, .inr (6, [vm_0, vm_1, vm_2, vm_3, vm_4, vm_5, vm_6, vm_7, vm_8, vm_9, .ref bt, .int (nI tl), .int (nI ta), .int s13, .int s14, .int s15, .int md_f16_17, .int md_f17_18, vm_18, vm_19, vm_20, vm_21, vm_22, vm_23])), (bt, .inl (cI, 120, .inl bf))] H := hP
    have hD : va_D A [(md, .inr (6, [vm_0, vm_1, vm_2, vm_3, vm_4, vm_5, vm_6, vm_7, vm_8, vm_9, .ref bt, .int (nI tl), .int (nI ta), .int s13, .int s14, .int s15, .int md_f16_17, .int md_f17_18, vm_18, vm_19, vm_20, vm_21, vm_22, vm_23])), (bt, .inl (cI, 120, .inl bf))] := hD
    obtain ⟨yk0_20, ybd_21, yge_22, yri_23⟩ := x_19
    have hbd_24 : ¬ md_f16_17 = 0 := yk0_20 (by decide)
    refine lv_aload_n hx hb dX6_must_9 rfl (lv_at hl 0 rfl) ?_
    refine va_get (D := D) (ci := 6) (v := .int md_f16_17) (C := RX6) (T := TX6) (N := 24) hx hb hts hi6 hown hK.1 hP 0 rfl rfl 16 (by decide) wf78 (fun _ h9 => h9) rfl dX6_must_10 ?_
    refine lv_if_ne (tgt := 20) hx hb dX6_must_13 (by decide) (fun _ => ?_) (fun h => absurd h hbd_24)
    have hP9 := hP.sub (ws' := [(md, .inr (6, [vm_0, vm_1, vm_2, vm_3, vm_4, vm_5, vm_6, vm_7, vm_8, vm_9, .ref bt, .int (nI tl), .int (nI ta), .int s13, .int s14, .int s15, .int md_f16_17, .int md_f17_18, vm_18, vm_19, vm_20, vm_21, vm_22, vm_23])), (bt, .inl (cI, 120, .inl bf))]) [0, 1] rfl
    have hD9 := hD.sub (ws' := [(md, .inr (6, [vm_0, vm_1, vm_2, vm_3, vm_4, vm_5, vm_6, vm_7, vm_8, vm_9, .ref bt, .int (nI tl), .int (nI ta), .int s13, .int s14, .int s15, .int md_f16_17, .int md_f17_18, vm_18, vm_19, vm_20, vm_21, vm_22, vm_23])), (bt, .inl (cI, 120, .inl bf))]) [0, 1] (by decide) rfl
    exact wt_vret hx hb hr hlocks hP9 hD9 hS ⟨ta, s13, s14, s15, md_f16_17, md_f17_18, rfl, ⟨by omega, fun _ => hbd_24, fun _ => hbd_24, yge_22, ri_eq (musS_0 c_1) yri_23⟩⟩ dX6_must_20
set_option maxHeartbeats 1000000 in
set_option maxRecDepth 100000 in
theorem c_X6_number_x (l : Launch) (D : va_G) (cI cZ cH : ClassId) (md bt : Nat) (tl ta : Nat) (bf : Nat → Int32) (s13 s14 s15 bd s17 : Int32) (lo hi : Nat) (s0 : Int32 × Nat) (vm_0 vm_1 vm_2 vm_3 vm_4 vm_5 vm_6 vm_7 vm_8 vm_9 vm_18 vm_19 vm_20 vm_21 vm_22 vm_23 : Value) (htl : tl ≤ 120) (hta : ta ≤ tl) (hb0 : 0 ≤ bd) (hlh : lo ≤ hi) (hh9 : hi ≤ 999) (hri : RI tl bf bd s13 s14 s15 s17 ta s0) : wt_M l yX6_number wsX6_number ({ frames := 3, cells := 0, slots := 0, locals := 66 } : Room) D (wt_T cI cZ cH) [.ref md, .int (nI lo), .int (nI hi)] [(md, .inr (6, [vm_0, vm_1, vm_2, vm_3, vm_4, vm_5, vm_6, vm_7, vm_8, vm_9, .ref bt, .int (nI tl), .int (nI ta), .int s13, .int s14, .int s15, .int bd, .int s17, vm_18, vm_19, vm_20, vm_21, vm_22, vm_23])), (bt, .inl (cI, 120, .inl bf))] (wt_QI D (fun r w => ∃ (ta2 : Nat) (md_f13 md_f14 md_f15 md_f16 md_f17 : Int32), w = [(md, .inr (6, [vm_0, vm_1, vm_2, vm_3, vm_4, vm_5, vm_6, vm_7, vm_8, vm_9, .ref bt, .int (nI tl), .int (nI ta2), .int md_f13, .int md_f14, .int md_f15, .int md_f16, .int md_f17, vm_18, vm_19, vm_20, vm_21, vm_22, vm_23])), (bt, .inl (cI, 120, .inl bf))] ∧ (∃ v : Nat, lo ≤ v ∧ v ≤ hi ∧ r = nI v) ∧ ta2 ≤ tl ∧ (¬ bd = 0 → ¬ md_f16 = 0) ∧ 0 ≤ md_f16 ∧ RI tl bf md_f16 md_f13 md_f14 md_f15 md_f17 ta2 (sN tl bf lo hi s0))) := by
  refine wt_M.ofW (cc := cX6_number) (maxL := 4) (ret := (some .int)) (by decide) rfl (Nat.le_of_ble_eq_true rfl) ?_
  intro p e s m below meth c A ls hx hb hr hts hown hlocks hml hnm hP hK hD hA hS hl
  have hP : va_P D vwCl [(md, .inr (6, [vm_0, vm_1, vm_2, vm_3, vm_4, vm_5, vm_6, vm_7, vm_8, vm_9, .ref bt, .int (nI tl), .int (nI ta), .int s13, .int s14, .int s15, .int bd, .int s17, vm_18, vm_19, vm_20, vm_21, vm_22, vm_23])), (bt, .inl (cI, 120, .inl bf))] s.heap := hP
  have hown : s.vm.findClass RX6 = some m.cls := hown
  have hl : lv_has ls 4 [(0, .ref md), (1, .int (nI lo)), (2, .int (nI hi))] := hl
  have hi6 : ∀ w ∈ u_ws RX6 TX6 24, w ∈ wsX6_number := by decide +kernel
  have wf102 := hts (.fieldLink RX6 102 "WarmTubesModel" "token" "I") (by decide +kernel)
  have wf78 := hts (.fieldLink RX6 78 "WarmTubesModel" "fault" "I") (by decide +kernel)
  have wf91 := hts (.fieldLink RX6 91 "WarmTubesModel" "value" "I") (by decide +kernel)
  refine lv_aload_n hx hb dX6_number_0 rfl (lv_at hl 0 rfl) ?_
  refine va_get (D := D) (ci := 6) (v := .int bd) (C := RX6) (T := TX6) (N := 24) hx hb hts hi6 hown hK.1 hP 0 rfl rfl 16 (by decide) wf78 (fun _ h9 => h9) rfl dX6_number_1 ?_
  refine lv_if_ne (tgt := 20) hx hb dX6_number_4 (by decide) (fun c_1 => ?_) (fun c_1 => ?_)
  · skip
    refine lv_aload_n hx hb dX6_number_20 rfl (lv_at hl 0 rfl) ?_
    refine va_get (D := D) (ci := 6) (v := .int bd) (C := RX6) (T := TX6) (N := 24) hx hb hts hi6 hown hK.1 hP 0 rfl rfl 16 (by decide) wf78 (fun _ h9 => h9) rfl dX6_number_21 ?_
    refine lv_if_ne (tgt := 47) hx hb dX6_number_24 (by decide) (fun _ => ?_) (fun h => absurd h c_1)
    refine lv_aload_n hx hb dX6_number_47 rfl (lv_at hl 0 rfl) ?_
    refine va_get (D := D) (ci := 6) (v := .int bd) (C := RX6) (T := TX6) (N := 24) hx hb hts hi6 hown hK.1 hP 0 rfl rfl 16 (by decide) wf78 (fun _ h9 => h9) rfl dX6_number_48 ?_
    refine lv_if_ne (tgt := 61) hx hb dX6_number_51 (by decide) (fun _ => ?_) (fun h => absurd h c_1)
    refine lv_iload_n hx hb dX6_number_61 rfl (lv_at hl 1 rfl) ?_
    refine lv_istore_n (lv' := [(3, .int (nI lo)), (0, .ref md), (1, .int (nI lo)), (2, .int (nI hi))]) hx hb dX6_number_62 rfl hl (by decide) rfl (fun ls hl => ?_)
    refine lv_aload_n hx hb dX6_number_63 rfl (lv_at hl 1 rfl) ?_
    refine lv_iconst (v := 1) hx hb dX6_number_64 (by decide) ?_
    refine wt_goV (wr := []) (wt_runV (As := [.int 1]) (rest := []) ⟨hx, hb, hml, hown, hts⟩ (c_X6_must_x l D cI cZ cH md bt tl ta bf s13 s14 s15 bd s17 1 _ vm_0 vm_1 vm_2 vm_3 vm_4 vm_5 vm_6 vm_7 vm_8 vm_9 vm_18 vm_19 vm_20 vm_21 vm_22 vm_23 (by first | assumption | omega) (by first | assumption | omega) (by first | assumption | omega) hri) (cwV 1 hts gX6_number_X6_must rfl rfl rfl (by decide +kernel) ⟨Nat.le_of_ble_eq_true rfl, Nat.le_of_ble_eq_true rfl⟩) hK hP hD [0, 1] rfl (by decide) (va_recv hK.1 hP (ci := 6) (q0 := 0) rfl rfl) rfl hl.1 rfl (Nat.le_of_ble_eq_true rfl) dX6_number_65 ⟨Nat.le_of_ble_eq_true rfl, Nat.le_of_ble_eq_true rfl⟩) hP hD hS hA [0, 1] [] rfl rfl (by decide) (by decide) (fun w_3 H locs h_4 hP hD hS => ?_)
    obtain ⟨ta2_5, md_f13_6, md_f14_7, md_f15_8, md_f16_9, md_f17_10, rfl, x_11⟩ := h_4
    have hP : va_P D vwCl [(md, .inr (6, [vm_0, vm_1, vm_2, vm_3, vm_4, vm_5, vm_6, vm_7, vm_8, vm_9, .ref bt, .int (nI tl), .int (nI ta2_5), .int md_f13_6, .int md_f14_7, .int md_f15_8, .int md_f16_9, .int md_f17_10, vm_18, vm_19, vm_20, vm_21, vm_22, vm_23])), (bt, .inl (cI, 120, .inl bf))] H := hP
    have hD : va_D A [(md, .inr (6, [vm_0, vm_1, vm_2, vm_3, vm_4, vm_5, vm_6, vm_7, vm_8, vm_9, .ref bt, .int (nI tl), .int (nI ta2_5), .int md_f13_6, .int md_f14_7, .int md_f15_8, .int md_f16_9, .int md_f17_10, vm_18, vm_19, vm_20, vm_21, vm_22, vm_23])), (bt, .inl (cI, 120, .inl bf))] := hD
    obtain ⟨yx_12, ybd_13, yk0_14, yge_15, yri_16⟩ := x_11
    have hbd_17 : ¬ md_f16_9 = 0 := ybd_13 c_1
    refine lv_iload_n hx hb dX6_number_68 rfl (lv_at hl 0 rfl) ?_
    have hP9 := hP.sub (ws' := [(md, .inr (6, [vm_0, vm_1, vm_2, vm_3, vm_4, vm_5, vm_6, vm_7, vm_8, vm_9, .ref bt, .int (nI tl), .int (nI ta2_5), .int md_f13_6, .int md_f14_7, .int md_f15_8, .int md_f16_9, .int md_f17_10, vm_18, vm_19, vm_20, vm_21, vm_22, vm_23])), (bt, .inl (cI, 120, .inl bf))]) [0, 1] rfl
    have hD9 := hD.sub (ws' := [(md, .inr (6, [vm_0, vm_1, vm_2, vm_3, vm_4, vm_5, vm_6, vm_7, vm_8, vm_9, .ref bt, .int (nI tl), .int (nI ta2_5), .int md_f13_6, .int md_f14_7, .int md_f15_8, .int md_f16_9, .int md_f17_10, vm_18, vm_19, vm_20, vm_21, vm_22, vm_23])), (bt, .inl (cI, 120, .inl bf))]) [0, 1] (by decide) rfl
    exact wt_iret hx hb hr hlocks hP9 hD9 hS ⟨ta2_5, md_f13_6, md_f14_7, md_f15_8, md_f16_9, md_f17_10, rfl, ⟨⟨lo, by omega, by omega, rfl⟩, by omega, fun _ => hbd_17, yge_15, ri_eq (nm_st hri c_1) yri_16⟩⟩ dX6_number_69
  · skip
    refine lv_aload_n hx hb dX6_number_7 rfl (lv_at hl 0 rfl) ?_
    refine va_get (D := D) (ci := 6) (v := .int s14) (C := RX6) (T := TX6) (N := 24) hx hb hts hi6 hown hK.1 hP 0 rfl rfl 14 (by decide) wf102 (fun _ h9 => h9) rfl dX6_number_8 ?_
    refine lv_iconst (v := 3) hx hb dX6_number_11 (by decide) ?_
    refine lv_icmp_eq (tgt := 20) hx hb dX6_number_12 (by decide) (fun c_18 => ?_) (fun c_18 => ?_)
    · skip
      refine lv_aload_n hx hb dX6_number_20 rfl (lv_at hl 0 rfl) ?_
      refine va_get (D := D) (ci := 6) (v := .int bd) (C := RX6) (T := TX6) (N := 24) hx hb hts hi6 hown hK.1 hP 0 rfl rfl 16 (by decide) wf78 (fun _ h9 => h9) rfl dX6_number_21 ?_
      refine lv_if_ne (tgt := 47) hx hb dX6_number_24 (by decide) (fun h => absurd c_1 h) (fun _ => ?_)
      refine lv_aload_n hx hb dX6_number_27 rfl (lv_at hl 0 rfl) ?_
      refine va_get (D := D) (ci := 6) (v := .int s15) (C := RX6) (T := TX6) (N := 24) hx hb hts hi6 hown hK.1 hP 0 rfl rfl 15 (by decide) wf91 (fun _ h9 => h9) rfl dX6_number_28 ?_
      refine lv_i2l hx hb dX6_number_31 rfl ?_
      refine lv_iload_n hx hb dX6_number_32 rfl (lv_at hl 1 rfl) ?_
      refine lv_i2l hx hb dX6_number_33 rfl ?_
      refine lv_iload_n hx hb dX6_number_34 rfl (lv_at hl 2 rfl) ?_
      refine lv_i2l hx hb dX6_number_35 rfl ?_
      refine wt_rS (As := [.long s15.toInt64, .long ((nI lo).toInt64), .long ((nI hi).toInt64)]) (rest := []) ⟨hx, hb, hml, hown, hts⟩ (c_X6_in l D cI cZ cH s15.toInt64 ((nI lo).toInt64) ((nI hi).toInt64)) (va_cwS 3 hts gX6_number_X6_in rfl rfl rfl (by decide +kernel) ⟨Nat.le_of_ble_eq_true rfl, Nat.le_of_ble_eq_true rfl⟩) hK hP [] rfl rfl hl.1 rfl (Nat.le_of_ble_eq_true rfl) dX6_number_36 ⟨Nat.le_of_ble_eq_true rfl, Nat.le_of_ble_eq_true rfl⟩ (fun r_19 e_20 => ?_)
      subst e_20
      refine wt_top (z := wI s15 (nI lo) (nI hi)) (wL_I' rfl rfl) ?_
      refine lv_if_ne (tgt := 47) hx hb dX6_number_39 (by decide) (fun c_21 => ?_) (fun c_21 => ?_)
      · skip
        obtain ⟨j_22, hj_22, hj_22b, rfl⟩ := wI_nat (a := lo) (b := hi) (by omega) (by omega) c_21
        refine lv_aload_n hx hb dX6_number_47 rfl (lv_at hl 0 rfl) ?_
        refine va_get (D := D) (ci := 6) (v := .int bd) (C := RX6) (T := TX6) (N := 24) hx hb hts hi6 hown hK.1 hP 0 rfl rfl 16 (by decide) wf78 (fun _ h9 => h9) rfl dX6_number_48 ?_
        refine lv_if_ne (tgt := 61) hx hb dX6_number_51 (by decide) (fun h => absurd c_1 h) (fun _ => ?_)
        refine lv_aload_n hx hb dX6_number_54 rfl (lv_at hl 0 rfl) ?_
        refine va_get (D := D) (ci := 6) (v := .int (nI j_22)) (C := RX6) (T := TX6) (N := 24) hx hb hts hi6 hown hK.1 hP 0 rfl rfl 15 (by decide) wf91 (fun _ h9 => h9) rfl dX6_number_55 ?_
        refine lv_goto (tgt := 62) hx hb dX6_number_58 (by decide) ?_
        refine lv_istore_n (lv' := [(3, .int (nI j_22)), (0, .ref md), (1, .int (nI lo)), (2, .int (nI hi))]) hx hb dX6_number_62 rfl hl (by decide) rfl (fun ls hl => ?_)
        refine lv_aload_n hx hb dX6_number_63 rfl (lv_at hl 1 rfl) ?_
        refine lv_iconst (v := 1) hx hb dX6_number_64 (by decide) ?_
        refine wt_goV (wr := []) (wt_runV (As := [.int 1]) (rest := []) ⟨hx, hb, hml, hown, hts⟩ (c_X6_must_x l D cI cZ cH md bt tl ta bf s13 s14 (nI j_22) bd s17 1 _ vm_0 vm_1 vm_2 vm_3 vm_4 vm_5 vm_6 vm_7 vm_8 vm_9 vm_18 vm_19 vm_20 vm_21 vm_22 vm_23 (by first | assumption | omega) (by first | assumption | omega) (by first | assumption | omega) hri) (cwV 1 hts gX6_number_X6_must rfl rfl rfl (by decide +kernel) ⟨Nat.le_of_ble_eq_true rfl, Nat.le_of_ble_eq_true rfl⟩) hK hP hD [0, 1] rfl (by decide) (va_recv hK.1 hP (ci := 6) (q0 := 0) rfl rfl) rfl hl.1 rfl (Nat.le_of_ble_eq_true rfl) dX6_number_65 ⟨Nat.le_of_ble_eq_true rfl, Nat.le_of_ble_eq_true rfl⟩) hP hD hS hA [0, 1] [] rfl rfl (by decide) (by decide) (fun w_24 H locs h_25 hP hD hS => ?_)
        obtain ⟨ta2_26, md_f13_27, md_f14_28, md_f15_29, md_f16_30, md_f17_31, rfl, x_32⟩ := h_25
        have hP : va_P D vwCl [(md, .inr (6, [vm_0, vm_1, vm_2, vm_3, vm_4, vm_5, vm_6, vm_7, vm_8, vm_9, .ref bt, .int (nI tl), .int (nI ta2_26), .int md_f13_27, .int md_f14_28, .int md_f15_29, .int md_f16_30, .int md_f17_31, vm_18, vm_19, vm_20, vm_21, vm_22, vm_23])), (bt, .inl (cI, 120, .inl bf))] H := hP
        have hD : va_D A [(md, .inr (6, [vm_0, vm_1, vm_2, vm_3, vm_4, vm_5, vm_6, vm_7, vm_8, vm_9, .ref bt, .int (nI tl), .int (nI ta2_26), .int md_f13_27, .int md_f14_28, .int md_f15_29, .int md_f16_30, .int md_f17_31, vm_18, vm_19, vm_20, vm_21, vm_22, vm_23])), (bt, .inl (cI, 120, .inl bf))] := hD
        obtain ⟨yx_33, ybd_34, yk0_35, yge_36, yri_37⟩ := x_32
        refine lv_iload_n hx hb dX6_number_68 rfl (lv_at hl 0 rfl) ?_
        have hP9 := hP.sub (ws' := [(md, .inr (6, [vm_0, vm_1, vm_2, vm_3, vm_4, vm_5, vm_6, vm_7, vm_8, vm_9, .ref bt, .int (nI tl), .int (nI ta2_26), .int md_f13_27, .int md_f14_28, .int md_f15_29, .int md_f16_30, .int md_f17_31, vm_18, vm_19, vm_20, vm_21, vm_22, vm_23])), (bt, .inl (cI, 120, .inl bf))]) [0, 1] rfl
        have hD9 := hD.sub (ws' := [(md, .inr (6, [vm_0, vm_1, vm_2, vm_3, vm_4, vm_5, vm_6, vm_7, vm_8, vm_9, .ref bt, .int (nI tl), .int (nI ta2_26), .int md_f13_27, .int md_f14_28, .int md_f15_29, .int md_f16_30, .int md_f17_31, vm_18, vm_19, vm_20, vm_21, vm_22, vm_23])), (bt, .inl (cI, 120, .inl bf))]) [0, 1] (by decide) rfl
        exact wt_iret hx hb hr hlocks hP9 hD9 hS ⟨ta2_26, md_f13_27, md_f14_28, md_f15_29, md_f16_30, md_f17_31, rfl, ⟨⟨j_22, by omega, by omega, rfl⟩, by omega, fun h => absurd c_1 h, yge_36, ri_eq (nm_0 hri c_1 c_18 (by omega) ⟨by omega, by omega⟩) yri_37⟩⟩ dX6_number_69
      · skip
        refine lv_aload_n hx hb dX6_number_42 rfl (lv_at hl 0 rfl) ?_
        refine lv_iconst (v := 2) hx hb dX6_number_43 (by decide) ?_
        refine wt_goV (wr := []) (wt_runV (As := [.int 2]) (rest := []) ⟨hx, hb, hml, hown, hts⟩ (c_X6_bad_x l D cI cZ cH md bt tl ta bf s13 s14 s15 bd s17 2 _ vm_0 vm_1 vm_2 vm_3 vm_4 vm_5 vm_6 vm_7 vm_8 vm_9 vm_18 vm_19 vm_20 vm_21 vm_22 vm_23 (by first | assumption | omega) (by decide) hri) (cwV 1 hts gX6_number_X6_bad rfl rfl rfl (by decide +kernel) ⟨Nat.le_of_ble_eq_true rfl, Nat.le_of_ble_eq_true rfl⟩) hK hP hD [0, 1] rfl (by decide) (va_recv hK.1 hP (ci := 6) (q0 := 0) rfl rfl) rfl hl.1 rfl (Nat.le_of_ble_eq_true rfl) dX6_number_44 ⟨Nat.le_of_ble_eq_true rfl, Nat.le_of_ble_eq_true rfl⟩) hP hD hS hA [0, 1] [] rfl rfl (by decide) (by decide) (fun w_39 H locs h_40 hP hD hS => ?_)
        obtain ⟨md_f16_41, md_f17_42, rfl, x_43⟩ := h_40
        have hP : va_P D vwCl [(md, .inr (6, [vm_0, vm_1, vm_2, vm_3, vm_4, vm_5, vm_6, vm_7, vm_8, vm_9, .ref bt, .int (nI tl), .int (nI ta), .int s13, .int s14, .int s15, .int md_f16_41, .int md_f17_42, vm_18, vm_19, vm_20, vm_21, vm_22, vm_23])), (bt, .inl (cI, 120, .inl bf))] H := hP
        have hD : va_D A [(md, .inr (6, [vm_0, vm_1, vm_2, vm_3, vm_4, vm_5, vm_6, vm_7, vm_8, vm_9, .ref bt, .int (nI tl), .int (nI ta), .int s13, .int s14, .int s15, .int md_f16_41, .int md_f17_42, vm_18, vm_19, vm_20, vm_21, vm_22, vm_23])), (bt, .inl (cI, 120, .inl bf))] := hD
        obtain ⟨yk0_44, ybd_45, yge_46, yri_47⟩ := x_43
        have hbd_48 : ¬ md_f16_41 = 0 := yk0_44 (by decide)
        refine lv_aload_n hx hb dX6_number_47 rfl (lv_at hl 0 rfl) ?_
        refine va_get (D := D) (ci := 6) (v := .int md_f16_41) (C := RX6) (T := TX6) (N := 24) hx hb hts hi6 hown hK.1 hP 0 rfl rfl 16 (by decide) wf78 (fun _ h9 => h9) rfl dX6_number_48 ?_
        refine lv_if_ne (tgt := 61) hx hb dX6_number_51 (by decide) (fun _ => ?_) (fun h => absurd h hbd_48)
        refine lv_iload_n hx hb dX6_number_61 rfl (lv_at hl 1 rfl) ?_
        refine lv_istore_n (lv' := [(3, .int (nI lo)), (0, .ref md), (1, .int (nI lo)), (2, .int (nI hi))]) hx hb dX6_number_62 rfl hl (by decide) rfl (fun ls hl => ?_)
        refine lv_aload_n hx hb dX6_number_63 rfl (lv_at hl 1 rfl) ?_
        refine lv_iconst (v := 1) hx hb dX6_number_64 (by decide) ?_
        refine wt_goV (wr := []) (wt_runV (As := [.int 1]) (rest := []) ⟨hx, hb, hml, hown, hts⟩ (c_X6_must_x l D cI cZ cH md bt tl ta bf s13 s14 s15 md_f16_41 md_f17_42 1 _ vm_0 vm_1 vm_2 vm_3 vm_4 vm_5 vm_6 vm_7 vm_8 vm_9 vm_18 vm_19 vm_20 vm_21 vm_22 vm_23 (by first | assumption | omega) (by first | assumption | omega) (by first | assumption | omega) yri_47) (cwV 1 hts gX6_number_X6_must rfl rfl rfl (by decide +kernel) ⟨Nat.le_of_ble_eq_true rfl, Nat.le_of_ble_eq_true rfl⟩) hK hP hD [0, 1] rfl (by decide) (va_recv hK.1 hP (ci := 6) (q0 := 0) rfl rfl) rfl hl.1 rfl (Nat.le_of_ble_eq_true rfl) dX6_number_65 ⟨Nat.le_of_ble_eq_true rfl, Nat.le_of_ble_eq_true rfl⟩) hP hD hS hA [0, 1] [] rfl rfl (by decide) (by decide) (fun w_50 H locs h_51 hP hD hS => ?_)
        obtain ⟨ta2_52, md_f13_53, md_f14_54, md_f15_55, md_f16_56, md_f17_57, rfl, x_58⟩ := h_51
        have hP : va_P D vwCl [(md, .inr (6, [vm_0, vm_1, vm_2, vm_3, vm_4, vm_5, vm_6, vm_7, vm_8, vm_9, .ref bt, .int (nI tl), .int (nI ta2_52), .int md_f13_53, .int md_f14_54, .int md_f15_55, .int md_f16_56, .int md_f17_57, vm_18, vm_19, vm_20, vm_21, vm_22, vm_23])), (bt, .inl (cI, 120, .inl bf))] H := hP
        have hD : va_D A [(md, .inr (6, [vm_0, vm_1, vm_2, vm_3, vm_4, vm_5, vm_6, vm_7, vm_8, vm_9, .ref bt, .int (nI tl), .int (nI ta2_52), .int md_f13_53, .int md_f14_54, .int md_f15_55, .int md_f16_56, .int md_f17_57, vm_18, vm_19, vm_20, vm_21, vm_22, vm_23])), (bt, .inl (cI, 120, .inl bf))] := hD
        obtain ⟨yx_59, ybd_60, yk0_61, yge_62, yri_63⟩ := x_58
        have hbd_64 : ¬ md_f16_56 = 0 := ybd_60 hbd_48
        refine lv_iload_n hx hb dX6_number_68 rfl (lv_at hl 0 rfl) ?_
        have hP9 := hP.sub (ws' := [(md, .inr (6, [vm_0, vm_1, vm_2, vm_3, vm_4, vm_5, vm_6, vm_7, vm_8, vm_9, .ref bt, .int (nI tl), .int (nI ta2_52), .int md_f13_53, .int md_f14_54, .int md_f15_55, .int md_f16_56, .int md_f17_57, vm_18, vm_19, vm_20, vm_21, vm_22, vm_23])), (bt, .inl (cI, 120, .inl bf))]) [0, 1] rfl
        have hD9 := hD.sub (ws' := [(md, .inr (6, [vm_0, vm_1, vm_2, vm_3, vm_4, vm_5, vm_6, vm_7, vm_8, vm_9, .ref bt, .int (nI tl), .int (nI ta2_52), .int md_f13_53, .int md_f14_54, .int md_f15_55, .int md_f16_56, .int md_f17_57, vm_18, vm_19, vm_20, vm_21, vm_22, vm_23])), (bt, .inl (cI, 120, .inl bf))]) [0, 1] (by decide) rfl
        exact wt_iret hx hb hr hlocks hP9 hD9 hS ⟨ta2_52, md_f13_53, md_f14_54, md_f15_55, md_f16_56, md_f17_57, rfl, ⟨⟨lo, by omega, by omega, rfl⟩, by omega, fun _ => hbd_64, yge_62, ri_eq (nm_2 hri c_1 c_18 (by omega) (by omega) c_21) yri_63⟩⟩ dX6_number_69
    · skip
      refine lv_aload_n hx hb dX6_number_15 rfl (lv_at hl 0 rfl) ?_
      refine lv_iconst (v := 1) hx hb dX6_number_16 (by decide) ?_
      refine wt_goV (wr := []) (wt_runV (As := [.int 1]) (rest := []) ⟨hx, hb, hml, hown, hts⟩ (c_X6_bad_x l D cI cZ cH md bt tl ta bf s13 s14 s15 bd s17 1 _ vm_0 vm_1 vm_2 vm_3 vm_4 vm_5 vm_6 vm_7 vm_8 vm_9 vm_18 vm_19 vm_20 vm_21 vm_22 vm_23 (by first | assumption | omega) (by decide) hri) (cwV 1 hts gX6_number_X6_bad rfl rfl rfl (by decide +kernel) ⟨Nat.le_of_ble_eq_true rfl, Nat.le_of_ble_eq_true rfl⟩) hK hP hD [0, 1] rfl (by decide) (va_recv hK.1 hP (ci := 6) (q0 := 0) rfl rfl) rfl hl.1 rfl (Nat.le_of_ble_eq_true rfl) dX6_number_17 ⟨Nat.le_of_ble_eq_true rfl, Nat.le_of_ble_eq_true rfl⟩) hP hD hS hA [0, 1] [] rfl rfl (by decide) (by decide) (fun w_66 H locs h_67 hP hD hS => ?_)
      obtain ⟨md_f16_68, md_f17_69, rfl, x_70⟩ := h_67
      have hP : va_P D vwCl [(md, .inr (6, [vm_0, vm_1, vm_2, vm_3, vm_4, vm_5, vm_6, vm_7, vm_8, vm_9, .ref bt, .int (nI tl), .int (nI ta), .int s13, .int s14, .int s15, .int md_f16_68, .int md_f17_69, vm_18, vm_19, vm_20, vm_21, vm_22, vm_23])), (bt, .inl (cI, 120, .inl bf))] H := hP
      have hD : va_D A [(md, .inr (6, [vm_0, vm_1, vm_2, vm_3, vm_4, vm_5, vm_6, vm_7, vm_8, vm_9, .ref bt, .int (nI tl), .int (nI ta), .int s13, .int s14, .int s15, .int md_f16_68, .int md_f17_69, vm_18, vm_19, vm_20, vm_21, vm_22, vm_23])), (bt, .inl (cI, 120, .inl bf))] := hD
      obtain ⟨yk0_71, ybd_72, yge_73, yri_74⟩ := x_70
      have hbd_75 : ¬ md_f16_68 = 0 := yk0_71 (by decide)
      refine lv_aload_n hx hb dX6_number_20 rfl (lv_at hl 0 rfl) ?_
      refine va_get (D := D) (ci := 6) (v := .int md_f16_68) (C := RX6) (T := TX6) (N := 24) hx hb hts hi6 hown hK.1 hP 0 rfl rfl 16 (by decide) wf78 (fun _ h9 => h9) rfl dX6_number_21 ?_
      refine lv_if_ne (tgt := 47) hx hb dX6_number_24 (by decide) (fun _ => ?_) (fun h => absurd h hbd_75)
      refine lv_aload_n hx hb dX6_number_47 rfl (lv_at hl 0 rfl) ?_
      refine va_get (D := D) (ci := 6) (v := .int md_f16_68) (C := RX6) (T := TX6) (N := 24) hx hb hts hi6 hown hK.1 hP 0 rfl rfl 16 (by decide) wf78 (fun _ h9 => h9) rfl dX6_number_48 ?_
      refine lv_if_ne (tgt := 61) hx hb dX6_number_51 (by decide) (fun _ => ?_) (fun h => absurd h hbd_75)
      refine lv_iload_n hx hb dX6_number_61 rfl (lv_at hl 1 rfl) ?_
      refine lv_istore_n (lv' := [(3, .int (nI lo)), (0, .ref md), (1, .int (nI lo)), (2, .int (nI hi))]) hx hb dX6_number_62 rfl hl (by decide) rfl (fun ls hl => ?_)
      refine lv_aload_n hx hb dX6_number_63 rfl (lv_at hl 1 rfl) ?_
      refine lv_iconst (v := 1) hx hb dX6_number_64 (by decide) ?_
      refine wt_goV (wr := []) (wt_runV (As := [.int 1]) (rest := []) ⟨hx, hb, hml, hown, hts⟩ (c_X6_must_x l D cI cZ cH md bt tl ta bf s13 s14 s15 md_f16_68 md_f17_69 1 _ vm_0 vm_1 vm_2 vm_3 vm_4 vm_5 vm_6 vm_7 vm_8 vm_9 vm_18 vm_19 vm_20 vm_21 vm_22 vm_23 (by first | assumption | omega) (by first | assumption | omega) (by first | assumption | omega) yri_74) (cwV 1 hts gX6_number_X6_must rfl rfl rfl (by decide +kernel) ⟨Nat.le_of_ble_eq_true rfl, Nat.le_of_ble_eq_true rfl⟩) hK hP hD [0, 1] rfl (by decide) (va_recv hK.1 hP (ci := 6) (q0 := 0) rfl rfl) rfl hl.1 rfl (Nat.le_of_ble_eq_true rfl) dX6_number_65 ⟨Nat.le_of_ble_eq_true rfl, Nat.le_of_ble_eq_true rfl⟩) hP hD hS hA [0, 1] [] rfl rfl (by decide) (by decide) (fun w_77 H locs h_78 hP hD hS => ?_)
      obtain ⟨ta2_79, md_f13_80, md_f14_81, md_f15_82, md_f16_83, md_f17_84, rfl, x_85⟩ := h_78
      have hP : va_P D vwCl [(md, .inr (6, [vm_0, vm_1, vm_2, vm_3, vm_4, vm_5, vm_6, vm_7, vm_8, vm_9, .ref bt, .int (nI tl), .int (nI ta2_79), .int md_f13_80, .int md_f14_81, .int md_f15_82, .int md_f16_83, .int md_f17_84, vm_18, vm_19, vm_20, vm_21, vm_22, vm_23])), (bt, .inl (cI, 120, .inl bf))] H := hP
      have hD : va_D A [(md, .inr (6, [vm_0, vm_1, vm_2, vm_3, vm_4, vm_5, vm_6, vm_7, vm_8, vm_9, .ref bt, .int (nI tl), .int (nI ta2_79), .int md_f13_80, .int md_f14_81, .int md_f15_82, .int md_f16_83, .int md_f17_84, vm_18, vm_19, vm_20, vm_21, vm_22, vm_23])), (bt, .inl (cI, 120, .inl bf))] := hD
      obtain ⟨yx_86, ybd_87, yk0_88, yge_89, yri_90⟩ := x_85
      have hbd_91 : ¬ md_f16_83 = 0 := ybd_87 hbd_75
      refine lv_iload_n hx hb dX6_number_68 rfl (lv_at hl 0 rfl) ?_
      have hP9 := hP.sub (ws' := [(md, .inr (6, [vm_0, vm_1, vm_2, vm_3, vm_4, vm_5, vm_6, vm_7, vm_8, vm_9, .ref bt, .int (nI tl), .int (nI ta2_79), .int md_f13_80, .int md_f14_81, .int md_f15_82, .int md_f16_83, .int md_f17_84, vm_18, vm_19, vm_20, vm_21, vm_22, vm_23])), (bt, .inl (cI, 120, .inl bf))]) [0, 1] rfl
      have hD9 := hD.sub (ws' := [(md, .inr (6, [vm_0, vm_1, vm_2, vm_3, vm_4, vm_5, vm_6, vm_7, vm_8, vm_9, .ref bt, .int (nI tl), .int (nI ta2_79), .int md_f13_80, .int md_f14_81, .int md_f15_82, .int md_f16_83, .int md_f17_84, vm_18, vm_19, vm_20, vm_21, vm_22, vm_23])), (bt, .inl (cI, 120, .inl bf))]) [0, 1] (by decide) rfl
      exact wt_iret hx hb hr hlocks hP9 hD9 hS ⟨ta2_79, md_f13_80, md_f14_81, md_f15_82, md_f16_83, md_f17_84, rfl, ⟨⟨lo, by omega, by omega, rfl⟩, by omega, fun _ => hbd_91, yge_89, ri_eq (nm_1 hri c_1 c_18) yri_90⟩⟩ dX6_number_69
set_option maxHeartbeats 1000000 in
set_option maxRecDepth 100000 in
theorem c_X6_mustSign_x (l : Launch) (D : va_G) (cI cZ cH : ClassId) (md bt : Nat) (tl ta : Nat) (bf : Nat → Int32) (s13 s14 s15 bd s17 : Int32) (k : Int32) (s0 : Int32 × Nat) (vm_0 vm_1 vm_2 vm_3 vm_4 vm_5 vm_6 vm_7 vm_8 vm_9 vm_18 vm_19 vm_20 vm_21 vm_22 vm_23 : Value) (htl : tl ≤ 120) (hta : ta ≤ tl) (hb0 : 0 ≤ bd) (hk4 : k = 44 ∨ k = 59) (hri : RI tl bf bd s13 s14 s15 s17 ta s0) : wt_M l yX6_mustSign wsX6_mustSign ({ frames := 3, cells := 0, slots := 0, locals := 66 } : Room) D (wt_T cI cZ cH) [.ref md, .int k] [(md, .inr (6, [vm_0, vm_1, vm_2, vm_3, vm_4, vm_5, vm_6, vm_7, vm_8, vm_9, .ref bt, .int (nI tl), .int (nI ta), .int s13, .int s14, .int s15, .int bd, .int s17, vm_18, vm_19, vm_20, vm_21, vm_22, vm_23])), (bt, .inl (cI, 120, .inl bf))] (wt_QV D (fun w => ∃ (ta2 : Nat) (md_f13 md_f14 md_f15 md_f16 md_f17 : Int32), w = [(md, .inr (6, [vm_0, vm_1, vm_2, vm_3, vm_4, vm_5, vm_6, vm_7, vm_8, vm_9, .ref bt, .int (nI tl), .int (nI ta2), .int md_f13, .int md_f14, .int md_f15, .int md_f16, .int md_f17, vm_18, vm_19, vm_20, vm_21, vm_22, vm_23])), (bt, .inl (cI, 120, .inl bf))] ∧ ta2 ≤ tl ∧ (¬ bd = 0 → ¬ md_f16 = 0) ∧ 0 ≤ md_f16 ∧ RI tl bf md_f16 md_f13 md_f14 md_f15 md_f17 ta2 (sP tl bf k s0))) := by
  refine wt_M.ofW (cc := cX6_mustSign) (maxL := 2) (ret := none) (by decide) rfl (Nat.le_of_ble_eq_true rfl) ?_
  intro p e s m below meth c A ls hx hb hr hts hown hlocks hml hnm hP hK hD hA hS hl
  have hP : va_P D vwCl [(md, .inr (6, [vm_0, vm_1, vm_2, vm_3, vm_4, vm_5, vm_6, vm_7, vm_8, vm_9, .ref bt, .int (nI tl), .int (nI ta), .int s13, .int s14, .int s15, .int bd, .int s17, vm_18, vm_19, vm_20, vm_21, vm_22, vm_23])), (bt, .inl (cI, 120, .inl bf))] s.heap := hP
  have hown : s.vm.findClass RX6 = some m.cls := hown
  have hl : lv_has ls 2 [(0, .ref md), (1, .int k)] := hl
  have hi6 : ∀ w ∈ u_ws RX6 TX6 24, w ∈ wsX6_mustSign := by decide +kernel
  have wf102 := hts (.fieldLink RX6 102 "WarmTubesModel" "token" "I") (by decide +kernel)
  have wf91 := hts (.fieldLink RX6 91 "WarmTubesModel" "value" "I") (by decide +kernel)
  refine lv_aload_n hx hb dX6_mustSign_0 rfl (lv_at hl 0 rfl) ?_
  refine lv_aload_n hx hb dX6_mustSign_1 rfl (lv_at hl 0 rfl) ?_
  refine va_get (D := D) (ci := 6) (v := .int s14) (C := RX6) (T := TX6) (N := 24) hx hb hts hi6 hown hK.1 hP 0 rfl rfl 14 (by decide) wf102 (fun _ h9 => h9) rfl dX6_mustSign_2 ?_
  refine lv_iconst (v := 4) hx hb dX6_mustSign_5 (by decide) ?_
  refine lv_icmp_ne (tgt := 21) hx hb dX6_mustSign_6 (by decide) (fun c_1 => ?_) (fun c_1 => ?_)
  · skip
    refine lv_iconst (v := 0) hx hb dX6_mustSign_21 (by decide) ?_
    refine wt_goV (wr := []) (wt_runV (As := [.int 0]) (rest := []) ⟨hx, hb, hml, hown, hts⟩ (c_X6_must_x l D cI cZ cH md bt tl ta bf s13 s14 s15 bd s17 0 _ vm_0 vm_1 vm_2 vm_3 vm_4 vm_5 vm_6 vm_7 vm_8 vm_9 vm_18 vm_19 vm_20 vm_21 vm_22 vm_23 (by first | assumption | omega) (by first | assumption | omega) (by first | assumption | omega) hri) (cwV 1 hts gX6_mustSign_X6_must rfl rfl rfl (by decide +kernel) ⟨Nat.le_of_ble_eq_true rfl, Nat.le_of_ble_eq_true rfl⟩) hK hP hD [0, 1] rfl (by decide) (va_recv hK.1 hP (ci := 6) (q0 := 0) rfl rfl) rfl hl.1 rfl (Nat.le_of_ble_eq_true rfl) dX6_mustSign_22 ⟨Nat.le_of_ble_eq_true rfl, Nat.le_of_ble_eq_true rfl⟩) hP hD hS hA [0, 1] [] rfl rfl (by decide) (by decide) (fun w_3 H locs h_4 hP hD hS => ?_)
    obtain ⟨ta2_5, md_f13_6, md_f14_7, md_f15_8, md_f16_9, md_f17_10, rfl, x_11⟩ := h_4
    have hP : va_P D vwCl [(md, .inr (6, [vm_0, vm_1, vm_2, vm_3, vm_4, vm_5, vm_6, vm_7, vm_8, vm_9, .ref bt, .int (nI tl), .int (nI ta2_5), .int md_f13_6, .int md_f14_7, .int md_f15_8, .int md_f16_9, .int md_f17_10, vm_18, vm_19, vm_20, vm_21, vm_22, vm_23])), (bt, .inl (cI, 120, .inl bf))] H := hP
    have hD : va_D A [(md, .inr (6, [vm_0, vm_1, vm_2, vm_3, vm_4, vm_5, vm_6, vm_7, vm_8, vm_9, .ref bt, .int (nI tl), .int (nI ta2_5), .int md_f13_6, .int md_f14_7, .int md_f15_8, .int md_f16_9, .int md_f17_10, vm_18, vm_19, vm_20, vm_21, vm_22, vm_23])), (bt, .inl (cI, 120, .inl bf))] := hD
    obtain ⟨yx_12, ybd_13, yk0_14, yge_15, yri_16⟩ := x_11
    have hbd_17 : ¬ md_f16_9 = 0 := yk0_14 rfl
    have hP9 := hP.sub (ws' := [(md, .inr (6, [vm_0, vm_1, vm_2, vm_3, vm_4, vm_5, vm_6, vm_7, vm_8, vm_9, .ref bt, .int (nI tl), .int (nI ta2_5), .int md_f13_6, .int md_f14_7, .int md_f15_8, .int md_f16_9, .int md_f17_10, vm_18, vm_19, vm_20, vm_21, vm_22, vm_23])), (bt, .inl (cI, 120, .inl bf))]) [0, 1] rfl
    have hD9 := hD.sub (ws' := [(md, .inr (6, [vm_0, vm_1, vm_2, vm_3, vm_4, vm_5, vm_6, vm_7, vm_8, vm_9, .ref bt, .int (nI tl), .int (nI ta2_5), .int md_f13_6, .int md_f14_7, .int md_f15_8, .int md_f16_9, .int md_f17_10, vm_18, vm_19, vm_20, vm_21, vm_22, vm_23])), (bt, .inl (cI, 120, .inl bf))]) [0, 1] (by decide) rfl
    exact wt_vret hx hb hr hlocks hP9 hD9 hS ⟨ta2_5, md_f13_6, md_f14_7, md_f15_8, md_f16_9, md_f17_10, rfl, ⟨by omega, fun _ => hbd_17, yge_15, ri_eq (sg_a hri hk4 c_1) yri_16⟩⟩ dX6_mustSign_25
  · skip
    refine lv_aload_n hx hb dX6_mustSign_9 rfl (lv_at hl 0 rfl) ?_
    refine va_get (D := D) (ci := 6) (v := .int s15) (C := RX6) (T := TX6) (N := 24) hx hb hts hi6 hown hK.1 hP 0 rfl rfl 15 (by decide) wf91 (fun _ h9 => h9) rfl dX6_mustSign_10 ?_
    refine lv_iload_n hx hb dX6_mustSign_13 rfl (lv_at hl 1 rfl) ?_
    refine lv_icmp_ne (tgt := 21) hx hb dX6_mustSign_14 (by decide) (fun c_18 => ?_) (fun c_18 => ?_)
    · skip
      refine lv_iconst (v := 0) hx hb dX6_mustSign_21 (by decide) ?_
      refine wt_goV (wr := []) (wt_runV (As := [.int 0]) (rest := []) ⟨hx, hb, hml, hown, hts⟩ (c_X6_must_x l D cI cZ cH md bt tl ta bf s13 s14 s15 bd s17 0 _ vm_0 vm_1 vm_2 vm_3 vm_4 vm_5 vm_6 vm_7 vm_8 vm_9 vm_18 vm_19 vm_20 vm_21 vm_22 vm_23 (by first | assumption | omega) (by first | assumption | omega) (by first | assumption | omega) hri) (cwV 1 hts gX6_mustSign_X6_must rfl rfl rfl (by decide +kernel) ⟨Nat.le_of_ble_eq_true rfl, Nat.le_of_ble_eq_true rfl⟩) hK hP hD [0, 1] rfl (by decide) (va_recv hK.1 hP (ci := 6) (q0 := 0) rfl rfl) rfl hl.1 rfl (Nat.le_of_ble_eq_true rfl) dX6_mustSign_22 ⟨Nat.le_of_ble_eq_true rfl, Nat.le_of_ble_eq_true rfl⟩) hP hD hS hA [0, 1] [] rfl rfl (by decide) (by decide) (fun w_20 H locs h_21 hP hD hS => ?_)
      obtain ⟨ta2_22, md_f13_23, md_f14_24, md_f15_25, md_f16_26, md_f17_27, rfl, x_28⟩ := h_21
      have hP : va_P D vwCl [(md, .inr (6, [vm_0, vm_1, vm_2, vm_3, vm_4, vm_5, vm_6, vm_7, vm_8, vm_9, .ref bt, .int (nI tl), .int (nI ta2_22), .int md_f13_23, .int md_f14_24, .int md_f15_25, .int md_f16_26, .int md_f17_27, vm_18, vm_19, vm_20, vm_21, vm_22, vm_23])), (bt, .inl (cI, 120, .inl bf))] H := hP
      have hD : va_D A [(md, .inr (6, [vm_0, vm_1, vm_2, vm_3, vm_4, vm_5, vm_6, vm_7, vm_8, vm_9, .ref bt, .int (nI tl), .int (nI ta2_22), .int md_f13_23, .int md_f14_24, .int md_f15_25, .int md_f16_26, .int md_f17_27, vm_18, vm_19, vm_20, vm_21, vm_22, vm_23])), (bt, .inl (cI, 120, .inl bf))] := hD
      obtain ⟨yx_29, ybd_30, yk0_31, yge_32, yri_33⟩ := x_28
      have hbd_34 : ¬ md_f16_26 = 0 := yk0_31 rfl
      have hP9 := hP.sub (ws' := [(md, .inr (6, [vm_0, vm_1, vm_2, vm_3, vm_4, vm_5, vm_6, vm_7, vm_8, vm_9, .ref bt, .int (nI tl), .int (nI ta2_22), .int md_f13_23, .int md_f14_24, .int md_f15_25, .int md_f16_26, .int md_f17_27, vm_18, vm_19, vm_20, vm_21, vm_22, vm_23])), (bt, .inl (cI, 120, .inl bf))]) [0, 1] rfl
      have hD9 := hD.sub (ws' := [(md, .inr (6, [vm_0, vm_1, vm_2, vm_3, vm_4, vm_5, vm_6, vm_7, vm_8, vm_9, .ref bt, .int (nI tl), .int (nI ta2_22), .int md_f13_23, .int md_f14_24, .int md_f15_25, .int md_f16_26, .int md_f17_27, vm_18, vm_19, vm_20, vm_21, vm_22, vm_23])), (bt, .inl (cI, 120, .inl bf))]) [0, 1] (by decide) rfl
      exact wt_vret hx hb hr hlocks hP9 hD9 hS ⟨ta2_22, md_f13_23, md_f14_24, md_f15_25, md_f16_26, md_f17_27, rfl, ⟨by omega, fun _ => hbd_34, yge_32, ri_eq (sg_b hri c_1 c_18) yri_33⟩⟩ dX6_mustSign_25
    · skip
      refine lv_iconst (v := 1) hx hb dX6_mustSign_17 (by decide) ?_
      refine lv_goto (tgt := 22) hx hb dX6_mustSign_18 (by decide) ?_
      refine wt_goV (wr := []) (wt_runV (As := [.int 1]) (rest := []) ⟨hx, hb, hml, hown, hts⟩ (c_X6_must_x l D cI cZ cH md bt tl ta bf s13 s14 s15 bd s17 1 _ vm_0 vm_1 vm_2 vm_3 vm_4 vm_5 vm_6 vm_7 vm_8 vm_9 vm_18 vm_19 vm_20 vm_21 vm_22 vm_23 (by first | assumption | omega) (by first | assumption | omega) (by first | assumption | omega) hri) (cwV 1 hts gX6_mustSign_X6_must rfl rfl rfl (by decide +kernel) ⟨Nat.le_of_ble_eq_true rfl, Nat.le_of_ble_eq_true rfl⟩) hK hP hD [0, 1] rfl (by decide) (va_recv hK.1 hP (ci := 6) (q0 := 0) rfl rfl) rfl hl.1 rfl (Nat.le_of_ble_eq_true rfl) dX6_mustSign_22 ⟨Nat.le_of_ble_eq_true rfl, Nat.le_of_ble_eq_true rfl⟩) hP hD hS hA [0, 1] [] rfl rfl (by decide) (by decide) (fun w_36 H locs h_37 hP hD hS => ?_)
      obtain ⟨ta2_38, md_f13_39, md_f14_40, md_f15_41, md_f16_42, md_f17_43, rfl, x_44⟩ := h_37
      have hP : va_P D vwCl [(md, .inr (6, [vm_0, vm_1, vm_2, vm_3, vm_4, vm_5, vm_6, vm_7, vm_8, vm_9, .ref bt, .int (nI tl), .int (nI ta2_38), .int md_f13_39, .int md_f14_40, .int md_f15_41, .int md_f16_42, .int md_f17_43, vm_18, vm_19, vm_20, vm_21, vm_22, vm_23])), (bt, .inl (cI, 120, .inl bf))] H := hP
      have hD : va_D A [(md, .inr (6, [vm_0, vm_1, vm_2, vm_3, vm_4, vm_5, vm_6, vm_7, vm_8, vm_9, .ref bt, .int (nI tl), .int (nI ta2_38), .int md_f13_39, .int md_f14_40, .int md_f15_41, .int md_f16_42, .int md_f17_43, vm_18, vm_19, vm_20, vm_21, vm_22, vm_23])), (bt, .inl (cI, 120, .inl bf))] := hD
      obtain ⟨yx_45, ybd_46, yk0_47, yge_48, yri_49⟩ := x_44
      have hP9 := hP.sub (ws' := [(md, .inr (6, [vm_0, vm_1, vm_2, vm_3, vm_4, vm_5, vm_6, vm_7, vm_8, vm_9, .ref bt, .int (nI tl), .int (nI ta2_38), .int md_f13_39, .int md_f14_40, .int md_f15_41, .int md_f16_42, .int md_f17_43, vm_18, vm_19, vm_20, vm_21, vm_22, vm_23])), (bt, .inl (cI, 120, .inl bf))]) [0, 1] rfl
      have hD9 := hD.sub (ws' := [(md, .inr (6, [vm_0, vm_1, vm_2, vm_3, vm_4, vm_5, vm_6, vm_7, vm_8, vm_9, .ref bt, .int (nI tl), .int (nI ta2_38), .int md_f13_39, .int md_f14_40, .int md_f15_41, .int md_f16_42, .int md_f17_43, vm_18, vm_19, vm_20, vm_21, vm_22, vm_23])), (bt, .inl (cI, 120, .inl bf))]) [0, 1] (by decide) rfl
      exact wt_vret hx hb hr hlocks hP9 hD9 hS ⟨ta2_38, md_f13_39, md_f14_40, md_f15_41, md_f16_42, md_f17_43, rfl, ⟨by omega, ybd_46, yge_48, ri_eq (sg_1 hri c_1 c_18) yri_49⟩⟩ dX6_mustSign_25
set_option maxHeartbeats 1000000 in
set_option maxRecDepth 100000 in
theorem c_X6_readRoom_x (l : Launch) (D : va_G) (cI cZ cH : ClassId) (md bt : Nat) (tl ta : Nat) (bf : Nat → Int32) (s13 s14 s15 bd s17 : Int32) (fr : Nat) (R T : Nat) (tf : Nat → Int32) (s0 : Int32 × Nat) (vm_0 vm_1 vm_2 vm_3 vm_4 vm_5 vm_7 vm_8 vm_9 vm_18 vm_19 vm_20 vm_21 vm_22 vm_23 : Value) (htl : tl ≤ 120) (hta : ta ≤ tl) (hb0 : 0 ≤ bd) (hR5 : R ≤ 5) (hT6 : T ≤ 6) (hrk : rk R T tf) (hri : RI tl bf bd s13 s14 s15 s17 ta s0) : wt_M l yX6_readRoom wsX6_readRoom ({ frames := 4, cells := 0, slots := 0, locals := 89 } : Room) D (wt_T cI cZ cH) [.ref md] [(md, .inr (6, [vm_0, vm_1, vm_2, vm_3, vm_4, vm_5, .ref fr, vm_7, vm_8, vm_9, .ref bt, .int (nI tl), .int (nI ta), .int s13, .int s14, .int s15, .int bd, .int s17, vm_18, vm_19, vm_20, vm_21, vm_22, vm_23])), (bt, .inl (cI, 120, .inl bf)), (fr, .inl (cI, 45, .inl tf))] (wt_QV D (fun w => ∃ (tf2 : Nat → Int32) (ta2 : Nat) (md_f13 md_f14 md_f15 md_f16 md_f17 : Int32), w = [(md, .inr (6, [vm_0, vm_1, vm_2, vm_3, vm_4, vm_5, .ref fr, vm_7, vm_8, vm_9, .ref bt, .int (nI tl), .int (nI ta2), .int md_f13, .int md_f14, .int md_f15, .int md_f16, .int md_f17, vm_18, vm_19, vm_20, vm_21, vm_22, vm_23])), (bt, .inl (cI, 120, .inl bf)), (fr, .inl (cI, 45, .inl tf2))] ∧ ∃ R2 : Nat, R2 ≤ 5 ∧ R ≤ R2 ∧ rk R2 T tf2 ∧ ta2 ≤ tl ∧ 0 ≤ md_f16 ∧ (md_f16 = 0 → R2 = R + 1) ∧ (¬ md_f16 = 0 → R2 = R) ∧ RI tl bf md_f16 md_f13 md_f14 md_f15 md_f17 ta2 (sRoom tl bf (if R = 5 then badS 3 s0 else s0)))) := by
  refine wt_M.ofW (cc := cX6_readRoom) (maxL := 3) (ret := none) (by decide) rfl (Nat.le_of_ble_eq_true rfl) ?_
  intro p e s m below meth c A ls hx hb hr hts hown hlocks hml hnm hP hK hD hA hS hl
  have hP : va_P D vwCl [(md, .inr (6, [vm_0, vm_1, vm_2, vm_3, vm_4, vm_5, .ref fr, vm_7, vm_8, vm_9, .ref bt, .int (nI tl), .int (nI ta), .int s13, .int s14, .int s15, .int bd, .int s17, vm_18, vm_19, vm_20, vm_21, vm_22, vm_23])), (bt, .inl (cI, 120, .inl bf)), (fr, .inl (cI, 45, .inl tf))] s.heap := hP
  have hown : s.vm.findClass RX6 = some m.cls := hown
  have hl : lv_has ls 3 [(0, .ref md)] := hl
  have hi6 : ∀ w ∈ u_ws RX6 TX6 24, w ∈ wsX6_readRoom := by decide +kernel
  have wf22 := hts (.fieldLink RX6 22 "WarmTubesModel" "fresh" "[I") (by decide +kernel)
  have wf78 := hts (.fieldLink RX6 78 "WarmTubesModel" "fault" "I") (by decide +kernel)
  refine lv_aload_n hx hb dX6_readRoom_0 rfl (lv_at hl 0 rfl) ?_
  refine va_get (D := D) (ci := 6) (v := .ref fr) (C := RX6) (T := TX6) (N := 24) hx hb hts hi6 hown hK.1 hP 0 rfl rfl 6 (by decide) wf22 (fun _ h9 => h9) rfl dX6_readRoom_1 ?_
  refine lv_iconst (v := 0) hx hb dX6_readRoom_4 (by decide) ?_
  refine va_iald hx hb hK.1 hP 2 0 rfl rfl (by rw [vp_in_iff]; decide) dX6_readRoom_5 ?_
  refine wt_top (z := nI R) (hrk.1) ?_
  refine lv_iconst (v := 5) hx hb dX6_readRoom_6 (by decide) ?_
  refine lv_icmp_ne (tgt := 15) hx hb dX6_readRoom_7 (by decide) (fun c_1 => ?_) (fun c_1 => ?_)
  · skip
    have c_1 : ¬ (R = 5) := fun h => c_1 ((nI_eq (a := R) (b := 5) (by omega) (by omega)).mpr h)
    refine lv_aload_n hx hb dX6_readRoom_15 rfl (lv_at hl 0 rfl) ?_
    refine lv_aload_n hx hb dX6_readRoom_16 rfl (lv_at hl 0 rfl) ?_
    refine lv_bipush (v := 109) hx hb dX6_readRoom_17 (by decide) ?_
    refine wt_rV (As := [.int 109]) (rest := [.ref md]) ⟨hx, hb, hml, hown, hts⟩ (c_X6_isLetter l D cI cZ cH md s14 s15 bd 109 vm_0 vm_1 vm_2 vm_3 vm_4 vm_5 (.ref fr) vm_7 vm_8 vm_9 (.ref bt) (.int (nI tl)) (.int (nI ta)) (.int s13) (.int s17) vm_18 vm_19 vm_20 vm_21 vm_22 vm_23) (cwV 1 hts gX6_readRoom_X6_isLetter rfl rfl rfl (by decide +kernel) ⟨Nat.le_of_ble_eq_true rfl, Nat.le_of_ble_eq_true rfl⟩) hK hP [0] rfl (va_recv hK.1 hP (ci := 6) (q0 := 0) rfl rfl) rfl hl.1 rfl (Nat.le_of_ble_eq_true rfl) dX6_readRoom_19 ⟨Nat.le_of_ble_eq_true rfl, Nat.le_of_ble_eq_true rfl⟩ (fun r_2 e_3 => ?_)
    subst e_3
    refine wt_goV (wr := [(fr, .inl (cI, 45, .inl tf))]) (wt_runV (As := [.int (lB bd s14 s15 109)]) (rest := []) ⟨hx, hb, hml, hown, hts⟩ (c_X6_must_x l D cI cZ cH md bt tl ta bf s13 s14 s15 bd s17 (lB bd s14 s15 109) _ vm_0 vm_1 vm_2 vm_3 vm_4 vm_5 (.ref fr) vm_7 vm_8 vm_9 vm_18 vm_19 vm_20 vm_21 vm_22 vm_23 (by first | assumption | omega) (by first | assumption | omega) (by first | assumption | omega) hri) (cwV 1 hts gX6_readRoom_X6_must rfl rfl rfl (by decide +kernel) ⟨Nat.le_of_ble_eq_true rfl, Nat.le_of_ble_eq_true rfl⟩) hK hP hD [0, 1] rfl (by decide) (va_recv hK.1 hP (ci := 6) (q0 := 0) rfl rfl) rfl hl.1 rfl (Nat.le_of_ble_eq_true rfl) dX6_readRoom_22 ⟨Nat.le_of_ble_eq_true rfl, Nat.le_of_ble_eq_true rfl⟩) hP hD hS hA [0, 1] [2] rfl rfl (by decide) (by decide) (fun w_5 H locs h_6 hP hD hS => ?_)
    obtain ⟨ta2_7, md_f13_8, md_f14_9, md_f15_10, md_f16_11, md_f17_12, rfl, x_13⟩ := h_6
    have hP : va_P D vwCl [(fr, .inl (cI, 45, .inl tf)), (md, .inr (6, [vm_0, vm_1, vm_2, vm_3, vm_4, vm_5, .ref fr, vm_7, vm_8, vm_9, .ref bt, .int (nI tl), .int (nI ta2_7), .int md_f13_8, .int md_f14_9, .int md_f15_10, .int md_f16_11, .int md_f17_12, vm_18, vm_19, vm_20, vm_21, vm_22, vm_23])), (bt, .inl (cI, 120, .inl bf))] H := hP
    have hD : va_D A [(fr, .inl (cI, 45, .inl tf)), (md, .inr (6, [vm_0, vm_1, vm_2, vm_3, vm_4, vm_5, .ref fr, vm_7, vm_8, vm_9, .ref bt, .int (nI tl), .int (nI ta2_7), .int md_f13_8, .int md_f14_9, .int md_f15_10, .int md_f16_11, .int md_f17_12, vm_18, vm_19, vm_20, vm_21, vm_22, vm_23])), (bt, .inl (cI, 120, .inl bf))] := hD
    obtain ⟨yx_14, ybd_15, yk0_16, yge_17, yri_18⟩ := x_13
    have ri_19 := ri_eq (let_P hri (by decide)) yri_18
    refine lv_aload_n hx hb dX6_readRoom_25 rfl (lv_at hl 0 rfl) ?_
    refine lv_iconst (v := 0) hx hb dX6_readRoom_26 (by decide) ?_
    refine lv_bipush (v := 99) hx hb dX6_readRoom_27 (by decide) ?_
    refine wt_goI (wr := [(fr, .inl (cI, 45, .inl tf))]) (wt_runV (As := [.int 0, .int 99]) (rest := []) ⟨hx, hb, hml, hown, hts⟩ (c_X6_number_x l D cI cZ cH md bt tl ta2_7 bf md_f13_8 md_f14_9 md_f15_10 md_f16_11 md_f17_12 0 99 _ vm_0 vm_1 vm_2 vm_3 vm_4 vm_5 (.ref fr) vm_7 vm_8 vm_9 vm_18 vm_19 vm_20 vm_21 vm_22 vm_23 (by first | assumption | omega) (by first | assumption | omega) (by first | assumption | omega) (by first | assumption | omega) (by first | assumption | omega) ri_19) (cwV 2 hts gX6_readRoom_X6_number rfl rfl rfl (by decide +kernel) ⟨Nat.le_of_ble_eq_true rfl, Nat.le_of_ble_eq_true rfl⟩) hK hP hD [1, 2] rfl (by decide) (va_recv hK.1 hP (ci := 6) (q0 := 1) rfl rfl) rfl hl.1 rfl (Nat.le_of_ble_eq_true rfl) dX6_readRoom_29 ⟨Nat.le_of_ble_eq_true rfl, Nat.le_of_ble_eq_true rfl⟩) hP hD hS hA [1, 2] [0] rfl rfl (by decide) (by decide) (fun r_20 w_21 H locs h_22 hP hD hS => ?_)
    obtain ⟨ta2_23, md_f13_24, md_f14_25, md_f15_26, md_f16_27, md_f17_28, rfl, x_29⟩ := h_22
    have hP : va_P D vwCl [(fr, .inl (cI, 45, .inl tf)), (md, .inr (6, [vm_0, vm_1, vm_2, vm_3, vm_4, vm_5, .ref fr, vm_7, vm_8, vm_9, .ref bt, .int (nI tl), .int (nI ta2_23), .int md_f13_24, .int md_f14_25, .int md_f15_26, .int md_f16_27, .int md_f17_28, vm_18, vm_19, vm_20, vm_21, vm_22, vm_23])), (bt, .inl (cI, 120, .inl bf))] H := hP
    have hD : va_D A [(fr, .inl (cI, 45, .inl tf)), (md, .inr (6, [vm_0, vm_1, vm_2, vm_3, vm_4, vm_5, .ref fr, vm_7, vm_8, vm_9, .ref bt, .int (nI tl), .int (nI ta2_23), .int md_f13_24, .int md_f14_25, .int md_f15_26, .int md_f16_27, .int md_f17_28, vm_18, vm_19, vm_20, vm_21, vm_22, vm_23])), (bt, .inl (cI, 120, .inl bf))] := hD
    obtain ⟨⟨v_30, hv_30a, hv_30b, rfl⟩, yx_31, ybd_32, yge_33, yri_34⟩ := x_29
    refine lv_istore_n (lv' := [(1, .int (nI v_30)), (0, .ref md)]) hx hb dX6_readRoom_32 rfl hl (by decide) rfl (fun ls hl => ?_)
    refine lv_aload_n hx hb dX6_readRoom_33 rfl (lv_at hl 1 rfl) ?_
    refine lv_bipush (v := 44) hx hb dX6_readRoom_34 (by decide) ?_
    refine wt_goV (wr := [(fr, .inl (cI, 45, .inl tf))]) (wt_runV (As := [.int 44]) (rest := []) ⟨hx, hb, hml, hown, hts⟩ (c_X6_mustSign_x l D cI cZ cH md bt tl ta2_23 bf md_f13_24 md_f14_25 md_f15_26 md_f16_27 md_f17_28 44 _ vm_0 vm_1 vm_2 vm_3 vm_4 vm_5 (.ref fr) vm_7 vm_8 vm_9 vm_18 vm_19 vm_20 vm_21 vm_22 vm_23 (by first | assumption | omega) (by first | assumption | omega) (by first | assumption | omega) (by decide) yri_34) (cwV 1 hts gX6_readRoom_X6_mustSign rfl rfl rfl (by decide +kernel) ⟨Nat.le_of_ble_eq_true rfl, Nat.le_of_ble_eq_true rfl⟩) hK hP hD [1, 2] rfl (by decide) (va_recv hK.1 hP (ci := 6) (q0 := 1) rfl rfl) rfl hl.1 rfl (Nat.le_of_ble_eq_true rfl) dX6_readRoom_36 ⟨Nat.le_of_ble_eq_true rfl, Nat.le_of_ble_eq_true rfl⟩) hP hD hS hA [1, 2] [0] rfl rfl (by decide) (by decide) (fun w_36 H locs h_37 hP hD hS => ?_)
    obtain ⟨ta2_38, md_f13_39, md_f14_40, md_f15_41, md_f16_42, md_f17_43, rfl, x_44⟩ := h_37
    have hP : va_P D vwCl [(fr, .inl (cI, 45, .inl tf)), (md, .inr (6, [vm_0, vm_1, vm_2, vm_3, vm_4, vm_5, .ref fr, vm_7, vm_8, vm_9, .ref bt, .int (nI tl), .int (nI ta2_38), .int md_f13_39, .int md_f14_40, .int md_f15_41, .int md_f16_42, .int md_f17_43, vm_18, vm_19, vm_20, vm_21, vm_22, vm_23])), (bt, .inl (cI, 120, .inl bf))] H := hP
    have hD : va_D A [(fr, .inl (cI, 45, .inl tf)), (md, .inr (6, [vm_0, vm_1, vm_2, vm_3, vm_4, vm_5, .ref fr, vm_7, vm_8, vm_9, .ref bt, .int (nI tl), .int (nI ta2_38), .int md_f13_39, .int md_f14_40, .int md_f15_41, .int md_f16_42, .int md_f17_43, vm_18, vm_19, vm_20, vm_21, vm_22, vm_23])), (bt, .inl (cI, 120, .inl bf))] := hD
    obtain ⟨yx_45, ybd_46, yge_47, yri_48⟩ := x_44
    refine lv_aload_n hx hb dX6_readRoom_39 rfl (lv_at hl 1 rfl) ?_
    refine lv_iconst (v := 0) hx hb dX6_readRoom_40 (by decide) ?_
    refine lv_bipush (v := 20) hx hb dX6_readRoom_41 (by decide) ?_
    refine wt_goI (wr := [(fr, .inl (cI, 45, .inl tf))]) (wt_runV (As := [.int 0, .int 20]) (rest := []) ⟨hx, hb, hml, hown, hts⟩ (c_X6_number_x l D cI cZ cH md bt tl ta2_38 bf md_f13_39 md_f14_40 md_f15_41 md_f16_42 md_f17_43 0 20 _ vm_0 vm_1 vm_2 vm_3 vm_4 vm_5 (.ref fr) vm_7 vm_8 vm_9 vm_18 vm_19 vm_20 vm_21 vm_22 vm_23 (by first | assumption | omega) (by first | assumption | omega) (by first | assumption | omega) (by first | assumption | omega) (by first | assumption | omega) yri_48) (cwV 2 hts gX6_readRoom_X6_number rfl rfl rfl (by decide +kernel) ⟨Nat.le_of_ble_eq_true rfl, Nat.le_of_ble_eq_true rfl⟩) hK hP hD [1, 2] rfl (by decide) (va_recv hK.1 hP (ci := 6) (q0 := 1) rfl rfl) rfl hl.1 rfl (Nat.le_of_ble_eq_true rfl) dX6_readRoom_43 ⟨Nat.le_of_ble_eq_true rfl, Nat.le_of_ble_eq_true rfl⟩) hP hD hS hA [1, 2] [0] rfl rfl (by decide) (by decide) (fun r_49 w_50 H locs h_51 hP hD hS => ?_)
    obtain ⟨ta2_52, md_f13_53, md_f14_54, md_f15_55, md_f16_56, md_f17_57, rfl, x_58⟩ := h_51
    have hP : va_P D vwCl [(fr, .inl (cI, 45, .inl tf)), (md, .inr (6, [vm_0, vm_1, vm_2, vm_3, vm_4, vm_5, .ref fr, vm_7, vm_8, vm_9, .ref bt, .int (nI tl), .int (nI ta2_52), .int md_f13_53, .int md_f14_54, .int md_f15_55, .int md_f16_56, .int md_f17_57, vm_18, vm_19, vm_20, vm_21, vm_22, vm_23])), (bt, .inl (cI, 120, .inl bf))] H := hP
    have hD : va_D A [(fr, .inl (cI, 45, .inl tf)), (md, .inr (6, [vm_0, vm_1, vm_2, vm_3, vm_4, vm_5, .ref fr, vm_7, vm_8, vm_9, .ref bt, .int (nI tl), .int (nI ta2_52), .int md_f13_53, .int md_f14_54, .int md_f15_55, .int md_f16_56, .int md_f17_57, vm_18, vm_19, vm_20, vm_21, vm_22, vm_23])), (bt, .inl (cI, 120, .inl bf))] := hD
    obtain ⟨⟨v_59, hv_59a, hv_59b, rfl⟩, yx_60, ybd_61, yge_62, yri_63⟩ := x_58
    refine lv_istore_n (lv' := [(2, .int (nI v_59)), (1, .int (nI v_30)), (0, .ref md)]) hx hb dX6_readRoom_46 rfl hl (by decide) rfl (fun ls hl => ?_)
    refine lv_aload_n hx hb dX6_readRoom_47 rfl (lv_at hl 2 rfl) ?_
    refine lv_bipush (v := 59) hx hb dX6_readRoom_48 (by decide) ?_
    refine wt_goV (wr := [(fr, .inl (cI, 45, .inl tf))]) (wt_runV (As := [.int 59]) (rest := []) ⟨hx, hb, hml, hown, hts⟩ (c_X6_mustSign_x l D cI cZ cH md bt tl ta2_52 bf md_f13_53 md_f14_54 md_f15_55 md_f16_56 md_f17_57 59 _ vm_0 vm_1 vm_2 vm_3 vm_4 vm_5 (.ref fr) vm_7 vm_8 vm_9 vm_18 vm_19 vm_20 vm_21 vm_22 vm_23 (by first | assumption | omega) (by first | assumption | omega) (by first | assumption | omega) (by decide) yri_63) (cwV 1 hts gX6_readRoom_X6_mustSign rfl rfl rfl (by decide +kernel) ⟨Nat.le_of_ble_eq_true rfl, Nat.le_of_ble_eq_true rfl⟩) hK hP hD [1, 2] rfl (by decide) (va_recv hK.1 hP (ci := 6) (q0 := 1) rfl rfl) rfl hl.1 rfl (Nat.le_of_ble_eq_true rfl) dX6_readRoom_50 ⟨Nat.le_of_ble_eq_true rfl, Nat.le_of_ble_eq_true rfl⟩) hP hD hS hA [1, 2] [0] rfl rfl (by decide) (by decide) (fun w_65 H locs h_66 hP hD hS => ?_)
    obtain ⟨ta2_67, md_f13_68, md_f14_69, md_f15_70, md_f16_71, md_f17_72, rfl, x_73⟩ := h_66
    have hP : va_P D vwCl [(fr, .inl (cI, 45, .inl tf)), (md, .inr (6, [vm_0, vm_1, vm_2, vm_3, vm_4, vm_5, .ref fr, vm_7, vm_8, vm_9, .ref bt, .int (nI tl), .int (nI ta2_67), .int md_f13_68, .int md_f14_69, .int md_f15_70, .int md_f16_71, .int md_f17_72, vm_18, vm_19, vm_20, vm_21, vm_22, vm_23])), (bt, .inl (cI, 120, .inl bf))] H := hP
    have hD : va_D A [(fr, .inl (cI, 45, .inl tf)), (md, .inr (6, [vm_0, vm_1, vm_2, vm_3, vm_4, vm_5, .ref fr, vm_7, vm_8, vm_9, .ref bt, .int (nI tl), .int (nI ta2_67), .int md_f13_68, .int md_f14_69, .int md_f15_70, .int md_f16_71, .int md_f17_72, vm_18, vm_19, vm_20, vm_21, vm_22, vm_23])), (bt, .inl (cI, 120, .inl bf))] := hD
    obtain ⟨yx_74, ybd_75, yge_76, yri_77⟩ := x_73
    refine lv_aload_n hx hb dX6_readRoom_53 rfl (lv_at hl 2 rfl) ?_
    refine va_get (D := D) (ci := 6) (v := .int md_f16_71) (C := RX6) (T := TX6) (N := 24) hx hb hts hi6 hown hK.1 hP 1 rfl rfl 16 (by decide) wf78 (fun _ h9 => h9) rfl dX6_readRoom_54 ?_
    refine lv_if_ne (tgt := 104) hx hb dX6_readRoom_57 (by decide) (fun c_78 => ?_) (fun c_78 => ?_)
    · skip
      have hP9 := hP.sub (ws' := [(md, .inr (6, [vm_0, vm_1, vm_2, vm_3, vm_4, vm_5, .ref fr, vm_7, vm_8, vm_9, .ref bt, .int (nI tl), .int (nI ta2_67), .int md_f13_68, .int md_f14_69, .int md_f15_70, .int md_f16_71, .int md_f17_72, vm_18, vm_19, vm_20, vm_21, vm_22, vm_23])), (bt, .inl (cI, 120, .inl bf)), (fr, .inl (cI, 45, .inl tf))]) [1, 2, 0] rfl
      have hD9 := hD.sub (ws' := [(md, .inr (6, [vm_0, vm_1, vm_2, vm_3, vm_4, vm_5, .ref fr, vm_7, vm_8, vm_9, .ref bt, .int (nI tl), .int (nI ta2_67), .int md_f13_68, .int md_f14_69, .int md_f15_70, .int md_f16_71, .int md_f17_72, vm_18, vm_19, vm_20, vm_21, vm_22, vm_23])), (bt, .inl (cI, 120, .inl bf)), (fr, .inl (cI, 45, .inl tf))]) [1, 2, 0] (by decide) rfl
      exact wt_vret hx hb hr hlocks hP9 hD9 hS ⟨tf, ta2_67, md_f13_68, md_f14_69, md_f15_70, md_f16_71, md_f17_72, rfl, ⟨R, by omega, by omega, hrk, by omega, yge_76, fun h => absurd h c_78, fun _ => rfl, ri_eq (rmS_n (by omega)) yri_77⟩⟩ dX6_readRoom_104
    · skip
      refine lv_aload_n hx hb dX6_readRoom_60 rfl (lv_at hl 2 rfl) ?_
      refine va_get (D := D) (ci := 6) (v := .ref fr) (C := RX6) (T := TX6) (N := 24) hx hb hts hi6 hown hK.1 hP 1 rfl rfl 6 (by decide) wf22 (fun _ h9 => h9) rfl dX6_readRoom_61 ?_
      refine lv_iconst (v := 5) hx hb dX6_readRoom_64 (by decide) ?_
      refine lv_iconst (v := 2) hx hb dX6_readRoom_65 (by decide) ?_
      refine lv_aload_n hx hb dX6_readRoom_66 rfl (lv_at hl 2 rfl) ?_
      refine va_get (D := D) (ci := 6) (v := .ref fr) (C := RX6) (T := TX6) (N := 24) hx hb hts hi6 hown hK.1 hP 1 rfl rfl 6 (by decide) wf22 (fun _ h9 => h9) rfl dX6_readRoom_67 ?_
      refine lv_iconst (v := 0) hx hb dX6_readRoom_70 (by decide) ?_
      refine va_iald hx hb hK.1 hP 0 0 rfl rfl (by rw [vp_in_iff]; decide) dX6_readRoom_71 ?_
      refine wt_top (z := nI R) (hrk.1) ?_
      refine lv_imul hx hb dX6_readRoom_72 ?_
      refine wt_top (z := nI (2 * R)) (pk_mul 2 R) ?_
      refine lv_iadd hx hb dX6_readRoom_73 ?_
      refine wt_top (z := nI (5 + (2 * R))) (nI_add 5 (2 * R)) ?_
      refine lv_iload_n hx hb dX6_readRoom_74 rfl (lv_at hl 1 rfl) ?_
      refine va_iast hx hb hK.1 hP hD hS 0 0 rfl rfl (vp_in_nI (by omega) (by omega)) dX6_readRoom_75 (fun H locs hP hD hS => ?_)
      have hP : va_P D vwCl [(fr, .inl (cI, 45, .inl (upd tf ((nI (5 + (2 * R))).toNatClampNeg) (nI v_30)))), (md, .inr (6, [vm_0, vm_1, vm_2, vm_3, vm_4, vm_5, .ref fr, vm_7, vm_8, vm_9, .ref bt, .int (nI tl), .int (nI ta2_67), .int md_f13_68, .int md_f14_69, .int md_f15_70, .int md_f16_71, .int md_f17_72, vm_18, vm_19, vm_20, vm_21, vm_22, vm_23])), (bt, .inl (cI, 120, .inl bf))] H := hP
      have hD : va_D A [(fr, .inl (cI, 45, .inl (upd tf ((nI (5 + (2 * R))).toNatClampNeg) (nI v_30)))), (md, .inr (6, [vm_0, vm_1, vm_2, vm_3, vm_4, vm_5, .ref fr, vm_7, vm_8, vm_9, .ref bt, .int (nI tl), .int (nI ta2_67), .int md_f13_68, .int md_f14_69, .int md_f15_70, .int md_f16_71, .int md_f17_72, vm_18, vm_19, vm_20, vm_21, vm_22, vm_23])), (bt, .inl (cI, 120, .inl bf))] := hD
      have rk_79 : rk R T (upd tf ((nI (5 + (2 * R))).toNatClampNeg) (nI v_30)) := rk_upd (k := (5 + (2 * R))) hrk (nI_clamp (by omega)) (by omega) _
      generalize upd tf ((nI (5 + (2 * R))).toNatClampNeg) (nI v_30) = rf_80 at hP hD rk_79
      refine lv_aload_n hx hb dX6_readRoom_76 rfl (lv_at hl 2 rfl) ?_
      refine va_get (D := D) (ci := 6) (v := .ref fr) (C := RX6) (T := TX6) (N := 24) hx hb hts hi6 hown hK.1 hP 1 rfl rfl 6 (by decide) wf22 (fun _ h9 => h9) rfl dX6_readRoom_77 ?_
      refine lv_iconst (v := 5) hx hb dX6_readRoom_80 (by decide) ?_
      refine lv_iconst (v := 2) hx hb dX6_readRoom_81 (by decide) ?_
      refine lv_aload_n hx hb dX6_readRoom_82 rfl (lv_at hl 2 rfl) ?_
      refine va_get (D := D) (ci := 6) (v := .ref fr) (C := RX6) (T := TX6) (N := 24) hx hb hts hi6 hown hK.1 hP 1 rfl rfl 6 (by decide) wf22 (fun _ h9 => h9) rfl dX6_readRoom_83 ?_
      refine lv_iconst (v := 0) hx hb dX6_readRoom_86 (by decide) ?_
      refine va_iald hx hb hK.1 hP 0 0 rfl rfl (by rw [vp_in_iff]; decide) dX6_readRoom_87 ?_
      refine wt_top (z := nI R) (rk_79.1) ?_
      refine lv_imul hx hb dX6_readRoom_88 ?_
      refine wt_top (z := nI (2 * R)) (pk_mul 2 R) ?_
      refine lv_iadd hx hb dX6_readRoom_89 ?_
      refine wt_top (z := nI (5 + (2 * R))) (nI_add 5 (2 * R)) ?_
      refine lv_iconst (v := 1) hx hb dX6_readRoom_90 (by decide) ?_
      refine lv_iadd hx hb dX6_readRoom_91 ?_
      refine wt_top (z := nI ((5 + (2 * R)) + 1)) (nI_add (5 + (2 * R)) 1) ?_
      refine lv_iload_n hx hb dX6_readRoom_92 rfl (lv_at hl 0 rfl) ?_
      refine va_iast hx hb hK.1 hP hD hS 0 0 rfl rfl (vp_in_nI (by omega) (by omega)) dX6_readRoom_93 (fun H locs hP hD hS => ?_)
      have hP : va_P D vwCl [(fr, .inl (cI, 45, .inl (upd rf_80 ((nI ((5 + (2 * R)) + 1)).toNatClampNeg) (nI v_59)))), (md, .inr (6, [vm_0, vm_1, vm_2, vm_3, vm_4, vm_5, .ref fr, vm_7, vm_8, vm_9, .ref bt, .int (nI tl), .int (nI ta2_67), .int md_f13_68, .int md_f14_69, .int md_f15_70, .int md_f16_71, .int md_f17_72, vm_18, vm_19, vm_20, vm_21, vm_22, vm_23])), (bt, .inl (cI, 120, .inl bf))] H := hP
      have hD : va_D A [(fr, .inl (cI, 45, .inl (upd rf_80 ((nI ((5 + (2 * R)) + 1)).toNatClampNeg) (nI v_59)))), (md, .inr (6, [vm_0, vm_1, vm_2, vm_3, vm_4, vm_5, .ref fr, vm_7, vm_8, vm_9, .ref bt, .int (nI tl), .int (nI ta2_67), .int md_f13_68, .int md_f14_69, .int md_f15_70, .int md_f16_71, .int md_f17_72, vm_18, vm_19, vm_20, vm_21, vm_22, vm_23])), (bt, .inl (cI, 120, .inl bf))] := hD
      have rk_81 : rk R T (upd rf_80 ((nI ((5 + (2 * R)) + 1)).toNatClampNeg) (nI v_59)) := rk_upd (k := ((5 + (2 * R)) + 1)) rk_79 (nI_clamp (by omega)) (by omega) _
      generalize upd rf_80 ((nI ((5 + (2 * R)) + 1)).toNatClampNeg) (nI v_59) = rf_82 at hP hD rk_81
      refine lv_aload_n hx hb dX6_readRoom_94 rfl (lv_at hl 2 rfl) ?_
      refine va_get (D := D) (ci := 6) (v := .ref fr) (C := RX6) (T := TX6) (N := 24) hx hb hts hi6 hown hK.1 hP 1 rfl rfl 6 (by decide) wf22 (fun _ h9 => h9) rfl dX6_readRoom_95 ?_
      refine lv_iconst (v := 0) hx hb dX6_readRoom_98 (by decide) ?_
      refine lv_dup2_11 hx hb dX6_readRoom_99 rfl rfl ?_
      refine va_iald hx hb hK.1 hP 0 0 rfl rfl (by rw [vp_in_iff]; decide) dX6_readRoom_100 ?_
      refine wt_top (z := nI R) (rk_81.1) ?_
      refine lv_iconst (v := 1) hx hb dX6_readRoom_101 (by decide) ?_
      refine lv_iadd hx hb dX6_readRoom_102 ?_
      refine wt_top (z := nI (R + 1)) (nI_add R 1) ?_
      refine va_iast hx hb hK.1 hP hD hS 0 0 rfl rfl (by rw [vp_in_iff]; decide) dX6_readRoom_103 (fun H locs hP hD hS => ?_)
      have hP : va_P D vwCl [(fr, .inl (cI, 45, .inl (upd rf_82 (Int32.toNatClampNeg 0) (nI (R + 1))))), (md, .inr (6, [vm_0, vm_1, vm_2, vm_3, vm_4, vm_5, .ref fr, vm_7, vm_8, vm_9, .ref bt, .int (nI tl), .int (nI ta2_67), .int md_f13_68, .int md_f14_69, .int md_f15_70, .int md_f16_71, .int md_f17_72, vm_18, vm_19, vm_20, vm_21, vm_22, vm_23])), (bt, .inl (cI, 120, .inl bf))] H := hP
      have hD : va_D A [(fr, .inl (cI, 45, .inl (upd rf_82 (Int32.toNatClampNeg 0) (nI (R + 1))))), (md, .inr (6, [vm_0, vm_1, vm_2, vm_3, vm_4, vm_5, .ref fr, vm_7, vm_8, vm_9, .ref bt, .int (nI tl), .int (nI ta2_67), .int md_f13_68, .int md_f14_69, .int md_f15_70, .int md_f16_71, .int md_f17_72, vm_18, vm_19, vm_20, vm_21, vm_22, vm_23])), (bt, .inl (cI, 120, .inl bf))] := hD
      have rk_83 : rk (R + 1) T (upd rf_82 (Int32.toNatClampNeg 0) (nI (R + 1))) := rk_room rk_81
      generalize upd rf_82 (Int32.toNatClampNeg 0) (nI (R + 1)) = rf_84 at hP hD rk_83
      have hP9 := hP.sub (ws' := [(md, .inr (6, [vm_0, vm_1, vm_2, vm_3, vm_4, vm_5, .ref fr, vm_7, vm_8, vm_9, .ref bt, .int (nI tl), .int (nI ta2_67), .int md_f13_68, .int md_f14_69, .int md_f15_70, .int md_f16_71, .int md_f17_72, vm_18, vm_19, vm_20, vm_21, vm_22, vm_23])), (bt, .inl (cI, 120, .inl bf)), (fr, .inl (cI, 45, .inl rf_84))]) [1, 2, 0] rfl
      have hD9 := hD.sub (ws' := [(md, .inr (6, [vm_0, vm_1, vm_2, vm_3, vm_4, vm_5, .ref fr, vm_7, vm_8, vm_9, .ref bt, .int (nI tl), .int (nI ta2_67), .int md_f13_68, .int md_f14_69, .int md_f15_70, .int md_f16_71, .int md_f17_72, vm_18, vm_19, vm_20, vm_21, vm_22, vm_23])), (bt, .inl (cI, 120, .inl bf)), (fr, .inl (cI, 45, .inl rf_84))]) [1, 2, 0] (by decide) rfl
      exact wt_vret hx hb hr hlocks hP9 hD9 hS ⟨rf_84, ta2_67, md_f13_68, md_f14_69, md_f15_70, md_f16_71, md_f17_72, rfl, ⟨(R + 1), by omega, by omega, rk_83, by omega, yge_76, fun _ => rfl, fun h => absurd c_78 h, ri_eq (rmS_n (by omega)) yri_77⟩⟩ dX6_readRoom_104
  · skip
    have c_1 : R = 5 := (nI_eq (a := R) (b := 5) (by omega) (by omega)).mp c_1
    refine lv_aload_n hx hb dX6_readRoom_10 rfl (lv_at hl 0 rfl) ?_
    refine lv_iconst (v := 3) hx hb dX6_readRoom_11 (by decide) ?_
    refine wt_goV (wr := [(fr, .inl (cI, 45, .inl tf))]) (wt_runV (As := [.int 3]) (rest := []) ⟨hx, hb, hml, hown, hts⟩ (c_X6_bad_x l D cI cZ cH md bt tl ta bf s13 s14 s15 bd s17 3 _ vm_0 vm_1 vm_2 vm_3 vm_4 vm_5 (.ref fr) vm_7 vm_8 vm_9 vm_18 vm_19 vm_20 vm_21 vm_22 vm_23 (by first | assumption | omega) (by decide) hri) (cwV 1 hts gX6_readRoom_X6_bad rfl rfl rfl (by decide +kernel) ⟨Nat.le_of_ble_eq_true rfl, Nat.le_of_ble_eq_true rfl⟩) hK hP hD [0, 1] rfl (by decide) (va_recv hK.1 hP (ci := 6) (q0 := 0) rfl rfl) rfl hl.1 rfl (Nat.le_of_ble_eq_true rfl) dX6_readRoom_12 ⟨Nat.le_of_ble_eq_true rfl, Nat.le_of_ble_eq_true rfl⟩) hP hD hS hA [0, 1] [2] rfl rfl (by decide) (by decide) (fun w_86 H locs h_87 hP hD hS => ?_)
    obtain ⟨md_f16_88, md_f17_89, rfl, x_90⟩ := h_87
    have hP : va_P D vwCl [(fr, .inl (cI, 45, .inl tf)), (md, .inr (6, [vm_0, vm_1, vm_2, vm_3, vm_4, vm_5, .ref fr, vm_7, vm_8, vm_9, .ref bt, .int (nI tl), .int (nI ta), .int s13, .int s14, .int s15, .int md_f16_88, .int md_f17_89, vm_18, vm_19, vm_20, vm_21, vm_22, vm_23])), (bt, .inl (cI, 120, .inl bf))] H := hP
    have hD : va_D A [(fr, .inl (cI, 45, .inl tf)), (md, .inr (6, [vm_0, vm_1, vm_2, vm_3, vm_4, vm_5, .ref fr, vm_7, vm_8, vm_9, .ref bt, .int (nI tl), .int (nI ta), .int s13, .int s14, .int s15, .int md_f16_88, .int md_f17_89, vm_18, vm_19, vm_20, vm_21, vm_22, vm_23])), (bt, .inl (cI, 120, .inl bf))] := hD
    obtain ⟨yk0_91, ybd_92, yge_93, yri_94⟩ := x_90
    have hbd_95 : ¬ md_f16_88 = 0 := yk0_91 (by decide)
    refine lv_aload_n hx hb dX6_readRoom_15 rfl (lv_at hl 0 rfl) ?_
    refine lv_aload_n hx hb dX6_readRoom_16 rfl (lv_at hl 0 rfl) ?_
    refine lv_bipush (v := 109) hx hb dX6_readRoom_17 (by decide) ?_
    refine wt_rV (As := [.int 109]) (rest := [.ref md]) ⟨hx, hb, hml, hown, hts⟩ (c_X6_isLetter l D cI cZ cH md s14 s15 md_f16_88 109 vm_0 vm_1 vm_2 vm_3 vm_4 vm_5 (.ref fr) vm_7 vm_8 vm_9 (.ref bt) (.int (nI tl)) (.int (nI ta)) (.int s13) (.int md_f17_89) vm_18 vm_19 vm_20 vm_21 vm_22 vm_23) (cwV 1 hts gX6_readRoom_X6_isLetter rfl rfl rfl (by decide +kernel) ⟨Nat.le_of_ble_eq_true rfl, Nat.le_of_ble_eq_true rfl⟩) hK hP [1] rfl (va_recv hK.1 hP (ci := 6) (q0 := 1) rfl rfl) rfl hl.1 rfl (Nat.le_of_ble_eq_true rfl) dX6_readRoom_19 ⟨Nat.le_of_ble_eq_true rfl, Nat.le_of_ble_eq_true rfl⟩ (fun r_96 e_97 => ?_)
    subst e_97
    refine wt_goV (wr := [(fr, .inl (cI, 45, .inl tf))]) (wt_runV (As := [.int (lB md_f16_88 s14 s15 109)]) (rest := []) ⟨hx, hb, hml, hown, hts⟩ (c_X6_must_x l D cI cZ cH md bt tl ta bf s13 s14 s15 md_f16_88 md_f17_89 (lB md_f16_88 s14 s15 109) _ vm_0 vm_1 vm_2 vm_3 vm_4 vm_5 (.ref fr) vm_7 vm_8 vm_9 vm_18 vm_19 vm_20 vm_21 vm_22 vm_23 (by first | assumption | omega) (by first | assumption | omega) (by first | assumption | omega) yri_94) (cwV 1 hts gX6_readRoom_X6_must rfl rfl rfl (by decide +kernel) ⟨Nat.le_of_ble_eq_true rfl, Nat.le_of_ble_eq_true rfl⟩) hK hP hD [1, 2] rfl (by decide) (va_recv hK.1 hP (ci := 6) (q0 := 1) rfl rfl) rfl hl.1 rfl (Nat.le_of_ble_eq_true rfl) dX6_readRoom_22 ⟨Nat.le_of_ble_eq_true rfl, Nat.le_of_ble_eq_true rfl⟩) hP hD hS hA [1, 2] [0] rfl rfl (by decide) (by decide) (fun w_99 H locs h_100 hP hD hS => ?_)
    obtain ⟨ta2_101, md_f13_102, md_f14_103, md_f15_104, md_f16_105, md_f17_106, rfl, x_107⟩ := h_100
    have hP : va_P D vwCl [(fr, .inl (cI, 45, .inl tf)), (md, .inr (6, [vm_0, vm_1, vm_2, vm_3, vm_4, vm_5, .ref fr, vm_7, vm_8, vm_9, .ref bt, .int (nI tl), .int (nI ta2_101), .int md_f13_102, .int md_f14_103, .int md_f15_104, .int md_f16_105, .int md_f17_106, vm_18, vm_19, vm_20, vm_21, vm_22, vm_23])), (bt, .inl (cI, 120, .inl bf))] H := hP
    have hD : va_D A [(fr, .inl (cI, 45, .inl tf)), (md, .inr (6, [vm_0, vm_1, vm_2, vm_3, vm_4, vm_5, .ref fr, vm_7, vm_8, vm_9, .ref bt, .int (nI tl), .int (nI ta2_101), .int md_f13_102, .int md_f14_103, .int md_f15_104, .int md_f16_105, .int md_f17_106, vm_18, vm_19, vm_20, vm_21, vm_22, vm_23])), (bt, .inl (cI, 120, .inl bf))] := hD
    obtain ⟨yx_108, ybd_109, yk0_110, yge_111, yri_112⟩ := x_107
    have hbd_113 : ¬ md_f16_105 = 0 := ybd_109 hbd_95
    have ri_114 := ri_eq (let_P yri_94 (by decide)) yri_112
    refine lv_aload_n hx hb dX6_readRoom_25 rfl (lv_at hl 0 rfl) ?_
    refine lv_iconst (v := 0) hx hb dX6_readRoom_26 (by decide) ?_
    refine lv_bipush (v := 99) hx hb dX6_readRoom_27 (by decide) ?_
    refine wt_goI (wr := [(fr, .inl (cI, 45, .inl tf))]) (wt_runV (As := [.int 0, .int 99]) (rest := []) ⟨hx, hb, hml, hown, hts⟩ (c_X6_number_x l D cI cZ cH md bt tl ta2_101 bf md_f13_102 md_f14_103 md_f15_104 md_f16_105 md_f17_106 0 99 _ vm_0 vm_1 vm_2 vm_3 vm_4 vm_5 (.ref fr) vm_7 vm_8 vm_9 vm_18 vm_19 vm_20 vm_21 vm_22 vm_23 (by first | assumption | omega) (by first | assumption | omega) (by first | assumption | omega) (by first | assumption | omega) (by first | assumption | omega) ri_114) (cwV 2 hts gX6_readRoom_X6_number rfl rfl rfl (by decide +kernel) ⟨Nat.le_of_ble_eq_true rfl, Nat.le_of_ble_eq_true rfl⟩) hK hP hD [1, 2] rfl (by decide) (va_recv hK.1 hP (ci := 6) (q0 := 1) rfl rfl) rfl hl.1 rfl (Nat.le_of_ble_eq_true rfl) dX6_readRoom_29 ⟨Nat.le_of_ble_eq_true rfl, Nat.le_of_ble_eq_true rfl⟩) hP hD hS hA [1, 2] [0] rfl rfl (by decide) (by decide) (fun r_115 w_116 H locs h_117 hP hD hS => ?_)
    obtain ⟨ta2_118, md_f13_119, md_f14_120, md_f15_121, md_f16_122, md_f17_123, rfl, x_124⟩ := h_117
    have hP : va_P D vwCl [(fr, .inl (cI, 45, .inl tf)), (md, .inr (6, [vm_0, vm_1, vm_2, vm_3, vm_4, vm_5, .ref fr, vm_7, vm_8, vm_9, .ref bt, .int (nI tl), .int (nI ta2_118), .int md_f13_119, .int md_f14_120, .int md_f15_121, .int md_f16_122, .int md_f17_123, vm_18, vm_19, vm_20, vm_21, vm_22, vm_23])), (bt, .inl (cI, 120, .inl bf))] H := hP
    have hD : va_D A [(fr, .inl (cI, 45, .inl tf)), (md, .inr (6, [vm_0, vm_1, vm_2, vm_3, vm_4, vm_5, .ref fr, vm_7, vm_8, vm_9, .ref bt, .int (nI tl), .int (nI ta2_118), .int md_f13_119, .int md_f14_120, .int md_f15_121, .int md_f16_122, .int md_f17_123, vm_18, vm_19, vm_20, vm_21, vm_22, vm_23])), (bt, .inl (cI, 120, .inl bf))] := hD
    obtain ⟨⟨v_125, hv_125a, hv_125b, rfl⟩, yx_126, ybd_127, yge_128, yri_129⟩ := x_124
    have hbd_130 : ¬ md_f16_122 = 0 := ybd_127 hbd_113
    refine lv_istore_n (lv' := [(1, .int (nI v_125)), (0, .ref md)]) hx hb dX6_readRoom_32 rfl hl (by decide) rfl (fun ls hl => ?_)
    refine lv_aload_n hx hb dX6_readRoom_33 rfl (lv_at hl 1 rfl) ?_
    refine lv_bipush (v := 44) hx hb dX6_readRoom_34 (by decide) ?_
    refine wt_goV (wr := [(fr, .inl (cI, 45, .inl tf))]) (wt_runV (As := [.int 44]) (rest := []) ⟨hx, hb, hml, hown, hts⟩ (c_X6_mustSign_x l D cI cZ cH md bt tl ta2_118 bf md_f13_119 md_f14_120 md_f15_121 md_f16_122 md_f17_123 44 _ vm_0 vm_1 vm_2 vm_3 vm_4 vm_5 (.ref fr) vm_7 vm_8 vm_9 vm_18 vm_19 vm_20 vm_21 vm_22 vm_23 (by first | assumption | omega) (by first | assumption | omega) (by first | assumption | omega) (by decide) yri_129) (cwV 1 hts gX6_readRoom_X6_mustSign rfl rfl rfl (by decide +kernel) ⟨Nat.le_of_ble_eq_true rfl, Nat.le_of_ble_eq_true rfl⟩) hK hP hD [1, 2] rfl (by decide) (va_recv hK.1 hP (ci := 6) (q0 := 1) rfl rfl) rfl hl.1 rfl (Nat.le_of_ble_eq_true rfl) dX6_readRoom_36 ⟨Nat.le_of_ble_eq_true rfl, Nat.le_of_ble_eq_true rfl⟩) hP hD hS hA [1, 2] [0] rfl rfl (by decide) (by decide) (fun w_132 H locs h_133 hP hD hS => ?_)
    obtain ⟨ta2_134, md_f13_135, md_f14_136, md_f15_137, md_f16_138, md_f17_139, rfl, x_140⟩ := h_133
    have hP : va_P D vwCl [(fr, .inl (cI, 45, .inl tf)), (md, .inr (6, [vm_0, vm_1, vm_2, vm_3, vm_4, vm_5, .ref fr, vm_7, vm_8, vm_9, .ref bt, .int (nI tl), .int (nI ta2_134), .int md_f13_135, .int md_f14_136, .int md_f15_137, .int md_f16_138, .int md_f17_139, vm_18, vm_19, vm_20, vm_21, vm_22, vm_23])), (bt, .inl (cI, 120, .inl bf))] H := hP
    have hD : va_D A [(fr, .inl (cI, 45, .inl tf)), (md, .inr (6, [vm_0, vm_1, vm_2, vm_3, vm_4, vm_5, .ref fr, vm_7, vm_8, vm_9, .ref bt, .int (nI tl), .int (nI ta2_134), .int md_f13_135, .int md_f14_136, .int md_f15_137, .int md_f16_138, .int md_f17_139, vm_18, vm_19, vm_20, vm_21, vm_22, vm_23])), (bt, .inl (cI, 120, .inl bf))] := hD
    obtain ⟨yx_141, ybd_142, yge_143, yri_144⟩ := x_140
    have hbd_145 : ¬ md_f16_138 = 0 := ybd_142 hbd_130
    refine lv_aload_n hx hb dX6_readRoom_39 rfl (lv_at hl 1 rfl) ?_
    refine lv_iconst (v := 0) hx hb dX6_readRoom_40 (by decide) ?_
    refine lv_bipush (v := 20) hx hb dX6_readRoom_41 (by decide) ?_
    refine wt_goI (wr := [(fr, .inl (cI, 45, .inl tf))]) (wt_runV (As := [.int 0, .int 20]) (rest := []) ⟨hx, hb, hml, hown, hts⟩ (c_X6_number_x l D cI cZ cH md bt tl ta2_134 bf md_f13_135 md_f14_136 md_f15_137 md_f16_138 md_f17_139 0 20 _ vm_0 vm_1 vm_2 vm_3 vm_4 vm_5 (.ref fr) vm_7 vm_8 vm_9 vm_18 vm_19 vm_20 vm_21 vm_22 vm_23 (by first | assumption | omega) (by first | assumption | omega) (by first | assumption | omega) (by first | assumption | omega) (by first | assumption | omega) yri_144) (cwV 2 hts gX6_readRoom_X6_number rfl rfl rfl (by decide +kernel) ⟨Nat.le_of_ble_eq_true rfl, Nat.le_of_ble_eq_true rfl⟩) hK hP hD [1, 2] rfl (by decide) (va_recv hK.1 hP (ci := 6) (q0 := 1) rfl rfl) rfl hl.1 rfl (Nat.le_of_ble_eq_true rfl) dX6_readRoom_43 ⟨Nat.le_of_ble_eq_true rfl, Nat.le_of_ble_eq_true rfl⟩) hP hD hS hA [1, 2] [0] rfl rfl (by decide) (by decide) (fun r_146 w_147 H locs h_148 hP hD hS => ?_)
    obtain ⟨ta2_149, md_f13_150, md_f14_151, md_f15_152, md_f16_153, md_f17_154, rfl, x_155⟩ := h_148
    have hP : va_P D vwCl [(fr, .inl (cI, 45, .inl tf)), (md, .inr (6, [vm_0, vm_1, vm_2, vm_3, vm_4, vm_5, .ref fr, vm_7, vm_8, vm_9, .ref bt, .int (nI tl), .int (nI ta2_149), .int md_f13_150, .int md_f14_151, .int md_f15_152, .int md_f16_153, .int md_f17_154, vm_18, vm_19, vm_20, vm_21, vm_22, vm_23])), (bt, .inl (cI, 120, .inl bf))] H := hP
    have hD : va_D A [(fr, .inl (cI, 45, .inl tf)), (md, .inr (6, [vm_0, vm_1, vm_2, vm_3, vm_4, vm_5, .ref fr, vm_7, vm_8, vm_9, .ref bt, .int (nI tl), .int (nI ta2_149), .int md_f13_150, .int md_f14_151, .int md_f15_152, .int md_f16_153, .int md_f17_154, vm_18, vm_19, vm_20, vm_21, vm_22, vm_23])), (bt, .inl (cI, 120, .inl bf))] := hD
    obtain ⟨⟨v_156, hv_156a, hv_156b, rfl⟩, yx_157, ybd_158, yge_159, yri_160⟩ := x_155
    have hbd_161 : ¬ md_f16_153 = 0 := ybd_158 hbd_145
    refine lv_istore_n (lv' := [(2, .int (nI v_156)), (1, .int (nI v_125)), (0, .ref md)]) hx hb dX6_readRoom_46 rfl hl (by decide) rfl (fun ls hl => ?_)
    refine lv_aload_n hx hb dX6_readRoom_47 rfl (lv_at hl 2 rfl) ?_
    refine lv_bipush (v := 59) hx hb dX6_readRoom_48 (by decide) ?_
    refine wt_goV (wr := [(fr, .inl (cI, 45, .inl tf))]) (wt_runV (As := [.int 59]) (rest := []) ⟨hx, hb, hml, hown, hts⟩ (c_X6_mustSign_x l D cI cZ cH md bt tl ta2_149 bf md_f13_150 md_f14_151 md_f15_152 md_f16_153 md_f17_154 59 _ vm_0 vm_1 vm_2 vm_3 vm_4 vm_5 (.ref fr) vm_7 vm_8 vm_9 vm_18 vm_19 vm_20 vm_21 vm_22 vm_23 (by first | assumption | omega) (by first | assumption | omega) (by first | assumption | omega) (by decide) yri_160) (cwV 1 hts gX6_readRoom_X6_mustSign rfl rfl rfl (by decide +kernel) ⟨Nat.le_of_ble_eq_true rfl, Nat.le_of_ble_eq_true rfl⟩) hK hP hD [1, 2] rfl (by decide) (va_recv hK.1 hP (ci := 6) (q0 := 1) rfl rfl) rfl hl.1 rfl (Nat.le_of_ble_eq_true rfl) dX6_readRoom_50 ⟨Nat.le_of_ble_eq_true rfl, Nat.le_of_ble_eq_true rfl⟩) hP hD hS hA [1, 2] [0] rfl rfl (by decide) (by decide) (fun w_163 H locs h_164 hP hD hS => ?_)
    obtain ⟨ta2_165, md_f13_166, md_f14_167, md_f15_168, md_f16_169, md_f17_170, rfl, x_171⟩ := h_164
    have hP : va_P D vwCl [(fr, .inl (cI, 45, .inl tf)), (md, .inr (6, [vm_0, vm_1, vm_2, vm_3, vm_4, vm_5, .ref fr, vm_7, vm_8, vm_9, .ref bt, .int (nI tl), .int (nI ta2_165), .int md_f13_166, .int md_f14_167, .int md_f15_168, .int md_f16_169, .int md_f17_170, vm_18, vm_19, vm_20, vm_21, vm_22, vm_23])), (bt, .inl (cI, 120, .inl bf))] H := hP
    have hD : va_D A [(fr, .inl (cI, 45, .inl tf)), (md, .inr (6, [vm_0, vm_1, vm_2, vm_3, vm_4, vm_5, .ref fr, vm_7, vm_8, vm_9, .ref bt, .int (nI tl), .int (nI ta2_165), .int md_f13_166, .int md_f14_167, .int md_f15_168, .int md_f16_169, .int md_f17_170, vm_18, vm_19, vm_20, vm_21, vm_22, vm_23])), (bt, .inl (cI, 120, .inl bf))] := hD
    obtain ⟨yx_172, ybd_173, yge_174, yri_175⟩ := x_171
    have hbd_176 : ¬ md_f16_169 = 0 := ybd_173 hbd_161
    refine lv_aload_n hx hb dX6_readRoom_53 rfl (lv_at hl 2 rfl) ?_
    refine va_get (D := D) (ci := 6) (v := .int md_f16_169) (C := RX6) (T := TX6) (N := 24) hx hb hts hi6 hown hK.1 hP 1 rfl rfl 16 (by decide) wf78 (fun _ h9 => h9) rfl dX6_readRoom_54 ?_
    refine lv_if_ne (tgt := 104) hx hb dX6_readRoom_57 (by decide) (fun _ => ?_) (fun h => absurd h hbd_176)
    have hP9 := hP.sub (ws' := [(md, .inr (6, [vm_0, vm_1, vm_2, vm_3, vm_4, vm_5, .ref fr, vm_7, vm_8, vm_9, .ref bt, .int (nI tl), .int (nI ta2_165), .int md_f13_166, .int md_f14_167, .int md_f15_168, .int md_f16_169, .int md_f17_170, vm_18, vm_19, vm_20, vm_21, vm_22, vm_23])), (bt, .inl (cI, 120, .inl bf)), (fr, .inl (cI, 45, .inl tf))]) [1, 2, 0] rfl
    have hD9 := hD.sub (ws' := [(md, .inr (6, [vm_0, vm_1, vm_2, vm_3, vm_4, vm_5, .ref fr, vm_7, vm_8, vm_9, .ref bt, .int (nI tl), .int (nI ta2_165), .int md_f13_166, .int md_f14_167, .int md_f15_168, .int md_f16_169, .int md_f17_170, vm_18, vm_19, vm_20, vm_21, vm_22, vm_23])), (bt, .inl (cI, 120, .inl bf)), (fr, .inl (cI, 45, .inl tf))]) [1, 2, 0] (by decide) rfl
    exact wt_vret hx hb hr hlocks hP9 hD9 hS ⟨tf, ta2_165, md_f13_166, md_f14_167, md_f15_168, md_f16_169, md_f17_170, rfl, ⟨R, by omega, by omega, hrk, by omega, yge_174, fun h => absurd h hbd_176, fun _ => rfl, ri_eq (rmS_5 (by omega)) yri_175⟩⟩ dX6_readRoom_104
set_option maxHeartbeats 1000000 in
set_option maxRecDepth 100000 in
theorem c_X6_readTube_x (l : Launch) (D : va_G) (cI cZ cH : ClassId) (md bt : Nat) (tl ta : Nat) (bf : Nat → Int32) (s13 s14 s15 bd s17 : Int32) (fr : Nat) (R T : Nat) (tf : Nat → Int32) (s0 : Int32 × Nat) (vm_0 vm_1 vm_2 vm_3 vm_4 vm_5 vm_7 vm_8 vm_9 vm_18 vm_19 vm_20 vm_21 vm_22 vm_23 : Value) (htl : tl ≤ 120) (hta : ta ≤ tl) (hb0 : 0 ≤ bd) (hR5 : R ≤ 5) (hT6 : T ≤ 6) (hrk : rk R T tf) (hri : RI tl bf bd s13 s14 s15 s17 ta s0) (hso : ¬ sB bd s14 s15 = 0) : wt_M l yX6_readTube wsX6_readTube ({ frames := 4, cells := 0, slots := 0, locals := 89 } : Room) D (wt_T cI cZ cH) [.ref md] [(md, .inr (6, [vm_0, vm_1, vm_2, vm_3, vm_4, vm_5, .ref fr, vm_7, vm_8, vm_9, .ref bt, .int (nI tl), .int (nI ta), .int s13, .int s14, .int s15, .int bd, .int s17, vm_18, vm_19, vm_20, vm_21, vm_22, vm_23])), (bt, .inl (cI, 120, .inl bf)), (fr, .inl (cI, 45, .inl tf))] (wt_QV D (fun w => ∃ (tf2 : Nat → Int32) (ta2 : Nat) (md_f13 md_f14 md_f15 md_f16 md_f17 : Int32), w = [(md, .inr (6, [vm_0, vm_1, vm_2, vm_3, vm_4, vm_5, .ref fr, vm_7, vm_8, vm_9, .ref bt, .int (nI tl), .int (nI ta2), .int md_f13, .int md_f14, .int md_f15, .int md_f16, .int md_f17, vm_18, vm_19, vm_20, vm_21, vm_22, vm_23])), (bt, .inl (cI, 120, .inl bf)), (fr, .inl (cI, 45, .inl tf2))] ∧ ∃ T2 : Nat, T2 ≤ 6 ∧ T ≤ T2 ∧ rk R T2 tf2 ∧ ta2 ≤ tl ∧ 0 ≤ md_f16 ∧ (md_f16 = 0 → T2 = T + 1) ∧ (md_f16 = 0 → tf2 (15 + 5 * T) = kB s15 ∧ ∀ t, t < T → tf2 (15 + 5 * t) = tf (15 + 5 * t)) ∧ (¬ md_f16 = 0 → T2 = T ∧ tf2 = tf) ∧ RI tl bf md_f16 md_f13 md_f14 md_f15 md_f17 ta2 (sTube tl bf R (if T = 6 then (3, s0.2) else (0, s0.2 + 1))))) := by
  refine wt_M.ofW (cc := cX6_readTube) (maxL := 6) (ret := none) (by decide) rfl (Nat.le_of_ble_eq_true rfl) ?_
  intro p e s m below meth c A ls hx hb hr hts hown hlocks hml hnm hP hK hD hA hS hl
  have hP : va_P D vwCl [(md, .inr (6, [vm_0, vm_1, vm_2, vm_3, vm_4, vm_5, .ref fr, vm_7, vm_8, vm_9, .ref bt, .int (nI tl), .int (nI ta), .int s13, .int s14, .int s15, .int bd, .int s17, vm_18, vm_19, vm_20, vm_21, vm_22, vm_23])), (bt, .inl (cI, 120, .inl bf)), (fr, .inl (cI, 45, .inl tf))] s.heap := hP
  have hown : s.vm.findClass RX6 = some m.cls := hown
  have hl : lv_has ls 6 [(0, .ref md)] := hl
  have hi6 : ∀ w ∈ u_ws RX6 TX6 24, w ∈ wsX6_readTube := by decide +kernel
  have wf22 := hts (.fieldLink RX6 22 "WarmTubesModel" "fresh" "[I") (by decide +kernel)
  have wf78 := hts (.fieldLink RX6 78 "WarmTubesModel" "fault" "I") (by decide +kernel)
  have wf91 := hts (.fieldLink RX6 91 "WarmTubesModel" "value" "I") (by decide +kernel)
  refine lv_aload_n hx hb dX6_readTube_0 rfl (lv_at hl 0 rfl) ?_
  refine va_get (D := D) (ci := 6) (v := .int s15) (C := RX6) (T := TX6) (N := 24) hx hb hts hi6 hown hK.1 hP 0 rfl rfl 15 (by decide) wf91 (fun _ h9 => h9) rfl dX6_readTube_1 ?_
  refine wt_rS (As := [.int s15]) (rest := []) ⟨hx, hb, hml, hown, hts⟩ (c_X6_kindBy l D cI cZ cH s15) (va_cwS 1 hts gX6_readTube_X6_kindBy rfl rfl rfl (by decide +kernel) ⟨Nat.le_of_ble_eq_true rfl, Nat.le_of_ble_eq_true rfl⟩) hK hP [] rfl rfl hl.1 rfl (Nat.le_of_ble_eq_true rfl) dX6_readTube_4 ⟨Nat.le_of_ble_eq_true rfl, Nat.le_of_ble_eq_true rfl⟩ (fun r_1 e_2 => ?_)
  subst e_2
  refine lv_istore_n (lv' := [(1, .int (kB s15)), (0, .ref md)]) hx hb dX6_readTube_7 rfl hl (by decide) rfl (fun ls hl => ?_)
  refine lv_aload_n hx hb dX6_readTube_8 rfl (lv_at hl 1 rfl) ?_
  refine va_get (D := D) (ci := 6) (v := .ref fr) (C := RX6) (T := TX6) (N := 24) hx hb hts hi6 hown hK.1 hP 0 rfl rfl 6 (by decide) wf22 (fun _ h9 => h9) rfl dX6_readTube_9 ?_
  refine lv_iconst (v := 1) hx hb dX6_readTube_12 (by decide) ?_
  refine va_iald hx hb hK.1 hP 2 0 rfl rfl (by rw [vp_in_iff]; decide) dX6_readTube_13 ?_
  refine wt_top (z := nI T) (hrk.2.1) ?_
  refine lv_bipush (v := 6) hx hb dX6_readTube_14 (by decide) ?_
  refine lv_icmp_ne (tgt := 24) hx hb dX6_readTube_16 (by decide) (fun c_3 => ?_) (fun c_3 => ?_)
  · skip
    have c_3 : ¬ (T = 6) := fun h => c_3 ((nI_eq (a := T) (b := 6) (by omega) (by omega)).mpr h)
    refine lv_aload_n hx hb dX6_readTube_24 rfl (lv_at hl 1 rfl) ?_
    refine lv_iconst (v := 1) hx hb dX6_readTube_25 (by decide) ?_
    refine wt_goV (wr := [(fr, .inl (cI, 45, .inl tf))]) (wt_runV (As := [.int 1]) (rest := []) ⟨hx, hb, hml, hown, hts⟩ (c_X6_must_x l D cI cZ cH md bt tl ta bf s13 s14 s15 bd s17 1 _ vm_0 vm_1 vm_2 vm_3 vm_4 vm_5 (.ref fr) vm_7 vm_8 vm_9 vm_18 vm_19 vm_20 vm_21 vm_22 vm_23 (by first | assumption | omega) (by first | assumption | omega) (by first | assumption | omega) hri) (cwV 1 hts gX6_readTube_X6_must rfl rfl rfl (by decide +kernel) ⟨Nat.le_of_ble_eq_true rfl, Nat.le_of_ble_eq_true rfl⟩) hK hP hD [0, 1] rfl (by decide) (va_recv hK.1 hP (ci := 6) (q0 := 0) rfl rfl) rfl hl.1 rfl (Nat.le_of_ble_eq_true rfl) dX6_readTube_26 ⟨Nat.le_of_ble_eq_true rfl, Nat.le_of_ble_eq_true rfl⟩) hP hD hS hA [0, 1] [2] rfl rfl (by decide) (by decide) (fun w_5 H locs h_6 hP hD hS => ?_)
    obtain ⟨ta2_7, md_f13_8, md_f14_9, md_f15_10, md_f16_11, md_f17_12, rfl, x_13⟩ := h_6
    have hP : va_P D vwCl [(fr, .inl (cI, 45, .inl tf)), (md, .inr (6, [vm_0, vm_1, vm_2, vm_3, vm_4, vm_5, .ref fr, vm_7, vm_8, vm_9, .ref bt, .int (nI tl), .int (nI ta2_7), .int md_f13_8, .int md_f14_9, .int md_f15_10, .int md_f16_11, .int md_f17_12, vm_18, vm_19, vm_20, vm_21, vm_22, vm_23])), (bt, .inl (cI, 120, .inl bf))] H := hP
    have hD : va_D A [(fr, .inl (cI, 45, .inl tf)), (md, .inr (6, [vm_0, vm_1, vm_2, vm_3, vm_4, vm_5, .ref fr, vm_7, vm_8, vm_9, .ref bt, .int (nI tl), .int (nI ta2_7), .int md_f13_8, .int md_f14_9, .int md_f15_10, .int md_f16_11, .int md_f17_12, vm_18, vm_19, vm_20, vm_21, vm_22, vm_23])), (bt, .inl (cI, 120, .inl bf))] := hD
    obtain ⟨yx_14, ybd_15, yk0_16, yge_17, yri_18⟩ := x_13
    have ri_19 := ri_eq (tu_1 hri hso) yri_18
    refine lv_aload_n hx hb dX6_readTube_29 rfl (lv_at hl 1 rfl) ?_
    refine lv_iconst (v := 0) hx hb dX6_readTube_30 (by decide) ?_
    refine lv_aload_n hx hb dX6_readTube_31 rfl (lv_at hl 1 rfl) ?_
    refine va_get (D := D) (ci := 6) (v := .ref fr) (C := RX6) (T := TX6) (N := 24) hx hb hts hi6 hown hK.1 hP 1 rfl rfl 6 (by decide) wf22 (fun _ h9 => h9) rfl dX6_readTube_32 ?_
    refine lv_iconst (v := 0) hx hb dX6_readTube_35 (by decide) ?_
    refine va_iald hx hb hK.1 hP 0 0 rfl rfl (by rw [vp_in_iff]; decide) dX6_readTube_36 ?_
    refine wt_top (z := nI R) (hrk.1) ?_
    refine wt_goI (wr := [(fr, .inl (cI, 45, .inl tf))]) (wt_runV (As := [.int 0, .int (nI R)]) (rest := []) ⟨hx, hb, hml, hown, hts⟩ (c_X6_number_x l D cI cZ cH md bt tl ta2_7 bf md_f13_8 md_f14_9 md_f15_10 md_f16_11 md_f17_12 0 R _ vm_0 vm_1 vm_2 vm_3 vm_4 vm_5 (.ref fr) vm_7 vm_8 vm_9 vm_18 vm_19 vm_20 vm_21 vm_22 vm_23 (by first | assumption | omega) (by first | assumption | omega) (by first | assumption | omega) (by first | assumption | omega) (by first | assumption | omega) ri_19) (cwV 2 hts gX6_readTube_X6_number rfl rfl rfl (by decide +kernel) ⟨Nat.le_of_ble_eq_true rfl, Nat.le_of_ble_eq_true rfl⟩) hK hP hD [1, 2] rfl (by decide) (va_recv hK.1 hP (ci := 6) (q0 := 1) rfl rfl) rfl hl.1 rfl (Nat.le_of_ble_eq_true rfl) dX6_readTube_37 ⟨Nat.le_of_ble_eq_true rfl, Nat.le_of_ble_eq_true rfl⟩) hP hD hS hA [1, 2] [0] rfl rfl (by decide) (by decide) (fun r_20 w_21 H locs h_22 hP hD hS => ?_)
    obtain ⟨ta2_23, md_f13_24, md_f14_25, md_f15_26, md_f16_27, md_f17_28, rfl, x_29⟩ := h_22
    have hP : va_P D vwCl [(fr, .inl (cI, 45, .inl tf)), (md, .inr (6, [vm_0, vm_1, vm_2, vm_3, vm_4, vm_5, .ref fr, vm_7, vm_8, vm_9, .ref bt, .int (nI tl), .int (nI ta2_23), .int md_f13_24, .int md_f14_25, .int md_f15_26, .int md_f16_27, .int md_f17_28, vm_18, vm_19, vm_20, vm_21, vm_22, vm_23])), (bt, .inl (cI, 120, .inl bf))] H := hP
    have hD : va_D A [(fr, .inl (cI, 45, .inl tf)), (md, .inr (6, [vm_0, vm_1, vm_2, vm_3, vm_4, vm_5, .ref fr, vm_7, vm_8, vm_9, .ref bt, .int (nI tl), .int (nI ta2_23), .int md_f13_24, .int md_f14_25, .int md_f15_26, .int md_f16_27, .int md_f17_28, vm_18, vm_19, vm_20, vm_21, vm_22, vm_23])), (bt, .inl (cI, 120, .inl bf))] := hD
    obtain ⟨⟨v_30, hv_30a, hv_30b, rfl⟩, yx_31, ybd_32, yge_33, yri_34⟩ := x_29
    refine lv_istore_n (lv' := [(2, .int (nI v_30)), (1, .int (kB s15)), (0, .ref md)]) hx hb dX6_readTube_40 rfl hl (by decide) rfl (fun ls hl => ?_)
    refine lv_aload_n hx hb dX6_readTube_41 rfl (lv_at hl 2 rfl) ?_
    refine lv_bipush (v := 44) hx hb dX6_readTube_42 (by decide) ?_
    refine wt_goV (wr := [(fr, .inl (cI, 45, .inl tf))]) (wt_runV (As := [.int 44]) (rest := []) ⟨hx, hb, hml, hown, hts⟩ (c_X6_mustSign_x l D cI cZ cH md bt tl ta2_23 bf md_f13_24 md_f14_25 md_f15_26 md_f16_27 md_f17_28 44 _ vm_0 vm_1 vm_2 vm_3 vm_4 vm_5 (.ref fr) vm_7 vm_8 vm_9 vm_18 vm_19 vm_20 vm_21 vm_22 vm_23 (by first | assumption | omega) (by first | assumption | omega) (by first | assumption | omega) (by decide) yri_34) (cwV 1 hts gX6_readTube_X6_mustSign rfl rfl rfl (by decide +kernel) ⟨Nat.le_of_ble_eq_true rfl, Nat.le_of_ble_eq_true rfl⟩) hK hP hD [1, 2] rfl (by decide) (va_recv hK.1 hP (ci := 6) (q0 := 1) rfl rfl) rfl hl.1 rfl (Nat.le_of_ble_eq_true rfl) dX6_readTube_44 ⟨Nat.le_of_ble_eq_true rfl, Nat.le_of_ble_eq_true rfl⟩) hP hD hS hA [1, 2] [0] rfl rfl (by decide) (by decide) (fun w_36 H locs h_37 hP hD hS => ?_)
    obtain ⟨ta2_38, md_f13_39, md_f14_40, md_f15_41, md_f16_42, md_f17_43, rfl, x_44⟩ := h_37
    have hP : va_P D vwCl [(fr, .inl (cI, 45, .inl tf)), (md, .inr (6, [vm_0, vm_1, vm_2, vm_3, vm_4, vm_5, .ref fr, vm_7, vm_8, vm_9, .ref bt, .int (nI tl), .int (nI ta2_38), .int md_f13_39, .int md_f14_40, .int md_f15_41, .int md_f16_42, .int md_f17_43, vm_18, vm_19, vm_20, vm_21, vm_22, vm_23])), (bt, .inl (cI, 120, .inl bf))] H := hP
    have hD : va_D A [(fr, .inl (cI, 45, .inl tf)), (md, .inr (6, [vm_0, vm_1, vm_2, vm_3, vm_4, vm_5, .ref fr, vm_7, vm_8, vm_9, .ref bt, .int (nI tl), .int (nI ta2_38), .int md_f13_39, .int md_f14_40, .int md_f15_41, .int md_f16_42, .int md_f17_43, vm_18, vm_19, vm_20, vm_21, vm_22, vm_23])), (bt, .inl (cI, 120, .inl bf))] := hD
    obtain ⟨yx_45, ybd_46, yge_47, yri_48⟩ := x_44
    refine lv_aload_n hx hb dX6_readTube_47 rfl (lv_at hl 2 rfl) ?_
    refine lv_iconst (v := 1) hx hb dX6_readTube_48 (by decide) ?_
    refine lv_bipush (v := 9) hx hb dX6_readTube_49 (by decide) ?_
    refine wt_goI (wr := [(fr, .inl (cI, 45, .inl tf))]) (wt_runV (As := [.int 1, .int 9]) (rest := []) ⟨hx, hb, hml, hown, hts⟩ (c_X6_number_x l D cI cZ cH md bt tl ta2_38 bf md_f13_39 md_f14_40 md_f15_41 md_f16_42 md_f17_43 1 9 _ vm_0 vm_1 vm_2 vm_3 vm_4 vm_5 (.ref fr) vm_7 vm_8 vm_9 vm_18 vm_19 vm_20 vm_21 vm_22 vm_23 (by first | assumption | omega) (by first | assumption | omega) (by first | assumption | omega) (by first | assumption | omega) (by first | assumption | omega) yri_48) (cwV 2 hts gX6_readTube_X6_number rfl rfl rfl (by decide +kernel) ⟨Nat.le_of_ble_eq_true rfl, Nat.le_of_ble_eq_true rfl⟩) hK hP hD [1, 2] rfl (by decide) (va_recv hK.1 hP (ci := 6) (q0 := 1) rfl rfl) rfl hl.1 rfl (Nat.le_of_ble_eq_true rfl) dX6_readTube_51 ⟨Nat.le_of_ble_eq_true rfl, Nat.le_of_ble_eq_true rfl⟩) hP hD hS hA [1, 2] [0] rfl rfl (by decide) (by decide) (fun r_49 w_50 H locs h_51 hP hD hS => ?_)
    obtain ⟨ta2_52, md_f13_53, md_f14_54, md_f15_55, md_f16_56, md_f17_57, rfl, x_58⟩ := h_51
    have hP : va_P D vwCl [(fr, .inl (cI, 45, .inl tf)), (md, .inr (6, [vm_0, vm_1, vm_2, vm_3, vm_4, vm_5, .ref fr, vm_7, vm_8, vm_9, .ref bt, .int (nI tl), .int (nI ta2_52), .int md_f13_53, .int md_f14_54, .int md_f15_55, .int md_f16_56, .int md_f17_57, vm_18, vm_19, vm_20, vm_21, vm_22, vm_23])), (bt, .inl (cI, 120, .inl bf))] H := hP
    have hD : va_D A [(fr, .inl (cI, 45, .inl tf)), (md, .inr (6, [vm_0, vm_1, vm_2, vm_3, vm_4, vm_5, .ref fr, vm_7, vm_8, vm_9, .ref bt, .int (nI tl), .int (nI ta2_52), .int md_f13_53, .int md_f14_54, .int md_f15_55, .int md_f16_56, .int md_f17_57, vm_18, vm_19, vm_20, vm_21, vm_22, vm_23])), (bt, .inl (cI, 120, .inl bf))] := hD
    obtain ⟨⟨v_59, hv_59a, hv_59b, rfl⟩, yx_60, ybd_61, yge_62, yri_63⟩ := x_58
    refine lv_istore_n (lv' := [(3, .int (nI v_59)), (2, .int (nI v_30)), (1, .int (kB s15)), (0, .ref md)]) hx hb dX6_readTube_54 rfl hl (by decide) rfl (fun ls hl => ?_)
    refine lv_aload_n hx hb dX6_readTube_55 rfl (lv_at hl 3 rfl) ?_
    refine lv_bipush (v := 44) hx hb dX6_readTube_56 (by decide) ?_
    refine wt_goV (wr := [(fr, .inl (cI, 45, .inl tf))]) (wt_runV (As := [.int 44]) (rest := []) ⟨hx, hb, hml, hown, hts⟩ (c_X6_mustSign_x l D cI cZ cH md bt tl ta2_52 bf md_f13_53 md_f14_54 md_f15_55 md_f16_56 md_f17_57 44 _ vm_0 vm_1 vm_2 vm_3 vm_4 vm_5 (.ref fr) vm_7 vm_8 vm_9 vm_18 vm_19 vm_20 vm_21 vm_22 vm_23 (by first | assumption | omega) (by first | assumption | omega) (by first | assumption | omega) (by decide) yri_63) (cwV 1 hts gX6_readTube_X6_mustSign rfl rfl rfl (by decide +kernel) ⟨Nat.le_of_ble_eq_true rfl, Nat.le_of_ble_eq_true rfl⟩) hK hP hD [1, 2] rfl (by decide) (va_recv hK.1 hP (ci := 6) (q0 := 1) rfl rfl) rfl hl.1 rfl (Nat.le_of_ble_eq_true rfl) dX6_readTube_58 ⟨Nat.le_of_ble_eq_true rfl, Nat.le_of_ble_eq_true rfl⟩) hP hD hS hA [1, 2] [0] rfl rfl (by decide) (by decide) (fun w_65 H locs h_66 hP hD hS => ?_)
    obtain ⟨ta2_67, md_f13_68, md_f14_69, md_f15_70, md_f16_71, md_f17_72, rfl, x_73⟩ := h_66
    have hP : va_P D vwCl [(fr, .inl (cI, 45, .inl tf)), (md, .inr (6, [vm_0, vm_1, vm_2, vm_3, vm_4, vm_5, .ref fr, vm_7, vm_8, vm_9, .ref bt, .int (nI tl), .int (nI ta2_67), .int md_f13_68, .int md_f14_69, .int md_f15_70, .int md_f16_71, .int md_f17_72, vm_18, vm_19, vm_20, vm_21, vm_22, vm_23])), (bt, .inl (cI, 120, .inl bf))] H := hP
    have hD : va_D A [(fr, .inl (cI, 45, .inl tf)), (md, .inr (6, [vm_0, vm_1, vm_2, vm_3, vm_4, vm_5, .ref fr, vm_7, vm_8, vm_9, .ref bt, .int (nI tl), .int (nI ta2_67), .int md_f13_68, .int md_f14_69, .int md_f15_70, .int md_f16_71, .int md_f17_72, vm_18, vm_19, vm_20, vm_21, vm_22, vm_23])), (bt, .inl (cI, 120, .inl bf))] := hD
    obtain ⟨yx_74, ybd_75, yge_76, yri_77⟩ := x_73
    refine lv_aload_n hx hb dX6_readTube_61 rfl (lv_at hl 3 rfl) ?_
    refine lv_iconst (v := 1) hx hb dX6_readTube_62 (by decide) ?_
    refine lv_bipush (v := 40) hx hb dX6_readTube_63 (by decide) ?_
    refine wt_goI (wr := [(fr, .inl (cI, 45, .inl tf))]) (wt_runV (As := [.int 1, .int 40]) (rest := []) ⟨hx, hb, hml, hown, hts⟩ (c_X6_number_x l D cI cZ cH md bt tl ta2_67 bf md_f13_68 md_f14_69 md_f15_70 md_f16_71 md_f17_72 1 40 _ vm_0 vm_1 vm_2 vm_3 vm_4 vm_5 (.ref fr) vm_7 vm_8 vm_9 vm_18 vm_19 vm_20 vm_21 vm_22 vm_23 (by first | assumption | omega) (by first | assumption | omega) (by first | assumption | omega) (by first | assumption | omega) (by first | assumption | omega) yri_77) (cwV 2 hts gX6_readTube_X6_number rfl rfl rfl (by decide +kernel) ⟨Nat.le_of_ble_eq_true rfl, Nat.le_of_ble_eq_true rfl⟩) hK hP hD [1, 2] rfl (by decide) (va_recv hK.1 hP (ci := 6) (q0 := 1) rfl rfl) rfl hl.1 rfl (Nat.le_of_ble_eq_true rfl) dX6_readTube_65 ⟨Nat.le_of_ble_eq_true rfl, Nat.le_of_ble_eq_true rfl⟩) hP hD hS hA [1, 2] [0] rfl rfl (by decide) (by decide) (fun r_78 w_79 H locs h_80 hP hD hS => ?_)
    obtain ⟨ta2_81, md_f13_82, md_f14_83, md_f15_84, md_f16_85, md_f17_86, rfl, x_87⟩ := h_80
    have hP : va_P D vwCl [(fr, .inl (cI, 45, .inl tf)), (md, .inr (6, [vm_0, vm_1, vm_2, vm_3, vm_4, vm_5, .ref fr, vm_7, vm_8, vm_9, .ref bt, .int (nI tl), .int (nI ta2_81), .int md_f13_82, .int md_f14_83, .int md_f15_84, .int md_f16_85, .int md_f17_86, vm_18, vm_19, vm_20, vm_21, vm_22, vm_23])), (bt, .inl (cI, 120, .inl bf))] H := hP
    have hD : va_D A [(fr, .inl (cI, 45, .inl tf)), (md, .inr (6, [vm_0, vm_1, vm_2, vm_3, vm_4, vm_5, .ref fr, vm_7, vm_8, vm_9, .ref bt, .int (nI tl), .int (nI ta2_81), .int md_f13_82, .int md_f14_83, .int md_f15_84, .int md_f16_85, .int md_f17_86, vm_18, vm_19, vm_20, vm_21, vm_22, vm_23])), (bt, .inl (cI, 120, .inl bf))] := hD
    obtain ⟨⟨v_88, hv_88a, hv_88b, rfl⟩, yx_89, ybd_90, yge_91, yri_92⟩ := x_87
    refine lv_istore (lv' := [(4, .int (nI v_88)), (3, .int (nI v_59)), (2, .int (nI v_30)), (1, .int (kB s15)), (0, .ref md)]) hx hb dX6_readTube_68 hl (by decide) rfl (fun ls hl => ?_)
    refine lv_aload_n hx hb dX6_readTube_70 rfl (lv_at hl 4 rfl) ?_
    refine lv_bipush (v := 59) hx hb dX6_readTube_71 (by decide) ?_
    refine wt_goV (wr := [(fr, .inl (cI, 45, .inl tf))]) (wt_runV (As := [.int 59]) (rest := []) ⟨hx, hb, hml, hown, hts⟩ (c_X6_mustSign_x l D cI cZ cH md bt tl ta2_81 bf md_f13_82 md_f14_83 md_f15_84 md_f16_85 md_f17_86 59 _ vm_0 vm_1 vm_2 vm_3 vm_4 vm_5 (.ref fr) vm_7 vm_8 vm_9 vm_18 vm_19 vm_20 vm_21 vm_22 vm_23 (by first | assumption | omega) (by first | assumption | omega) (by first | assumption | omega) (by decide) yri_92) (cwV 1 hts gX6_readTube_X6_mustSign rfl rfl rfl (by decide +kernel) ⟨Nat.le_of_ble_eq_true rfl, Nat.le_of_ble_eq_true rfl⟩) hK hP hD [1, 2] rfl (by decide) (va_recv hK.1 hP (ci := 6) (q0 := 1) rfl rfl) rfl hl.1 rfl (Nat.le_of_ble_eq_true rfl) dX6_readTube_73 ⟨Nat.le_of_ble_eq_true rfl, Nat.le_of_ble_eq_true rfl⟩) hP hD hS hA [1, 2] [0] rfl rfl (by decide) (by decide) (fun w_94 H locs h_95 hP hD hS => ?_)
    obtain ⟨ta2_96, md_f13_97, md_f14_98, md_f15_99, md_f16_100, md_f17_101, rfl, x_102⟩ := h_95
    have hP : va_P D vwCl [(fr, .inl (cI, 45, .inl tf)), (md, .inr (6, [vm_0, vm_1, vm_2, vm_3, vm_4, vm_5, .ref fr, vm_7, vm_8, vm_9, .ref bt, .int (nI tl), .int (nI ta2_96), .int md_f13_97, .int md_f14_98, .int md_f15_99, .int md_f16_100, .int md_f17_101, vm_18, vm_19, vm_20, vm_21, vm_22, vm_23])), (bt, .inl (cI, 120, .inl bf))] H := hP
    have hD : va_D A [(fr, .inl (cI, 45, .inl tf)), (md, .inr (6, [vm_0, vm_1, vm_2, vm_3, vm_4, vm_5, .ref fr, vm_7, vm_8, vm_9, .ref bt, .int (nI tl), .int (nI ta2_96), .int md_f13_97, .int md_f14_98, .int md_f15_99, .int md_f16_100, .int md_f17_101, vm_18, vm_19, vm_20, vm_21, vm_22, vm_23])), (bt, .inl (cI, 120, .inl bf))] := hD
    obtain ⟨yx_103, ybd_104, yge_105, yri_106⟩ := x_102
    refine lv_aload_n hx hb dX6_readTube_76 rfl (lv_at hl 4 rfl) ?_
    refine va_get (D := D) (ci := 6) (v := .int md_f16_100) (C := RX6) (T := TX6) (N := 24) hx hb hts hi6 hown hK.1 hP 1 rfl rfl 16 (by decide) wf78 (fun _ h9 => h9) rfl dX6_readTube_77 ?_
    refine lv_if_ne (tgt := 145) hx hb dX6_readTube_80 (by decide) (fun c_107 => ?_) (fun c_107 => ?_)
    · skip
      have hP9 := hP.sub (ws' := [(md, .inr (6, [vm_0, vm_1, vm_2, vm_3, vm_4, vm_5, .ref fr, vm_7, vm_8, vm_9, .ref bt, .int (nI tl), .int (nI ta2_96), .int md_f13_97, .int md_f14_98, .int md_f15_99, .int md_f16_100, .int md_f17_101, vm_18, vm_19, vm_20, vm_21, vm_22, vm_23])), (bt, .inl (cI, 120, .inl bf)), (fr, .inl (cI, 45, .inl tf))]) [1, 2, 0] rfl
      have hD9 := hD.sub (ws' := [(md, .inr (6, [vm_0, vm_1, vm_2, vm_3, vm_4, vm_5, .ref fr, vm_7, vm_8, vm_9, .ref bt, .int (nI tl), .int (nI ta2_96), .int md_f13_97, .int md_f14_98, .int md_f15_99, .int md_f16_100, .int md_f17_101, vm_18, vm_19, vm_20, vm_21, vm_22, vm_23])), (bt, .inl (cI, 120, .inl bf)), (fr, .inl (cI, 45, .inl tf))]) [1, 2, 0] (by decide) rfl
      exact wt_vret hx hb hr hlocks hP9 hD9 hS ⟨tf, ta2_96, md_f13_97, md_f14_98, md_f15_99, md_f16_100, md_f17_101, rfl, ⟨T, by omega, by omega, hrk, by omega, yge_105, fun h => absurd h c_107, fun h => absurd h c_107, fun _ => ⟨rfl, rfl⟩, ri_eq (tuS_n (by omega)) yri_106⟩⟩ dX6_readTube_145
    · skip
      refine lv_bipush (v := 15) hx hb dX6_readTube_83 (by decide) ?_
      refine lv_iconst (v := 5) hx hb dX6_readTube_85 (by decide) ?_
      refine lv_aload_n hx hb dX6_readTube_86 rfl (lv_at hl 4 rfl) ?_
      refine va_get (D := D) (ci := 6) (v := .ref fr) (C := RX6) (T := TX6) (N := 24) hx hb hts hi6 hown hK.1 hP 1 rfl rfl 6 (by decide) wf22 (fun _ h9 => h9) rfl dX6_readTube_87 ?_
      refine lv_iconst (v := 1) hx hb dX6_readTube_90 (by decide) ?_
      refine va_iald hx hb hK.1 hP 0 0 rfl rfl (by rw [vp_in_iff]; decide) dX6_readTube_91 ?_
      refine wt_top (z := nI T) (hrk.2.1) ?_
      refine lv_imul hx hb dX6_readTube_92 ?_
      refine wt_top (z := nI (5 * T)) (pk_mul 5 T) ?_
      refine lv_iadd hx hb dX6_readTube_93 ?_
      refine wt_top (z := nI (15 + (5 * T))) (nI_add 15 (5 * T)) ?_
      refine lv_istore (lv' := [(5, .int (nI (15 + (5 * T)))), (4, .int (nI v_88)), (3, .int (nI v_59)), (2, .int (nI v_30)), (1, .int (kB s15)), (0, .ref md)]) hx hb dX6_readTube_94 hl (by decide) rfl (fun ls hl => ?_)
      refine lv_aload_n hx hb dX6_readTube_96 rfl (lv_at hl 5 rfl) ?_
      refine va_get (D := D) (ci := 6) (v := .ref fr) (C := RX6) (T := TX6) (N := 24) hx hb hts hi6 hown hK.1 hP 1 rfl rfl 6 (by decide) wf22 (fun _ h9 => h9) rfl dX6_readTube_97 ?_
      refine lv_iload hx hb dX6_readTube_100 (lv_at hl 0 rfl) ?_
      refine lv_iload_n hx hb dX6_readTube_102 rfl (lv_at hl 4 rfl) ?_
      refine va_iast hx hb hK.1 hP hD hS 0 0 rfl rfl (vp_in_nI (by omega) (by omega)) dX6_readTube_103 (fun H locs hP hD hS => ?_)
      have hP : va_P D vwCl [(fr, .inl (cI, 45, .inl (upd tf ((nI (15 + (5 * T))).toNatClampNeg) (kB s15)))), (md, .inr (6, [vm_0, vm_1, vm_2, vm_3, vm_4, vm_5, .ref fr, vm_7, vm_8, vm_9, .ref bt, .int (nI tl), .int (nI ta2_96), .int md_f13_97, .int md_f14_98, .int md_f15_99, .int md_f16_100, .int md_f17_101, vm_18, vm_19, vm_20, vm_21, vm_22, vm_23])), (bt, .inl (cI, 120, .inl bf))] H := hP
      have hD : va_D A [(fr, .inl (cI, 45, .inl (upd tf ((nI (15 + (5 * T))).toNatClampNeg) (kB s15)))), (md, .inr (6, [vm_0, vm_1, vm_2, vm_3, vm_4, vm_5, .ref fr, vm_7, vm_8, vm_9, .ref bt, .int (nI tl), .int (nI ta2_96), .int md_f13_97, .int md_f14_98, .int md_f15_99, .int md_f16_100, .int md_f17_101, vm_18, vm_19, vm_20, vm_21, vm_22, vm_23])), (bt, .inl (cI, 120, .inl bf))] := hD
      rw [nI_clamp (n := (15 + (5 * T))) (by omega)] at hP hD
      have hP : va_P D vwCl [(fr, .inl (cI, 45, .inl (upd tf (15 + (5 * T)) (kB s15)))), (md, .inr (6, [vm_0, vm_1, vm_2, vm_3, vm_4, vm_5, .ref fr, vm_7, vm_8, vm_9, .ref bt, .int (nI tl), .int (nI ta2_96), .int md_f13_97, .int md_f14_98, .int md_f15_99, .int md_f16_100, .int md_f17_101, vm_18, vm_19, vm_20, vm_21, vm_22, vm_23])), (bt, .inl (cI, 120, .inl bf))] H := hP
      have hD : va_D A [(fr, .inl (cI, 45, .inl (upd tf (15 + (5 * T)) (kB s15)))), (md, .inr (6, [vm_0, vm_1, vm_2, vm_3, vm_4, vm_5, .ref fr, vm_7, vm_8, vm_9, .ref bt, .int (nI tl), .int (nI ta2_96), .int md_f13_97, .int md_f14_98, .int md_f15_99, .int md_f16_100, .int md_f17_101, vm_18, vm_19, vm_20, vm_21, vm_22, vm_23])), (bt, .inl (cI, 120, .inl bf))] := hD
      refine lv_aload_n hx hb dX6_readTube_104 rfl (lv_at hl 5 rfl) ?_
      refine va_get (D := D) (ci := 6) (v := .ref fr) (C := RX6) (T := TX6) (N := 24) hx hb hts hi6 hown hK.1 hP 1 rfl rfl 6 (by decide) wf22 (fun _ h9 => h9) rfl dX6_readTube_105 ?_
      refine lv_iload hx hb dX6_readTube_108 (lv_at hl 0 rfl) ?_
      refine lv_iconst (v := 1) hx hb dX6_readTube_110 (by decide) ?_
      refine lv_iadd hx hb dX6_readTube_111 ?_
      refine wt_top (z := nI ((15 + (5 * T)) + 1)) (nI_add (15 + (5 * T)) 1) ?_
      refine lv_iload_n hx hb dX6_readTube_112 rfl (lv_at hl 3 rfl) ?_
      refine va_iast hx hb hK.1 hP hD hS 0 0 rfl rfl (vp_in_nI (by omega) (by omega)) dX6_readTube_113 (fun H locs hP hD hS => ?_)
      have hP : va_P D vwCl [(fr, .inl (cI, 45, .inl (upd (upd tf (15 + (5 * T)) (kB s15)) ((nI ((15 + (5 * T)) + 1)).toNatClampNeg) (nI v_30)))), (md, .inr (6, [vm_0, vm_1, vm_2, vm_3, vm_4, vm_5, .ref fr, vm_7, vm_8, vm_9, .ref bt, .int (nI tl), .int (nI ta2_96), .int md_f13_97, .int md_f14_98, .int md_f15_99, .int md_f16_100, .int md_f17_101, vm_18, vm_19, vm_20, vm_21, vm_22, vm_23])), (bt, .inl (cI, 120, .inl bf))] H := hP
      have hD : va_D A [(fr, .inl (cI, 45, .inl (upd (upd tf (15 + (5 * T)) (kB s15)) ((nI ((15 + (5 * T)) + 1)).toNatClampNeg) (nI v_30)))), (md, .inr (6, [vm_0, vm_1, vm_2, vm_3, vm_4, vm_5, .ref fr, vm_7, vm_8, vm_9, .ref bt, .int (nI tl), .int (nI ta2_96), .int md_f13_97, .int md_f14_98, .int md_f15_99, .int md_f16_100, .int md_f17_101, vm_18, vm_19, vm_20, vm_21, vm_22, vm_23])), (bt, .inl (cI, 120, .inl bf))] := hD
      rw [nI_clamp (n := ((15 + (5 * T)) + 1)) (by omega)] at hP hD
      have hP : va_P D vwCl [(fr, .inl (cI, 45, .inl (upd (upd tf (15 + (5 * T)) (kB s15)) ((15 + (5 * T)) + 1) (nI v_30)))), (md, .inr (6, [vm_0, vm_1, vm_2, vm_3, vm_4, vm_5, .ref fr, vm_7, vm_8, vm_9, .ref bt, .int (nI tl), .int (nI ta2_96), .int md_f13_97, .int md_f14_98, .int md_f15_99, .int md_f16_100, .int md_f17_101, vm_18, vm_19, vm_20, vm_21, vm_22, vm_23])), (bt, .inl (cI, 120, .inl bf))] H := hP
      have hD : va_D A [(fr, .inl (cI, 45, .inl (upd (upd tf (15 + (5 * T)) (kB s15)) ((15 + (5 * T)) + 1) (nI v_30)))), (md, .inr (6, [vm_0, vm_1, vm_2, vm_3, vm_4, vm_5, .ref fr, vm_7, vm_8, vm_9, .ref bt, .int (nI tl), .int (nI ta2_96), .int md_f13_97, .int md_f14_98, .int md_f15_99, .int md_f16_100, .int md_f17_101, vm_18, vm_19, vm_20, vm_21, vm_22, vm_23])), (bt, .inl (cI, 120, .inl bf))] := hD
      refine lv_aload_n hx hb dX6_readTube_114 rfl (lv_at hl 5 rfl) ?_
      refine va_get (D := D) (ci := 6) (v := .ref fr) (C := RX6) (T := TX6) (N := 24) hx hb hts hi6 hown hK.1 hP 1 rfl rfl 6 (by decide) wf22 (fun _ h9 => h9) rfl dX6_readTube_115 ?_
      refine lv_iload hx hb dX6_readTube_118 (lv_at hl 0 rfl) ?_
      refine lv_iconst (v := 2) hx hb dX6_readTube_120 (by decide) ?_
      refine lv_iadd hx hb dX6_readTube_121 ?_
      refine wt_top (z := nI ((15 + (5 * T)) + 2)) (nI_add (15 + (5 * T)) 2) ?_
      refine lv_iload_n hx hb dX6_readTube_122 rfl (lv_at hl 2 rfl) ?_
      refine va_iast hx hb hK.1 hP hD hS 0 0 rfl rfl (vp_in_nI (by omega) (by omega)) dX6_readTube_123 (fun H locs hP hD hS => ?_)
      have hP : va_P D vwCl [(fr, .inl (cI, 45, .inl (upd (upd (upd tf (15 + (5 * T)) (kB s15)) ((15 + (5 * T)) + 1) (nI v_30)) ((nI ((15 + (5 * T)) + 2)).toNatClampNeg) (nI v_59)))), (md, .inr (6, [vm_0, vm_1, vm_2, vm_3, vm_4, vm_5, .ref fr, vm_7, vm_8, vm_9, .ref bt, .int (nI tl), .int (nI ta2_96), .int md_f13_97, .int md_f14_98, .int md_f15_99, .int md_f16_100, .int md_f17_101, vm_18, vm_19, vm_20, vm_21, vm_22, vm_23])), (bt, .inl (cI, 120, .inl bf))] H := hP
      have hD : va_D A [(fr, .inl (cI, 45, .inl (upd (upd (upd tf (15 + (5 * T)) (kB s15)) ((15 + (5 * T)) + 1) (nI v_30)) ((nI ((15 + (5 * T)) + 2)).toNatClampNeg) (nI v_59)))), (md, .inr (6, [vm_0, vm_1, vm_2, vm_3, vm_4, vm_5, .ref fr, vm_7, vm_8, vm_9, .ref bt, .int (nI tl), .int (nI ta2_96), .int md_f13_97, .int md_f14_98, .int md_f15_99, .int md_f16_100, .int md_f17_101, vm_18, vm_19, vm_20, vm_21, vm_22, vm_23])), (bt, .inl (cI, 120, .inl bf))] := hD
      rw [nI_clamp (n := ((15 + (5 * T)) + 2)) (by omega)] at hP hD
      have hP : va_P D vwCl [(fr, .inl (cI, 45, .inl (upd (upd (upd tf (15 + (5 * T)) (kB s15)) ((15 + (5 * T)) + 1) (nI v_30)) ((15 + (5 * T)) + 2) (nI v_59)))), (md, .inr (6, [vm_0, vm_1, vm_2, vm_3, vm_4, vm_5, .ref fr, vm_7, vm_8, vm_9, .ref bt, .int (nI tl), .int (nI ta2_96), .int md_f13_97, .int md_f14_98, .int md_f15_99, .int md_f16_100, .int md_f17_101, vm_18, vm_19, vm_20, vm_21, vm_22, vm_23])), (bt, .inl (cI, 120, .inl bf))] H := hP
      have hD : va_D A [(fr, .inl (cI, 45, .inl (upd (upd (upd tf (15 + (5 * T)) (kB s15)) ((15 + (5 * T)) + 1) (nI v_30)) ((15 + (5 * T)) + 2) (nI v_59)))), (md, .inr (6, [vm_0, vm_1, vm_2, vm_3, vm_4, vm_5, .ref fr, vm_7, vm_8, vm_9, .ref bt, .int (nI tl), .int (nI ta2_96), .int md_f13_97, .int md_f14_98, .int md_f15_99, .int md_f16_100, .int md_f17_101, vm_18, vm_19, vm_20, vm_21, vm_22, vm_23])), (bt, .inl (cI, 120, .inl bf))] := hD
      refine lv_aload_n hx hb dX6_readTube_124 rfl (lv_at hl 5 rfl) ?_
      refine va_get (D := D) (ci := 6) (v := .ref fr) (C := RX6) (T := TX6) (N := 24) hx hb hts hi6 hown hK.1 hP 1 rfl rfl 6 (by decide) wf22 (fun _ h9 => h9) rfl dX6_readTube_125 ?_
      refine lv_iload hx hb dX6_readTube_128 (lv_at hl 0 rfl) ?_
      refine lv_iconst (v := 3) hx hb dX6_readTube_130 (by decide) ?_
      refine lv_iadd hx hb dX6_readTube_131 ?_
      refine wt_top (z := nI ((15 + (5 * T)) + 3)) (nI_add (15 + (5 * T)) 3) ?_
      refine lv_iload hx hb dX6_readTube_132 (lv_at hl 1 rfl) ?_
      refine va_iast hx hb hK.1 hP hD hS 0 0 rfl rfl (vp_in_nI (by omega) (by omega)) dX6_readTube_134 (fun H locs hP hD hS => ?_)
      have hP : va_P D vwCl [(fr, .inl (cI, 45, .inl (upd (upd (upd (upd tf (15 + (5 * T)) (kB s15)) ((15 + (5 * T)) + 1) (nI v_30)) ((15 + (5 * T)) + 2) (nI v_59)) ((nI ((15 + (5 * T)) + 3)).toNatClampNeg) (nI v_88)))), (md, .inr (6, [vm_0, vm_1, vm_2, vm_3, vm_4, vm_5, .ref fr, vm_7, vm_8, vm_9, .ref bt, .int (nI tl), .int (nI ta2_96), .int md_f13_97, .int md_f14_98, .int md_f15_99, .int md_f16_100, .int md_f17_101, vm_18, vm_19, vm_20, vm_21, vm_22, vm_23])), (bt, .inl (cI, 120, .inl bf))] H := hP
      have hD : va_D A [(fr, .inl (cI, 45, .inl (upd (upd (upd (upd tf (15 + (5 * T)) (kB s15)) ((15 + (5 * T)) + 1) (nI v_30)) ((15 + (5 * T)) + 2) (nI v_59)) ((nI ((15 + (5 * T)) + 3)).toNatClampNeg) (nI v_88)))), (md, .inr (6, [vm_0, vm_1, vm_2, vm_3, vm_4, vm_5, .ref fr, vm_7, vm_8, vm_9, .ref bt, .int (nI tl), .int (nI ta2_96), .int md_f13_97, .int md_f14_98, .int md_f15_99, .int md_f16_100, .int md_f17_101, vm_18, vm_19, vm_20, vm_21, vm_22, vm_23])), (bt, .inl (cI, 120, .inl bf))] := hD
      rw [nI_clamp (n := ((15 + (5 * T)) + 3)) (by omega)] at hP hD
      have hP : va_P D vwCl [(fr, .inl (cI, 45, .inl (upd (upd (upd (upd tf (15 + (5 * T)) (kB s15)) ((15 + (5 * T)) + 1) (nI v_30)) ((15 + (5 * T)) + 2) (nI v_59)) ((15 + (5 * T)) + 3) (nI v_88)))), (md, .inr (6, [vm_0, vm_1, vm_2, vm_3, vm_4, vm_5, .ref fr, vm_7, vm_8, vm_9, .ref bt, .int (nI tl), .int (nI ta2_96), .int md_f13_97, .int md_f14_98, .int md_f15_99, .int md_f16_100, .int md_f17_101, vm_18, vm_19, vm_20, vm_21, vm_22, vm_23])), (bt, .inl (cI, 120, .inl bf))] H := hP
      have hD : va_D A [(fr, .inl (cI, 45, .inl (upd (upd (upd (upd tf (15 + (5 * T)) (kB s15)) ((15 + (5 * T)) + 1) (nI v_30)) ((15 + (5 * T)) + 2) (nI v_59)) ((15 + (5 * T)) + 3) (nI v_88)))), (md, .inr (6, [vm_0, vm_1, vm_2, vm_3, vm_4, vm_5, .ref fr, vm_7, vm_8, vm_9, .ref bt, .int (nI tl), .int (nI ta2_96), .int md_f13_97, .int md_f14_98, .int md_f15_99, .int md_f16_100, .int md_f17_101, vm_18, vm_19, vm_20, vm_21, vm_22, vm_23])), (bt, .inl (cI, 120, .inl bf))] := hD
      refine lv_aload_n hx hb dX6_readTube_135 rfl (lv_at hl 5 rfl) ?_
      refine va_get (D := D) (ci := 6) (v := .ref fr) (C := RX6) (T := TX6) (N := 24) hx hb hts hi6 hown hK.1 hP 1 rfl rfl 6 (by decide) wf22 (fun _ h9 => h9) rfl dX6_readTube_136 ?_
      refine lv_iconst (v := 1) hx hb dX6_readTube_139 (by decide) ?_
      refine lv_dup2_11 hx hb dX6_readTube_140 rfl rfl ?_
      refine va_iald hx hb hK.1 hP 0 0 rfl rfl (by rw [vp_in_iff]; decide) dX6_readTube_141 ?_
      refine wt_top (z := nI T) (by rw [show Int32.toNatClampNeg 1 = 1 from rfl, pk_un (by omega), pk_un (by omega), pk_un (by omega), pk_un (by omega)]; exact hrk.2.1) ?_
      refine lv_iconst (v := 1) hx hb dX6_readTube_142 (by decide) ?_
      refine lv_iadd hx hb dX6_readTube_143 ?_
      refine wt_top (z := nI (T + 1)) (nI_add T 1) ?_
      refine va_iast hx hb hK.1 hP hD hS 0 0 rfl rfl (by rw [vp_in_iff]; decide) dX6_readTube_144 (fun H locs hP hD hS => ?_)
      have hP : va_P D vwCl [(fr, .inl (cI, 45, .inl (upd (upd (upd (upd (upd tf (15 + (5 * T)) (kB s15)) ((15 + (5 * T)) + 1) (nI v_30)) ((15 + (5 * T)) + 2) (nI v_59)) ((15 + (5 * T)) + 3) (nI v_88)) (Int32.toNatClampNeg 1) (nI (T + 1))))), (md, .inr (6, [vm_0, vm_1, vm_2, vm_3, vm_4, vm_5, .ref fr, vm_7, vm_8, vm_9, .ref bt, .int (nI tl), .int (nI ta2_96), .int md_f13_97, .int md_f14_98, .int md_f15_99, .int md_f16_100, .int md_f17_101, vm_18, vm_19, vm_20, vm_21, vm_22, vm_23])), (bt, .inl (cI, 120, .inl bf))] H := hP
      have hD : va_D A [(fr, .inl (cI, 45, .inl (upd (upd (upd (upd (upd tf (15 + (5 * T)) (kB s15)) ((15 + (5 * T)) + 1) (nI v_30)) ((15 + (5 * T)) + 2) (nI v_59)) ((15 + (5 * T)) + 3) (nI v_88)) (Int32.toNatClampNeg 1) (nI (T + 1))))), (md, .inr (6, [vm_0, vm_1, vm_2, vm_3, vm_4, vm_5, .ref fr, vm_7, vm_8, vm_9, .ref bt, .int (nI tl), .int (nI ta2_96), .int md_f13_97, .int md_f14_98, .int md_f15_99, .int md_f16_100, .int md_f17_101, vm_18, vm_19, vm_20, vm_21, vm_22, vm_23])), (bt, .inl (cI, 120, .inl bf))] := hD
      have hP : va_P D vwCl [(fr, .inl (cI, 45, .inl (upd (upd (upd (upd (upd tf (15 + (5 * T)) (kB s15)) ((15 + (5 * T)) + 1) (nI v_30)) ((15 + (5 * T)) + 2) (nI v_59)) ((15 + (5 * T)) + 3) (nI v_88)) 1 (nI (T + 1))))), (md, .inr (6, [vm_0, vm_1, vm_2, vm_3, vm_4, vm_5, .ref fr, vm_7, vm_8, vm_9, .ref bt, .int (nI tl), .int (nI ta2_96), .int md_f13_97, .int md_f14_98, .int md_f15_99, .int md_f16_100, .int md_f17_101, vm_18, vm_19, vm_20, vm_21, vm_22, vm_23])), (bt, .inl (cI, 120, .inl bf))] H := hP
      have hD : va_D A [(fr, .inl (cI, 45, .inl (upd (upd (upd (upd (upd tf (15 + (5 * T)) (kB s15)) ((15 + (5 * T)) + 1) (nI v_30)) ((15 + (5 * T)) + 2) (nI v_59)) ((15 + (5 * T)) + 3) (nI v_88)) 1 (nI (T + 1))))), (md, .inr (6, [vm_0, vm_1, vm_2, vm_3, vm_4, vm_5, .ref fr, vm_7, vm_8, vm_9, .ref bt, .int (nI tl), .int (nI ta2_96), .int md_f13_97, .int md_f14_98, .int md_f15_99, .int md_f16_100, .int md_f17_101, vm_18, vm_19, vm_20, vm_21, vm_22, vm_23])), (bt, .inl (cI, 120, .inl bf))] := hD
      have hP9 := hP.sub (ws' := [(md, .inr (6, [vm_0, vm_1, vm_2, vm_3, vm_4, vm_5, .ref fr, vm_7, vm_8, vm_9, .ref bt, .int (nI tl), .int (nI ta2_96), .int md_f13_97, .int md_f14_98, .int md_f15_99, .int md_f16_100, .int md_f17_101, vm_18, vm_19, vm_20, vm_21, vm_22, vm_23])), (bt, .inl (cI, 120, .inl bf)), (fr, .inl (cI, 45, .inl (upd (upd (upd (upd (upd tf (15 + (5 * T)) (kB s15)) ((15 + (5 * T)) + 1) (nI v_30)) ((15 + (5 * T)) + 2) (nI v_59)) ((15 + (5 * T)) + 3) (nI v_88)) 1 (nI (T + 1)))))]) [1, 2, 0] rfl
      have hD9 := hD.sub (ws' := [(md, .inr (6, [vm_0, vm_1, vm_2, vm_3, vm_4, vm_5, .ref fr, vm_7, vm_8, vm_9, .ref bt, .int (nI tl), .int (nI ta2_96), .int md_f13_97, .int md_f14_98, .int md_f15_99, .int md_f16_100, .int md_f17_101, vm_18, vm_19, vm_20, vm_21, vm_22, vm_23])), (bt, .inl (cI, 120, .inl bf)), (fr, .inl (cI, 45, .inl (upd (upd (upd (upd (upd tf (15 + (5 * T)) (kB s15)) ((15 + (5 * T)) + 1) (nI v_30)) ((15 + (5 * T)) + 2) (nI v_59)) ((15 + (5 * T)) + 3) (nI v_88)) 1 (nI (T + 1)))))]) [1, 2, 0] (by decide) rfl
      exact wt_vret hx hb hr hlocks hP9 hD9 hS ⟨(upd (upd (upd (upd (upd tf (15 + (5 * T)) (kB s15)) ((15 + (5 * T)) + 1) (nI v_30)) ((15 + (5 * T)) + 2) (nI v_59)) ((15 + (5 * T)) + 3) (nI v_88)) 1 (nI (T + 1))), ta2_96, md_f13_97, md_f14_98, md_f15_99, md_f16_100, md_f17_101, rfl, ⟨T + 1, by omega, by omega, rt_rk hrk (by omega), by omega, yge_105, fun _ => rfl, fun _ => ⟨rt_k, rt_o⟩, fun h => absurd c_107 h, ri_eq (tuS_n (by omega)) yri_106⟩⟩ dX6_readTube_145
  · skip
    have c_3 : T = 6 := (nI_eq (a := T) (b := 6) (by omega) (by omega)).mp c_3
    refine lv_aload_n hx hb dX6_readTube_19 rfl (lv_at hl 1 rfl) ?_
    refine lv_iconst (v := 3) hx hb dX6_readTube_20 (by decide) ?_
    refine wt_goV (wr := [(fr, .inl (cI, 45, .inl tf))]) (wt_runV (As := [.int 3]) (rest := []) ⟨hx, hb, hml, hown, hts⟩ (c_X6_bad_x l D cI cZ cH md bt tl ta bf s13 s14 s15 bd s17 3 _ vm_0 vm_1 vm_2 vm_3 vm_4 vm_5 (.ref fr) vm_7 vm_8 vm_9 vm_18 vm_19 vm_20 vm_21 vm_22 vm_23 (by first | assumption | omega) (by decide) hri) (cwV 1 hts gX6_readTube_X6_bad rfl rfl rfl (by decide +kernel) ⟨Nat.le_of_ble_eq_true rfl, Nat.le_of_ble_eq_true rfl⟩) hK hP hD [0, 1] rfl (by decide) (va_recv hK.1 hP (ci := 6) (q0 := 0) rfl rfl) rfl hl.1 rfl (Nat.le_of_ble_eq_true rfl) dX6_readTube_21 ⟨Nat.le_of_ble_eq_true rfl, Nat.le_of_ble_eq_true rfl⟩) hP hD hS hA [0, 1] [2] rfl rfl (by decide) (by decide) (fun w_109 H locs h_110 hP hD hS => ?_)
    obtain ⟨md_f16_111, md_f17_112, rfl, x_113⟩ := h_110
    have hP : va_P D vwCl [(fr, .inl (cI, 45, .inl tf)), (md, .inr (6, [vm_0, vm_1, vm_2, vm_3, vm_4, vm_5, .ref fr, vm_7, vm_8, vm_9, .ref bt, .int (nI tl), .int (nI ta), .int s13, .int s14, .int s15, .int md_f16_111, .int md_f17_112, vm_18, vm_19, vm_20, vm_21, vm_22, vm_23])), (bt, .inl (cI, 120, .inl bf))] H := hP
    have hD : va_D A [(fr, .inl (cI, 45, .inl tf)), (md, .inr (6, [vm_0, vm_1, vm_2, vm_3, vm_4, vm_5, .ref fr, vm_7, vm_8, vm_9, .ref bt, .int (nI tl), .int (nI ta), .int s13, .int s14, .int s15, .int md_f16_111, .int md_f17_112, vm_18, vm_19, vm_20, vm_21, vm_22, vm_23])), (bt, .inl (cI, 120, .inl bf))] := hD
    obtain ⟨yk0_114, ybd_115, yge_116, yri_117⟩ := x_113
    have hbd_118 : ¬ md_f16_111 = 0 := yk0_114 (by decide)
    refine lv_aload_n hx hb dX6_readTube_24 rfl (lv_at hl 1 rfl) ?_
    refine lv_iconst (v := 1) hx hb dX6_readTube_25 (by decide) ?_
    refine wt_goV (wr := [(fr, .inl (cI, 45, .inl tf))]) (wt_runV (As := [.int 1]) (rest := []) ⟨hx, hb, hml, hown, hts⟩ (c_X6_must_x l D cI cZ cH md bt tl ta bf s13 s14 s15 md_f16_111 md_f17_112 1 _ vm_0 vm_1 vm_2 vm_3 vm_4 vm_5 (.ref fr) vm_7 vm_8 vm_9 vm_18 vm_19 vm_20 vm_21 vm_22 vm_23 (by first | assumption | omega) (by first | assumption | omega) (by first | assumption | omega) yri_117) (cwV 1 hts gX6_readTube_X6_must rfl rfl rfl (by decide +kernel) ⟨Nat.le_of_ble_eq_true rfl, Nat.le_of_ble_eq_true rfl⟩) hK hP hD [1, 2] rfl (by decide) (va_recv hK.1 hP (ci := 6) (q0 := 1) rfl rfl) rfl hl.1 rfl (Nat.le_of_ble_eq_true rfl) dX6_readTube_26 ⟨Nat.le_of_ble_eq_true rfl, Nat.le_of_ble_eq_true rfl⟩) hP hD hS hA [1, 2] [0] rfl rfl (by decide) (by decide) (fun w_120 H locs h_121 hP hD hS => ?_)
    obtain ⟨ta2_122, md_f13_123, md_f14_124, md_f15_125, md_f16_126, md_f17_127, rfl, x_128⟩ := h_121
    have hP : va_P D vwCl [(fr, .inl (cI, 45, .inl tf)), (md, .inr (6, [vm_0, vm_1, vm_2, vm_3, vm_4, vm_5, .ref fr, vm_7, vm_8, vm_9, .ref bt, .int (nI tl), .int (nI ta2_122), .int md_f13_123, .int md_f14_124, .int md_f15_125, .int md_f16_126, .int md_f17_127, vm_18, vm_19, vm_20, vm_21, vm_22, vm_23])), (bt, .inl (cI, 120, .inl bf))] H := hP
    have hD : va_D A [(fr, .inl (cI, 45, .inl tf)), (md, .inr (6, [vm_0, vm_1, vm_2, vm_3, vm_4, vm_5, .ref fr, vm_7, vm_8, vm_9, .ref bt, .int (nI tl), .int (nI ta2_122), .int md_f13_123, .int md_f14_124, .int md_f15_125, .int md_f16_126, .int md_f17_127, vm_18, vm_19, vm_20, vm_21, vm_22, vm_23])), (bt, .inl (cI, 120, .inl bf))] := hD
    obtain ⟨yx_129, ybd_130, yk0_131, yge_132, yri_133⟩ := x_128
    have hbd_134 : ¬ md_f16_126 = 0 := ybd_130 hbd_118
    have ri_135 := ri_eq (tu_3 hri hso) yri_133
    refine lv_aload_n hx hb dX6_readTube_29 rfl (lv_at hl 1 rfl) ?_
    refine lv_iconst (v := 0) hx hb dX6_readTube_30 (by decide) ?_
    refine lv_aload_n hx hb dX6_readTube_31 rfl (lv_at hl 1 rfl) ?_
    refine va_get (D := D) (ci := 6) (v := .ref fr) (C := RX6) (T := TX6) (N := 24) hx hb hts hi6 hown hK.1 hP 1 rfl rfl 6 (by decide) wf22 (fun _ h9 => h9) rfl dX6_readTube_32 ?_
    refine lv_iconst (v := 0) hx hb dX6_readTube_35 (by decide) ?_
    refine va_iald hx hb hK.1 hP 0 0 rfl rfl (by rw [vp_in_iff]; decide) dX6_readTube_36 ?_
    refine wt_top (z := nI R) (hrk.1) ?_
    refine wt_goI (wr := [(fr, .inl (cI, 45, .inl tf))]) (wt_runV (As := [.int 0, .int (nI R)]) (rest := []) ⟨hx, hb, hml, hown, hts⟩ (c_X6_number_x l D cI cZ cH md bt tl ta2_122 bf md_f13_123 md_f14_124 md_f15_125 md_f16_126 md_f17_127 0 R _ vm_0 vm_1 vm_2 vm_3 vm_4 vm_5 (.ref fr) vm_7 vm_8 vm_9 vm_18 vm_19 vm_20 vm_21 vm_22 vm_23 (by first | assumption | omega) (by first | assumption | omega) (by first | assumption | omega) (by first | assumption | omega) (by first | assumption | omega) ri_135) (cwV 2 hts gX6_readTube_X6_number rfl rfl rfl (by decide +kernel) ⟨Nat.le_of_ble_eq_true rfl, Nat.le_of_ble_eq_true rfl⟩) hK hP hD [1, 2] rfl (by decide) (va_recv hK.1 hP (ci := 6) (q0 := 1) rfl rfl) rfl hl.1 rfl (Nat.le_of_ble_eq_true rfl) dX6_readTube_37 ⟨Nat.le_of_ble_eq_true rfl, Nat.le_of_ble_eq_true rfl⟩) hP hD hS hA [1, 2] [0] rfl rfl (by decide) (by decide) (fun r_136 w_137 H locs h_138 hP hD hS => ?_)
    obtain ⟨ta2_139, md_f13_140, md_f14_141, md_f15_142, md_f16_143, md_f17_144, rfl, x_145⟩ := h_138
    have hP : va_P D vwCl [(fr, .inl (cI, 45, .inl tf)), (md, .inr (6, [vm_0, vm_1, vm_2, vm_3, vm_4, vm_5, .ref fr, vm_7, vm_8, vm_9, .ref bt, .int (nI tl), .int (nI ta2_139), .int md_f13_140, .int md_f14_141, .int md_f15_142, .int md_f16_143, .int md_f17_144, vm_18, vm_19, vm_20, vm_21, vm_22, vm_23])), (bt, .inl (cI, 120, .inl bf))] H := hP
    have hD : va_D A [(fr, .inl (cI, 45, .inl tf)), (md, .inr (6, [vm_0, vm_1, vm_2, vm_3, vm_4, vm_5, .ref fr, vm_7, vm_8, vm_9, .ref bt, .int (nI tl), .int (nI ta2_139), .int md_f13_140, .int md_f14_141, .int md_f15_142, .int md_f16_143, .int md_f17_144, vm_18, vm_19, vm_20, vm_21, vm_22, vm_23])), (bt, .inl (cI, 120, .inl bf))] := hD
    obtain ⟨⟨v_146, hv_146a, hv_146b, rfl⟩, yx_147, ybd_148, yge_149, yri_150⟩ := x_145
    have hbd_151 : ¬ md_f16_143 = 0 := ybd_148 hbd_134
    refine lv_istore_n (lv' := [(2, .int (nI v_146)), (1, .int (kB s15)), (0, .ref md)]) hx hb dX6_readTube_40 rfl hl (by decide) rfl (fun ls hl => ?_)
    refine lv_aload_n hx hb dX6_readTube_41 rfl (lv_at hl 2 rfl) ?_
    refine lv_bipush (v := 44) hx hb dX6_readTube_42 (by decide) ?_
    refine wt_goV (wr := [(fr, .inl (cI, 45, .inl tf))]) (wt_runV (As := [.int 44]) (rest := []) ⟨hx, hb, hml, hown, hts⟩ (c_X6_mustSign_x l D cI cZ cH md bt tl ta2_139 bf md_f13_140 md_f14_141 md_f15_142 md_f16_143 md_f17_144 44 _ vm_0 vm_1 vm_2 vm_3 vm_4 vm_5 (.ref fr) vm_7 vm_8 vm_9 vm_18 vm_19 vm_20 vm_21 vm_22 vm_23 (by first | assumption | omega) (by first | assumption | omega) (by first | assumption | omega) (by decide) yri_150) (cwV 1 hts gX6_readTube_X6_mustSign rfl rfl rfl (by decide +kernel) ⟨Nat.le_of_ble_eq_true rfl, Nat.le_of_ble_eq_true rfl⟩) hK hP hD [1, 2] rfl (by decide) (va_recv hK.1 hP (ci := 6) (q0 := 1) rfl rfl) rfl hl.1 rfl (Nat.le_of_ble_eq_true rfl) dX6_readTube_44 ⟨Nat.le_of_ble_eq_true rfl, Nat.le_of_ble_eq_true rfl⟩) hP hD hS hA [1, 2] [0] rfl rfl (by decide) (by decide) (fun w_153 H locs h_154 hP hD hS => ?_)
    obtain ⟨ta2_155, md_f13_156, md_f14_157, md_f15_158, md_f16_159, md_f17_160, rfl, x_161⟩ := h_154
    have hP : va_P D vwCl [(fr, .inl (cI, 45, .inl tf)), (md, .inr (6, [vm_0, vm_1, vm_2, vm_3, vm_4, vm_5, .ref fr, vm_7, vm_8, vm_9, .ref bt, .int (nI tl), .int (nI ta2_155), .int md_f13_156, .int md_f14_157, .int md_f15_158, .int md_f16_159, .int md_f17_160, vm_18, vm_19, vm_20, vm_21, vm_22, vm_23])), (bt, .inl (cI, 120, .inl bf))] H := hP
    have hD : va_D A [(fr, .inl (cI, 45, .inl tf)), (md, .inr (6, [vm_0, vm_1, vm_2, vm_3, vm_4, vm_5, .ref fr, vm_7, vm_8, vm_9, .ref bt, .int (nI tl), .int (nI ta2_155), .int md_f13_156, .int md_f14_157, .int md_f15_158, .int md_f16_159, .int md_f17_160, vm_18, vm_19, vm_20, vm_21, vm_22, vm_23])), (bt, .inl (cI, 120, .inl bf))] := hD
    obtain ⟨yx_162, ybd_163, yge_164, yri_165⟩ := x_161
    have hbd_166 : ¬ md_f16_159 = 0 := ybd_163 hbd_151
    refine lv_aload_n hx hb dX6_readTube_47 rfl (lv_at hl 2 rfl) ?_
    refine lv_iconst (v := 1) hx hb dX6_readTube_48 (by decide) ?_
    refine lv_bipush (v := 9) hx hb dX6_readTube_49 (by decide) ?_
    refine wt_goI (wr := [(fr, .inl (cI, 45, .inl tf))]) (wt_runV (As := [.int 1, .int 9]) (rest := []) ⟨hx, hb, hml, hown, hts⟩ (c_X6_number_x l D cI cZ cH md bt tl ta2_155 bf md_f13_156 md_f14_157 md_f15_158 md_f16_159 md_f17_160 1 9 _ vm_0 vm_1 vm_2 vm_3 vm_4 vm_5 (.ref fr) vm_7 vm_8 vm_9 vm_18 vm_19 vm_20 vm_21 vm_22 vm_23 (by first | assumption | omega) (by first | assumption | omega) (by first | assumption | omega) (by first | assumption | omega) (by first | assumption | omega) yri_165) (cwV 2 hts gX6_readTube_X6_number rfl rfl rfl (by decide +kernel) ⟨Nat.le_of_ble_eq_true rfl, Nat.le_of_ble_eq_true rfl⟩) hK hP hD [1, 2] rfl (by decide) (va_recv hK.1 hP (ci := 6) (q0 := 1) rfl rfl) rfl hl.1 rfl (Nat.le_of_ble_eq_true rfl) dX6_readTube_51 ⟨Nat.le_of_ble_eq_true rfl, Nat.le_of_ble_eq_true rfl⟩) hP hD hS hA [1, 2] [0] rfl rfl (by decide) (by decide) (fun r_167 w_168 H locs h_169 hP hD hS => ?_)
    obtain ⟨ta2_170, md_f13_171, md_f14_172, md_f15_173, md_f16_174, md_f17_175, rfl, x_176⟩ := h_169
    have hP : va_P D vwCl [(fr, .inl (cI, 45, .inl tf)), (md, .inr (6, [vm_0, vm_1, vm_2, vm_3, vm_4, vm_5, .ref fr, vm_7, vm_8, vm_9, .ref bt, .int (nI tl), .int (nI ta2_170), .int md_f13_171, .int md_f14_172, .int md_f15_173, .int md_f16_174, .int md_f17_175, vm_18, vm_19, vm_20, vm_21, vm_22, vm_23])), (bt, .inl (cI, 120, .inl bf))] H := hP
    have hD : va_D A [(fr, .inl (cI, 45, .inl tf)), (md, .inr (6, [vm_0, vm_1, vm_2, vm_3, vm_4, vm_5, .ref fr, vm_7, vm_8, vm_9, .ref bt, .int (nI tl), .int (nI ta2_170), .int md_f13_171, .int md_f14_172, .int md_f15_173, .int md_f16_174, .int md_f17_175, vm_18, vm_19, vm_20, vm_21, vm_22, vm_23])), (bt, .inl (cI, 120, .inl bf))] := hD
    obtain ⟨⟨v_177, hv_177a, hv_177b, rfl⟩, yx_178, ybd_179, yge_180, yri_181⟩ := x_176
    have hbd_182 : ¬ md_f16_174 = 0 := ybd_179 hbd_166
    refine lv_istore_n (lv' := [(3, .int (nI v_177)), (2, .int (nI v_146)), (1, .int (kB s15)), (0, .ref md)]) hx hb dX6_readTube_54 rfl hl (by decide) rfl (fun ls hl => ?_)
    refine lv_aload_n hx hb dX6_readTube_55 rfl (lv_at hl 3 rfl) ?_
    refine lv_bipush (v := 44) hx hb dX6_readTube_56 (by decide) ?_
    refine wt_goV (wr := [(fr, .inl (cI, 45, .inl tf))]) (wt_runV (As := [.int 44]) (rest := []) ⟨hx, hb, hml, hown, hts⟩ (c_X6_mustSign_x l D cI cZ cH md bt tl ta2_170 bf md_f13_171 md_f14_172 md_f15_173 md_f16_174 md_f17_175 44 _ vm_0 vm_1 vm_2 vm_3 vm_4 vm_5 (.ref fr) vm_7 vm_8 vm_9 vm_18 vm_19 vm_20 vm_21 vm_22 vm_23 (by first | assumption | omega) (by first | assumption | omega) (by first | assumption | omega) (by decide) yri_181) (cwV 1 hts gX6_readTube_X6_mustSign rfl rfl rfl (by decide +kernel) ⟨Nat.le_of_ble_eq_true rfl, Nat.le_of_ble_eq_true rfl⟩) hK hP hD [1, 2] rfl (by decide) (va_recv hK.1 hP (ci := 6) (q0 := 1) rfl rfl) rfl hl.1 rfl (Nat.le_of_ble_eq_true rfl) dX6_readTube_58 ⟨Nat.le_of_ble_eq_true rfl, Nat.le_of_ble_eq_true rfl⟩) hP hD hS hA [1, 2] [0] rfl rfl (by decide) (by decide) (fun w_184 H locs h_185 hP hD hS => ?_)
    obtain ⟨ta2_186, md_f13_187, md_f14_188, md_f15_189, md_f16_190, md_f17_191, rfl, x_192⟩ := h_185
    have hP : va_P D vwCl [(fr, .inl (cI, 45, .inl tf)), (md, .inr (6, [vm_0, vm_1, vm_2, vm_3, vm_4, vm_5, .ref fr, vm_7, vm_8, vm_9, .ref bt, .int (nI tl), .int (nI ta2_186), .int md_f13_187, .int md_f14_188, .int md_f15_189, .int md_f16_190, .int md_f17_191, vm_18, vm_19, vm_20, vm_21, vm_22, vm_23])), (bt, .inl (cI, 120, .inl bf))] H := hP
    have hD : va_D A [(fr, .inl (cI, 45, .inl tf)), (md, .inr (6, [vm_0, vm_1, vm_2, vm_3, vm_4, vm_5, .ref fr, vm_7, vm_8, vm_9, .ref bt, .int (nI tl), .int (nI ta2_186), .int md_f13_187, .int md_f14_188, .int md_f15_189, .int md_f16_190, .int md_f17_191, vm_18, vm_19, vm_20, vm_21, vm_22, vm_23])), (bt, .inl (cI, 120, .inl bf))] := hD
    obtain ⟨yx_193, ybd_194, yge_195, yri_196⟩ := x_192
    have hbd_197 : ¬ md_f16_190 = 0 := ybd_194 hbd_182
    refine lv_aload_n hx hb dX6_readTube_61 rfl (lv_at hl 3 rfl) ?_
    refine lv_iconst (v := 1) hx hb dX6_readTube_62 (by decide) ?_
    refine lv_bipush (v := 40) hx hb dX6_readTube_63 (by decide) ?_
    refine wt_goI (wr := [(fr, .inl (cI, 45, .inl tf))]) (wt_runV (As := [.int 1, .int 40]) (rest := []) ⟨hx, hb, hml, hown, hts⟩ (c_X6_number_x l D cI cZ cH md bt tl ta2_186 bf md_f13_187 md_f14_188 md_f15_189 md_f16_190 md_f17_191 1 40 _ vm_0 vm_1 vm_2 vm_3 vm_4 vm_5 (.ref fr) vm_7 vm_8 vm_9 vm_18 vm_19 vm_20 vm_21 vm_22 vm_23 (by first | assumption | omega) (by first | assumption | omega) (by first | assumption | omega) (by first | assumption | omega) (by first | assumption | omega) yri_196) (cwV 2 hts gX6_readTube_X6_number rfl rfl rfl (by decide +kernel) ⟨Nat.le_of_ble_eq_true rfl, Nat.le_of_ble_eq_true rfl⟩) hK hP hD [1, 2] rfl (by decide) (va_recv hK.1 hP (ci := 6) (q0 := 1) rfl rfl) rfl hl.1 rfl (Nat.le_of_ble_eq_true rfl) dX6_readTube_65 ⟨Nat.le_of_ble_eq_true rfl, Nat.le_of_ble_eq_true rfl⟩) hP hD hS hA [1, 2] [0] rfl rfl (by decide) (by decide) (fun r_198 w_199 H locs h_200 hP hD hS => ?_)
    obtain ⟨ta2_201, md_f13_202, md_f14_203, md_f15_204, md_f16_205, md_f17_206, rfl, x_207⟩ := h_200
    have hP : va_P D vwCl [(fr, .inl (cI, 45, .inl tf)), (md, .inr (6, [vm_0, vm_1, vm_2, vm_3, vm_4, vm_5, .ref fr, vm_7, vm_8, vm_9, .ref bt, .int (nI tl), .int (nI ta2_201), .int md_f13_202, .int md_f14_203, .int md_f15_204, .int md_f16_205, .int md_f17_206, vm_18, vm_19, vm_20, vm_21, vm_22, vm_23])), (bt, .inl (cI, 120, .inl bf))] H := hP
    have hD : va_D A [(fr, .inl (cI, 45, .inl tf)), (md, .inr (6, [vm_0, vm_1, vm_2, vm_3, vm_4, vm_5, .ref fr, vm_7, vm_8, vm_9, .ref bt, .int (nI tl), .int (nI ta2_201), .int md_f13_202, .int md_f14_203, .int md_f15_204, .int md_f16_205, .int md_f17_206, vm_18, vm_19, vm_20, vm_21, vm_22, vm_23])), (bt, .inl (cI, 120, .inl bf))] := hD
    obtain ⟨⟨v_208, hv_208a, hv_208b, rfl⟩, yx_209, ybd_210, yge_211, yri_212⟩ := x_207
    have hbd_213 : ¬ md_f16_205 = 0 := ybd_210 hbd_197
    refine lv_istore (lv' := [(4, .int (nI v_208)), (3, .int (nI v_177)), (2, .int (nI v_146)), (1, .int (kB s15)), (0, .ref md)]) hx hb dX6_readTube_68 hl (by decide) rfl (fun ls hl => ?_)
    refine lv_aload_n hx hb dX6_readTube_70 rfl (lv_at hl 4 rfl) ?_
    refine lv_bipush (v := 59) hx hb dX6_readTube_71 (by decide) ?_
    refine wt_goV (wr := [(fr, .inl (cI, 45, .inl tf))]) (wt_runV (As := [.int 59]) (rest := []) ⟨hx, hb, hml, hown, hts⟩ (c_X6_mustSign_x l D cI cZ cH md bt tl ta2_201 bf md_f13_202 md_f14_203 md_f15_204 md_f16_205 md_f17_206 59 _ vm_0 vm_1 vm_2 vm_3 vm_4 vm_5 (.ref fr) vm_7 vm_8 vm_9 vm_18 vm_19 vm_20 vm_21 vm_22 vm_23 (by first | assumption | omega) (by first | assumption | omega) (by first | assumption | omega) (by decide) yri_212) (cwV 1 hts gX6_readTube_X6_mustSign rfl rfl rfl (by decide +kernel) ⟨Nat.le_of_ble_eq_true rfl, Nat.le_of_ble_eq_true rfl⟩) hK hP hD [1, 2] rfl (by decide) (va_recv hK.1 hP (ci := 6) (q0 := 1) rfl rfl) rfl hl.1 rfl (Nat.le_of_ble_eq_true rfl) dX6_readTube_73 ⟨Nat.le_of_ble_eq_true rfl, Nat.le_of_ble_eq_true rfl⟩) hP hD hS hA [1, 2] [0] rfl rfl (by decide) (by decide) (fun w_215 H locs h_216 hP hD hS => ?_)
    obtain ⟨ta2_217, md_f13_218, md_f14_219, md_f15_220, md_f16_221, md_f17_222, rfl, x_223⟩ := h_216
    have hP : va_P D vwCl [(fr, .inl (cI, 45, .inl tf)), (md, .inr (6, [vm_0, vm_1, vm_2, vm_3, vm_4, vm_5, .ref fr, vm_7, vm_8, vm_9, .ref bt, .int (nI tl), .int (nI ta2_217), .int md_f13_218, .int md_f14_219, .int md_f15_220, .int md_f16_221, .int md_f17_222, vm_18, vm_19, vm_20, vm_21, vm_22, vm_23])), (bt, .inl (cI, 120, .inl bf))] H := hP
    have hD : va_D A [(fr, .inl (cI, 45, .inl tf)), (md, .inr (6, [vm_0, vm_1, vm_2, vm_3, vm_4, vm_5, .ref fr, vm_7, vm_8, vm_9, .ref bt, .int (nI tl), .int (nI ta2_217), .int md_f13_218, .int md_f14_219, .int md_f15_220, .int md_f16_221, .int md_f17_222, vm_18, vm_19, vm_20, vm_21, vm_22, vm_23])), (bt, .inl (cI, 120, .inl bf))] := hD
    obtain ⟨yx_224, ybd_225, yge_226, yri_227⟩ := x_223
    have hbd_228 : ¬ md_f16_221 = 0 := ybd_225 hbd_213
    refine lv_aload_n hx hb dX6_readTube_76 rfl (lv_at hl 4 rfl) ?_
    refine va_get (D := D) (ci := 6) (v := .int md_f16_221) (C := RX6) (T := TX6) (N := 24) hx hb hts hi6 hown hK.1 hP 1 rfl rfl 16 (by decide) wf78 (fun _ h9 => h9) rfl dX6_readTube_77 ?_
    refine lv_if_ne (tgt := 145) hx hb dX6_readTube_80 (by decide) (fun _ => ?_) (fun h => absurd h hbd_228)
    have hP9 := hP.sub (ws' := [(md, .inr (6, [vm_0, vm_1, vm_2, vm_3, vm_4, vm_5, .ref fr, vm_7, vm_8, vm_9, .ref bt, .int (nI tl), .int (nI ta2_217), .int md_f13_218, .int md_f14_219, .int md_f15_220, .int md_f16_221, .int md_f17_222, vm_18, vm_19, vm_20, vm_21, vm_22, vm_23])), (bt, .inl (cI, 120, .inl bf)), (fr, .inl (cI, 45, .inl tf))]) [1, 2, 0] rfl
    have hD9 := hD.sub (ws' := [(md, .inr (6, [vm_0, vm_1, vm_2, vm_3, vm_4, vm_5, .ref fr, vm_7, vm_8, vm_9, .ref bt, .int (nI tl), .int (nI ta2_217), .int md_f13_218, .int md_f14_219, .int md_f15_220, .int md_f16_221, .int md_f17_222, vm_18, vm_19, vm_20, vm_21, vm_22, vm_23])), (bt, .inl (cI, 120, .inl bf)), (fr, .inl (cI, 45, .inl tf))]) [1, 2, 0] (by decide) rfl
    exact wt_vret hx hb hr hlocks hP9 hD9 hS ⟨tf, ta2_217, md_f13_218, md_f14_219, md_f15_220, md_f16_221, md_f17_222, rfl, ⟨T, by omega, by omega, hrk, by omega, yge_226, fun h => absurd h hbd_228, fun h => absurd h hbd_228, fun _ => ⟨rfl, rfl⟩, ri_eq (tuS_6 (by omega)) yri_227⟩⟩ dX6_readTube_145

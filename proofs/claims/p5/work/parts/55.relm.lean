theorem ng_gt {x : Int32} (h : ¬ x ≤ 0) : 0 < x := by
  rw [Int32.le_iff_toInt_le] at h
  rw [Int32.lt_iff_toInt_lt]
  omega
set_option maxHeartbeats 4000000 in
set_option maxRecDepth 100000 in
theorem c_X6_feed_x (l : Launch) (D : va_G) (cI cZ cH : ClassId) (md bt : Nat) (tl : Nat) (bf : Nat → Int32) (a1 : Int32) (vm_0 vm_1 vm_2 vm_3 vm_4 vm_5 vm_6 vm_7 vm_8 vm_9 vm_12 vm_13 vm_14 vm_15 vm_16 vm_17 vm_18 vm_19 vm_20 vm_21 vm_22 vm_23 : Value) (htl : tl ≤ 120) : wt_M l yX6_feed wsX6_feed ({ frames := 1, cells := 0, slots := 0, locals := 25 } : Room) D (wt_T cI cZ cH) [.ref md, .int a1] [(md, .inr (6, [vm_0, vm_1, vm_2, vm_3, vm_4, vm_5, vm_6, vm_7, vm_8, vm_9, .ref bt, .int (nI tl), vm_12, vm_13, vm_14, vm_15, vm_16, vm_17, vm_18, vm_19, vm_20, vm_21, vm_22, vm_23])), (bt, .inl (cI, 120, .inl bf))] (wt_QI D (fun r w => ∃ (bf2 : Nat → Int32) (tl2 : Nat), w = [(md, .inr (6, [.int 0, vm_1, vm_2, vm_3, vm_4, vm_5, vm_6, vm_7, vm_8, vm_9, .ref bt, .int (nI tl2), vm_12, vm_13, vm_14, vm_15, vm_16, vm_17, vm_18, vm_19, vm_20, vm_21, vm_22, vm_23])), (bt, .inl (cI, 120, .inl bf2))] ∧ r = fdA a1 tl ∧ tl2 = fdT a1 tl ∧ bf2 = fdB a1 tl bf ∧ tl2 ≤ 120)) := by
  refine wt_M.ofW (cc := cX6_feed) (maxL := 2) (ret := (some .int)) (by decide) rfl (Nat.le_of_ble_eq_true rfl) ?_
  intro p e s m below meth c A ls hx hb hr hts hown hlocks hml hnm hP hK hD hA hS hl
  have hP : va_P D vwCl [(md, .inr (6, [vm_0, vm_1, vm_2, vm_3, vm_4, vm_5, vm_6, vm_7, vm_8, vm_9, .ref bt, .int (nI tl), vm_12, vm_13, vm_14, vm_15, vm_16, vm_17, vm_18, vm_19, vm_20, vm_21, vm_22, vm_23])), (bt, .inl (cI, 120, .inl bf))] s.heap := hP
  have hown : s.vm.findClass RX6 = some m.cls := hown
  have hl : lv_has ls 2 [(0, .ref md), (1, .int a1)] := hl
  have hi6 : ∀ w ∈ u_ws RX6 TX6 24, w ∈ wsX6_feed := by decide +kernel
  have wc67 := hts (.constant RX6 67 (-1000001)) (by decide +kernel)
  have wc77 := hts (.constant RX6 77 (-1000003)) (by decide +kernel)
  have wf31 := hts (.fieldLink RX6 31 "WarmTubesModel" "tape" "[I") (by decide +kernel)
  have wf47 := hts (.fieldLink RX6 47 "WarmTubesModel" "thrown" "I") (by decide +kernel)
  have wf74 := hts (.fieldLink RX6 74 "WarmTubesModel" "taped" "I") (by decide +kernel)
  have wl72 := hts (.constantLong RX6 72 (255)) (by decide +kernel)
  refine lv_aload_n hx hb dX6_feed_0 rfl (lv_at hl 0 rfl) ?_
  refine lv_iconst (v := 0) hx hb dX6_feed_1 (by decide) ?_
  refine va_put (D := D) (ci := 6) (v := .int 0) (ty := .int) (C := RX6) (T := TX6) (N := 24) hx hb hts hi6 tyX6 tyX6_ok nmX6 hown hK.1 hP hD hS 0 rfl rfl 0 (by decide) wf47 (fun _ h9 => h9) rfl (by decide +kernel) rfl rfl (Nat.le_of_ble_eq_true rfl) dX6_feed_2 (fun H locs hP hD hS => ?_)
  have hP : va_P D vwCl [(md, .inr (6, [.int 0, vm_1, vm_2, vm_3, vm_4, vm_5, vm_6, vm_7, vm_8, vm_9, .ref bt, .int (nI tl), vm_12, vm_13, vm_14, vm_15, vm_16, vm_17, vm_18, vm_19, vm_20, vm_21, vm_22, vm_23])), (bt, .inl (cI, 120, .inl bf))] H := hP
  have hD : va_D A [(md, .inr (6, [.int 0, vm_1, vm_2, vm_3, vm_4, vm_5, vm_6, vm_7, vm_8, vm_9, .ref bt, .int (nI tl), vm_12, vm_13, vm_14, vm_15, vm_16, vm_17, vm_18, vm_19, vm_20, vm_21, vm_22, vm_23])), (bt, .inl (cI, 120, .inl bf))] := hD
  refine lv_iload_n hx hb dX6_feed_5 rfl (lv_at hl 1 rfl) ?_
  refine lv_i2l hx hb dX6_feed_6 rfl ?_
  refine lv_lconst (v := 0) hx hb dX6_feed_7 (by decide) ?_
  refine lv_ldc2 hx hb hown wl72 dX6_feed_8 ?_
  refine wt_rS (As := [.long a1.toInt64, .long 0, .long 255]) (rest := []) ⟨hx, hb, hml, hown, hts⟩ (c_X6_in l D cI cZ cH a1.toInt64 0 255) (va_cwS 3 hts gX6_feed_X6_in rfl rfl rfl (by decide +kernel) ⟨Nat.le_of_ble_eq_true rfl, Nat.le_of_ble_eq_true rfl⟩) hK hP [] rfl rfl hl.1 rfl (Nat.le_of_ble_eq_true rfl) dX6_feed_11 ⟨Nat.le_of_ble_eq_true rfl, Nat.le_of_ble_eq_true rfl⟩ (fun r_1 e_2 => ?_)
  subst e_2
  refine wt_top (z := wI a1 0 255) (wL_I' (by decide) (by decide)) ?_
  refine lv_if_ne (tgt := 20) hx hb dX6_feed_14 (by decide) (fun c_3 => ?_) (fun c_3 => ?_)
  · skip
    obtain ⟨j_4, hj_4, hj_4b, rfl⟩ := wI_nat (a := 0) (b := 255) (by omega) (by omega) c_3
    refine lv_aload_n hx hb dX6_feed_20 rfl (lv_at hl 0 rfl) ?_
    refine va_get (D := D) (ci := 6) (v := .int (nI tl)) (C := RX6) (T := TX6) (N := 24) hx hb hts hi6 hown hK.1 hP 0 rfl rfl 11 (by decide) wf74 (fun _ h9 => h9) rfl dX6_feed_21 ?_
    refine lv_bipush (v := 120) hx hb dX6_feed_24 (by decide) ?_
    refine lv_icmp_ne (tgt := 32) hx hb dX6_feed_26 (by decide) (fun c_5 => ?_) (fun c_5 => ?_)
    · skip
      have c_5 : ¬ (tl = 120) := fun h => c_5 ((nI_eq (a := tl) (b := 120) (by omega) (by omega)).mpr h)
      refine lv_aload_n hx hb dX6_feed_32 rfl (lv_at hl 0 rfl) ?_
      refine va_get (D := D) (ci := 6) (v := .ref bt) (C := RX6) (T := TX6) (N := 24) hx hb hts hi6 hown hK.1 hP 0 rfl rfl 10 (by decide) wf31 (fun _ h9 => h9) rfl dX6_feed_33 ?_
      refine lv_aload_n hx hb dX6_feed_36 rfl (lv_at hl 0 rfl) ?_
      refine va_get (D := D) (ci := 6) (v := .int (nI tl)) (C := RX6) (T := TX6) (N := 24) hx hb hts hi6 hown hK.1 hP 0 rfl rfl 11 (by decide) wf74 (fun _ h9 => h9) rfl dX6_feed_37 ?_
      refine lv_iload_n hx hb dX6_feed_40 rfl (lv_at hl 1 rfl) ?_
      refine va_iast hx hb hK.1 hP hD hS 1 0 rfl rfl (vp_in_nI (by omega) (by omega)) dX6_feed_41 (fun H locs hP hD hS => ?_)
      have hP : va_P D vwCl [(md, .inr (6, [.int 0, vm_1, vm_2, vm_3, vm_4, vm_5, vm_6, vm_7, vm_8, vm_9, .ref bt, .int (nI tl), vm_12, vm_13, vm_14, vm_15, vm_16, vm_17, vm_18, vm_19, vm_20, vm_21, vm_22, vm_23])), (bt, .inl (cI, 120, .inl (upd bf ((nI tl).toNatClampNeg) (nI j_4))))] H := hP
      have hD : va_D A [(md, .inr (6, [.int 0, vm_1, vm_2, vm_3, vm_4, vm_5, vm_6, vm_7, vm_8, vm_9, .ref bt, .int (nI tl), vm_12, vm_13, vm_14, vm_15, vm_16, vm_17, vm_18, vm_19, vm_20, vm_21, vm_22, vm_23])), (bt, .inl (cI, 120, .inl (upd bf ((nI tl).toNatClampNeg) (nI j_4))))] := hD
      rw [nI_clamp (n := tl) (by omega)] at hP hD
      have hP : va_P D vwCl [(md, .inr (6, [.int 0, vm_1, vm_2, vm_3, vm_4, vm_5, vm_6, vm_7, vm_8, vm_9, .ref bt, .int (nI tl), vm_12, vm_13, vm_14, vm_15, vm_16, vm_17, vm_18, vm_19, vm_20, vm_21, vm_22, vm_23])), (bt, .inl (cI, 120, .inl (upd bf tl (nI j_4))))] H := hP
      have hD : va_D A [(md, .inr (6, [.int 0, vm_1, vm_2, vm_3, vm_4, vm_5, vm_6, vm_7, vm_8, vm_9, .ref bt, .int (nI tl), vm_12, vm_13, vm_14, vm_15, vm_16, vm_17, vm_18, vm_19, vm_20, vm_21, vm_22, vm_23])), (bt, .inl (cI, 120, .inl (upd bf tl (nI j_4))))] := hD
      refine lv_aload_n hx hb dX6_feed_42 rfl (lv_at hl 0 rfl) ?_
      refine lv_dup hx hb dX6_feed_43 rfl ?_
      refine va_get (D := D) (ci := 6) (v := .int (nI tl)) (C := RX6) (T := TX6) (N := 24) hx hb hts hi6 hown hK.1 hP 0 rfl rfl 11 (by decide) wf74 (fun _ h9 => h9) rfl dX6_feed_44 ?_
      refine lv_iconst (v := 1) hx hb dX6_feed_47 (by decide) ?_
      refine lv_iadd hx hb dX6_feed_48 ?_
      refine wt_top (z := nI (tl + 1)) (nI_add tl 1) ?_
      refine va_put (D := D) (ci := 6) (v := .int (nI (tl + 1))) (ty := .int) (C := RX6) (T := TX6) (N := 24) hx hb hts hi6 tyX6 tyX6_ok nmX6 hown hK.1 hP hD hS 0 rfl rfl 11 (by decide) wf74 (fun _ h9 => h9) rfl (by decide +kernel) rfl rfl (Nat.le_of_ble_eq_true rfl) dX6_feed_49 (fun H locs hP hD hS => ?_)
      have hP : va_P D vwCl [(md, .inr (6, [.int 0, vm_1, vm_2, vm_3, vm_4, vm_5, vm_6, vm_7, vm_8, vm_9, .ref bt, .int (nI (tl + 1)), vm_12, vm_13, vm_14, vm_15, vm_16, vm_17, vm_18, vm_19, vm_20, vm_21, vm_22, vm_23])), (bt, .inl (cI, 120, .inl (upd bf tl (nI j_4))))] H := hP
      have hD : va_D A [(md, .inr (6, [.int 0, vm_1, vm_2, vm_3, vm_4, vm_5, vm_6, vm_7, vm_8, vm_9, .ref bt, .int (nI (tl + 1)), vm_12, vm_13, vm_14, vm_15, vm_16, vm_17, vm_18, vm_19, vm_20, vm_21, vm_22, vm_23])), (bt, .inl (cI, 120, .inl (upd bf tl (nI j_4))))] := hD
      refine lv_aload_n hx hb dX6_feed_52 rfl (lv_at hl 0 rfl) ?_
      refine va_get (D := D) (ci := 6) (v := .int (nI (tl + 1))) (C := RX6) (T := TX6) (N := 24) hx hb hts hi6 hown hK.1 hP 0 rfl rfl 11 (by decide) wf74 (fun _ h9 => h9) rfl dX6_feed_53 ?_
      have hP9 := hP.sub (ws' := [(md, .inr (6, [.int 0, vm_1, vm_2, vm_3, vm_4, vm_5, vm_6, vm_7, vm_8, vm_9, .ref bt, .int (nI (tl + 1)), vm_12, vm_13, vm_14, vm_15, vm_16, vm_17, vm_18, vm_19, vm_20, vm_21, vm_22, vm_23])), (bt, .inl (cI, 120, .inl (upd bf tl (nI j_4))))]) [0, 1] rfl
      have hD9 := hD.sub (ws' := [(md, .inr (6, [.int 0, vm_1, vm_2, vm_3, vm_4, vm_5, vm_6, vm_7, vm_8, vm_9, .ref bt, .int (nI (tl + 1)), vm_12, vm_13, vm_14, vm_15, vm_16, vm_17, vm_18, vm_19, vm_20, vm_21, vm_22, vm_23])), (bt, .inl (cI, 120, .inl (upd bf tl (nI j_4))))]) [0, 1] (by decide) rfl
      exact wt_iret hx hb hr hlocks hP9 hD9 hS ⟨(upd bf tl (nI j_4)), (tl + 1), rfl, (by exact (fd_2 (f := bf) c_3 (by omega)).1.symm), ⟨(fd_2 (f := bf) c_3 (by omega)).2.1.symm, (fd_2 (f := bf) c_3 (by omega)).2.2.symm, by omega⟩⟩ dX6_feed_56
    · skip
      have c_5 : tl = 120 := (nI_eq (a := tl) (b := 120) (by omega) (by omega)).mp c_5
      refine lv_ldc hx hb hown wc77 dX6_feed_29 ?_
      have hP9 := hP.sub (ws' := [(md, .inr (6, [.int 0, vm_1, vm_2, vm_3, vm_4, vm_5, vm_6, vm_7, vm_8, vm_9, .ref bt, .int (nI tl), vm_12, vm_13, vm_14, vm_15, vm_16, vm_17, vm_18, vm_19, vm_20, vm_21, vm_22, vm_23])), (bt, .inl (cI, 120, .inl bf))]) [0, 1] rfl
      have hD9 := hD.sub (ws' := [(md, .inr (6, [.int 0, vm_1, vm_2, vm_3, vm_4, vm_5, vm_6, vm_7, vm_8, vm_9, .ref bt, .int (nI tl), vm_12, vm_13, vm_14, vm_15, vm_16, vm_17, vm_18, vm_19, vm_20, vm_21, vm_22, vm_23])), (bt, .inl (cI, 120, .inl bf))]) [0, 1] (by decide) rfl
      exact wt_iret hx hb hr hlocks hP9 hD9 hS ⟨bf, tl, rfl, (by exact (fd_1 (f := bf) c_3 (by omega)).1.symm), ⟨(fd_1 (f := bf) c_3 (by omega)).2.1.symm, (fd_1 (f := bf) c_3 (by omega)).2.2.symm, by omega⟩⟩ dX6_feed_31
  · skip
    refine lv_ldc hx hb hown wc67 dX6_feed_17 ?_
    have hP9 := hP.sub (ws' := [(md, .inr (6, [.int 0, vm_1, vm_2, vm_3, vm_4, vm_5, vm_6, vm_7, vm_8, vm_9, .ref bt, .int (nI tl), vm_12, vm_13, vm_14, vm_15, vm_16, vm_17, vm_18, vm_19, vm_20, vm_21, vm_22, vm_23])), (bt, .inl (cI, 120, .inl bf))]) [0, 1] rfl
    have hD9 := hD.sub (ws' := [(md, .inr (6, [.int 0, vm_1, vm_2, vm_3, vm_4, vm_5, vm_6, vm_7, vm_8, vm_9, .ref bt, .int (nI tl), vm_12, vm_13, vm_14, vm_15, vm_16, vm_17, vm_18, vm_19, vm_20, vm_21, vm_22, vm_23])), (bt, .inl (cI, 120, .inl bf))]) [0, 1] (by decide) rfl
    exact wt_iret hx hb hr hlocks hP9 hD9 hS ⟨bf, tl, rfl, (by exact (fd_0 (f := bf) c_3).1.symm), ⟨(fd_0 (f := bf) c_3).2.1.symm, (fd_0 (f := bf) c_3).2.2.symm, by omega⟩⟩ dX6_feed_19
set_option maxHeartbeats 4000000 in
set_option maxRecDepth 100000 in
theorem c_X6_row_x (l : Launch) (D : va_G) (cI cZ cH : ClassId) (md : Nat) (ln mn it : Nat) (lf sf tf : Nat → Int32) (sv : Int32) (a1 a2 a3 : Int32) (vm_0 vm_5 vm_6 vm_7 vm_8 vm_9 vm_10 vm_11 vm_12 vm_13 vm_14 vm_15 vm_16 vm_17 vm_18 vm_19 vm_20 vm_21 vm_22 vm_23 : Value) (hs8 : hw 40 8 sf) (hlq : lq lf) : wt_M l yX6_row wsX6_row ({ frames := 2, cells := 0, slots := 0, locals := 45 } : Room) D (wt_T cI cZ cH) [.ref md, .int a1, .int a2, .int a3] [(md, .inr (6, [vm_0, .int sv, .ref ln, .ref mn, .ref it, vm_5, vm_6, vm_7, vm_8, vm_9, vm_10, vm_11, vm_12, vm_13, vm_14, vm_15, vm_16, vm_17, vm_18, vm_19, vm_20, vm_21, vm_22, vm_23])), (ln, .inl (cI, 8, .inl lf)), (mn, .inl (cI, 8, .inl sf)), (it, .inl (cI, 320, .inl tf))] (wt_QI D (fun r w => ∃ (lf2 sf2 tf2 : Nat → Int32) (md_f1 : Int32), w = [(md, .inr (6, [.int 0, .int md_f1, .ref ln, .ref mn, .ref it, vm_5, vm_6, vm_7, vm_8, vm_9, vm_10, vm_11, vm_12, vm_13, vm_14, vm_15, vm_16, vm_17, vm_18, vm_19, vm_20, vm_21, vm_22, vm_23])), (ln, .inl (cI, 8, .inl lf2)), (mn, .inl (cI, 8, .inl sf2)), (it, .inl (cI, 320, .inl tf2))] ∧ r = fA (rowF a1 a2 a3) a3 ∧ lf2 = rowL lf a1 a2 a3 ∧ sf2 = rowS sf a1 a2 a3 ∧ hw 40 8 sf2 ∧ md_f1 = fQ (rowF a1 a2 a3) sv)) := by
  refine wt_M.ofW (cc := cX6_row) (maxL := 5) (ret := (some .int)) (by decide) rfl (Nat.le_of_ble_eq_true rfl) ?_
  intro p e s m below meth c A ls hx hb hr hts hown hlocks hml hnm hP hK hD hA hS hl
  have hP : va_P D vwCl [(md, .inr (6, [vm_0, .int sv, .ref ln, .ref mn, .ref it, vm_5, vm_6, vm_7, vm_8, vm_9, vm_10, vm_11, vm_12, vm_13, vm_14, vm_15, vm_16, vm_17, vm_18, vm_19, vm_20, vm_21, vm_22, vm_23])), (ln, .inl (cI, 8, .inl lf)), (mn, .inl (cI, 8, .inl sf)), (it, .inl (cI, 320, .inl tf))] s.heap := hP
  have hown : s.vm.findClass RX6 = some m.cls := hown
  have hl : lv_has ls 5 [(0, .ref md), (1, .int a1), (2, .int a2), (3, .int a3)] := hl
  have hi6 : ∀ w ∈ u_ws RX6 TX6 24, w ∈ wsX6_row := by decide +kernel
  have wc67 := hts (.constant RX6 67 (-1000001)) (by decide +kernel)
  have wf13 := hts (.fieldLink RX6 13 "WarmTubesModel" "many" "[I") (by decide +kernel)
  have wf16 := hts (.fieldLink RX6 16 "WarmTubesModel" "item" "[I") (by decide +kernel)
  have wf47 := hts (.fieldLink RX6 47 "WarmTubesModel" "thrown" "I") (by decide +kernel)
  have wf51 := hts (.fieldLink RX6 51 "WarmTubesModel" "status" "I") (by decide +kernel)
  have wf7 := hts (.fieldLink RX6 7 "WarmTubesModel" "lane" "[I") (by decide +kernel)
  have wl65 := hts (.constantLong RX6 65 (2)) (by decide +kernel)
  refine lv_aload_n hx hb dX6_row_0 rfl (lv_at hl 0 rfl) ?_
  refine lv_iconst (v := 0) hx hb dX6_row_1 (by decide) ?_
  refine va_put (D := D) (ci := 6) (v := .int 0) (ty := .int) (C := RX6) (T := TX6) (N := 24) hx hb hts hi6 tyX6 tyX6_ok nmX6 hown hK.1 hP hD hS 0 rfl rfl 0 (by decide) wf47 (fun _ h9 => h9) rfl (by decide +kernel) rfl rfl (Nat.le_of_ble_eq_true rfl) dX6_row_2 (fun H locs hP hD hS => ?_)
  have hP : va_P D vwCl [(md, .inr (6, [.int 0, .int sv, .ref ln, .ref mn, .ref it, vm_5, vm_6, vm_7, vm_8, vm_9, vm_10, vm_11, vm_12, vm_13, vm_14, vm_15, vm_16, vm_17, vm_18, vm_19, vm_20, vm_21, vm_22, vm_23])), (ln, .inl (cI, 8, .inl lf)), (mn, .inl (cI, 8, .inl sf)), (it, .inl (cI, 320, .inl tf))] H := hP
  have hD : va_D A [(md, .inr (6, [.int 0, .int sv, .ref ln, .ref mn, .ref it, vm_5, vm_6, vm_7, vm_8, vm_9, vm_10, vm_11, vm_12, vm_13, vm_14, vm_15, vm_16, vm_17, vm_18, vm_19, vm_20, vm_21, vm_22, vm_23])), (ln, .inl (cI, 8, .inl lf)), (mn, .inl (cI, 8, .inl sf)), (it, .inl (cI, 320, .inl tf))] := hD
  refine lv_iload_n hx hb dX6_row_5 rfl (lv_at hl 1 rfl) ?_
  refine wt_rS (As := [.int a1]) (rest := []) ⟨hx, hb, hml, hown, hts⟩ (c_X6_isRow l D cI cZ cH a1) (va_cwS 1 hts gX6_row_X6_isRow rfl rfl rfl (by decide +kernel) ⟨Nat.le_of_ble_eq_true rfl, Nat.le_of_ble_eq_true rfl⟩) hK hP [] rfl rfl hl.1 rfl (Nat.le_of_ble_eq_true rfl) dX6_row_6 ⟨Nat.le_of_ble_eq_true rfl, Nat.le_of_ble_eq_true rfl⟩ (fun r_1 e_2 => ?_)
  subst e_2
  refine lv_if_eq (tgt := 30) hx hb dX6_row_9 (by decide) (fun c_3 => ?_) (fun c_3 => ?_)
  · skip
    refine lv_ldc hx hb hown wc67 dX6_row_30 ?_
    have hP9 := hP.sub (ws' := [(md, .inr (6, [.int 0, .int sv, .ref ln, .ref mn, .ref it, vm_5, vm_6, vm_7, vm_8, vm_9, vm_10, vm_11, vm_12, vm_13, vm_14, vm_15, vm_16, vm_17, vm_18, vm_19, vm_20, vm_21, vm_22, vm_23])), (ln, .inl (cI, 8, .inl lf)), (mn, .inl (cI, 8, .inl sf)), (it, .inl (cI, 320, .inl tf))]) [0, 1, 2, 3] rfl
    have hD9 := hD.sub (ws' := [(md, .inr (6, [.int 0, .int sv, .ref ln, .ref mn, .ref it, vm_5, vm_6, vm_7, vm_8, vm_9, vm_10, vm_11, vm_12, vm_13, vm_14, vm_15, vm_16, vm_17, vm_18, vm_19, vm_20, vm_21, vm_22, vm_23])), (ln, .inl (cI, 8, .inl lf)), (mn, .inl (cI, 8, .inl sf)), (it, .inl (cI, 320, .inl tf))]) [0, 1, 2, 3] (by decide) rfl
    exact wt_iret hx hb hr hlocks hP9 hD9 hS ⟨lf, sf, tf, sv, rfl, (by exact (fA_b (rowF_a (b := a2) (c := a3) c_3) _).symm), ⟨rowL_n (rowF_a (b := a2) (c := a3) c_3) (by decide), rowS_n (rowF_a (b := a2) (c := a3) c_3) (by decide), hs8, (fQ_b (rowF_a (b := a2) (c := a3) c_3) sv).symm⟩⟩ dX6_row_32
  · skip
    obtain ⟨j_4, hj_4, hj_4b, rfl⟩ := wI_nat (a := 0) (b := 7) (by omega) (by omega) c_3
    refine lv_iload_n hx hb dX6_row_12 rfl (lv_at hl 2 rfl) ?_
    refine lv_i2l hx hb dX6_row_13 rfl ?_
    refine lv_lconst (v := 0) hx hb dX6_row_14 (by decide) ?_
    refine lv_ldc2 hx hb hown wl65 dX6_row_15 ?_
    refine wt_rS (As := [.long a2.toInt64, .long 0, .long 2]) (rest := []) ⟨hx, hb, hml, hown, hts⟩ (c_X6_in l D cI cZ cH a2.toInt64 0 2) (va_cwS 3 hts gX6_row_X6_in rfl rfl rfl (by decide +kernel) ⟨Nat.le_of_ble_eq_true rfl, Nat.le_of_ble_eq_true rfl⟩) hK hP [] rfl rfl hl.1 rfl (Nat.le_of_ble_eq_true rfl) dX6_row_18 ⟨Nat.le_of_ble_eq_true rfl, Nat.le_of_ble_eq_true rfl⟩ (fun r_5 e_6 => ?_)
    subst e_6
    refine wt_top (z := wI a2 0 2) (wL_I' (by decide) (by decide)) ?_
    refine lv_if_eq (tgt := 30) hx hb dX6_row_21 (by decide) (fun c_7 => ?_) (fun c_7 => ?_)
    · skip
      refine lv_ldc hx hb hown wc67 dX6_row_30 ?_
      have hP9 := hP.sub (ws' := [(md, .inr (6, [.int 0, .int sv, .ref ln, .ref mn, .ref it, vm_5, vm_6, vm_7, vm_8, vm_9, vm_10, vm_11, vm_12, vm_13, vm_14, vm_15, vm_16, vm_17, vm_18, vm_19, vm_20, vm_21, vm_22, vm_23])), (ln, .inl (cI, 8, .inl lf)), (mn, .inl (cI, 8, .inl sf)), (it, .inl (cI, 320, .inl tf))]) [0, 1, 2, 3] rfl
      have hD9 := hD.sub (ws' := [(md, .inr (6, [.int 0, .int sv, .ref ln, .ref mn, .ref it, vm_5, vm_6, vm_7, vm_8, vm_9, vm_10, vm_11, vm_12, vm_13, vm_14, vm_15, vm_16, vm_17, vm_18, vm_19, vm_20, vm_21, vm_22, vm_23])), (ln, .inl (cI, 8, .inl lf)), (mn, .inl (cI, 8, .inl sf)), (it, .inl (cI, 320, .inl tf))]) [0, 1, 2, 3] (by decide) rfl
      exact wt_iret hx hb hr hlocks hP9 hD9 hS ⟨lf, sf, tf, sv, rfl, (by exact (fA_b (rowF_b (c := a3) c_3 c_7) _).symm), ⟨rowL_n (rowF_b (c := a3) c_3 c_7) (by decide), rowS_n (rowF_b (c := a3) c_3 c_7) (by decide), hs8, (fQ_b (rowF_b (c := a3) c_3 c_7) sv).symm⟩⟩ dX6_row_32
    · skip
      obtain ⟨j_8, hj_8, hj_8b, rfl⟩ := wI_nat (a := 0) (b := 2) (by omega) (by omega) c_7
      refine lv_iload_n hx hb dX6_row_24 rfl (lv_at hl 3 rfl) ?_
      refine lv_bipush (v := 40) hx hb dX6_row_25 (by decide) ?_
      refine lv_icmp_le (tgt := 33) hx hb dX6_row_27 (by decide) (fun c_9 => ?_) (fun c_9 => ?_)
      · skip
        refine lv_aload_n hx hb dX6_row_33 rfl (lv_at hl 0 rfl) ?_
        refine lv_iconst (v := 0) hx hb dX6_row_34 (by decide) ?_
        refine va_put (D := D) (ci := 6) (v := .int 0) (ty := .int) (C := RX6) (T := TX6) (N := 24) hx hb hts hi6 tyX6 tyX6_ok nmX6 hown hK.1 hP hD hS 0 rfl rfl 1 (by decide) wf51 (fun _ h9 => h9) rfl (by decide +kernel) rfl rfl (Nat.le_of_ble_eq_true rfl) dX6_row_35 (fun H locs hP hD hS => ?_)
        have hP : va_P D vwCl [(md, .inr (6, [.int 0, .int 0, .ref ln, .ref mn, .ref it, vm_5, vm_6, vm_7, vm_8, vm_9, vm_10, vm_11, vm_12, vm_13, vm_14, vm_15, vm_16, vm_17, vm_18, vm_19, vm_20, vm_21, vm_22, vm_23])), (ln, .inl (cI, 8, .inl lf)), (mn, .inl (cI, 8, .inl sf)), (it, .inl (cI, 320, .inl tf))] H := hP
        have hD : va_D A [(md, .inr (6, [.int 0, .int 0, .ref ln, .ref mn, .ref it, vm_5, vm_6, vm_7, vm_8, vm_9, vm_10, vm_11, vm_12, vm_13, vm_14, vm_15, vm_16, vm_17, vm_18, vm_19, vm_20, vm_21, vm_22, vm_23])), (ln, .inl (cI, 8, .inl lf)), (mn, .inl (cI, 8, .inl sf)), (it, .inl (cI, 320, .inl tf))] := hD
        refine lv_iload_n hx hb dX6_row_38 rfl (lv_at hl 3 rfl) ?_
        refine lv_if_ge (tgt := 48) hx hb dX6_row_39 (by decide) (fun c_10 => ?_) (fun c_10 => ?_)
        · skip
          obtain ⟨k3, hk3, rfl⟩ := nI_of2 (M := 40) (n := 40) rfl (wt_nlt c_10) c_9
          refine lv_aload_n hx hb dX6_row_48 rfl (lv_at hl 0 rfl) ?_
          refine va_get (D := D) (ci := 6) (v := .ref ln) (C := RX6) (T := TX6) (N := 24) hx hb hts hi6 hown hK.1 hP 0 rfl rfl 2 (by decide) wf7 (fun _ h9 => h9) rfl dX6_row_49 ?_
          refine lv_iload_n hx hb dX6_row_52 rfl (lv_at hl 1 rfl) ?_
          refine lv_iload_n hx hb dX6_row_53 rfl (lv_at hl 2 rfl) ?_
          refine va_iast hx hb hK.1 hP hD hS 1 0 rfl rfl (vp_in_nI (by omega) (by omega)) dX6_row_54 (fun H locs hP hD hS => ?_)
          have hP : va_P D vwCl [(md, .inr (6, [.int 0, .int 0, .ref ln, .ref mn, .ref it, vm_5, vm_6, vm_7, vm_8, vm_9, vm_10, vm_11, vm_12, vm_13, vm_14, vm_15, vm_16, vm_17, vm_18, vm_19, vm_20, vm_21, vm_22, vm_23])), (ln, .inl (cI, 8, .inl (upd lf ((nI j_4).toNatClampNeg) (nI j_8)))), (mn, .inl (cI, 8, .inl sf)), (it, .inl (cI, 320, .inl tf))] H := hP
          have hD : va_D A [(md, .inr (6, [.int 0, .int 0, .ref ln, .ref mn, .ref it, vm_5, vm_6, vm_7, vm_8, vm_9, vm_10, vm_11, vm_12, vm_13, vm_14, vm_15, vm_16, vm_17, vm_18, vm_19, vm_20, vm_21, vm_22, vm_23])), (ln, .inl (cI, 8, .inl (upd lf ((nI j_4).toNatClampNeg) (nI j_8)))), (mn, .inl (cI, 8, .inl sf)), (it, .inl (cI, 320, .inl tf))] := hD
          rw [nI_clamp (n := j_4) (by omega)] at hP hD
          have hP : va_P D vwCl [(md, .inr (6, [.int 0, .int 0, .ref ln, .ref mn, .ref it, vm_5, vm_6, vm_7, vm_8, vm_9, vm_10, vm_11, vm_12, vm_13, vm_14, vm_15, vm_16, vm_17, vm_18, vm_19, vm_20, vm_21, vm_22, vm_23])), (ln, .inl (cI, 8, .inl (upd lf j_4 (nI j_8)))), (mn, .inl (cI, 8, .inl sf)), (it, .inl (cI, 320, .inl tf))] H := hP
          have hD : va_D A [(md, .inr (6, [.int 0, .int 0, .ref ln, .ref mn, .ref it, vm_5, vm_6, vm_7, vm_8, vm_9, vm_10, vm_11, vm_12, vm_13, vm_14, vm_15, vm_16, vm_17, vm_18, vm_19, vm_20, vm_21, vm_22, vm_23])), (ln, .inl (cI, 8, .inl (upd lf j_4 (nI j_8)))), (mn, .inl (cI, 8, .inl sf)), (it, .inl (cI, 320, .inl tf))] := hD
          refine lv_aload_n hx hb dX6_row_55 rfl (lv_at hl 0 rfl) ?_
          refine va_get (D := D) (ci := 6) (v := .ref mn) (C := RX6) (T := TX6) (N := 24) hx hb hts hi6 hown hK.1 hP 0 rfl rfl 3 (by decide) wf13 (fun _ h9 => h9) rfl dX6_row_56 ?_
          refine lv_iload_n hx hb dX6_row_59 rfl (lv_at hl 1 rfl) ?_
          refine lv_iload_n hx hb dX6_row_60 rfl (lv_at hl 3 rfl) ?_
          refine va_iast hx hb hK.1 hP hD hS 2 0 rfl rfl (vp_in_nI (by omega) (by omega)) dX6_row_61 (fun H locs hP hD hS => ?_)
          have hP : va_P D vwCl [(md, .inr (6, [.int 0, .int 0, .ref ln, .ref mn, .ref it, vm_5, vm_6, vm_7, vm_8, vm_9, vm_10, vm_11, vm_12, vm_13, vm_14, vm_15, vm_16, vm_17, vm_18, vm_19, vm_20, vm_21, vm_22, vm_23])), (ln, .inl (cI, 8, .inl (upd lf j_4 (nI j_8)))), (mn, .inl (cI, 8, .inl (upd sf ((nI j_4).toNatClampNeg) (nI k3)))), (it, .inl (cI, 320, .inl tf))] H := hP
          have hD : va_D A [(md, .inr (6, [.int 0, .int 0, .ref ln, .ref mn, .ref it, vm_5, vm_6, vm_7, vm_8, vm_9, vm_10, vm_11, vm_12, vm_13, vm_14, vm_15, vm_16, vm_17, vm_18, vm_19, vm_20, vm_21, vm_22, vm_23])), (ln, .inl (cI, 8, .inl (upd lf j_4 (nI j_8)))), (mn, .inl (cI, 8, .inl (upd sf ((nI j_4).toNatClampNeg) (nI k3)))), (it, .inl (cI, 320, .inl tf))] := hD
          rw [nI_clamp (n := j_4) (by omega)] at hP hD
          have hP : va_P D vwCl [(md, .inr (6, [.int 0, .int 0, .ref ln, .ref mn, .ref it, vm_5, vm_6, vm_7, vm_8, vm_9, vm_10, vm_11, vm_12, vm_13, vm_14, vm_15, vm_16, vm_17, vm_18, vm_19, vm_20, vm_21, vm_22, vm_23])), (ln, .inl (cI, 8, .inl (upd lf j_4 (nI j_8)))), (mn, .inl (cI, 8, .inl (upd sf j_4 (nI k3)))), (it, .inl (cI, 320, .inl tf))] H := hP
          have hD : va_D A [(md, .inr (6, [.int 0, .int 0, .ref ln, .ref mn, .ref it, vm_5, vm_6, vm_7, vm_8, vm_9, vm_10, vm_11, vm_12, vm_13, vm_14, vm_15, vm_16, vm_17, vm_18, vm_19, vm_20, vm_21, vm_22, vm_23])), (ln, .inl (cI, 8, .inl (upd lf j_4 (nI j_8)))), (mn, .inl (cI, 8, .inl (upd sf j_4 (nI k3)))), (it, .inl (cI, 320, .inl tf))] := hD
          refine lv_iconst (v := 0) hx hb dX6_row_62 (by decide) ?_
          refine lv_istore (lv' := [(4, .int 0), (0, .ref md), (1, .int (nI j_4)), (2, .int (nI j_8)), (3, .int (nI k3))]) hx hb dX6_row_63 hl (by decide) rfl (fun ls hl => ?_)
          have loop65 : ∀ (k i_11 : Nat) (tf_12 : Nat → Int32) (H : Heap) (locs : List Loc) (ls : Array Slot), i_11 + k = 40 → va_P D vwCl [(md, .inr (6, [.int 0, .int 0, .ref ln, .ref mn, .ref it, vm_5, vm_6, vm_7, vm_8, vm_9, vm_10, vm_11, vm_12, vm_13, vm_14, vm_15, vm_16, vm_17, vm_18, vm_19, vm_20, vm_21, vm_22, vm_23])), (ln, .inl (cI, 8, .inl (upd lf j_4 (nI j_8)))), (mn, .inl (cI, 8, .inl (upd sf j_4 (nI k3)))), (it, .inl (cI, 320, .inl tf_12))] H → va_D A [(md, .inr (6, [.int 0, .int 0, .ref ln, .ref mn, .ref it, vm_5, vm_6, vm_7, vm_8, vm_9, vm_10, vm_11, vm_12, vm_13, vm_14, vm_15, vm_16, vm_17, vm_18, vm_19, vm_20, vm_21, vm_22, vm_23])), (ln, .inl (cI, 8, .inl (upd lf j_4 (nI j_8)))), (mn, .inl (cI, 8, .inl (upd sf j_4 (nI k3)))), (it, .inl (cI, 320, .inl tf_12))] → va_S A s.heap H locs → lv_has ls 5 [(4, .int (nI i_11)), (0, .ref md), (1, .int (nI j_4)), (2, .int (nI j_8)), (3, .int (nI k3))] → W p l e ({ frames := 2, cells := 0, slots := 0, locals := 45 } : Room) s m ([.ref md, .int (nI j_4), .int (nI j_8), .int (nI k3)] : List Value).toArray below meth c H locs 0 0 (MQ below (wt_QI D (fun r w => ∃ (lf2 sf2 tf2 : Nat → Int32) (md_f1 : Int32), w = [(md, .inr (6, [.int 0, .int md_f1, .ref ln, .ref mn, .ref it, vm_5, vm_6, vm_7, vm_8, vm_9, vm_10, vm_11, vm_12, vm_13, vm_14, vm_15, vm_16, vm_17, vm_18, vm_19, vm_20, vm_21, vm_22, vm_23])), (ln, .inl (cI, 8, .inl lf2)), (mn, .inl (cI, 8, .inl sf2)), (it, .inl (cI, 320, .inl tf2))] ∧ r = fA (rowF (nI j_4) (nI j_8) (nI k3)) (nI k3) ∧ lf2 = rowL lf (nI j_4) (nI j_8) (nI k3) ∧ sf2 = rowS sf (nI j_4) (nI j_8) (nI k3) ∧ hw 40 8 sf2 ∧ md_f1 = fQ (rowF (nI j_4) (nI j_8) (nI k3)) sv) A) ([.ref md, .int (nI j_4), .int (nI j_8), .int (nI k3)] : List Value).toArray s 0 0 A) (F0 m 65 ls []) := by
            intro k
            induction k with
            | zero =>
              intro i_11 tf_12 H locs ls hik  hP hD hS hl
              refine lv_iload hx hb dX6_row_65 (lv_at hl 0 rfl) ?_
              refine lv_bipush (v := 40) hx hb dX6_row_67 (by decide) ?_
              refine lv_icmp_ge (tgt := 91) hx hb dX6_row_69 (by decide) (fun _ => ?_) (fun h => absurd (nI_le (a := 40) (b := i_11) (by omega) (by omega)) h)
              refine lv_iload_n hx hb dX6_row_91 rfl (lv_at hl 4 rfl) ?_
              have hP9 := hP.sub (ws' := [(md, .inr (6, [.int 0, .int 0, .ref ln, .ref mn, .ref it, vm_5, vm_6, vm_7, vm_8, vm_9, vm_10, vm_11, vm_12, vm_13, vm_14, vm_15, vm_16, vm_17, vm_18, vm_19, vm_20, vm_21, vm_22, vm_23])), (ln, .inl (cI, 8, .inl (upd lf j_4 (nI j_8)))), (mn, .inl (cI, 8, .inl (upd sf j_4 (nI k3)))), (it, .inl (cI, 320, .inl tf_12))]) [0, 1, 2, 3] rfl
              have hD9 := hD.sub (ws' := [(md, .inr (6, [.int 0, .int 0, .ref ln, .ref mn, .ref it, vm_5, vm_6, vm_7, vm_8, vm_9, vm_10, vm_11, vm_12, vm_13, vm_14, vm_15, vm_16, vm_17, vm_18, vm_19, vm_20, vm_21, vm_22, vm_23])), (ln, .inl (cI, 8, .inl (upd lf j_4 (nI j_8)))), (mn, .inl (cI, 8, .inl (upd sf j_4 (nI k3)))), (it, .inl (cI, 320, .inl tf_12))]) [0, 1, 2, 3] (by decide) rfl
              exact wt_iret hx hb hr hlocks hP9 hD9 hS ⟨(upd lf j_4 (nI j_8)), (upd sf j_4 (nI k3)), tf_12, 0, rfl, (by exact (fA_0 (rowF_0 c_3 c_7 c_9 c_10) _).symm), ⟨rowL_0 (rowF_0 c_3 c_7 c_9 c_10) (by omega), rowS_0 (rowF_0 c_3 c_7 c_9 c_10) (by omega), hw_upd hs8 (by omega) _, (fQ_k (rowF_0 c_3 c_7 c_9 c_10) (by decide) sv).symm⟩⟩ dX6_row_92
            | succ k ih65 =>
              intro i_11 tf_12 H locs ls hik  hP hD hS hl
              refine lv_iload hx hb dX6_row_65 (lv_at hl 0 rfl) ?_
              refine lv_bipush (v := 40) hx hb dX6_row_67 (by decide) ?_
              refine lv_icmp_ge (tgt := 91) hx hb dX6_row_69 (by decide) (fun h => absurd h (nI_ge (a := i_11) (b := 40) (by omega) (by omega))) (fun _ => ?_)
              refine lv_aload_n hx hb dX6_row_72 rfl (lv_at hl 1 rfl) ?_
              refine va_get (D := D) (ci := 6) (v := .ref it) (C := RX6) (T := TX6) (N := 24) hx hb hts hi6 hown hK.1 hP 0 rfl rfl 4 (by decide) wf16 (fun _ h9 => h9) rfl dX6_row_73 ?_
              refine lv_bipush (v := 40) hx hb dX6_row_76 (by decide) ?_
              refine lv_iload_n hx hb dX6_row_78 rfl (lv_at hl 2 rfl) ?_
              refine lv_imul hx hb dX6_row_79 ?_
              refine wt_top (z := nI (40 * j_4)) (pk_mul 40 j_4) ?_
              refine lv_iload hx hb dX6_row_80 (lv_at hl 0 rfl) ?_
              refine lv_iadd hx hb dX6_row_82 ?_
              refine wt_top (z := nI ((40 * j_4) + i_11)) (nI_add (40 * j_4) i_11) ?_
              refine lv_iconst (v := 0) hx hb dX6_row_83 (by decide) ?_
              refine va_iast hx hb hK.1 hP hD hS 3 0 rfl rfl (vp_in_nI (by omega) (by omega)) dX6_row_84 (fun H locs hP hD hS => ?_)
              have hP : va_P D vwCl [(md, .inr (6, [.int 0, .int 0, .ref ln, .ref mn, .ref it, vm_5, vm_6, vm_7, vm_8, vm_9, vm_10, vm_11, vm_12, vm_13, vm_14, vm_15, vm_16, vm_17, vm_18, vm_19, vm_20, vm_21, vm_22, vm_23])), (ln, .inl (cI, 8, .inl (upd lf j_4 (nI j_8)))), (mn, .inl (cI, 8, .inl (upd sf j_4 (nI k3)))), (it, .inl (cI, 320, .inl (upd tf_12 ((nI ((40 * j_4) + i_11)).toNatClampNeg) 0)))] H := hP
              have hD : va_D A [(md, .inr (6, [.int 0, .int 0, .ref ln, .ref mn, .ref it, vm_5, vm_6, vm_7, vm_8, vm_9, vm_10, vm_11, vm_12, vm_13, vm_14, vm_15, vm_16, vm_17, vm_18, vm_19, vm_20, vm_21, vm_22, vm_23])), (ln, .inl (cI, 8, .inl (upd lf j_4 (nI j_8)))), (mn, .inl (cI, 8, .inl (upd sf j_4 (nI k3)))), (it, .inl (cI, 320, .inl (upd tf_12 ((nI ((40 * j_4) + i_11)).toNatClampNeg) 0)))] := hD
              generalize upd tf_12 ((nI ((40 * j_4) + i_11)).toNatClampNeg) 0 = tf_13 at hP hD
              refine lv_iinc (v := nI (i_11 + 1)) (lv' := [(4, .int (nI (i_11 + 1))), (0, .ref md), (1, .int (nI j_4)), (2, .int (nI j_8)), (3, .int (nI k3))]) hx hb dX6_row_85 hl (k := 0) rfl (nI_add i_11 1) (by decide) rfl (fun ls hl => ?_)
              refine lv_goto (tgt := 65) hx hb dX6_row_88 (by decide) ?_
              exact ih65 ((i_11 + 1)) tf_13 H locs ls (by omega)  hP hD hS (lv_sub hl [0, 1, 2, 3, 4] rfl)
          exact loop65 (40 - 0) (0) tf _ _ ls (by omega)  hP hD hS hl
        · skip
          refine lv_aload_n hx hb dX6_row_42 rfl (lv_at hl 0 rfl) ?_
          refine lv_iconst (v := 4) hx hb dX6_row_43 (by decide) ?_
          refine wt_goI (wr := [(ln, .inl (cI, 8, .inl lf)), (mn, .inl (cI, 8, .inl sf)), (it, .inl (cI, 320, .inl tf))]) (wt_runV (As := [.int 4]) (rest := []) ⟨hx, hb, hml, hown, hts⟩ (c_X6_finding l D cI cZ cH md 4 (.int 0) (.int 0) (.ref ln) (.ref mn) (.ref it) vm_5 vm_6 vm_7 vm_8 vm_9 vm_10 vm_11 vm_12 vm_13 vm_14 vm_15 vm_16 vm_17 vm_18 vm_19 vm_20 vm_21 vm_22 vm_23) (cwV 1 hts gX6_row_X6_finding rfl rfl rfl (by decide +kernel) ⟨Nat.le_of_ble_eq_true rfl, Nat.le_of_ble_eq_true rfl⟩) hK hP hD [0] rfl (by decide) (va_recv hK.1 hP (ci := 6) (q0 := 0) rfl rfl) rfl hl.1 rfl (Nat.le_of_ble_eq_true rfl) dX6_row_44 ⟨Nat.le_of_ble_eq_true rfl, Nat.le_of_ble_eq_true rfl⟩) hP hD hS hA [0] [1, 2, 3] rfl rfl (by decide) (by decide) (fun r_14 w_15 H locs h_16 hP hD hS => ?_)
          obtain ⟨rfl, rfl⟩ := h_16
          have hP : va_P D vwCl [(ln, .inl (cI, 8, .inl lf)), (mn, .inl (cI, 8, .inl sf)), (it, .inl (cI, 320, .inl tf)), (md, .inr (6, [.int 0, .int 4, .ref ln, .ref mn, .ref it, vm_5, vm_6, vm_7, vm_8, vm_9, vm_10, vm_11, vm_12, vm_13, vm_14, vm_15, vm_16, vm_17, vm_18, vm_19, vm_20, vm_21, vm_22, vm_23]))] H := hP
          have hD : va_D A [(ln, .inl (cI, 8, .inl lf)), (mn, .inl (cI, 8, .inl sf)), (it, .inl (cI, 320, .inl tf)), (md, .inr (6, [.int 0, .int 4, .ref ln, .ref mn, .ref it, vm_5, vm_6, vm_7, vm_8, vm_9, vm_10, vm_11, vm_12, vm_13, vm_14, vm_15, vm_16, vm_17, vm_18, vm_19, vm_20, vm_21, vm_22, vm_23]))] := hD
          refine wt_top (z := (-1000014)) (by decide) ?_
          have hP9 := hP.sub (ws' := [(md, .inr (6, [.int 0, .int 4, .ref ln, .ref mn, .ref it, vm_5, vm_6, vm_7, vm_8, vm_9, vm_10, vm_11, vm_12, vm_13, vm_14, vm_15, vm_16, vm_17, vm_18, vm_19, vm_20, vm_21, vm_22, vm_23])), (ln, .inl (cI, 8, .inl lf)), (mn, .inl (cI, 8, .inl sf)), (it, .inl (cI, 320, .inl tf))]) [3, 0, 1, 2] rfl
          have hD9 := hD.sub (ws' := [(md, .inr (6, [.int 0, .int 4, .ref ln, .ref mn, .ref it, vm_5, vm_6, vm_7, vm_8, vm_9, vm_10, vm_11, vm_12, vm_13, vm_14, vm_15, vm_16, vm_17, vm_18, vm_19, vm_20, vm_21, vm_22, vm_23])), (ln, .inl (cI, 8, .inl lf)), (mn, .inl (cI, 8, .inl sf)), (it, .inl (cI, 320, .inl tf))]) [3, 0, 1, 2] (by decide) rfl
          exact wt_iret hx hb hr hlocks hP9 hD9 hS ⟨lf, sf, tf, 4, rfl, (by exact (fA_4 (rowF_s c_3 c_7 c_9 c_10) _).symm), ⟨rowL_n (rowF_s c_3 c_7 c_9 c_10) (by decide), rowS_n (rowF_s c_3 c_7 c_9 c_10) (by decide), hs8, (fQ_k (rowF_s c_3 c_7 c_9 c_10) (by decide) sv).symm⟩⟩ dX6_row_47
      · skip
        refine lv_ldc hx hb hown wc67 dX6_row_30 ?_
        have hP9 := hP.sub (ws' := [(md, .inr (6, [.int 0, .int sv, .ref ln, .ref mn, .ref it, vm_5, vm_6, vm_7, vm_8, vm_9, vm_10, vm_11, vm_12, vm_13, vm_14, vm_15, vm_16, vm_17, vm_18, vm_19, vm_20, vm_21, vm_22, vm_23])), (ln, .inl (cI, 8, .inl lf)), (mn, .inl (cI, 8, .inl sf)), (it, .inl (cI, 320, .inl tf))]) [0, 1, 2, 3] rfl
        have hD9 := hD.sub (ws' := [(md, .inr (6, [.int 0, .int sv, .ref ln, .ref mn, .ref it, vm_5, vm_6, vm_7, vm_8, vm_9, vm_10, vm_11, vm_12, vm_13, vm_14, vm_15, vm_16, vm_17, vm_18, vm_19, vm_20, vm_21, vm_22, vm_23])), (ln, .inl (cI, 8, .inl lf)), (mn, .inl (cI, 8, .inl sf)), (it, .inl (cI, 320, .inl tf))]) [0, 1, 2, 3] (by decide) rfl
        exact wt_iret hx hb hr hlocks hP9 hD9 hS ⟨lf, sf, tf, sv, rfl, (by exact (fA_b (rowF_c c_3 c_7 c_9) _).symm), ⟨rowL_n (rowF_c c_3 c_7 c_9) (by decide), rowS_n (rowF_c c_3 c_7 c_9) (by decide), hs8, (fQ_b (rowF_c c_3 c_7 c_9) sv).symm⟩⟩ dX6_row_32
set_option maxHeartbeats 4000000 in
set_option maxRecDepth 100000 in
theorem c_X6_set_x (l : Launch) (D : va_G) (cI cZ cH : ClassId) (md : Nat) (ln mn it : Nat) (lf sf tf : Nat → Int32) (sv : Int32) (a1 a2 a3 : Int32) (vm_0 vm_5 vm_6 vm_7 vm_8 vm_9 vm_10 vm_11 vm_12 vm_13 vm_14 vm_15 vm_16 vm_17 vm_18 vm_19 vm_20 vm_21 vm_22 vm_23 : Value) (hs8 : hw 40 8 sf) (hlq : lq lf) : wt_M l yX6_set wsX6_set ({ frames := 2, cells := 0, slots := 0, locals := 45 } : Room) D (wt_T cI cZ cH) [.ref md, .int a1, .int a2, .int a3] [(md, .inr (6, [vm_0, .int sv, .ref ln, .ref mn, .ref it, vm_5, vm_6, vm_7, vm_8, vm_9, vm_10, vm_11, vm_12, vm_13, vm_14, vm_15, vm_16, vm_17, vm_18, vm_19, vm_20, vm_21, vm_22, vm_23])), (ln, .inl (cI, 8, .inl lf)), (mn, .inl (cI, 8, .inl sf)), (it, .inl (cI, 320, .inl tf))] (wt_QI D (fun r w => ∃ (tf2 : Nat → Int32) (md_f1 : Int32), w = [(md, .inr (6, [.int 0, .int md_f1, .ref ln, .ref mn, .ref it, vm_5, vm_6, vm_7, vm_8, vm_9, vm_10, vm_11, vm_12, vm_13, vm_14, vm_15, vm_16, vm_17, vm_18, vm_19, vm_20, vm_21, vm_22, vm_23])), (ln, .inl (cI, 8, .inl lf)), (mn, .inl (cI, 8, .inl sf)), (it, .inl (cI, 320, .inl tf2))] ∧ r = fA (setF lf sf a1 a2) (nrw (lf a1.toNatClampNeg) a3) ∧ md_f1 = fQ (setF lf sf a1 a2) sv)) := by
  refine wt_M.ofW (cc := cX6_set) (maxL := 4) (ret := (some .int)) (by decide) rfl (Nat.le_of_ble_eq_true rfl) ?_
  intro p e s m below meth c A ls hx hb hr hts hown hlocks hml hnm hP hK hD hA hS hl
  have hP : va_P D vwCl [(md, .inr (6, [vm_0, .int sv, .ref ln, .ref mn, .ref it, vm_5, vm_6, vm_7, vm_8, vm_9, vm_10, vm_11, vm_12, vm_13, vm_14, vm_15, vm_16, vm_17, vm_18, vm_19, vm_20, vm_21, vm_22, vm_23])), (ln, .inl (cI, 8, .inl lf)), (mn, .inl (cI, 8, .inl sf)), (it, .inl (cI, 320, .inl tf))] s.heap := hP
  have hown : s.vm.findClass RX6 = some m.cls := hown
  have hl : lv_has ls 4 [(0, .ref md), (1, .int a1), (2, .int a2), (3, .int a3)] := hl
  have hi6 : ∀ w ∈ u_ws RX6 TX6 24, w ∈ wsX6_set := by decide +kernel
  have wc67 := hts (.constant RX6 67 (-1000001)) (by decide +kernel)
  have wf13 := hts (.fieldLink RX6 13 "WarmTubesModel" "many" "[I") (by decide +kernel)
  have wf16 := hts (.fieldLink RX6 16 "WarmTubesModel" "item" "[I") (by decide +kernel)
  have wf47 := hts (.fieldLink RX6 47 "WarmTubesModel" "thrown" "I") (by decide +kernel)
  have wf51 := hts (.fieldLink RX6 51 "WarmTubesModel" "status" "I") (by decide +kernel)
  have wf7 := hts (.fieldLink RX6 7 "WarmTubesModel" "lane" "[I") (by decide +kernel)
  refine lv_aload_n hx hb dX6_set_0 rfl (lv_at hl 0 rfl) ?_
  refine lv_iconst (v := 0) hx hb dX6_set_1 (by decide) ?_
  refine va_put (D := D) (ci := 6) (v := .int 0) (ty := .int) (C := RX6) (T := TX6) (N := 24) hx hb hts hi6 tyX6 tyX6_ok nmX6 hown hK.1 hP hD hS 0 rfl rfl 0 (by decide) wf47 (fun _ h9 => h9) rfl (by decide +kernel) rfl rfl (Nat.le_of_ble_eq_true rfl) dX6_set_2 (fun H locs hP hD hS => ?_)
  have hP : va_P D vwCl [(md, .inr (6, [.int 0, .int sv, .ref ln, .ref mn, .ref it, vm_5, vm_6, vm_7, vm_8, vm_9, vm_10, vm_11, vm_12, vm_13, vm_14, vm_15, vm_16, vm_17, vm_18, vm_19, vm_20, vm_21, vm_22, vm_23])), (ln, .inl (cI, 8, .inl lf)), (mn, .inl (cI, 8, .inl sf)), (it, .inl (cI, 320, .inl tf))] H := hP
  have hD : va_D A [(md, .inr (6, [.int 0, .int sv, .ref ln, .ref mn, .ref it, vm_5, vm_6, vm_7, vm_8, vm_9, vm_10, vm_11, vm_12, vm_13, vm_14, vm_15, vm_16, vm_17, vm_18, vm_19, vm_20, vm_21, vm_22, vm_23])), (ln, .inl (cI, 8, .inl lf)), (mn, .inl (cI, 8, .inl sf)), (it, .inl (cI, 320, .inl tf))] := hD
  refine lv_iload_n hx hb dX6_set_5 rfl (lv_at hl 1 rfl) ?_
  refine wt_rS (As := [.int a1]) (rest := []) ⟨hx, hb, hml, hown, hts⟩ (c_X6_isRow l D cI cZ cH a1) (va_cwS 1 hts gX6_set_X6_isRow rfl rfl rfl (by decide +kernel) ⟨Nat.le_of_ble_eq_true rfl, Nat.le_of_ble_eq_true rfl⟩) hK hP [] rfl rfl hl.1 rfl (Nat.le_of_ble_eq_true rfl) dX6_set_6 ⟨Nat.le_of_ble_eq_true rfl, Nat.le_of_ble_eq_true rfl⟩ (fun r_1 e_2 => ?_)
  subst e_2
  refine lv_if_ne (tgt := 15) hx hb dX6_set_9 (by decide) (fun c_3 => ?_) (fun c_3 => ?_)
  · skip
    obtain ⟨j_4, hj_4, hj_4b, rfl⟩ := wI_nat (a := 0) (b := 7) (by omega) (by omega) c_3
    refine lv_aload_n hx hb dX6_set_15 rfl (lv_at hl 0 rfl) ?_
    refine lv_iconst (v := 0) hx hb dX6_set_16 (by decide) ?_
    refine va_put (D := D) (ci := 6) (v := .int 0) (ty := .int) (C := RX6) (T := TX6) (N := 24) hx hb hts hi6 tyX6 tyX6_ok nmX6 hown hK.1 hP hD hS 0 rfl rfl 1 (by decide) wf51 (fun _ h9 => h9) rfl (by decide +kernel) rfl rfl (Nat.le_of_ble_eq_true rfl) dX6_set_17 (fun H locs hP hD hS => ?_)
    have hP : va_P D vwCl [(md, .inr (6, [.int 0, .int 0, .ref ln, .ref mn, .ref it, vm_5, vm_6, vm_7, vm_8, vm_9, vm_10, vm_11, vm_12, vm_13, vm_14, vm_15, vm_16, vm_17, vm_18, vm_19, vm_20, vm_21, vm_22, vm_23])), (ln, .inl (cI, 8, .inl lf)), (mn, .inl (cI, 8, .inl sf)), (it, .inl (cI, 320, .inl tf))] H := hP
    have hD : va_D A [(md, .inr (6, [.int 0, .int 0, .ref ln, .ref mn, .ref it, vm_5, vm_6, vm_7, vm_8, vm_9, vm_10, vm_11, vm_12, vm_13, vm_14, vm_15, vm_16, vm_17, vm_18, vm_19, vm_20, vm_21, vm_22, vm_23])), (ln, .inl (cI, 8, .inl lf)), (mn, .inl (cI, 8, .inl sf)), (it, .inl (cI, 320, .inl tf))] := hD
    refine lv_aload_n hx hb dX6_set_20 rfl (lv_at hl 0 rfl) ?_
    refine va_get (D := D) (ci := 6) (v := .ref ln) (C := RX6) (T := TX6) (N := 24) hx hb hts hi6 hown hK.1 hP 0 rfl rfl 2 (by decide) wf7 (fun _ h9 => h9) rfl dX6_set_21 ?_
    refine lv_iload_n hx hb dX6_set_24 rfl (lv_at hl 1 rfl) ?_
    refine va_iald hx hb hK.1 hP 1 0 rfl rfl (vp_in_nI (by omega) (by omega)) dX6_set_25 ?_
    refine wt_top (z := lf j_4) (by rw [nI_clamp (by omega)]) ?_
    refine lv_if_ge (tgt := 35) hx hb dX6_set_26 (by decide) (fun c_5 => ?_) (fun c_5 => ?_)
    · skip
      refine lv_iload_n hx hb dX6_set_35 rfl (lv_at hl 2 rfl) ?_
      refine lv_i2l hx hb dX6_set_36 rfl ?_
      refine lv_lconst (v := 0) hx hb dX6_set_37 (by decide) ?_
      refine lv_aload_n hx hb dX6_set_38 rfl (lv_at hl 0 rfl) ?_
      refine va_get (D := D) (ci := 6) (v := .ref mn) (C := RX6) (T := TX6) (N := 24) hx hb hts hi6 hown hK.1 hP 0 rfl rfl 3 (by decide) wf13 (fun _ h9 => h9) rfl dX6_set_39 ?_
      refine lv_iload_n hx hb dX6_set_42 rfl (lv_at hl 1 rfl) ?_
      refine va_iald hx hb hK.1 hP 2 0 rfl rfl (vp_in_nI (by omega) (by omega)) dX6_set_43 ?_
      obtain ⟨q_6, hq_6, eq_6⟩ := hs8 j_4 (by omega)
      refine wt_top (z := nI q_6) (by rw [nI_clamp (by omega)]; exact eq_6) ?_
      refine lv_iconst (v := 1) hx hb dX6_set_44 (by decide) ?_
      refine lv_isub hx hb dX6_set_45 ?_
      refine lv_i2l hx hb dX6_set_46 rfl ?_
      refine wt_rS (As := [.long a2.toInt64, .long 0, .long (((nI q_6) - 1).toInt64)]) (rest := []) ⟨hx, hb, hml, hown, hts⟩ (c_X6_in l D cI cZ cH a2.toInt64 0 (((nI q_6) - 1).toInt64)) (va_cwS 3 hts gX6_set_X6_in rfl rfl rfl (by decide +kernel) ⟨Nat.le_of_ble_eq_true rfl, Nat.le_of_ble_eq_true rfl⟩) hK hP [] rfl rfl hl.1 rfl (Nat.le_of_ble_eq_true rfl) dX6_set_47 ⟨Nat.le_of_ble_eq_true rfl, Nat.le_of_ble_eq_true rfl⟩ (fun r_7 e_8 => ?_)
      subst e_8
      refine wt_top (z := wI a2 0 ((nI q_6) - 1)) (wL_I' (by decide) rfl) ?_
      refine lv_if_ne (tgt := 59) hx hb dX6_set_50 (by decide) (fun c_9 => ?_) (fun c_9 => ?_)
      · skip
        obtain ⟨j_10, hj_10, rfl⟩ := wI_natT (T := q_6) (by omega) c_9
        refine lv_aload_n hx hb dX6_set_59 rfl (lv_at hl 0 rfl) ?_
        refine va_get (D := D) (ci := 6) (v := .ref it) (C := RX6) (T := TX6) (N := 24) hx hb hts hi6 hown hK.1 hP 0 rfl rfl 4 (by decide) wf16 (fun _ h9 => h9) rfl dX6_set_60 ?_
        refine lv_bipush (v := 40) hx hb dX6_set_63 (by decide) ?_
        refine lv_iload_n hx hb dX6_set_65 rfl (lv_at hl 1 rfl) ?_
        refine lv_imul hx hb dX6_set_66 ?_
        refine wt_top (z := nI (40 * j_4)) (pk_mul 40 j_4) ?_
        refine lv_iload_n hx hb dX6_set_67 rfl (lv_at hl 2 rfl) ?_
        refine lv_iadd hx hb dX6_set_68 ?_
        refine wt_top (z := nI ((40 * j_4) + j_10)) (nI_add (40 * j_4) j_10) ?_
        refine lv_aload_n hx hb dX6_set_69 rfl (lv_at hl 0 rfl) ?_
        refine va_get (D := D) (ci := 6) (v := .ref ln) (C := RX6) (T := TX6) (N := 24) hx hb hts hi6 hown hK.1 hP 0 rfl rfl 2 (by decide) wf7 (fun _ h9 => h9) rfl dX6_set_70 ?_
        refine lv_iload_n hx hb dX6_set_73 rfl (lv_at hl 1 rfl) ?_
        refine va_iald hx hb hK.1 hP 1 0 rfl rfl (vp_in_nI (by omega) (by omega)) dX6_set_74 ?_
        refine wt_top (z := lf j_4) (by rw [nI_clamp (by omega)]) ?_
        refine lv_if_ne (tgt := 83) hx hb dX6_set_75 (by decide) (fun c_11 => ?_) (fun c_11 => ?_)
        · skip
          refine lv_aload_n hx hb dX6_set_83 rfl (lv_at hl 0 rfl) ?_
          refine va_get (D := D) (ci := 6) (v := .ref ln) (C := RX6) (T := TX6) (N := 24) hx hb hts hi6 hown hK.1 hP 0 rfl rfl 2 (by decide) wf7 (fun _ h9 => h9) rfl dX6_set_84 ?_
          refine lv_iload_n hx hb dX6_set_87 rfl (lv_at hl 1 rfl) ?_
          refine va_iald hx hb hK.1 hP 1 0 rfl rfl (vp_in_nI (by omega) (by omega)) dX6_set_88 ?_
          refine wt_top (z := lf j_4) (by rw [nI_clamp (by omega)]) ?_
          refine lv_iconst (v := 1) hx hb dX6_set_89 (by decide) ?_
          refine lv_icmp_ne (tgt := 98) hx hb dX6_set_90 (by decide) (fun c_12 => ?_) (fun c_12 => ?_)
          · skip
            refine lv_iload_n hx hb dX6_set_98 rfl (lv_at hl 3 rfl) ?_
            refine wt_top (z := nrw (lf j_4) a3) (nrw_i c_11 c_12) ?_
            refine va_iast hx hb hK.1 hP hD hS 3 0 rfl rfl (vp_in_nI (by omega) (by omega)) dX6_set_99 (fun H locs hP hD hS => ?_)
            have hP : va_P D vwCl [(md, .inr (6, [.int 0, .int 0, .ref ln, .ref mn, .ref it, vm_5, vm_6, vm_7, vm_8, vm_9, vm_10, vm_11, vm_12, vm_13, vm_14, vm_15, vm_16, vm_17, vm_18, vm_19, vm_20, vm_21, vm_22, vm_23])), (ln, .inl (cI, 8, .inl lf)), (mn, .inl (cI, 8, .inl sf)), (it, .inl (cI, 320, .inl (upd tf ((nI ((40 * j_4) + j_10)).toNatClampNeg) (nrw (lf j_4) a3))))] H := hP
            have hD : va_D A [(md, .inr (6, [.int 0, .int 0, .ref ln, .ref mn, .ref it, vm_5, vm_6, vm_7, vm_8, vm_9, vm_10, vm_11, vm_12, vm_13, vm_14, vm_15, vm_16, vm_17, vm_18, vm_19, vm_20, vm_21, vm_22, vm_23])), (ln, .inl (cI, 8, .inl lf)), (mn, .inl (cI, 8, .inl sf)), (it, .inl (cI, 320, .inl (upd tf ((nI ((40 * j_4) + j_10)).toNatClampNeg) (nrw (lf j_4) a3))))] := hD
            rw [nI_clamp (n := ((40 * j_4) + j_10)) (by omega)] at hP hD
            have hP : va_P D vwCl [(md, .inr (6, [.int 0, .int 0, .ref ln, .ref mn, .ref it, vm_5, vm_6, vm_7, vm_8, vm_9, vm_10, vm_11, vm_12, vm_13, vm_14, vm_15, vm_16, vm_17, vm_18, vm_19, vm_20, vm_21, vm_22, vm_23])), (ln, .inl (cI, 8, .inl lf)), (mn, .inl (cI, 8, .inl sf)), (it, .inl (cI, 320, .inl (upd tf ((40 * j_4) + j_10) (nrw (lf j_4) a3))))] H := hP
            have hD : va_D A [(md, .inr (6, [.int 0, .int 0, .ref ln, .ref mn, .ref it, vm_5, vm_6, vm_7, vm_8, vm_9, vm_10, vm_11, vm_12, vm_13, vm_14, vm_15, vm_16, vm_17, vm_18, vm_19, vm_20, vm_21, vm_22, vm_23])), (ln, .inl (cI, 8, .inl lf)), (mn, .inl (cI, 8, .inl sf)), (it, .inl (cI, 320, .inl (upd tf ((40 * j_4) + j_10) (nrw (lf j_4) a3))))] := hD
            refine lv_aload_n hx hb dX6_set_100 rfl (lv_at hl 0 rfl) ?_
            refine va_get (D := D) (ci := 6) (v := .ref it) (C := RX6) (T := TX6) (N := 24) hx hb hts hi6 hown hK.1 hP 0 rfl rfl 4 (by decide) wf16 (fun _ h9 => h9) rfl dX6_set_101 ?_
            refine lv_bipush (v := 40) hx hb dX6_set_104 (by decide) ?_
            refine lv_iload_n hx hb dX6_set_106 rfl (lv_at hl 1 rfl) ?_
            refine lv_imul hx hb dX6_set_107 ?_
            refine wt_top (z := nI (40 * j_4)) (pk_mul 40 j_4) ?_
            refine lv_iload_n hx hb dX6_set_108 rfl (lv_at hl 2 rfl) ?_
            refine lv_iadd hx hb dX6_set_109 ?_
            refine wt_top (z := nI ((40 * j_4) + j_10)) (nI_add (40 * j_4) j_10) ?_
            refine va_iald hx hb hK.1 hP 3 0 rfl rfl (vp_in_nI (by omega) (by omega)) dX6_set_110 ?_
            refine wt_top (z := nrw (lf j_4) a3) (by first | exact pk_us | (rw [nI_clamp (by omega)]; exact pk_us)) ?_
            have hP9 := hP.sub (ws' := [(md, .inr (6, [.int 0, .int 0, .ref ln, .ref mn, .ref it, vm_5, vm_6, vm_7, vm_8, vm_9, vm_10, vm_11, vm_12, vm_13, vm_14, vm_15, vm_16, vm_17, vm_18, vm_19, vm_20, vm_21, vm_22, vm_23])), (ln, .inl (cI, 8, .inl lf)), (mn, .inl (cI, 8, .inl sf)), (it, .inl (cI, 320, .inl (upd tf ((40 * j_4) + j_10) (nrw (lf j_4) a3))))]) [0, 1, 2, 3] rfl
            have hD9 := hD.sub (ws' := [(md, .inr (6, [.int 0, .int 0, .ref ln, .ref mn, .ref it, vm_5, vm_6, vm_7, vm_8, vm_9, vm_10, vm_11, vm_12, vm_13, vm_14, vm_15, vm_16, vm_17, vm_18, vm_19, vm_20, vm_21, vm_22, vm_23])), (ln, .inl (cI, 8, .inl lf)), (mn, .inl (cI, 8, .inl sf)), (it, .inl (cI, 320, .inl (upd tf ((40 * j_4) + j_10) (nrw (lf j_4) a3))))]) [0, 1, 2, 3] (by decide) rfl
            exact wt_iret hx hb hr hlocks hP9 hD9 hS ⟨(upd tf ((40 * j_4) + j_10) (nrw (lf j_4) a3)), 0, rfl, (by exact set_v (by omega) ((setF_on c_3 (by omega)).trans (rs_w0 (nl_m1 (wt_nlt c_5)) eq_6 (by omega) (by omega)))), (fQ_k ((setF_on c_3 (by omega)).trans (rs_w0 (nl_m1 (wt_nlt c_5)) eq_6 (by omega) (by omega))) (by decide) sv).symm⟩ dX6_set_111
          · skip
            refine lv_iload_n hx hb dX6_set_93 rfl (lv_at hl 3 rfl) ?_
            refine lv_i2s hx hb dX6_set_94 rfl ?_
            refine wt_top (z := nrw (lf j_4) a3) (nrw_s c_11 c_12) ?_
            refine lv_goto (tgt := 99) hx hb dX6_set_95 (by decide) ?_
            refine va_iast hx hb hK.1 hP hD hS 3 0 rfl rfl (vp_in_nI (by omega) (by omega)) dX6_set_99 (fun H locs hP hD hS => ?_)
            have hP : va_P D vwCl [(md, .inr (6, [.int 0, .int 0, .ref ln, .ref mn, .ref it, vm_5, vm_6, vm_7, vm_8, vm_9, vm_10, vm_11, vm_12, vm_13, vm_14, vm_15, vm_16, vm_17, vm_18, vm_19, vm_20, vm_21, vm_22, vm_23])), (ln, .inl (cI, 8, .inl lf)), (mn, .inl (cI, 8, .inl sf)), (it, .inl (cI, 320, .inl (upd tf ((nI ((40 * j_4) + j_10)).toNatClampNeg) (nrw (lf j_4) a3))))] H := hP
            have hD : va_D A [(md, .inr (6, [.int 0, .int 0, .ref ln, .ref mn, .ref it, vm_5, vm_6, vm_7, vm_8, vm_9, vm_10, vm_11, vm_12, vm_13, vm_14, vm_15, vm_16, vm_17, vm_18, vm_19, vm_20, vm_21, vm_22, vm_23])), (ln, .inl (cI, 8, .inl lf)), (mn, .inl (cI, 8, .inl sf)), (it, .inl (cI, 320, .inl (upd tf ((nI ((40 * j_4) + j_10)).toNatClampNeg) (nrw (lf j_4) a3))))] := hD
            rw [nI_clamp (n := ((40 * j_4) + j_10)) (by omega)] at hP hD
            have hP : va_P D vwCl [(md, .inr (6, [.int 0, .int 0, .ref ln, .ref mn, .ref it, vm_5, vm_6, vm_7, vm_8, vm_9, vm_10, vm_11, vm_12, vm_13, vm_14, vm_15, vm_16, vm_17, vm_18, vm_19, vm_20, vm_21, vm_22, vm_23])), (ln, .inl (cI, 8, .inl lf)), (mn, .inl (cI, 8, .inl sf)), (it, .inl (cI, 320, .inl (upd tf ((40 * j_4) + j_10) (nrw (lf j_4) a3))))] H := hP
            have hD : va_D A [(md, .inr (6, [.int 0, .int 0, .ref ln, .ref mn, .ref it, vm_5, vm_6, vm_7, vm_8, vm_9, vm_10, vm_11, vm_12, vm_13, vm_14, vm_15, vm_16, vm_17, vm_18, vm_19, vm_20, vm_21, vm_22, vm_23])), (ln, .inl (cI, 8, .inl lf)), (mn, .inl (cI, 8, .inl sf)), (it, .inl (cI, 320, .inl (upd tf ((40 * j_4) + j_10) (nrw (lf j_4) a3))))] := hD
            refine lv_aload_n hx hb dX6_set_100 rfl (lv_at hl 0 rfl) ?_
            refine va_get (D := D) (ci := 6) (v := .ref it) (C := RX6) (T := TX6) (N := 24) hx hb hts hi6 hown hK.1 hP 0 rfl rfl 4 (by decide) wf16 (fun _ h9 => h9) rfl dX6_set_101 ?_
            refine lv_bipush (v := 40) hx hb dX6_set_104 (by decide) ?_
            refine lv_iload_n hx hb dX6_set_106 rfl (lv_at hl 1 rfl) ?_
            refine lv_imul hx hb dX6_set_107 ?_
            refine wt_top (z := nI (40 * j_4)) (pk_mul 40 j_4) ?_
            refine lv_iload_n hx hb dX6_set_108 rfl (lv_at hl 2 rfl) ?_
            refine lv_iadd hx hb dX6_set_109 ?_
            refine wt_top (z := nI ((40 * j_4) + j_10)) (nI_add (40 * j_4) j_10) ?_
            refine va_iald hx hb hK.1 hP 3 0 rfl rfl (vp_in_nI (by omega) (by omega)) dX6_set_110 ?_
            refine wt_top (z := nrw (lf j_4) a3) (by first | exact pk_us | (rw [nI_clamp (by omega)]; exact pk_us)) ?_
            have hP9 := hP.sub (ws' := [(md, .inr (6, [.int 0, .int 0, .ref ln, .ref mn, .ref it, vm_5, vm_6, vm_7, vm_8, vm_9, vm_10, vm_11, vm_12, vm_13, vm_14, vm_15, vm_16, vm_17, vm_18, vm_19, vm_20, vm_21, vm_22, vm_23])), (ln, .inl (cI, 8, .inl lf)), (mn, .inl (cI, 8, .inl sf)), (it, .inl (cI, 320, .inl (upd tf ((40 * j_4) + j_10) (nrw (lf j_4) a3))))]) [0, 1, 2, 3] rfl
            have hD9 := hD.sub (ws' := [(md, .inr (6, [.int 0, .int 0, .ref ln, .ref mn, .ref it, vm_5, vm_6, vm_7, vm_8, vm_9, vm_10, vm_11, vm_12, vm_13, vm_14, vm_15, vm_16, vm_17, vm_18, vm_19, vm_20, vm_21, vm_22, vm_23])), (ln, .inl (cI, 8, .inl lf)), (mn, .inl (cI, 8, .inl sf)), (it, .inl (cI, 320, .inl (upd tf ((40 * j_4) + j_10) (nrw (lf j_4) a3))))]) [0, 1, 2, 3] (by decide) rfl
            exact wt_iret hx hb hr hlocks hP9 hD9 hS ⟨(upd tf ((40 * j_4) + j_10) (nrw (lf j_4) a3)), 0, rfl, (by exact set_v (by omega) ((setF_on c_3 (by omega)).trans (rs_w0 (nl_m1 (wt_nlt c_5)) eq_6 (by omega) (by omega)))), (fQ_k ((setF_on c_3 (by omega)).trans (rs_w0 (nl_m1 (wt_nlt c_5)) eq_6 (by omega) (by omega))) (by decide) sv).symm⟩ dX6_set_111
        · skip
          refine lv_iload_n hx hb dX6_set_78 rfl (lv_at hl 3 rfl) ?_
          refine lv_i2b hx hb dX6_set_79 rfl ?_
          refine wt_top (z := nrw (lf j_4) a3) (nrw_b c_11) ?_
          refine lv_goto (tgt := 99) hx hb dX6_set_80 (by decide) ?_
          refine va_iast hx hb hK.1 hP hD hS 3 0 rfl rfl (vp_in_nI (by omega) (by omega)) dX6_set_99 (fun H locs hP hD hS => ?_)
          have hP : va_P D vwCl [(md, .inr (6, [.int 0, .int 0, .ref ln, .ref mn, .ref it, vm_5, vm_6, vm_7, vm_8, vm_9, vm_10, vm_11, vm_12, vm_13, vm_14, vm_15, vm_16, vm_17, vm_18, vm_19, vm_20, vm_21, vm_22, vm_23])), (ln, .inl (cI, 8, .inl lf)), (mn, .inl (cI, 8, .inl sf)), (it, .inl (cI, 320, .inl (upd tf ((nI ((40 * j_4) + j_10)).toNatClampNeg) (nrw (lf j_4) a3))))] H := hP
          have hD : va_D A [(md, .inr (6, [.int 0, .int 0, .ref ln, .ref mn, .ref it, vm_5, vm_6, vm_7, vm_8, vm_9, vm_10, vm_11, vm_12, vm_13, vm_14, vm_15, vm_16, vm_17, vm_18, vm_19, vm_20, vm_21, vm_22, vm_23])), (ln, .inl (cI, 8, .inl lf)), (mn, .inl (cI, 8, .inl sf)), (it, .inl (cI, 320, .inl (upd tf ((nI ((40 * j_4) + j_10)).toNatClampNeg) (nrw (lf j_4) a3))))] := hD
          rw [nI_clamp (n := ((40 * j_4) + j_10)) (by omega)] at hP hD
          have hP : va_P D vwCl [(md, .inr (6, [.int 0, .int 0, .ref ln, .ref mn, .ref it, vm_5, vm_6, vm_7, vm_8, vm_9, vm_10, vm_11, vm_12, vm_13, vm_14, vm_15, vm_16, vm_17, vm_18, vm_19, vm_20, vm_21, vm_22, vm_23])), (ln, .inl (cI, 8, .inl lf)), (mn, .inl (cI, 8, .inl sf)), (it, .inl (cI, 320, .inl (upd tf ((40 * j_4) + j_10) (nrw (lf j_4) a3))))] H := hP
          have hD : va_D A [(md, .inr (6, [.int 0, .int 0, .ref ln, .ref mn, .ref it, vm_5, vm_6, vm_7, vm_8, vm_9, vm_10, vm_11, vm_12, vm_13, vm_14, vm_15, vm_16, vm_17, vm_18, vm_19, vm_20, vm_21, vm_22, vm_23])), (ln, .inl (cI, 8, .inl lf)), (mn, .inl (cI, 8, .inl sf)), (it, .inl (cI, 320, .inl (upd tf ((40 * j_4) + j_10) (nrw (lf j_4) a3))))] := hD
          refine lv_aload_n hx hb dX6_set_100 rfl (lv_at hl 0 rfl) ?_
          refine va_get (D := D) (ci := 6) (v := .ref it) (C := RX6) (T := TX6) (N := 24) hx hb hts hi6 hown hK.1 hP 0 rfl rfl 4 (by decide) wf16 (fun _ h9 => h9) rfl dX6_set_101 ?_
          refine lv_bipush (v := 40) hx hb dX6_set_104 (by decide) ?_
          refine lv_iload_n hx hb dX6_set_106 rfl (lv_at hl 1 rfl) ?_
          refine lv_imul hx hb dX6_set_107 ?_
          refine wt_top (z := nI (40 * j_4)) (pk_mul 40 j_4) ?_
          refine lv_iload_n hx hb dX6_set_108 rfl (lv_at hl 2 rfl) ?_
          refine lv_iadd hx hb dX6_set_109 ?_
          refine wt_top (z := nI ((40 * j_4) + j_10)) (nI_add (40 * j_4) j_10) ?_
          refine va_iald hx hb hK.1 hP 3 0 rfl rfl (vp_in_nI (by omega) (by omega)) dX6_set_110 ?_
          refine wt_top (z := nrw (lf j_4) a3) (by first | exact pk_us | (rw [nI_clamp (by omega)]; exact pk_us)) ?_
          have hP9 := hP.sub (ws' := [(md, .inr (6, [.int 0, .int 0, .ref ln, .ref mn, .ref it, vm_5, vm_6, vm_7, vm_8, vm_9, vm_10, vm_11, vm_12, vm_13, vm_14, vm_15, vm_16, vm_17, vm_18, vm_19, vm_20, vm_21, vm_22, vm_23])), (ln, .inl (cI, 8, .inl lf)), (mn, .inl (cI, 8, .inl sf)), (it, .inl (cI, 320, .inl (upd tf ((40 * j_4) + j_10) (nrw (lf j_4) a3))))]) [0, 1, 2, 3] rfl
          have hD9 := hD.sub (ws' := [(md, .inr (6, [.int 0, .int 0, .ref ln, .ref mn, .ref it, vm_5, vm_6, vm_7, vm_8, vm_9, vm_10, vm_11, vm_12, vm_13, vm_14, vm_15, vm_16, vm_17, vm_18, vm_19, vm_20, vm_21, vm_22, vm_23])), (ln, .inl (cI, 8, .inl lf)), (mn, .inl (cI, 8, .inl sf)), (it, .inl (cI, 320, .inl (upd tf ((40 * j_4) + j_10) (nrw (lf j_4) a3))))]) [0, 1, 2, 3] (by decide) rfl
          exact wt_iret hx hb hr hlocks hP9 hD9 hS ⟨(upd tf ((40 * j_4) + j_10) (nrw (lf j_4) a3)), 0, rfl, (by exact set_v (by omega) ((setF_on c_3 (by omega)).trans (rs_w0 (nl_m1 (wt_nlt c_5)) eq_6 (by omega) (by omega)))), (fQ_k ((setF_on c_3 (by omega)).trans (rs_w0 (nl_m1 (wt_nlt c_5)) eq_6 (by omega) (by omega))) (by decide) sv).symm⟩ dX6_set_111
      · skip
        refine lv_aload_n hx hb dX6_set_53 rfl (lv_at hl 0 rfl) ?_
        refine lv_iconst (v := 2) hx hb dX6_set_54 (by decide) ?_
        refine wt_goI (wr := [(ln, .inl (cI, 8, .inl lf)), (mn, .inl (cI, 8, .inl sf)), (it, .inl (cI, 320, .inl tf))]) (wt_runV (As := [.int 2]) (rest := []) ⟨hx, hb, hml, hown, hts⟩ (c_X6_finding l D cI cZ cH md 2 (.int 0) (.int 0) (.ref ln) (.ref mn) (.ref it) vm_5 vm_6 vm_7 vm_8 vm_9 vm_10 vm_11 vm_12 vm_13 vm_14 vm_15 vm_16 vm_17 vm_18 vm_19 vm_20 vm_21 vm_22 vm_23) (cwV 1 hts gX6_set_X6_finding rfl rfl rfl (by decide +kernel) ⟨Nat.le_of_ble_eq_true rfl, Nat.le_of_ble_eq_true rfl⟩) hK hP hD [0] rfl (by decide) (va_recv hK.1 hP (ci := 6) (q0 := 0) rfl rfl) rfl hl.1 rfl (Nat.le_of_ble_eq_true rfl) dX6_set_55 ⟨Nat.le_of_ble_eq_true rfl, Nat.le_of_ble_eq_true rfl⟩) hP hD hS hA [0] [1, 2, 3] rfl rfl (by decide) (by decide) (fun r_13 w_14 H locs h_15 hP hD hS => ?_)
        obtain ⟨rfl, rfl⟩ := h_15
        have hP : va_P D vwCl [(ln, .inl (cI, 8, .inl lf)), (mn, .inl (cI, 8, .inl sf)), (it, .inl (cI, 320, .inl tf)), (md, .inr (6, [.int 0, .int 2, .ref ln, .ref mn, .ref it, vm_5, vm_6, vm_7, vm_8, vm_9, vm_10, vm_11, vm_12, vm_13, vm_14, vm_15, vm_16, vm_17, vm_18, vm_19, vm_20, vm_21, vm_22, vm_23]))] H := hP
        have hD : va_D A [(ln, .inl (cI, 8, .inl lf)), (mn, .inl (cI, 8, .inl sf)), (it, .inl (cI, 320, .inl tf)), (md, .inr (6, [.int 0, .int 2, .ref ln, .ref mn, .ref it, vm_5, vm_6, vm_7, vm_8, vm_9, vm_10, vm_11, vm_12, vm_13, vm_14, vm_15, vm_16, vm_17, vm_18, vm_19, vm_20, vm_21, vm_22, vm_23]))] := hD
        refine wt_top (z := (-1000012)) (by decide) ?_
        have hP9 := hP.sub (ws' := [(md, .inr (6, [.int 0, .int 2, .ref ln, .ref mn, .ref it, vm_5, vm_6, vm_7, vm_8, vm_9, vm_10, vm_11, vm_12, vm_13, vm_14, vm_15, vm_16, vm_17, vm_18, vm_19, vm_20, vm_21, vm_22, vm_23])), (ln, .inl (cI, 8, .inl lf)), (mn, .inl (cI, 8, .inl sf)), (it, .inl (cI, 320, .inl tf))]) [3, 0, 1, 2] rfl
        have hD9 := hD.sub (ws' := [(md, .inr (6, [.int 0, .int 2, .ref ln, .ref mn, .ref it, vm_5, vm_6, vm_7, vm_8, vm_9, vm_10, vm_11, vm_12, vm_13, vm_14, vm_15, vm_16, vm_17, vm_18, vm_19, vm_20, vm_21, vm_22, vm_23])), (ln, .inl (cI, 8, .inl lf)), (mn, .inl (cI, 8, .inl sf)), (it, .inl (cI, 320, .inl tf))]) [3, 0, 1, 2] (by decide) rfl
        exact wt_iret hx hb hr hlocks hP9 hD9 hS ⟨tf, 2, rfl, (by exact (fA_2 ((setF_on c_3 (by omega)).trans (rs_w (nl_m1 (wt_nlt c_5)) eq_6 (by omega) c_9)) _).symm), (fQ_k ((setF_on c_3 (by omega)).trans (rs_w (nl_m1 (wt_nlt c_5)) eq_6 (by omega) c_9)) (by decide) sv).symm⟩ dX6_set_58
    · skip
      refine lv_aload_n hx hb dX6_set_29 rfl (lv_at hl 0 rfl) ?_
      refine lv_iconst (v := 1) hx hb dX6_set_30 (by decide) ?_
      refine wt_goI (wr := [(ln, .inl (cI, 8, .inl lf)), (mn, .inl (cI, 8, .inl sf)), (it, .inl (cI, 320, .inl tf))]) (wt_runV (As := [.int 1]) (rest := []) ⟨hx, hb, hml, hown, hts⟩ (c_X6_finding l D cI cZ cH md 1 (.int 0) (.int 0) (.ref ln) (.ref mn) (.ref it) vm_5 vm_6 vm_7 vm_8 vm_9 vm_10 vm_11 vm_12 vm_13 vm_14 vm_15 vm_16 vm_17 vm_18 vm_19 vm_20 vm_21 vm_22 vm_23) (cwV 1 hts gX6_set_X6_finding rfl rfl rfl (by decide +kernel) ⟨Nat.le_of_ble_eq_true rfl, Nat.le_of_ble_eq_true rfl⟩) hK hP hD [0] rfl (by decide) (va_recv hK.1 hP (ci := 6) (q0 := 0) rfl rfl) rfl hl.1 rfl (Nat.le_of_ble_eq_true rfl) dX6_set_31 ⟨Nat.le_of_ble_eq_true rfl, Nat.le_of_ble_eq_true rfl⟩) hP hD hS hA [0] [1, 2, 3] rfl rfl (by decide) (by decide) (fun r_16 w_17 H locs h_18 hP hD hS => ?_)
      obtain ⟨rfl, rfl⟩ := h_18
      have hP : va_P D vwCl [(ln, .inl (cI, 8, .inl lf)), (mn, .inl (cI, 8, .inl sf)), (it, .inl (cI, 320, .inl tf)), (md, .inr (6, [.int 0, .int 1, .ref ln, .ref mn, .ref it, vm_5, vm_6, vm_7, vm_8, vm_9, vm_10, vm_11, vm_12, vm_13, vm_14, vm_15, vm_16, vm_17, vm_18, vm_19, vm_20, vm_21, vm_22, vm_23]))] H := hP
      have hD : va_D A [(ln, .inl (cI, 8, .inl lf)), (mn, .inl (cI, 8, .inl sf)), (it, .inl (cI, 320, .inl tf)), (md, .inr (6, [.int 0, .int 1, .ref ln, .ref mn, .ref it, vm_5, vm_6, vm_7, vm_8, vm_9, vm_10, vm_11, vm_12, vm_13, vm_14, vm_15, vm_16, vm_17, vm_18, vm_19, vm_20, vm_21, vm_22, vm_23]))] := hD
      refine wt_top (z := (-1000011)) (by decide) ?_
      have hP9 := hP.sub (ws' := [(md, .inr (6, [.int 0, .int 1, .ref ln, .ref mn, .ref it, vm_5, vm_6, vm_7, vm_8, vm_9, vm_10, vm_11, vm_12, vm_13, vm_14, vm_15, vm_16, vm_17, vm_18, vm_19, vm_20, vm_21, vm_22, vm_23])), (ln, .inl (cI, 8, .inl lf)), (mn, .inl (cI, 8, .inl sf)), (it, .inl (cI, 320, .inl tf))]) [3, 0, 1, 2] rfl
      have hD9 := hD.sub (ws' := [(md, .inr (6, [.int 0, .int 1, .ref ln, .ref mn, .ref it, vm_5, vm_6, vm_7, vm_8, vm_9, vm_10, vm_11, vm_12, vm_13, vm_14, vm_15, vm_16, vm_17, vm_18, vm_19, vm_20, vm_21, vm_22, vm_23])), (ln, .inl (cI, 8, .inl lf)), (mn, .inl (cI, 8, .inl sf)), (it, .inl (cI, 320, .inl tf))]) [3, 0, 1, 2] (by decide) rfl
      exact wt_iret hx hb hr hlocks hP9 hD9 hS ⟨tf, 1, rfl, (by exact (fA_1 ((setF_on c_3 (by omega)).trans (rs_1 (lq_neg hlq (by omega) (ng_lt c_5)))) _).symm), (fQ_k ((setF_on c_3 (by omega)).trans (rs_1 (lq_neg hlq (by omega) (ng_lt c_5)))) (by decide) sv).symm⟩ dX6_set_34
  · skip
    refine lv_ldc hx hb hown wc67 dX6_set_12 ?_
    have hP9 := hP.sub (ws' := [(md, .inr (6, [.int 0, .int sv, .ref ln, .ref mn, .ref it, vm_5, vm_6, vm_7, vm_8, vm_9, vm_10, vm_11, vm_12, vm_13, vm_14, vm_15, vm_16, vm_17, vm_18, vm_19, vm_20, vm_21, vm_22, vm_23])), (ln, .inl (cI, 8, .inl lf)), (mn, .inl (cI, 8, .inl sf)), (it, .inl (cI, 320, .inl tf))]) [0, 1, 2, 3] rfl
    have hD9 := hD.sub (ws' := [(md, .inr (6, [.int 0, .int sv, .ref ln, .ref mn, .ref it, vm_5, vm_6, vm_7, vm_8, vm_9, vm_10, vm_11, vm_12, vm_13, vm_14, vm_15, vm_16, vm_17, vm_18, vm_19, vm_20, vm_21, vm_22, vm_23])), (ln, .inl (cI, 8, .inl lf)), (mn, .inl (cI, 8, .inl sf)), (it, .inl (cI, 320, .inl tf))]) [0, 1, 2, 3] (by decide) rfl
    exact wt_iret hx hb hr hlocks hP9 hD9 hS ⟨tf, sv, rfl, (by exact (fA_b (setF_b c_3) _).symm), (fQ_b (setF_b c_3) sv).symm⟩ dX6_set_14
set_option maxHeartbeats 4000000 in
set_option maxRecDepth 100000 in
theorem c_X6_copy_x (l : Launch) (D : va_G) (cI cZ cH : ClassId) (md : Nat) (ln mn it : Nat) (lf sf tf : Nat → Int32) (sv : Int32) (a1 a2 a3 a4 a5 : Int32) (vm_0 vm_5 vm_6 vm_7 vm_8 vm_9 vm_10 vm_11 vm_12 vm_13 vm_14 vm_15 vm_16 vm_17 vm_18 vm_19 vm_20 vm_21 vm_22 vm_23 : Value) (hs8 : hw 40 8 sf) (hlq : lq lf) : wt_M l yX6_copy wsX6_copy ({ frames := 2, cells := 0, slots := 0, locals := 45 } : Room) D (wt_T cI cZ cH) [.ref md, .int a1, .int a2, .int a3, .int a4, .int a5] [(md, .inr (6, [vm_0, .int sv, .ref ln, .ref mn, .ref it, vm_5, vm_6, vm_7, vm_8, vm_9, vm_10, vm_11, vm_12, vm_13, vm_14, vm_15, vm_16, vm_17, vm_18, vm_19, vm_20, vm_21, vm_22, vm_23])), (ln, .inl (cI, 8, .inl lf)), (mn, .inl (cI, 8, .inl sf)), (it, .inl (cI, 320, .inl tf))] (wt_QI D (fun r w => ∃ (tf2 : Nat → Int32) (md_f1 : Int32), w = [(md, .inr (6, [.int 0, .int md_f1, .ref ln, .ref mn, .ref it, vm_5, vm_6, vm_7, vm_8, vm_9, vm_10, vm_11, vm_12, vm_13, vm_14, vm_15, vm_16, vm_17, vm_18, vm_19, vm_20, vm_21, vm_22, vm_23])), (ln, .inl (cI, 8, .inl lf)), (mn, .inl (cI, 8, .inl sf)), (it, .inl (cI, 320, .inl tf2))] ∧ r = fA (copyF lf sf a1 a2 a3 a4 a5) a5 ∧ md_f1 = fQ (copyF lf sf a1 a2 a3 a4 a5) sv)) := by
  refine wt_M.ofW (cc := cX6_copy) (maxL := 9) (ret := (some .int)) (by decide) rfl (Nat.le_of_ble_eq_true rfl) ?_
  intro p e s m below meth c A ls hx hb hr hts hown hlocks hml hnm hP hK hD hA hS hl
  have hP : va_P D vwCl [(md, .inr (6, [vm_0, .int sv, .ref ln, .ref mn, .ref it, vm_5, vm_6, vm_7, vm_8, vm_9, vm_10, vm_11, vm_12, vm_13, vm_14, vm_15, vm_16, vm_17, vm_18, vm_19, vm_20, vm_21, vm_22, vm_23])), (ln, .inl (cI, 8, .inl lf)), (mn, .inl (cI, 8, .inl sf)), (it, .inl (cI, 320, .inl tf))] s.heap := hP
  have hown : s.vm.findClass RX6 = some m.cls := hown
  have hl : lv_has ls 9 [(0, .ref md), (1, .int a1), (2, .int a2), (3, .int a3), (4, .int a4), (5, .int a5)] := hl
  have hi6 : ∀ w ∈ u_ws RX6 TX6 24, w ∈ wsX6_copy := by decide +kernel
  have wc67 := hts (.constant RX6 67 (-1000001)) (by decide +kernel)
  have wf13 := hts (.fieldLink RX6 13 "WarmTubesModel" "many" "[I") (by decide +kernel)
  have wf16 := hts (.fieldLink RX6 16 "WarmTubesModel" "item" "[I") (by decide +kernel)
  have wf47 := hts (.fieldLink RX6 47 "WarmTubesModel" "thrown" "I") (by decide +kernel)
  have wf51 := hts (.fieldLink RX6 51 "WarmTubesModel" "status" "I") (by decide +kernel)
  have wf7 := hts (.fieldLink RX6 7 "WarmTubesModel" "lane" "[I") (by decide +kernel)
  refine lv_aload_n hx hb dX6_copy_0 rfl (lv_at hl 0 rfl) ?_
  refine lv_iconst (v := 0) hx hb dX6_copy_1 (by decide) ?_
  refine va_put (D := D) (ci := 6) (v := .int 0) (ty := .int) (C := RX6) (T := TX6) (N := 24) hx hb hts hi6 tyX6 tyX6_ok nmX6 hown hK.1 hP hD hS 0 rfl rfl 0 (by decide) wf47 (fun _ h9 => h9) rfl (by decide +kernel) rfl rfl (Nat.le_of_ble_eq_true rfl) dX6_copy_2 (fun H locs hP hD hS => ?_)
  have hP : va_P D vwCl [(md, .inr (6, [.int 0, .int sv, .ref ln, .ref mn, .ref it, vm_5, vm_6, vm_7, vm_8, vm_9, vm_10, vm_11, vm_12, vm_13, vm_14, vm_15, vm_16, vm_17, vm_18, vm_19, vm_20, vm_21, vm_22, vm_23])), (ln, .inl (cI, 8, .inl lf)), (mn, .inl (cI, 8, .inl sf)), (it, .inl (cI, 320, .inl tf))] H := hP
  have hD : va_D A [(md, .inr (6, [.int 0, .int sv, .ref ln, .ref mn, .ref it, vm_5, vm_6, vm_7, vm_8, vm_9, vm_10, vm_11, vm_12, vm_13, vm_14, vm_15, vm_16, vm_17, vm_18, vm_19, vm_20, vm_21, vm_22, vm_23])), (ln, .inl (cI, 8, .inl lf)), (mn, .inl (cI, 8, .inl sf)), (it, .inl (cI, 320, .inl tf))] := hD
  refine lv_iload_n hx hb dX6_copy_5 rfl (lv_at hl 1 rfl) ?_
  refine wt_rS (As := [.int a1]) (rest := []) ⟨hx, hb, hml, hown, hts⟩ (c_X6_isRow l D cI cZ cH a1) (va_cwS 1 hts gX6_copy_X6_isRow rfl rfl rfl (by decide +kernel) ⟨Nat.le_of_ble_eq_true rfl, Nat.le_of_ble_eq_true rfl⟩) hK hP [] rfl rfl hl.1 rfl (Nat.le_of_ble_eq_true rfl) dX6_copy_6 ⟨Nat.le_of_ble_eq_true rfl, Nat.le_of_ble_eq_true rfl⟩ (fun r_1 e_2 => ?_)
  subst e_2
  refine lv_if_eq (tgt := 19) hx hb dX6_copy_9 (by decide) (fun c_3 => ?_) (fun c_3 => ?_)
  · skip
    refine lv_ldc hx hb hown wc67 dX6_copy_19 ?_
    have hP9 := hP.sub (ws' := [(md, .inr (6, [.int 0, .int sv, .ref ln, .ref mn, .ref it, vm_5, vm_6, vm_7, vm_8, vm_9, vm_10, vm_11, vm_12, vm_13, vm_14, vm_15, vm_16, vm_17, vm_18, vm_19, vm_20, vm_21, vm_22, vm_23])), (ln, .inl (cI, 8, .inl lf)), (mn, .inl (cI, 8, .inl sf)), (it, .inl (cI, 320, .inl tf))]) [0, 1, 2, 3] rfl
    have hD9 := hD.sub (ws' := [(md, .inr (6, [.int 0, .int sv, .ref ln, .ref mn, .ref it, vm_5, vm_6, vm_7, vm_8, vm_9, vm_10, vm_11, vm_12, vm_13, vm_14, vm_15, vm_16, vm_17, vm_18, vm_19, vm_20, vm_21, vm_22, vm_23])), (ln, .inl (cI, 8, .inl lf)), (mn, .inl (cI, 8, .inl sf)), (it, .inl (cI, 320, .inl tf))]) [0, 1, 2, 3] (by decide) rfl
    exact wt_iret hx hb hr hlocks hP9 hD9 hS ⟨tf, sv, rfl, (by exact (fA_b (copyF_a c_3) _).symm), (fQ_b (copyF_a c_3) sv).symm⟩ dX6_copy_21
  · skip
    obtain ⟨j_4, hj_4, hj_4b, rfl⟩ := wI_nat (a := 0) (b := 7) (by omega) (by omega) c_3
    refine lv_iload_n hx hb dX6_copy_12 rfl (lv_at hl 3 rfl) ?_
    refine wt_rS (As := [.int a3]) (rest := []) ⟨hx, hb, hml, hown, hts⟩ (c_X6_isRow l D cI cZ cH a3) (va_cwS 1 hts gX6_copy_X6_isRow rfl rfl rfl (by decide +kernel) ⟨Nat.le_of_ble_eq_true rfl, Nat.le_of_ble_eq_true rfl⟩) hK hP [] rfl rfl hl.1 rfl (Nat.le_of_ble_eq_true rfl) dX6_copy_13 ⟨Nat.le_of_ble_eq_true rfl, Nat.le_of_ble_eq_true rfl⟩ (fun r_5 e_6 => ?_)
    subst e_6
    refine lv_if_ne (tgt := 22) hx hb dX6_copy_16 (by decide) (fun c_7 => ?_) (fun c_7 => ?_)
    · skip
      obtain ⟨j_8, hj_8, hj_8b, rfl⟩ := wI_nat (a := 0) (b := 7) (by omega) (by omega) c_7
      refine lv_aload_n hx hb dX6_copy_22 rfl (lv_at hl 0 rfl) ?_
      refine lv_iconst (v := 0) hx hb dX6_copy_23 (by decide) ?_
      refine va_put (D := D) (ci := 6) (v := .int 0) (ty := .int) (C := RX6) (T := TX6) (N := 24) hx hb hts hi6 tyX6 tyX6_ok nmX6 hown hK.1 hP hD hS 0 rfl rfl 1 (by decide) wf51 (fun _ h9 => h9) rfl (by decide +kernel) rfl rfl (Nat.le_of_ble_eq_true rfl) dX6_copy_24 (fun H locs hP hD hS => ?_)
      have hP : va_P D vwCl [(md, .inr (6, [.int 0, .int 0, .ref ln, .ref mn, .ref it, vm_5, vm_6, vm_7, vm_8, vm_9, vm_10, vm_11, vm_12, vm_13, vm_14, vm_15, vm_16, vm_17, vm_18, vm_19, vm_20, vm_21, vm_22, vm_23])), (ln, .inl (cI, 8, .inl lf)), (mn, .inl (cI, 8, .inl sf)), (it, .inl (cI, 320, .inl tf))] H := hP
      have hD : va_D A [(md, .inr (6, [.int 0, .int 0, .ref ln, .ref mn, .ref it, vm_5, vm_6, vm_7, vm_8, vm_9, vm_10, vm_11, vm_12, vm_13, vm_14, vm_15, vm_16, vm_17, vm_18, vm_19, vm_20, vm_21, vm_22, vm_23])), (ln, .inl (cI, 8, .inl lf)), (mn, .inl (cI, 8, .inl sf)), (it, .inl (cI, 320, .inl tf))] := hD
      refine lv_aload_n hx hb dX6_copy_27 rfl (lv_at hl 0 rfl) ?_
      refine va_get (D := D) (ci := 6) (v := .ref ln) (C := RX6) (T := TX6) (N := 24) hx hb hts hi6 hown hK.1 hP 0 rfl rfl 2 (by decide) wf7 (fun _ h9 => h9) rfl dX6_copy_28 ?_
      refine lv_iload_n hx hb dX6_copy_31 rfl (lv_at hl 1 rfl) ?_
      refine va_iald hx hb hK.1 hP 1 0 rfl rfl (vp_in_nI (by omega) (by omega)) dX6_copy_32 ?_
      refine wt_top (z := lf j_4) (by rw [nI_clamp (by omega)]) ?_
      refine lv_if_lt (tgt := 45) hx hb dX6_copy_33 (by decide) (fun c_9 => ?_) (fun c_9 => ?_)
      · skip
        refine lv_aload_n hx hb dX6_copy_45 rfl (lv_at hl 0 rfl) ?_
        refine lv_iconst (v := 1) hx hb dX6_copy_46 (by decide) ?_
        refine wt_goI (wr := [(ln, .inl (cI, 8, .inl lf)), (mn, .inl (cI, 8, .inl sf)), (it, .inl (cI, 320, .inl tf))]) (wt_runV (As := [.int 1]) (rest := []) ⟨hx, hb, hml, hown, hts⟩ (c_X6_finding l D cI cZ cH md 1 (.int 0) (.int 0) (.ref ln) (.ref mn) (.ref it) vm_5 vm_6 vm_7 vm_8 vm_9 vm_10 vm_11 vm_12 vm_13 vm_14 vm_15 vm_16 vm_17 vm_18 vm_19 vm_20 vm_21 vm_22 vm_23) (cwV 1 hts gX6_copy_X6_finding rfl rfl rfl (by decide +kernel) ⟨Nat.le_of_ble_eq_true rfl, Nat.le_of_ble_eq_true rfl⟩) hK hP hD [0] rfl (by decide) (va_recv hK.1 hP (ci := 6) (q0 := 0) rfl rfl) rfl hl.1 rfl (Nat.le_of_ble_eq_true rfl) dX6_copy_47 ⟨Nat.le_of_ble_eq_true rfl, Nat.le_of_ble_eq_true rfl⟩) hP hD hS hA [0] [1, 2, 3] rfl rfl (by decide) (by decide) (fun r_10 w_11 H locs h_12 hP hD hS => ?_)
        obtain ⟨rfl, rfl⟩ := h_12
        have hP : va_P D vwCl [(ln, .inl (cI, 8, .inl lf)), (mn, .inl (cI, 8, .inl sf)), (it, .inl (cI, 320, .inl tf)), (md, .inr (6, [.int 0, .int 1, .ref ln, .ref mn, .ref it, vm_5, vm_6, vm_7, vm_8, vm_9, vm_10, vm_11, vm_12, vm_13, vm_14, vm_15, vm_16, vm_17, vm_18, vm_19, vm_20, vm_21, vm_22, vm_23]))] H := hP
        have hD : va_D A [(ln, .inl (cI, 8, .inl lf)), (mn, .inl (cI, 8, .inl sf)), (it, .inl (cI, 320, .inl tf)), (md, .inr (6, [.int 0, .int 1, .ref ln, .ref mn, .ref it, vm_5, vm_6, vm_7, vm_8, vm_9, vm_10, vm_11, vm_12, vm_13, vm_14, vm_15, vm_16, vm_17, vm_18, vm_19, vm_20, vm_21, vm_22, vm_23]))] := hD
        refine wt_top (z := (-1000011)) (by decide) ?_
        have hP9 := hP.sub (ws' := [(md, .inr (6, [.int 0, .int 1, .ref ln, .ref mn, .ref it, vm_5, vm_6, vm_7, vm_8, vm_9, vm_10, vm_11, vm_12, vm_13, vm_14, vm_15, vm_16, vm_17, vm_18, vm_19, vm_20, vm_21, vm_22, vm_23])), (ln, .inl (cI, 8, .inl lf)), (mn, .inl (cI, 8, .inl sf)), (it, .inl (cI, 320, .inl tf))]) [3, 0, 1, 2] rfl
        have hD9 := hD.sub (ws' := [(md, .inr (6, [.int 0, .int 1, .ref ln, .ref mn, .ref it, vm_5, vm_6, vm_7, vm_8, vm_9, vm_10, vm_11, vm_12, vm_13, vm_14, vm_15, vm_16, vm_17, vm_18, vm_19, vm_20, vm_21, vm_22, vm_23])), (ln, .inl (cI, 8, .inl lf)), (mn, .inl (cI, 8, .inl sf)), (it, .inl (cI, 320, .inl tf))]) [3, 0, 1, 2] (by decide) rfl
        exact wt_iret hx hb hr hlocks hP9 hD9 hS ⟨tf, 1, rfl, (by exact (fA_1 (copyF_on c_3 (by omega) c_7 (by omega) (cpF_x (lq_neg hlq (by omega) c_9))) _).symm), (fQ_k (copyF_on c_3 (by omega) c_7 (by omega) (cpF_x (lq_neg hlq (by omega) c_9))) (by decide) sv).symm⟩ dX6_copy_50
      · skip
        refine lv_aload_n hx hb dX6_copy_36 rfl (lv_at hl 0 rfl) ?_
        refine va_get (D := D) (ci := 6) (v := .ref ln) (C := RX6) (T := TX6) (N := 24) hx hb hts hi6 hown hK.1 hP 0 rfl rfl 2 (by decide) wf7 (fun _ h9 => h9) rfl dX6_copy_37 ?_
        refine lv_iload_n hx hb dX6_copy_40 rfl (lv_at hl 3 rfl) ?_
        refine va_iald hx hb hK.1 hP 1 0 rfl rfl (vp_in_nI (by omega) (by omega)) dX6_copy_41 ?_
        refine wt_top (z := lf j_8) (by rw [nI_clamp (by omega)]) ?_
        refine lv_if_ge (tgt := 51) hx hb dX6_copy_42 (by decide) (fun c_13 => ?_) (fun c_13 => ?_)
        · skip
          refine lv_aload_n hx hb dX6_copy_51 rfl (lv_at hl 0 rfl) ?_
          refine va_get (D := D) (ci := 6) (v := .ref ln) (C := RX6) (T := TX6) (N := 24) hx hb hts hi6 hown hK.1 hP 0 rfl rfl 2 (by decide) wf7 (fun _ h9 => h9) rfl dX6_copy_52 ?_
          refine lv_iload_n hx hb dX6_copy_55 rfl (lv_at hl 1 rfl) ?_
          refine va_iald hx hb hK.1 hP 1 0 rfl rfl (vp_in_nI (by omega) (by omega)) dX6_copy_56 ?_
          refine wt_top (z := lf j_4) (by rw [nI_clamp (by omega)]) ?_
          refine lv_aload_n hx hb dX6_copy_57 rfl (lv_at hl 0 rfl) ?_
          refine va_get (D := D) (ci := 6) (v := .ref ln) (C := RX6) (T := TX6) (N := 24) hx hb hts hi6 hown hK.1 hP 0 rfl rfl 2 (by decide) wf7 (fun _ h9 => h9) rfl dX6_copy_58 ?_
          refine lv_iload_n hx hb dX6_copy_61 rfl (lv_at hl 3 rfl) ?_
          refine va_iald hx hb hK.1 hP 1 0 rfl rfl (vp_in_nI (by omega) (by omega)) dX6_copy_62 ?_
          refine wt_top (z := lf j_8) (by rw [nI_clamp (by omega)]) ?_
          refine lv_icmp_eq (tgt := 72) hx hb dX6_copy_63 (by decide) (fun c_14 => ?_) (fun c_14 => ?_)
          · skip
            refine lv_iload_n hx hb dX6_copy_72 rfl (lv_at hl 2 rfl) ?_
            refine lv_if_lt (tgt := 121) hx hb dX6_copy_73 (by decide) (fun c_15 => ?_) (fun c_15 => ?_)
            · skip
              refine lv_aload_n hx hb dX6_copy_121 rfl (lv_at hl 0 rfl) ?_
              refine lv_iconst (v := 2) hx hb dX6_copy_122 (by decide) ?_
              refine wt_goI (wr := [(ln, .inl (cI, 8, .inl lf)), (mn, .inl (cI, 8, .inl sf)), (it, .inl (cI, 320, .inl tf))]) (wt_runV (As := [.int 2]) (rest := []) ⟨hx, hb, hml, hown, hts⟩ (c_X6_finding l D cI cZ cH md 2 (.int 0) (.int 0) (.ref ln) (.ref mn) (.ref it) vm_5 vm_6 vm_7 vm_8 vm_9 vm_10 vm_11 vm_12 vm_13 vm_14 vm_15 vm_16 vm_17 vm_18 vm_19 vm_20 vm_21 vm_22 vm_23) (cwV 1 hts gX6_copy_X6_finding rfl rfl rfl (by decide +kernel) ⟨Nat.le_of_ble_eq_true rfl, Nat.le_of_ble_eq_true rfl⟩) hK hP hD [0] rfl (by decide) (va_recv hK.1 hP (ci := 6) (q0 := 0) rfl rfl) rfl hl.1 rfl (Nat.le_of_ble_eq_true rfl) dX6_copy_123 ⟨Nat.le_of_ble_eq_true rfl, Nat.le_of_ble_eq_true rfl⟩) hP hD hS hA [0] [1, 2, 3] rfl rfl (by decide) (by decide) (fun r_16 w_17 H locs h_18 hP hD hS => ?_)
              obtain ⟨rfl, rfl⟩ := h_18
              have hP : va_P D vwCl [(ln, .inl (cI, 8, .inl lf)), (mn, .inl (cI, 8, .inl sf)), (it, .inl (cI, 320, .inl tf)), (md, .inr (6, [.int 0, .int 2, .ref ln, .ref mn, .ref it, vm_5, vm_6, vm_7, vm_8, vm_9, vm_10, vm_11, vm_12, vm_13, vm_14, vm_15, vm_16, vm_17, vm_18, vm_19, vm_20, vm_21, vm_22, vm_23]))] H := hP
              have hD : va_D A [(ln, .inl (cI, 8, .inl lf)), (mn, .inl (cI, 8, .inl sf)), (it, .inl (cI, 320, .inl tf)), (md, .inr (6, [.int 0, .int 2, .ref ln, .ref mn, .ref it, vm_5, vm_6, vm_7, vm_8, vm_9, vm_10, vm_11, vm_12, vm_13, vm_14, vm_15, vm_16, vm_17, vm_18, vm_19, vm_20, vm_21, vm_22, vm_23]))] := hD
              refine wt_top (z := (-1000012)) (by decide) ?_
              have hP9 := hP.sub (ws' := [(md, .inr (6, [.int 0, .int 2, .ref ln, .ref mn, .ref it, vm_5, vm_6, vm_7, vm_8, vm_9, vm_10, vm_11, vm_12, vm_13, vm_14, vm_15, vm_16, vm_17, vm_18, vm_19, vm_20, vm_21, vm_22, vm_23])), (ln, .inl (cI, 8, .inl lf)), (mn, .inl (cI, 8, .inl sf)), (it, .inl (cI, 320, .inl tf))]) [3, 0, 1, 2] rfl
              have hD9 := hD.sub (ws' := [(md, .inr (6, [.int 0, .int 2, .ref ln, .ref mn, .ref it, vm_5, vm_6, vm_7, vm_8, vm_9, vm_10, vm_11, vm_12, vm_13, vm_14, vm_15, vm_16, vm_17, vm_18, vm_19, vm_20, vm_21, vm_22, vm_23])), (ln, .inl (cI, 8, .inl lf)), (mn, .inl (cI, 8, .inl sf)), (it, .inl (cI, 320, .inl tf))]) [3, 0, 1, 2] (by decide) rfl
              exact wt_iret hx hb hr hlocks hP9 hD9 hS ⟨tf, 2, rfl, (by exact (fA_2 (copyF_on c_3 (by omega) c_7 (by omega) (cpF_i (nl_m1 c_9) (nl_m1 (wt_nlt c_13)) c_14 (rs_e2 (rs_i (nl_m1 c_9) c_15)))) _).symm), (fQ_k (copyF_on c_3 (by omega) c_7 (by omega) (cpF_i (nl_m1 c_9) (nl_m1 (wt_nlt c_13)) c_14 (rs_e2 (rs_i (nl_m1 c_9) c_15)))) (by decide) sv).symm⟩ dX6_copy_126
            · skip
              refine lv_iload hx hb dX6_copy_76 (lv_at hl 4 rfl) ?_
              refine lv_if_lt (tgt := 121) hx hb dX6_copy_78 (by decide) (fun c_19 => ?_) (fun c_19 => ?_)
              · skip
                refine lv_aload_n hx hb dX6_copy_121 rfl (lv_at hl 0 rfl) ?_
                refine lv_iconst (v := 2) hx hb dX6_copy_122 (by decide) ?_
                refine wt_goI (wr := [(ln, .inl (cI, 8, .inl lf)), (mn, .inl (cI, 8, .inl sf)), (it, .inl (cI, 320, .inl tf))]) (wt_runV (As := [.int 2]) (rest := []) ⟨hx, hb, hml, hown, hts⟩ (c_X6_finding l D cI cZ cH md 2 (.int 0) (.int 0) (.ref ln) (.ref mn) (.ref it) vm_5 vm_6 vm_7 vm_8 vm_9 vm_10 vm_11 vm_12 vm_13 vm_14 vm_15 vm_16 vm_17 vm_18 vm_19 vm_20 vm_21 vm_22 vm_23) (cwV 1 hts gX6_copy_X6_finding rfl rfl rfl (by decide +kernel) ⟨Nat.le_of_ble_eq_true rfl, Nat.le_of_ble_eq_true rfl⟩) hK hP hD [0] rfl (by decide) (va_recv hK.1 hP (ci := 6) (q0 := 0) rfl rfl) rfl hl.1 rfl (Nat.le_of_ble_eq_true rfl) dX6_copy_123 ⟨Nat.le_of_ble_eq_true rfl, Nat.le_of_ble_eq_true rfl⟩) hP hD hS hA [0] [1, 2, 3] rfl rfl (by decide) (by decide) (fun r_20 w_21 H locs h_22 hP hD hS => ?_)
                obtain ⟨rfl, rfl⟩ := h_22
                have hP : va_P D vwCl [(ln, .inl (cI, 8, .inl lf)), (mn, .inl (cI, 8, .inl sf)), (it, .inl (cI, 320, .inl tf)), (md, .inr (6, [.int 0, .int 2, .ref ln, .ref mn, .ref it, vm_5, vm_6, vm_7, vm_8, vm_9, vm_10, vm_11, vm_12, vm_13, vm_14, vm_15, vm_16, vm_17, vm_18, vm_19, vm_20, vm_21, vm_22, vm_23]))] H := hP
                have hD : va_D A [(ln, .inl (cI, 8, .inl lf)), (mn, .inl (cI, 8, .inl sf)), (it, .inl (cI, 320, .inl tf)), (md, .inr (6, [.int 0, .int 2, .ref ln, .ref mn, .ref it, vm_5, vm_6, vm_7, vm_8, vm_9, vm_10, vm_11, vm_12, vm_13, vm_14, vm_15, vm_16, vm_17, vm_18, vm_19, vm_20, vm_21, vm_22, vm_23]))] := hD
                refine wt_top (z := (-1000012)) (by decide) ?_
                have hP9 := hP.sub (ws' := [(md, .inr (6, [.int 0, .int 2, .ref ln, .ref mn, .ref it, vm_5, vm_6, vm_7, vm_8, vm_9, vm_10, vm_11, vm_12, vm_13, vm_14, vm_15, vm_16, vm_17, vm_18, vm_19, vm_20, vm_21, vm_22, vm_23])), (ln, .inl (cI, 8, .inl lf)), (mn, .inl (cI, 8, .inl sf)), (it, .inl (cI, 320, .inl tf))]) [3, 0, 1, 2] rfl
                have hD9 := hD.sub (ws' := [(md, .inr (6, [.int 0, .int 2, .ref ln, .ref mn, .ref it, vm_5, vm_6, vm_7, vm_8, vm_9, vm_10, vm_11, vm_12, vm_13, vm_14, vm_15, vm_16, vm_17, vm_18, vm_19, vm_20, vm_21, vm_22, vm_23])), (ln, .inl (cI, 8, .inl lf)), (mn, .inl (cI, 8, .inl sf)), (it, .inl (cI, 320, .inl tf))]) [3, 0, 1, 2] (by decide) rfl
                exact wt_iret hx hb hr hlocks hP9 hD9 hS ⟨tf, 2, rfl, (by exact (fA_2 (copyF_on c_3 (by omega) c_7 (by omega) (cpF_j (nl_m1 c_9) (nl_m1 (wt_nlt c_13)) c_14 (rs_e2 (rs_i (nl_m1 (wt_nlt c_13)) c_19)))) _).symm), (fQ_k (copyF_on c_3 (by omega) c_7 (by omega) (cpF_j (nl_m1 c_9) (nl_m1 (wt_nlt c_13)) c_14 (rs_e2 (rs_i (nl_m1 (wt_nlt c_13)) c_19)))) (by decide) sv).symm⟩ dX6_copy_126
              · skip
                refine lv_iload hx hb dX6_copy_81 (lv_at hl 5 rfl) ?_
                refine lv_if_lt (tgt := 121) hx hb dX6_copy_83 (by decide) (fun c_23 => ?_) (fun c_23 => ?_)
                · skip
                  refine lv_aload_n hx hb dX6_copy_121 rfl (lv_at hl 0 rfl) ?_
                  refine lv_iconst (v := 2) hx hb dX6_copy_122 (by decide) ?_
                  refine wt_goI (wr := [(ln, .inl (cI, 8, .inl lf)), (mn, .inl (cI, 8, .inl sf)), (it, .inl (cI, 320, .inl tf))]) (wt_runV (As := [.int 2]) (rest := []) ⟨hx, hb, hml, hown, hts⟩ (c_X6_finding l D cI cZ cH md 2 (.int 0) (.int 0) (.ref ln) (.ref mn) (.ref it) vm_5 vm_6 vm_7 vm_8 vm_9 vm_10 vm_11 vm_12 vm_13 vm_14 vm_15 vm_16 vm_17 vm_18 vm_19 vm_20 vm_21 vm_22 vm_23) (cwV 1 hts gX6_copy_X6_finding rfl rfl rfl (by decide +kernel) ⟨Nat.le_of_ble_eq_true rfl, Nat.le_of_ble_eq_true rfl⟩) hK hP hD [0] rfl (by decide) (va_recv hK.1 hP (ci := 6) (q0 := 0) rfl rfl) rfl hl.1 rfl (Nat.le_of_ble_eq_true rfl) dX6_copy_123 ⟨Nat.le_of_ble_eq_true rfl, Nat.le_of_ble_eq_true rfl⟩) hP hD hS hA [0] [1, 2, 3] rfl rfl (by decide) (by decide) (fun r_24 w_25 H locs h_26 hP hD hS => ?_)
                  obtain ⟨rfl, rfl⟩ := h_26
                  have hP : va_P D vwCl [(ln, .inl (cI, 8, .inl lf)), (mn, .inl (cI, 8, .inl sf)), (it, .inl (cI, 320, .inl tf)), (md, .inr (6, [.int 0, .int 2, .ref ln, .ref mn, .ref it, vm_5, vm_6, vm_7, vm_8, vm_9, vm_10, vm_11, vm_12, vm_13, vm_14, vm_15, vm_16, vm_17, vm_18, vm_19, vm_20, vm_21, vm_22, vm_23]))] H := hP
                  have hD : va_D A [(ln, .inl (cI, 8, .inl lf)), (mn, .inl (cI, 8, .inl sf)), (it, .inl (cI, 320, .inl tf)), (md, .inr (6, [.int 0, .int 2, .ref ln, .ref mn, .ref it, vm_5, vm_6, vm_7, vm_8, vm_9, vm_10, vm_11, vm_12, vm_13, vm_14, vm_15, vm_16, vm_17, vm_18, vm_19, vm_20, vm_21, vm_22, vm_23]))] := hD
                  refine wt_top (z := (-1000012)) (by decide) ?_
                  have hP9 := hP.sub (ws' := [(md, .inr (6, [.int 0, .int 2, .ref ln, .ref mn, .ref it, vm_5, vm_6, vm_7, vm_8, vm_9, vm_10, vm_11, vm_12, vm_13, vm_14, vm_15, vm_16, vm_17, vm_18, vm_19, vm_20, vm_21, vm_22, vm_23])), (ln, .inl (cI, 8, .inl lf)), (mn, .inl (cI, 8, .inl sf)), (it, .inl (cI, 320, .inl tf))]) [3, 0, 1, 2] rfl
                  have hD9 := hD.sub (ws' := [(md, .inr (6, [.int 0, .int 2, .ref ln, .ref mn, .ref it, vm_5, vm_6, vm_7, vm_8, vm_9, vm_10, vm_11, vm_12, vm_13, vm_14, vm_15, vm_16, vm_17, vm_18, vm_19, vm_20, vm_21, vm_22, vm_23])), (ln, .inl (cI, 8, .inl lf)), (mn, .inl (cI, 8, .inl sf)), (it, .inl (cI, 320, .inl tf))]) [3, 0, 1, 2] (by decide) rfl
                  exact wt_iret hx hb hr hlocks hP9 hD9 hS ⟨tf, 2, rfl, (by exact (fA_2 (copyF_on c_3 (by omega) c_7 (by omega) (cpF_i (nl_m1 c_9) (nl_m1 (wt_nlt c_13)) c_14 (rs_e2 (rs_k (nl_m1 c_9) c_23)))) _).symm), (fQ_k (copyF_on c_3 (by omega) c_7 (by omega) (cpF_i (nl_m1 c_9) (nl_m1 (wt_nlt c_13)) c_14 (rs_e2 (rs_k (nl_m1 c_9) c_23)))) (by decide) sv).symm⟩ dX6_copy_126
                · skip
                  obtain ⟨z_27, hz_27, rfl⟩ := nI_of c_15
                  obtain ⟨z_28, hz_28, rfl⟩ := nI_of c_19
                  obtain ⟨z_29, hz_29, rfl⟩ := nI_of c_23
                  refine lv_iload_n hx hb dX6_copy_86 rfl (lv_at hl 2 rfl) ?_
                  refine lv_i2l hx hb dX6_copy_87 rfl ?_
                  refine wt_topl (z := lN z_27) (nI_l (by omega)) ?_
                  refine lv_iload hx hb dX6_copy_88 (lv_at hl 5 rfl) ?_
                  refine lv_i2l hx hb dX6_copy_90 rfl ?_
                  refine wt_topl (z := lN z_29) (nI_l (by omega)) ?_
                  refine lv_ladd hx hb dX6_copy_91 ?_
                  refine wt_topl (z := lN (z_27 + z_29)) (lN_add z_27 z_29) ?_
                  refine lv_aload_n hx hb dX6_copy_92 rfl (lv_at hl 0 rfl) ?_
                  refine va_get (D := D) (ci := 6) (v := .ref mn) (C := RX6) (T := TX6) (N := 24) hx hb hts hi6 hown hK.1 hP 0 rfl rfl 3 (by decide) wf13 (fun _ h9 => h9) rfl dX6_copy_93 ?_
                  refine lv_iload_n hx hb dX6_copy_96 rfl (lv_at hl 1 rfl) ?_
                  refine va_iald hx hb hK.1 hP 2 0 rfl rfl (vp_in_nI (by omega) (by omega)) dX6_copy_97 ?_
                  obtain ⟨q_30, hq_30, eq_30⟩ := hs8 j_4 (by omega)
                  refine wt_top (z := nI q_30) (by rw [nI_clamp (by omega)]; exact eq_30) ?_
                  refine lv_i2l hx hb dX6_copy_98 rfl ?_
                  refine wt_topl (z := lN q_30) (nI_l (by omega)) ?_
                  refine W.lcmp hx hb dX6_copy_99 ?_
                  refine lv_if_gt (tgt := 121) hx hb dX6_copy_100 (by decide) (fun c_31 => ?_) (fun c_31 => ?_)
                  · skip
                    refine lv_aload_n hx hb dX6_copy_121 rfl (lv_at hl 0 rfl) ?_
                    refine lv_iconst (v := 2) hx hb dX6_copy_122 (by decide) ?_
                    refine wt_goI (wr := [(ln, .inl (cI, 8, .inl lf)), (mn, .inl (cI, 8, .inl sf)), (it, .inl (cI, 320, .inl tf))]) (wt_runV (As := [.int 2]) (rest := []) ⟨hx, hb, hml, hown, hts⟩ (c_X6_finding l D cI cZ cH md 2 (.int 0) (.int 0) (.ref ln) (.ref mn) (.ref it) vm_5 vm_6 vm_7 vm_8 vm_9 vm_10 vm_11 vm_12 vm_13 vm_14 vm_15 vm_16 vm_17 vm_18 vm_19 vm_20 vm_21 vm_22 vm_23) (cwV 1 hts gX6_copy_X6_finding rfl rfl rfl (by decide +kernel) ⟨Nat.le_of_ble_eq_true rfl, Nat.le_of_ble_eq_true rfl⟩) hK hP hD [0] rfl (by decide) (va_recv hK.1 hP (ci := 6) (q0 := 0) rfl rfl) rfl hl.1 rfl (Nat.le_of_ble_eq_true rfl) dX6_copy_123 ⟨Nat.le_of_ble_eq_true rfl, Nat.le_of_ble_eq_true rfl⟩) hP hD hS hA [0] [1, 2, 3] rfl rfl (by decide) (by decide) (fun r_32 w_33 H locs h_34 hP hD hS => ?_)
                    obtain ⟨rfl, rfl⟩ := h_34
                    have hP : va_P D vwCl [(ln, .inl (cI, 8, .inl lf)), (mn, .inl (cI, 8, .inl sf)), (it, .inl (cI, 320, .inl tf)), (md, .inr (6, [.int 0, .int 2, .ref ln, .ref mn, .ref it, vm_5, vm_6, vm_7, vm_8, vm_9, vm_10, vm_11, vm_12, vm_13, vm_14, vm_15, vm_16, vm_17, vm_18, vm_19, vm_20, vm_21, vm_22, vm_23]))] H := hP
                    have hD : va_D A [(ln, .inl (cI, 8, .inl lf)), (mn, .inl (cI, 8, .inl sf)), (it, .inl (cI, 320, .inl tf)), (md, .inr (6, [.int 0, .int 2, .ref ln, .ref mn, .ref it, vm_5, vm_6, vm_7, vm_8, vm_9, vm_10, vm_11, vm_12, vm_13, vm_14, vm_15, vm_16, vm_17, vm_18, vm_19, vm_20, vm_21, vm_22, vm_23]))] := hD
                    refine wt_top (z := (-1000012)) (by decide) ?_
                    have hP9 := hP.sub (ws' := [(md, .inr (6, [.int 0, .int 2, .ref ln, .ref mn, .ref it, vm_5, vm_6, vm_7, vm_8, vm_9, vm_10, vm_11, vm_12, vm_13, vm_14, vm_15, vm_16, vm_17, vm_18, vm_19, vm_20, vm_21, vm_22, vm_23])), (ln, .inl (cI, 8, .inl lf)), (mn, .inl (cI, 8, .inl sf)), (it, .inl (cI, 320, .inl tf))]) [3, 0, 1, 2] rfl
                    have hD9 := hD.sub (ws' := [(md, .inr (6, [.int 0, .int 2, .ref ln, .ref mn, .ref it, vm_5, vm_6, vm_7, vm_8, vm_9, vm_10, vm_11, vm_12, vm_13, vm_14, vm_15, vm_16, vm_17, vm_18, vm_19, vm_20, vm_21, vm_22, vm_23])), (ln, .inl (cI, 8, .inl lf)), (mn, .inl (cI, 8, .inl sf)), (it, .inl (cI, 320, .inl tf))]) [3, 0, 1, 2] (by decide) rfl
                    exact wt_iret hx hb hr hlocks hP9 hD9 hS ⟨tf, 2, rfl, (by exact (fA_2 (copyF_on c_3 (by omega) c_7 (by omega) (cpF_i (nl_m1 c_9) (nl_m1 (wt_nlt c_13)) c_14 (rs_e2 (rs_g (nl_m1 c_9) eq_30 (by omega) (by omega) (by omega) c_31)))) _).symm), (fQ_k (copyF_on c_3 (by omega) c_7 (by omega) (cpF_i (nl_m1 c_9) (nl_m1 (wt_nlt c_13)) c_14 (rs_e2 (rs_g (nl_m1 c_9) eq_30 (by omega) (by omega) (by omega) c_31)))) (by decide) sv).symm⟩ dX6_copy_126
                  · skip
                    have le_35 := wt_lcle (by omega) (by omega) c_31
                    refine lv_iload hx hb dX6_copy_103 (lv_at hl 4 rfl) ?_
                    refine lv_i2l hx hb dX6_copy_105 rfl ?_
                    refine wt_topl (z := lN z_28) (nI_l (by omega)) ?_
                    refine lv_iload hx hb dX6_copy_106 (lv_at hl 5 rfl) ?_
                    refine lv_i2l hx hb dX6_copy_108 rfl ?_
                    refine wt_topl (z := lN z_29) (nI_l (by omega)) ?_
                    refine lv_ladd hx hb dX6_copy_109 ?_
                    refine wt_topl (z := lN (z_28 + z_29)) (lN_add z_28 z_29) ?_
                    refine lv_aload_n hx hb dX6_copy_110 rfl (lv_at hl 0 rfl) ?_
                    refine va_get (D := D) (ci := 6) (v := .ref mn) (C := RX6) (T := TX6) (N := 24) hx hb hts hi6 hown hK.1 hP 0 rfl rfl 3 (by decide) wf13 (fun _ h9 => h9) rfl dX6_copy_111 ?_
                    refine lv_iload_n hx hb dX6_copy_114 rfl (lv_at hl 3 rfl) ?_
                    refine va_iald hx hb hK.1 hP 2 0 rfl rfl (vp_in_nI (by omega) (by omega)) dX6_copy_115 ?_
                    obtain ⟨q_36, hq_36, eq_36⟩ := hs8 j_8 (by omega)
                    refine wt_top (z := nI q_36) (by rw [nI_clamp (by omega)]; exact eq_36) ?_
                    refine lv_i2l hx hb dX6_copy_116 rfl ?_
                    refine wt_topl (z := lN q_36) (nI_l (by omega)) ?_
                    refine W.lcmp hx hb dX6_copy_117 ?_
                    refine lv_if_le (tgt := 127) hx hb dX6_copy_118 (by decide) (fun c_37 => ?_) (fun c_37 => ?_)
                    · skip
                      have le_38 := wt_lcle (by omega) (by omega) (wt_ngt c_37)
                      refine lv_iload_n hx hb dX6_copy_127 rfl (lv_at hl 2 rfl) ?_
                      refine lv_iload hx hb dX6_copy_128 (lv_at hl 4 rfl) ?_
                      refine lv_icmp_lt (tgt := 137) hx hb dX6_copy_130 (by decide) (fun c_39 => ?_) (fun c_39 => ?_)
                      · skip
                        have c_39 : z_27 < z_28 := (nI_ltI (a := z_27) (b := z_28) (by omega) (by omega)).mp c_39
                        refine lv_iconst (v := 0) hx hb dX6_copy_137 (by decide) ?_
                        refine lv_istore (lv' := [(6, .int 0), (0, .ref md), (1, .int (nI j_4)), (2, .int (nI z_27)), (3, .int (nI j_8)), (4, .int (nI z_28)), (5, .int (nI z_29))]) hx hb dX6_copy_138 hl (by decide) rfl (fun ls hl => ?_)
                        refine lv_iconst (v := 0) hx hb dX6_copy_140 (by decide) ?_
                        refine lv_istore (lv' := [(7, .int 0), (6, .int 0), (0, .ref md), (1, .int (nI j_4)), (2, .int (nI z_27)), (3, .int (nI j_8)), (4, .int (nI z_28)), (5, .int (nI z_29))]) hx hb dX6_copy_141 hl (by decide) rfl (fun ls hl => ?_)
                        have loop143 : ∀ (k i_40 : Nat) (tf_41 : Nat → Int32) (H : Heap) (locs : List Loc) (ls : Array Slot), i_40 + k = z_29 → va_P D vwCl [(md, .inr (6, [.int 0, .int 0, .ref ln, .ref mn, .ref it, vm_5, vm_6, vm_7, vm_8, vm_9, vm_10, vm_11, vm_12, vm_13, vm_14, vm_15, vm_16, vm_17, vm_18, vm_19, vm_20, vm_21, vm_22, vm_23])), (ln, .inl (cI, 8, .inl lf)), (mn, .inl (cI, 8, .inl sf)), (it, .inl (cI, 320, .inl tf_41))] H → va_D A [(md, .inr (6, [.int 0, .int 0, .ref ln, .ref mn, .ref it, vm_5, vm_6, vm_7, vm_8, vm_9, vm_10, vm_11, vm_12, vm_13, vm_14, vm_15, vm_16, vm_17, vm_18, vm_19, vm_20, vm_21, vm_22, vm_23])), (ln, .inl (cI, 8, .inl lf)), (mn, .inl (cI, 8, .inl sf)), (it, .inl (cI, 320, .inl tf_41))] → va_S A s.heap H locs → lv_has ls 9 [(7, .int (nI i_40)), (6, .int 0), (0, .ref md), (1, .int (nI j_4)), (2, .int (nI z_27)), (3, .int (nI j_8)), (4, .int (nI z_28)), (5, .int (nI z_29))] → W p l e ({ frames := 2, cells := 0, slots := 0, locals := 45 } : Room) s m ([.ref md, .int (nI j_4), .int (nI z_27), .int (nI j_8), .int (nI z_28), .int (nI z_29)] : List Value).toArray below meth c H locs 0 0 (MQ below (wt_QI D (fun r w => ∃ (tf2 : Nat → Int32) (md_f1 : Int32), w = [(md, .inr (6, [.int 0, .int md_f1, .ref ln, .ref mn, .ref it, vm_5, vm_6, vm_7, vm_8, vm_9, vm_10, vm_11, vm_12, vm_13, vm_14, vm_15, vm_16, vm_17, vm_18, vm_19, vm_20, vm_21, vm_22, vm_23])), (ln, .inl (cI, 8, .inl lf)), (mn, .inl (cI, 8, .inl sf)), (it, .inl (cI, 320, .inl tf2))] ∧ r = fA (copyF lf sf (nI j_4) (nI z_27) (nI j_8) (nI z_28) (nI z_29)) (nI z_29) ∧ md_f1 = fQ (copyF lf sf (nI j_4) (nI z_27) (nI j_8) (nI z_28) (nI z_29)) sv) A) ([.ref md, .int (nI j_4), .int (nI z_27), .int (nI j_8), .int (nI z_28), .int (nI z_29)] : List Value).toArray s 0 0 A) (F0 m 143 ls []) := by
                          intro k
                          induction k with
                          | zero =>
                            intro i_40 tf_41 H locs ls hik  hP hD hS hl
                            refine lv_iload hx hb dX6_copy_143 (lv_at hl 0 rfl) ?_
                            refine lv_iload hx hb dX6_copy_145 (lv_at hl 7 rfl) ?_
                            refine lv_icmp_ge (tgt := 204) hx hb dX6_copy_147 (by decide) (fun _ => ?_) (fun h => absurd (nI_le (a := z_29) (b := i_40) (by omega) (by omega)) h)
                            refine lv_iload hx hb dX6_copy_204 (lv_at hl 7 rfl) ?_
                            have hP9 := hP.sub (ws' := [(md, .inr (6, [.int 0, .int 0, .ref ln, .ref mn, .ref it, vm_5, vm_6, vm_7, vm_8, vm_9, vm_10, vm_11, vm_12, vm_13, vm_14, vm_15, vm_16, vm_17, vm_18, vm_19, vm_20, vm_21, vm_22, vm_23])), (ln, .inl (cI, 8, .inl lf)), (mn, .inl (cI, 8, .inl sf)), (it, .inl (cI, 320, .inl tf_41))]) [0, 1, 2, 3] rfl
                            have hD9 := hD.sub (ws' := [(md, .inr (6, [.int 0, .int 0, .ref ln, .ref mn, .ref it, vm_5, vm_6, vm_7, vm_8, vm_9, vm_10, vm_11, vm_12, vm_13, vm_14, vm_15, vm_16, vm_17, vm_18, vm_19, vm_20, vm_21, vm_22, vm_23])), (ln, .inl (cI, 8, .inl lf)), (mn, .inl (cI, 8, .inl sf)), (it, .inl (cI, 320, .inl tf_41))]) [0, 1, 2, 3] (by decide) rfl
                            exact wt_iret hx hb hr hlocks hP9 hD9 hS ⟨tf_41, 0, rfl, (by exact (fA_0 (copyF_on c_3 (by omega) c_7 (by omega) (cpF_0 (nl_m1 c_9) (nl_m1 (wt_nlt c_13)) c_14 (rs_l (nl_m1 c_9) eq_30 (by omega) (by omega) (by omega) (by omega)) (rs_l (nl_m1 (wt_nlt c_13)) eq_36 (by omega) (by omega) (by omega) (by omega)))) _).symm), (fQ_k (copyF_on c_3 (by omega) c_7 (by omega) (cpF_0 (nl_m1 c_9) (nl_m1 (wt_nlt c_13)) c_14 (rs_l (nl_m1 c_9) eq_30 (by omega) (by omega) (by omega) (by omega)) (rs_l (nl_m1 (wt_nlt c_13)) eq_36 (by omega) (by omega) (by omega) (by omega)))) (by decide) sv).symm⟩ dX6_copy_206
                          | succ k ih143 =>
                            intro i_40 tf_41 H locs ls hik  hP hD hS hl
                            refine lv_iload hx hb dX6_copy_143 (lv_at hl 0 rfl) ?_
                            refine lv_iload hx hb dX6_copy_145 (lv_at hl 7 rfl) ?_
                            refine lv_icmp_ge (tgt := 204) hx hb dX6_copy_147 (by decide) (fun h => absurd h (nI_ge (a := i_40) (b := z_29) (by omega) (by omega))) (fun _ => ?_)
                            refine lv_iload hx hb dX6_copy_150 (lv_at hl 1 rfl) ?_
                            refine lv_if_eq (tgt := 160) hx hb dX6_copy_152 (by decide) (fun _ => ?_) (fun h => absurd h (by decide))
                            refine lv_iload hx hb dX6_copy_160 (lv_at hl 7 rfl) ?_
                            refine lv_iconst (v := 1) hx hb dX6_copy_162 (by decide) ?_
                            refine lv_isub hx hb dX6_copy_163 ?_
                            refine wt_top (z := nI (z_29 - 1)) (pk_sub (a := z_29) (b := 1) (by omega)) ?_
                            refine lv_iload hx hb dX6_copy_164 (lv_at hl 0 rfl) ?_
                            refine lv_isub hx hb dX6_copy_166 ?_
                            refine wt_top (z := nI ((z_29 - 1) - i_40)) (pk_sub (a := (z_29 - 1)) (b := i_40) (by omega)) ?_
                            refine lv_istore (lv' := [(8, .int (nI ((z_29 - 1) - i_40))), (7, .int (nI i_40)), (6, .int 0), (0, .ref md), (1, .int (nI j_4)), (2, .int (nI z_27)), (3, .int (nI j_8)), (4, .int (nI z_28)), (5, .int (nI z_29))]) hx hb dX6_copy_167 hl (by decide) rfl (fun ls hl => ?_)
                            refine lv_aload_n hx hb dX6_copy_169 rfl (lv_at hl 3 rfl) ?_
                            refine va_get (D := D) (ci := 6) (v := .ref it) (C := RX6) (T := TX6) (N := 24) hx hb hts hi6 hown hK.1 hP 0 rfl rfl 4 (by decide) wf16 (fun _ h9 => h9) rfl dX6_copy_170 ?_
                            refine lv_bipush (v := 40) hx hb dX6_copy_173 (by decide) ?_
                            refine lv_iload_n hx hb dX6_copy_175 rfl (lv_at hl 6 rfl) ?_
                            refine lv_imul hx hb dX6_copy_176 ?_
                            refine wt_top (z := nI (40 * j_8)) (pk_mul 40 j_8) ?_
                            refine lv_iload hx hb dX6_copy_177 (lv_at hl 7 rfl) ?_
                            refine lv_iadd hx hb dX6_copy_179 ?_
                            refine wt_top (z := nI ((40 * j_8) + z_28)) (nI_add (40 * j_8) z_28) ?_
                            refine lv_iload hx hb dX6_copy_180 (lv_at hl 0 rfl) ?_
                            refine lv_iadd hx hb dX6_copy_182 ?_
                            refine wt_top (z := nI (((40 * j_8) + z_28) + ((z_29 - 1) - i_40))) (nI_add ((40 * j_8) + z_28) ((z_29 - 1) - i_40)) ?_
                            refine lv_aload_n hx hb dX6_copy_183 rfl (lv_at hl 3 rfl) ?_
                            refine va_get (D := D) (ci := 6) (v := .ref it) (C := RX6) (T := TX6) (N := 24) hx hb hts hi6 hown hK.1 hP 0 rfl rfl 4 (by decide) wf16 (fun _ h9 => h9) rfl dX6_copy_184 ?_
                            refine lv_bipush (v := 40) hx hb dX6_copy_187 (by decide) ?_
                            refine lv_iload_n hx hb dX6_copy_189 rfl (lv_at hl 4 rfl) ?_
                            refine lv_imul hx hb dX6_copy_190 ?_
                            refine wt_top (z := nI (40 * j_4)) (pk_mul 40 j_4) ?_
                            refine lv_iload_n hx hb dX6_copy_191 rfl (lv_at hl 5 rfl) ?_
                            refine lv_iadd hx hb dX6_copy_192 ?_
                            refine wt_top (z := nI ((40 * j_4) + z_27)) (nI_add (40 * j_4) z_27) ?_
                            refine lv_iload hx hb dX6_copy_193 (lv_at hl 0 rfl) ?_
                            refine lv_iadd hx hb dX6_copy_195 ?_
                            refine wt_top (z := nI (((40 * j_4) + z_27) + ((z_29 - 1) - i_40))) (nI_add ((40 * j_4) + z_27) ((z_29 - 1) - i_40)) ?_
                            refine va_iald hx hb hK.1 hP 3 0 rfl rfl (vp_in_nI (by omega) (by omega)) dX6_copy_196 ?_
                            refine lv_topi (fun ov_42 _ => ?_)
                            refine va_iast hx hb hK.1 hP hD hS 3 0 rfl rfl (vp_in_nI (by omega) (by omega)) dX6_copy_197 (fun H locs hP hD hS => ?_)
                            have hP : va_P D vwCl [(md, .inr (6, [.int 0, .int 0, .ref ln, .ref mn, .ref it, vm_5, vm_6, vm_7, vm_8, vm_9, vm_10, vm_11, vm_12, vm_13, vm_14, vm_15, vm_16, vm_17, vm_18, vm_19, vm_20, vm_21, vm_22, vm_23])), (ln, .inl (cI, 8, .inl lf)), (mn, .inl (cI, 8, .inl sf)), (it, .inl (cI, 320, .inl (upd tf_41 ((nI (((40 * j_8) + z_28) + ((z_29 - 1) - i_40))).toNatClampNeg) ov_42)))] H := hP
                            have hD : va_D A [(md, .inr (6, [.int 0, .int 0, .ref ln, .ref mn, .ref it, vm_5, vm_6, vm_7, vm_8, vm_9, vm_10, vm_11, vm_12, vm_13, vm_14, vm_15, vm_16, vm_17, vm_18, vm_19, vm_20, vm_21, vm_22, vm_23])), (ln, .inl (cI, 8, .inl lf)), (mn, .inl (cI, 8, .inl sf)), (it, .inl (cI, 320, .inl (upd tf_41 ((nI (((40 * j_8) + z_28) + ((z_29 - 1) - i_40))).toNatClampNeg) ov_42)))] := hD
                            generalize upd tf_41 ((nI (((40 * j_8) + z_28) + ((z_29 - 1) - i_40))).toNatClampNeg) ov_42 = tf_43 at hP hD
                            refine lv_iinc (v := nI (i_40 + 1)) (lv' := [(7, .int (nI (i_40 + 1))), (8, .int (nI ((z_29 - 1) - i_40))), (6, .int 0), (0, .ref md), (1, .int (nI j_4)), (2, .int (nI z_27)), (3, .int (nI j_8)), (4, .int (nI z_28)), (5, .int (nI z_29))]) hx hb dX6_copy_198 hl (k := 1) rfl (nI_add i_40 1) (by decide) rfl (fun ls hl => ?_)
                            refine lv_goto (tgt := 143) hx hb dX6_copy_201 (by decide) ?_
                            exact ih143 ((i_40 + 1)) tf_43 H locs ls (by omega)  hP hD hS (lv_sub hl [0, 2, 3, 4, 5, 6, 7, 8] rfl)
                        exact loop143 (z_29 - 0) (0) tf _ _ ls (by omega)  hP hD hS hl
                      · skip
                        have c_39 : ¬ (z_27 < z_28) := fun h => c_39 ((nI_ltI (a := z_27) (b := z_28) (by omega) (by omega)).mpr h)
                        refine lv_iconst (v := 1) hx hb dX6_copy_133 (by decide) ?_
                        refine lv_goto (tgt := 138) hx hb dX6_copy_134 (by decide) ?_
                        refine lv_istore (lv' := [(6, .int 1), (0, .ref md), (1, .int (nI j_4)), (2, .int (nI z_27)), (3, .int (nI j_8)), (4, .int (nI z_28)), (5, .int (nI z_29))]) hx hb dX6_copy_138 hl (by decide) rfl (fun ls hl => ?_)
                        refine lv_iconst (v := 0) hx hb dX6_copy_140 (by decide) ?_
                        refine lv_istore (lv' := [(7, .int 0), (6, .int 1), (0, .ref md), (1, .int (nI j_4)), (2, .int (nI z_27)), (3, .int (nI j_8)), (4, .int (nI z_28)), (5, .int (nI z_29))]) hx hb dX6_copy_141 hl (by decide) rfl (fun ls hl => ?_)
                        have loop143 : ∀ (k i_44 : Nat) (tf_45 : Nat → Int32) (H : Heap) (locs : List Loc) (ls : Array Slot), i_44 + k = z_29 → va_P D vwCl [(md, .inr (6, [.int 0, .int 0, .ref ln, .ref mn, .ref it, vm_5, vm_6, vm_7, vm_8, vm_9, vm_10, vm_11, vm_12, vm_13, vm_14, vm_15, vm_16, vm_17, vm_18, vm_19, vm_20, vm_21, vm_22, vm_23])), (ln, .inl (cI, 8, .inl lf)), (mn, .inl (cI, 8, .inl sf)), (it, .inl (cI, 320, .inl tf_45))] H → va_D A [(md, .inr (6, [.int 0, .int 0, .ref ln, .ref mn, .ref it, vm_5, vm_6, vm_7, vm_8, vm_9, vm_10, vm_11, vm_12, vm_13, vm_14, vm_15, vm_16, vm_17, vm_18, vm_19, vm_20, vm_21, vm_22, vm_23])), (ln, .inl (cI, 8, .inl lf)), (mn, .inl (cI, 8, .inl sf)), (it, .inl (cI, 320, .inl tf_45))] → va_S A s.heap H locs → lv_has ls 9 [(7, .int (nI i_44)), (6, .int 1), (0, .ref md), (1, .int (nI j_4)), (2, .int (nI z_27)), (3, .int (nI j_8)), (4, .int (nI z_28)), (5, .int (nI z_29))] → W p l e ({ frames := 2, cells := 0, slots := 0, locals := 45 } : Room) s m ([.ref md, .int (nI j_4), .int (nI z_27), .int (nI j_8), .int (nI z_28), .int (nI z_29)] : List Value).toArray below meth c H locs 0 0 (MQ below (wt_QI D (fun r w => ∃ (tf2 : Nat → Int32) (md_f1 : Int32), w = [(md, .inr (6, [.int 0, .int md_f1, .ref ln, .ref mn, .ref it, vm_5, vm_6, vm_7, vm_8, vm_9, vm_10, vm_11, vm_12, vm_13, vm_14, vm_15, vm_16, vm_17, vm_18, vm_19, vm_20, vm_21, vm_22, vm_23])), (ln, .inl (cI, 8, .inl lf)), (mn, .inl (cI, 8, .inl sf)), (it, .inl (cI, 320, .inl tf2))] ∧ r = fA (copyF lf sf (nI j_4) (nI z_27) (nI j_8) (nI z_28) (nI z_29)) (nI z_29) ∧ md_f1 = fQ (copyF lf sf (nI j_4) (nI z_27) (nI j_8) (nI z_28) (nI z_29)) sv) A) ([.ref md, .int (nI j_4), .int (nI z_27), .int (nI j_8), .int (nI z_28), .int (nI z_29)] : List Value).toArray s 0 0 A) (F0 m 143 ls []) := by
                          intro k
                          induction k with
                          | zero =>
                            intro i_44 tf_45 H locs ls hik  hP hD hS hl
                            refine lv_iload hx hb dX6_copy_143 (lv_at hl 0 rfl) ?_
                            refine lv_iload hx hb dX6_copy_145 (lv_at hl 7 rfl) ?_
                            refine lv_icmp_ge (tgt := 204) hx hb dX6_copy_147 (by decide) (fun _ => ?_) (fun h => absurd (nI_le (a := z_29) (b := i_44) (by omega) (by omega)) h)
                            refine lv_iload hx hb dX6_copy_204 (lv_at hl 7 rfl) ?_
                            have hP9 := hP.sub (ws' := [(md, .inr (6, [.int 0, .int 0, .ref ln, .ref mn, .ref it, vm_5, vm_6, vm_7, vm_8, vm_9, vm_10, vm_11, vm_12, vm_13, vm_14, vm_15, vm_16, vm_17, vm_18, vm_19, vm_20, vm_21, vm_22, vm_23])), (ln, .inl (cI, 8, .inl lf)), (mn, .inl (cI, 8, .inl sf)), (it, .inl (cI, 320, .inl tf_45))]) [0, 1, 2, 3] rfl
                            have hD9 := hD.sub (ws' := [(md, .inr (6, [.int 0, .int 0, .ref ln, .ref mn, .ref it, vm_5, vm_6, vm_7, vm_8, vm_9, vm_10, vm_11, vm_12, vm_13, vm_14, vm_15, vm_16, vm_17, vm_18, vm_19, vm_20, vm_21, vm_22, vm_23])), (ln, .inl (cI, 8, .inl lf)), (mn, .inl (cI, 8, .inl sf)), (it, .inl (cI, 320, .inl tf_45))]) [0, 1, 2, 3] (by decide) rfl
                            exact wt_iret hx hb hr hlocks hP9 hD9 hS ⟨tf_45, 0, rfl, (by exact (fA_0 (copyF_on c_3 (by omega) c_7 (by omega) (cpF_0 (nl_m1 c_9) (nl_m1 (wt_nlt c_13)) c_14 (rs_l (nl_m1 c_9) eq_30 (by omega) (by omega) (by omega) (by omega)) (rs_l (nl_m1 (wt_nlt c_13)) eq_36 (by omega) (by omega) (by omega) (by omega)))) _).symm), (fQ_k (copyF_on c_3 (by omega) c_7 (by omega) (cpF_0 (nl_m1 c_9) (nl_m1 (wt_nlt c_13)) c_14 (rs_l (nl_m1 c_9) eq_30 (by omega) (by omega) (by omega) (by omega)) (rs_l (nl_m1 (wt_nlt c_13)) eq_36 (by omega) (by omega) (by omega) (by omega)))) (by decide) sv).symm⟩ dX6_copy_206
                          | succ k ih143 =>
                            intro i_44 tf_45 H locs ls hik  hP hD hS hl
                            refine lv_iload hx hb dX6_copy_143 (lv_at hl 0 rfl) ?_
                            refine lv_iload hx hb dX6_copy_145 (lv_at hl 7 rfl) ?_
                            refine lv_icmp_ge (tgt := 204) hx hb dX6_copy_147 (by decide) (fun h => absurd h (nI_ge (a := i_44) (b := z_29) (by omega) (by omega))) (fun _ => ?_)
                            refine lv_iload hx hb dX6_copy_150 (lv_at hl 1 rfl) ?_
                            refine lv_if_eq (tgt := 160) hx hb dX6_copy_152 (by decide) (fun h => absurd h (by decide)) (fun _ => ?_)
                            refine lv_iload hx hb dX6_copy_155 (lv_at hl 0 rfl) ?_
                            refine lv_goto (tgt := 167) hx hb dX6_copy_157 (by decide) ?_
                            refine lv_istore (lv' := [(8, .int (nI i_44)), (7, .int (nI i_44)), (6, .int 1), (0, .ref md), (1, .int (nI j_4)), (2, .int (nI z_27)), (3, .int (nI j_8)), (4, .int (nI z_28)), (5, .int (nI z_29))]) hx hb dX6_copy_167 hl (by decide) rfl (fun ls hl => ?_)
                            refine lv_aload_n hx hb dX6_copy_169 rfl (lv_at hl 3 rfl) ?_
                            refine va_get (D := D) (ci := 6) (v := .ref it) (C := RX6) (T := TX6) (N := 24) hx hb hts hi6 hown hK.1 hP 0 rfl rfl 4 (by decide) wf16 (fun _ h9 => h9) rfl dX6_copy_170 ?_
                            refine lv_bipush (v := 40) hx hb dX6_copy_173 (by decide) ?_
                            refine lv_iload_n hx hb dX6_copy_175 rfl (lv_at hl 6 rfl) ?_
                            refine lv_imul hx hb dX6_copy_176 ?_
                            refine wt_top (z := nI (40 * j_8)) (pk_mul 40 j_8) ?_
                            refine lv_iload hx hb dX6_copy_177 (lv_at hl 7 rfl) ?_
                            refine lv_iadd hx hb dX6_copy_179 ?_
                            refine wt_top (z := nI ((40 * j_8) + z_28)) (nI_add (40 * j_8) z_28) ?_
                            refine lv_iload hx hb dX6_copy_180 (lv_at hl 0 rfl) ?_
                            refine lv_iadd hx hb dX6_copy_182 ?_
                            refine wt_top (z := nI (((40 * j_8) + z_28) + i_44)) (nI_add ((40 * j_8) + z_28) i_44) ?_
                            refine lv_aload_n hx hb dX6_copy_183 rfl (lv_at hl 3 rfl) ?_
                            refine va_get (D := D) (ci := 6) (v := .ref it) (C := RX6) (T := TX6) (N := 24) hx hb hts hi6 hown hK.1 hP 0 rfl rfl 4 (by decide) wf16 (fun _ h9 => h9) rfl dX6_copy_184 ?_
                            refine lv_bipush (v := 40) hx hb dX6_copy_187 (by decide) ?_
                            refine lv_iload_n hx hb dX6_copy_189 rfl (lv_at hl 4 rfl) ?_
                            refine lv_imul hx hb dX6_copy_190 ?_
                            refine wt_top (z := nI (40 * j_4)) (pk_mul 40 j_4) ?_
                            refine lv_iload_n hx hb dX6_copy_191 rfl (lv_at hl 5 rfl) ?_
                            refine lv_iadd hx hb dX6_copy_192 ?_
                            refine wt_top (z := nI ((40 * j_4) + z_27)) (nI_add (40 * j_4) z_27) ?_
                            refine lv_iload hx hb dX6_copy_193 (lv_at hl 0 rfl) ?_
                            refine lv_iadd hx hb dX6_copy_195 ?_
                            refine wt_top (z := nI (((40 * j_4) + z_27) + i_44)) (nI_add ((40 * j_4) + z_27) i_44) ?_
                            refine va_iald hx hb hK.1 hP 3 0 rfl rfl (vp_in_nI (by omega) (by omega)) dX6_copy_196 ?_
                            refine lv_topi (fun ov_46 _ => ?_)
                            refine va_iast hx hb hK.1 hP hD hS 3 0 rfl rfl (vp_in_nI (by omega) (by omega)) dX6_copy_197 (fun H locs hP hD hS => ?_)
                            have hP : va_P D vwCl [(md, .inr (6, [.int 0, .int 0, .ref ln, .ref mn, .ref it, vm_5, vm_6, vm_7, vm_8, vm_9, vm_10, vm_11, vm_12, vm_13, vm_14, vm_15, vm_16, vm_17, vm_18, vm_19, vm_20, vm_21, vm_22, vm_23])), (ln, .inl (cI, 8, .inl lf)), (mn, .inl (cI, 8, .inl sf)), (it, .inl (cI, 320, .inl (upd tf_45 ((nI (((40 * j_8) + z_28) + i_44)).toNatClampNeg) ov_46)))] H := hP
                            have hD : va_D A [(md, .inr (6, [.int 0, .int 0, .ref ln, .ref mn, .ref it, vm_5, vm_6, vm_7, vm_8, vm_9, vm_10, vm_11, vm_12, vm_13, vm_14, vm_15, vm_16, vm_17, vm_18, vm_19, vm_20, vm_21, vm_22, vm_23])), (ln, .inl (cI, 8, .inl lf)), (mn, .inl (cI, 8, .inl sf)), (it, .inl (cI, 320, .inl (upd tf_45 ((nI (((40 * j_8) + z_28) + i_44)).toNatClampNeg) ov_46)))] := hD
                            generalize upd tf_45 ((nI (((40 * j_8) + z_28) + i_44)).toNatClampNeg) ov_46 = tf_47 at hP hD
                            refine lv_iinc (v := nI (i_44 + 1)) (lv' := [(7, .int (nI (i_44 + 1))), (8, .int (nI i_44)), (6, .int 1), (0, .ref md), (1, .int (nI j_4)), (2, .int (nI z_27)), (3, .int (nI j_8)), (4, .int (nI z_28)), (5, .int (nI z_29))]) hx hb dX6_copy_198 hl (k := 1) rfl (nI_add i_44 1) (by decide) rfl (fun ls hl => ?_)
                            refine lv_goto (tgt := 143) hx hb dX6_copy_201 (by decide) ?_
                            exact ih143 ((i_44 + 1)) tf_47 H locs ls (by omega)  hP hD hS (lv_sub hl [0, 2, 3, 4, 5, 6, 7, 8] rfl)
                        exact loop143 (z_29 - 0) (0) tf _ _ ls (by omega)  hP hD hS hl
                    · skip
                      refine lv_aload_n hx hb dX6_copy_121 rfl (lv_at hl 0 rfl) ?_
                      refine lv_iconst (v := 2) hx hb dX6_copy_122 (by decide) ?_
                      refine wt_goI (wr := [(ln, .inl (cI, 8, .inl lf)), (mn, .inl (cI, 8, .inl sf)), (it, .inl (cI, 320, .inl tf))]) (wt_runV (As := [.int 2]) (rest := []) ⟨hx, hb, hml, hown, hts⟩ (c_X6_finding l D cI cZ cH md 2 (.int 0) (.int 0) (.ref ln) (.ref mn) (.ref it) vm_5 vm_6 vm_7 vm_8 vm_9 vm_10 vm_11 vm_12 vm_13 vm_14 vm_15 vm_16 vm_17 vm_18 vm_19 vm_20 vm_21 vm_22 vm_23) (cwV 1 hts gX6_copy_X6_finding rfl rfl rfl (by decide +kernel) ⟨Nat.le_of_ble_eq_true rfl, Nat.le_of_ble_eq_true rfl⟩) hK hP hD [0] rfl (by decide) (va_recv hK.1 hP (ci := 6) (q0 := 0) rfl rfl) rfl hl.1 rfl (Nat.le_of_ble_eq_true rfl) dX6_copy_123 ⟨Nat.le_of_ble_eq_true rfl, Nat.le_of_ble_eq_true rfl⟩) hP hD hS hA [0] [1, 2, 3] rfl rfl (by decide) (by decide) (fun r_48 w_49 H locs h_50 hP hD hS => ?_)
                      obtain ⟨rfl, rfl⟩ := h_50
                      have hP : va_P D vwCl [(ln, .inl (cI, 8, .inl lf)), (mn, .inl (cI, 8, .inl sf)), (it, .inl (cI, 320, .inl tf)), (md, .inr (6, [.int 0, .int 2, .ref ln, .ref mn, .ref it, vm_5, vm_6, vm_7, vm_8, vm_9, vm_10, vm_11, vm_12, vm_13, vm_14, vm_15, vm_16, vm_17, vm_18, vm_19, vm_20, vm_21, vm_22, vm_23]))] H := hP
                      have hD : va_D A [(ln, .inl (cI, 8, .inl lf)), (mn, .inl (cI, 8, .inl sf)), (it, .inl (cI, 320, .inl tf)), (md, .inr (6, [.int 0, .int 2, .ref ln, .ref mn, .ref it, vm_5, vm_6, vm_7, vm_8, vm_9, vm_10, vm_11, vm_12, vm_13, vm_14, vm_15, vm_16, vm_17, vm_18, vm_19, vm_20, vm_21, vm_22, vm_23]))] := hD
                      refine wt_top (z := (-1000012)) (by decide) ?_
                      have hP9 := hP.sub (ws' := [(md, .inr (6, [.int 0, .int 2, .ref ln, .ref mn, .ref it, vm_5, vm_6, vm_7, vm_8, vm_9, vm_10, vm_11, vm_12, vm_13, vm_14, vm_15, vm_16, vm_17, vm_18, vm_19, vm_20, vm_21, vm_22, vm_23])), (ln, .inl (cI, 8, .inl lf)), (mn, .inl (cI, 8, .inl sf)), (it, .inl (cI, 320, .inl tf))]) [3, 0, 1, 2] rfl
                      have hD9 := hD.sub (ws' := [(md, .inr (6, [.int 0, .int 2, .ref ln, .ref mn, .ref it, vm_5, vm_6, vm_7, vm_8, vm_9, vm_10, vm_11, vm_12, vm_13, vm_14, vm_15, vm_16, vm_17, vm_18, vm_19, vm_20, vm_21, vm_22, vm_23])), (ln, .inl (cI, 8, .inl lf)), (mn, .inl (cI, 8, .inl sf)), (it, .inl (cI, 320, .inl tf))]) [3, 0, 1, 2] (by decide) rfl
                      exact wt_iret hx hb hr hlocks hP9 hD9 hS ⟨tf, 2, rfl, (by exact (fA_2 (copyF_on c_3 (by omega) c_7 (by omega) (cpF_j (nl_m1 c_9) (nl_m1 (wt_nlt c_13)) c_14 (rs_e2 (rs_g (nl_m1 (wt_nlt c_13)) eq_36 (by omega) (by omega) (by omega) (ng_gt c_37))))) _).symm), (fQ_k (copyF_on c_3 (by omega) c_7 (by omega) (cpF_j (nl_m1 c_9) (nl_m1 (wt_nlt c_13)) c_14 (rs_e2 (rs_g (nl_m1 (wt_nlt c_13)) eq_36 (by omega) (by omega) (by omega) (ng_gt c_37))))) (by decide) sv).symm⟩ dX6_copy_126
          · skip
            refine lv_aload_n hx hb dX6_copy_66 rfl (lv_at hl 0 rfl) ?_
            refine lv_iconst (v := 5) hx hb dX6_copy_67 (by decide) ?_
            refine wt_goI (wr := [(ln, .inl (cI, 8, .inl lf)), (mn, .inl (cI, 8, .inl sf)), (it, .inl (cI, 320, .inl tf))]) (wt_runV (As := [.int 5]) (rest := []) ⟨hx, hb, hml, hown, hts⟩ (c_X6_finding l D cI cZ cH md 5 (.int 0) (.int 0) (.ref ln) (.ref mn) (.ref it) vm_5 vm_6 vm_7 vm_8 vm_9 vm_10 vm_11 vm_12 vm_13 vm_14 vm_15 vm_16 vm_17 vm_18 vm_19 vm_20 vm_21 vm_22 vm_23) (cwV 1 hts gX6_copy_X6_finding rfl rfl rfl (by decide +kernel) ⟨Nat.le_of_ble_eq_true rfl, Nat.le_of_ble_eq_true rfl⟩) hK hP hD [0] rfl (by decide) (va_recv hK.1 hP (ci := 6) (q0 := 0) rfl rfl) rfl hl.1 rfl (Nat.le_of_ble_eq_true rfl) dX6_copy_68 ⟨Nat.le_of_ble_eq_true rfl, Nat.le_of_ble_eq_true rfl⟩) hP hD hS hA [0] [1, 2, 3] rfl rfl (by decide) (by decide) (fun r_51 w_52 H locs h_53 hP hD hS => ?_)
            obtain ⟨rfl, rfl⟩ := h_53
            have hP : va_P D vwCl [(ln, .inl (cI, 8, .inl lf)), (mn, .inl (cI, 8, .inl sf)), (it, .inl (cI, 320, .inl tf)), (md, .inr (6, [.int 0, .int 5, .ref ln, .ref mn, .ref it, vm_5, vm_6, vm_7, vm_8, vm_9, vm_10, vm_11, vm_12, vm_13, vm_14, vm_15, vm_16, vm_17, vm_18, vm_19, vm_20, vm_21, vm_22, vm_23]))] H := hP
            have hD : va_D A [(ln, .inl (cI, 8, .inl lf)), (mn, .inl (cI, 8, .inl sf)), (it, .inl (cI, 320, .inl tf)), (md, .inr (6, [.int 0, .int 5, .ref ln, .ref mn, .ref it, vm_5, vm_6, vm_7, vm_8, vm_9, vm_10, vm_11, vm_12, vm_13, vm_14, vm_15, vm_16, vm_17, vm_18, vm_19, vm_20, vm_21, vm_22, vm_23]))] := hD
            refine wt_top (z := (-1000015)) (by decide) ?_
            have hP9 := hP.sub (ws' := [(md, .inr (6, [.int 0, .int 5, .ref ln, .ref mn, .ref it, vm_5, vm_6, vm_7, vm_8, vm_9, vm_10, vm_11, vm_12, vm_13, vm_14, vm_15, vm_16, vm_17, vm_18, vm_19, vm_20, vm_21, vm_22, vm_23])), (ln, .inl (cI, 8, .inl lf)), (mn, .inl (cI, 8, .inl sf)), (it, .inl (cI, 320, .inl tf))]) [3, 0, 1, 2] rfl
            have hD9 := hD.sub (ws' := [(md, .inr (6, [.int 0, .int 5, .ref ln, .ref mn, .ref it, vm_5, vm_6, vm_7, vm_8, vm_9, vm_10, vm_11, vm_12, vm_13, vm_14, vm_15, vm_16, vm_17, vm_18, vm_19, vm_20, vm_21, vm_22, vm_23])), (ln, .inl (cI, 8, .inl lf)), (mn, .inl (cI, 8, .inl sf)), (it, .inl (cI, 320, .inl tf))]) [3, 0, 1, 2] (by decide) rfl
            exact wt_iret hx hb hr hlocks hP9 hD9 hS ⟨tf, 5, rfl, (by exact (fA_5 (copyF_on c_3 (by omega) c_7 (by omega) (cpF_5 (nl_m1 c_9) (nl_m1 (wt_nlt c_13)) c_14)) _).symm), (fQ_k (copyF_on c_3 (by omega) c_7 (by omega) (cpF_5 (nl_m1 c_9) (nl_m1 (wt_nlt c_13)) c_14)) (by decide) sv).symm⟩ dX6_copy_71
        · skip
          refine lv_aload_n hx hb dX6_copy_45 rfl (lv_at hl 0 rfl) ?_
          refine lv_iconst (v := 1) hx hb dX6_copy_46 (by decide) ?_
          refine wt_goI (wr := [(ln, .inl (cI, 8, .inl lf)), (mn, .inl (cI, 8, .inl sf)), (it, .inl (cI, 320, .inl tf))]) (wt_runV (As := [.int 1]) (rest := []) ⟨hx, hb, hml, hown, hts⟩ (c_X6_finding l D cI cZ cH md 1 (.int 0) (.int 0) (.ref ln) (.ref mn) (.ref it) vm_5 vm_6 vm_7 vm_8 vm_9 vm_10 vm_11 vm_12 vm_13 vm_14 vm_15 vm_16 vm_17 vm_18 vm_19 vm_20 vm_21 vm_22 vm_23) (cwV 1 hts gX6_copy_X6_finding rfl rfl rfl (by decide +kernel) ⟨Nat.le_of_ble_eq_true rfl, Nat.le_of_ble_eq_true rfl⟩) hK hP hD [0] rfl (by decide) (va_recv hK.1 hP (ci := 6) (q0 := 0) rfl rfl) rfl hl.1 rfl (Nat.le_of_ble_eq_true rfl) dX6_copy_47 ⟨Nat.le_of_ble_eq_true rfl, Nat.le_of_ble_eq_true rfl⟩) hP hD hS hA [0] [1, 2, 3] rfl rfl (by decide) (by decide) (fun r_54 w_55 H locs h_56 hP hD hS => ?_)
          obtain ⟨rfl, rfl⟩ := h_56
          have hP : va_P D vwCl [(ln, .inl (cI, 8, .inl lf)), (mn, .inl (cI, 8, .inl sf)), (it, .inl (cI, 320, .inl tf)), (md, .inr (6, [.int 0, .int 1, .ref ln, .ref mn, .ref it, vm_5, vm_6, vm_7, vm_8, vm_9, vm_10, vm_11, vm_12, vm_13, vm_14, vm_15, vm_16, vm_17, vm_18, vm_19, vm_20, vm_21, vm_22, vm_23]))] H := hP
          have hD : va_D A [(ln, .inl (cI, 8, .inl lf)), (mn, .inl (cI, 8, .inl sf)), (it, .inl (cI, 320, .inl tf)), (md, .inr (6, [.int 0, .int 1, .ref ln, .ref mn, .ref it, vm_5, vm_6, vm_7, vm_8, vm_9, vm_10, vm_11, vm_12, vm_13, vm_14, vm_15, vm_16, vm_17, vm_18, vm_19, vm_20, vm_21, vm_22, vm_23]))] := hD
          refine wt_top (z := (-1000011)) (by decide) ?_
          have hP9 := hP.sub (ws' := [(md, .inr (6, [.int 0, .int 1, .ref ln, .ref mn, .ref it, vm_5, vm_6, vm_7, vm_8, vm_9, vm_10, vm_11, vm_12, vm_13, vm_14, vm_15, vm_16, vm_17, vm_18, vm_19, vm_20, vm_21, vm_22, vm_23])), (ln, .inl (cI, 8, .inl lf)), (mn, .inl (cI, 8, .inl sf)), (it, .inl (cI, 320, .inl tf))]) [3, 0, 1, 2] rfl
          have hD9 := hD.sub (ws' := [(md, .inr (6, [.int 0, .int 1, .ref ln, .ref mn, .ref it, vm_5, vm_6, vm_7, vm_8, vm_9, vm_10, vm_11, vm_12, vm_13, vm_14, vm_15, vm_16, vm_17, vm_18, vm_19, vm_20, vm_21, vm_22, vm_23])), (ln, .inl (cI, 8, .inl lf)), (mn, .inl (cI, 8, .inl sf)), (it, .inl (cI, 320, .inl tf))]) [3, 0, 1, 2] (by decide) rfl
          exact wt_iret hx hb hr hlocks hP9 hD9 hS ⟨tf, 1, rfl, (by exact (fA_1 (copyF_on c_3 (by omega) c_7 (by omega) (cpF_y (nl_m1 c_9) (lq_neg hlq (by omega) (ng_lt c_13)))) _).symm), (fQ_k (copyF_on c_3 (by omega) c_7 (by omega) (cpF_y (nl_m1 c_9) (lq_neg hlq (by omega) (ng_lt c_13)))) (by decide) sv).symm⟩ dX6_copy_50
    · skip
      refine lv_ldc hx hb hown wc67 dX6_copy_19 ?_
      have hP9 := hP.sub (ws' := [(md, .inr (6, [.int 0, .int sv, .ref ln, .ref mn, .ref it, vm_5, vm_6, vm_7, vm_8, vm_9, vm_10, vm_11, vm_12, vm_13, vm_14, vm_15, vm_16, vm_17, vm_18, vm_19, vm_20, vm_21, vm_22, vm_23])), (ln, .inl (cI, 8, .inl lf)), (mn, .inl (cI, 8, .inl sf)), (it, .inl (cI, 320, .inl tf))]) [0, 1, 2, 3] rfl
      have hD9 := hD.sub (ws' := [(md, .inr (6, [.int 0, .int sv, .ref ln, .ref mn, .ref it, vm_5, vm_6, vm_7, vm_8, vm_9, vm_10, vm_11, vm_12, vm_13, vm_14, vm_15, vm_16, vm_17, vm_18, vm_19, vm_20, vm_21, vm_22, vm_23])), (ln, .inl (cI, 8, .inl lf)), (mn, .inl (cI, 8, .inl sf)), (it, .inl (cI, 320, .inl tf))]) [0, 1, 2, 3] (by decide) rfl
      exact wt_iret hx hb hr hlocks hP9 hD9 hS ⟨tf, sv, rfl, (by exact (fA_b (copyF_b c_3 c_7) _).symm), (fQ_b (copyF_b c_3 c_7) sv).symm⟩ dX6_copy_21
set_option maxHeartbeats 4000000 in
set_option maxRecDepth 100000 in
theorem c_X6_drop_x (l : Launch) (D : va_G) (cI cZ cH : ClassId) (md : Nat) (ln mn it : Nat) (lf sf tf : Nat → Int32) (sv : Int32) (a1 : Int32) (vm_0 vm_5 vm_6 vm_7 vm_8 vm_9 vm_10 vm_11 vm_12 vm_13 vm_14 vm_15 vm_16 vm_17 vm_18 vm_19 vm_20 vm_21 vm_22 vm_23 : Value) (hs8 : hw 40 8 sf) (hlq : lq lf) : wt_M l yX6_drop wsX6_drop ({ frames := 2, cells := 0, slots := 0, locals := 45 } : Room) D (wt_T cI cZ cH) [.ref md, .int a1] [(md, .inr (6, [vm_0, .int sv, .ref ln, .ref mn, .ref it, vm_5, vm_6, vm_7, vm_8, vm_9, vm_10, vm_11, vm_12, vm_13, vm_14, vm_15, vm_16, vm_17, vm_18, vm_19, vm_20, vm_21, vm_22, vm_23])), (ln, .inl (cI, 8, .inl lf)), (mn, .inl (cI, 8, .inl sf)), (it, .inl (cI, 320, .inl tf))] (wt_QI D (fun r w => ∃ (lf2 : Nat → Int32) (md_f1 : Int32), w = [(md, .inr (6, [.int 0, .int md_f1, .ref ln, .ref mn, .ref it, vm_5, vm_6, vm_7, vm_8, vm_9, vm_10, vm_11, vm_12, vm_13, vm_14, vm_15, vm_16, vm_17, vm_18, vm_19, vm_20, vm_21, vm_22, vm_23])), (ln, .inl (cI, 8, .inl lf2)), (mn, .inl (cI, 8, .inl sf)), (it, .inl (cI, 320, .inl tf))] ∧ r = fA (dropF lf a1) (sf a1.toNatClampNeg) ∧ lf2 = drL lf a1 ∧ md_f1 = fQ (dropF lf a1) sv)) := by
  refine wt_M.ofW (cc := cX6_drop) (maxL := 2) (ret := (some .int)) (by decide) rfl (Nat.le_of_ble_eq_true rfl) ?_
  intro p e s m below meth c A ls hx hb hr hts hown hlocks hml hnm hP hK hD hA hS hl
  have hP : va_P D vwCl [(md, .inr (6, [vm_0, .int sv, .ref ln, .ref mn, .ref it, vm_5, vm_6, vm_7, vm_8, vm_9, vm_10, vm_11, vm_12, vm_13, vm_14, vm_15, vm_16, vm_17, vm_18, vm_19, vm_20, vm_21, vm_22, vm_23])), (ln, .inl (cI, 8, .inl lf)), (mn, .inl (cI, 8, .inl sf)), (it, .inl (cI, 320, .inl tf))] s.heap := hP
  have hown : s.vm.findClass RX6 = some m.cls := hown
  have hl : lv_has ls 2 [(0, .ref md), (1, .int a1)] := hl
  have hi6 : ∀ w ∈ u_ws RX6 TX6 24, w ∈ wsX6_drop := by decide +kernel
  have wc67 := hts (.constant RX6 67 (-1000001)) (by decide +kernel)
  have wf13 := hts (.fieldLink RX6 13 "WarmTubesModel" "many" "[I") (by decide +kernel)
  have wf47 := hts (.fieldLink RX6 47 "WarmTubesModel" "thrown" "I") (by decide +kernel)
  have wf51 := hts (.fieldLink RX6 51 "WarmTubesModel" "status" "I") (by decide +kernel)
  have wf7 := hts (.fieldLink RX6 7 "WarmTubesModel" "lane" "[I") (by decide +kernel)
  refine lv_aload_n hx hb dX6_drop_0 rfl (lv_at hl 0 rfl) ?_
  refine lv_iconst (v := 0) hx hb dX6_drop_1 (by decide) ?_
  refine va_put (D := D) (ci := 6) (v := .int 0) (ty := .int) (C := RX6) (T := TX6) (N := 24) hx hb hts hi6 tyX6 tyX6_ok nmX6 hown hK.1 hP hD hS 0 rfl rfl 0 (by decide) wf47 (fun _ h9 => h9) rfl (by decide +kernel) rfl rfl (Nat.le_of_ble_eq_true rfl) dX6_drop_2 (fun H locs hP hD hS => ?_)
  have hP : va_P D vwCl [(md, .inr (6, [.int 0, .int sv, .ref ln, .ref mn, .ref it, vm_5, vm_6, vm_7, vm_8, vm_9, vm_10, vm_11, vm_12, vm_13, vm_14, vm_15, vm_16, vm_17, vm_18, vm_19, vm_20, vm_21, vm_22, vm_23])), (ln, .inl (cI, 8, .inl lf)), (mn, .inl (cI, 8, .inl sf)), (it, .inl (cI, 320, .inl tf))] H := hP
  have hD : va_D A [(md, .inr (6, [.int 0, .int sv, .ref ln, .ref mn, .ref it, vm_5, vm_6, vm_7, vm_8, vm_9, vm_10, vm_11, vm_12, vm_13, vm_14, vm_15, vm_16, vm_17, vm_18, vm_19, vm_20, vm_21, vm_22, vm_23])), (ln, .inl (cI, 8, .inl lf)), (mn, .inl (cI, 8, .inl sf)), (it, .inl (cI, 320, .inl tf))] := hD
  refine lv_iload_n hx hb dX6_drop_5 rfl (lv_at hl 1 rfl) ?_
  refine wt_rS (As := [.int a1]) (rest := []) ⟨hx, hb, hml, hown, hts⟩ (c_X6_isRow l D cI cZ cH a1) (va_cwS 1 hts gX6_drop_X6_isRow rfl rfl rfl (by decide +kernel) ⟨Nat.le_of_ble_eq_true rfl, Nat.le_of_ble_eq_true rfl⟩) hK hP [] rfl rfl hl.1 rfl (Nat.le_of_ble_eq_true rfl) dX6_drop_6 ⟨Nat.le_of_ble_eq_true rfl, Nat.le_of_ble_eq_true rfl⟩ (fun r_1 e_2 => ?_)
  subst e_2
  refine lv_if_ne (tgt := 15) hx hb dX6_drop_9 (by decide) (fun c_3 => ?_) (fun c_3 => ?_)
  · skip
    obtain ⟨j_4, hj_4, hj_4b, rfl⟩ := wI_nat (a := 0) (b := 7) (by omega) (by omega) c_3
    refine lv_aload_n hx hb dX6_drop_15 rfl (lv_at hl 0 rfl) ?_
    refine lv_iconst (v := 0) hx hb dX6_drop_16 (by decide) ?_
    refine va_put (D := D) (ci := 6) (v := .int 0) (ty := .int) (C := RX6) (T := TX6) (N := 24) hx hb hts hi6 tyX6 tyX6_ok nmX6 hown hK.1 hP hD hS 0 rfl rfl 1 (by decide) wf51 (fun _ h9 => h9) rfl (by decide +kernel) rfl rfl (Nat.le_of_ble_eq_true rfl) dX6_drop_17 (fun H locs hP hD hS => ?_)
    have hP : va_P D vwCl [(md, .inr (6, [.int 0, .int 0, .ref ln, .ref mn, .ref it, vm_5, vm_6, vm_7, vm_8, vm_9, vm_10, vm_11, vm_12, vm_13, vm_14, vm_15, vm_16, vm_17, vm_18, vm_19, vm_20, vm_21, vm_22, vm_23])), (ln, .inl (cI, 8, .inl lf)), (mn, .inl (cI, 8, .inl sf)), (it, .inl (cI, 320, .inl tf))] H := hP
    have hD : va_D A [(md, .inr (6, [.int 0, .int 0, .ref ln, .ref mn, .ref it, vm_5, vm_6, vm_7, vm_8, vm_9, vm_10, vm_11, vm_12, vm_13, vm_14, vm_15, vm_16, vm_17, vm_18, vm_19, vm_20, vm_21, vm_22, vm_23])), (ln, .inl (cI, 8, .inl lf)), (mn, .inl (cI, 8, .inl sf)), (it, .inl (cI, 320, .inl tf))] := hD
    refine lv_aload_n hx hb dX6_drop_20 rfl (lv_at hl 0 rfl) ?_
    refine va_get (D := D) (ci := 6) (v := .ref ln) (C := RX6) (T := TX6) (N := 24) hx hb hts hi6 hown hK.1 hP 0 rfl rfl 2 (by decide) wf7 (fun _ h9 => h9) rfl dX6_drop_21 ?_
    refine lv_iload_n hx hb dX6_drop_24 rfl (lv_at hl 1 rfl) ?_
    refine va_iald hx hb hK.1 hP 1 0 rfl rfl (vp_in_nI (by omega) (by omega)) dX6_drop_25 ?_
    refine wt_top (z := lf j_4) (by rw [nI_clamp (by omega)]) ?_
    refine lv_if_ge (tgt := 35) hx hb dX6_drop_26 (by decide) (fun c_5 => ?_) (fun c_5 => ?_)
    · skip
      refine lv_aload_n hx hb dX6_drop_35 rfl (lv_at hl 0 rfl) ?_
      refine va_get (D := D) (ci := 6) (v := .ref ln) (C := RX6) (T := TX6) (N := 24) hx hb hts hi6 hown hK.1 hP 0 rfl rfl 2 (by decide) wf7 (fun _ h9 => h9) rfl dX6_drop_36 ?_
      refine lv_iload_n hx hb dX6_drop_39 rfl (lv_at hl 1 rfl) ?_
      refine lv_iconst (v := (-1)) hx hb dX6_drop_40 (by decide) ?_
      refine va_iast hx hb hK.1 hP hD hS 1 0 rfl rfl (vp_in_nI (by omega) (by omega)) dX6_drop_41 (fun H locs hP hD hS => ?_)
      have hP : va_P D vwCl [(md, .inr (6, [.int 0, .int 0, .ref ln, .ref mn, .ref it, vm_5, vm_6, vm_7, vm_8, vm_9, vm_10, vm_11, vm_12, vm_13, vm_14, vm_15, vm_16, vm_17, vm_18, vm_19, vm_20, vm_21, vm_22, vm_23])), (ln, .inl (cI, 8, .inl (upd lf ((nI j_4).toNatClampNeg) (-1)))), (mn, .inl (cI, 8, .inl sf)), (it, .inl (cI, 320, .inl tf))] H := hP
      have hD : va_D A [(md, .inr (6, [.int 0, .int 0, .ref ln, .ref mn, .ref it, vm_5, vm_6, vm_7, vm_8, vm_9, vm_10, vm_11, vm_12, vm_13, vm_14, vm_15, vm_16, vm_17, vm_18, vm_19, vm_20, vm_21, vm_22, vm_23])), (ln, .inl (cI, 8, .inl (upd lf ((nI j_4).toNatClampNeg) (-1)))), (mn, .inl (cI, 8, .inl sf)), (it, .inl (cI, 320, .inl tf))] := hD
      rw [nI_clamp (n := j_4) (by omega)] at hP hD
      have hP : va_P D vwCl [(md, .inr (6, [.int 0, .int 0, .ref ln, .ref mn, .ref it, vm_5, vm_6, vm_7, vm_8, vm_9, vm_10, vm_11, vm_12, vm_13, vm_14, vm_15, vm_16, vm_17, vm_18, vm_19, vm_20, vm_21, vm_22, vm_23])), (ln, .inl (cI, 8, .inl (upd lf j_4 (-1)))), (mn, .inl (cI, 8, .inl sf)), (it, .inl (cI, 320, .inl tf))] H := hP
      have hD : va_D A [(md, .inr (6, [.int 0, .int 0, .ref ln, .ref mn, .ref it, vm_5, vm_6, vm_7, vm_8, vm_9, vm_10, vm_11, vm_12, vm_13, vm_14, vm_15, vm_16, vm_17, vm_18, vm_19, vm_20, vm_21, vm_22, vm_23])), (ln, .inl (cI, 8, .inl (upd lf j_4 (-1)))), (mn, .inl (cI, 8, .inl sf)), (it, .inl (cI, 320, .inl tf))] := hD
      refine lv_aload_n hx hb dX6_drop_42 rfl (lv_at hl 0 rfl) ?_
      refine va_get (D := D) (ci := 6) (v := .ref mn) (C := RX6) (T := TX6) (N := 24) hx hb hts hi6 hown hK.1 hP 0 rfl rfl 3 (by decide) wf13 (fun _ h9 => h9) rfl dX6_drop_43 ?_
      refine lv_iload_n hx hb dX6_drop_46 rfl (lv_at hl 1 rfl) ?_
      refine va_iald hx hb hK.1 hP 2 0 rfl rfl (vp_in_nI (by omega) (by omega)) dX6_drop_47 ?_
      obtain ⟨q_6, hq_6, eq_6⟩ := hs8 j_4 (by omega)
      refine wt_top (z := nI q_6) (by rw [nI_clamp (by omega)]; exact eq_6) ?_
      have hP9 := hP.sub (ws' := [(md, .inr (6, [.int 0, .int 0, .ref ln, .ref mn, .ref it, vm_5, vm_6, vm_7, vm_8, vm_9, vm_10, vm_11, vm_12, vm_13, vm_14, vm_15, vm_16, vm_17, vm_18, vm_19, vm_20, vm_21, vm_22, vm_23])), (ln, .inl (cI, 8, .inl (upd lf j_4 (-1)))), (mn, .inl (cI, 8, .inl sf)), (it, .inl (cI, 320, .inl tf))]) [0, 1, 2, 3] rfl
      have hD9 := hD.sub (ws' := [(md, .inr (6, [.int 0, .int 0, .ref ln, .ref mn, .ref it, vm_5, vm_6, vm_7, vm_8, vm_9, vm_10, vm_11, vm_12, vm_13, vm_14, vm_15, vm_16, vm_17, vm_18, vm_19, vm_20, vm_21, vm_22, vm_23])), (ln, .inl (cI, 8, .inl (upd lf j_4 (-1)))), (mn, .inl (cI, 8, .inl sf)), (it, .inl (cI, 320, .inl tf))]) [0, 1, 2, 3] (by decide) rfl
      exact wt_iret hx hb hr hlocks hP9 hD9 hS ⟨(upd lf j_4 (-1)), 0, rfl, (by exact drop_v (by omega) (dropF_0 c_3 (by omega) (nl_m1 (wt_nlt c_5))) eq_6), ⟨drL_0 (dropF_0 c_3 (by omega) (nl_m1 (wt_nlt c_5))) (by omega), (fQ_k (dropF_0 c_3 (by omega) (nl_m1 (wt_nlt c_5))) (by decide) sv).symm⟩⟩ dX6_drop_48
    · skip
      refine lv_aload_n hx hb dX6_drop_29 rfl (lv_at hl 0 rfl) ?_
      refine lv_iconst (v := 1) hx hb dX6_drop_30 (by decide) ?_
      refine wt_goI (wr := [(ln, .inl (cI, 8, .inl lf)), (mn, .inl (cI, 8, .inl sf)), (it, .inl (cI, 320, .inl tf))]) (wt_runV (As := [.int 1]) (rest := []) ⟨hx, hb, hml, hown, hts⟩ (c_X6_finding l D cI cZ cH md 1 (.int 0) (.int 0) (.ref ln) (.ref mn) (.ref it) vm_5 vm_6 vm_7 vm_8 vm_9 vm_10 vm_11 vm_12 vm_13 vm_14 vm_15 vm_16 vm_17 vm_18 vm_19 vm_20 vm_21 vm_22 vm_23) (cwV 1 hts gX6_drop_X6_finding rfl rfl rfl (by decide +kernel) ⟨Nat.le_of_ble_eq_true rfl, Nat.le_of_ble_eq_true rfl⟩) hK hP hD [0] rfl (by decide) (va_recv hK.1 hP (ci := 6) (q0 := 0) rfl rfl) rfl hl.1 rfl (Nat.le_of_ble_eq_true rfl) dX6_drop_31 ⟨Nat.le_of_ble_eq_true rfl, Nat.le_of_ble_eq_true rfl⟩) hP hD hS hA [0] [1, 2, 3] rfl rfl (by decide) (by decide) (fun r_7 w_8 H locs h_9 hP hD hS => ?_)
      obtain ⟨rfl, rfl⟩ := h_9
      have hP : va_P D vwCl [(ln, .inl (cI, 8, .inl lf)), (mn, .inl (cI, 8, .inl sf)), (it, .inl (cI, 320, .inl tf)), (md, .inr (6, [.int 0, .int 1, .ref ln, .ref mn, .ref it, vm_5, vm_6, vm_7, vm_8, vm_9, vm_10, vm_11, vm_12, vm_13, vm_14, vm_15, vm_16, vm_17, vm_18, vm_19, vm_20, vm_21, vm_22, vm_23]))] H := hP
      have hD : va_D A [(ln, .inl (cI, 8, .inl lf)), (mn, .inl (cI, 8, .inl sf)), (it, .inl (cI, 320, .inl tf)), (md, .inr (6, [.int 0, .int 1, .ref ln, .ref mn, .ref it, vm_5, vm_6, vm_7, vm_8, vm_9, vm_10, vm_11, vm_12, vm_13, vm_14, vm_15, vm_16, vm_17, vm_18, vm_19, vm_20, vm_21, vm_22, vm_23]))] := hD
      refine wt_top (z := (-1000011)) (by decide) ?_
      have hP9 := hP.sub (ws' := [(md, .inr (6, [.int 0, .int 1, .ref ln, .ref mn, .ref it, vm_5, vm_6, vm_7, vm_8, vm_9, vm_10, vm_11, vm_12, vm_13, vm_14, vm_15, vm_16, vm_17, vm_18, vm_19, vm_20, vm_21, vm_22, vm_23])), (ln, .inl (cI, 8, .inl lf)), (mn, .inl (cI, 8, .inl sf)), (it, .inl (cI, 320, .inl tf))]) [3, 0, 1, 2] rfl
      have hD9 := hD.sub (ws' := [(md, .inr (6, [.int 0, .int 1, .ref ln, .ref mn, .ref it, vm_5, vm_6, vm_7, vm_8, vm_9, vm_10, vm_11, vm_12, vm_13, vm_14, vm_15, vm_16, vm_17, vm_18, vm_19, vm_20, vm_21, vm_22, vm_23])), (ln, .inl (cI, 8, .inl lf)), (mn, .inl (cI, 8, .inl sf)), (it, .inl (cI, 320, .inl tf))]) [3, 0, 1, 2] (by decide) rfl
      exact wt_iret hx hb hr hlocks hP9 hD9 hS ⟨lf, 1, rfl, (by exact (fA_1 (dropF_1 c_3 (by omega) (lq_neg hlq (by omega) (ng_lt c_5))) _).symm), ⟨drL_n (dropF_1 c_3 (by omega) (lq_neg hlq (by omega) (ng_lt c_5))) (by decide), (fQ_k (dropF_1 c_3 (by omega) (lq_neg hlq (by omega) (ng_lt c_5))) (by decide) sv).symm⟩⟩ dX6_drop_34
  · skip
    refine lv_ldc hx hb hown wc67 dX6_drop_12 ?_
    have hP9 := hP.sub (ws' := [(md, .inr (6, [.int 0, .int sv, .ref ln, .ref mn, .ref it, vm_5, vm_6, vm_7, vm_8, vm_9, vm_10, vm_11, vm_12, vm_13, vm_14, vm_15, vm_16, vm_17, vm_18, vm_19, vm_20, vm_21, vm_22, vm_23])), (ln, .inl (cI, 8, .inl lf)), (mn, .inl (cI, 8, .inl sf)), (it, .inl (cI, 320, .inl tf))]) [0, 1, 2, 3] rfl
    have hD9 := hD.sub (ws' := [(md, .inr (6, [.int 0, .int sv, .ref ln, .ref mn, .ref it, vm_5, vm_6, vm_7, vm_8, vm_9, vm_10, vm_11, vm_12, vm_13, vm_14, vm_15, vm_16, vm_17, vm_18, vm_19, vm_20, vm_21, vm_22, vm_23])), (ln, .inl (cI, 8, .inl lf)), (mn, .inl (cI, 8, .inl sf)), (it, .inl (cI, 320, .inl tf))]) [0, 1, 2, 3] (by decide) rfl
    exact wt_iret hx hb hr hlocks hP9 hD9 hS ⟨lf, sv, rfl, (by exact (fA_b (dropF_b c_3) _).symm), ⟨drL_n (dropF_b c_3) (by decide), (fQ_b (dropF_b c_3) sv).symm⟩⟩ dX6_drop_14

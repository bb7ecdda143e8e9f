set_option maxHeartbeats 4000000 in
set_option maxRecDepth 100000 in
theorem c_X5_feed_x (l : Launch) (D : va_G) (cI cZ cH : ClassId) (x tp bt : Nat) (tl : Nat) (bf : Nat → Int32) (a1 : Int32) (vx_0 vx_2 vx_3 vx_4 vx_5 vx_6 vx_7 vx_8 vx_9 vt_2 vt_3 vt_4 : Value) (htl : tl ≤ 120) : wt_M l yX5_feed wsX5_feed ({ frames := 1, cells := 0, slots := 0, locals := 22 } : Room) D (wt_T cI cZ cH) [.ref x, .int a1] [(x, .inr (5, [vx_0, .ref tp, vx_2, vx_3, vx_4, vx_5, vx_6, vx_7, vx_8, vx_9])), (tp, .inr (3, [.ref bt, .int (nI tl), vt_2, vt_3, vt_4])), (bt, .inl (cI, 120, .inl bf))] (wt_QI D (fun r w => ∃ (bf2 : Nat → Int32) (tl2 : Nat), w = [(x, .inr (5, [vx_0, .ref tp, vx_2, vx_3, vx_4, vx_5, vx_6, vx_7, vx_8, vx_9])), (tp, .inr (3, [.ref bt, .int (nI tl2), vt_2, vt_3, vt_4])), (bt, .inl (cI, 120, .inl bf2))] ∧ r = fdA a1 tl ∧ tl2 = fdT a1 tl ∧ bf2 = fdB a1 tl bf ∧ tl2 ≤ 120)) := by
  refine wt_M.ofW (cc := cX5_feed) (maxL := 2) (ret := (some .int)) (by decide) rfl (Nat.le_of_ble_eq_true rfl) ?_
  intro p e s m below meth c A ls hx hb hr hts hown hlocks hml hnm hP hK hD hA hS hl
  have hP : va_P D vwCl [(x, .inr (5, [vx_0, .ref tp, vx_2, vx_3, vx_4, vx_5, vx_6, vx_7, vx_8, vx_9])), (tp, .inr (3, [.ref bt, .int (nI tl), vt_2, vt_3, vt_4])), (bt, .inl (cI, 120, .inl bf))] s.heap := hP
  have hown : s.vm.findClass RX5 = some m.cls := hown
  have hl : lv_has ls 2 [(0, .ref x), (1, .int a1)] := hl
  have hi3 : ∀ w ∈ u_ws RX3 TX3 5, w ∈ wsX5_feed := by decide +kernel
  have hi5 : ∀ w ∈ u_ws RX5 TX5 10, w ∈ wsX5_feed := by decide +kernel
  have wc118 := hts (.constant RX5 118 (-1000003)) (by decide +kernel)
  have wc70 := hts (.constant RX5 70 (-1000001)) (by decide +kernel)
  have wf115 := hts (.fieldLink RX5 115 "WarmTubes$Tape" "length" "I") (by decide +kernel)
  have wf119 := hts (.fieldLink RX5 119 "WarmTubes$Tape" "bytes" "[I") (by decide +kernel)
  have wf19 := hts (.fieldLink RX5 19 "WarmTubes" "tape" "LWarmTubes$Tape;") (by decide +kernel)
  refine lv_iload_n hx hb dX5_feed_0 rfl (lv_at hl 1 rfl) ?_
  refine lv_iconst (v := 0) hx hb dX5_feed_1 (by decide) ?_
  refine lv_sipush (v := 255) hx hb dX5_feed_2 (by decide) ?_
  refine wt_rS (As := [.int a1, .int 0, .int 255]) (rest := []) ⟨hx, hb, hml, hown, hts⟩ (c_X5_within l D cI cZ cH a1 0 255) (va_cwS 3 hts gX5_feed_X5_within rfl rfl rfl (by decide +kernel) ⟨Nat.le_of_ble_eq_true rfl, Nat.le_of_ble_eq_true rfl⟩) hK hP [] rfl rfl hl.1 rfl (Nat.le_of_ble_eq_true rfl) dX5_feed_5 ⟨Nat.le_of_ble_eq_true rfl, Nat.le_of_ble_eq_true rfl⟩ (fun r_1 e_2 => ?_)
  subst e_2
  refine lv_if_ne (tgt := 14) hx hb dX5_feed_8 (by decide) (fun c_3 => ?_) (fun c_3 => ?_)
  · skip
    obtain ⟨j_4, hj_4, hj_4b, rfl⟩ := wI_nat (a := 0) (b := 255) (by omega) (by omega) c_3
    refine lv_aload_n hx hb dX5_feed_14 rfl (lv_at hl 0 rfl) ?_
    refine va_get (D := D) (ci := 5) (v := .ref tp) (C := RX5) (T := TX5) (N := 10) hx hb hts hi5 hown hK.1 hP 0 rfl rfl 1 (by decide) wf19 (fun _ h9 => h9) rfl dX5_feed_15 ?_
    refine va_get (D := D) (ci := 3) (v := .int (nI tl)) (C := RX3) (T := TX3) (N := 5) hx hb hts hi3 hown hK.1 hP 1 rfl rfl 1 (by decide) wf115 (fun _ h9 => h9) rfl dX5_feed_18 ?_
    refine lv_bipush (v := 120) hx hb dX5_feed_21 (by decide) ?_
    refine lv_icmp_lt (tgt := 29) hx hb dX5_feed_23 (by decide) (fun c_5 => ?_) (fun c_5 => ?_)
    · skip
      have c_5 : tl < 120 := (nI_ltI (a := tl) (b := 120) (by omega) (by omega)).mp c_5
      refine lv_aload_n hx hb dX5_feed_29 rfl (lv_at hl 0 rfl) ?_
      refine va_get (D := D) (ci := 5) (v := .ref tp) (C := RX5) (T := TX5) (N := 10) hx hb hts hi5 hown hK.1 hP 0 rfl rfl 1 (by decide) wf19 (fun _ h9 => h9) rfl dX5_feed_30 ?_
      refine va_get (D := D) (ci := 3) (v := .ref bt) (C := RX3) (T := TX3) (N := 5) hx hb hts hi3 hown hK.1 hP 1 rfl rfl 0 (by decide) wf119 (fun _ h9 => h9) rfl dX5_feed_33 ?_
      refine lv_aload_n hx hb dX5_feed_36 rfl (lv_at hl 0 rfl) ?_
      refine va_get (D := D) (ci := 5) (v := .ref tp) (C := RX5) (T := TX5) (N := 10) hx hb hts hi5 hown hK.1 hP 0 rfl rfl 1 (by decide) wf19 (fun _ h9 => h9) rfl dX5_feed_37 ?_
      refine va_get (D := D) (ci := 3) (v := .int (nI tl)) (C := RX3) (T := TX3) (N := 5) hx hb hts hi3 hown hK.1 hP 1 rfl rfl 1 (by decide) wf115 (fun _ h9 => h9) rfl dX5_feed_40 ?_
      refine lv_iload_n hx hb dX5_feed_43 rfl (lv_at hl 1 rfl) ?_
      refine va_iast hx hb hK.1 hP hD hS 2 0 rfl rfl (vp_in_nI (by omega) (by omega)) dX5_feed_44 (fun H locs hP hD hS => ?_)
      have hP : va_P D vwCl [(x, .inr (5, [vx_0, .ref tp, vx_2, vx_3, vx_4, vx_5, vx_6, vx_7, vx_8, vx_9])), (tp, .inr (3, [.ref bt, .int (nI tl), vt_2, vt_3, vt_4])), (bt, .inl (cI, 120, .inl (upd bf ((nI tl).toNatClampNeg) (nI j_4))))] H := hP
      have hD : va_D A [(x, .inr (5, [vx_0, .ref tp, vx_2, vx_3, vx_4, vx_5, vx_6, vx_7, vx_8, vx_9])), (tp, .inr (3, [.ref bt, .int (nI tl), vt_2, vt_3, vt_4])), (bt, .inl (cI, 120, .inl (upd bf ((nI tl).toNatClampNeg) (nI j_4))))] := hD
      rw [nI_clamp (n := tl) (by omega)] at hP hD
      have hP : va_P D vwCl [(x, .inr (5, [vx_0, .ref tp, vx_2, vx_3, vx_4, vx_5, vx_6, vx_7, vx_8, vx_9])), (tp, .inr (3, [.ref bt, .int (nI tl), vt_2, vt_3, vt_4])), (bt, .inl (cI, 120, .inl (upd bf tl (nI j_4))))] H := hP
      have hD : va_D A [(x, .inr (5, [vx_0, .ref tp, vx_2, vx_3, vx_4, vx_5, vx_6, vx_7, vx_8, vx_9])), (tp, .inr (3, [.ref bt, .int (nI tl), vt_2, vt_3, vt_4])), (bt, .inl (cI, 120, .inl (upd bf tl (nI j_4))))] := hD
      refine lv_aload_n hx hb dX5_feed_45 rfl (lv_at hl 0 rfl) ?_
      refine va_get (D := D) (ci := 5) (v := .ref tp) (C := RX5) (T := TX5) (N := 10) hx hb hts hi5 hown hK.1 hP 0 rfl rfl 1 (by decide) wf19 (fun _ h9 => h9) rfl dX5_feed_46 ?_
      refine lv_dup hx hb dX5_feed_49 rfl ?_
      refine va_get (D := D) (ci := 3) (v := .int (nI tl)) (C := RX3) (T := TX3) (N := 5) hx hb hts hi3 hown hK.1 hP 1 rfl rfl 1 (by decide) wf115 (fun _ h9 => h9) rfl dX5_feed_50 ?_
      refine lv_iconst (v := 1) hx hb dX5_feed_53 (by decide) ?_
      refine lv_iadd hx hb dX5_feed_54 ?_
      refine wt_top (z := nI (tl + 1)) (nI_add tl 1) ?_
      refine va_put (D := D) (ci := 3) (v := .int (nI (tl + 1))) (ty := .int) (C := RX3) (T := TX3) (N := 5) hx hb hts hi3 tyX3 tyX3_ok nmX3 hown hK.1 hP hD hS 1 rfl rfl 1 (by decide) wf115 (fun _ h9 => h9) rfl (by decide +kernel) rfl rfl (Nat.le_of_ble_eq_true rfl) dX5_feed_55 (fun H locs hP hD hS => ?_)
      have hP : va_P D vwCl [(x, .inr (5, [vx_0, .ref tp, vx_2, vx_3, vx_4, vx_5, vx_6, vx_7, vx_8, vx_9])), (tp, .inr (3, [.ref bt, .int (nI (tl + 1)), vt_2, vt_3, vt_4])), (bt, .inl (cI, 120, .inl (upd bf tl (nI j_4))))] H := hP
      have hD : va_D A [(x, .inr (5, [vx_0, .ref tp, vx_2, vx_3, vx_4, vx_5, vx_6, vx_7, vx_8, vx_9])), (tp, .inr (3, [.ref bt, .int (nI (tl + 1)), vt_2, vt_3, vt_4])), (bt, .inl (cI, 120, .inl (upd bf tl (nI j_4))))] := hD
      refine lv_aload_n hx hb dX5_feed_58 rfl (lv_at hl 0 rfl) ?_
      refine va_get (D := D) (ci := 5) (v := .ref tp) (C := RX5) (T := TX5) (N := 10) hx hb hts hi5 hown hK.1 hP 0 rfl rfl 1 (by decide) wf19 (fun _ h9 => h9) rfl dX5_feed_59 ?_
      refine va_get (D := D) (ci := 3) (v := .int (nI (tl + 1))) (C := RX3) (T := TX3) (N := 5) hx hb hts hi3 hown hK.1 hP 1 rfl rfl 1 (by decide) wf115 (fun _ h9 => h9) rfl dX5_feed_62 ?_
      have hP9 := hP.sub (ws' := [(x, .inr (5, [vx_0, .ref tp, vx_2, vx_3, vx_4, vx_5, vx_6, vx_7, vx_8, vx_9])), (tp, .inr (3, [.ref bt, .int (nI (tl + 1)), vt_2, vt_3, vt_4])), (bt, .inl (cI, 120, .inl (upd bf tl (nI j_4))))]) [0, 1, 2] rfl
      have hD9 := hD.sub (ws' := [(x, .inr (5, [vx_0, .ref tp, vx_2, vx_3, vx_4, vx_5, vx_6, vx_7, vx_8, vx_9])), (tp, .inr (3, [.ref bt, .int (nI (tl + 1)), vt_2, vt_3, vt_4])), (bt, .inl (cI, 120, .inl (upd bf tl (nI j_4))))]) [0, 1, 2] (by decide) rfl
      exact wt_iret hx hb hr hlocks hP9 hD9 hS ⟨(upd bf tl (nI j_4)), (tl + 1), rfl, (by exact (fd_2 (f := bf) c_3 (by omega)).1.symm), ⟨(fd_2 (f := bf) c_3 (by omega)).2.1.symm, (fd_2 (f := bf) c_3 (by omega)).2.2.symm, by omega⟩⟩ dX5_feed_65
    · skip
      have c_5 : ¬ (tl < 120) := fun h => c_5 ((nI_ltI (a := tl) (b := 120) (by omega) (by omega)).mpr h)
      refine lv_ldc hx hb hown wc118 dX5_feed_26 ?_
      have hP9 := hP.sub (ws' := [(x, .inr (5, [vx_0, .ref tp, vx_2, vx_3, vx_4, vx_5, vx_6, vx_7, vx_8, vx_9])), (tp, .inr (3, [.ref bt, .int (nI tl), vt_2, vt_3, vt_4])), (bt, .inl (cI, 120, .inl bf))]) [0, 1, 2] rfl
      have hD9 := hD.sub (ws' := [(x, .inr (5, [vx_0, .ref tp, vx_2, vx_3, vx_4, vx_5, vx_6, vx_7, vx_8, vx_9])), (tp, .inr (3, [.ref bt, .int (nI tl), vt_2, vt_3, vt_4])), (bt, .inl (cI, 120, .inl bf))]) [0, 1, 2] (by decide) rfl
      exact wt_iret hx hb hr hlocks hP9 hD9 hS ⟨bf, tl, rfl, (by exact (fd_1 (f := bf) c_3 (by omega)).1.symm), ⟨(fd_1 (f := bf) c_3 (by omega)).2.1.symm, (fd_1 (f := bf) c_3 (by omega)).2.2.symm, by omega⟩⟩ dX5_feed_28
  · skip
    refine lv_ldc hx hb hown wc70 dX5_feed_11 ?_
    have hP9 := hP.sub (ws' := [(x, .inr (5, [vx_0, .ref tp, vx_2, vx_3, vx_4, vx_5, vx_6, vx_7, vx_8, vx_9])), (tp, .inr (3, [.ref bt, .int (nI tl), vt_2, vt_3, vt_4])), (bt, .inl (cI, 120, .inl bf))]) [0, 1, 2] rfl
    have hD9 := hD.sub (ws' := [(x, .inr (5, [vx_0, .ref tp, vx_2, vx_3, vx_4, vx_5, vx_6, vx_7, vx_8, vx_9])), (tp, .inr (3, [.ref bt, .int (nI tl), vt_2, vt_3, vt_4])), (bt, .inl (cI, 120, .inl bf))]) [0, 1, 2] (by decide) rfl
    exact wt_iret hx hb hr hlocks hP9 hD9 hS ⟨bf, tl, rfl, (by exact (fd_0 (f := bf) c_3).1.symm), ⟨(fd_0 (f := bf) c_3).2.1.symm, (fd_0 (f := bf) c_3).2.2.symm, by omega⟩⟩ dX5_feed_13
set_option maxHeartbeats 4000000 in
set_option maxRecDepth 100000 in
theorem c_X2_isMissing_x (l : Launch) (D : va_G) (cI cZ cH : ClassId) (rw ln sl it : Nat) (lf sf tf : Nat → Int32) (ro : Nat) (hr8 : ro < 8) : wt_R l yX2_isMissing wsX2_isMissing ({ frames := 0, cells := 0, slots := 0, locals := 0 } : Room) D (wt_T cI cZ cH) [.ref rw, .int (nI ro)] [(rw, .inr (2, [.ref ln, .ref sl, .ref it])), (ln, .inl (cI, 8, .inl lf)), (sl, .inl (cI, 8, .inl sf)), (it, .inl (cI, 320, .inl tf))] (vp_Si (fun r => r = mB (lf ro))) := by
  refine wt_R.ofW (cc := cX2_isMissing) (maxL := 2) (ret := (some .boolean)) (by decide) rfl (Nat.le_of_ble_eq_true rfl) ?_
  intro p e s m below meth c ls hx hb hr hts hown hlocks hml hP hK hl
  have hown : s.vm.findClass RX2 = some m.cls := hown
  have hl : lv_has ls 2 [(0, .ref rw), (1, .int (nI ro))] := hl
  have hi2 : ∀ w ∈ u_ws RX2 TX2 3, w ∈ wsX2_isMissing := by decide +kernel
  have wf11 := hts (.fieldLink RX2 11 "WarmTubes$Rows" "lane" "[I") (by decide +kernel)
  refine lv_aload_n hx hb dX2_isMissing_0 rfl (lv_at hl 0 rfl) ?_
  refine va_get (D := D) (ci := 2) (v := .ref ln) (C := RX2) (T := TX2) (N := 3) hx hb hts hi2 hown hK.1 hP 0 rfl rfl 0 (by decide) wf11 (fun _ h9 => h9) rfl dX2_isMissing_1 ?_
  refine lv_iload_n hx hb dX2_isMissing_4 rfl (lv_at hl 1 rfl) ?_
  refine va_iald hx hb hK.1 hP 1 0 rfl rfl (vp_in_nI (by omega) (by omega)) dX2_isMissing_5 ?_
  refine wt_top (z := lf ro) (by rw [nI_clamp (by omega)]) ?_
  refine lv_iconst (v := (-1)) hx hb dX2_isMissing_6 (by decide) ?_
  refine lv_icmp_ne (tgt := 14) hx hb dX2_isMissing_7 (by decide) (fun c_1 => ?_) (fun c_1 => ?_)
  · skip
    refine lv_iconst (v := 0) hx hb dX2_isMissing_14 (by decide) ?_
    exact wt_szret hx hb hr hlocks (by decide) (by exact (mB_0 c_1).symm) dX2_isMissing_15
  · skip
    refine lv_iconst (v := 1) hx hb dX2_isMissing_10 (by decide) ?_
    refine lv_goto (tgt := 15) hx hb dX2_isMissing_11 (by decide) ?_
    exact wt_szret hx hb hr hlocks (by decide) (by exact (mB_1 c_1).symm) dX2_isMissing_15
set_option maxHeartbeats 4000000 in
set_option maxRecDepth 100000 in
theorem c_X2_reach_x (l : Launch) (D : va_G) (cI cZ cH : ClassId) (rw ln sl it : Nat) (lf sf tf : Nat → Int32) (ro : Nat) (i n : Int32) (hr8 : ro < 8) (hs8 : hw 40 8 sf) : wt_R l yX2_reach wsX2_reach ({ frames := 1, cells := 0, slots := 0, locals := 21 } : Room) D (wt_T cI cZ cH) [.ref rw, .int (nI ro), .int i, .int n] [(rw, .inr (2, [.ref ln, .ref sl, .ref it])), (ln, .inl (cI, 8, .inl lf)), (sl, .inl (cI, 8, .inl sf)), (it, .inl (cI, 320, .inl tf))] (vp_Si (fun r => r = rs (lf ro) (sf ro) i n)) := by
  refine wt_R.ofW (cc := cX2_reach) (maxL := 4) (ret := (some .int)) (by decide) rfl (Nat.le_of_ble_eq_true rfl) ?_
  intro p e s m below meth c ls hx hb hr hts hown hlocks hml hP hK hl
  have hown : s.vm.findClass RX2 = some m.cls := hown
  have hl : lv_has ls 4 [(0, .ref rw), (1, .int (nI ro)), (2, .int i), (3, .int n)] := hl
  have hi2 : ∀ w ∈ u_ws RX2 TX2 3, w ∈ wsX2_reach := by decide +kernel
  have wf15 := hts (.fieldLink RX2 15 "WarmTubes$Rows" "size" "[I") (by decide +kernel)
  refine lv_aload_n hx hb dX2_reach_0 rfl (lv_at hl 0 rfl) ?_
  refine lv_iload_n hx hb dX2_reach_1 rfl (lv_at hl 1 rfl) ?_
  refine wt_rV (As := [.int (nI ro)]) (rest := []) ⟨hx, hb, hml, hown, hts⟩ (c_X2_isMissing_x l D cI cZ cH rw ln sl it lf sf tf ro (by first | assumption | omega)) (cwV 1 hts gX2_reach_X2_isMissing rfl rfl rfl (by decide +kernel) ⟨Nat.le_of_ble_eq_true rfl, Nat.le_of_ble_eq_true rfl⟩) hK hP [0, 1, 2, 3] rfl (va_recv hK.1 hP (ci := 2) (q0 := 0) rfl rfl) rfl hl.1 rfl (Nat.le_of_ble_eq_true rfl) dX2_reach_2 ⟨Nat.le_of_ble_eq_true rfl, Nat.le_of_ble_eq_true rfl⟩ (fun r_1 e_2 => ?_)
  subst e_2
  refine lv_if_eq (tgt := 10) hx hb dX2_reach_5 (by decide) (fun c_3 => ?_) (fun c_3 => ?_)
  · skip
    refine lv_iload_n hx hb dX2_reach_10 rfl (lv_at hl 2 rfl) ?_
    refine lv_if_lt (tgt := 40) hx hb dX2_reach_11 (by decide) (fun c_4 => ?_) (fun c_4 => ?_)
    · skip
      refine lv_iconst (v := 2) hx hb dX2_reach_40 (by decide) ?_
      refine lv_goto (tgt := 45) hx hb dX2_reach_41 (by decide) ?_
      exact wt_siret hx hb hr hlocks (by exact (rs_i (mB_e c_3) c_4).symm) dX2_reach_45
    · skip
      refine lv_iload_n hx hb dX2_reach_14 rfl (lv_at hl 3 rfl) ?_
      refine lv_if_lt (tgt := 40) hx hb dX2_reach_15 (by decide) (fun c_5 => ?_) (fun c_5 => ?_)
      · skip
        refine lv_iconst (v := 2) hx hb dX2_reach_40 (by decide) ?_
        refine lv_goto (tgt := 45) hx hb dX2_reach_41 (by decide) ?_
        exact wt_siret hx hb hr hlocks (by exact (rs_k (mB_e c_3) c_5).symm) dX2_reach_45
      · skip
        refine lv_iload_n hx hb dX2_reach_18 rfl (lv_at hl 3 rfl) ?_
        refine lv_aload_n hx hb dX2_reach_19 rfl (lv_at hl 0 rfl) ?_
        refine va_get (D := D) (ci := 2) (v := .ref sl) (C := RX2) (T := TX2) (N := 3) hx hb hts hi2 hown hK.1 hP 0 rfl rfl 1 (by decide) wf15 (fun _ h9 => h9) rfl dX2_reach_20 ?_
        refine lv_iload_n hx hb dX2_reach_23 rfl (lv_at hl 1 rfl) ?_
        refine va_iald hx hb hK.1 hP 2 0 rfl rfl (vp_in_nI (by omega) (by omega)) dX2_reach_24 ?_
        obtain ⟨q_6, hq_6, eq_6⟩ := hs8 ro (by omega)
        refine wt_top (z := nI q_6) (by rw [nI_clamp (by omega)]; exact eq_6) ?_
        refine lv_icmp_gt (tgt := 40) hx hb dX2_reach_25 (by decide) (fun c_7 => ?_) (fun c_7 => ?_)
        · skip
          refine lv_iconst (v := 2) hx hb dX2_reach_40 (by decide) ?_
          refine lv_goto (tgt := 45) hx hb dX2_reach_41 (by decide) ?_
          exact wt_siret hx hb hr hlocks (by exact (rs_s (mB_e c_3) eq_6 (by omega) c_7).symm) dX2_reach_45
        · skip
          obtain ⟨nb, hnb, rfl⟩ := wt_ofle c_5 c_7
          refine lv_iload_n hx hb dX2_reach_28 rfl (lv_at hl 2 rfl) ?_
          refine lv_aload_n hx hb dX2_reach_29 rfl (lv_at hl 0 rfl) ?_
          refine va_get (D := D) (ci := 2) (v := .ref sl) (C := RX2) (T := TX2) (N := 3) hx hb hts hi2 hown hK.1 hP 0 rfl rfl 1 (by decide) wf15 (fun _ h9 => h9) rfl dX2_reach_30 ?_
          refine lv_iload_n hx hb dX2_reach_33 rfl (lv_at hl 1 rfl) ?_
          refine va_iald hx hb hK.1 hP 2 0 rfl rfl (vp_in_nI (by omega) (by omega)) dX2_reach_34 ?_
          refine wt_top (z := nI q_6) (by rw [nI_clamp (by omega)]; exact eq_6) ?_
          refine lv_iload_n hx hb dX2_reach_35 rfl (lv_at hl 3 rfl) ?_
          refine lv_isub hx hb dX2_reach_36 ?_
          refine wt_top (z := nI (q_6 - nb)) (pk_sub (a := q_6) (b := nb) (by omega)) ?_
          refine lv_icmp_le (tgt := 44) hx hb dX2_reach_37 (by decide) (fun c_8 => ?_) (fun c_8 => ?_)
          · skip
            refine lv_iconst (v := 0) hx hb dX2_reach_44 (by decide) ?_
            exact wt_siret hx hb hr hlocks (by exact (rs_ok (mB_e c_3) eq_6 (by omega) (by omega) c_4 c_8).symm) dX2_reach_45
          · skip
            refine lv_iconst (v := 2) hx hb dX2_reach_40 (by decide) ?_
            refine lv_goto (tgt := 45) hx hb dX2_reach_41 (by decide) ?_
            exact wt_siret hx hb hr hlocks (by exact (rs_h (mB_e c_3) eq_6 (by omega) (by omega) c_4 c_8).symm) dX2_reach_45
  · skip
    refine lv_iconst (v := 1) hx hb dX2_reach_8 (by decide) ?_
    exact wt_siret hx hb hr hlocks (by exact (rs_1 (mB_n c_3)).symm) dX2_reach_9
set_option maxHeartbeats 4000000 in
set_option maxRecDepth 100000 in
theorem c_X2_put_x (l : Launch) (D : va_G) (cI cZ cH : ClassId) (rw ln sl it : Nat) (lf sf tf : Nat → Int32) (ro i : Nat) (v : Int32) (hr8 : ro < 8) (hi40 : i < 40) : wt_M l yX2_put wsX2_put ({ frames := 1, cells := 0, slots := 0, locals := 22 } : Room) D (wt_T cI cZ cH) [.ref rw, .int (nI ro), .int (nI i), .int v] [(rw, .inr (2, [.ref ln, .ref sl, .ref it])), (ln, .inl (cI, 8, .inl lf)), (sl, .inl (cI, 8, .inl sf)), (it, .inl (cI, 320, .inl tf))] (wt_QI D (fun r w => ∃ (tf2 : Nat → Int32), w = [(rw, .inr (2, [.ref ln, .ref sl, .ref it])), (ln, .inl (cI, 8, .inl lf)), (sl, .inl (cI, 8, .inl sf)), (it, .inl (cI, 320, .inl tf2))] ∧ r = nrw (lf ro) v)) := by
  refine wt_M.ofW (cc := cX2_put) (maxL := 5) (ret := (some .int)) (by decide) rfl (Nat.le_of_ble_eq_true rfl) ?_
  intro p e s m below meth c A ls hx hb hr hts hown hlocks hml hnm hP hK hD hA hS hl
  have hP : va_P D vwCl [(rw, .inr (2, [.ref ln, .ref sl, .ref it])), (ln, .inl (cI, 8, .inl lf)), (sl, .inl (cI, 8, .inl sf)), (it, .inl (cI, 320, .inl tf))] s.heap := hP
  have hown : s.vm.findClass RX2 = some m.cls := hown
  have hl : lv_has ls 5 [(0, .ref rw), (1, .int (nI ro)), (2, .int (nI i)), (3, .int v)] := hl
  have hi2 : ∀ w ∈ u_ws RX2 TX2 3, w ∈ wsX2_put := by decide +kernel
  have wf11 := hts (.fieldLink RX2 11 "WarmTubes$Rows" "lane" "[I") (by decide +kernel)
  have wf18 := hts (.fieldLink RX2 18 "WarmTubes$Rows" "items" "[I") (by decide +kernel)
  refine lv_aload_n hx hb dX2_put_0 rfl (lv_at hl 0 rfl) ?_
  refine va_get (D := D) (ci := 2) (v := .ref ln) (C := RX2) (T := TX2) (N := 3) hx hb hts hi2 hown hK.1 hP 0 rfl rfl 0 (by decide) wf11 (fun _ h9 => h9) rfl dX2_put_1 ?_
  refine lv_iload_n hx hb dX2_put_4 rfl (lv_at hl 1 rfl) ?_
  refine va_iald hx hb hK.1 hP 1 0 rfl rfl (vp_in_nI (by omega) (by omega)) dX2_put_5 ?_
  refine wt_top (z := lf ro) (by rw [nI_clamp (by omega)]) ?_
  refine lv_if_ne (tgt := 14) hx hb dX2_put_6 (by decide) (fun c_1 => ?_) (fun c_1 => ?_)
  · skip
    refine lv_aload_n hx hb dX2_put_14 rfl (lv_at hl 0 rfl) ?_
    refine va_get (D := D) (ci := 2) (v := .ref ln) (C := RX2) (T := TX2) (N := 3) hx hb hts hi2 hown hK.1 hP 0 rfl rfl 0 (by decide) wf11 (fun _ h9 => h9) rfl dX2_put_15 ?_
    refine lv_iload_n hx hb dX2_put_18 rfl (lv_at hl 1 rfl) ?_
    refine va_iald hx hb hK.1 hP 1 0 rfl rfl (vp_in_nI (by omega) (by omega)) dX2_put_19 ?_
    refine wt_top (z := lf ro) (by rw [nI_clamp (by omega)]) ?_
    refine lv_iconst (v := 1) hx hb dX2_put_20 (by decide) ?_
    refine lv_icmp_ne (tgt := 29) hx hb dX2_put_21 (by decide) (fun c_2 => ?_) (fun c_2 => ?_)
    · skip
      refine lv_iload_n hx hb dX2_put_29 rfl (lv_at hl 3 rfl) ?_
      refine lv_istore (lv' := [(4, .int v), (0, .ref rw), (1, .int (nI ro)), (2, .int (nI i)), (3, .int v)]) hx hb dX2_put_30 hl (by decide) rfl (fun ls hl => ?_)
      refine lv_aload_n hx hb dX2_put_32 rfl (lv_at hl 1 rfl) ?_
      refine va_get (D := D) (ci := 2) (v := .ref it) (C := RX2) (T := TX2) (N := 3) hx hb hts hi2 hown hK.1 hP 0 rfl rfl 2 (by decide) wf18 (fun _ h9 => h9) rfl dX2_put_33 ?_
      refine lv_aload_n hx hb dX2_put_36 rfl (lv_at hl 1 rfl) ?_
      refine lv_iload_n hx hb dX2_put_37 rfl (lv_at hl 2 rfl) ?_
      refine lv_iload_n hx hb dX2_put_38 rfl (lv_at hl 3 rfl) ?_
      refine wt_rV (As := [.int (nI ro), .int (nI i)]) (rest := [.ref it]) ⟨hx, hb, hml, hown, hts⟩ (c_X2_at l D cI cZ cH rw ro i) (cwV 2 hts gX2_put_X2_at rfl rfl rfl (by decide +kernel) ⟨Nat.le_of_ble_eq_true rfl, Nat.le_of_ble_eq_true rfl⟩) hK hP [] rfl (va_recv hK.1 hP (ci := 2) (q0 := 0) rfl rfl) rfl hl.1 rfl (Nat.le_of_ble_eq_true rfl) dX2_put_39 ⟨Nat.le_of_ble_eq_true rfl, Nat.le_of_ble_eq_true rfl⟩ (fun r_3 e_4 => ?_)
      subst e_4
      refine lv_iload hx hb dX2_put_42 (lv_at hl 0 rfl) ?_
      refine va_iast hx hb hK.1 hP hD hS 3 0 rfl rfl (vp_in_nI (by omega) (by omega)) dX2_put_44 (fun H locs hP hD hS => ?_)
      have hP : va_P D vwCl [(rw, .inr (2, [.ref ln, .ref sl, .ref it])), (ln, .inl (cI, 8, .inl lf)), (sl, .inl (cI, 8, .inl sf)), (it, .inl (cI, 320, .inl (upd tf ((nI (ro * 40 + i)).toNatClampNeg) v)))] H := hP
      have hD : va_D A [(rw, .inr (2, [.ref ln, .ref sl, .ref it])), (ln, .inl (cI, 8, .inl lf)), (sl, .inl (cI, 8, .inl sf)), (it, .inl (cI, 320, .inl (upd tf ((nI (ro * 40 + i)).toNatClampNeg) v)))] := hD
      generalize upd tf ((nI (ro * 40 + i)).toNatClampNeg) v = tf_5 at hP hD
      refine lv_iload hx hb dX2_put_45 (lv_at hl 0 rfl) ?_
      have hP9 := hP.sub (ws' := [(rw, .inr (2, [.ref ln, .ref sl, .ref it])), (ln, .inl (cI, 8, .inl lf)), (sl, .inl (cI, 8, .inl sf)), (it, .inl (cI, 320, .inl tf_5))]) [0, 1, 2, 3] rfl
      have hD9 := hD.sub (ws' := [(rw, .inr (2, [.ref ln, .ref sl, .ref it])), (ln, .inl (cI, 8, .inl lf)), (sl, .inl (cI, 8, .inl sf)), (it, .inl (cI, 320, .inl tf_5))]) [0, 1, 2, 3] (by decide) rfl
      exact wt_iret hx hb hr hlocks hP9 hD9 hS ⟨tf_5, rfl, (by exact nrw_i c_1 c_2)⟩ dX2_put_47
    · skip
      refine lv_iload_n hx hb dX2_put_24 rfl (lv_at hl 3 rfl) ?_
      refine lv_i2s hx hb dX2_put_25 rfl ?_
      refine wt_top (z := nrw (lf ro) v) (nrw_s c_1 c_2) ?_
      refine lv_goto (tgt := 30) hx hb dX2_put_26 (by decide) ?_
      refine lv_istore (lv' := [(4, .int (nrw (lf ro) v)), (0, .ref rw), (1, .int (nI ro)), (2, .int (nI i)), (3, .int v)]) hx hb dX2_put_30 hl (by decide) rfl (fun ls hl => ?_)
      refine lv_aload_n hx hb dX2_put_32 rfl (lv_at hl 1 rfl) ?_
      refine va_get (D := D) (ci := 2) (v := .ref it) (C := RX2) (T := TX2) (N := 3) hx hb hts hi2 hown hK.1 hP 0 rfl rfl 2 (by decide) wf18 (fun _ h9 => h9) rfl dX2_put_33 ?_
      refine lv_aload_n hx hb dX2_put_36 rfl (lv_at hl 1 rfl) ?_
      refine lv_iload_n hx hb dX2_put_37 rfl (lv_at hl 2 rfl) ?_
      refine lv_iload_n hx hb dX2_put_38 rfl (lv_at hl 3 rfl) ?_
      refine wt_rV (As := [.int (nI ro), .int (nI i)]) (rest := [.ref it]) ⟨hx, hb, hml, hown, hts⟩ (c_X2_at l D cI cZ cH rw ro i) (cwV 2 hts gX2_put_X2_at rfl rfl rfl (by decide +kernel) ⟨Nat.le_of_ble_eq_true rfl, Nat.le_of_ble_eq_true rfl⟩) hK hP [] rfl (va_recv hK.1 hP (ci := 2) (q0 := 0) rfl rfl) rfl hl.1 rfl (Nat.le_of_ble_eq_true rfl) dX2_put_39 ⟨Nat.le_of_ble_eq_true rfl, Nat.le_of_ble_eq_true rfl⟩ (fun r_6 e_7 => ?_)
      subst e_7
      refine lv_iload hx hb dX2_put_42 (lv_at hl 0 rfl) ?_
      refine va_iast hx hb hK.1 hP hD hS 3 0 rfl rfl (vp_in_nI (by omega) (by omega)) dX2_put_44 (fun H locs hP hD hS => ?_)
      have hP : va_P D vwCl [(rw, .inr (2, [.ref ln, .ref sl, .ref it])), (ln, .inl (cI, 8, .inl lf)), (sl, .inl (cI, 8, .inl sf)), (it, .inl (cI, 320, .inl (upd tf ((nI (ro * 40 + i)).toNatClampNeg) (nrw (lf ro) v))))] H := hP
      have hD : va_D A [(rw, .inr (2, [.ref ln, .ref sl, .ref it])), (ln, .inl (cI, 8, .inl lf)), (sl, .inl (cI, 8, .inl sf)), (it, .inl (cI, 320, .inl (upd tf ((nI (ro * 40 + i)).toNatClampNeg) (nrw (lf ro) v))))] := hD
      generalize upd tf ((nI (ro * 40 + i)).toNatClampNeg) (nrw (lf ro) v) = tf_8 at hP hD
      refine lv_iload hx hb dX2_put_45 (lv_at hl 0 rfl) ?_
      have hP9 := hP.sub (ws' := [(rw, .inr (2, [.ref ln, .ref sl, .ref it])), (ln, .inl (cI, 8, .inl lf)), (sl, .inl (cI, 8, .inl sf)), (it, .inl (cI, 320, .inl tf_8))]) [0, 1, 2, 3] rfl
      have hD9 := hD.sub (ws' := [(rw, .inr (2, [.ref ln, .ref sl, .ref it])), (ln, .inl (cI, 8, .inl lf)), (sl, .inl (cI, 8, .inl sf)), (it, .inl (cI, 320, .inl tf_8))]) [0, 1, 2, 3] (by decide) rfl
      exact wt_iret hx hb hr hlocks hP9 hD9 hS ⟨tf_8, rfl, (by rfl)⟩ dX2_put_47
  · skip
    refine lv_iload_n hx hb dX2_put_9 rfl (lv_at hl 3 rfl) ?_
    refine lv_i2b hx hb dX2_put_10 rfl ?_
    refine wt_top (z := nrw (lf ro) v) (nrw_b c_1) ?_
    refine lv_goto (tgt := 30) hx hb dX2_put_11 (by decide) ?_
    refine lv_istore (lv' := [(4, .int (nrw (lf ro) v)), (0, .ref rw), (1, .int (nI ro)), (2, .int (nI i)), (3, .int v)]) hx hb dX2_put_30 hl (by decide) rfl (fun ls hl => ?_)
    refine lv_aload_n hx hb dX2_put_32 rfl (lv_at hl 1 rfl) ?_
    refine va_get (D := D) (ci := 2) (v := .ref it) (C := RX2) (T := TX2) (N := 3) hx hb hts hi2 hown hK.1 hP 0 rfl rfl 2 (by decide) wf18 (fun _ h9 => h9) rfl dX2_put_33 ?_
    refine lv_aload_n hx hb dX2_put_36 rfl (lv_at hl 1 rfl) ?_
    refine lv_iload_n hx hb dX2_put_37 rfl (lv_at hl 2 rfl) ?_
    refine lv_iload_n hx hb dX2_put_38 rfl (lv_at hl 3 rfl) ?_
    refine wt_rV (As := [.int (nI ro), .int (nI i)]) (rest := [.ref it]) ⟨hx, hb, hml, hown, hts⟩ (c_X2_at l D cI cZ cH rw ro i) (cwV 2 hts gX2_put_X2_at rfl rfl rfl (by decide +kernel) ⟨Nat.le_of_ble_eq_true rfl, Nat.le_of_ble_eq_true rfl⟩) hK hP [] rfl (va_recv hK.1 hP (ci := 2) (q0 := 0) rfl rfl) rfl hl.1 rfl (Nat.le_of_ble_eq_true rfl) dX2_put_39 ⟨Nat.le_of_ble_eq_true rfl, Nat.le_of_ble_eq_true rfl⟩ (fun r_9 e_10 => ?_)
    subst e_10
    refine lv_iload hx hb dX2_put_42 (lv_at hl 0 rfl) ?_
    refine va_iast hx hb hK.1 hP hD hS 3 0 rfl rfl (vp_in_nI (by omega) (by omega)) dX2_put_44 (fun H locs hP hD hS => ?_)
    have hP : va_P D vwCl [(rw, .inr (2, [.ref ln, .ref sl, .ref it])), (ln, .inl (cI, 8, .inl lf)), (sl, .inl (cI, 8, .inl sf)), (it, .inl (cI, 320, .inl (upd tf ((nI (ro * 40 + i)).toNatClampNeg) (nrw (lf ro) v))))] H := hP
    have hD : va_D A [(rw, .inr (2, [.ref ln, .ref sl, .ref it])), (ln, .inl (cI, 8, .inl lf)), (sl, .inl (cI, 8, .inl sf)), (it, .inl (cI, 320, .inl (upd tf ((nI (ro * 40 + i)).toNatClampNeg) (nrw (lf ro) v))))] := hD
    generalize upd tf ((nI (ro * 40 + i)).toNatClampNeg) (nrw (lf ro) v) = tf_11 at hP hD
    refine lv_iload hx hb dX2_put_45 (lv_at hl 0 rfl) ?_
    have hP9 := hP.sub (ws' := [(rw, .inr (2, [.ref ln, .ref sl, .ref it])), (ln, .inl (cI, 8, .inl lf)), (sl, .inl (cI, 8, .inl sf)), (it, .inl (cI, 320, .inl tf_11))]) [0, 1, 2, 3] rfl
    have hD9 := hD.sub (ws' := [(rw, .inr (2, [.ref ln, .ref sl, .ref it])), (ln, .inl (cI, 8, .inl lf)), (sl, .inl (cI, 8, .inl sf)), (it, .inl (cI, 320, .inl tf_11))]) [0, 1, 2, 3] (by decide) rfl
    exact wt_iret hx hb hr hlocks hP9 hD9 hS ⟨tf_11, rfl, (by rfl)⟩ dX2_put_47
set_option maxHeartbeats 4000000 in
set_option maxRecDepth 100000 in
theorem c_X2_lose_x (l : Launch) (D : va_G) (cI cZ cH : ClassId) (rw ln sl it : Nat) (lf sf tf : Nat → Int32) (ro : Nat) (hr8 : ro < 8) : wt_M l yX2_lose wsX2_lose ({ frames := 0, cells := 0, slots := 0, locals := 0 } : Room) D (wt_T cI cZ cH) [.ref rw, .int (nI ro)] [(rw, .inr (2, [.ref ln, .ref sl, .ref it])), (ln, .inl (cI, 8, .inl lf)), (sl, .inl (cI, 8, .inl sf)), (it, .inl (cI, 320, .inl tf))] (wt_QV D (fun w => w = [(rw, .inr (2, [.ref ln, .ref sl, .ref it])), (ln, .inl (cI, 8, .inl (upd lf ro (-1)))), (sl, .inl (cI, 8, .inl (upd sf ro 0))), (it, .inl (cI, 320, .inl tf))])) := by
  refine wt_M.ofW (cc := cX2_lose) (maxL := 2) (ret := none) (by decide) rfl (Nat.le_of_ble_eq_true rfl) ?_
  intro p e s m below meth c A ls hx hb hr hts hown hlocks hml hnm hP hK hD hA hS hl
  have hP : va_P D vwCl [(rw, .inr (2, [.ref ln, .ref sl, .ref it])), (ln, .inl (cI, 8, .inl lf)), (sl, .inl (cI, 8, .inl sf)), (it, .inl (cI, 320, .inl tf))] s.heap := hP
  have hown : s.vm.findClass RX2 = some m.cls := hown
  have hl : lv_has ls 2 [(0, .ref rw), (1, .int (nI ro))] := hl
  have hi2 : ∀ w ∈ u_ws RX2 TX2 3, w ∈ wsX2_lose := by decide +kernel
  have wf11 := hts (.fieldLink RX2 11 "WarmTubes$Rows" "lane" "[I") (by decide +kernel)
  have wf15 := hts (.fieldLink RX2 15 "WarmTubes$Rows" "size" "[I") (by decide +kernel)
  refine lv_aload_n hx hb dX2_lose_0 rfl (lv_at hl 0 rfl) ?_
  refine va_get (D := D) (ci := 2) (v := .ref ln) (C := RX2) (T := TX2) (N := 3) hx hb hts hi2 hown hK.1 hP 0 rfl rfl 0 (by decide) wf11 (fun _ h9 => h9) rfl dX2_lose_1 ?_
  refine lv_iload_n hx hb dX2_lose_4 rfl (lv_at hl 1 rfl) ?_
  refine lv_iconst (v := (-1)) hx hb dX2_lose_5 (by decide) ?_
  refine va_iast hx hb hK.1 hP hD hS 1 0 rfl rfl (vp_in_nI (by omega) (by omega)) dX2_lose_6 (fun H locs hP hD hS => ?_)
  have hP : va_P D vwCl [(rw, .inr (2, [.ref ln, .ref sl, .ref it])), (ln, .inl (cI, 8, .inl (upd lf ((nI ro).toNatClampNeg) (-1)))), (sl, .inl (cI, 8, .inl sf)), (it, .inl (cI, 320, .inl tf))] H := hP
  have hD : va_D A [(rw, .inr (2, [.ref ln, .ref sl, .ref it])), (ln, .inl (cI, 8, .inl (upd lf ((nI ro).toNatClampNeg) (-1)))), (sl, .inl (cI, 8, .inl sf)), (it, .inl (cI, 320, .inl tf))] := hD
  rw [nI_clamp (n := ro) (by omega)] at hP hD
  have hP : va_P D vwCl [(rw, .inr (2, [.ref ln, .ref sl, .ref it])), (ln, .inl (cI, 8, .inl (upd lf ro (-1)))), (sl, .inl (cI, 8, .inl sf)), (it, .inl (cI, 320, .inl tf))] H := hP
  have hD : va_D A [(rw, .inr (2, [.ref ln, .ref sl, .ref it])), (ln, .inl (cI, 8, .inl (upd lf ro (-1)))), (sl, .inl (cI, 8, .inl sf)), (it, .inl (cI, 320, .inl tf))] := hD
  refine lv_aload_n hx hb dX2_lose_7 rfl (lv_at hl 0 rfl) ?_
  refine va_get (D := D) (ci := 2) (v := .ref sl) (C := RX2) (T := TX2) (N := 3) hx hb hts hi2 hown hK.1 hP 0 rfl rfl 1 (by decide) wf15 (fun _ h9 => h9) rfl dX2_lose_8 ?_
  refine lv_iload_n hx hb dX2_lose_11 rfl (lv_at hl 1 rfl) ?_
  refine lv_iconst (v := 0) hx hb dX2_lose_12 (by decide) ?_
  refine va_iast hx hb hK.1 hP hD hS 2 0 rfl rfl (vp_in_nI (by omega) (by omega)) dX2_lose_13 (fun H locs hP hD hS => ?_)
  have hP : va_P D vwCl [(rw, .inr (2, [.ref ln, .ref sl, .ref it])), (ln, .inl (cI, 8, .inl (upd lf ro (-1)))), (sl, .inl (cI, 8, .inl (upd sf ((nI ro).toNatClampNeg) 0))), (it, .inl (cI, 320, .inl tf))] H := hP
  have hD : va_D A [(rw, .inr (2, [.ref ln, .ref sl, .ref it])), (ln, .inl (cI, 8, .inl (upd lf ro (-1)))), (sl, .inl (cI, 8, .inl (upd sf ((nI ro).toNatClampNeg) 0))), (it, .inl (cI, 320, .inl tf))] := hD
  rw [nI_clamp (n := ro) (by omega)] at hP hD
  have hP : va_P D vwCl [(rw, .inr (2, [.ref ln, .ref sl, .ref it])), (ln, .inl (cI, 8, .inl (upd lf ro (-1)))), (sl, .inl (cI, 8, .inl (upd sf ro 0))), (it, .inl (cI, 320, .inl tf))] H := hP
  have hD : va_D A [(rw, .inr (2, [.ref ln, .ref sl, .ref it])), (ln, .inl (cI, 8, .inl (upd lf ro (-1)))), (sl, .inl (cI, 8, .inl (upd sf ro 0))), (it, .inl (cI, 320, .inl tf))] := hD
  have hP9 := hP.sub (ws' := [(rw, .inr (2, [.ref ln, .ref sl, .ref it])), (ln, .inl (cI, 8, .inl (upd lf ro (-1)))), (sl, .inl (cI, 8, .inl (upd sf ro 0))), (it, .inl (cI, 320, .inl tf))]) [0, 1, 2, 3] rfl
  have hD9 := hD.sub (ws' := [(rw, .inr (2, [.ref ln, .ref sl, .ref it])), (ln, .inl (cI, 8, .inl (upd lf ro (-1)))), (sl, .inl (cI, 8, .inl (upd sf ro 0))), (it, .inl (cI, 320, .inl tf))]) [0, 1, 2, 3] (by decide) rfl
  exact wt_vret hx hb hr hlocks hP9 hD9 hS rfl dX2_lose_14
set_option maxHeartbeats 4000000 in
set_option maxRecDepth 100000 in
theorem c_X2_lay_x (l : Launch) (D : va_G) (cI cZ cH : ClassId) (rw ln sl it : Nat) (lf sf tf : Nat → Int32) (ro n : Nat) (kp : Int32) (hr8 : ro < 8) (hn40 : n ≤ 40) : wt_M l yX2_lay wsX2_lay ({ frames := 1, cells := 0, slots := 0, locals := 22 } : Room) D (wt_T cI cZ cH) [.ref rw, .int (nI ro), .int kp, .int (nI n)] [(rw, .inr (2, [.ref ln, .ref sl, .ref it])), (ln, .inl (cI, 8, .inl lf)), (sl, .inl (cI, 8, .inl sf)), (it, .inl (cI, 320, .inl tf))] (wt_QV D (fun w => ∃ (tf2 : Nat → Int32), w = [(rw, .inr (2, [.ref ln, .ref sl, .ref it])), (ln, .inl (cI, 8, .inl (upd lf ro kp))), (sl, .inl (cI, 8, .inl (upd sf ro (nI n)))), (it, .inl (cI, 320, .inl tf2))])) := by
  refine wt_M.ofW (cc := cX2_lay) (maxL := 5) (ret := none) (by decide) rfl (Nat.le_of_ble_eq_true rfl) ?_
  intro p e s m below meth c A ls hx hb hr hts hown hlocks hml hnm hP hK hD hA hS hl
  have hP : va_P D vwCl [(rw, .inr (2, [.ref ln, .ref sl, .ref it])), (ln, .inl (cI, 8, .inl lf)), (sl, .inl (cI, 8, .inl sf)), (it, .inl (cI, 320, .inl tf))] s.heap := hP
  have hown : s.vm.findClass RX2 = some m.cls := hown
  have hl : lv_has ls 5 [(0, .ref rw), (1, .int (nI ro)), (2, .int kp), (3, .int (nI n))] := hl
  have hi2 : ∀ w ∈ u_ws RX2 TX2 3, w ∈ wsX2_lay := by decide +kernel
  have wf11 := hts (.fieldLink RX2 11 "WarmTubes$Rows" "lane" "[I") (by decide +kernel)
  have wf15 := hts (.fieldLink RX2 15 "WarmTubes$Rows" "size" "[I") (by decide +kernel)
  have wf18 := hts (.fieldLink RX2 18 "WarmTubes$Rows" "items" "[I") (by decide +kernel)
  refine lv_aload_n hx hb dX2_lay_0 rfl (lv_at hl 0 rfl) ?_
  refine va_get (D := D) (ci := 2) (v := .ref ln) (C := RX2) (T := TX2) (N := 3) hx hb hts hi2 hown hK.1 hP 0 rfl rfl 0 (by decide) wf11 (fun _ h9 => h9) rfl dX2_lay_1 ?_
  refine lv_iload_n hx hb dX2_lay_4 rfl (lv_at hl 1 rfl) ?_
  refine lv_iload_n hx hb dX2_lay_5 rfl (lv_at hl 2 rfl) ?_
  refine va_iast hx hb hK.1 hP hD hS 1 0 rfl rfl (vp_in_nI (by omega) (by omega)) dX2_lay_6 (fun H locs hP hD hS => ?_)
  have hP : va_P D vwCl [(rw, .inr (2, [.ref ln, .ref sl, .ref it])), (ln, .inl (cI, 8, .inl (upd lf ((nI ro).toNatClampNeg) kp))), (sl, .inl (cI, 8, .inl sf)), (it, .inl (cI, 320, .inl tf))] H := hP
  have hD : va_D A [(rw, .inr (2, [.ref ln, .ref sl, .ref it])), (ln, .inl (cI, 8, .inl (upd lf ((nI ro).toNatClampNeg) kp))), (sl, .inl (cI, 8, .inl sf)), (it, .inl (cI, 320, .inl tf))] := hD
  rw [nI_clamp (n := ro) (by omega)] at hP hD
  have hP : va_P D vwCl [(rw, .inr (2, [.ref ln, .ref sl, .ref it])), (ln, .inl (cI, 8, .inl (upd lf ro kp))), (sl, .inl (cI, 8, .inl sf)), (it, .inl (cI, 320, .inl tf))] H := hP
  have hD : va_D A [(rw, .inr (2, [.ref ln, .ref sl, .ref it])), (ln, .inl (cI, 8, .inl (upd lf ro kp))), (sl, .inl (cI, 8, .inl sf)), (it, .inl (cI, 320, .inl tf))] := hD
  refine lv_aload_n hx hb dX2_lay_7 rfl (lv_at hl 0 rfl) ?_
  refine va_get (D := D) (ci := 2) (v := .ref sl) (C := RX2) (T := TX2) (N := 3) hx hb hts hi2 hown hK.1 hP 0 rfl rfl 1 (by decide) wf15 (fun _ h9 => h9) rfl dX2_lay_8 ?_
  refine lv_iload_n hx hb dX2_lay_11 rfl (lv_at hl 1 rfl) ?_
  refine lv_iload_n hx hb dX2_lay_12 rfl (lv_at hl 3 rfl) ?_
  refine va_iast hx hb hK.1 hP hD hS 2 0 rfl rfl (vp_in_nI (by omega) (by omega)) dX2_lay_13 (fun H locs hP hD hS => ?_)
  have hP : va_P D vwCl [(rw, .inr (2, [.ref ln, .ref sl, .ref it])), (ln, .inl (cI, 8, .inl (upd lf ro kp))), (sl, .inl (cI, 8, .inl (upd sf ((nI ro).toNatClampNeg) (nI n)))), (it, .inl (cI, 320, .inl tf))] H := hP
  have hD : va_D A [(rw, .inr (2, [.ref ln, .ref sl, .ref it])), (ln, .inl (cI, 8, .inl (upd lf ro kp))), (sl, .inl (cI, 8, .inl (upd sf ((nI ro).toNatClampNeg) (nI n)))), (it, .inl (cI, 320, .inl tf))] := hD
  rw [nI_clamp (n := ro) (by omega)] at hP hD
  have hP : va_P D vwCl [(rw, .inr (2, [.ref ln, .ref sl, .ref it])), (ln, .inl (cI, 8, .inl (upd lf ro kp))), (sl, .inl (cI, 8, .inl (upd sf ro (nI n)))), (it, .inl (cI, 320, .inl tf))] H := hP
  have hD : va_D A [(rw, .inr (2, [.ref ln, .ref sl, .ref it])), (ln, .inl (cI, 8, .inl (upd lf ro kp))), (sl, .inl (cI, 8, .inl (upd sf ro (nI n)))), (it, .inl (cI, 320, .inl tf))] := hD
  refine lv_iconst (v := 0) hx hb dX2_lay_14 (by decide) ?_
  refine lv_istore (lv' := [(4, .int 0), (0, .ref rw), (1, .int (nI ro)), (2, .int kp), (3, .int (nI n))]) hx hb dX2_lay_15 hl (by decide) rfl (fun ls hl => ?_)
  have loop17 : ∀ (k i_1 : Nat) (tf_2 : Nat → Int32) (H : Heap) (locs : List Loc) (ls : Array Slot), i_1 + k = 40 → va_P D vwCl [(rw, .inr (2, [.ref ln, .ref sl, .ref it])), (ln, .inl (cI, 8, .inl (upd lf ro kp))), (sl, .inl (cI, 8, .inl (upd sf ro (nI n)))), (it, .inl (cI, 320, .inl tf_2))] H → va_D A [(rw, .inr (2, [.ref ln, .ref sl, .ref it])), (ln, .inl (cI, 8, .inl (upd lf ro kp))), (sl, .inl (cI, 8, .inl (upd sf ro (nI n)))), (it, .inl (cI, 320, .inl tf_2))] → va_S A s.heap H locs → lv_has ls 5 [(4, .int (nI i_1)), (0, .ref rw), (1, .int (nI ro)), (2, .int kp), (3, .int (nI n))] → W p l e ({ frames := 1, cells := 0, slots := 0, locals := 22 } : Room) s m ([.ref rw, .int (nI ro), .int kp, .int (nI n)] : List Value).toArray below meth c H locs 0 0 (MQ below (wt_QV D (fun w => ∃ (tf2 : Nat → Int32), w = [(rw, .inr (2, [.ref ln, .ref sl, .ref it])), (ln, .inl (cI, 8, .inl (upd lf ro kp))), (sl, .inl (cI, 8, .inl (upd sf ro (nI n)))), (it, .inl (cI, 320, .inl tf2))]) A) ([.ref rw, .int (nI ro), .int kp, .int (nI n)] : List Value).toArray s 0 0 A) (F0 m 17 ls []) := by
    intro k
    induction k with
    | zero =>
      intro i_1 tf_2 H locs ls hik  hP hD hS hl
      refine lv_iload hx hb dX2_lay_17 (lv_at hl 0 rfl) ?_
      refine lv_bipush (v := 40) hx hb dX2_lay_19 (by decide) ?_
      refine lv_icmp_ge (tgt := 43) hx hb dX2_lay_21 (by decide) (fun _ => ?_) (fun h => absurd (nI_le (a := 40) (b := i_1) (by omega) (by omega)) h)
      have hP9 := hP.sub (ws' := [(rw, .inr (2, [.ref ln, .ref sl, .ref it])), (ln, .inl (cI, 8, .inl (upd lf ro kp))), (sl, .inl (cI, 8, .inl (upd sf ro (nI n)))), (it, .inl (cI, 320, .inl tf_2))]) [0, 1, 2, 3] rfl
      have hD9 := hD.sub (ws' := [(rw, .inr (2, [.ref ln, .ref sl, .ref it])), (ln, .inl (cI, 8, .inl (upd lf ro kp))), (sl, .inl (cI, 8, .inl (upd sf ro (nI n)))), (it, .inl (cI, 320, .inl tf_2))]) [0, 1, 2, 3] (by decide) rfl
      exact wt_vret hx hb hr hlocks hP9 hD9 hS ⟨tf_2, rfl⟩ dX2_lay_43
    | succ k ih17 =>
      intro i_1 tf_2 H locs ls hik  hP hD hS hl
      refine lv_iload hx hb dX2_lay_17 (lv_at hl 0 rfl) ?_
      refine lv_bipush (v := 40) hx hb dX2_lay_19 (by decide) ?_
      refine lv_icmp_ge (tgt := 43) hx hb dX2_lay_21 (by decide) (fun h => absurd h (nI_ge (a := i_1) (b := 40) (by omega) (by omega))) (fun _ => ?_)
      refine lv_aload_n hx hb dX2_lay_24 rfl (lv_at hl 1 rfl) ?_
      refine va_get (D := D) (ci := 2) (v := .ref it) (C := RX2) (T := TX2) (N := 3) hx hb hts hi2 hown hK.1 hP 0 rfl rfl 2 (by decide) wf18 (fun _ h9 => h9) rfl dX2_lay_25 ?_
      refine lv_aload_n hx hb dX2_lay_28 rfl (lv_at hl 1 rfl) ?_
      refine lv_iload_n hx hb dX2_lay_29 rfl (lv_at hl 2 rfl) ?_
      refine lv_iload hx hb dX2_lay_30 (lv_at hl 0 rfl) ?_
      refine wt_rV (As := [.int (nI ro), .int (nI i_1)]) (rest := [.ref it]) ⟨hx, hb, hml, hown, hts⟩ (c_X2_at l D cI cZ cH rw ro i_1) (cwV 2 hts gX2_lay_X2_at rfl rfl rfl (by decide +kernel) ⟨Nat.le_of_ble_eq_true rfl, Nat.le_of_ble_eq_true rfl⟩) hK hP [] rfl (va_recv hK.1 hP (ci := 2) (q0 := 0) rfl rfl) rfl hl.1 rfl (Nat.le_of_ble_eq_true rfl) dX2_lay_32 ⟨Nat.le_of_ble_eq_true rfl, Nat.le_of_ble_eq_true rfl⟩ (fun r_3 e_4 => ?_)
      subst e_4
      refine lv_iconst (v := 0) hx hb dX2_lay_35 (by decide) ?_
      refine va_iast hx hb hK.1 hP hD hS 3 0 rfl rfl (vp_in_nI (by omega) (by omega)) dX2_lay_36 (fun H locs hP hD hS => ?_)
      have hP : va_P D vwCl [(rw, .inr (2, [.ref ln, .ref sl, .ref it])), (ln, .inl (cI, 8, .inl (upd lf ro kp))), (sl, .inl (cI, 8, .inl (upd sf ro (nI n)))), (it, .inl (cI, 320, .inl (upd tf_2 ((nI (ro * 40 + i_1)).toNatClampNeg) 0)))] H := hP
      have hD : va_D A [(rw, .inr (2, [.ref ln, .ref sl, .ref it])), (ln, .inl (cI, 8, .inl (upd lf ro kp))), (sl, .inl (cI, 8, .inl (upd sf ro (nI n)))), (it, .inl (cI, 320, .inl (upd tf_2 ((nI (ro * 40 + i_1)).toNatClampNeg) 0)))] := hD
      generalize upd tf_2 ((nI (ro * 40 + i_1)).toNatClampNeg) 0 = tf_5 at hP hD
      refine lv_iinc (v := nI (i_1 + 1)) (lv' := [(4, .int (nI (i_1 + 1))), (0, .ref rw), (1, .int (nI ro)), (2, .int kp), (3, .int (nI n))]) hx hb dX2_lay_37 hl (k := 0) rfl (nI_add i_1 1) (by decide) rfl (fun ls hl => ?_)
      refine lv_goto (tgt := 17) hx hb dX2_lay_40 (by decide) ?_
      exact ih17 ((i_1 + 1)) tf_5 H locs ls (by omega)  hP hD hS (lv_sub hl [0, 1, 2, 3, 4] rfl)
  exact loop17 (40 - 0) (0) tf _ _ ls (by omega)  hP hD hS hl
set_option maxHeartbeats 4000000 in
set_option maxRecDepth 100000 in
theorem c_X5_row_x (l : Launch) (D : va_G) (cI cZ cH : ClassId) (xf : Int32) (x : Nat) (rw ln sl it : Nat) (lf sf tf : Nat → Int32) (a1 a2 a3 : Int32) (vx_1 vx_2 vx_3 vx_4 vx_5 vx_6 vx_7 vx_8 : Value) (hs8 : hw 40 8 sf) : wt_M l yX5_row wsX5_row ({ frames := 2, cells := 0, slots := 0, locals := 46 } : Room) D (wt_T cI cZ cH) [.ref x, .int a1, .int a2, .int a3] [(x, .inr (5, [.ref rw, vx_1, vx_2, vx_3, vx_4, vx_5, vx_6, vx_7, vx_8, .int xf])), (rw, .inr (2, [.ref ln, .ref sl, .ref it])), (ln, .inl (cI, 8, .inl lf)), (sl, .inl (cI, 8, .inl sf)), (it, .inl (cI, 320, .inl tf))] (wt_QI D (fun r w => ∃ (lf2 sf2 tf2 : Nat → Int32) (x_f9 : Int32), w = [(x, .inr (5, [.ref rw, vx_1, vx_2, vx_3, vx_4, vx_5, vx_6, vx_7, vx_8, .int x_f9])), (rw, .inr (2, [.ref ln, .ref sl, .ref it])), (ln, .inl (cI, 8, .inl lf2)), (sl, .inl (cI, 8, .inl sf2)), (it, .inl (cI, 320, .inl tf2))] ∧ r = fA (rowF a1 a2 a3) a3 ∧ lf2 = rowL lf a1 a2 a3 ∧ sf2 = rowS sf a1 a2 a3 ∧ hw 40 8 sf2 ∧ x_f9 = fQ (rowF a1 a2 a3) xf)) := by
  refine wt_M.ofW (cc := cX5_row) (maxL := 4) (ret := (some .int)) (by decide) rfl (Nat.le_of_ble_eq_true rfl) ?_
  intro p e s m below meth c A ls hx hb hr hts hown hlocks hml hnm hP hK hD hA hS hl
  have hP : va_P D vwCl [(x, .inr (5, [.ref rw, vx_1, vx_2, vx_3, vx_4, vx_5, vx_6, vx_7, vx_8, .int xf])), (rw, .inr (2, [.ref ln, .ref sl, .ref it])), (ln, .inl (cI, 8, .inl lf)), (sl, .inl (cI, 8, .inl sf)), (it, .inl (cI, 320, .inl tf))] s.heap := hP
  have hown : s.vm.findClass RX5 = some m.cls := hown
  have hl : lv_has ls 4 [(0, .ref x), (1, .int a1), (2, .int a2), (3, .int a3)] := hl
  have hi5 : ∀ w ∈ u_ws RX5 TX5 10, w ∈ wsX5_row := by decide +kernel
  have wc70 := hts (.constant RX5 70 (-1000001)) (by decide +kernel)
  have wf10 := hts (.fieldLink RX5 10 "WarmTubes" "rows" "LWarmTubes$Rows;") (by decide +kernel)
  refine lv_iload_n hx hb dX5_row_0 rfl (lv_at hl 1 rfl) ?_
  refine wt_rS (As := [.int a1]) (rest := []) ⟨hx, hb, hml, hown, hts⟩ (c_X5_isRow l D cI cZ cH a1) (va_cwS 1 hts gX5_row_X5_isRow rfl rfl rfl (by decide +kernel) ⟨Nat.le_of_ble_eq_true rfl, Nat.le_of_ble_eq_true rfl⟩) hK hP [] rfl rfl hl.1 rfl (Nat.le_of_ble_eq_true rfl) dX5_row_1 ⟨Nat.le_of_ble_eq_true rfl, Nat.le_of_ble_eq_true rfl⟩ (fun r_1 e_2 => ?_)
  subst e_2
  refine lv_if_eq (tgt := 22) hx hb dX5_row_4 (by decide) (fun c_3 => ?_) (fun c_3 => ?_)
  · skip
    refine lv_ldc hx hb hown wc70 dX5_row_22 ?_
    have hP9 := hP.sub (ws' := [(x, .inr (5, [.ref rw, vx_1, vx_2, vx_3, vx_4, vx_5, vx_6, vx_7, vx_8, .int xf])), (rw, .inr (2, [.ref ln, .ref sl, .ref it])), (ln, .inl (cI, 8, .inl lf)), (sl, .inl (cI, 8, .inl sf)), (it, .inl (cI, 320, .inl tf))]) [0, 1, 2, 3, 4] rfl
    have hD9 := hD.sub (ws' := [(x, .inr (5, [.ref rw, vx_1, vx_2, vx_3, vx_4, vx_5, vx_6, vx_7, vx_8, .int xf])), (rw, .inr (2, [.ref ln, .ref sl, .ref it])), (ln, .inl (cI, 8, .inl lf)), (sl, .inl (cI, 8, .inl sf)), (it, .inl (cI, 320, .inl tf))]) [0, 1, 2, 3, 4] (by decide) rfl
    exact wt_iret hx hb hr hlocks hP9 hD9 hS ⟨lf, sf, tf, xf, rfl, (by exact (fA_b (rowF_a (b := a2) (c := a3) c_3) _).symm), ⟨rowL_n (rowF_a (b := a2) (c := a3) c_3) (by decide), rowS_n (rowF_a (b := a2) (c := a3) c_3) (by decide), hs8, (fQ_b (rowF_a (b := a2) (c := a3) c_3) xf).symm⟩⟩ dX5_row_24
  · skip
    obtain ⟨j_4, hj_4, hj_4b, rfl⟩ := wI_nat (a := 0) (b := 7) (by omega) (by omega) c_3
    refine lv_iload_n hx hb dX5_row_7 rfl (lv_at hl 2 rfl) ?_
    refine lv_iconst (v := 0) hx hb dX5_row_8 (by decide) ?_
    refine lv_iconst (v := 2) hx hb dX5_row_9 (by decide) ?_
    refine wt_rS (As := [.int a2, .int 0, .int 2]) (rest := []) ⟨hx, hb, hml, hown, hts⟩ (c_X5_within l D cI cZ cH a2 0 2) (va_cwS 3 hts gX5_row_X5_within rfl rfl rfl (by decide +kernel) ⟨Nat.le_of_ble_eq_true rfl, Nat.le_of_ble_eq_true rfl⟩) hK hP [] rfl rfl hl.1 rfl (Nat.le_of_ble_eq_true rfl) dX5_row_10 ⟨Nat.le_of_ble_eq_true rfl, Nat.le_of_ble_eq_true rfl⟩ (fun r_5 e_6 => ?_)
    subst e_6
    refine lv_if_eq (tgt := 22) hx hb dX5_row_13 (by decide) (fun c_7 => ?_) (fun c_7 => ?_)
    · skip
      refine lv_ldc hx hb hown wc70 dX5_row_22 ?_
      have hP9 := hP.sub (ws' := [(x, .inr (5, [.ref rw, vx_1, vx_2, vx_3, vx_4, vx_5, vx_6, vx_7, vx_8, .int xf])), (rw, .inr (2, [.ref ln, .ref sl, .ref it])), (ln, .inl (cI, 8, .inl lf)), (sl, .inl (cI, 8, .inl sf)), (it, .inl (cI, 320, .inl tf))]) [0, 1, 2, 3, 4] rfl
      have hD9 := hD.sub (ws' := [(x, .inr (5, [.ref rw, vx_1, vx_2, vx_3, vx_4, vx_5, vx_6, vx_7, vx_8, .int xf])), (rw, .inr (2, [.ref ln, .ref sl, .ref it])), (ln, .inl (cI, 8, .inl lf)), (sl, .inl (cI, 8, .inl sf)), (it, .inl (cI, 320, .inl tf))]) [0, 1, 2, 3, 4] (by decide) rfl
      exact wt_iret hx hb hr hlocks hP9 hD9 hS ⟨lf, sf, tf, xf, rfl, (by exact (fA_b (rowF_b (c := a3) c_3 c_7) _).symm), ⟨rowL_n (rowF_b (c := a3) c_3 c_7) (by decide), rowS_n (rowF_b (c := a3) c_3 c_7) (by decide), hs8, (fQ_b (rowF_b (c := a3) c_3 c_7) xf).symm⟩⟩ dX5_row_24
    · skip
      obtain ⟨j_8, hj_8, hj_8b, rfl⟩ := wI_nat (a := 0) (b := 2) (by omega) (by omega) c_7
      refine lv_iload_n hx hb dX5_row_16 rfl (lv_at hl 3 rfl) ?_
      refine lv_bipush (v := 40) hx hb dX5_row_17 (by decide) ?_
      refine lv_icmp_le (tgt := 25) hx hb dX5_row_19 (by decide) (fun c_9 => ?_) (fun c_9 => ?_)
      · skip
        refine lv_iload_n hx hb dX5_row_25 rfl (lv_at hl 3 rfl) ?_
        refine lv_if_ge (tgt := 35) hx hb dX5_row_26 (by decide) (fun c_10 => ?_) (fun c_10 => ?_)
        · skip
          obtain ⟨k3, hk3, rfl⟩ := nI_of2 (M := 40) (n := 40) rfl (wt_nlt c_10) c_9
          refine lv_aload_n hx hb dX5_row_35 rfl (lv_at hl 0 rfl) ?_
          refine va_get (D := D) (ci := 5) (v := .ref rw) (C := RX5) (T := TX5) (N := 10) hx hb hts hi5 hown hK.1 hP 0 rfl rfl 0 (by decide) wf10 (fun _ h9 => h9) rfl dX5_row_36 ?_
          refine lv_iload_n hx hb dX5_row_39 rfl (lv_at hl 1 rfl) ?_
          refine lv_iload_n hx hb dX5_row_40 rfl (lv_at hl 2 rfl) ?_
          refine lv_iload_n hx hb dX5_row_41 rfl (lv_at hl 3 rfl) ?_
          refine wt_goV (wr := [(x, .inr (5, [.ref rw, vx_1, vx_2, vx_3, vx_4, vx_5, vx_6, vx_7, vx_8, .int xf]))]) (wt_runV (As := [.int (nI j_4), .int (nI j_8), .int (nI k3)]) (rest := []) ⟨hx, hb, hml, hown, hts⟩ (c_X2_lay_x l D cI cZ cH rw ln sl it lf sf tf j_4 k3 (nI j_8) (by first | assumption | omega) (by first | assumption | omega)) (cwV 3 hts gX5_row_X2_lay rfl rfl rfl (by decide +kernel) ⟨Nat.le_of_ble_eq_true rfl, Nat.le_of_ble_eq_true rfl⟩) hK hP hD [1, 2, 3, 4] rfl (by decide) (va_recv hK.1 hP (ci := 2) (q0 := 1) rfl rfl) rfl hl.1 rfl (Nat.le_of_ble_eq_true rfl) dX5_row_42 ⟨Nat.le_of_ble_eq_true rfl, Nat.le_of_ble_eq_true rfl⟩) hP hD hS hA [1, 2, 3, 4] [0] rfl rfl (by decide) (by decide) (fun w_12 H locs h_13 hP hD hS => ?_)
          obtain ⟨tf2_14, rfl⟩ := h_13
          have hP : va_P D vwCl [(x, .inr (5, [.ref rw, vx_1, vx_2, vx_3, vx_4, vx_5, vx_6, vx_7, vx_8, .int xf])), (rw, .inr (2, [.ref ln, .ref sl, .ref it])), (ln, .inl (cI, 8, .inl (upd lf j_4 (nI j_8)))), (sl, .inl (cI, 8, .inl (upd sf j_4 (nI k3)))), (it, .inl (cI, 320, .inl tf2_14))] H := hP
          have hD : va_D A [(x, .inr (5, [.ref rw, vx_1, vx_2, vx_3, vx_4, vx_5, vx_6, vx_7, vx_8, .int xf])), (rw, .inr (2, [.ref ln, .ref sl, .ref it])), (ln, .inl (cI, 8, .inl (upd lf j_4 (nI j_8)))), (sl, .inl (cI, 8, .inl (upd sf j_4 (nI k3)))), (it, .inl (cI, 320, .inl tf2_14))] := hD
          refine lv_aload_n hx hb dX5_row_45 rfl (lv_at hl 0 rfl) ?_
          refine lv_iload_n hx hb dX5_row_46 rfl (lv_at hl 3 rfl) ?_
          refine wt_goI (wr := [(rw, .inr (2, [.ref ln, .ref sl, .ref it])), (ln, .inl (cI, 8, .inl (upd lf j_4 (nI j_8)))), (sl, .inl (cI, 8, .inl (upd sf j_4 (nI k3)))), (it, .inl (cI, 320, .inl tf2_14))]) (wt_runV (As := [.int (nI k3)]) (rest := []) ⟨hx, hb, hml, hown, hts⟩ (c_X5_plain l D cI cZ cH x (nI k3) (.ref rw) vx_1 vx_2 vx_3 vx_4 vx_5 vx_6 vx_7 vx_8 (.int xf)) (cwV 1 hts gX5_row_X5_plain rfl rfl rfl (by decide +kernel) ⟨Nat.le_of_ble_eq_true rfl, Nat.le_of_ble_eq_true rfl⟩) hK hP hD [0] rfl (by decide) (va_recv hK.1 hP (ci := 5) (q0 := 0) rfl rfl) rfl hl.1 rfl (Nat.le_of_ble_eq_true rfl) dX5_row_47 ⟨Nat.le_of_ble_eq_true rfl, Nat.le_of_ble_eq_true rfl⟩) hP hD hS hA [0] [1, 2, 3, 4] rfl rfl (by decide) (by decide) (fun r_15 w_16 H locs h_17 hP hD hS => ?_)
          obtain ⟨rfl, rfl⟩ := h_17
          have hP : va_P D vwCl [(rw, .inr (2, [.ref ln, .ref sl, .ref it])), (ln, .inl (cI, 8, .inl (upd lf j_4 (nI j_8)))), (sl, .inl (cI, 8, .inl (upd sf j_4 (nI k3)))), (it, .inl (cI, 320, .inl tf2_14)), (x, .inr (5, [.ref rw, vx_1, vx_2, vx_3, vx_4, vx_5, vx_6, vx_7, vx_8, .int 0]))] H := hP
          have hD : va_D A [(rw, .inr (2, [.ref ln, .ref sl, .ref it])), (ln, .inl (cI, 8, .inl (upd lf j_4 (nI j_8)))), (sl, .inl (cI, 8, .inl (upd sf j_4 (nI k3)))), (it, .inl (cI, 320, .inl tf2_14)), (x, .inr (5, [.ref rw, vx_1, vx_2, vx_3, vx_4, vx_5, vx_6, vx_7, vx_8, .int 0]))] := hD
          have hP9 := hP.sub (ws' := [(x, .inr (5, [.ref rw, vx_1, vx_2, vx_3, vx_4, vx_5, vx_6, vx_7, vx_8, .int 0])), (rw, .inr (2, [.ref ln, .ref sl, .ref it])), (ln, .inl (cI, 8, .inl (upd lf j_4 (nI j_8)))), (sl, .inl (cI, 8, .inl (upd sf j_4 (nI k3)))), (it, .inl (cI, 320, .inl tf2_14))]) [4, 0, 1, 2, 3] rfl
          have hD9 := hD.sub (ws' := [(x, .inr (5, [.ref rw, vx_1, vx_2, vx_3, vx_4, vx_5, vx_6, vx_7, vx_8, .int 0])), (rw, .inr (2, [.ref ln, .ref sl, .ref it])), (ln, .inl (cI, 8, .inl (upd lf j_4 (nI j_8)))), (sl, .inl (cI, 8, .inl (upd sf j_4 (nI k3)))), (it, .inl (cI, 320, .inl tf2_14))]) [4, 0, 1, 2, 3] (by decide) rfl
          exact wt_iret hx hb hr hlocks hP9 hD9 hS ⟨(upd lf j_4 (nI j_8)), (upd sf j_4 (nI k3)), tf2_14, 0, rfl, (by exact (fA_0 (rowF_0 c_3 c_7 c_9 c_10) _).symm), ⟨rowL_0 (rowF_0 c_3 c_7 c_9 c_10) (by omega), rowS_0 (rowF_0 c_3 c_7 c_9 c_10) (by omega), hw_upd hs8 (by omega) _, (fQ_k (rowF_0 c_3 c_7 c_9 c_10) (by decide) xf).symm⟩⟩ dX5_row_50
        · skip
          refine lv_aload_n hx hb dX5_row_29 rfl (lv_at hl 0 rfl) ?_
          refine lv_iconst (v := 4) hx hb dX5_row_30 (by decide) ?_
          refine wt_goI (wr := [(rw, .inr (2, [.ref ln, .ref sl, .ref it])), (ln, .inl (cI, 8, .inl lf)), (sl, .inl (cI, 8, .inl sf)), (it, .inl (cI, 320, .inl tf))]) (wt_runV (As := [.int 4]) (rest := []) ⟨hx, hb, hml, hown, hts⟩ (c_X5_found l D cI cZ cH x 4 (.ref rw) vx_1 vx_2 vx_3 vx_4 vx_5 vx_6 vx_7 vx_8 (.int xf)) (cwV 1 hts gX5_row_X5_found rfl rfl rfl (by decide +kernel) ⟨Nat.le_of_ble_eq_true rfl, Nat.le_of_ble_eq_true rfl⟩) hK hP hD [0] rfl (by decide) (va_recv hK.1 hP (ci := 5) (q0 := 0) rfl rfl) rfl hl.1 rfl (Nat.le_of_ble_eq_true rfl) dX5_row_31 ⟨Nat.le_of_ble_eq_true rfl, Nat.le_of_ble_eq_true rfl⟩) hP hD hS hA [0] [1, 2, 3, 4] rfl rfl (by decide) (by decide) (fun r_18 w_19 H locs h_20 hP hD hS => ?_)
          obtain ⟨rfl, rfl⟩ := h_20
          have hP : va_P D vwCl [(rw, .inr (2, [.ref ln, .ref sl, .ref it])), (ln, .inl (cI, 8, .inl lf)), (sl, .inl (cI, 8, .inl sf)), (it, .inl (cI, 320, .inl tf)), (x, .inr (5, [.ref rw, vx_1, vx_2, vx_3, vx_4, vx_5, vx_6, vx_7, vx_8, .int 4]))] H := hP
          have hD : va_D A [(rw, .inr (2, [.ref ln, .ref sl, .ref it])), (ln, .inl (cI, 8, .inl lf)), (sl, .inl (cI, 8, .inl sf)), (it, .inl (cI, 320, .inl tf)), (x, .inr (5, [.ref rw, vx_1, vx_2, vx_3, vx_4, vx_5, vx_6, vx_7, vx_8, .int 4]))] := hD
          refine wt_top (z := (-1000014)) (by decide) ?_
          have hP9 := hP.sub (ws' := [(x, .inr (5, [.ref rw, vx_1, vx_2, vx_3, vx_4, vx_5, vx_6, vx_7, vx_8, .int 4])), (rw, .inr (2, [.ref ln, .ref sl, .ref it])), (ln, .inl (cI, 8, .inl lf)), (sl, .inl (cI, 8, .inl sf)), (it, .inl (cI, 320, .inl tf))]) [4, 0, 1, 2, 3] rfl
          have hD9 := hD.sub (ws' := [(x, .inr (5, [.ref rw, vx_1, vx_2, vx_3, vx_4, vx_5, vx_6, vx_7, vx_8, .int 4])), (rw, .inr (2, [.ref ln, .ref sl, .ref it])), (ln, .inl (cI, 8, .inl lf)), (sl, .inl (cI, 8, .inl sf)), (it, .inl (cI, 320, .inl tf))]) [4, 0, 1, 2, 3] (by decide) rfl
          exact wt_iret hx hb hr hlocks hP9 hD9 hS ⟨lf, sf, tf, 4, rfl, (by exact (fA_4 (rowF_s c_3 c_7 c_9 c_10) _).symm), ⟨rowL_n (rowF_s c_3 c_7 c_9 c_10) (by decide), rowS_n (rowF_s c_3 c_7 c_9 c_10) (by decide), hs8, (fQ_k (rowF_s c_3 c_7 c_9 c_10) (by decide) xf).symm⟩⟩ dX5_row_34
      · skip
        refine lv_ldc hx hb hown wc70 dX5_row_22 ?_
        have hP9 := hP.sub (ws' := [(x, .inr (5, [.ref rw, vx_1, vx_2, vx_3, vx_4, vx_5, vx_6, vx_7, vx_8, .int xf])), (rw, .inr (2, [.ref ln, .ref sl, .ref it])), (ln, .inl (cI, 8, .inl lf)), (sl, .inl (cI, 8, .inl sf)), (it, .inl (cI, 320, .inl tf))]) [0, 1, 2, 3, 4] rfl
        have hD9 := hD.sub (ws' := [(x, .inr (5, [.ref rw, vx_1, vx_2, vx_3, vx_4, vx_5, vx_6, vx_7, vx_8, .int xf])), (rw, .inr (2, [.ref ln, .ref sl, .ref it])), (ln, .inl (cI, 8, .inl lf)), (sl, .inl (cI, 8, .inl sf)), (it, .inl (cI, 320, .inl tf))]) [0, 1, 2, 3, 4] (by decide) rfl
        exact wt_iret hx hb hr hlocks hP9 hD9 hS ⟨lf, sf, tf, xf, rfl, (by exact (fA_b (rowF_c c_3 c_7 c_9) _).symm), ⟨rowL_n (rowF_c c_3 c_7 c_9) (by decide), rowS_n (rowF_c c_3 c_7 c_9) (by decide), hs8, (fQ_b (rowF_c c_3 c_7 c_9) xf).symm⟩⟩ dX5_row_24
set_option maxHeartbeats 4000000 in
set_option maxRecDepth 100000 in
theorem c_X5_set_x (l : Launch) (D : va_G) (cI cZ cH : ClassId) (xf : Int32) (x : Nat) (rw ln sl it : Nat) (lf sf tf : Nat → Int32) (a1 a2 a3 : Int32) (vx_1 vx_2 vx_3 vx_4 vx_5 vx_6 vx_7 vx_8 : Value) (hs8 : hw 40 8 sf) : wt_M l yX5_set wsX5_set ({ frames := 2, cells := 0, slots := 0, locals := 46 } : Room) D (wt_T cI cZ cH) [.ref x, .int a1, .int a2, .int a3] [(x, .inr (5, [.ref rw, vx_1, vx_2, vx_3, vx_4, vx_5, vx_6, vx_7, vx_8, .int xf])), (rw, .inr (2, [.ref ln, .ref sl, .ref it])), (ln, .inl (cI, 8, .inl lf)), (sl, .inl (cI, 8, .inl sf)), (it, .inl (cI, 320, .inl tf))] (wt_QI D (fun r w => ∃ (tf2 : Nat → Int32) (x_f9 : Int32), w = [(x, .inr (5, [.ref rw, vx_1, vx_2, vx_3, vx_4, vx_5, vx_6, vx_7, vx_8, .int x_f9])), (rw, .inr (2, [.ref ln, .ref sl, .ref it])), (ln, .inl (cI, 8, .inl lf)), (sl, .inl (cI, 8, .inl sf)), (it, .inl (cI, 320, .inl tf2))] ∧ r = fA (setF lf sf a1 a2) (nrw (lf a1.toNatClampNeg) a3) ∧ x_f9 = fQ (setF lf sf a1 a2) xf)) := by
  refine wt_M.ofW (cc := cX5_set) (maxL := 5) (ret := (some .int)) (by decide) rfl (Nat.le_of_ble_eq_true rfl) ?_
  intro p e s m below meth c A ls hx hb hr hts hown hlocks hml hnm hP hK hD hA hS hl
  have hP : va_P D vwCl [(x, .inr (5, [.ref rw, vx_1, vx_2, vx_3, vx_4, vx_5, vx_6, vx_7, vx_8, .int xf])), (rw, .inr (2, [.ref ln, .ref sl, .ref it])), (ln, .inl (cI, 8, .inl lf)), (sl, .inl (cI, 8, .inl sf)), (it, .inl (cI, 320, .inl tf))] s.heap := hP
  have hown : s.vm.findClass RX5 = some m.cls := hown
  have hl : lv_has ls 5 [(0, .ref x), (1, .int a1), (2, .int a2), (3, .int a3)] := hl
  have hi5 : ∀ w ∈ u_ws RX5 TX5 10, w ∈ wsX5_set := by decide +kernel
  have wc70 := hts (.constant RX5 70 (-1000001)) (by decide +kernel)
  have wf10 := hts (.fieldLink RX5 10 "WarmTubes" "rows" "LWarmTubes$Rows;") (by decide +kernel)
  refine lv_iload_n hx hb dX5_set_0 rfl (lv_at hl 1 rfl) ?_
  refine wt_rS (As := [.int a1]) (rest := []) ⟨hx, hb, hml, hown, hts⟩ (c_X5_isRow l D cI cZ cH a1) (va_cwS 1 hts gX5_set_X5_isRow rfl rfl rfl (by decide +kernel) ⟨Nat.le_of_ble_eq_true rfl, Nat.le_of_ble_eq_true rfl⟩) hK hP [] rfl rfl hl.1 rfl (Nat.le_of_ble_eq_true rfl) dX5_set_1 ⟨Nat.le_of_ble_eq_true rfl, Nat.le_of_ble_eq_true rfl⟩ (fun r_1 e_2 => ?_)
  subst e_2
  refine lv_if_ne (tgt := 10) hx hb dX5_set_4 (by decide) (fun c_3 => ?_) (fun c_3 => ?_)
  · skip
    obtain ⟨j_4, hj_4, hj_4b, rfl⟩ := wI_nat (a := 0) (b := 7) (by omega) (by omega) c_3
    refine lv_aload_n hx hb dX5_set_10 rfl (lv_at hl 0 rfl) ?_
    refine va_get (D := D) (ci := 5) (v := .ref rw) (C := RX5) (T := TX5) (N := 10) hx hb hts hi5 hown hK.1 hP 0 rfl rfl 0 (by decide) wf10 (fun _ h9 => h9) rfl dX5_set_11 ?_
    refine lv_iload_n hx hb dX5_set_14 rfl (lv_at hl 1 rfl) ?_
    refine lv_iload_n hx hb dX5_set_15 rfl (lv_at hl 2 rfl) ?_
    refine lv_iconst (v := 1) hx hb dX5_set_16 (by decide) ?_
    refine wt_rV (As := [.int (nI j_4), .int a2, .int 1]) (rest := []) ⟨hx, hb, hml, hown, hts⟩ (c_X2_reach_x l D cI cZ cH rw ln sl it lf sf tf j_4 a2 1 (by first | assumption | omega) (by first | assumption | omega)) (cwV 3 hts gX5_set_X2_reach rfl rfl rfl (by decide +kernel) ⟨Nat.le_of_ble_eq_true rfl, Nat.le_of_ble_eq_true rfl⟩) hK hP [1, 2, 3, 4] rfl (va_recv hK.1 hP (ci := 2) (q0 := 1) rfl rfl) rfl hl.1 rfl (Nat.le_of_ble_eq_true rfl) dX5_set_17 ⟨Nat.le_of_ble_eq_true rfl, Nat.le_of_ble_eq_true rfl⟩ (fun r_5 e_6 => ?_)
    subst e_6
    refine lv_istore (lv' := [(4, .int (rs (lf j_4) (sf j_4) a2 1)), (0, .ref x), (1, .int (nI j_4)), (2, .int a2), (3, .int a3)]) hx hb dX5_set_20 hl (by decide) rfl (fun ls hl => ?_)
    refine lv_iload hx hb dX5_set_22 (lv_at hl 0 rfl) ?_
    refine lv_if_eq (tgt := 34) hx hb dX5_set_24 (by decide) (fun c_7 => ?_) (fun c_7 => ?_)
    · skip
      obtain ⟨ia_8, eia_8, hia_8⟩ := rs_nat1 hs8 (by omega) c_7
      subst eia_8
      refine lv_aload_n hx hb dX5_set_34 rfl (lv_at hl 1 rfl) ?_
      refine lv_aload_n hx hb dX5_set_35 rfl (lv_at hl 1 rfl) ?_
      refine va_get (D := D) (ci := 5) (v := .ref rw) (C := RX5) (T := TX5) (N := 10) hx hb hts hi5 hown hK.1 hP 0 rfl rfl 0 (by decide) wf10 (fun _ h9 => h9) rfl dX5_set_36 ?_
      refine lv_iload_n hx hb dX5_set_39 rfl (lv_at hl 2 rfl) ?_
      refine lv_iload_n hx hb dX5_set_40 rfl (lv_at hl 3 rfl) ?_
      refine lv_iload_n hx hb dX5_set_41 rfl (lv_at hl 4 rfl) ?_
      refine wt_goI (wr := [(x, .inr (5, [.ref rw, vx_1, vx_2, vx_3, vx_4, vx_5, vx_6, vx_7, vx_8, .int xf]))]) (wt_runV (As := [.int (nI j_4), .int (nI ia_8), .int a3]) (rest := [.ref x]) ⟨hx, hb, hml, hown, hts⟩ (c_X2_put_x l D cI cZ cH rw ln sl it lf sf tf j_4 ia_8 a3 (by first | assumption | omega) (by first | assumption | omega)) (cwV 3 hts gX5_set_X2_put rfl rfl rfl (by decide +kernel) ⟨Nat.le_of_ble_eq_true rfl, Nat.le_of_ble_eq_true rfl⟩) hK hP hD [1, 2, 3, 4] rfl (by decide) (va_recv hK.1 hP (ci := 2) (q0 := 1) rfl rfl) rfl hl.1 rfl (Nat.le_of_ble_eq_true rfl) dX5_set_42 ⟨Nat.le_of_ble_eq_true rfl, Nat.le_of_ble_eq_true rfl⟩) hP hD hS hA [1, 2, 3, 4] [0] rfl rfl (by decide) (by decide) (fun r_9 w_10 H locs h_11 hP hD hS => ?_)
      obtain ⟨tf2_12, rfl, rfl⟩ := h_11
      have hP : va_P D vwCl [(x, .inr (5, [.ref rw, vx_1, vx_2, vx_3, vx_4, vx_5, vx_6, vx_7, vx_8, .int xf])), (rw, .inr (2, [.ref ln, .ref sl, .ref it])), (ln, .inl (cI, 8, .inl lf)), (sl, .inl (cI, 8, .inl sf)), (it, .inl (cI, 320, .inl tf2_12))] H := hP
      have hD : va_D A [(x, .inr (5, [.ref rw, vx_1, vx_2, vx_3, vx_4, vx_5, vx_6, vx_7, vx_8, .int xf])), (rw, .inr (2, [.ref ln, .ref sl, .ref it])), (ln, .inl (cI, 8, .inl lf)), (sl, .inl (cI, 8, .inl sf)), (it, .inl (cI, 320, .inl tf2_12))] := hD
      refine wt_goI (wr := [(rw, .inr (2, [.ref ln, .ref sl, .ref it])), (ln, .inl (cI, 8, .inl lf)), (sl, .inl (cI, 8, .inl sf)), (it, .inl (cI, 320, .inl tf2_12))]) (wt_runV (As := [.int (nrw (lf j_4) a3)]) (rest := []) ⟨hx, hb, hml, hown, hts⟩ (c_X5_plain l D cI cZ cH x (nrw (lf j_4) a3) (.ref rw) vx_1 vx_2 vx_3 vx_4 vx_5 vx_6 vx_7 vx_8 (.int xf)) (cwV 1 hts gX5_set_X5_plain rfl rfl rfl (by decide +kernel) ⟨Nat.le_of_ble_eq_true rfl, Nat.le_of_ble_eq_true rfl⟩) hK hP hD [0] rfl (by decide) (va_recv hK.1 hP (ci := 5) (q0 := 0) rfl rfl) rfl hl.1 rfl (Nat.le_of_ble_eq_true rfl) dX5_set_45 ⟨Nat.le_of_ble_eq_true rfl, Nat.le_of_ble_eq_true rfl⟩) hP hD hS hA [0] [1, 2, 3, 4] rfl rfl (by decide) (by decide) (fun r_13 w_14 H locs h_15 hP hD hS => ?_)
      obtain ⟨rfl, rfl⟩ := h_15
      have hP : va_P D vwCl [(rw, .inr (2, [.ref ln, .ref sl, .ref it])), (ln, .inl (cI, 8, .inl lf)), (sl, .inl (cI, 8, .inl sf)), (it, .inl (cI, 320, .inl tf2_12)), (x, .inr (5, [.ref rw, vx_1, vx_2, vx_3, vx_4, vx_5, vx_6, vx_7, vx_8, .int 0]))] H := hP
      have hD : va_D A [(rw, .inr (2, [.ref ln, .ref sl, .ref it])), (ln, .inl (cI, 8, .inl lf)), (sl, .inl (cI, 8, .inl sf)), (it, .inl (cI, 320, .inl tf2_12)), (x, .inr (5, [.ref rw, vx_1, vx_2, vx_3, vx_4, vx_5, vx_6, vx_7, vx_8, .int 0]))] := hD
      have hP9 := hP.sub (ws' := [(x, .inr (5, [.ref rw, vx_1, vx_2, vx_3, vx_4, vx_5, vx_6, vx_7, vx_8, .int 0])), (rw, .inr (2, [.ref ln, .ref sl, .ref it])), (ln, .inl (cI, 8, .inl lf)), (sl, .inl (cI, 8, .inl sf)), (it, .inl (cI, 320, .inl tf2_12))]) [4, 0, 1, 2, 3] rfl
      have hD9 := hD.sub (ws' := [(x, .inr (5, [.ref rw, vx_1, vx_2, vx_3, vx_4, vx_5, vx_6, vx_7, vx_8, .int 0])), (rw, .inr (2, [.ref ln, .ref sl, .ref it])), (ln, .inl (cI, 8, .inl lf)), (sl, .inl (cI, 8, .inl sf)), (it, .inl (cI, 320, .inl tf2_12))]) [4, 0, 1, 2, 3] (by decide) rfl
      exact wt_iret hx hb hr hlocks hP9 hD9 hS ⟨tf2_12, 0, rfl, (by exact set_v (by omega) ((setF_on c_3 (by omega)).trans c_7)), (fQ_k ((setF_on c_3 (by omega)).trans c_7) (by decide) xf).symm⟩ dX5_set_48
    · skip
      refine lv_aload_n hx hb dX5_set_27 rfl (lv_at hl 1 rfl) ?_
      refine lv_iload hx hb dX5_set_28 (lv_at hl 0 rfl) ?_
      refine wt_goI (wr := [(rw, .inr (2, [.ref ln, .ref sl, .ref it])), (ln, .inl (cI, 8, .inl lf)), (sl, .inl (cI, 8, .inl sf)), (it, .inl (cI, 320, .inl tf))]) (wt_runV (As := [.int (rs (lf j_4) (sf j_4) a2 1)]) (rest := []) ⟨hx, hb, hml, hown, hts⟩ (c_X5_found l D cI cZ cH x (rs (lf j_4) (sf j_4) a2 1) (.ref rw) vx_1 vx_2 vx_3 vx_4 vx_5 vx_6 vx_7 vx_8 (.int xf)) (cwV 1 hts gX5_set_X5_found rfl rfl rfl (by decide +kernel) ⟨Nat.le_of_ble_eq_true rfl, Nat.le_of_ble_eq_true rfl⟩) hK hP hD [0] rfl (by decide) (va_recv hK.1 hP (ci := 5) (q0 := 0) rfl rfl) rfl hl.1 rfl (Nat.le_of_ble_eq_true rfl) dX5_set_30 ⟨Nat.le_of_ble_eq_true rfl, Nat.le_of_ble_eq_true rfl⟩) hP hD hS hA [0] [1, 2, 3, 4] rfl rfl (by decide) (by decide) (fun r_16 w_17 H locs h_18 hP hD hS => ?_)
      obtain ⟨rfl, rfl⟩ := h_18
      have hP : va_P D vwCl [(rw, .inr (2, [.ref ln, .ref sl, .ref it])), (ln, .inl (cI, 8, .inl lf)), (sl, .inl (cI, 8, .inl sf)), (it, .inl (cI, 320, .inl tf)), (x, .inr (5, [.ref rw, vx_1, vx_2, vx_3, vx_4, vx_5, vx_6, vx_7, vx_8, .int (rs (lf j_4) (sf j_4) a2 1)]))] H := hP
      have hD : va_D A [(rw, .inr (2, [.ref ln, .ref sl, .ref it])), (ln, .inl (cI, 8, .inl lf)), (sl, .inl (cI, 8, .inl sf)), (it, .inl (cI, 320, .inl tf)), (x, .inr (5, [.ref rw, vx_1, vx_2, vx_3, vx_4, vx_5, vx_6, vx_7, vx_8, .int (rs (lf j_4) (sf j_4) a2 1)]))] := hD
      have hP9 := hP.sub (ws' := [(x, .inr (5, [.ref rw, vx_1, vx_2, vx_3, vx_4, vx_5, vx_6, vx_7, vx_8, .int (rs (lf j_4) (sf j_4) a2 1)])), (rw, .inr (2, [.ref ln, .ref sl, .ref it])), (ln, .inl (cI, 8, .inl lf)), (sl, .inl (cI, 8, .inl sf)), (it, .inl (cI, 320, .inl tf))]) [4, 0, 1, 2, 3] rfl
      have hD9 := hD.sub (ws' := [(x, .inr (5, [.ref rw, vx_1, vx_2, vx_3, vx_4, vx_5, vx_6, vx_7, vx_8, .int (rs (lf j_4) (sf j_4) a2 1)])), (rw, .inr (2, [.ref ln, .ref sl, .ref it])), (ln, .inl (cI, 8, .inl lf)), (sl, .inl (cI, 8, .inl sf)), (it, .inl (cI, 320, .inl tf))]) [4, 0, 1, 2, 3] (by decide) rfl
      exact wt_iret hx hb hr hlocks hP9 hD9 hS ⟨tf, (rs (lf j_4) (sf j_4) a2 1), rfl, (by exact (fA_f (setF_on c_3 (by omega)) (rs_m _ _ _ _) c_7 _).symm), (fQ_k (setF_on c_3 (by omega)) (rs_m _ _ _ _) xf).symm⟩ dX5_set_33
  · skip
    refine lv_ldc hx hb hown wc70 dX5_set_7 ?_
    have hP9 := hP.sub (ws' := [(x, .inr (5, [.ref rw, vx_1, vx_2, vx_3, vx_4, vx_5, vx_6, vx_7, vx_8, .int xf])), (rw, .inr (2, [.ref ln, .ref sl, .ref it])), (ln, .inl (cI, 8, .inl lf)), (sl, .inl (cI, 8, .inl sf)), (it, .inl (cI, 320, .inl tf))]) [0, 1, 2, 3, 4] rfl
    have hD9 := hD.sub (ws' := [(x, .inr (5, [.ref rw, vx_1, vx_2, vx_3, vx_4, vx_5, vx_6, vx_7, vx_8, .int xf])), (rw, .inr (2, [.ref ln, .ref sl, .ref it])), (ln, .inl (cI, 8, .inl lf)), (sl, .inl (cI, 8, .inl sf)), (it, .inl (cI, 320, .inl tf))]) [0, 1, 2, 3, 4] (by decide) rfl
    exact wt_iret hx hb hr hlocks hP9 hD9 hS ⟨tf, xf, rfl, (by exact (fA_b (setF_b c_3) _).symm), (fQ_b (setF_b c_3) xf).symm⟩ dX5_set_9
set_option maxHeartbeats 4000000 in
set_option maxRecDepth 100000 in
theorem c_X5_copy_x (l : Launch) (D : va_G) (cI cZ cH : ClassId) (xf : Int32) (x : Nat) (rw ln sl it : Nat) (lf sf tf : Nat → Int32) (a1 a2 a3 a4 a5 : Int32) (vx_1 vx_2 vx_3 vx_4 vx_5 vx_6 vx_7 vx_8 : Value) (hs8 : hw 40 8 sf) : wt_M l yX5_copy wsX5_copy ({ frames := 2, cells := 0, slots := 0, locals := 60 } : Room) D (wt_T cI cZ cH) [.ref x, .int a1, .int a2, .int a3, .int a4, .int a5] [(x, .inr (5, [.ref rw, vx_1, vx_2, vx_3, vx_4, vx_5, vx_6, vx_7, vx_8, .int xf])), (rw, .inr (2, [.ref ln, .ref sl, .ref it])), (ln, .inl (cI, 8, .inl lf)), (sl, .inl (cI, 8, .inl sf)), (it, .inl (cI, 320, .inl tf))] (wt_QI D (fun r w => ∃ (tf2 : Nat → Int32) (x_f9 : Int32), w = [(x, .inr (5, [.ref rw, vx_1, vx_2, vx_3, vx_4, vx_5, vx_6, vx_7, vx_8, .int x_f9])), (rw, .inr (2, [.ref ln, .ref sl, .ref it])), (ln, .inl (cI, 8, .inl lf)), (sl, .inl (cI, 8, .inl sf)), (it, .inl (cI, 320, .inl tf2))] ∧ r = fA (copyF lf sf a1 a2 a3 a4 a5) a5 ∧ x_f9 = fQ (copyF lf sf a1 a2 a3 a4 a5) xf)) := by
  refine wt_M.ofW (cc := cX5_copy) (maxL := 6) (ret := (some .int)) (by decide) rfl (Nat.le_of_ble_eq_true rfl) ?_
  intro p e s m below meth c A ls hx hb hr hts hown hlocks hml hnm hP hK hD hA hS hl
  have hP : va_P D vwCl [(x, .inr (5, [.ref rw, vx_1, vx_2, vx_3, vx_4, vx_5, vx_6, vx_7, vx_8, .int xf])), (rw, .inr (2, [.ref ln, .ref sl, .ref it])), (ln, .inl (cI, 8, .inl lf)), (sl, .inl (cI, 8, .inl sf)), (it, .inl (cI, 320, .inl tf))] s.heap := hP
  have hown : s.vm.findClass RX5 = some m.cls := hown
  have hl : lv_has ls 6 [(0, .ref x), (1, .int a1), (2, .int a2), (3, .int a3), (4, .int a4), (5, .int a5)] := hl
  have hi2 : ∀ w ∈ u_ws RX2 TX2 3, w ∈ wsX5_copy := by decide +kernel
  have hi5 : ∀ w ∈ u_ws RX5 TX5 10, w ∈ wsX5_copy := by decide +kernel
  have wc70 := hts (.constant RX5 70 (-1000001)) (by decide +kernel)
  have wf10 := hts (.fieldLink RX5 10 "WarmTubes" "rows" "LWarmTubes$Rows;") (by decide +kernel)
  have wf92 := hts (.fieldLink RX5 92 "WarmTubes$Rows" "lane" "[I") (by decide +kernel)
  have wf95 := hts (.fieldLink RX5 95 "WarmTubes$Rows" "items" "[I") (by decide +kernel)
  have wy102 := hts (.methodLink RX5 102 arraycopyName) (by decide +kernel)
  have wyi := hts (.initialized "java/lang/System") (by decide +kernel)
  have wyn := hts (.native arraycopyName) (by decide +kernel)
  have wys := hts (.static arraycopyName) (by decide +kernel)
  refine lv_iload_n hx hb dX5_copy_0 rfl (lv_at hl 1 rfl) ?_
  refine wt_rS (As := [.int a1]) (rest := []) ⟨hx, hb, hml, hown, hts⟩ (c_X5_isRow l D cI cZ cH a1) (va_cwS 1 hts gX5_copy_X5_isRow rfl rfl rfl (by decide +kernel) ⟨Nat.le_of_ble_eq_true rfl, Nat.le_of_ble_eq_true rfl⟩) hK hP [] rfl rfl hl.1 rfl (Nat.le_of_ble_eq_true rfl) dX5_copy_1 ⟨Nat.le_of_ble_eq_true rfl, Nat.le_of_ble_eq_true rfl⟩ (fun r_1 e_2 => ?_)
  subst e_2
  refine lv_if_eq (tgt := 14) hx hb dX5_copy_4 (by decide) (fun c_3 => ?_) (fun c_3 => ?_)
  · skip
    refine lv_ldc hx hb hown wc70 dX5_copy_14 ?_
    have hP9 := hP.sub (ws' := [(x, .inr (5, [.ref rw, vx_1, vx_2, vx_3, vx_4, vx_5, vx_6, vx_7, vx_8, .int xf])), (rw, .inr (2, [.ref ln, .ref sl, .ref it])), (ln, .inl (cI, 8, .inl lf)), (sl, .inl (cI, 8, .inl sf)), (it, .inl (cI, 320, .inl tf))]) [0, 1, 2, 3, 4] rfl
    have hD9 := hD.sub (ws' := [(x, .inr (5, [.ref rw, vx_1, vx_2, vx_3, vx_4, vx_5, vx_6, vx_7, vx_8, .int xf])), (rw, .inr (2, [.ref ln, .ref sl, .ref it])), (ln, .inl (cI, 8, .inl lf)), (sl, .inl (cI, 8, .inl sf)), (it, .inl (cI, 320, .inl tf))]) [0, 1, 2, 3, 4] (by decide) rfl
    exact wt_iret hx hb hr hlocks hP9 hD9 hS ⟨tf, xf, rfl, (by exact (fA_b (copyF_a c_3) _).symm), (fQ_b (copyF_a c_3) xf).symm⟩ dX5_copy_16
  · skip
    obtain ⟨j_4, hj_4, hj_4b, rfl⟩ := wI_nat (a := 0) (b := 7) (by omega) (by omega) c_3
    refine lv_iload_n hx hb dX5_copy_7 rfl (lv_at hl 3 rfl) ?_
    refine wt_rS (As := [.int a3]) (rest := []) ⟨hx, hb, hml, hown, hts⟩ (c_X5_isRow l D cI cZ cH a3) (va_cwS 1 hts gX5_copy_X5_isRow rfl rfl rfl (by decide +kernel) ⟨Nat.le_of_ble_eq_true rfl, Nat.le_of_ble_eq_true rfl⟩) hK hP [] rfl rfl hl.1 rfl (Nat.le_of_ble_eq_true rfl) dX5_copy_8 ⟨Nat.le_of_ble_eq_true rfl, Nat.le_of_ble_eq_true rfl⟩ (fun r_5 e_6 => ?_)
    subst e_6
    refine lv_if_ne (tgt := 17) hx hb dX5_copy_11 (by decide) (fun c_7 => ?_) (fun c_7 => ?_)
    · skip
      obtain ⟨j_8, hj_8, hj_8b, rfl⟩ := wI_nat (a := 0) (b := 7) (by omega) (by omega) c_7
      refine lv_aload_n hx hb dX5_copy_17 rfl (lv_at hl 0 rfl) ?_
      refine va_get (D := D) (ci := 5) (v := .ref rw) (C := RX5) (T := TX5) (N := 10) hx hb hts hi5 hown hK.1 hP 0 rfl rfl 0 (by decide) wf10 (fun _ h9 => h9) rfl dX5_copy_18 ?_
      refine lv_iload_n hx hb dX5_copy_21 rfl (lv_at hl 1 rfl) ?_
      refine wt_rV (As := [.int (nI j_4)]) (rest := []) ⟨hx, hb, hml, hown, hts⟩ (c_X2_isMissing_x l D cI cZ cH rw ln sl it lf sf tf j_4 (by first | assumption | omega)) (cwV 1 hts gX5_copy_X2_isMissing rfl rfl rfl (by decide +kernel) ⟨Nat.le_of_ble_eq_true rfl, Nat.le_of_ble_eq_true rfl⟩) hK hP [1, 2, 3, 4] rfl (va_recv hK.1 hP (ci := 2) (q0 := 1) rfl rfl) rfl hl.1 rfl (Nat.le_of_ble_eq_true rfl) dX5_copy_22 ⟨Nat.le_of_ble_eq_true rfl, Nat.le_of_ble_eq_true rfl⟩ (fun r_9 e_10 => ?_)
      subst e_10
      refine lv_if_ne (tgt := 39) hx hb dX5_copy_25 (by decide) (fun c_11 => ?_) (fun c_11 => ?_)
      · skip
        refine lv_aload_n hx hb dX5_copy_39 rfl (lv_at hl 0 rfl) ?_
        refine lv_iconst (v := 1) hx hb dX5_copy_40 (by decide) ?_
        refine wt_goI (wr := [(rw, .inr (2, [.ref ln, .ref sl, .ref it])), (ln, .inl (cI, 8, .inl lf)), (sl, .inl (cI, 8, .inl sf)), (it, .inl (cI, 320, .inl tf))]) (wt_runV (As := [.int 1]) (rest := []) ⟨hx, hb, hml, hown, hts⟩ (c_X5_found l D cI cZ cH x 1 (.ref rw) vx_1 vx_2 vx_3 vx_4 vx_5 vx_6 vx_7 vx_8 (.int xf)) (cwV 1 hts gX5_copy_X5_found rfl rfl rfl (by decide +kernel) ⟨Nat.le_of_ble_eq_true rfl, Nat.le_of_ble_eq_true rfl⟩) hK hP hD [0] rfl (by decide) (va_recv hK.1 hP (ci := 5) (q0 := 0) rfl rfl) rfl hl.1 rfl (Nat.le_of_ble_eq_true rfl) dX5_copy_41 ⟨Nat.le_of_ble_eq_true rfl, Nat.le_of_ble_eq_true rfl⟩) hP hD hS hA [0] [1, 2, 3, 4] rfl rfl (by decide) (by decide) (fun r_12 w_13 H locs h_14 hP hD hS => ?_)
        obtain ⟨rfl, rfl⟩ := h_14
        have hP : va_P D vwCl [(rw, .inr (2, [.ref ln, .ref sl, .ref it])), (ln, .inl (cI, 8, .inl lf)), (sl, .inl (cI, 8, .inl sf)), (it, .inl (cI, 320, .inl tf)), (x, .inr (5, [.ref rw, vx_1, vx_2, vx_3, vx_4, vx_5, vx_6, vx_7, vx_8, .int 1]))] H := hP
        have hD : va_D A [(rw, .inr (2, [.ref ln, .ref sl, .ref it])), (ln, .inl (cI, 8, .inl lf)), (sl, .inl (cI, 8, .inl sf)), (it, .inl (cI, 320, .inl tf)), (x, .inr (5, [.ref rw, vx_1, vx_2, vx_3, vx_4, vx_5, vx_6, vx_7, vx_8, .int 1]))] := hD
        refine wt_top (z := (-1000011)) (by decide) ?_
        have hP9 := hP.sub (ws' := [(x, .inr (5, [.ref rw, vx_1, vx_2, vx_3, vx_4, vx_5, vx_6, vx_7, vx_8, .int 1])), (rw, .inr (2, [.ref ln, .ref sl, .ref it])), (ln, .inl (cI, 8, .inl lf)), (sl, .inl (cI, 8, .inl sf)), (it, .inl (cI, 320, .inl tf))]) [4, 0, 1, 2, 3] rfl
        have hD9 := hD.sub (ws' := [(x, .inr (5, [.ref rw, vx_1, vx_2, vx_3, vx_4, vx_5, vx_6, vx_7, vx_8, .int 1])), (rw, .inr (2, [.ref ln, .ref sl, .ref it])), (ln, .inl (cI, 8, .inl lf)), (sl, .inl (cI, 8, .inl sf)), (it, .inl (cI, 320, .inl tf))]) [4, 0, 1, 2, 3] (by decide) rfl
        exact wt_iret hx hb hr hlocks hP9 hD9 hS ⟨tf, 1, rfl, (by exact (fA_1 (copyF_on c_3 (by omega) c_7 (by omega) (cpF_x (mB_n c_11))) _).symm), (fQ_k (copyF_on c_3 (by omega) c_7 (by omega) (cpF_x (mB_n c_11))) (by decide) xf).symm⟩ dX5_copy_44
      · skip
        refine lv_aload_n hx hb dX5_copy_28 rfl (lv_at hl 0 rfl) ?_
        refine va_get (D := D) (ci := 5) (v := .ref rw) (C := RX5) (T := TX5) (N := 10) hx hb hts hi5 hown hK.1 hP 0 rfl rfl 0 (by decide) wf10 (fun _ h9 => h9) rfl dX5_copy_29 ?_
        refine lv_iload_n hx hb dX5_copy_32 rfl (lv_at hl 3 rfl) ?_
        refine wt_rV (As := [.int (nI j_8)]) (rest := []) ⟨hx, hb, hml, hown, hts⟩ (c_X2_isMissing_x l D cI cZ cH rw ln sl it lf sf tf j_8 (by first | assumption | omega)) (cwV 1 hts gX5_copy_X2_isMissing rfl rfl rfl (by decide +kernel) ⟨Nat.le_of_ble_eq_true rfl, Nat.le_of_ble_eq_true rfl⟩) hK hP [1, 2, 3, 4] rfl (va_recv hK.1 hP (ci := 2) (q0 := 1) rfl rfl) rfl hl.1 rfl (Nat.le_of_ble_eq_true rfl) dX5_copy_33 ⟨Nat.le_of_ble_eq_true rfl, Nat.le_of_ble_eq_true rfl⟩ (fun r_15 e_16 => ?_)
        subst e_16
        refine lv_if_eq (tgt := 45) hx hb dX5_copy_36 (by decide) (fun c_17 => ?_) (fun c_17 => ?_)
        · skip
          refine lv_aload_n hx hb dX5_copy_45 rfl (lv_at hl 0 rfl) ?_
          refine va_get (D := D) (ci := 5) (v := .ref rw) (C := RX5) (T := TX5) (N := 10) hx hb hts hi5 hown hK.1 hP 0 rfl rfl 0 (by decide) wf10 (fun _ h9 => h9) rfl dX5_copy_46 ?_
          refine va_get (D := D) (ci := 2) (v := .ref ln) (C := RX2) (T := TX2) (N := 3) hx hb hts hi2 hown hK.1 hP 1 rfl rfl 0 (by decide) wf92 (fun _ h9 => h9) rfl dX5_copy_49 ?_
          refine lv_iload_n hx hb dX5_copy_52 rfl (lv_at hl 1 rfl) ?_
          refine va_iald hx hb hK.1 hP 2 0 rfl rfl (vp_in_nI (by omega) (by omega)) dX5_copy_53 ?_
          refine wt_top (z := lf j_4) (by rw [nI_clamp (by omega)]) ?_
          refine lv_aload_n hx hb dX5_copy_54 rfl (lv_at hl 0 rfl) ?_
          refine va_get (D := D) (ci := 5) (v := .ref rw) (C := RX5) (T := TX5) (N := 10) hx hb hts hi5 hown hK.1 hP 0 rfl rfl 0 (by decide) wf10 (fun _ h9 => h9) rfl dX5_copy_55 ?_
          refine va_get (D := D) (ci := 2) (v := .ref ln) (C := RX2) (T := TX2) (N := 3) hx hb hts hi2 hown hK.1 hP 1 rfl rfl 0 (by decide) wf92 (fun _ h9 => h9) rfl dX5_copy_58 ?_
          refine lv_iload_n hx hb dX5_copy_61 rfl (lv_at hl 3 rfl) ?_
          refine va_iald hx hb hK.1 hP 2 0 rfl rfl (vp_in_nI (by omega) (by omega)) dX5_copy_62 ?_
          refine wt_top (z := lf j_8) (by rw [nI_clamp (by omega)]) ?_
          refine lv_icmp_eq (tgt := 72) hx hb dX5_copy_63 (by decide) (fun c_18 => ?_) (fun c_18 => ?_)
          · skip
            refine lv_aload_n hx hb dX5_copy_72 rfl (lv_at hl 0 rfl) ?_
            refine va_get (D := D) (ci := 5) (v := .ref rw) (C := RX5) (T := TX5) (N := 10) hx hb hts hi5 hown hK.1 hP 0 rfl rfl 0 (by decide) wf10 (fun _ h9 => h9) rfl dX5_copy_73 ?_
            refine lv_iload_n hx hb dX5_copy_76 rfl (lv_at hl 1 rfl) ?_
            refine lv_iload_n hx hb dX5_copy_77 rfl (lv_at hl 2 rfl) ?_
            refine lv_iload hx hb dX5_copy_78 (lv_at hl 5 rfl) ?_
            refine wt_rV (As := [.int (nI j_4), .int a2, .int a5]) (rest := []) ⟨hx, hb, hml, hown, hts⟩ (c_X2_reach_x l D cI cZ cH rw ln sl it lf sf tf j_4 a2 a5 (by first | assumption | omega) (by first | assumption | omega)) (cwV 3 hts gX5_copy_X2_reach rfl rfl rfl (by decide +kernel) ⟨Nat.le_of_ble_eq_true rfl, Nat.le_of_ble_eq_true rfl⟩) hK hP [1, 2, 3, 4] rfl (va_recv hK.1 hP (ci := 2) (q0 := 1) rfl rfl) rfl hl.1 rfl (Nat.le_of_ble_eq_true rfl) dX5_copy_80 ⟨Nat.le_of_ble_eq_true rfl, Nat.le_of_ble_eq_true rfl⟩ (fun r_19 e_20 => ?_)
            subst e_20
            refine lv_if_ne (tgt := 101) hx hb dX5_copy_83 (by decide) (fun c_21 => ?_) (fun c_21 => ?_)
            · skip
              refine lv_aload_n hx hb dX5_copy_101 rfl (lv_at hl 0 rfl) ?_
              refine lv_iconst (v := 2) hx hb dX5_copy_102 (by decide) ?_
              refine wt_goI (wr := [(rw, .inr (2, [.ref ln, .ref sl, .ref it])), (ln, .inl (cI, 8, .inl lf)), (sl, .inl (cI, 8, .inl sf)), (it, .inl (cI, 320, .inl tf))]) (wt_runV (As := [.int 2]) (rest := []) ⟨hx, hb, hml, hown, hts⟩ (c_X5_found l D cI cZ cH x 2 (.ref rw) vx_1 vx_2 vx_3 vx_4 vx_5 vx_6 vx_7 vx_8 (.int xf)) (cwV 1 hts gX5_copy_X5_found rfl rfl rfl (by decide +kernel) ⟨Nat.le_of_ble_eq_true rfl, Nat.le_of_ble_eq_true rfl⟩) hK hP hD [0] rfl (by decide) (va_recv hK.1 hP (ci := 5) (q0 := 0) rfl rfl) rfl hl.1 rfl (Nat.le_of_ble_eq_true rfl) dX5_copy_103 ⟨Nat.le_of_ble_eq_true rfl, Nat.le_of_ble_eq_true rfl⟩) hP hD hS hA [0] [1, 2, 3, 4] rfl rfl (by decide) (by decide) (fun r_22 w_23 H locs h_24 hP hD hS => ?_)
              obtain ⟨rfl, rfl⟩ := h_24
              have hP : va_P D vwCl [(rw, .inr (2, [.ref ln, .ref sl, .ref it])), (ln, .inl (cI, 8, .inl lf)), (sl, .inl (cI, 8, .inl sf)), (it, .inl (cI, 320, .inl tf)), (x, .inr (5, [.ref rw, vx_1, vx_2, vx_3, vx_4, vx_5, vx_6, vx_7, vx_8, .int 2]))] H := hP
              have hD : va_D A [(rw, .inr (2, [.ref ln, .ref sl, .ref it])), (ln, .inl (cI, 8, .inl lf)), (sl, .inl (cI, 8, .inl sf)), (it, .inl (cI, 320, .inl tf)), (x, .inr (5, [.ref rw, vx_1, vx_2, vx_3, vx_4, vx_5, vx_6, vx_7, vx_8, .int 2]))] := hD
              refine wt_top (z := (-1000012)) (by decide) ?_
              have hP9 := hP.sub (ws' := [(x, .inr (5, [.ref rw, vx_1, vx_2, vx_3, vx_4, vx_5, vx_6, vx_7, vx_8, .int 2])), (rw, .inr (2, [.ref ln, .ref sl, .ref it])), (ln, .inl (cI, 8, .inl lf)), (sl, .inl (cI, 8, .inl sf)), (it, .inl (cI, 320, .inl tf))]) [4, 0, 1, 2, 3] rfl
              have hD9 := hD.sub (ws' := [(x, .inr (5, [.ref rw, vx_1, vx_2, vx_3, vx_4, vx_5, vx_6, vx_7, vx_8, .int 2])), (rw, .inr (2, [.ref ln, .ref sl, .ref it])), (ln, .inl (cI, 8, .inl lf)), (sl, .inl (cI, 8, .inl sf)), (it, .inl (cI, 320, .inl tf))]) [4, 0, 1, 2, 3] (by decide) rfl
              exact wt_iret hx hb hr hlocks hP9 hD9 hS ⟨tf, 2, rfl, (by exact (fA_2 (copyF_on c_3 (by omega) c_7 (by omega) (cpF_i (mB_e c_11) (mB_e c_17) c_18 c_21)) _).symm), (fQ_k (copyF_on c_3 (by omega) c_7 (by omega) (cpF_i (mB_e c_11) (mB_e c_17) c_18 c_21)) (by decide) xf).symm⟩ dX5_copy_106
            · skip
              obtain ⟨ia_25, nb_26, eia_25, enb_26, hia_25⟩ := rs_nat hs8 (by omega) c_21
              subst eia_25
              subst enb_26
              refine lv_aload_n hx hb dX5_copy_86 rfl (lv_at hl 0 rfl) ?_
              refine va_get (D := D) (ci := 5) (v := .ref rw) (C := RX5) (T := TX5) (N := 10) hx hb hts hi5 hown hK.1 hP 0 rfl rfl 0 (by decide) wf10 (fun _ h9 => h9) rfl dX5_copy_87 ?_
              refine lv_iload_n hx hb dX5_copy_90 rfl (lv_at hl 3 rfl) ?_
              refine lv_iload hx hb dX5_copy_91 (lv_at hl 4 rfl) ?_
              refine lv_iload hx hb dX5_copy_93 (lv_at hl 5 rfl) ?_
              refine wt_rV (As := [.int (nI j_8), .int a4, .int (nI nb_26)]) (rest := []) ⟨hx, hb, hml, hown, hts⟩ (c_X2_reach_x l D cI cZ cH rw ln sl it lf sf tf j_8 a4 (nI nb_26) (by first | assumption | omega) (by first | assumption | omega)) (cwV 3 hts gX5_copy_X2_reach rfl rfl rfl (by decide +kernel) ⟨Nat.le_of_ble_eq_true rfl, Nat.le_of_ble_eq_true rfl⟩) hK hP [1, 2, 3, 4] rfl (va_recv hK.1 hP (ci := 2) (q0 := 1) rfl rfl) rfl hl.1 rfl (Nat.le_of_ble_eq_true rfl) dX5_copy_95 ⟨Nat.le_of_ble_eq_true rfl, Nat.le_of_ble_eq_true rfl⟩ (fun r_27 e_28 => ?_)
              subst e_28
              refine lv_if_eq (tgt := 107) hx hb dX5_copy_98 (by decide) (fun c_29 => ?_) (fun c_29 => ?_)
              · skip
                obtain ⟨ja_30, eja_30, hja_30⟩ := rs_natb hs8 (by omega) (by omega) c_29
                subst eja_30
                refine lv_aload_n hx hb dX5_copy_107 rfl (lv_at hl 0 rfl) ?_
                refine va_get (D := D) (ci := 5) (v := .ref rw) (C := RX5) (T := TX5) (N := 10) hx hb hts hi5 hown hK.1 hP 0 rfl rfl 0 (by decide) wf10 (fun _ h9 => h9) rfl dX5_copy_108 ?_
                refine va_get (D := D) (ci := 2) (v := .ref it) (C := RX2) (T := TX2) (N := 3) hx hb hts hi2 hown hK.1 hP 1 rfl rfl 2 (by decide) wf95 (fun _ h9 => h9) rfl dX5_copy_111 ?_
                refine lv_aload_n hx hb dX5_copy_114 rfl (lv_at hl 0 rfl) ?_
                refine va_get (D := D) (ci := 5) (v := .ref rw) (C := RX5) (T := TX5) (N := 10) hx hb hts hi5 hown hK.1 hP 0 rfl rfl 0 (by decide) wf10 (fun _ h9 => h9) rfl dX5_copy_115 ?_
                refine lv_iload_n hx hb dX5_copy_118 rfl (lv_at hl 1 rfl) ?_
                refine lv_iload_n hx hb dX5_copy_119 rfl (lv_at hl 2 rfl) ?_
                refine wt_rV (As := [.int (nI j_4), .int (nI ia_25)]) (rest := [.ref it]) ⟨hx, hb, hml, hown, hts⟩ (c_X2_at l D cI cZ cH rw j_4 ia_25) (cwV 2 hts gX5_copy_X2_at rfl rfl rfl (by decide +kernel) ⟨Nat.le_of_ble_eq_true rfl, Nat.le_of_ble_eq_true rfl⟩) hK hP [] rfl (va_recv hK.1 hP (ci := 2) (q0 := 1) rfl rfl) rfl hl.1 rfl (Nat.le_of_ble_eq_true rfl) dX5_copy_120 ⟨Nat.le_of_ble_eq_true rfl, Nat.le_of_ble_eq_true rfl⟩ (fun r_31 e_32 => ?_)
                subst e_32
                refine lv_aload_n hx hb dX5_copy_123 rfl (lv_at hl 0 rfl) ?_
                refine va_get (D := D) (ci := 5) (v := .ref rw) (C := RX5) (T := TX5) (N := 10) hx hb hts hi5 hown hK.1 hP 0 rfl rfl 0 (by decide) wf10 (fun _ h9 => h9) rfl dX5_copy_124 ?_
                refine va_get (D := D) (ci := 2) (v := .ref it) (C := RX2) (T := TX2) (N := 3) hx hb hts hi2 hown hK.1 hP 1 rfl rfl 2 (by decide) wf95 (fun _ h9 => h9) rfl dX5_copy_127 ?_
                refine lv_aload_n hx hb dX5_copy_130 rfl (lv_at hl 0 rfl) ?_
                refine va_get (D := D) (ci := 5) (v := .ref rw) (C := RX5) (T := TX5) (N := 10) hx hb hts hi5 hown hK.1 hP 0 rfl rfl 0 (by decide) wf10 (fun _ h9 => h9) rfl dX5_copy_131 ?_
                refine lv_iload_n hx hb dX5_copy_134 rfl (lv_at hl 3 rfl) ?_
                refine lv_iload hx hb dX5_copy_135 (lv_at hl 4 rfl) ?_
                refine wt_rV (As := [.int (nI j_8), .int (nI ja_30)]) (rest := [.ref it, .int (nI (j_4 * 40 + ia_25)), .ref it]) ⟨hx, hb, hml, hown, hts⟩ (c_X2_at l D cI cZ cH rw j_8 ja_30) (cwV 2 hts gX5_copy_X2_at rfl rfl rfl (by decide +kernel) ⟨Nat.le_of_ble_eq_true rfl, Nat.le_of_ble_eq_true rfl⟩) hK hP [] rfl (va_recv hK.1 hP (ci := 2) (q0 := 1) rfl rfl) rfl hl.1 rfl (Nat.le_of_ble_eq_true rfl) dX5_copy_137 ⟨Nat.le_of_ble_eq_true rfl, Nat.le_of_ble_eq_true rfl⟩ (fun r_33 e_34 => ?_)
                subst e_34
                refine lv_iload hx hb dX5_copy_140 (lv_at hl 5 rfl) ?_
                refine va_copyi hx hb (hml.trans hl.1.symm) hown wy102 wyn wys wyi hK.1 hP hD hS 4 4 0 0 rfl rfl rfl rfl rfl (nI_pos (by omega)) (nI_pos (by omega)) (nI_pos (by omega)) (by rw [nI_clamp (n := (j_4 * 40 + ia_25)) (by omega), nI_clamp (n := nb_26) (by omega)]; omega) (by rw [nI_clamp (n := (j_8 * 40 + ja_30)) (by omega), nI_clamp (n := nb_26) (by omega)]; omega) (fun i _ => rfl) (Nat.le_of_ble_eq_true rfl) (Nat.le_of_ble_eq_true rfl) dX5_copy_142 (fun H locs hP hD hS => ?_)
                have hP : va_P D vwCl [(x, .inr (5, [.ref rw, vx_1, vx_2, vx_3, vx_4, vx_5, vx_6, vx_7, vx_8, .int xf])), (rw, .inr (2, [.ref ln, .ref sl, .ref it])), (ln, .inl (cI, 8, .inl lf)), (sl, .inl (cI, 8, .inl sf)), (it, .inl (cI, 320, .inl (va_cpy tf tf ((nI (j_4 * 40 + ia_25)).toNatClampNeg) ((nI (j_8 * 40 + ja_30)).toNatClampNeg) ((nI nb_26).toNatClampNeg))))] H := hP
                have hD : va_D A [(x, .inr (5, [.ref rw, vx_1, vx_2, vx_3, vx_4, vx_5, vx_6, vx_7, vx_8, .int xf])), (rw, .inr (2, [.ref ln, .ref sl, .ref it])), (ln, .inl (cI, 8, .inl lf)), (sl, .inl (cI, 8, .inl sf)), (it, .inl (cI, 320, .inl (va_cpy tf tf ((nI (j_4 * 40 + ia_25)).toNatClampNeg) ((nI (j_8 * 40 + ja_30)).toNatClampNeg) ((nI nb_26).toNatClampNeg))))] := hD
                generalize va_cpy tf tf ((nI (j_4 * 40 + ia_25)).toNatClampNeg) ((nI (j_8 * 40 + ja_30)).toNatClampNeg) ((nI nb_26).toNatClampNeg) = tf_35 at hP hD
                refine lv_aload_n hx hb dX5_copy_145 rfl (lv_at hl 0 rfl) ?_
                refine lv_iload hx hb dX5_copy_146 (lv_at hl 5 rfl) ?_
                refine wt_goI (wr := [(rw, .inr (2, [.ref ln, .ref sl, .ref it])), (ln, .inl (cI, 8, .inl lf)), (sl, .inl (cI, 8, .inl sf)), (it, .inl (cI, 320, .inl tf_35))]) (wt_runV (As := [.int (nI nb_26)]) (rest := []) ⟨hx, hb, hml, hown, hts⟩ (c_X5_plain l D cI cZ cH x (nI nb_26) (.ref rw) vx_1 vx_2 vx_3 vx_4 vx_5 vx_6 vx_7 vx_8 (.int xf)) (cwV 1 hts gX5_copy_X5_plain rfl rfl rfl (by decide +kernel) ⟨Nat.le_of_ble_eq_true rfl, Nat.le_of_ble_eq_true rfl⟩) hK hP hD [0] rfl (by decide) (va_recv hK.1 hP (ci := 5) (q0 := 0) rfl rfl) rfl hl.1 rfl (Nat.le_of_ble_eq_true rfl) dX5_copy_148 ⟨Nat.le_of_ble_eq_true rfl, Nat.le_of_ble_eq_true rfl⟩) hP hD hS hA [0] [1, 2, 3, 4] rfl rfl (by decide) (by decide) (fun r_36 w_37 H locs h_38 hP hD hS => ?_)
                obtain ⟨rfl, rfl⟩ := h_38
                have hP : va_P D vwCl [(rw, .inr (2, [.ref ln, .ref sl, .ref it])), (ln, .inl (cI, 8, .inl lf)), (sl, .inl (cI, 8, .inl sf)), (it, .inl (cI, 320, .inl tf_35)), (x, .inr (5, [.ref rw, vx_1, vx_2, vx_3, vx_4, vx_5, vx_6, vx_7, vx_8, .int 0]))] H := hP
                have hD : va_D A [(rw, .inr (2, [.ref ln, .ref sl, .ref it])), (ln, .inl (cI, 8, .inl lf)), (sl, .inl (cI, 8, .inl sf)), (it, .inl (cI, 320, .inl tf_35)), (x, .inr (5, [.ref rw, vx_1, vx_2, vx_3, vx_4, vx_5, vx_6, vx_7, vx_8, .int 0]))] := hD
                have hP9 := hP.sub (ws' := [(x, .inr (5, [.ref rw, vx_1, vx_2, vx_3, vx_4, vx_5, vx_6, vx_7, vx_8, .int 0])), (rw, .inr (2, [.ref ln, .ref sl, .ref it])), (ln, .inl (cI, 8, .inl lf)), (sl, .inl (cI, 8, .inl sf)), (it, .inl (cI, 320, .inl tf_35))]) [4, 0, 1, 2, 3] rfl
                have hD9 := hD.sub (ws' := [(x, .inr (5, [.ref rw, vx_1, vx_2, vx_3, vx_4, vx_5, vx_6, vx_7, vx_8, .int 0])), (rw, .inr (2, [.ref ln, .ref sl, .ref it])), (ln, .inl (cI, 8, .inl lf)), (sl, .inl (cI, 8, .inl sf)), (it, .inl (cI, 320, .inl tf_35))]) [4, 0, 1, 2, 3] (by decide) rfl
                exact wt_iret hx hb hr hlocks hP9 hD9 hS ⟨tf_35, 0, rfl, (by exact (fA_0 (copyF_on c_3 (by omega) c_7 (by omega) (cpF_0 (mB_e c_11) (mB_e c_17) c_18 c_21 c_29)) _).symm), (fQ_k (copyF_on c_3 (by omega) c_7 (by omega) (cpF_0 (mB_e c_11) (mB_e c_17) c_18 c_21 c_29)) (by decide) xf).symm⟩ dX5_copy_151
              · skip
                refine lv_aload_n hx hb dX5_copy_101 rfl (lv_at hl 0 rfl) ?_
                refine lv_iconst (v := 2) hx hb dX5_copy_102 (by decide) ?_
                refine wt_goI (wr := [(rw, .inr (2, [.ref ln, .ref sl, .ref it])), (ln, .inl (cI, 8, .inl lf)), (sl, .inl (cI, 8, .inl sf)), (it, .inl (cI, 320, .inl tf))]) (wt_runV (As := [.int 2]) (rest := []) ⟨hx, hb, hml, hown, hts⟩ (c_X5_found l D cI cZ cH x 2 (.ref rw) vx_1 vx_2 vx_3 vx_4 vx_5 vx_6 vx_7 vx_8 (.int xf)) (cwV 1 hts gX5_copy_X5_found rfl rfl rfl (by decide +kernel) ⟨Nat.le_of_ble_eq_true rfl, Nat.le_of_ble_eq_true rfl⟩) hK hP hD [0] rfl (by decide) (va_recv hK.1 hP (ci := 5) (q0 := 0) rfl rfl) rfl hl.1 rfl (Nat.le_of_ble_eq_true rfl) dX5_copy_103 ⟨Nat.le_of_ble_eq_true rfl, Nat.le_of_ble_eq_true rfl⟩) hP hD hS hA [0] [1, 2, 3, 4] rfl rfl (by decide) (by decide) (fun r_39 w_40 H locs h_41 hP hD hS => ?_)
                obtain ⟨rfl, rfl⟩ := h_41
                have hP : va_P D vwCl [(rw, .inr (2, [.ref ln, .ref sl, .ref it])), (ln, .inl (cI, 8, .inl lf)), (sl, .inl (cI, 8, .inl sf)), (it, .inl (cI, 320, .inl tf)), (x, .inr (5, [.ref rw, vx_1, vx_2, vx_3, vx_4, vx_5, vx_6, vx_7, vx_8, .int 2]))] H := hP
                have hD : va_D A [(rw, .inr (2, [.ref ln, .ref sl, .ref it])), (ln, .inl (cI, 8, .inl lf)), (sl, .inl (cI, 8, .inl sf)), (it, .inl (cI, 320, .inl tf)), (x, .inr (5, [.ref rw, vx_1, vx_2, vx_3, vx_4, vx_5, vx_6, vx_7, vx_8, .int 2]))] := hD
                refine wt_top (z := (-1000012)) (by decide) ?_
                have hP9 := hP.sub (ws' := [(x, .inr (5, [.ref rw, vx_1, vx_2, vx_3, vx_4, vx_5, vx_6, vx_7, vx_8, .int 2])), (rw, .inr (2, [.ref ln, .ref sl, .ref it])), (ln, .inl (cI, 8, .inl lf)), (sl, .inl (cI, 8, .inl sf)), (it, .inl (cI, 320, .inl tf))]) [4, 0, 1, 2, 3] rfl
                have hD9 := hD.sub (ws' := [(x, .inr (5, [.ref rw, vx_1, vx_2, vx_3, vx_4, vx_5, vx_6, vx_7, vx_8, .int 2])), (rw, .inr (2, [.ref ln, .ref sl, .ref it])), (ln, .inl (cI, 8, .inl lf)), (sl, .inl (cI, 8, .inl sf)), (it, .inl (cI, 320, .inl tf))]) [4, 0, 1, 2, 3] (by decide) rfl
                exact wt_iret hx hb hr hlocks hP9 hD9 hS ⟨tf, 2, rfl, (by exact (fA_2 (copyF_on c_3 (by omega) c_7 (by omega) (cpF_j (mB_e c_11) (mB_e c_17) c_18 c_29)) _).symm), (fQ_k (copyF_on c_3 (by omega) c_7 (by omega) (cpF_j (mB_e c_11) (mB_e c_17) c_18 c_29)) (by decide) xf).symm⟩ dX5_copy_106
          · skip
            refine lv_aload_n hx hb dX5_copy_66 rfl (lv_at hl 0 rfl) ?_
            refine lv_iconst (v := 5) hx hb dX5_copy_67 (by decide) ?_
            refine wt_goI (wr := [(rw, .inr (2, [.ref ln, .ref sl, .ref it])), (ln, .inl (cI, 8, .inl lf)), (sl, .inl (cI, 8, .inl sf)), (it, .inl (cI, 320, .inl tf))]) (wt_runV (As := [.int 5]) (rest := []) ⟨hx, hb, hml, hown, hts⟩ (c_X5_found l D cI cZ cH x 5 (.ref rw) vx_1 vx_2 vx_3 vx_4 vx_5 vx_6 vx_7 vx_8 (.int xf)) (cwV 1 hts gX5_copy_X5_found rfl rfl rfl (by decide +kernel) ⟨Nat.le_of_ble_eq_true rfl, Nat.le_of_ble_eq_true rfl⟩) hK hP hD [0] rfl (by decide) (va_recv hK.1 hP (ci := 5) (q0 := 0) rfl rfl) rfl hl.1 rfl (Nat.le_of_ble_eq_true rfl) dX5_copy_68 ⟨Nat.le_of_ble_eq_true rfl, Nat.le_of_ble_eq_true rfl⟩) hP hD hS hA [0] [1, 2, 3, 4] rfl rfl (by decide) (by decide) (fun r_42 w_43 H locs h_44 hP hD hS => ?_)
            obtain ⟨rfl, rfl⟩ := h_44
            have hP : va_P D vwCl [(rw, .inr (2, [.ref ln, .ref sl, .ref it])), (ln, .inl (cI, 8, .inl lf)), (sl, .inl (cI, 8, .inl sf)), (it, .inl (cI, 320, .inl tf)), (x, .inr (5, [.ref rw, vx_1, vx_2, vx_3, vx_4, vx_5, vx_6, vx_7, vx_8, .int 5]))] H := hP
            have hD : va_D A [(rw, .inr (2, [.ref ln, .ref sl, .ref it])), (ln, .inl (cI, 8, .inl lf)), (sl, .inl (cI, 8, .inl sf)), (it, .inl (cI, 320, .inl tf)), (x, .inr (5, [.ref rw, vx_1, vx_2, vx_3, vx_4, vx_5, vx_6, vx_7, vx_8, .int 5]))] := hD
            refine wt_top (z := (-1000015)) (by decide) ?_
            have hP9 := hP.sub (ws' := [(x, .inr (5, [.ref rw, vx_1, vx_2, vx_3, vx_4, vx_5, vx_6, vx_7, vx_8, .int 5])), (rw, .inr (2, [.ref ln, .ref sl, .ref it])), (ln, .inl (cI, 8, .inl lf)), (sl, .inl (cI, 8, .inl sf)), (it, .inl (cI, 320, .inl tf))]) [4, 0, 1, 2, 3] rfl
            have hD9 := hD.sub (ws' := [(x, .inr (5, [.ref rw, vx_1, vx_2, vx_3, vx_4, vx_5, vx_6, vx_7, vx_8, .int 5])), (rw, .inr (2, [.ref ln, .ref sl, .ref it])), (ln, .inl (cI, 8, .inl lf)), (sl, .inl (cI, 8, .inl sf)), (it, .inl (cI, 320, .inl tf))]) [4, 0, 1, 2, 3] (by decide) rfl
            exact wt_iret hx hb hr hlocks hP9 hD9 hS ⟨tf, 5, rfl, (by exact (fA_5 (copyF_on c_3 (by omega) c_7 (by omega) (cpF_5 (mB_e c_11) (mB_e c_17) c_18)) _).symm), (fQ_k (copyF_on c_3 (by omega) c_7 (by omega) (cpF_5 (mB_e c_11) (mB_e c_17) c_18)) (by decide) xf).symm⟩ dX5_copy_71
        · skip
          refine lv_aload_n hx hb dX5_copy_39 rfl (lv_at hl 0 rfl) ?_
          refine lv_iconst (v := 1) hx hb dX5_copy_40 (by decide) ?_
          refine wt_goI (wr := [(rw, .inr (2, [.ref ln, .ref sl, .ref it])), (ln, .inl (cI, 8, .inl lf)), (sl, .inl (cI, 8, .inl sf)), (it, .inl (cI, 320, .inl tf))]) (wt_runV (As := [.int 1]) (rest := []) ⟨hx, hb, hml, hown, hts⟩ (c_X5_found l D cI cZ cH x 1 (.ref rw) vx_1 vx_2 vx_3 vx_4 vx_5 vx_6 vx_7 vx_8 (.int xf)) (cwV 1 hts gX5_copy_X5_found rfl rfl rfl (by decide +kernel) ⟨Nat.le_of_ble_eq_true rfl, Nat.le_of_ble_eq_true rfl⟩) hK hP hD [0] rfl (by decide) (va_recv hK.1 hP (ci := 5) (q0 := 0) rfl rfl) rfl hl.1 rfl (Nat.le_of_ble_eq_true rfl) dX5_copy_41 ⟨Nat.le_of_ble_eq_true rfl, Nat.le_of_ble_eq_true rfl⟩) hP hD hS hA [0] [1, 2, 3, 4] rfl rfl (by decide) (by decide) (fun r_45 w_46 H locs h_47 hP hD hS => ?_)
          obtain ⟨rfl, rfl⟩ := h_47
          have hP : va_P D vwCl [(rw, .inr (2, [.ref ln, .ref sl, .ref it])), (ln, .inl (cI, 8, .inl lf)), (sl, .inl (cI, 8, .inl sf)), (it, .inl (cI, 320, .inl tf)), (x, .inr (5, [.ref rw, vx_1, vx_2, vx_3, vx_4, vx_5, vx_6, vx_7, vx_8, .int 1]))] H := hP
          have hD : va_D A [(rw, .inr (2, [.ref ln, .ref sl, .ref it])), (ln, .inl (cI, 8, .inl lf)), (sl, .inl (cI, 8, .inl sf)), (it, .inl (cI, 320, .inl tf)), (x, .inr (5, [.ref rw, vx_1, vx_2, vx_3, vx_4, vx_5, vx_6, vx_7, vx_8, .int 1]))] := hD
          refine wt_top (z := (-1000011)) (by decide) ?_
          have hP9 := hP.sub (ws' := [(x, .inr (5, [.ref rw, vx_1, vx_2, vx_3, vx_4, vx_5, vx_6, vx_7, vx_8, .int 1])), (rw, .inr (2, [.ref ln, .ref sl, .ref it])), (ln, .inl (cI, 8, .inl lf)), (sl, .inl (cI, 8, .inl sf)), (it, .inl (cI, 320, .inl tf))]) [4, 0, 1, 2, 3] rfl
          have hD9 := hD.sub (ws' := [(x, .inr (5, [.ref rw, vx_1, vx_2, vx_3, vx_4, vx_5, vx_6, vx_7, vx_8, .int 1])), (rw, .inr (2, [.ref ln, .ref sl, .ref it])), (ln, .inl (cI, 8, .inl lf)), (sl, .inl (cI, 8, .inl sf)), (it, .inl (cI, 320, .inl tf))]) [4, 0, 1, 2, 3] (by decide) rfl
          exact wt_iret hx hb hr hlocks hP9 hD9 hS ⟨tf, 1, rfl, (by exact (fA_1 (copyF_on c_3 (by omega) c_7 (by omega) (cpF_y (mB_e c_11) (mB_n c_17))) _).symm), (fQ_k (copyF_on c_3 (by omega) c_7 (by omega) (cpF_y (mB_e c_11) (mB_n c_17))) (by decide) xf).symm⟩ dX5_copy_44
    · skip
      refine lv_ldc hx hb hown wc70 dX5_copy_14 ?_
      have hP9 := hP.sub (ws' := [(x, .inr (5, [.ref rw, vx_1, vx_2, vx_3, vx_4, vx_5, vx_6, vx_7, vx_8, .int xf])), (rw, .inr (2, [.ref ln, .ref sl, .ref it])), (ln, .inl (cI, 8, .inl lf)), (sl, .inl (cI, 8, .inl sf)), (it, .inl (cI, 320, .inl tf))]) [0, 1, 2, 3, 4] rfl
      have hD9 := hD.sub (ws' := [(x, .inr (5, [.ref rw, vx_1, vx_2, vx_3, vx_4, vx_5, vx_6, vx_7, vx_8, .int xf])), (rw, .inr (2, [.ref ln, .ref sl, .ref it])), (ln, .inl (cI, 8, .inl lf)), (sl, .inl (cI, 8, .inl sf)), (it, .inl (cI, 320, .inl tf))]) [0, 1, 2, 3, 4] (by decide) rfl
      exact wt_iret hx hb hr hlocks hP9 hD9 hS ⟨tf, xf, rfl, (by exact (fA_b (copyF_b c_3 c_7) _).symm), (fQ_b (copyF_b c_3 c_7) xf).symm⟩ dX5_copy_16
set_option maxHeartbeats 4000000 in
set_option maxRecDepth 100000 in
theorem c_X5_drop_x (l : Launch) (D : va_G) (cI cZ cH : ClassId) (xf : Int32) (x : Nat) (rw ln sl it : Nat) (lf sf tf : Nat → Int32) (a1 : Int32) (vx_1 vx_2 vx_3 vx_4 vx_5 vx_6 vx_7 vx_8 : Value) (hs8 : hw 40 8 sf) : wt_M l yX5_drop wsX5_drop ({ frames := 2, cells := 0, slots := 0, locals := 42 } : Room) D (wt_T cI cZ cH) [.ref x, .int a1] [(x, .inr (5, [.ref rw, vx_1, vx_2, vx_3, vx_4, vx_5, vx_6, vx_7, vx_8, .int xf])), (rw, .inr (2, [.ref ln, .ref sl, .ref it])), (ln, .inl (cI, 8, .inl lf)), (sl, .inl (cI, 8, .inl sf)), (it, .inl (cI, 320, .inl tf))] (wt_QI D (fun r w => ∃ (lf2 sf2 : Nat → Int32) (x_f9 : Int32), w = [(x, .inr (5, [.ref rw, vx_1, vx_2, vx_3, vx_4, vx_5, vx_6, vx_7, vx_8, .int x_f9])), (rw, .inr (2, [.ref ln, .ref sl, .ref it])), (ln, .inl (cI, 8, .inl lf2)), (sl, .inl (cI, 8, .inl sf2)), (it, .inl (cI, 320, .inl tf))] ∧ r = fA (dropF lf a1) (sf a1.toNatClampNeg) ∧ lf2 = drL lf a1 ∧ sf2 = drS sf lf a1 ∧ hw 40 8 sf2 ∧ x_f9 = fQ (dropF lf a1) xf)) := by
  refine wt_M.ofW (cc := cX5_drop) (maxL := 3) (ret := (some .int)) (by decide) rfl (Nat.le_of_ble_eq_true rfl) ?_
  intro p e s m below meth c A ls hx hb hr hts hown hlocks hml hnm hP hK hD hA hS hl
  have hP : va_P D vwCl [(x, .inr (5, [.ref rw, vx_1, vx_2, vx_3, vx_4, vx_5, vx_6, vx_7, vx_8, .int xf])), (rw, .inr (2, [.ref ln, .ref sl, .ref it])), (ln, .inl (cI, 8, .inl lf)), (sl, .inl (cI, 8, .inl sf)), (it, .inl (cI, 320, .inl tf))] s.heap := hP
  have hown : s.vm.findClass RX5 = some m.cls := hown
  have hl : lv_has ls 3 [(0, .ref x), (1, .int a1)] := hl
  have hi2 : ∀ w ∈ u_ws RX2 TX2 3, w ∈ wsX5_drop := by decide +kernel
  have hi5 : ∀ w ∈ u_ws RX5 TX5 10, w ∈ wsX5_drop := by decide +kernel
  have wc70 := hts (.constant RX5 70 (-1000001)) (by decide +kernel)
  have wf10 := hts (.fieldLink RX5 10 "WarmTubes" "rows" "LWarmTubes$Rows;") (by decide +kernel)
  have wf108 := hts (.fieldLink RX5 108 "WarmTubes$Rows" "size" "[I") (by decide +kernel)
  refine lv_iload_n hx hb dX5_drop_0 rfl (lv_at hl 1 rfl) ?_
  refine wt_rS (As := [.int a1]) (rest := []) ⟨hx, hb, hml, hown, hts⟩ (c_X5_isRow l D cI cZ cH a1) (va_cwS 1 hts gX5_drop_X5_isRow rfl rfl rfl (by decide +kernel) ⟨Nat.le_of_ble_eq_true rfl, Nat.le_of_ble_eq_true rfl⟩) hK hP [] rfl rfl hl.1 rfl (Nat.le_of_ble_eq_true rfl) dX5_drop_1 ⟨Nat.le_of_ble_eq_true rfl, Nat.le_of_ble_eq_true rfl⟩ (fun r_1 e_2 => ?_)
  subst e_2
  refine lv_if_ne (tgt := 10) hx hb dX5_drop_4 (by decide) (fun c_3 => ?_) (fun c_3 => ?_)
  · skip
    obtain ⟨j_4, hj_4, hj_4b, rfl⟩ := wI_nat (a := 0) (b := 7) (by omega) (by omega) c_3
    refine lv_aload_n hx hb dX5_drop_10 rfl (lv_at hl 0 rfl) ?_
    refine va_get (D := D) (ci := 5) (v := .ref rw) (C := RX5) (T := TX5) (N := 10) hx hb hts hi5 hown hK.1 hP 0 rfl rfl 0 (by decide) wf10 (fun _ h9 => h9) rfl dX5_drop_11 ?_
    refine lv_iload_n hx hb dX5_drop_14 rfl (lv_at hl 1 rfl) ?_
    refine wt_rV (As := [.int (nI j_4)]) (rest := []) ⟨hx, hb, hml, hown, hts⟩ (c_X2_isMissing_x l D cI cZ cH rw ln sl it lf sf tf j_4 (by first | assumption | omega)) (cwV 1 hts gX5_drop_X2_isMissing rfl rfl rfl (by decide +kernel) ⟨Nat.le_of_ble_eq_true rfl, Nat.le_of_ble_eq_true rfl⟩) hK hP [1, 2, 3, 4] rfl (va_recv hK.1 hP (ci := 2) (q0 := 1) rfl rfl) rfl hl.1 rfl (Nat.le_of_ble_eq_true rfl) dX5_drop_15 ⟨Nat.le_of_ble_eq_true rfl, Nat.le_of_ble_eq_true rfl⟩ (fun r_5 e_6 => ?_)
    subst e_6
    refine lv_if_eq (tgt := 27) hx hb dX5_drop_18 (by decide) (fun c_7 => ?_) (fun c_7 => ?_)
    · skip
      refine lv_aload_n hx hb dX5_drop_27 rfl (lv_at hl 0 rfl) ?_
      refine va_get (D := D) (ci := 5) (v := .ref rw) (C := RX5) (T := TX5) (N := 10) hx hb hts hi5 hown hK.1 hP 0 rfl rfl 0 (by decide) wf10 (fun _ h9 => h9) rfl dX5_drop_28 ?_
      refine va_get (D := D) (ci := 2) (v := .ref sl) (C := RX2) (T := TX2) (N := 3) hx hb hts hi2 hown hK.1 hP 1 rfl rfl 1 (by decide) wf108 (fun _ h9 => h9) rfl dX5_drop_31 ?_
      refine lv_iload_n hx hb dX5_drop_34 rfl (lv_at hl 1 rfl) ?_
      refine va_iald hx hb hK.1 hP 3 0 rfl rfl (vp_in_nI (by omega) (by omega)) dX5_drop_35 ?_
      obtain ⟨q_8, hq_8, eq_8⟩ := hs8 j_4 (by omega)
      refine wt_top (z := nI q_8) (by rw [nI_clamp (by omega)]; exact eq_8) ?_
      refine lv_istore_n (lv' := [(2, .int (nI q_8)), (0, .ref x), (1, .int (nI j_4))]) hx hb dX5_drop_36 rfl hl (by decide) rfl (fun ls hl => ?_)
      refine lv_aload_n hx hb dX5_drop_37 rfl (lv_at hl 1 rfl) ?_
      refine va_get (D := D) (ci := 5) (v := .ref rw) (C := RX5) (T := TX5) (N := 10) hx hb hts hi5 hown hK.1 hP 0 rfl rfl 0 (by decide) wf10 (fun _ h9 => h9) rfl dX5_drop_38 ?_
      refine lv_iload_n hx hb dX5_drop_41 rfl (lv_at hl 2 rfl) ?_
      refine wt_goV (wr := [(x, .inr (5, [.ref rw, vx_1, vx_2, vx_3, vx_4, vx_5, vx_6, vx_7, vx_8, .int xf]))]) (wt_runV (As := [.int (nI j_4)]) (rest := []) ⟨hx, hb, hml, hown, hts⟩ (c_X2_lose_x l D cI cZ cH rw ln sl it lf sf tf j_4 (by first | assumption | omega)) (cwV 1 hts gX5_drop_X2_lose rfl rfl rfl (by decide +kernel) ⟨Nat.le_of_ble_eq_true rfl, Nat.le_of_ble_eq_true rfl⟩) hK hP hD [1, 2, 3, 4] rfl (by decide) (va_recv hK.1 hP (ci := 2) (q0 := 1) rfl rfl) rfl hl.1 rfl (Nat.le_of_ble_eq_true rfl) dX5_drop_42 ⟨Nat.le_of_ble_eq_true rfl, Nat.le_of_ble_eq_true rfl⟩) hP hD hS hA [1, 2, 3, 4] [0] rfl rfl (by decide) (by decide) (fun w_10 H locs h_11 hP hD hS => ?_)
      obtain rfl := h_11
      have hP : va_P D vwCl [(x, .inr (5, [.ref rw, vx_1, vx_2, vx_3, vx_4, vx_5, vx_6, vx_7, vx_8, .int xf])), (rw, .inr (2, [.ref ln, .ref sl, .ref it])), (ln, .inl (cI, 8, .inl (upd lf j_4 (-1)))), (sl, .inl (cI, 8, .inl (upd sf j_4 0))), (it, .inl (cI, 320, .inl tf))] H := hP
      have hD : va_D A [(x, .inr (5, [.ref rw, vx_1, vx_2, vx_3, vx_4, vx_5, vx_6, vx_7, vx_8, .int xf])), (rw, .inr (2, [.ref ln, .ref sl, .ref it])), (ln, .inl (cI, 8, .inl (upd lf j_4 (-1)))), (sl, .inl (cI, 8, .inl (upd sf j_4 0))), (it, .inl (cI, 320, .inl tf))] := hD
      refine lv_aload_n hx hb dX5_drop_45 rfl (lv_at hl 1 rfl) ?_
      refine lv_iload_n hx hb dX5_drop_46 rfl (lv_at hl 0 rfl) ?_
      refine wt_goI (wr := [(rw, .inr (2, [.ref ln, .ref sl, .ref it])), (ln, .inl (cI, 8, .inl (upd lf j_4 (-1)))), (sl, .inl (cI, 8, .inl (upd sf j_4 0))), (it, .inl (cI, 320, .inl tf))]) (wt_runV (As := [.int (nI q_8)]) (rest := []) ⟨hx, hb, hml, hown, hts⟩ (c_X5_plain l D cI cZ cH x (nI q_8) (.ref rw) vx_1 vx_2 vx_3 vx_4 vx_5 vx_6 vx_7 vx_8 (.int xf)) (cwV 1 hts gX5_drop_X5_plain rfl rfl rfl (by decide +kernel) ⟨Nat.le_of_ble_eq_true rfl, Nat.le_of_ble_eq_true rfl⟩) hK hP hD [0] rfl (by decide) (va_recv hK.1 hP (ci := 5) (q0 := 0) rfl rfl) rfl hl.1 rfl (Nat.le_of_ble_eq_true rfl) dX5_drop_47 ⟨Nat.le_of_ble_eq_true rfl, Nat.le_of_ble_eq_true rfl⟩) hP hD hS hA [0] [1, 2, 3, 4] rfl rfl (by decide) (by decide) (fun r_12 w_13 H locs h_14 hP hD hS => ?_)
      obtain ⟨rfl, rfl⟩ := h_14
      have hP : va_P D vwCl [(rw, .inr (2, [.ref ln, .ref sl, .ref it])), (ln, .inl (cI, 8, .inl (upd lf j_4 (-1)))), (sl, .inl (cI, 8, .inl (upd sf j_4 0))), (it, .inl (cI, 320, .inl tf)), (x, .inr (5, [.ref rw, vx_1, vx_2, vx_3, vx_4, vx_5, vx_6, vx_7, vx_8, .int 0]))] H := hP
      have hD : va_D A [(rw, .inr (2, [.ref ln, .ref sl, .ref it])), (ln, .inl (cI, 8, .inl (upd lf j_4 (-1)))), (sl, .inl (cI, 8, .inl (upd sf j_4 0))), (it, .inl (cI, 320, .inl tf)), (x, .inr (5, [.ref rw, vx_1, vx_2, vx_3, vx_4, vx_5, vx_6, vx_7, vx_8, .int 0]))] := hD
      have hP9 := hP.sub (ws' := [(x, .inr (5, [.ref rw, vx_1, vx_2, vx_3, vx_4, vx_5, vx_6, vx_7, vx_8, .int 0])), (rw, .inr (2, [.ref ln, .ref sl, .ref it])), (ln, .inl (cI, 8, .inl (upd lf j_4 (-1)))), (sl, .inl (cI, 8, .inl (upd sf j_4 0))), (it, .inl (cI, 320, .inl tf))]) [4, 0, 1, 2, 3] rfl
      have hD9 := hD.sub (ws' := [(x, .inr (5, [.ref rw, vx_1, vx_2, vx_3, vx_4, vx_5, vx_6, vx_7, vx_8, .int 0])), (rw, .inr (2, [.ref ln, .ref sl, .ref it])), (ln, .inl (cI, 8, .inl (upd lf j_4 (-1)))), (sl, .inl (cI, 8, .inl (upd sf j_4 0))), (it, .inl (cI, 320, .inl tf))]) [4, 0, 1, 2, 3] (by decide) rfl
      exact wt_iret hx hb hr hlocks hP9 hD9 hS ⟨(upd lf j_4 (-1)), (upd sf j_4 0), 0, rfl, (by exact drop_v (by omega) (dropF_0 c_3 (by omega) (mB_e c_7)) eq_8), ⟨drL_0 (dropF_0 c_3 (by omega) (mB_e c_7)) (by omega), drS_0 (dropF_0 c_3 (by omega) (mB_e c_7)) (by omega), hw_updz hs8 _, (fQ_k (dropF_0 c_3 (by omega) (mB_e c_7)) (by decide) xf).symm⟩⟩ dX5_drop_50
    · skip
      refine lv_aload_n hx hb dX5_drop_21 rfl (lv_at hl 0 rfl) ?_
      refine lv_iconst (v := 1) hx hb dX5_drop_22 (by decide) ?_
      refine wt_goI (wr := [(rw, .inr (2, [.ref ln, .ref sl, .ref it])), (ln, .inl (cI, 8, .inl lf)), (sl, .inl (cI, 8, .inl sf)), (it, .inl (cI, 320, .inl tf))]) (wt_runV (As := [.int 1]) (rest := []) ⟨hx, hb, hml, hown, hts⟩ (c_X5_found l D cI cZ cH x 1 (.ref rw) vx_1 vx_2 vx_3 vx_4 vx_5 vx_6 vx_7 vx_8 (.int xf)) (cwV 1 hts gX5_drop_X5_found rfl rfl rfl (by decide +kernel) ⟨Nat.le_of_ble_eq_true rfl, Nat.le_of_ble_eq_true rfl⟩) hK hP hD [0] rfl (by decide) (va_recv hK.1 hP (ci := 5) (q0 := 0) rfl rfl) rfl hl.1 rfl (Nat.le_of_ble_eq_true rfl) dX5_drop_23 ⟨Nat.le_of_ble_eq_true rfl, Nat.le_of_ble_eq_true rfl⟩) hP hD hS hA [0] [1, 2, 3, 4] rfl rfl (by decide) (by decide) (fun r_15 w_16 H locs h_17 hP hD hS => ?_)
      obtain ⟨rfl, rfl⟩ := h_17
      have hP : va_P D vwCl [(rw, .inr (2, [.ref ln, .ref sl, .ref it])), (ln, .inl (cI, 8, .inl lf)), (sl, .inl (cI, 8, .inl sf)), (it, .inl (cI, 320, .inl tf)), (x, .inr (5, [.ref rw, vx_1, vx_2, vx_3, vx_4, vx_5, vx_6, vx_7, vx_8, .int 1]))] H := hP
      have hD : va_D A [(rw, .inr (2, [.ref ln, .ref sl, .ref it])), (ln, .inl (cI, 8, .inl lf)), (sl, .inl (cI, 8, .inl sf)), (it, .inl (cI, 320, .inl tf)), (x, .inr (5, [.ref rw, vx_1, vx_2, vx_3, vx_4, vx_5, vx_6, vx_7, vx_8, .int 1]))] := hD
      refine wt_top (z := (-1000011)) (by decide) ?_
      have hP9 := hP.sub (ws' := [(x, .inr (5, [.ref rw, vx_1, vx_2, vx_3, vx_4, vx_5, vx_6, vx_7, vx_8, .int 1])), (rw, .inr (2, [.ref ln, .ref sl, .ref it])), (ln, .inl (cI, 8, .inl lf)), (sl, .inl (cI, 8, .inl sf)), (it, .inl (cI, 320, .inl tf))]) [4, 0, 1, 2, 3] rfl
      have hD9 := hD.sub (ws' := [(x, .inr (5, [.ref rw, vx_1, vx_2, vx_3, vx_4, vx_5, vx_6, vx_7, vx_8, .int 1])), (rw, .inr (2, [.ref ln, .ref sl, .ref it])), (ln, .inl (cI, 8, .inl lf)), (sl, .inl (cI, 8, .inl sf)), (it, .inl (cI, 320, .inl tf))]) [4, 0, 1, 2, 3] (by decide) rfl
      exact wt_iret hx hb hr hlocks hP9 hD9 hS ⟨lf, sf, 1, rfl, (by exact (fA_1 (dropF_1 c_3 (by omega) (mB_n c_7)) _).symm), ⟨drL_n (dropF_1 c_3 (by omega) (mB_n c_7)) (by decide), drS_n (dropF_1 c_3 (by omega) (mB_n c_7)) (by decide), hs8, (fQ_k (dropF_1 c_3 (by omega) (mB_n c_7)) (by decide) xf).symm⟩⟩ dX5_drop_26
  · skip
    refine lv_ldc hx hb hown wc70 dX5_drop_7 ?_
    have hP9 := hP.sub (ws' := [(x, .inr (5, [.ref rw, vx_1, vx_2, vx_3, vx_4, vx_5, vx_6, vx_7, vx_8, .int xf])), (rw, .inr (2, [.ref ln, .ref sl, .ref it])), (ln, .inl (cI, 8, .inl lf)), (sl, .inl (cI, 8, .inl sf)), (it, .inl (cI, 320, .inl tf))]) [0, 1, 2, 3, 4] rfl
    have hD9 := hD.sub (ws' := [(x, .inr (5, [.ref rw, vx_1, vx_2, vx_3, vx_4, vx_5, vx_6, vx_7, vx_8, .int xf])), (rw, .inr (2, [.ref ln, .ref sl, .ref it])), (ln, .inl (cI, 8, .inl lf)), (sl, .inl (cI, 8, .inl sf)), (it, .inl (cI, 320, .inl tf))]) [0, 1, 2, 3, 4] (by decide) rfl
    exact wt_iret hx hb hr hlocks hP9 hD9 hS ⟨lf, sf, xf, rfl, (by exact (fA_b (dropF_b c_3) _).symm), ⟨drL_n (dropF_b c_3) (by decide), drS_n (dropF_b c_3) (by decide), hs8, (fQ_b (dropF_b c_3) xf).symm⟩⟩ dX5_drop_9

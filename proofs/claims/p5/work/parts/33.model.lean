set_option maxHeartbeats 4000000 in
set_option maxRecDepth 100000 in
theorem c_X6_rowFound (l : Launch) (D : va_G) (cI cZ cH : ClassId) (md : Nat) (ln mn it : Nat) (lf sf tf : Nat → Int32) (ro n : Nat) (sv i : Int32) (vm_0 vm_5 vm_6 vm_7 vm_8 vm_9 vm_10 vm_11 vm_12 vm_13 vm_14 vm_15 vm_16 vm_17 vm_18 vm_19 vm_20 vm_21 vm_22 vm_23 : Value) (hs8 : hw 40 8 sf) (hr8 : ro < 8) (hn12 : n ≤ 12) : wt_M l yX6_rowFound wsX6_rowFound ({ frames := 1, cells := 0, slots := 0, locals := 21 } : Room) D (wt_T cI cZ cH) [.ref md, .int (nI ro), .int i, .int (nI n)] [(md, .inr (6, [vm_0, .int sv, .ref ln, .ref mn, .ref it, vm_5, vm_6, vm_7, vm_8, vm_9, vm_10, vm_11, vm_12, vm_13, vm_14, vm_15, vm_16, vm_17, vm_18, vm_19, vm_20, vm_21, vm_22, vm_23])), (ln, .inl (cI, 8, .inl lf)), (mn, .inl (cI, 8, .inl sf)), (it, .inl (cI, 320, .inl tf))] (wt_QI D (fun r w => ∃ (md_f1 : Int32), w = [(md, .inr (6, [vm_0, .int md_f1, .ref ln, .ref mn, .ref it, vm_5, vm_6, vm_7, vm_8, vm_9, vm_10, vm_11, vm_12, vm_13, vm_14, vm_15, vm_16, vm_17, vm_18, vm_19, vm_20, vm_21, vm_22, vm_23])), (ln, .inl (cI, 8, .inl lf)), (mn, .inl (cI, 8, .inl sf)), (it, .inl (cI, 320, .inl tf))] ∧ (r = 0 → ∃ a : Nat, i = nI a ∧ a + n ≤ 40))) := by
  refine wt_M.ofW (cc := cX6_rowFound) (maxL := 4) (ret := (some .int)) (by decide) rfl (Nat.le_of_ble_eq_true rfl) ?_
  intro p e s m below meth c A ls hx hb hr hts hown hlocks hml hnm hP hK hD hA hS hl
  have hP : va_P D vwCl [(md, .inr (6, [vm_0, .int sv, .ref ln, .ref mn, .ref it, vm_5, vm_6, vm_7, vm_8, vm_9, vm_10, vm_11, vm_12, vm_13, vm_14, vm_15, vm_16, vm_17, vm_18, vm_19, vm_20, vm_21, vm_22, vm_23])), (ln, .inl (cI, 8, .inl lf)), (mn, .inl (cI, 8, .inl sf)), (it, .inl (cI, 320, .inl tf))] s.heap := hP
  have hown : s.vm.findClass RX6 = some m.cls := hown
  have hl : lv_has ls 4 [(0, .ref md), (1, .int (nI ro)), (2, .int i), (3, .int (nI n))] := hl
  have hi6 : ∀ w ∈ u_ws RX6 TX6 24, w ∈ wsX6_rowFound := by decide +kernel
  have wf13 := hts (.fieldLink RX6 13 "WarmTubesModel" "many" "[I") (by decide +kernel)
  have wf51 := hts (.fieldLink RX6 51 "WarmTubesModel" "status" "I") (by decide +kernel)
  have wf7 := hts (.fieldLink RX6 7 "WarmTubesModel" "lane" "[I") (by decide +kernel)
  refine lv_aload_n hx hb dX6_rowFound_0 rfl (lv_at hl 0 rfl) ?_
  refine va_get (D := D) (ci := 6) (v := .ref ln) (C := RX6) (T := TX6) (N := 24) hx hb hts hi6 hown hK.1 hP 0 rfl rfl 2 (by decide) wf7 (fun _ h9 => h9) rfl dX6_rowFound_1 ?_
  refine lv_iload_n hx hb dX6_rowFound_4 rfl (lv_at hl 1 rfl) ?_
  refine va_iald hx hb hK.1 hP 1 0 rfl rfl (vp_in_nI (by omega) (by omega)) dX6_rowFound_5 ?_
  refine lv_topi (fun ov_1 _ => ?_)
  refine lv_if_ge (tgt := 15) hx hb dX6_rowFound_6 (by decide) (fun c_2 => ?_) (fun c_2 => ?_)
  · skip
    refine lv_iload_n hx hb dX6_rowFound_15 rfl (lv_at hl 2 rfl) ?_
    refine lv_if_lt (tgt := 35) hx hb dX6_rowFound_16 (by decide) (fun c_3 => ?_) (fun c_3 => ?_)
    · skip
      refine lv_aload_n hx hb dX6_rowFound_35 rfl (lv_at hl 0 rfl) ?_
      refine lv_iconst (v := 2) hx hb dX6_rowFound_36 (by decide) ?_
      refine wt_goI (wr := [(ln, .inl (cI, 8, .inl lf)), (mn, .inl (cI, 8, .inl sf)), (it, .inl (cI, 320, .inl tf))]) (wt_runV (As := [.int 2]) (rest := []) ⟨hx, hb, hml, hown, hts⟩ (c_X6_finding l D cI cZ cH md 2 vm_0 (.int sv) (.ref ln) (.ref mn) (.ref it) vm_5 vm_6 vm_7 vm_8 vm_9 vm_10 vm_11 vm_12 vm_13 vm_14 vm_15 vm_16 vm_17 vm_18 vm_19 vm_20 vm_21 vm_22 vm_23) (cwV 1 hts gX6_rowFound_X6_finding rfl rfl rfl (by decide +kernel) ⟨Nat.le_of_ble_eq_true rfl, Nat.le_of_ble_eq_true rfl⟩) hK hP hD [0] rfl (by decide) (va_recv hK.1 hP (ci := 6) (q0 := 0) rfl rfl) rfl hl.1 rfl (Nat.le_of_ble_eq_true rfl) dX6_rowFound_37 ⟨Nat.le_of_ble_eq_true rfl, Nat.le_of_ble_eq_true rfl⟩) hP hD hS hA [0] [1, 2, 3] rfl rfl (by decide) (by decide) (fun r_4 w_5 H locs h_6 hP hD hS => ?_)
      obtain ⟨rfl, rfl⟩ := h_6
      have hP : va_P D vwCl [(ln, .inl (cI, 8, .inl lf)), (mn, .inl (cI, 8, .inl sf)), (it, .inl (cI, 320, .inl tf)), (md, .inr (6, [vm_0, .int 2, .ref ln, .ref mn, .ref it, vm_5, vm_6, vm_7, vm_8, vm_9, vm_10, vm_11, vm_12, vm_13, vm_14, vm_15, vm_16, vm_17, vm_18, vm_19, vm_20, vm_21, vm_22, vm_23]))] H := hP
      have hD : va_D A [(ln, .inl (cI, 8, .inl lf)), (mn, .inl (cI, 8, .inl sf)), (it, .inl (cI, 320, .inl tf)), (md, .inr (6, [vm_0, .int 2, .ref ln, .ref mn, .ref it, vm_5, vm_6, vm_7, vm_8, vm_9, vm_10, vm_11, vm_12, vm_13, vm_14, vm_15, vm_16, vm_17, vm_18, vm_19, vm_20, vm_21, vm_22, vm_23]))] := hD
      refine wt_top (z := (-1000012)) (by decide) ?_
      have hP9 := hP.sub (ws' := [(md, .inr (6, [vm_0, .int 2, .ref ln, .ref mn, .ref it, vm_5, vm_6, vm_7, vm_8, vm_9, vm_10, vm_11, vm_12, vm_13, vm_14, vm_15, vm_16, vm_17, vm_18, vm_19, vm_20, vm_21, vm_22, vm_23])), (ln, .inl (cI, 8, .inl lf)), (mn, .inl (cI, 8, .inl sf)), (it, .inl (cI, 320, .inl tf))]) [3, 0, 1, 2] rfl
      have hD9 := hD.sub (ws' := [(md, .inr (6, [vm_0, .int 2, .ref ln, .ref mn, .ref it, vm_5, vm_6, vm_7, vm_8, vm_9, vm_10, vm_11, vm_12, vm_13, vm_14, vm_15, vm_16, vm_17, vm_18, vm_19, vm_20, vm_21, vm_22, vm_23])), (ln, .inl (cI, 8, .inl lf)), (mn, .inl (cI, 8, .inl sf)), (it, .inl (cI, 320, .inl tf))]) [3, 0, 1, 2] (by decide) rfl
      exact wt_iret hx hb hr hlocks hP9 hD9 hS ⟨2, rfl, (fun h => absurd h (by decide))⟩ dX6_rowFound_40
    · skip
      obtain ⟨z_7, hz_7, rfl⟩ := nI_of c_3
      refine lv_iload_n hx hb dX6_rowFound_19 rfl (lv_at hl 2 rfl) ?_
      refine lv_i2l hx hb dX6_rowFound_20 rfl ?_
      refine wt_topl (z := lN z_7) (nI_l (by omega)) ?_
      refine lv_iload_n hx hb dX6_rowFound_21 rfl (lv_at hl 3 rfl) ?_
      refine lv_i2l hx hb dX6_rowFound_22 rfl ?_
      refine wt_topl (z := lN n) (nI_l (by omega)) ?_
      refine lv_ladd hx hb dX6_rowFound_23 ?_
      refine wt_topl (z := lN (z_7 + n)) (lN_add z_7 n) ?_
      refine lv_aload_n hx hb dX6_rowFound_24 rfl (lv_at hl 0 rfl) ?_
      refine va_get (D := D) (ci := 6) (v := .ref mn) (C := RX6) (T := TX6) (N := 24) hx hb hts hi6 hown hK.1 hP 0 rfl rfl 3 (by decide) wf13 (fun _ h9 => h9) rfl dX6_rowFound_25 ?_
      refine lv_iload_n hx hb dX6_rowFound_28 rfl (lv_at hl 1 rfl) ?_
      refine va_iald hx hb hK.1 hP 2 0 rfl rfl (vp_in_nI (by omega) (by omega)) dX6_rowFound_29 ?_
      obtain ⟨q_8, hq_8, eq_8⟩ := hs8 ro (by omega)
      refine wt_top (z := nI q_8) (by rw [nI_clamp (by omega)]; exact eq_8) ?_
      refine lv_i2l hx hb dX6_rowFound_30 rfl ?_
      refine wt_topl (z := lN q_8) (nI_l (by omega)) ?_
      refine W.lcmp hx hb dX6_rowFound_31 ?_
      refine lv_if_le (tgt := 41) hx hb dX6_rowFound_32 (by decide) (fun c_9 => ?_) (fun c_9 => ?_)
      · skip
        have le_10 := wt_lcle (by omega) (by omega) (wt_ngt c_9)
        refine lv_aload_n hx hb dX6_rowFound_41 rfl (lv_at hl 0 rfl) ?_
        refine lv_iconst (v := 0) hx hb dX6_rowFound_42 (by decide) ?_
        refine va_put (D := D) (ci := 6) (v := .int 0) (ty := .int) (C := RX6) (T := TX6) (N := 24) hx hb hts hi6 tyX6 tyX6_ok nmX6 hown hK.1 hP hD hS 0 rfl rfl 1 (by decide) wf51 (fun _ h9 => h9) rfl (by decide +kernel) rfl rfl (Nat.le_of_ble_eq_true rfl) dX6_rowFound_43 (fun H locs hP hD hS => ?_)
        have hP : va_P D vwCl [(md, .inr (6, [vm_0, .int 0, .ref ln, .ref mn, .ref it, vm_5, vm_6, vm_7, vm_8, vm_9, vm_10, vm_11, vm_12, vm_13, vm_14, vm_15, vm_16, vm_17, vm_18, vm_19, vm_20, vm_21, vm_22, vm_23])), (ln, .inl (cI, 8, .inl lf)), (mn, .inl (cI, 8, .inl sf)), (it, .inl (cI, 320, .inl tf))] H := hP
        have hD : va_D A [(md, .inr (6, [vm_0, .int 0, .ref ln, .ref mn, .ref it, vm_5, vm_6, vm_7, vm_8, vm_9, vm_10, vm_11, vm_12, vm_13, vm_14, vm_15, vm_16, vm_17, vm_18, vm_19, vm_20, vm_21, vm_22, vm_23])), (ln, .inl (cI, 8, .inl lf)), (mn, .inl (cI, 8, .inl sf)), (it, .inl (cI, 320, .inl tf))] := hD
        refine lv_iconst (v := 0) hx hb dX6_rowFound_46 (by decide) ?_
        have hP9 := hP.sub (ws' := [(md, .inr (6, [vm_0, .int 0, .ref ln, .ref mn, .ref it, vm_5, vm_6, vm_7, vm_8, vm_9, vm_10, vm_11, vm_12, vm_13, vm_14, vm_15, vm_16, vm_17, vm_18, vm_19, vm_20, vm_21, vm_22, vm_23])), (ln, .inl (cI, 8, .inl lf)), (mn, .inl (cI, 8, .inl sf)), (it, .inl (cI, 320, .inl tf))]) [0, 1, 2, 3] rfl
        have hD9 := hD.sub (ws' := [(md, .inr (6, [vm_0, .int 0, .ref ln, .ref mn, .ref it, vm_5, vm_6, vm_7, vm_8, vm_9, vm_10, vm_11, vm_12, vm_13, vm_14, vm_15, vm_16, vm_17, vm_18, vm_19, vm_20, vm_21, vm_22, vm_23])), (ln, .inl (cI, 8, .inl lf)), (mn, .inl (cI, 8, .inl sf)), (it, .inl (cI, 320, .inl tf))]) [0, 1, 2, 3] (by decide) rfl
        exact wt_iret hx hb hr hlocks hP9 hD9 hS ⟨0, rfl, (fun _ => ⟨_, rfl, by omega⟩)⟩ dX6_rowFound_47
      · skip
        refine lv_aload_n hx hb dX6_rowFound_35 rfl (lv_at hl 0 rfl) ?_
        refine lv_iconst (v := 2) hx hb dX6_rowFound_36 (by decide) ?_
        refine wt_goI (wr := [(ln, .inl (cI, 8, .inl lf)), (mn, .inl (cI, 8, .inl sf)), (it, .inl (cI, 320, .inl tf))]) (wt_runV (As := [.int 2]) (rest := []) ⟨hx, hb, hml, hown, hts⟩ (c_X6_finding l D cI cZ cH md 2 vm_0 (.int sv) (.ref ln) (.ref mn) (.ref it) vm_5 vm_6 vm_7 vm_8 vm_9 vm_10 vm_11 vm_12 vm_13 vm_14 vm_15 vm_16 vm_17 vm_18 vm_19 vm_20 vm_21 vm_22 vm_23) (cwV 1 hts gX6_rowFound_X6_finding rfl rfl rfl (by decide +kernel) ⟨Nat.le_of_ble_eq_true rfl, Nat.le_of_ble_eq_true rfl⟩) hK hP hD [0] rfl (by decide) (va_recv hK.1 hP (ci := 6) (q0 := 0) rfl rfl) rfl hl.1 rfl (Nat.le_of_ble_eq_true rfl) dX6_rowFound_37 ⟨Nat.le_of_ble_eq_true rfl, Nat.le_of_ble_eq_true rfl⟩) hP hD hS hA [0] [1, 2, 3] rfl rfl (by decide) (by decide) (fun r_11 w_12 H locs h_13 hP hD hS => ?_)
        obtain ⟨rfl, rfl⟩ := h_13
        have hP : va_P D vwCl [(ln, .inl (cI, 8, .inl lf)), (mn, .inl (cI, 8, .inl sf)), (it, .inl (cI, 320, .inl tf)), (md, .inr (6, [vm_0, .int 2, .ref ln, .ref mn, .ref it, vm_5, vm_6, vm_7, vm_8, vm_9, vm_10, vm_11, vm_12, vm_13, vm_14, vm_15, vm_16, vm_17, vm_18, vm_19, vm_20, vm_21, vm_22, vm_23]))] H := hP
        have hD : va_D A [(ln, .inl (cI, 8, .inl lf)), (mn, .inl (cI, 8, .inl sf)), (it, .inl (cI, 320, .inl tf)), (md, .inr (6, [vm_0, .int 2, .ref ln, .ref mn, .ref it, vm_5, vm_6, vm_7, vm_8, vm_9, vm_10, vm_11, vm_12, vm_13, vm_14, vm_15, vm_16, vm_17, vm_18, vm_19, vm_20, vm_21, vm_22, vm_23]))] := hD
        refine wt_top (z := (-1000012)) (by decide) ?_
        have hP9 := hP.sub (ws' := [(md, .inr (6, [vm_0, .int 2, .ref ln, .ref mn, .ref it, vm_5, vm_6, vm_7, vm_8, vm_9, vm_10, vm_11, vm_12, vm_13, vm_14, vm_15, vm_16, vm_17, vm_18, vm_19, vm_20, vm_21, vm_22, vm_23])), (ln, .inl (cI, 8, .inl lf)), (mn, .inl (cI, 8, .inl sf)), (it, .inl (cI, 320, .inl tf))]) [3, 0, 1, 2] rfl
        have hD9 := hD.sub (ws' := [(md, .inr (6, [vm_0, .int 2, .ref ln, .ref mn, .ref it, vm_5, vm_6, vm_7, vm_8, vm_9, vm_10, vm_11, vm_12, vm_13, vm_14, vm_15, vm_16, vm_17, vm_18, vm_19, vm_20, vm_21, vm_22, vm_23])), (ln, .inl (cI, 8, .inl lf)), (mn, .inl (cI, 8, .inl sf)), (it, .inl (cI, 320, .inl tf))]) [3, 0, 1, 2] (by decide) rfl
        exact wt_iret hx hb hr hlocks hP9 hD9 hS ⟨2, rfl, (fun h => absurd h (by decide))⟩ dX6_rowFound_40
  · skip
    refine lv_aload_n hx hb dX6_rowFound_9 rfl (lv_at hl 0 rfl) ?_
    refine lv_iconst (v := 1) hx hb dX6_rowFound_10 (by decide) ?_
    refine wt_goI (wr := [(ln, .inl (cI, 8, .inl lf)), (mn, .inl (cI, 8, .inl sf)), (it, .inl (cI, 320, .inl tf))]) (wt_runV (As := [.int 1]) (rest := []) ⟨hx, hb, hml, hown, hts⟩ (c_X6_finding l D cI cZ cH md 1 vm_0 (.int sv) (.ref ln) (.ref mn) (.ref it) vm_5 vm_6 vm_7 vm_8 vm_9 vm_10 vm_11 vm_12 vm_13 vm_14 vm_15 vm_16 vm_17 vm_18 vm_19 vm_20 vm_21 vm_22 vm_23) (cwV 1 hts gX6_rowFound_X6_finding rfl rfl rfl (by decide +kernel) ⟨Nat.le_of_ble_eq_true rfl, Nat.le_of_ble_eq_true rfl⟩) hK hP hD [0] rfl (by decide) (va_recv hK.1 hP (ci := 6) (q0 := 0) rfl rfl) rfl hl.1 rfl (Nat.le_of_ble_eq_true rfl) dX6_rowFound_11 ⟨Nat.le_of_ble_eq_true rfl, Nat.le_of_ble_eq_true rfl⟩) hP hD hS hA [0] [1, 2, 3] rfl rfl (by decide) (by decide) (fun r_14 w_15 H locs h_16 hP hD hS => ?_)
    obtain ⟨rfl, rfl⟩ := h_16
    have hP : va_P D vwCl [(ln, .inl (cI, 8, .inl lf)), (mn, .inl (cI, 8, .inl sf)), (it, .inl (cI, 320, .inl tf)), (md, .inr (6, [vm_0, .int 1, .ref ln, .ref mn, .ref it, vm_5, vm_6, vm_7, vm_8, vm_9, vm_10, vm_11, vm_12, vm_13, vm_14, vm_15, vm_16, vm_17, vm_18, vm_19, vm_20, vm_21, vm_22, vm_23]))] H := hP
    have hD : va_D A [(ln, .inl (cI, 8, .inl lf)), (mn, .inl (cI, 8, .inl sf)), (it, .inl (cI, 320, .inl tf)), (md, .inr (6, [vm_0, .int 1, .ref ln, .ref mn, .ref it, vm_5, vm_6, vm_7, vm_8, vm_9, vm_10, vm_11, vm_12, vm_13, vm_14, vm_15, vm_16, vm_17, vm_18, vm_19, vm_20, vm_21, vm_22, vm_23]))] := hD
    refine wt_top (z := (-1000011)) (by decide) ?_
    have hP9 := hP.sub (ws' := [(md, .inr (6, [vm_0, .int 1, .ref ln, .ref mn, .ref it, vm_5, vm_6, vm_7, vm_8, vm_9, vm_10, vm_11, vm_12, vm_13, vm_14, vm_15, vm_16, vm_17, vm_18, vm_19, vm_20, vm_21, vm_22, vm_23])), (ln, .inl (cI, 8, .inl lf)), (mn, .inl (cI, 8, .inl sf)), (it, .inl (cI, 320, .inl tf))]) [3, 0, 1, 2] rfl
    have hD9 := hD.sub (ws' := [(md, .inr (6, [vm_0, .int 1, .ref ln, .ref mn, .ref it, vm_5, vm_6, vm_7, vm_8, vm_9, vm_10, vm_11, vm_12, vm_13, vm_14, vm_15, vm_16, vm_17, vm_18, vm_19, vm_20, vm_21, vm_22, vm_23])), (ln, .inl (cI, 8, .inl lf)), (mn, .inl (cI, 8, .inl sf)), (it, .inl (cI, 320, .inl tf))]) [3, 0, 1, 2] (by decide) rfl
    exact wt_iret hx hb hr hlocks hP9 hD9 hS ⟨1, rfl, (fun h => absurd h (by decide))⟩ dX6_rowFound_14
set_option maxHeartbeats 4000000 in
set_option maxRecDepth 100000 in
theorem c_X6_warmSo (l : Launch) (D : va_G) (cI cZ cH : ClassId) (md tn it : Nat) (R T r ba n : Nat) (g tf : Nat → Int32) (vm_0 vm_1 vm_2 vm_3 vm_5 vm_6 vm_8 vm_9 vm_10 vm_11 vm_12 vm_13 vm_14 vm_15 vm_16 vm_17 vm_18 vm_19 vm_20 vm_21 vm_22 vm_23 : Value) (hR5 : R ≤ 5) (hT6 : T ≤ 6) (hrk : rk R T g) (hr5 : r ≤ 9) (hba : ba + n ≤ 320) (hn12 : n ≤ 12) : wt_M l yX6_warmSo wsX6_warmSo ({ frames := 4, cells := 0, slots := 0, locals := 91 } : Room) D (wt_T cI cZ cH) [.ref md, .int (nI r), .int (nI ba), .int (nI n)] [(md, .inr (6, [vm_0, vm_1, vm_2, vm_3, .ref it, vm_5, vm_6, .ref tn, vm_8, vm_9, vm_10, vm_11, vm_12, vm_13, vm_14, vm_15, vm_16, vm_17, vm_18, vm_19, vm_20, vm_21, vm_22, vm_23])), (tn, .inl (cI, 45, .inl g)), (it, .inl (cI, 320, .inl tf))] (wt_QI D (fun r w => ∃ (g2 : Nat → Int32), w = [(md, .inr (6, [vm_0, vm_1, vm_2, vm_3, .ref it, vm_5, vm_6, .ref tn, vm_8, vm_9, vm_10, vm_11, vm_12, vm_13, vm_14, vm_15, vm_16, vm_17, vm_18, vm_19, vm_20, vm_21, vm_22, vm_23])), (tn, .inl (cI, 45, .inl g2)), (it, .inl (cI, 320, .inl tf))])) := by
  refine wt_M.ofW (cc := cX6_warmSo) (maxL := 6) (ret := (some .boolean)) (by decide) rfl (Nat.le_of_ble_eq_true rfl) ?_
  intro p e s m below meth c A ls hx hb hr hts hown hlocks hml hnm hP hK hD hA hS hl
  have hP : va_P D vwCl [(md, .inr (6, [vm_0, vm_1, vm_2, vm_3, .ref it, vm_5, vm_6, .ref tn, vm_8, vm_9, vm_10, vm_11, vm_12, vm_13, vm_14, vm_15, vm_16, vm_17, vm_18, vm_19, vm_20, vm_21, vm_22, vm_23])), (tn, .inl (cI, 45, .inl g)), (it, .inl (cI, 320, .inl tf))] s.heap := hP
  have hown : s.vm.findClass RX6 = some m.cls := hown
  have hl : lv_has ls 6 [(0, .ref md), (1, .int (nI r)), (2, .int (nI ba)), (3, .int (nI n))] := hl
  have hi6 : ∀ w ∈ u_ws RX6 TX6 24, w ∈ wsX6_warmSo := by decide +kernel
  have wf16 := hts (.fieldLink RX6 16 "WarmTubesModel" "item" "[I") (by decide +kernel)
  have wf25 := hts (.fieldLink RX6 25 "WarmTubesModel" "then" "[I") (by decide +kernel)
  refine lv_iconst (v := 1) hx hb dX6_warmSo_0 (by decide) ?_
  refine lv_istore (lv' := [(4, .int 1), (0, .ref md), (1, .int (nI r)), (2, .int (nI ba)), (3, .int (nI n))]) hx hb dX6_warmSo_1 hl (by decide) rfl (fun ls hl => ?_)
  refine lv_iconst (v := 0) hx hb dX6_warmSo_3 (by decide) ?_
  refine lv_istore (lv' := [(5, .int 0), (4, .int 1), (0, .ref md), (1, .int (nI r)), (2, .int (nI ba)), (3, .int (nI n))]) hx hb dX6_warmSo_4 hl (by decide) rfl (fun ls hl => ?_)
  have loop6 : ∀ (k i_1 : Nat) (g_2 : Nat → Int32) (n_3 : Nat) (H : Heap) (locs : List Loc) (ls : Array Slot), i_1 + k = n → (n_3 ≤ 1) → (rk R T g_2) → va_P D vwCl [(md, .inr (6, [vm_0, vm_1, vm_2, vm_3, .ref it, vm_5, vm_6, .ref tn, vm_8, vm_9, vm_10, vm_11, vm_12, vm_13, vm_14, vm_15, vm_16, vm_17, vm_18, vm_19, vm_20, vm_21, vm_22, vm_23])), (tn, .inl (cI, 45, .inl g_2)), (it, .inl (cI, 320, .inl tf))] H → va_D A [(md, .inr (6, [vm_0, vm_1, vm_2, vm_3, .ref it, vm_5, vm_6, .ref tn, vm_8, vm_9, vm_10, vm_11, vm_12, vm_13, vm_14, vm_15, vm_16, vm_17, vm_18, vm_19, vm_20, vm_21, vm_22, vm_23])), (tn, .inl (cI, 45, .inl g_2)), (it, .inl (cI, 320, .inl tf))] → va_S A s.heap H locs → lv_has ls 6 [(5, .int (nI i_1)), (4, .int (nI n_3)), (0, .ref md), (1, .int (nI r)), (2, .int (nI ba)), (3, .int (nI n))] → W p l e ({ frames := 4, cells := 0, slots := 0, locals := 91 } : Room) s m ([.ref md, .int (nI r), .int (nI ba), .int (nI n)] : List Value).toArray below meth c H locs 0 0 (MQ below (wt_QI D (fun r w => ∃ (g2 : Nat → Int32), w = [(md, .inr (6, [vm_0, vm_1, vm_2, vm_3, .ref it, vm_5, vm_6, .ref tn, vm_8, vm_9, vm_10, vm_11, vm_12, vm_13, vm_14, vm_15, vm_16, vm_17, vm_18, vm_19, vm_20, vm_21, vm_22, vm_23])), (tn, .inl (cI, 45, .inl g2)), (it, .inl (cI, 320, .inl tf))]) A) ([.ref md, .int (nI r), .int (nI ba), .int (nI n)] : List Value).toArray s 0 0 A) (F0 m 6 ls []) := by
    intro k
    induction k with
    | zero =>
      intro i_1 g_2 n_3 H locs ls hik hn4 rk_4 hP hD hS hl
      refine lv_iload hx hb dX6_warmSo_6 (lv_at hl 0 rfl) ?_
      refine lv_iload_n hx hb dX6_warmSo_8 rfl (lv_at hl 5 rfl) ?_
      refine lv_icmp_ge (tgt := 57) hx hb dX6_warmSo_9 (by decide) (fun _ => ?_) (fun h => absurd (nI_le (a := n) (b := i_1) (by omega) (by omega)) h)
      refine lv_iload hx hb dX6_warmSo_57 (lv_at hl 1 rfl) ?_
      have hP9 := hP.sub (ws' := [(md, .inr (6, [vm_0, vm_1, vm_2, vm_3, .ref it, vm_5, vm_6, .ref tn, vm_8, vm_9, vm_10, vm_11, vm_12, vm_13, vm_14, vm_15, vm_16, vm_17, vm_18, vm_19, vm_20, vm_21, vm_22, vm_23])), (tn, .inl (cI, 45, .inl g_2)), (it, .inl (cI, 320, .inl tf))]) [0, 1, 2] rfl
      have hD9 := hD.sub (ws' := [(md, .inr (6, [vm_0, vm_1, vm_2, vm_3, .ref it, vm_5, vm_6, .ref tn, vm_8, vm_9, vm_10, vm_11, vm_12, vm_13, vm_14, vm_15, vm_16, vm_17, vm_18, vm_19, vm_20, vm_21, vm_22, vm_23])), (tn, .inl (cI, 45, .inl g_2)), (it, .inl (cI, 320, .inl tf))]) [0, 1, 2] (by decide) rfl
      exact wt_zret hx hb hr hlocks (wt_nar1 (by omega)) hP9 hD9 hS ⟨g_2, rfl⟩ dX6_warmSo_59
    | succ k ih6 =>
      intro i_1 g_2 n_3 H locs ls hik hn4 rk_4 hP hD hS hl
      refine lv_iload hx hb dX6_warmSo_6 (lv_at hl 0 rfl) ?_
      refine lv_iload_n hx hb dX6_warmSo_8 rfl (lv_at hl 5 rfl) ?_
      refine lv_icmp_ge (tgt := 57) hx hb dX6_warmSo_9 (by decide) (fun h => absurd h (nI_ge (a := i_1) (b := n) (by omega) (by omega))) (fun _ => ?_)
      refine lv_aload_n hx hb dX6_warmSo_12 rfl (lv_at hl 2 rfl) ?_
      refine va_get (D := D) (ci := 6) (v := .ref tn) (C := RX6) (T := TX6) (N := 24) hx hb hts hi6 hown hK.1 hP 0 rfl rfl 7 (by decide) wf25 (fun _ h9 => h9) rfl dX6_warmSo_13 ?_
      refine wt_goV (wr := [(md, .inr (6, [vm_0, vm_1, vm_2, vm_3, .ref it, vm_5, vm_6, .ref tn, vm_8, vm_9, vm_10, vm_11, vm_12, vm_13, vm_14, vm_15, vm_16, vm_17, vm_18, vm_19, vm_20, vm_21, vm_22, vm_23])), (it, .inl (cI, 320, .inl tf))]) (wt_runS (As := [.ref tn]) (rest := []) ⟨hx, hb, hml, hown, hts⟩ (c_X6_minute l D cI cZ cH tn R T g_2 (by first | assumption | omega) (by first | assumption | omega) (by first | assumption | omega)) (va_cwS 1 hts gX6_warmSo_X6_minute rfl rfl rfl (by decide +kernel) ⟨Nat.le_of_ble_eq_true rfl, Nat.le_of_ble_eq_true rfl⟩) hK hP hD [1] rfl (by decide) rfl hl.1 rfl (Nat.le_of_ble_eq_true rfl) dX6_warmSo_16 ⟨Nat.le_of_ble_eq_true rfl, Nat.le_of_ble_eq_true rfl⟩) hP hD hS hA [1] [0, 2] rfl rfl (by decide) (by decide) (fun w_6 H locs h_7 hP hD hS => ?_)
      obtain ⟨f2_8, rfl, x_9⟩ := h_7
      have hP : va_P D vwCl [(md, .inr (6, [vm_0, vm_1, vm_2, vm_3, .ref it, vm_5, vm_6, .ref tn, vm_8, vm_9, vm_10, vm_11, vm_12, vm_13, vm_14, vm_15, vm_16, vm_17, vm_18, vm_19, vm_20, vm_21, vm_22, vm_23])), (it, .inl (cI, 320, .inl tf)), (tn, .inl (cI, 45, .inl f2_8))] H := hP
      have hD : va_D A [(md, .inr (6, [vm_0, vm_1, vm_2, vm_3, .ref it, vm_5, vm_6, .ref tn, vm_8, vm_9, vm_10, vm_11, vm_12, vm_13, vm_14, vm_15, vm_16, vm_17, vm_18, vm_19, vm_20, vm_21, vm_22, vm_23])), (it, .inl (cI, 320, .inl tf)), (tn, .inl (cI, 45, .inl f2_8))] := hD
      refine lv_iload hx hb dX6_warmSo_19 (lv_at hl 1 rfl) ?_
      refine lv_if_eq (tgt := 48) hx hb dX6_warmSo_21 (by decide) (fun c_10 => ?_) (fun c_10 => ?_)
      · skip
        have c_10 : n_3 = 0 := (nI_eq (a := n_3) (b := 0) (by omega) (by omega)).mp c_10
        refine lv_iconst (v := 0) hx hb dX6_warmSo_48 (by decide) ?_
        refine lv_istore (lv' := [(4, .int 0), (5, .int (nI i_1)), (0, .ref md), (1, .int (nI r)), (2, .int (nI ba)), (3, .int (nI n))]) hx hb dX6_warmSo_49 hl (by decide) rfl (fun ls hl => ?_)
        refine lv_iinc (v := nI (i_1 + 1)) (lv' := [(5, .int (nI (i_1 + 1))), (4, .int 0), (0, .ref md), (1, .int (nI r)), (2, .int (nI ba)), (3, .int (nI n))]) hx hb dX6_warmSo_51 hl (k := 1) rfl (nI_add i_1 1) (by decide) rfl (fun ls hl => ?_)
        refine lv_goto (tgt := 6) hx hb dX6_warmSo_54 (by decide) ?_
        exact ih6 ((i_1 + 1)) f2_8 0 H locs ls (by omega) (by omega) x_9 (hP.sub [0, 2, 1] rfl) (hD.sub [0, 2, 1] (by decide) rfl) hS (lv_sub hl [0, 1, 2, 3, 4, 5] rfl)
      · skip
        have c_10 : ¬ (n_3 = 0) := fun h => c_10 ((nI_eq (a := n_3) (b := 0) (by omega) (by omega)).mpr h)
        refine lv_aload_n hx hb dX6_warmSo_24 rfl (lv_at hl 2 rfl) ?_
        refine va_get (D := D) (ci := 6) (v := .ref tn) (C := RX6) (T := TX6) (N := 24) hx hb hts hi6 hown hK.1 hP 0 rfl rfl 7 (by decide) wf25 (fun _ h9 => h9) rfl dX6_warmSo_25 ?_
        refine lv_iload_n hx hb dX6_warmSo_28 rfl (lv_at hl 3 rfl) ?_
        refine wt_rS (As := [.ref tn, .int (nI r)]) (rest := []) ⟨hx, hb, hml, hown, hts⟩ (c_X6_warmth l D cI cZ cH tn R T f2_8 r (by first | assumption | omega) (by first | assumption | omega) (by first | assumption | omega) (by first | assumption | omega)) (va_cwS 2 hts gX6_warmSo_X6_warmth rfl rfl rfl (by decide +kernel) ⟨Nat.le_of_ble_eq_true rfl, Nat.le_of_ble_eq_true rfl⟩) hK hP [2] rfl rfl hl.1 rfl (Nat.le_of_ble_eq_true rfl) dX6_warmSo_29 ⟨Nat.le_of_ble_eq_true rfl, Nat.le_of_ble_eq_true rfl⟩ (fun r_11 e_12 => ?_)
        refine lv_aload_n hx hb dX6_warmSo_32 rfl (lv_at hl 2 rfl) ?_
        refine va_get (D := D) (ci := 6) (v := .ref it) (C := RX6) (T := TX6) (N := 24) hx hb hts hi6 hown hK.1 hP 0 rfl rfl 4 (by decide) wf16 (fun _ h9 => h9) rfl dX6_warmSo_33 ?_
        refine lv_iload_n hx hb dX6_warmSo_36 rfl (lv_at hl 4 rfl) ?_
        refine lv_iload hx hb dX6_warmSo_37 (lv_at hl 0 rfl) ?_
        refine lv_iadd hx hb dX6_warmSo_39 ?_
        refine wt_top (z := nI (ba + i_1)) (nI_add ba i_1) ?_
        refine va_iald hx hb hK.1 hP 1 0 rfl rfl (vp_in_nI (by omega) (by omega)) dX6_warmSo_40 ?_
        refine lv_topi (fun ov_13 _ => ?_)
        refine lv_icmp_ne (tgt := 48) hx hb dX6_warmSo_41 (by decide) (fun c_14 => ?_) (fun c_14 => ?_)
        · skip
          refine lv_iconst (v := 0) hx hb dX6_warmSo_48 (by decide) ?_
          refine lv_istore (lv' := [(4, .int 0), (5, .int (nI i_1)), (0, .ref md), (1, .int (nI r)), (2, .int (nI ba)), (3, .int (nI n))]) hx hb dX6_warmSo_49 hl (by decide) rfl (fun ls hl => ?_)
          refine lv_iinc (v := nI (i_1 + 1)) (lv' := [(5, .int (nI (i_1 + 1))), (4, .int 0), (0, .ref md), (1, .int (nI r)), (2, .int (nI ba)), (3, .int (nI n))]) hx hb dX6_warmSo_51 hl (k := 1) rfl (nI_add i_1 1) (by decide) rfl (fun ls hl => ?_)
          refine lv_goto (tgt := 6) hx hb dX6_warmSo_54 (by decide) ?_
          exact ih6 ((i_1 + 1)) f2_8 0 H locs ls (by omega) (by omega) x_9 (hP.sub [0, 2, 1] rfl) (hD.sub [0, 2, 1] (by decide) rfl) hS (lv_sub hl [0, 1, 2, 3, 4, 5] rfl)
        · skip
          refine lv_iconst (v := 1) hx hb dX6_warmSo_44 (by decide) ?_
          refine lv_goto (tgt := 49) hx hb dX6_warmSo_45 (by decide) ?_
          refine lv_istore (lv' := [(4, .int 1), (5, .int (nI i_1)), (0, .ref md), (1, .int (nI r)), (2, .int (nI ba)), (3, .int (nI n))]) hx hb dX6_warmSo_49 hl (by decide) rfl (fun ls hl => ?_)
          refine lv_iinc (v := nI (i_1 + 1)) (lv' := [(5, .int (nI (i_1 + 1))), (4, .int 1), (0, .ref md), (1, .int (nI r)), (2, .int (nI ba)), (3, .int (nI n))]) hx hb dX6_warmSo_51 hl (k := 1) rfl (nI_add i_1 1) (by decide) rfl (fun ls hl => ?_)
          refine lv_goto (tgt := 6) hx hb dX6_warmSo_54 (by decide) ?_
          exact ih6 ((i_1 + 1)) f2_8 1 H locs ls (by omega) (by omega) x_9 (hP.sub [0, 2, 1] rfl) (hD.sub [0, 2, 1] (by decide) rfl) hS (lv_sub hl [0, 1, 2, 3, 4, 5] rfl)
  exact loop6 (n - 0) (0) g 1 _ _ ls (by omega) (by omega) hrk hP hD hS hl
set_option maxHeartbeats 4000000 in
set_option maxRecDepth 100000 in
theorem c_X6_who (l : Launch) (D : va_G) (cI cZ cH : ClassId) (md hs : Nat) (R T : Nat) (f : Nat → Int32) (tn : Nat) (g : Nat → Int32) (ln mn it : Nat) (lf sf tf : Nat → Int32) (sv : Int32) (a1 a2 a3 a4 a5 a6 : Int32) (vm_0 vm_6 vm_8 vm_9 vm_10 vm_11 vm_12 vm_13 vm_14 vm_15 vm_16 vm_17 vm_18 vm_19 vm_20 vm_21 vm_22 vm_23 : Value) (hR5 : R ≤ 5) (hT6 : T ≤ 6) (hrk : rk R T f) (hs8 : hw 40 8 sf) : wt_M l yX6_who wsX6_who ({ frames := 5, cells := 0, slots := 0, locals := 116 } : Room) D (wt_T cI cZ cH) [.ref md, .int a1, .int a2, .int a3, .int a4, .int a5, .int a6] [(md, .inr (6, [vm_0, .int sv, .ref ln, .ref mn, .ref it, .ref hs, vm_6, .ref tn, vm_8, vm_9, vm_10, vm_11, vm_12, vm_13, vm_14, vm_15, vm_16, vm_17, vm_18, vm_19, vm_20, vm_21, vm_22, vm_23])), (hs, .inl (cI, 45, .inl f)), (tn, .inl (cI, 45, .inl g)), (ln, .inl (cI, 8, .inl lf)), (mn, .inl (cI, 8, .inl sf)), (it, .inl (cI, 320, .inl tf))] (wt_QI D (fun r w => ∃ (g2 : Nat → Int32) (md_f1 : Int32), w = [(md, .inr (6, [.int 0, .int md_f1, .ref ln, .ref mn, .ref it, .ref hs, vm_6, .ref tn, vm_8, vm_9, vm_10, vm_11, vm_12, vm_13, vm_14, vm_15, vm_16, vm_17, vm_18, vm_19, vm_20, vm_21, vm_22, vm_23])), (hs, .inl (cI, 45, .inl f)), (tn, .inl (cI, 45, .inl g2)), (ln, .inl (cI, 8, .inl lf)), (mn, .inl (cI, 8, .inl sf)), (it, .inl (cI, 320, .inl tf))])) := by
  refine wt_M.ofW (cc := cX6_who) (maxL := 11) (ret := (some .int)) (by decide) rfl (Nat.le_of_ble_eq_true rfl) ?_
  intro p e s m below meth c A ls hx hb hr hts hown hlocks hml hnm hP hK hD hA hS hl
  have hP : va_P D vwCl [(md, .inr (6, [vm_0, .int sv, .ref ln, .ref mn, .ref it, .ref hs, vm_6, .ref tn, vm_8, vm_9, vm_10, vm_11, vm_12, vm_13, vm_14, vm_15, vm_16, vm_17, vm_18, vm_19, vm_20, vm_21, vm_22, vm_23])), (hs, .inl (cI, 45, .inl f)), (tn, .inl (cI, 45, .inl g)), (ln, .inl (cI, 8, .inl lf)), (mn, .inl (cI, 8, .inl sf)), (it, .inl (cI, 320, .inl tf))] s.heap := hP
  have hown : s.vm.findClass RX6 = some m.cls := hown
  have hl : lv_has ls 11 [(0, .ref md), (1, .int a1), (2, .int a2), (3, .int a3), (4, .int a4), (5, .int a5), (6, .int a6)] := hl
  have hi6 : ∀ w ∈ u_ws RX6 TX6 24, w ∈ wsX6_who := by decide +kernel
  have wc67 := hts (.constant RX6 67 (-1000001)) (by decide +kernel)
  have wf19 := hts (.fieldLink RX6 19 "WarmTubesModel" "house" "[I") (by decide +kernel)
  have wf25 := hts (.fieldLink RX6 25 "WarmTubesModel" "then" "[I") (by decide +kernel)
  have wf47 := hts (.fieldLink RX6 47 "WarmTubesModel" "thrown" "I") (by decide +kernel)
  have wl265 := hts (.constantLong RX6 265 (12)) (by decide +kernel)
  have wl65 := hts (.constantLong RX6 65 (2)) (by decide +kernel)
  refine lv_aload_n hx hb dX6_who_0 rfl (lv_at hl 0 rfl) ?_
  refine lv_iconst (v := 0) hx hb dX6_who_1 (by decide) ?_
  refine va_put (D := D) (ci := 6) (v := .int 0) (ty := .int) (C := RX6) (T := TX6) (N := 24) hx hb hts hi6 tyX6 tyX6_ok nmX6 hown hK.1 hP hD hS 0 rfl rfl 0 (by decide) wf47 (fun _ h9 => h9) rfl (by decide +kernel) rfl rfl (Nat.le_of_ble_eq_true rfl) dX6_who_2 (fun H locs hP hD hS => ?_)
  have hP : va_P D vwCl [(md, .inr (6, [.int 0, .int sv, .ref ln, .ref mn, .ref it, .ref hs, vm_6, .ref tn, vm_8, vm_9, vm_10, vm_11, vm_12, vm_13, vm_14, vm_15, vm_16, vm_17, vm_18, vm_19, vm_20, vm_21, vm_22, vm_23])), (hs, .inl (cI, 45, .inl f)), (tn, .inl (cI, 45, .inl g)), (ln, .inl (cI, 8, .inl lf)), (mn, .inl (cI, 8, .inl sf)), (it, .inl (cI, 320, .inl tf))] H := hP
  have hD : va_D A [(md, .inr (6, [.int 0, .int sv, .ref ln, .ref mn, .ref it, .ref hs, vm_6, .ref tn, vm_8, vm_9, vm_10, vm_11, vm_12, vm_13, vm_14, vm_15, vm_16, vm_17, vm_18, vm_19, vm_20, vm_21, vm_22, vm_23])), (hs, .inl (cI, 45, .inl f)), (tn, .inl (cI, 45, .inl g)), (ln, .inl (cI, 8, .inl lf)), (mn, .inl (cI, 8, .inl sf)), (it, .inl (cI, 320, .inl tf))] := hD
  refine lv_aload_n hx hb dX6_who_5 rfl (lv_at hl 0 rfl) ?_
  refine lv_iload_n hx hb dX6_who_6 rfl (lv_at hl 1 rfl) ?_
  refine wt_rV (As := [.int a1]) (rest := []) ⟨hx, hb, hml, hown, hts⟩ (c_X6_isTube l D cI cZ cH md hs R T f a1 (.int 0) (.int sv) (.ref ln) (.ref mn) (.ref it) vm_6 (.ref tn) vm_8 vm_9 vm_10 vm_11 vm_12 vm_13 vm_14 vm_15 vm_16 vm_17 vm_18 vm_19 vm_20 vm_21 vm_22 vm_23 (by first | assumption | omega) (by first | assumption | omega) (by first | assumption | omega)) (cwV 1 hts gX6_who_X6_isTube rfl rfl rfl (by decide +kernel) ⟨Nat.le_of_ble_eq_true rfl, Nat.le_of_ble_eq_true rfl⟩) hK hP [0, 1] rfl (va_recv hK.1 hP (ci := 6) (q0 := 0) rfl rfl) rfl hl.1 rfl (Nat.le_of_ble_eq_true rfl) dX6_who_7 ⟨Nat.le_of_ble_eq_true rfl, Nat.le_of_ble_eq_true rfl⟩ (fun r_1 e_2 => ?_)
  subst e_2
  refine lv_if_eq (tgt := 54) hx hb dX6_who_10 (by decide) (fun c_3 => ?_) (fun c_3 => ?_)
  · skip
    refine lv_ldc hx hb hown wc67 dX6_who_54 ?_
    have hP9 := hP.sub (ws' := [(md, .inr (6, [.int 0, .int sv, .ref ln, .ref mn, .ref it, .ref hs, vm_6, .ref tn, vm_8, vm_9, vm_10, vm_11, vm_12, vm_13, vm_14, vm_15, vm_16, vm_17, vm_18, vm_19, vm_20, vm_21, vm_22, vm_23])), (hs, .inl (cI, 45, .inl f)), (tn, .inl (cI, 45, .inl g)), (ln, .inl (cI, 8, .inl lf)), (mn, .inl (cI, 8, .inl sf)), (it, .inl (cI, 320, .inl tf))]) [0, 1, 2, 3, 4, 5] rfl
    have hD9 := hD.sub (ws' := [(md, .inr (6, [.int 0, .int sv, .ref ln, .ref mn, .ref it, .ref hs, vm_6, .ref tn, vm_8, vm_9, vm_10, vm_11, vm_12, vm_13, vm_14, vm_15, vm_16, vm_17, vm_18, vm_19, vm_20, vm_21, vm_22, vm_23])), (hs, .inl (cI, 45, .inl f)), (tn, .inl (cI, 45, .inl g)), (ln, .inl (cI, 8, .inl lf)), (mn, .inl (cI, 8, .inl sf)), (it, .inl (cI, 320, .inl tf))]) [0, 1, 2, 3, 4, 5] (by decide) rfl
    exact wt_iret hx hb hr hlocks hP9 hD9 hS ⟨g, sv, rfl⟩ dX6_who_56
  · skip
    obtain ⟨j_4, hj_4, rfl⟩ := wI_natT (T := T) (by omega) c_3
    refine lv_iload_n hx hb dX6_who_13 rfl (lv_at hl 2 rfl) ?_
    refine lv_i2l hx hb dX6_who_14 rfl ?_
    refine lv_lconst (v := 0) hx hb dX6_who_15 (by decide) ?_
    refine lv_ldc2 hx hb hown wl65 dX6_who_16 ?_
    refine wt_rS (As := [.long a2.toInt64, .long 0, .long 2]) (rest := []) ⟨hx, hb, hml, hown, hts⟩ (c_X6_in l D cI cZ cH a2.toInt64 0 2) (va_cwS 3 hts gX6_who_X6_in rfl rfl rfl (by decide +kernel) ⟨Nat.le_of_ble_eq_true rfl, Nat.le_of_ble_eq_true rfl⟩) hK hP [] rfl rfl hl.1 rfl (Nat.le_of_ble_eq_true rfl) dX6_who_19 ⟨Nat.le_of_ble_eq_true rfl, Nat.le_of_ble_eq_true rfl⟩ (fun r_5 e_6 => ?_)
    subst e_6
    refine wt_top (z := wI a2 0 2) (wL_I' (by decide) (by decide)) ?_
    refine lv_if_eq (tgt := 54) hx hb dX6_who_22 (by decide) (fun c_7 => ?_) (fun c_7 => ?_)
    · skip
      refine lv_ldc hx hb hown wc67 dX6_who_54 ?_
      have hP9 := hP.sub (ws' := [(md, .inr (6, [.int 0, .int sv, .ref ln, .ref mn, .ref it, .ref hs, vm_6, .ref tn, vm_8, vm_9, vm_10, vm_11, vm_12, vm_13, vm_14, vm_15, vm_16, vm_17, vm_18, vm_19, vm_20, vm_21, vm_22, vm_23])), (hs, .inl (cI, 45, .inl f)), (tn, .inl (cI, 45, .inl g)), (ln, .inl (cI, 8, .inl lf)), (mn, .inl (cI, 8, .inl sf)), (it, .inl (cI, 320, .inl tf))]) [0, 1, 2, 3, 4, 5] rfl
      have hD9 := hD.sub (ws' := [(md, .inr (6, [.int 0, .int sv, .ref ln, .ref mn, .ref it, .ref hs, vm_6, .ref tn, vm_8, vm_9, vm_10, vm_11, vm_12, vm_13, vm_14, vm_15, vm_16, vm_17, vm_18, vm_19, vm_20, vm_21, vm_22, vm_23])), (hs, .inl (cI, 45, .inl f)), (tn, .inl (cI, 45, .inl g)), (ln, .inl (cI, 8, .inl lf)), (mn, .inl (cI, 8, .inl sf)), (it, .inl (cI, 320, .inl tf))]) [0, 1, 2, 3, 4, 5] (by decide) rfl
      exact wt_iret hx hb hr hlocks hP9 hD9 hS ⟨g, sv, rfl⟩ dX6_who_56
    · skip
      obtain ⟨j_8, hj_8, hj_8b, rfl⟩ := wI_nat (a := 0) (b := 2) (by omega) (by omega) c_7
      refine lv_aload_n hx hb dX6_who_25 rfl (lv_at hl 0 rfl) ?_
      refine lv_iload_n hx hb dX6_who_26 rfl (lv_at hl 3 rfl) ?_
      refine wt_rV (As := [.int a3]) (rest := []) ⟨hx, hb, hml, hown, hts⟩ (c_X6_isRoom l D cI cZ cH md hs R T f a3 (.int 0) (.int sv) (.ref ln) (.ref mn) (.ref it) vm_6 (.ref tn) vm_8 vm_9 vm_10 vm_11 vm_12 vm_13 vm_14 vm_15 vm_16 vm_17 vm_18 vm_19 vm_20 vm_21 vm_22 vm_23 (by first | assumption | omega) (by first | assumption | omega) (by first | assumption | omega)) (cwV 1 hts gX6_who_X6_isRoom rfl rfl rfl (by decide +kernel) ⟨Nat.le_of_ble_eq_true rfl, Nat.le_of_ble_eq_true rfl⟩) hK hP [0, 1] rfl (va_recv hK.1 hP (ci := 6) (q0 := 0) rfl rfl) rfl hl.1 rfl (Nat.le_of_ble_eq_true rfl) dX6_who_27 ⟨Nat.le_of_ble_eq_true rfl, Nat.le_of_ble_eq_true rfl⟩ (fun r_9 e_10 => ?_)
      subst e_10
      refine lv_if_eq (tgt := 54) hx hb dX6_who_30 (by decide) (fun c_11 => ?_) (fun c_11 => ?_)
      · skip
        refine lv_ldc hx hb hown wc67 dX6_who_54 ?_
        have hP9 := hP.sub (ws' := [(md, .inr (6, [.int 0, .int sv, .ref ln, .ref mn, .ref it, .ref hs, vm_6, .ref tn, vm_8, vm_9, vm_10, vm_11, vm_12, vm_13, vm_14, vm_15, vm_16, vm_17, vm_18, vm_19, vm_20, vm_21, vm_22, vm_23])), (hs, .inl (cI, 45, .inl f)), (tn, .inl (cI, 45, .inl g)), (ln, .inl (cI, 8, .inl lf)), (mn, .inl (cI, 8, .inl sf)), (it, .inl (cI, 320, .inl tf))]) [0, 1, 2, 3, 4, 5] rfl
        have hD9 := hD.sub (ws' := [(md, .inr (6, [.int 0, .int sv, .ref ln, .ref mn, .ref it, .ref hs, vm_6, .ref tn, vm_8, vm_9, vm_10, vm_11, vm_12, vm_13, vm_14, vm_15, vm_16, vm_17, vm_18, vm_19, vm_20, vm_21, vm_22, vm_23])), (hs, .inl (cI, 45, .inl f)), (tn, .inl (cI, 45, .inl g)), (ln, .inl (cI, 8, .inl lf)), (mn, .inl (cI, 8, .inl sf)), (it, .inl (cI, 320, .inl tf))]) [0, 1, 2, 3, 4, 5] (by decide) rfl
        exact wt_iret hx hb hr hlocks hP9 hD9 hS ⟨g, sv, rfl⟩ dX6_who_56
      · skip
        obtain ⟨j_12, hj_12, rfl⟩ := wI_natT (T := R) (by omega) c_11
        refine lv_iload hx hb dX6_who_33 (lv_at hl 4 rfl) ?_
        refine wt_rS (As := [.int a4]) (rest := []) ⟨hx, hb, hml, hown, hts⟩ (c_X6_isRow l D cI cZ cH a4) (va_cwS 1 hts gX6_who_X6_isRow rfl rfl rfl (by decide +kernel) ⟨Nat.le_of_ble_eq_true rfl, Nat.le_of_ble_eq_true rfl⟩) hK hP [] rfl rfl hl.1 rfl (Nat.le_of_ble_eq_true rfl) dX6_who_35 ⟨Nat.le_of_ble_eq_true rfl, Nat.le_of_ble_eq_true rfl⟩ (fun r_13 e_14 => ?_)
        subst e_14
        refine lv_if_eq (tgt := 54) hx hb dX6_who_38 (by decide) (fun c_15 => ?_) (fun c_15 => ?_)
        · skip
          refine lv_ldc hx hb hown wc67 dX6_who_54 ?_
          have hP9 := hP.sub (ws' := [(md, .inr (6, [.int 0, .int sv, .ref ln, .ref mn, .ref it, .ref hs, vm_6, .ref tn, vm_8, vm_9, vm_10, vm_11, vm_12, vm_13, vm_14, vm_15, vm_16, vm_17, vm_18, vm_19, vm_20, vm_21, vm_22, vm_23])), (hs, .inl (cI, 45, .inl f)), (tn, .inl (cI, 45, .inl g)), (ln, .inl (cI, 8, .inl lf)), (mn, .inl (cI, 8, .inl sf)), (it, .inl (cI, 320, .inl tf))]) [0, 1, 2, 3, 4, 5] rfl
          have hD9 := hD.sub (ws' := [(md, .inr (6, [.int 0, .int sv, .ref ln, .ref mn, .ref it, .ref hs, vm_6, .ref tn, vm_8, vm_9, vm_10, vm_11, vm_12, vm_13, vm_14, vm_15, vm_16, vm_17, vm_18, vm_19, vm_20, vm_21, vm_22, vm_23])), (hs, .inl (cI, 45, .inl f)), (tn, .inl (cI, 45, .inl g)), (ln, .inl (cI, 8, .inl lf)), (mn, .inl (cI, 8, .inl sf)), (it, .inl (cI, 320, .inl tf))]) [0, 1, 2, 3, 4, 5] (by decide) rfl
          exact wt_iret hx hb hr hlocks hP9 hD9 hS ⟨g, sv, rfl⟩ dX6_who_56
        · skip
          obtain ⟨j_16, hj_16, hj_16b, rfl⟩ := wI_nat (a := 0) (b := 7) (by omega) (by omega) c_15
          refine lv_iload hx hb dX6_who_41 (lv_at hl 6 rfl) ?_
          refine lv_i2l hx hb dX6_who_43 rfl ?_
          refine lv_lconst (v := 1) hx hb dX6_who_44 (by decide) ?_
          refine lv_ldc2 hx hb hown wl265 dX6_who_45 ?_
          refine wt_rS (As := [.long a6.toInt64, .long 1, .long 12]) (rest := []) ⟨hx, hb, hml, hown, hts⟩ (c_X6_in l D cI cZ cH a6.toInt64 1 12) (va_cwS 3 hts gX6_who_X6_in rfl rfl rfl (by decide +kernel) ⟨Nat.le_of_ble_eq_true rfl, Nat.le_of_ble_eq_true rfl⟩) hK hP [] rfl rfl hl.1 rfl (Nat.le_of_ble_eq_true rfl) dX6_who_48 ⟨Nat.le_of_ble_eq_true rfl, Nat.le_of_ble_eq_true rfl⟩ (fun r_17 e_18 => ?_)
          subst e_18
          refine wt_top (z := wI a6 1 12) (wL_I' (by decide) (by decide)) ?_
          refine lv_if_ne (tgt := 57) hx hb dX6_who_51 (by decide) (fun c_19 => ?_) (fun c_19 => ?_)
          · skip
            obtain ⟨j_20, hj_20, hj_20b, rfl⟩ := wI_nat (a := 1) (b := 12) (by omega) (by omega) c_19
            refine lv_aload_n hx hb dX6_who_57 rfl (lv_at hl 0 rfl) ?_
            refine lv_iload hx hb dX6_who_58 (lv_at hl 4 rfl) ?_
            refine lv_iload hx hb dX6_who_60 (lv_at hl 5 rfl) ?_
            refine lv_iload hx hb dX6_who_62 (lv_at hl 6 rfl) ?_
            refine wt_goI (wr := [(hs, .inl (cI, 45, .inl f)), (tn, .inl (cI, 45, .inl g))]) (wt_runV (As := [.int (nI j_16), .int a5, .int (nI j_20)]) (rest := []) ⟨hx, hb, hml, hown, hts⟩ (c_X6_rowFound l D cI cZ cH md ln mn it lf sf tf j_16 j_20 sv a5 (.int 0) (.ref hs) vm_6 (.ref tn) vm_8 vm_9 vm_10 vm_11 vm_12 vm_13 vm_14 vm_15 vm_16 vm_17 vm_18 vm_19 vm_20 vm_21 vm_22 vm_23 (by first | assumption | omega) (by first | assumption | omega) (by first | assumption | omega)) (cwV 3 hts gX6_who_X6_rowFound rfl rfl rfl (by decide +kernel) ⟨Nat.le_of_ble_eq_true rfl, Nat.le_of_ble_eq_true rfl⟩) hK hP hD [0, 3, 4, 5] rfl (by decide) (va_recv hK.1 hP (ci := 6) (q0 := 0) rfl rfl) rfl hl.1 rfl (Nat.le_of_ble_eq_true rfl) dX6_who_64 ⟨Nat.le_of_ble_eq_true rfl, Nat.le_of_ble_eq_true rfl⟩) hP hD hS hA [0, 3, 4, 5] [1, 2] rfl rfl (by decide) (by decide) (fun r_21 w_22 H locs h_23 hP hD hS => ?_)
            obtain ⟨md_f1_24, rfl, x_25⟩ := h_23
            have hP : va_P D vwCl [(hs, .inl (cI, 45, .inl f)), (tn, .inl (cI, 45, .inl g)), (md, .inr (6, [.int 0, .int md_f1_24, .ref ln, .ref mn, .ref it, .ref hs, vm_6, .ref tn, vm_8, vm_9, vm_10, vm_11, vm_12, vm_13, vm_14, vm_15, vm_16, vm_17, vm_18, vm_19, vm_20, vm_21, vm_22, vm_23])), (ln, .inl (cI, 8, .inl lf)), (mn, .inl (cI, 8, .inl sf)), (it, .inl (cI, 320, .inl tf))] H := hP
            have hD : va_D A [(hs, .inl (cI, 45, .inl f)), (tn, .inl (cI, 45, .inl g)), (md, .inr (6, [.int 0, .int md_f1_24, .ref ln, .ref mn, .ref it, .ref hs, vm_6, .ref tn, vm_8, vm_9, vm_10, vm_11, vm_12, vm_13, vm_14, vm_15, vm_16, vm_17, vm_18, vm_19, vm_20, vm_21, vm_22, vm_23])), (ln, .inl (cI, 8, .inl lf)), (mn, .inl (cI, 8, .inl sf)), (it, .inl (cI, 320, .inl tf))] := hD
            refine lv_istore (lv' := [(7, .int r_21), (0, .ref md), (1, .int (nI j_4)), (2, .int (nI j_8)), (3, .int (nI j_12)), (4, .int (nI j_16)), (5, .int a5), (6, .int (nI j_20))]) hx hb dX6_who_67 hl (by decide) rfl (fun ls hl => ?_)
            refine lv_iload hx hb dX6_who_69 (lv_at hl 0 rfl) ?_
            refine lv_if_eq (tgt := 77) hx hb dX6_who_71 (by decide) (fun c_26 => ?_) (fun c_26 => ?_)
            · skip
              obtain ⟨i_27, e_28, h_29⟩ := x_25 c_26
              subst e_28
              rcases (show j_8 = 0 ∨ j_8 = 1 ∨ j_8 = 2 by omega) with hw0 | hw0 | hw0
              · skip
                subst hw0
                have hl : lv_has ls 11 [(7, .int r_21), (0, .ref md), (1, .int (nI j_4)), (2, .int 0), (3, .int (nI j_12)), (4, .int (nI j_16)), (5, .int (nI i_27)), (6, .int (nI j_20))] := hl
                refine lv_iconst (v := 0) hx hb dX6_who_77 (by decide) ?_
                refine lv_istore (lv' := [(8, .int 0), (7, .int r_21), (0, .ref md), (1, .int (nI j_4)), (2, .int 0), (3, .int (nI j_12)), (4, .int (nI j_16)), (5, .int (nI i_27)), (6, .int (nI j_20))]) hx hb dX6_who_78 hl (by decide) rfl (fun ls hl => ?_)
                refine lv_iload_n hx hb dX6_who_80 rfl (lv_at hl 4 rfl) ?_
                refine lv_if_ne (tgt := 88) hx hb dX6_who_81 (by decide) (fun h => absurd h (by decide)) (fun _ => ?_)
                refine lv_iconst (v := 0) hx hb dX6_who_84 (by decide) ?_
                refine lv_goto (tgt := 98) hx hb dX6_who_85 (by decide) ?_
                refine lv_istore (lv' := [(9, .int 0), (8, .int 0), (7, .int r_21), (0, .ref md), (1, .int (nI j_4)), (2, .int 0), (3, .int (nI j_12)), (4, .int (nI j_16)), (5, .int (nI i_27)), (6, .int (nI j_20))]) hx hb dX6_who_98 hl (by decide) rfl (fun ls hl => ?_)
                refine lv_iload_n hx hb dX6_who_100 rfl (lv_at hl 5 rfl) ?_
                refine lv_iconst (v := 2) hx hb dX6_who_101 (by decide) ?_
                refine lv_icmp_ne (tgt := 109) hx hb dX6_who_102 (by decide) (fun _ => ?_) (fun h => absurd h (by decide))
                refine lv_iconst (v := 1) hx hb dX6_who_109 (by decide) ?_
                refine lv_istore (lv' := [(10, .int 1), (9, .int 0), (8, .int 0), (7, .int r_21), (0, .ref md), (1, .int (nI j_4)), (2, .int 0), (3, .int (nI j_12)), (4, .int (nI j_16)), (5, .int (nI i_27)), (6, .int (nI j_20))]) hx hb dX6_who_110 hl (by decide) rfl (fun ls hl => ?_)
                have loop112 : ∀ (k i_30 : Nat) (g_31 : Nat → Int32) (y_32 : Int32) (H : Heap) (locs : List Loc) (ls : Array Slot), i_30 + k = 5 + 1 → va_P D vwCl [(hs, .inl (cI, 45, .inl f)), (tn, .inl (cI, 45, .inl g_31)), (md, .inr (6, [.int 0, .int md_f1_24, .ref ln, .ref mn, .ref it, .ref hs, vm_6, .ref tn, vm_8, vm_9, vm_10, vm_11, vm_12, vm_13, vm_14, vm_15, vm_16, vm_17, vm_18, vm_19, vm_20, vm_21, vm_22, vm_23])), (ln, .inl (cI, 8, .inl lf)), (mn, .inl (cI, 8, .inl sf)), (it, .inl (cI, 320, .inl tf))] H → va_D A [(hs, .inl (cI, 45, .inl f)), (tn, .inl (cI, 45, .inl g_31)), (md, .inr (6, [.int 0, .int md_f1_24, .ref ln, .ref mn, .ref it, .ref hs, vm_6, .ref tn, vm_8, vm_9, vm_10, vm_11, vm_12, vm_13, vm_14, vm_15, vm_16, vm_17, vm_18, vm_19, vm_20, vm_21, vm_22, vm_23])), (ln, .inl (cI, 8, .inl lf)), (mn, .inl (cI, 8, .inl sf)), (it, .inl (cI, 320, .inl tf))] → va_S A s.heap H locs → lv_has ls 11 [(10, .int (nI i_30)), (9, .int 0), (8, .int y_32), (7, .int r_21), (0, .ref md), (1, .int (nI j_4)), (2, .int 0), (3, .int (nI j_12)), (4, .int (nI j_16)), (5, .int (nI i_27)), (6, .int (nI j_20))] → W p l e ({ frames := 5, cells := 0, slots := 0, locals := 116 } : Room) s m ([.ref md, .int (nI j_4), .int (nI 0), .int (nI j_12), .int (nI j_16), .int (nI i_27), .int (nI j_20)] : List Value).toArray below meth c H locs 0 0 (MQ below (wt_QI D (fun r w => ∃ (g2 : Nat → Int32) (md_f1 : Int32), w = [(md, .inr (6, [.int 0, .int md_f1, .ref ln, .ref mn, .ref it, .ref hs, vm_6, .ref tn, vm_8, vm_9, vm_10, vm_11, vm_12, vm_13, vm_14, vm_15, vm_16, vm_17, vm_18, vm_19, vm_20, vm_21, vm_22, vm_23])), (hs, .inl (cI, 45, .inl f)), (tn, .inl (cI, 45, .inl g2)), (ln, .inl (cI, 8, .inl lf)), (mn, .inl (cI, 8, .inl sf)), (it, .inl (cI, 320, .inl tf))]) A) ([.ref md, .int (nI j_4), .int (nI 0), .int (nI j_12), .int (nI j_16), .int (nI i_27), .int (nI j_20)] : List Value).toArray s 0 0 A) (F0 m 112 ls []) := by
                  intro k
                  induction k with
                  | zero =>
                    intro i_30 g_31 y_32 H locs ls hik  hP hD hS hl
                    refine lv_iload hx hb dX6_who_112 (lv_at hl 0 rfl) ?_
                    refine lv_iload_n hx hb dX6_who_114 rfl (lv_at hl 6 rfl) ?_
                    refine lv_if_ne (tgt := 122) hx hb dX6_who_115 (by decide) (fun h => absurd h (by decide)) (fun _ => ?_)
                    refine lv_iconst (v := 5) hx hb dX6_who_118 (by decide) ?_
                    refine lv_goto (tgt := 138) hx hb dX6_who_119 (by decide) ?_
                    refine lv_icmp_gt (tgt := 194) hx hb dX6_who_138 (by decide) (fun _ => ?_) (fun h => absurd (nI_lt (a := 5) (b := i_30) (by omega) (by omega)) h)
                    refine lv_iload hx hb dX6_who_194 (lv_at hl 2 rfl) ?_
                    have hP9 := hP.sub (ws' := [(md, .inr (6, [.int 0, .int md_f1_24, .ref ln, .ref mn, .ref it, .ref hs, vm_6, .ref tn, vm_8, vm_9, vm_10, vm_11, vm_12, vm_13, vm_14, vm_15, vm_16, vm_17, vm_18, vm_19, vm_20, vm_21, vm_22, vm_23])), (hs, .inl (cI, 45, .inl f)), (tn, .inl (cI, 45, .inl g_31)), (ln, .inl (cI, 8, .inl lf)), (mn, .inl (cI, 8, .inl sf)), (it, .inl (cI, 320, .inl tf))]) [2, 0, 1, 3, 4, 5] rfl
                    have hD9 := hD.sub (ws' := [(md, .inr (6, [.int 0, .int md_f1_24, .ref ln, .ref mn, .ref it, .ref hs, vm_6, .ref tn, vm_8, vm_9, vm_10, vm_11, vm_12, vm_13, vm_14, vm_15, vm_16, vm_17, vm_18, vm_19, vm_20, vm_21, vm_22, vm_23])), (hs, .inl (cI, 45, .inl f)), (tn, .inl (cI, 45, .inl g_31)), (ln, .inl (cI, 8, .inl lf)), (mn, .inl (cI, 8, .inl sf)), (it, .inl (cI, 320, .inl tf))]) [2, 0, 1, 3, 4, 5] (by decide) rfl
                    exact wt_iret hx hb hr hlocks hP9 hD9 hS ⟨g_31, md_f1_24, rfl⟩ dX6_who_196
                  | succ k ih112 =>
                    intro i_30 g_31 y_32 H locs ls hik  hP hD hS hl
                    refine lv_iload hx hb dX6_who_112 (lv_at hl 0 rfl) ?_
                    refine lv_iload_n hx hb dX6_who_114 rfl (lv_at hl 6 rfl) ?_
                    refine lv_if_ne (tgt := 122) hx hb dX6_who_115 (by decide) (fun h => absurd h (by decide)) (fun _ => ?_)
                    refine lv_iconst (v := 5) hx hb dX6_who_118 (by decide) ?_
                    refine lv_goto (tgt := 138) hx hb dX6_who_119 (by decide) ?_
                    refine lv_icmp_gt (tgt := 194) hx hb dX6_who_138 (by decide) (fun h => absurd h (nI_nlt (a := 5) (b := i_30) (by omega) (by omega))) (fun _ => ?_)
                    refine lv_aload_n hx hb dX6_who_141 rfl (lv_at hl 4 rfl) ?_
                    refine wt_goV (wr := [(ln, .inl (cI, 8, .inl lf)), (mn, .inl (cI, 8, .inl sf)), (it, .inl (cI, 320, .inl tf))]) (wt_runV (As := []) (rest := []) ⟨hx, hb, hml, hown, hts⟩ (c_X6_layThen l D cI cZ cH md hs R T f tn g_31 (.int 0) (.int md_f1_24) (.ref ln) (.ref mn) (.ref it) vm_6 vm_8 vm_9 vm_10 vm_11 vm_12 vm_13 vm_14 vm_15 vm_16 vm_17 vm_18 vm_19 vm_20 vm_21 vm_22 vm_23 (by first | assumption | omega) (by first | assumption | omega) (by first | assumption | omega)) (cwV 0 hts gX6_who_X6_layThen rfl rfl rfl (by decide +kernel) ⟨Nat.le_of_ble_eq_true rfl, Nat.le_of_ble_eq_true rfl⟩) hK hP hD [2, 0, 1] rfl (by decide) (va_recv hK.1 hP (ci := 6) (q0 := 2) rfl rfl) rfl hl.1 rfl (Nat.le_of_ble_eq_true rfl) dX6_who_142 ⟨Nat.le_of_ble_eq_true rfl, Nat.le_of_ble_eq_true rfl⟩) hP hD hS hA [2, 0, 1] [3, 4, 5] rfl rfl (by decide) (by decide) (fun w_34 H locs h_35 hP hD hS => ?_)
                    obtain ⟨g2_36, rfl, x_37⟩ := h_35
                    have hP : va_P D vwCl [(ln, .inl (cI, 8, .inl lf)), (mn, .inl (cI, 8, .inl sf)), (it, .inl (cI, 320, .inl tf)), (md, .inr (6, [.int 0, .int md_f1_24, .ref ln, .ref mn, .ref it, .ref hs, vm_6, .ref tn, vm_8, vm_9, vm_10, vm_11, vm_12, vm_13, vm_14, vm_15, vm_16, vm_17, vm_18, vm_19, vm_20, vm_21, vm_22, vm_23])), (hs, .inl (cI, 45, .inl f)), (tn, .inl (cI, 45, .inl g2_36))] H := hP
                    have hD : va_D A [(ln, .inl (cI, 8, .inl lf)), (mn, .inl (cI, 8, .inl sf)), (it, .inl (cI, 320, .inl tf)), (md, .inr (6, [.int 0, .int md_f1_24, .ref ln, .ref mn, .ref it, .ref hs, vm_6, .ref tn, vm_8, vm_9, vm_10, vm_11, vm_12, vm_13, vm_14, vm_15, vm_16, vm_17, vm_18, vm_19, vm_20, vm_21, vm_22, vm_23])), (hs, .inl (cI, 45, .inl f)), (tn, .inl (cI, 45, .inl g2_36))] := hD
                    refine lv_aload_n hx hb dX6_who_145 rfl (lv_at hl 4 rfl) ?_
                    refine va_get (D := D) (ci := 6) (v := .ref tn) (C := RX6) (T := TX6) (N := 24) hx hb hts hi6 hown hK.1 hP 3 rfl rfl 7 (by decide) wf25 (fun _ h9 => h9) rfl dX6_who_146 ?_
                    refine lv_iload_n hx hb dX6_who_149 rfl (lv_at hl 5 rfl) ?_
                    refine lv_iload hx hb dX6_who_150 (lv_at hl 1 rfl) ?_
                    refine lv_iload hx hb dX6_who_152 (lv_at hl 0 rfl) ?_
                    refine wt_goV (wr := [(ln, .inl (cI, 8, .inl lf)), (mn, .inl (cI, 8, .inl sf)), (it, .inl (cI, 320, .inl tf)), (md, .inr (6, [.int 0, .int md_f1_24, .ref ln, .ref mn, .ref it, .ref hs, vm_6, .ref tn, vm_8, vm_9, vm_10, vm_11, vm_12, vm_13, vm_14, vm_15, vm_16, vm_17, vm_18, vm_19, vm_20, vm_21, vm_22, vm_23])), (hs, .inl (cI, 45, .inl f))]) (wt_runS (As := [.ref tn, .int (nI j_4), .int 0, .int (nI i_30)]) (rest := []) ⟨hx, hb, hml, hown, hts⟩ (c_X6_be_w l D cI cZ cH tn R T g2_36 j_4 0 (nI i_30) (by first | assumption | omega) (by first | assumption | omega) (by first | assumption | omega) (by first | assumption | omega) (by first | assumption | omega)) (va_cwS 4 hts gX6_who_X6_be rfl rfl rfl (by decide +kernel) ⟨Nat.le_of_ble_eq_true rfl, Nat.le_of_ble_eq_true rfl⟩) hK hP hD [5] rfl (by decide) rfl hl.1 rfl (Nat.le_of_ble_eq_true rfl) dX6_who_154 ⟨Nat.le_of_ble_eq_true rfl, Nat.le_of_ble_eq_true rfl⟩) hP hD hS hA [5] [0, 1, 2, 3, 4] rfl rfl (by decide) (by decide) (fun w_39 H locs h_40 hP hD hS => ?_)
                    obtain ⟨f2_41, rfl, x_42⟩ := h_40
                    have hP : va_P D vwCl [(ln, .inl (cI, 8, .inl lf)), (mn, .inl (cI, 8, .inl sf)), (it, .inl (cI, 320, .inl tf)), (md, .inr (6, [.int 0, .int md_f1_24, .ref ln, .ref mn, .ref it, .ref hs, vm_6, .ref tn, vm_8, vm_9, vm_10, vm_11, vm_12, vm_13, vm_14, vm_15, vm_16, vm_17, vm_18, vm_19, vm_20, vm_21, vm_22, vm_23])), (hs, .inl (cI, 45, .inl f)), (tn, .inl (cI, 45, .inl f2_41))] H := hP
                    have hD : va_D A [(ln, .inl (cI, 8, .inl lf)), (mn, .inl (cI, 8, .inl sf)), (it, .inl (cI, 320, .inl tf)), (md, .inr (6, [.int 0, .int md_f1_24, .ref ln, .ref mn, .ref it, .ref hs, vm_6, .ref tn, vm_8, vm_9, vm_10, vm_11, vm_12, vm_13, vm_14, vm_15, vm_16, vm_17, vm_18, vm_19, vm_20, vm_21, vm_22, vm_23])), (hs, .inl (cI, 45, .inl f)), (tn, .inl (cI, 45, .inl f2_41))] := hD
                    refine lv_iload hx hb dX6_who_157 (lv_at hl 2 rfl) ?_
                    refine lv_aload_n hx hb dX6_who_159 rfl (lv_at hl 4 rfl) ?_
                    refine lv_iload_n hx hb dX6_who_160 rfl (lv_at hl 7 rfl) ?_
                    refine lv_bipush (v := 40) hx hb dX6_who_161 (by decide) ?_
                    refine lv_iload hx hb dX6_who_163 (lv_at hl 8 rfl) ?_
                    refine lv_imul hx hb dX6_who_165 ?_
                    refine wt_top (z := nI (40 * j_16)) (pk_mul 40 j_16) ?_
                    refine lv_iload hx hb dX6_who_166 (lv_at hl 9 rfl) ?_
                    refine lv_iadd hx hb dX6_who_168 ?_
                    refine wt_top (z := nI ((40 * j_16) + i_27)) (nI_add (40 * j_16) i_27) ?_
                    refine lv_iload hx hb dX6_who_169 (lv_at hl 10 rfl) ?_
                    refine wt_goI (wr := [(ln, .inl (cI, 8, .inl lf)), (mn, .inl (cI, 8, .inl sf)), (hs, .inl (cI, 45, .inl f))]) (wt_runV (As := [.int (nI j_12), .int (nI ((40 * j_16) + i_27)), .int (nI j_20)]) (rest := [.int y_32]) ⟨hx, hb, hml, hown, hts⟩ (c_X6_warmSo l D cI cZ cH md tn it R T j_12 ((40 * j_16) + i_27) j_20 f2_41 tf (.int 0) (.int md_f1_24) (.ref ln) (.ref mn) (.ref hs) vm_6 vm_8 vm_9 vm_10 vm_11 vm_12 vm_13 vm_14 vm_15 vm_16 vm_17 vm_18 vm_19 vm_20 vm_21 vm_22 vm_23 (by first | assumption | omega) (by first | assumption | omega) (by first | assumption | omega) (by first | assumption | omega) (by first | assumption | omega) (by first | assumption | omega)) (cwV 3 hts gX6_who_X6_warmSo rfl rfl rfl (by decide +kernel) ⟨Nat.le_of_ble_eq_true rfl, Nat.le_of_ble_eq_true rfl⟩) hK hP hD [3, 5, 2] rfl (by decide) (va_recv hK.1 hP (ci := 6) (q0 := 3) rfl rfl) rfl hl.1 rfl (Nat.le_of_ble_eq_true rfl) dX6_who_171 ⟨Nat.le_of_ble_eq_true rfl, Nat.le_of_ble_eq_true rfl⟩) hP hD hS hA [3, 5, 2] [0, 1, 4] rfl rfl (by decide) (by decide) (fun r_43 w_44 H locs h_45 hP hD hS => ?_)
                    obtain ⟨g2_46, rfl⟩ := h_45
                    have hP : va_P D vwCl [(ln, .inl (cI, 8, .inl lf)), (mn, .inl (cI, 8, .inl sf)), (hs, .inl (cI, 45, .inl f)), (md, .inr (6, [.int 0, .int md_f1_24, .ref ln, .ref mn, .ref it, .ref hs, vm_6, .ref tn, vm_8, vm_9, vm_10, vm_11, vm_12, vm_13, vm_14, vm_15, vm_16, vm_17, vm_18, vm_19, vm_20, vm_21, vm_22, vm_23])), (tn, .inl (cI, 45, .inl g2_46)), (it, .inl (cI, 320, .inl tf))] H := hP
                    have hD : va_D A [(ln, .inl (cI, 8, .inl lf)), (mn, .inl (cI, 8, .inl sf)), (hs, .inl (cI, 45, .inl f)), (md, .inr (6, [.int 0, .int md_f1_24, .ref ln, .ref mn, .ref it, .ref hs, vm_6, .ref tn, vm_8, vm_9, vm_10, vm_11, vm_12, vm_13, vm_14, vm_15, vm_16, vm_17, vm_18, vm_19, vm_20, vm_21, vm_22, vm_23])), (tn, .inl (cI, 45, .inl g2_46)), (it, .inl (cI, 320, .inl tf))] := hD
                    refine lv_if_eq (tgt := 184) hx hb dX6_who_174 (by decide) (fun c_47 => ?_) (fun c_47 => ?_)
                    · skip
                      refine lv_iconst (v := 0) hx hb dX6_who_184 (by decide) ?_
                      refine lv_ior hx hb dX6_who_185 ?_
                      refine lv_topi (fun ov_48 _ => ?_)
                      refine lv_istore (lv' := [(8, .int ov_48), (10, .int (nI i_30)), (9, .int 0), (7, .int r_21), (0, .ref md), (1, .int (nI j_4)), (2, .int 0), (3, .int (nI j_12)), (4, .int (nI j_16)), (5, .int (nI i_27)), (6, .int (nI j_20))]) hx hb dX6_who_186 hl (by decide) rfl (fun ls hl => ?_)
                      refine lv_iinc (v := nI (i_30 + 1)) (lv' := [(10, .int (nI (i_30 + 1))), (8, .int ov_48), (9, .int 0), (7, .int r_21), (0, .ref md), (1, .int (nI j_4)), (2, .int 0), (3, .int (nI j_12)), (4, .int (nI j_16)), (5, .int (nI i_27)), (6, .int (nI j_20))]) hx hb dX6_who_188 hl (k := 1) rfl (nI_add i_30 1) (by decide) rfl (fun ls hl => ?_)
                      refine lv_goto (tgt := 112) hx hb dX6_who_191 (by decide) ?_
                      exact ih112 ((i_30 + 1)) g2_46 ov_48 H locs ls (by omega)  (hP.sub [2, 4, 3, 0, 1, 5] rfl) (hD.sub [2, 4, 3, 0, 1, 5] (by decide) rfl) hS (lv_sub hl [0, 2, 1, 3, 4, 5, 6, 7, 8, 9, 10] rfl)
                    · skip
                      refine lv_iconst (v := 1) hx hb dX6_who_177 (by decide) ?_
                      refine lv_iload hx hb dX6_who_178 (lv_at hl 0 rfl) ?_
                      refine lv_ishl hx hb dX6_who_180 ?_
                      refine wt_top (z := nI (2 ^ i_30)) (wt_shl1 (by omega)) ?_
                      refine lv_goto (tgt := 185) hx hb dX6_who_181 (by decide) ?_
                      refine lv_ior hx hb dX6_who_185 ?_
                      refine lv_topi (fun ov_49 _ => ?_)
                      refine lv_istore (lv' := [(8, .int ov_49), (10, .int (nI i_30)), (9, .int 0), (7, .int r_21), (0, .ref md), (1, .int (nI j_4)), (2, .int 0), (3, .int (nI j_12)), (4, .int (nI j_16)), (5, .int (nI i_27)), (6, .int (nI j_20))]) hx hb dX6_who_186 hl (by decide) rfl (fun ls hl => ?_)
                      refine lv_iinc (v := nI (i_30 + 1)) (lv' := [(10, .int (nI (i_30 + 1))), (8, .int ov_49), (9, .int 0), (7, .int r_21), (0, .ref md), (1, .int (nI j_4)), (2, .int 0), (3, .int (nI j_12)), (4, .int (nI j_16)), (5, .int (nI i_27)), (6, .int (nI j_20))]) hx hb dX6_who_188 hl (k := 1) rfl (nI_add i_30 1) (by decide) rfl (fun ls hl => ?_)
                      refine lv_goto (tgt := 112) hx hb dX6_who_191 (by decide) ?_
                      exact ih112 ((i_30 + 1)) g2_46 ov_49 H locs ls (by omega)  (hP.sub [2, 4, 3, 0, 1, 5] rfl) (hD.sub [2, 4, 3, 0, 1, 5] (by decide) rfl) hS (lv_sub hl [0, 2, 1, 3, 4, 5, 6, 7, 8, 9, 10] rfl)
                exact loop112 ((5 + 1) - 1) (1) g 0 _ _ ls (by omega)  hP hD hS hl
              · skip
                subst hw0
                have hl : lv_has ls 11 [(7, .int r_21), (0, .ref md), (1, .int (nI j_4)), (2, .int 1), (3, .int (nI j_12)), (4, .int (nI j_16)), (5, .int (nI i_27)), (6, .int (nI j_20))] := hl
                refine lv_iconst (v := 0) hx hb dX6_who_77 (by decide) ?_
                refine lv_istore (lv' := [(8, .int 0), (7, .int r_21), (0, .ref md), (1, .int (nI j_4)), (2, .int 1), (3, .int (nI j_12)), (4, .int (nI j_16)), (5, .int (nI i_27)), (6, .int (nI j_20))]) hx hb dX6_who_78 hl (by decide) rfl (fun ls hl => ?_)
                refine lv_iload_n hx hb dX6_who_80 rfl (lv_at hl 4 rfl) ?_
                refine lv_if_ne (tgt := 88) hx hb dX6_who_81 (by decide) (fun _ => ?_) (fun h => absurd h (by decide))
                refine lv_iload_n hx hb dX6_who_88 rfl (lv_at hl 4 rfl) ?_
                refine lv_iconst (v := 1) hx hb dX6_who_89 (by decide) ?_
                refine lv_icmp_ne (tgt := 97) hx hb dX6_who_90 (by decide) (fun h => absurd h (by decide)) (fun _ => ?_)
                refine lv_iconst (v := 2) hx hb dX6_who_93 (by decide) ?_
                refine lv_goto (tgt := 98) hx hb dX6_who_94 (by decide) ?_
                refine lv_istore (lv' := [(9, .int 2), (8, .int 0), (7, .int r_21), (0, .ref md), (1, .int (nI j_4)), (2, .int 1), (3, .int (nI j_12)), (4, .int (nI j_16)), (5, .int (nI i_27)), (6, .int (nI j_20))]) hx hb dX6_who_98 hl (by decide) rfl (fun ls hl => ?_)
                refine lv_iload_n hx hb dX6_who_100 rfl (lv_at hl 5 rfl) ?_
                refine lv_iconst (v := 2) hx hb dX6_who_101 (by decide) ?_
                refine lv_icmp_ne (tgt := 109) hx hb dX6_who_102 (by decide) (fun _ => ?_) (fun h => absurd h (by decide))
                refine lv_iconst (v := 1) hx hb dX6_who_109 (by decide) ?_
                refine lv_istore (lv' := [(10, .int 1), (9, .int 2), (8, .int 0), (7, .int r_21), (0, .ref md), (1, .int (nI j_4)), (2, .int 1), (3, .int (nI j_12)), (4, .int (nI j_16)), (5, .int (nI i_27)), (6, .int (nI j_20))]) hx hb dX6_who_110 hl (by decide) rfl (fun ls hl => ?_)
                have loop112 : ∀ (k i_50 : Nat) (g_51 : Nat → Int32) (y_52 : Int32) (H : Heap) (locs : List Loc) (ls : Array Slot), i_50 + k = 9 + 1 → va_P D vwCl [(hs, .inl (cI, 45, .inl f)), (tn, .inl (cI, 45, .inl g_51)), (md, .inr (6, [.int 0, .int md_f1_24, .ref ln, .ref mn, .ref it, .ref hs, vm_6, .ref tn, vm_8, vm_9, vm_10, vm_11, vm_12, vm_13, vm_14, vm_15, vm_16, vm_17, vm_18, vm_19, vm_20, vm_21, vm_22, vm_23])), (ln, .inl (cI, 8, .inl lf)), (mn, .inl (cI, 8, .inl sf)), (it, .inl (cI, 320, .inl tf))] H → va_D A [(hs, .inl (cI, 45, .inl f)), (tn, .inl (cI, 45, .inl g_51)), (md, .inr (6, [.int 0, .int md_f1_24, .ref ln, .ref mn, .ref it, .ref hs, vm_6, .ref tn, vm_8, vm_9, vm_10, vm_11, vm_12, vm_13, vm_14, vm_15, vm_16, vm_17, vm_18, vm_19, vm_20, vm_21, vm_22, vm_23])), (ln, .inl (cI, 8, .inl lf)), (mn, .inl (cI, 8, .inl sf)), (it, .inl (cI, 320, .inl tf))] → va_S A s.heap H locs → lv_has ls 11 [(10, .int (nI i_50)), (9, .int 2), (8, .int y_52), (7, .int r_21), (0, .ref md), (1, .int (nI j_4)), (2, .int 1), (3, .int (nI j_12)), (4, .int (nI j_16)), (5, .int (nI i_27)), (6, .int (nI j_20))] → W p l e ({ frames := 5, cells := 0, slots := 0, locals := 116 } : Room) s m ([.ref md, .int (nI j_4), .int (nI 1), .int (nI j_12), .int (nI j_16), .int (nI i_27), .int (nI j_20)] : List Value).toArray below meth c H locs 0 0 (MQ below (wt_QI D (fun r w => ∃ (g2 : Nat → Int32) (md_f1 : Int32), w = [(md, .inr (6, [.int 0, .int md_f1, .ref ln, .ref mn, .ref it, .ref hs, vm_6, .ref tn, vm_8, vm_9, vm_10, vm_11, vm_12, vm_13, vm_14, vm_15, vm_16, vm_17, vm_18, vm_19, vm_20, vm_21, vm_22, vm_23])), (hs, .inl (cI, 45, .inl f)), (tn, .inl (cI, 45, .inl g2)), (ln, .inl (cI, 8, .inl lf)), (mn, .inl (cI, 8, .inl sf)), (it, .inl (cI, 320, .inl tf))]) A) ([.ref md, .int (nI j_4), .int (nI 1), .int (nI j_12), .int (nI j_16), .int (nI i_27), .int (nI j_20)] : List Value).toArray s 0 0 A) (F0 m 112 ls []) := by
                  intro k
                  induction k with
                  | zero =>
                    intro i_50 g_51 y_52 H locs ls hik  hP hD hS hl
                    refine lv_iload hx hb dX6_who_112 (lv_at hl 0 rfl) ?_
                    refine lv_iload_n hx hb dX6_who_114 rfl (lv_at hl 6 rfl) ?_
                    refine lv_if_ne (tgt := 122) hx hb dX6_who_115 (by decide) (fun _ => ?_) (fun h => absurd h (by decide))
                    refine lv_iload_n hx hb dX6_who_122 rfl (lv_at hl 6 rfl) ?_
                    refine lv_iconst (v := 1) hx hb dX6_who_123 (by decide) ?_
                    refine lv_icmp_ne (tgt := 132) hx hb dX6_who_124 (by decide) (fun h => absurd h (by decide)) (fun _ => ?_)
                    refine lv_bipush (v := 9) hx hb dX6_who_127 (by decide) ?_
                    refine lv_goto (tgt := 138) hx hb dX6_who_129 (by decide) ?_
                    refine lv_icmp_gt (tgt := 194) hx hb dX6_who_138 (by decide) (fun _ => ?_) (fun h => absurd (nI_lt (a := 9) (b := i_50) (by omega) (by omega)) h)
                    refine lv_iload hx hb dX6_who_194 (lv_at hl 2 rfl) ?_
                    have hP9 := hP.sub (ws' := [(md, .inr (6, [.int 0, .int md_f1_24, .ref ln, .ref mn, .ref it, .ref hs, vm_6, .ref tn, vm_8, vm_9, vm_10, vm_11, vm_12, vm_13, vm_14, vm_15, vm_16, vm_17, vm_18, vm_19, vm_20, vm_21, vm_22, vm_23])), (hs, .inl (cI, 45, .inl f)), (tn, .inl (cI, 45, .inl g_51)), (ln, .inl (cI, 8, .inl lf)), (mn, .inl (cI, 8, .inl sf)), (it, .inl (cI, 320, .inl tf))]) [2, 0, 1, 3, 4, 5] rfl
                    have hD9 := hD.sub (ws' := [(md, .inr (6, [.int 0, .int md_f1_24, .ref ln, .ref mn, .ref it, .ref hs, vm_6, .ref tn, vm_8, vm_9, vm_10, vm_11, vm_12, vm_13, vm_14, vm_15, vm_16, vm_17, vm_18, vm_19, vm_20, vm_21, vm_22, vm_23])), (hs, .inl (cI, 45, .inl f)), (tn, .inl (cI, 45, .inl g_51)), (ln, .inl (cI, 8, .inl lf)), (mn, .inl (cI, 8, .inl sf)), (it, .inl (cI, 320, .inl tf))]) [2, 0, 1, 3, 4, 5] (by decide) rfl
                    exact wt_iret hx hb hr hlocks hP9 hD9 hS ⟨g_51, md_f1_24, rfl⟩ dX6_who_196
                  | succ k ih112 =>
                    intro i_50 g_51 y_52 H locs ls hik  hP hD hS hl
                    refine lv_iload hx hb dX6_who_112 (lv_at hl 0 rfl) ?_
                    refine lv_iload_n hx hb dX6_who_114 rfl (lv_at hl 6 rfl) ?_
                    refine lv_if_ne (tgt := 122) hx hb dX6_who_115 (by decide) (fun _ => ?_) (fun h => absurd h (by decide))
                    refine lv_iload_n hx hb dX6_who_122 rfl (lv_at hl 6 rfl) ?_
                    refine lv_iconst (v := 1) hx hb dX6_who_123 (by decide) ?_
                    refine lv_icmp_ne (tgt := 132) hx hb dX6_who_124 (by decide) (fun h => absurd h (by decide)) (fun _ => ?_)
                    refine lv_bipush (v := 9) hx hb dX6_who_127 (by decide) ?_
                    refine lv_goto (tgt := 138) hx hb dX6_who_129 (by decide) ?_
                    refine lv_icmp_gt (tgt := 194) hx hb dX6_who_138 (by decide) (fun h => absurd h (nI_nlt (a := 9) (b := i_50) (by omega) (by omega))) (fun _ => ?_)
                    refine lv_aload_n hx hb dX6_who_141 rfl (lv_at hl 4 rfl) ?_
                    refine wt_goV (wr := [(ln, .inl (cI, 8, .inl lf)), (mn, .inl (cI, 8, .inl sf)), (it, .inl (cI, 320, .inl tf))]) (wt_runV (As := []) (rest := []) ⟨hx, hb, hml, hown, hts⟩ (c_X6_layThen l D cI cZ cH md hs R T f tn g_51 (.int 0) (.int md_f1_24) (.ref ln) (.ref mn) (.ref it) vm_6 vm_8 vm_9 vm_10 vm_11 vm_12 vm_13 vm_14 vm_15 vm_16 vm_17 vm_18 vm_19 vm_20 vm_21 vm_22 vm_23 (by first | assumption | omega) (by first | assumption | omega) (by first | assumption | omega)) (cwV 0 hts gX6_who_X6_layThen rfl rfl rfl (by decide +kernel) ⟨Nat.le_of_ble_eq_true rfl, Nat.le_of_ble_eq_true rfl⟩) hK hP hD [2, 0, 1] rfl (by decide) (va_recv hK.1 hP (ci := 6) (q0 := 2) rfl rfl) rfl hl.1 rfl (Nat.le_of_ble_eq_true rfl) dX6_who_142 ⟨Nat.le_of_ble_eq_true rfl, Nat.le_of_ble_eq_true rfl⟩) hP hD hS hA [2, 0, 1] [3, 4, 5] rfl rfl (by decide) (by decide) (fun w_54 H locs h_55 hP hD hS => ?_)
                    obtain ⟨g2_56, rfl, x_57⟩ := h_55
                    have hP : va_P D vwCl [(ln, .inl (cI, 8, .inl lf)), (mn, .inl (cI, 8, .inl sf)), (it, .inl (cI, 320, .inl tf)), (md, .inr (6, [.int 0, .int md_f1_24, .ref ln, .ref mn, .ref it, .ref hs, vm_6, .ref tn, vm_8, vm_9, vm_10, vm_11, vm_12, vm_13, vm_14, vm_15, vm_16, vm_17, vm_18, vm_19, vm_20, vm_21, vm_22, vm_23])), (hs, .inl (cI, 45, .inl f)), (tn, .inl (cI, 45, .inl g2_56))] H := hP
                    have hD : va_D A [(ln, .inl (cI, 8, .inl lf)), (mn, .inl (cI, 8, .inl sf)), (it, .inl (cI, 320, .inl tf)), (md, .inr (6, [.int 0, .int md_f1_24, .ref ln, .ref mn, .ref it, .ref hs, vm_6, .ref tn, vm_8, vm_9, vm_10, vm_11, vm_12, vm_13, vm_14, vm_15, vm_16, vm_17, vm_18, vm_19, vm_20, vm_21, vm_22, vm_23])), (hs, .inl (cI, 45, .inl f)), (tn, .inl (cI, 45, .inl g2_56))] := hD
                    refine lv_aload_n hx hb dX6_who_145 rfl (lv_at hl 4 rfl) ?_
                    refine va_get (D := D) (ci := 6) (v := .ref tn) (C := RX6) (T := TX6) (N := 24) hx hb hts hi6 hown hK.1 hP 3 rfl rfl 7 (by decide) wf25 (fun _ h9 => h9) rfl dX6_who_146 ?_
                    refine lv_iload_n hx hb dX6_who_149 rfl (lv_at hl 5 rfl) ?_
                    refine lv_iload hx hb dX6_who_150 (lv_at hl 1 rfl) ?_
                    refine lv_iload hx hb dX6_who_152 (lv_at hl 0 rfl) ?_
                    refine wt_goV (wr := [(ln, .inl (cI, 8, .inl lf)), (mn, .inl (cI, 8, .inl sf)), (it, .inl (cI, 320, .inl tf)), (md, .inr (6, [.int 0, .int md_f1_24, .ref ln, .ref mn, .ref it, .ref hs, vm_6, .ref tn, vm_8, vm_9, vm_10, vm_11, vm_12, vm_13, vm_14, vm_15, vm_16, vm_17, vm_18, vm_19, vm_20, vm_21, vm_22, vm_23])), (hs, .inl (cI, 45, .inl f))]) (wt_runS (As := [.ref tn, .int (nI j_4), .int 2, .int (nI i_50)]) (rest := []) ⟨hx, hb, hml, hown, hts⟩ (c_X6_be_w l D cI cZ cH tn R T g2_56 j_4 2 (nI i_50) (by first | assumption | omega) (by first | assumption | omega) (by first | assumption | omega) (by first | assumption | omega) (by first | assumption | omega)) (va_cwS 4 hts gX6_who_X6_be rfl rfl rfl (by decide +kernel) ⟨Nat.le_of_ble_eq_true rfl, Nat.le_of_ble_eq_true rfl⟩) hK hP hD [5] rfl (by decide) rfl hl.1 rfl (Nat.le_of_ble_eq_true rfl) dX6_who_154 ⟨Nat.le_of_ble_eq_true rfl, Nat.le_of_ble_eq_true rfl⟩) hP hD hS hA [5] [0, 1, 2, 3, 4] rfl rfl (by decide) (by decide) (fun w_59 H locs h_60 hP hD hS => ?_)
                    obtain ⟨f2_61, rfl, x_62⟩ := h_60
                    have hP : va_P D vwCl [(ln, .inl (cI, 8, .inl lf)), (mn, .inl (cI, 8, .inl sf)), (it, .inl (cI, 320, .inl tf)), (md, .inr (6, [.int 0, .int md_f1_24, .ref ln, .ref mn, .ref it, .ref hs, vm_6, .ref tn, vm_8, vm_9, vm_10, vm_11, vm_12, vm_13, vm_14, vm_15, vm_16, vm_17, vm_18, vm_19, vm_20, vm_21, vm_22, vm_23])), (hs, .inl (cI, 45, .inl f)), (tn, .inl (cI, 45, .inl f2_61))] H := hP
                    have hD : va_D A [(ln, .inl (cI, 8, .inl lf)), (mn, .inl (cI, 8, .inl sf)), (it, .inl (cI, 320, .inl tf)), (md, .inr (6, [.int 0, .int md_f1_24, .ref ln, .ref mn, .ref it, .ref hs, vm_6, .ref tn, vm_8, vm_9, vm_10, vm_11, vm_12, vm_13, vm_14, vm_15, vm_16, vm_17, vm_18, vm_19, vm_20, vm_21, vm_22, vm_23])), (hs, .inl (cI, 45, .inl f)), (tn, .inl (cI, 45, .inl f2_61))] := hD
                    refine lv_iload hx hb dX6_who_157 (lv_at hl 2 rfl) ?_
                    refine lv_aload_n hx hb dX6_who_159 rfl (lv_at hl 4 rfl) ?_
                    refine lv_iload_n hx hb dX6_who_160 rfl (lv_at hl 7 rfl) ?_
                    refine lv_bipush (v := 40) hx hb dX6_who_161 (by decide) ?_
                    refine lv_iload hx hb dX6_who_163 (lv_at hl 8 rfl) ?_
                    refine lv_imul hx hb dX6_who_165 ?_
                    refine wt_top (z := nI (40 * j_16)) (pk_mul 40 j_16) ?_
                    refine lv_iload hx hb dX6_who_166 (lv_at hl 9 rfl) ?_
                    refine lv_iadd hx hb dX6_who_168 ?_
                    refine wt_top (z := nI ((40 * j_16) + i_27)) (nI_add (40 * j_16) i_27) ?_
                    refine lv_iload hx hb dX6_who_169 (lv_at hl 10 rfl) ?_
                    refine wt_goI (wr := [(ln, .inl (cI, 8, .inl lf)), (mn, .inl (cI, 8, .inl sf)), (hs, .inl (cI, 45, .inl f))]) (wt_runV (As := [.int (nI j_12), .int (nI ((40 * j_16) + i_27)), .int (nI j_20)]) (rest := [.int y_52]) ⟨hx, hb, hml, hown, hts⟩ (c_X6_warmSo l D cI cZ cH md tn it R T j_12 ((40 * j_16) + i_27) j_20 f2_61 tf (.int 0) (.int md_f1_24) (.ref ln) (.ref mn) (.ref hs) vm_6 vm_8 vm_9 vm_10 vm_11 vm_12 vm_13 vm_14 vm_15 vm_16 vm_17 vm_18 vm_19 vm_20 vm_21 vm_22 vm_23 (by first | assumption | omega) (by first | assumption | omega) (by first | assumption | omega) (by first | assumption | omega) (by first | assumption | omega) (by first | assumption | omega)) (cwV 3 hts gX6_who_X6_warmSo rfl rfl rfl (by decide +kernel) ⟨Nat.le_of_ble_eq_true rfl, Nat.le_of_ble_eq_true rfl⟩) hK hP hD [3, 5, 2] rfl (by decide) (va_recv hK.1 hP (ci := 6) (q0 := 3) rfl rfl) rfl hl.1 rfl (Nat.le_of_ble_eq_true rfl) dX6_who_171 ⟨Nat.le_of_ble_eq_true rfl, Nat.le_of_ble_eq_true rfl⟩) hP hD hS hA [3, 5, 2] [0, 1, 4] rfl rfl (by decide) (by decide) (fun r_63 w_64 H locs h_65 hP hD hS => ?_)
                    obtain ⟨g2_66, rfl⟩ := h_65
                    have hP : va_P D vwCl [(ln, .inl (cI, 8, .inl lf)), (mn, .inl (cI, 8, .inl sf)), (hs, .inl (cI, 45, .inl f)), (md, .inr (6, [.int 0, .int md_f1_24, .ref ln, .ref mn, .ref it, .ref hs, vm_6, .ref tn, vm_8, vm_9, vm_10, vm_11, vm_12, vm_13, vm_14, vm_15, vm_16, vm_17, vm_18, vm_19, vm_20, vm_21, vm_22, vm_23])), (tn, .inl (cI, 45, .inl g2_66)), (it, .inl (cI, 320, .inl tf))] H := hP
                    have hD : va_D A [(ln, .inl (cI, 8, .inl lf)), (mn, .inl (cI, 8, .inl sf)), (hs, .inl (cI, 45, .inl f)), (md, .inr (6, [.int 0, .int md_f1_24, .ref ln, .ref mn, .ref it, .ref hs, vm_6, .ref tn, vm_8, vm_9, vm_10, vm_11, vm_12, vm_13, vm_14, vm_15, vm_16, vm_17, vm_18, vm_19, vm_20, vm_21, vm_22, vm_23])), (tn, .inl (cI, 45, .inl g2_66)), (it, .inl (cI, 320, .inl tf))] := hD
                    refine lv_if_eq (tgt := 184) hx hb dX6_who_174 (by decide) (fun c_67 => ?_) (fun c_67 => ?_)
                    · skip
                      refine lv_iconst (v := 0) hx hb dX6_who_184 (by decide) ?_
                      refine lv_ior hx hb dX6_who_185 ?_
                      refine lv_topi (fun ov_68 _ => ?_)
                      refine lv_istore (lv' := [(8, .int ov_68), (10, .int (nI i_50)), (9, .int 2), (7, .int r_21), (0, .ref md), (1, .int (nI j_4)), (2, .int 1), (3, .int (nI j_12)), (4, .int (nI j_16)), (5, .int (nI i_27)), (6, .int (nI j_20))]) hx hb dX6_who_186 hl (by decide) rfl (fun ls hl => ?_)
                      refine lv_iinc (v := nI (i_50 + 1)) (lv' := [(10, .int (nI (i_50 + 1))), (8, .int ov_68), (9, .int 2), (7, .int r_21), (0, .ref md), (1, .int (nI j_4)), (2, .int 1), (3, .int (nI j_12)), (4, .int (nI j_16)), (5, .int (nI i_27)), (6, .int (nI j_20))]) hx hb dX6_who_188 hl (k := 1) rfl (nI_add i_50 1) (by decide) rfl (fun ls hl => ?_)
                      refine lv_goto (tgt := 112) hx hb dX6_who_191 (by decide) ?_
                      exact ih112 ((i_50 + 1)) g2_66 ov_68 H locs ls (by omega)  (hP.sub [2, 4, 3, 0, 1, 5] rfl) (hD.sub [2, 4, 3, 0, 1, 5] (by decide) rfl) hS (lv_sub hl [0, 2, 1, 3, 4, 5, 6, 7, 8, 9, 10] rfl)
                    · skip
                      refine lv_iconst (v := 1) hx hb dX6_who_177 (by decide) ?_
                      refine lv_iload hx hb dX6_who_178 (lv_at hl 0 rfl) ?_
                      refine lv_ishl hx hb dX6_who_180 ?_
                      refine wt_top (z := nI (2 ^ i_50)) (wt_shl1 (by omega)) ?_
                      refine lv_goto (tgt := 185) hx hb dX6_who_181 (by decide) ?_
                      refine lv_ior hx hb dX6_who_185 ?_
                      refine lv_topi (fun ov_69 _ => ?_)
                      refine lv_istore (lv' := [(8, .int ov_69), (10, .int (nI i_50)), (9, .int 2), (7, .int r_21), (0, .ref md), (1, .int (nI j_4)), (2, .int 1), (3, .int (nI j_12)), (4, .int (nI j_16)), (5, .int (nI i_27)), (6, .int (nI j_20))]) hx hb dX6_who_186 hl (by decide) rfl (fun ls hl => ?_)
                      refine lv_iinc (v := nI (i_50 + 1)) (lv' := [(10, .int (nI (i_50 + 1))), (8, .int ov_69), (9, .int 2), (7, .int r_21), (0, .ref md), (1, .int (nI j_4)), (2, .int 1), (3, .int (nI j_12)), (4, .int (nI j_16)), (5, .int (nI i_27)), (6, .int (nI j_20))]) hx hb dX6_who_188 hl (k := 1) rfl (nI_add i_50 1) (by decide) rfl (fun ls hl => ?_)
                      refine lv_goto (tgt := 112) hx hb dX6_who_191 (by decide) ?_
                      exact ih112 ((i_50 + 1)) g2_66 ov_69 H locs ls (by omega)  (hP.sub [2, 4, 3, 0, 1, 5] rfl) (hD.sub [2, 4, 3, 0, 1, 5] (by decide) rfl) hS (lv_sub hl [0, 2, 1, 3, 4, 5, 6, 7, 8, 9, 10] rfl)
                exact loop112 ((9 + 1) - 1) (1) g 0 _ _ ls (by omega)  hP hD hS hl
              · skip
                subst hw0
                have hl : lv_has ls 11 [(7, .int r_21), (0, .ref md), (1, .int (nI j_4)), (2, .int 2), (3, .int (nI j_12)), (4, .int (nI j_16)), (5, .int (nI i_27)), (6, .int (nI j_20))] := hl
                refine lv_iconst (v := 0) hx hb dX6_who_77 (by decide) ?_
                refine lv_istore (lv' := [(8, .int 0), (7, .int r_21), (0, .ref md), (1, .int (nI j_4)), (2, .int 2), (3, .int (nI j_12)), (4, .int (nI j_16)), (5, .int (nI i_27)), (6, .int (nI j_20))]) hx hb dX6_who_78 hl (by decide) rfl (fun ls hl => ?_)
                refine lv_iload_n hx hb dX6_who_80 rfl (lv_at hl 4 rfl) ?_
                refine lv_if_ne (tgt := 88) hx hb dX6_who_81 (by decide) (fun _ => ?_) (fun h => absurd h (by decide))
                refine lv_iload_n hx hb dX6_who_88 rfl (lv_at hl 4 rfl) ?_
                refine lv_iconst (v := 1) hx hb dX6_who_89 (by decide) ?_
                refine lv_icmp_ne (tgt := 97) hx hb dX6_who_90 (by decide) (fun _ => ?_) (fun h => absurd h (by decide))
                refine lv_iconst (v := 1) hx hb dX6_who_97 (by decide) ?_
                refine lv_istore (lv' := [(9, .int 1), (8, .int 0), (7, .int r_21), (0, .ref md), (1, .int (nI j_4)), (2, .int 2), (3, .int (nI j_12)), (4, .int (nI j_16)), (5, .int (nI i_27)), (6, .int (nI j_20))]) hx hb dX6_who_98 hl (by decide) rfl (fun ls hl => ?_)
                refine lv_iload_n hx hb dX6_who_100 rfl (lv_at hl 5 rfl) ?_
                refine lv_iconst (v := 2) hx hb dX6_who_101 (by decide) ?_
                refine lv_icmp_ne (tgt := 109) hx hb dX6_who_102 (by decide) (fun h => absurd h (by decide)) (fun _ => ?_)
                refine lv_iconst (v := 0) hx hb dX6_who_105 (by decide) ?_
                refine lv_goto (tgt := 110) hx hb dX6_who_106 (by decide) ?_
                refine lv_istore (lv' := [(10, .int 0), (9, .int 1), (8, .int 0), (7, .int r_21), (0, .ref md), (1, .int (nI j_4)), (2, .int 2), (3, .int (nI j_12)), (4, .int (nI j_16)), (5, .int (nI i_27)), (6, .int (nI j_20))]) hx hb dX6_who_110 hl (by decide) rfl (fun ls hl => ?_)
                have loop112 : ∀ (k i_70 : Nat) (g_71 : Nat → Int32) (y_72 : Int32) (H : Heap) (locs : List Loc) (ls : Array Slot), i_70 + k = R + 1 → va_P D vwCl [(hs, .inl (cI, 45, .inl f)), (tn, .inl (cI, 45, .inl g_71)), (md, .inr (6, [.int 0, .int md_f1_24, .ref ln, .ref mn, .ref it, .ref hs, vm_6, .ref tn, vm_8, vm_9, vm_10, vm_11, vm_12, vm_13, vm_14, vm_15, vm_16, vm_17, vm_18, vm_19, vm_20, vm_21, vm_22, vm_23])), (ln, .inl (cI, 8, .inl lf)), (mn, .inl (cI, 8, .inl sf)), (it, .inl (cI, 320, .inl tf))] H → va_D A [(hs, .inl (cI, 45, .inl f)), (tn, .inl (cI, 45, .inl g_71)), (md, .inr (6, [.int 0, .int md_f1_24, .ref ln, .ref mn, .ref it, .ref hs, vm_6, .ref tn, vm_8, vm_9, vm_10, vm_11, vm_12, vm_13, vm_14, vm_15, vm_16, vm_17, vm_18, vm_19, vm_20, vm_21, vm_22, vm_23])), (ln, .inl (cI, 8, .inl lf)), (mn, .inl (cI, 8, .inl sf)), (it, .inl (cI, 320, .inl tf))] → va_S A s.heap H locs → lv_has ls 11 [(10, .int (nI i_70)), (9, .int 1), (8, .int y_72), (7, .int r_21), (0, .ref md), (1, .int (nI j_4)), (2, .int 2), (3, .int (nI j_12)), (4, .int (nI j_16)), (5, .int (nI i_27)), (6, .int (nI j_20))] → W p l e ({ frames := 5, cells := 0, slots := 0, locals := 116 } : Room) s m ([.ref md, .int (nI j_4), .int (nI 2), .int (nI j_12), .int (nI j_16), .int (nI i_27), .int (nI j_20)] : List Value).toArray below meth c H locs 0 0 (MQ below (wt_QI D (fun r w => ∃ (g2 : Nat → Int32) (md_f1 : Int32), w = [(md, .inr (6, [.int 0, .int md_f1, .ref ln, .ref mn, .ref it, .ref hs, vm_6, .ref tn, vm_8, vm_9, vm_10, vm_11, vm_12, vm_13, vm_14, vm_15, vm_16, vm_17, vm_18, vm_19, vm_20, vm_21, vm_22, vm_23])), (hs, .inl (cI, 45, .inl f)), (tn, .inl (cI, 45, .inl g2)), (ln, .inl (cI, 8, .inl lf)), (mn, .inl (cI, 8, .inl sf)), (it, .inl (cI, 320, .inl tf))]) A) ([.ref md, .int (nI j_4), .int (nI 2), .int (nI j_12), .int (nI j_16), .int (nI i_27), .int (nI j_20)] : List Value).toArray s 0 0 A) (F0 m 112 ls []) := by
                  intro k
                  induction k with
                  | zero =>
                    intro i_70 g_71 y_72 H locs ls hik  hP hD hS hl
                    refine lv_iload hx hb dX6_who_112 (lv_at hl 0 rfl) ?_
                    refine lv_iload_n hx hb dX6_who_114 rfl (lv_at hl 6 rfl) ?_
                    refine lv_if_ne (tgt := 122) hx hb dX6_who_115 (by decide) (fun _ => ?_) (fun h => absurd h (by decide))
                    refine lv_iload_n hx hb dX6_who_122 rfl (lv_at hl 6 rfl) ?_
                    refine lv_iconst (v := 1) hx hb dX6_who_123 (by decide) ?_
                    refine lv_icmp_ne (tgt := 132) hx hb dX6_who_124 (by decide) (fun _ => ?_) (fun h => absurd h (by decide))
                    refine lv_aload_n hx hb dX6_who_132 rfl (lv_at hl 4 rfl) ?_
                    refine va_get (D := D) (ci := 6) (v := .ref hs) (C := RX6) (T := TX6) (N := 24) hx hb hts hi6 hown hK.1 hP 2 rfl rfl 5 (by decide) wf19 (fun _ h9 => h9) rfl dX6_who_133 ?_
                    refine lv_iconst (v := 0) hx hb dX6_who_136 (by decide) ?_
                    refine va_iald hx hb hK.1 hP 0 0 rfl rfl (by rw [vp_in_iff]; decide) dX6_who_137 ?_
                    refine wt_top (z := nI R) (hrk.1) ?_
                    refine lv_icmp_gt (tgt := 194) hx hb dX6_who_138 (by decide) (fun _ => ?_) (fun h => absurd (nI_lt (a := R) (b := i_70) (by omega) (by omega)) h)
                    refine lv_iload hx hb dX6_who_194 (lv_at hl 2 rfl) ?_
                    have hP9 := hP.sub (ws' := [(md, .inr (6, [.int 0, .int md_f1_24, .ref ln, .ref mn, .ref it, .ref hs, vm_6, .ref tn, vm_8, vm_9, vm_10, vm_11, vm_12, vm_13, vm_14, vm_15, vm_16, vm_17, vm_18, vm_19, vm_20, vm_21, vm_22, vm_23])), (hs, .inl (cI, 45, .inl f)), (tn, .inl (cI, 45, .inl g_71)), (ln, .inl (cI, 8, .inl lf)), (mn, .inl (cI, 8, .inl sf)), (it, .inl (cI, 320, .inl tf))]) [2, 0, 1, 3, 4, 5] rfl
                    have hD9 := hD.sub (ws' := [(md, .inr (6, [.int 0, .int md_f1_24, .ref ln, .ref mn, .ref it, .ref hs, vm_6, .ref tn, vm_8, vm_9, vm_10, vm_11, vm_12, vm_13, vm_14, vm_15, vm_16, vm_17, vm_18, vm_19, vm_20, vm_21, vm_22, vm_23])), (hs, .inl (cI, 45, .inl f)), (tn, .inl (cI, 45, .inl g_71)), (ln, .inl (cI, 8, .inl lf)), (mn, .inl (cI, 8, .inl sf)), (it, .inl (cI, 320, .inl tf))]) [2, 0, 1, 3, 4, 5] (by decide) rfl
                    exact wt_iret hx hb hr hlocks hP9 hD9 hS ⟨g_71, md_f1_24, rfl⟩ dX6_who_196
                  | succ k ih112 =>
                    intro i_70 g_71 y_72 H locs ls hik  hP hD hS hl
                    refine lv_iload hx hb dX6_who_112 (lv_at hl 0 rfl) ?_
                    refine lv_iload_n hx hb dX6_who_114 rfl (lv_at hl 6 rfl) ?_
                    refine lv_if_ne (tgt := 122) hx hb dX6_who_115 (by decide) (fun _ => ?_) (fun h => absurd h (by decide))
                    refine lv_iload_n hx hb dX6_who_122 rfl (lv_at hl 6 rfl) ?_
                    refine lv_iconst (v := 1) hx hb dX6_who_123 (by decide) ?_
                    refine lv_icmp_ne (tgt := 132) hx hb dX6_who_124 (by decide) (fun _ => ?_) (fun h => absurd h (by decide))
                    refine lv_aload_n hx hb dX6_who_132 rfl (lv_at hl 4 rfl) ?_
                    refine va_get (D := D) (ci := 6) (v := .ref hs) (C := RX6) (T := TX6) (N := 24) hx hb hts hi6 hown hK.1 hP 2 rfl rfl 5 (by decide) wf19 (fun _ h9 => h9) rfl dX6_who_133 ?_
                    refine lv_iconst (v := 0) hx hb dX6_who_136 (by decide) ?_
                    refine va_iald hx hb hK.1 hP 0 0 rfl rfl (by rw [vp_in_iff]; decide) dX6_who_137 ?_
                    refine wt_top (z := nI R) (hrk.1) ?_
                    refine lv_icmp_gt (tgt := 194) hx hb dX6_who_138 (by decide) (fun h => absurd h (nI_nlt (a := R) (b := i_70) (by omega) (by omega))) (fun _ => ?_)
                    refine lv_aload_n hx hb dX6_who_141 rfl (lv_at hl 4 rfl) ?_
                    refine wt_goV (wr := [(ln, .inl (cI, 8, .inl lf)), (mn, .inl (cI, 8, .inl sf)), (it, .inl (cI, 320, .inl tf))]) (wt_runV (As := []) (rest := []) ⟨hx, hb, hml, hown, hts⟩ (c_X6_layThen l D cI cZ cH md hs R T f tn g_71 (.int 0) (.int md_f1_24) (.ref ln) (.ref mn) (.ref it) vm_6 vm_8 vm_9 vm_10 vm_11 vm_12 vm_13 vm_14 vm_15 vm_16 vm_17 vm_18 vm_19 vm_20 vm_21 vm_22 vm_23 (by first | assumption | omega) (by first | assumption | omega) (by first | assumption | omega)) (cwV 0 hts gX6_who_X6_layThen rfl rfl rfl (by decide +kernel) ⟨Nat.le_of_ble_eq_true rfl, Nat.le_of_ble_eq_true rfl⟩) hK hP hD [2, 0, 1] rfl (by decide) (va_recv hK.1 hP (ci := 6) (q0 := 2) rfl rfl) rfl hl.1 rfl (Nat.le_of_ble_eq_true rfl) dX6_who_142 ⟨Nat.le_of_ble_eq_true rfl, Nat.le_of_ble_eq_true rfl⟩) hP hD hS hA [2, 0, 1] [3, 4, 5] rfl rfl (by decide) (by decide) (fun w_74 H locs h_75 hP hD hS => ?_)
                    obtain ⟨g2_76, rfl, x_77⟩ := h_75
                    have hP : va_P D vwCl [(ln, .inl (cI, 8, .inl lf)), (mn, .inl (cI, 8, .inl sf)), (it, .inl (cI, 320, .inl tf)), (md, .inr (6, [.int 0, .int md_f1_24, .ref ln, .ref mn, .ref it, .ref hs, vm_6, .ref tn, vm_8, vm_9, vm_10, vm_11, vm_12, vm_13, vm_14, vm_15, vm_16, vm_17, vm_18, vm_19, vm_20, vm_21, vm_22, vm_23])), (hs, .inl (cI, 45, .inl f)), (tn, .inl (cI, 45, .inl g2_76))] H := hP
                    have hD : va_D A [(ln, .inl (cI, 8, .inl lf)), (mn, .inl (cI, 8, .inl sf)), (it, .inl (cI, 320, .inl tf)), (md, .inr (6, [.int 0, .int md_f1_24, .ref ln, .ref mn, .ref it, .ref hs, vm_6, .ref tn, vm_8, vm_9, vm_10, vm_11, vm_12, vm_13, vm_14, vm_15, vm_16, vm_17, vm_18, vm_19, vm_20, vm_21, vm_22, vm_23])), (hs, .inl (cI, 45, .inl f)), (tn, .inl (cI, 45, .inl g2_76))] := hD
                    refine lv_aload_n hx hb dX6_who_145 rfl (lv_at hl 4 rfl) ?_
                    refine va_get (D := D) (ci := 6) (v := .ref tn) (C := RX6) (T := TX6) (N := 24) hx hb hts hi6 hown hK.1 hP 3 rfl rfl 7 (by decide) wf25 (fun _ h9 => h9) rfl dX6_who_146 ?_
                    refine lv_iload_n hx hb dX6_who_149 rfl (lv_at hl 5 rfl) ?_
                    refine lv_iload hx hb dX6_who_150 (lv_at hl 1 rfl) ?_
                    refine lv_iload hx hb dX6_who_152 (lv_at hl 0 rfl) ?_
                    refine wt_goV (wr := [(ln, .inl (cI, 8, .inl lf)), (mn, .inl (cI, 8, .inl sf)), (it, .inl (cI, 320, .inl tf)), (md, .inr (6, [.int 0, .int md_f1_24, .ref ln, .ref mn, .ref it, .ref hs, vm_6, .ref tn, vm_8, vm_9, vm_10, vm_11, vm_12, vm_13, vm_14, vm_15, vm_16, vm_17, vm_18, vm_19, vm_20, vm_21, vm_22, vm_23])), (hs, .inl (cI, 45, .inl f))]) (wt_runS (As := [.ref tn, .int (nI j_4), .int 1, .int (nI i_70)]) (rest := []) ⟨hx, hb, hml, hown, hts⟩ (c_X6_be_1 l D cI cZ cH tn R T g2_76 j_4 i_70 (by first | assumption | omega) (by first | assumption | omega) (by first | assumption | omega) (by first | assumption | omega) (by first | assumption | omega)) (va_cwS 4 hts gX6_who_X6_be rfl rfl rfl (by decide +kernel) ⟨Nat.le_of_ble_eq_true rfl, Nat.le_of_ble_eq_true rfl⟩) hK hP hD [5] rfl (by decide) rfl hl.1 rfl (Nat.le_of_ble_eq_true rfl) dX6_who_154 ⟨Nat.le_of_ble_eq_true rfl, Nat.le_of_ble_eq_true rfl⟩) hP hD hS hA [5] [0, 1, 2, 3, 4] rfl rfl (by decide) (by decide) (fun w_79 H locs h_80 hP hD hS => ?_)
                    obtain ⟨f2_81, rfl, x_82⟩ := h_80
                    have hP : va_P D vwCl [(ln, .inl (cI, 8, .inl lf)), (mn, .inl (cI, 8, .inl sf)), (it, .inl (cI, 320, .inl tf)), (md, .inr (6, [.int 0, .int md_f1_24, .ref ln, .ref mn, .ref it, .ref hs, vm_6, .ref tn, vm_8, vm_9, vm_10, vm_11, vm_12, vm_13, vm_14, vm_15, vm_16, vm_17, vm_18, vm_19, vm_20, vm_21, vm_22, vm_23])), (hs, .inl (cI, 45, .inl f)), (tn, .inl (cI, 45, .inl f2_81))] H := hP
                    have hD : va_D A [(ln, .inl (cI, 8, .inl lf)), (mn, .inl (cI, 8, .inl sf)), (it, .inl (cI, 320, .inl tf)), (md, .inr (6, [.int 0, .int md_f1_24, .ref ln, .ref mn, .ref it, .ref hs, vm_6, .ref tn, vm_8, vm_9, vm_10, vm_11, vm_12, vm_13, vm_14, vm_15, vm_16, vm_17, vm_18, vm_19, vm_20, vm_21, vm_22, vm_23])), (hs, .inl (cI, 45, .inl f)), (tn, .inl (cI, 45, .inl f2_81))] := hD
                    refine lv_iload hx hb dX6_who_157 (lv_at hl 2 rfl) ?_
                    refine lv_aload_n hx hb dX6_who_159 rfl (lv_at hl 4 rfl) ?_
                    refine lv_iload_n hx hb dX6_who_160 rfl (lv_at hl 7 rfl) ?_
                    refine lv_bipush (v := 40) hx hb dX6_who_161 (by decide) ?_
                    refine lv_iload hx hb dX6_who_163 (lv_at hl 8 rfl) ?_
                    refine lv_imul hx hb dX6_who_165 ?_
                    refine wt_top (z := nI (40 * j_16)) (pk_mul 40 j_16) ?_
                    refine lv_iload hx hb dX6_who_166 (lv_at hl 9 rfl) ?_
                    refine lv_iadd hx hb dX6_who_168 ?_
                    refine wt_top (z := nI ((40 * j_16) + i_27)) (nI_add (40 * j_16) i_27) ?_
                    refine lv_iload hx hb dX6_who_169 (lv_at hl 10 rfl) ?_
                    refine wt_goI (wr := [(ln, .inl (cI, 8, .inl lf)), (mn, .inl (cI, 8, .inl sf)), (hs, .inl (cI, 45, .inl f))]) (wt_runV (As := [.int (nI j_12), .int (nI ((40 * j_16) + i_27)), .int (nI j_20)]) (rest := [.int y_72]) ⟨hx, hb, hml, hown, hts⟩ (c_X6_warmSo l D cI cZ cH md tn it R T j_12 ((40 * j_16) + i_27) j_20 f2_81 tf (.int 0) (.int md_f1_24) (.ref ln) (.ref mn) (.ref hs) vm_6 vm_8 vm_9 vm_10 vm_11 vm_12 vm_13 vm_14 vm_15 vm_16 vm_17 vm_18 vm_19 vm_20 vm_21 vm_22 vm_23 (by first | assumption | omega) (by first | assumption | omega) (by first | assumption | omega) (by first | assumption | omega) (by first | assumption | omega) (by first | assumption | omega)) (cwV 3 hts gX6_who_X6_warmSo rfl rfl rfl (by decide +kernel) ⟨Nat.le_of_ble_eq_true rfl, Nat.le_of_ble_eq_true rfl⟩) hK hP hD [3, 5, 2] rfl (by decide) (va_recv hK.1 hP (ci := 6) (q0 := 3) rfl rfl) rfl hl.1 rfl (Nat.le_of_ble_eq_true rfl) dX6_who_171 ⟨Nat.le_of_ble_eq_true rfl, Nat.le_of_ble_eq_true rfl⟩) hP hD hS hA [3, 5, 2] [0, 1, 4] rfl rfl (by decide) (by decide) (fun r_83 w_84 H locs h_85 hP hD hS => ?_)
                    obtain ⟨g2_86, rfl⟩ := h_85
                    have hP : va_P D vwCl [(ln, .inl (cI, 8, .inl lf)), (mn, .inl (cI, 8, .inl sf)), (hs, .inl (cI, 45, .inl f)), (md, .inr (6, [.int 0, .int md_f1_24, .ref ln, .ref mn, .ref it, .ref hs, vm_6, .ref tn, vm_8, vm_9, vm_10, vm_11, vm_12, vm_13, vm_14, vm_15, vm_16, vm_17, vm_18, vm_19, vm_20, vm_21, vm_22, vm_23])), (tn, .inl (cI, 45, .inl g2_86)), (it, .inl (cI, 320, .inl tf))] H := hP
                    have hD : va_D A [(ln, .inl (cI, 8, .inl lf)), (mn, .inl (cI, 8, .inl sf)), (hs, .inl (cI, 45, .inl f)), (md, .inr (6, [.int 0, .int md_f1_24, .ref ln, .ref mn, .ref it, .ref hs, vm_6, .ref tn, vm_8, vm_9, vm_10, vm_11, vm_12, vm_13, vm_14, vm_15, vm_16, vm_17, vm_18, vm_19, vm_20, vm_21, vm_22, vm_23])), (tn, .inl (cI, 45, .inl g2_86)), (it, .inl (cI, 320, .inl tf))] := hD
                    refine lv_if_eq (tgt := 184) hx hb dX6_who_174 (by decide) (fun c_87 => ?_) (fun c_87 => ?_)
                    · skip
                      refine lv_iconst (v := 0) hx hb dX6_who_184 (by decide) ?_
                      refine lv_ior hx hb dX6_who_185 ?_
                      refine lv_topi (fun ov_88 _ => ?_)
                      refine lv_istore (lv' := [(8, .int ov_88), (10, .int (nI i_70)), (9, .int 1), (7, .int r_21), (0, .ref md), (1, .int (nI j_4)), (2, .int 2), (3, .int (nI j_12)), (4, .int (nI j_16)), (5, .int (nI i_27)), (6, .int (nI j_20))]) hx hb dX6_who_186 hl (by decide) rfl (fun ls hl => ?_)
                      refine lv_iinc (v := nI (i_70 + 1)) (lv' := [(10, .int (nI (i_70 + 1))), (8, .int ov_88), (9, .int 1), (7, .int r_21), (0, .ref md), (1, .int (nI j_4)), (2, .int 2), (3, .int (nI j_12)), (4, .int (nI j_16)), (5, .int (nI i_27)), (6, .int (nI j_20))]) hx hb dX6_who_188 hl (k := 1) rfl (nI_add i_70 1) (by decide) rfl (fun ls hl => ?_)
                      refine lv_goto (tgt := 112) hx hb dX6_who_191 (by decide) ?_
                      exact ih112 ((i_70 + 1)) g2_86 ov_88 H locs ls (by omega)  (hP.sub [2, 4, 3, 0, 1, 5] rfl) (hD.sub [2, 4, 3, 0, 1, 5] (by decide) rfl) hS (lv_sub hl [0, 2, 1, 3, 4, 5, 6, 7, 8, 9, 10] rfl)
                    · skip
                      refine lv_iconst (v := 1) hx hb dX6_who_177 (by decide) ?_
                      refine lv_iload hx hb dX6_who_178 (lv_at hl 0 rfl) ?_
                      refine lv_ishl hx hb dX6_who_180 ?_
                      refine wt_top (z := nI (2 ^ i_70)) (wt_shl1 (by omega)) ?_
                      refine lv_goto (tgt := 185) hx hb dX6_who_181 (by decide) ?_
                      refine lv_ior hx hb dX6_who_185 ?_
                      refine lv_topi (fun ov_89 _ => ?_)
                      refine lv_istore (lv' := [(8, .int ov_89), (10, .int (nI i_70)), (9, .int 1), (7, .int r_21), (0, .ref md), (1, .int (nI j_4)), (2, .int 2), (3, .int (nI j_12)), (4, .int (nI j_16)), (5, .int (nI i_27)), (6, .int (nI j_20))]) hx hb dX6_who_186 hl (by decide) rfl (fun ls hl => ?_)
                      refine lv_iinc (v := nI (i_70 + 1)) (lv' := [(10, .int (nI (i_70 + 1))), (8, .int ov_89), (9, .int 1), (7, .int r_21), (0, .ref md), (1, .int (nI j_4)), (2, .int 2), (3, .int (nI j_12)), (4, .int (nI j_16)), (5, .int (nI i_27)), (6, .int (nI j_20))]) hx hb dX6_who_188 hl (k := 1) rfl (nI_add i_70 1) (by decide) rfl (fun ls hl => ?_)
                      refine lv_goto (tgt := 112) hx hb dX6_who_191 (by decide) ?_
                      exact ih112 ((i_70 + 1)) g2_86 ov_89 H locs ls (by omega)  (hP.sub [2, 4, 3, 0, 1, 5] rfl) (hD.sub [2, 4, 3, 0, 1, 5] (by decide) rfl) hS (lv_sub hl [0, 2, 1, 3, 4, 5, 6, 7, 8, 9, 10] rfl)
                exact loop112 ((R + 1) - 0) (0) g 0 _ _ ls (by omega)  hP hD hS hl
            · skip
              refine lv_iload hx hb dX6_who_74 (lv_at hl 0 rfl) ?_
              have hP9 := hP.sub (ws' := [(md, .inr (6, [.int 0, .int md_f1_24, .ref ln, .ref mn, .ref it, .ref hs, vm_6, .ref tn, vm_8, vm_9, vm_10, vm_11, vm_12, vm_13, vm_14, vm_15, vm_16, vm_17, vm_18, vm_19, vm_20, vm_21, vm_22, vm_23])), (hs, .inl (cI, 45, .inl f)), (tn, .inl (cI, 45, .inl g)), (ln, .inl (cI, 8, .inl lf)), (mn, .inl (cI, 8, .inl sf)), (it, .inl (cI, 320, .inl tf))]) [2, 0, 1, 3, 4, 5] rfl
              have hD9 := hD.sub (ws' := [(md, .inr (6, [.int 0, .int md_f1_24, .ref ln, .ref mn, .ref it, .ref hs, vm_6, .ref tn, vm_8, vm_9, vm_10, vm_11, vm_12, vm_13, vm_14, vm_15, vm_16, vm_17, vm_18, vm_19, vm_20, vm_21, vm_22, vm_23])), (hs, .inl (cI, 45, .inl f)), (tn, .inl (cI, 45, .inl g)), (ln, .inl (cI, 8, .inl lf)), (mn, .inl (cI, 8, .inl sf)), (it, .inl (cI, 320, .inl tf))]) [2, 0, 1, 3, 4, 5] (by decide) rfl
              exact wt_iret hx hb hr hlocks hP9 hD9 hS ⟨g, md_f1_24, rfl⟩ dX6_who_76
          · skip
            refine lv_ldc hx hb hown wc67 dX6_who_54 ?_
            have hP9 := hP.sub (ws' := [(md, .inr (6, [.int 0, .int sv, .ref ln, .ref mn, .ref it, .ref hs, vm_6, .ref tn, vm_8, vm_9, vm_10, vm_11, vm_12, vm_13, vm_14, vm_15, vm_16, vm_17, vm_18, vm_19, vm_20, vm_21, vm_22, vm_23])), (hs, .inl (cI, 45, .inl f)), (tn, .inl (cI, 45, .inl g)), (ln, .inl (cI, 8, .inl lf)), (mn, .inl (cI, 8, .inl sf)), (it, .inl (cI, 320, .inl tf))]) [0, 1, 2, 3, 4, 5] rfl
            have hD9 := hD.sub (ws' := [(md, .inr (6, [.int 0, .int sv, .ref ln, .ref mn, .ref it, .ref hs, vm_6, .ref tn, vm_8, vm_9, vm_10, vm_11, vm_12, vm_13, vm_14, vm_15, vm_16, vm_17, vm_18, vm_19, vm_20, vm_21, vm_22, vm_23])), (hs, .inl (cI, 45, .inl f)), (tn, .inl (cI, 45, .inl g)), (ln, .inl (cI, 8, .inl lf)), (mn, .inl (cI, 8, .inl sf)), (it, .inl (cI, 320, .inl tf))]) [0, 1, 2, 3, 4, 5] (by decide) rfl
            exact wt_iret hx hb hr hlocks hP9 hD9 hS ⟨g, sv, rfl⟩ dX6_who_56
set_option maxHeartbeats 4000000 in
set_option maxRecDepth 100000 in
theorem c_X6_frosts (l : Launch) (D : va_G) (cI cZ cH : ClassId) (md hs : Nat) (R T : Nat) (f : Nat → Int32) (tn : Nat) (g : Nat → Int32) (ln mn it : Nat) (lf sf tf : Nat → Int32) (sv : Int32) (a1 a2 a3 a4 a5 : Int32) (vm_0 vm_6 vm_8 vm_9 vm_10 vm_11 vm_12 vm_13 vm_14 vm_15 vm_16 vm_17 vm_18 vm_19 vm_20 vm_21 vm_22 vm_23 : Value) (hR5 : R ≤ 5) (hT6 : T ≤ 6) (hrk : rk R T f) (hs8 : hw 40 8 sf) : wt_M l yX6_frosts wsX6_frosts ({ frames := 5, cells := 0, slots := 0, locals := 116 } : Room) D (wt_T cI cZ cH) [.ref md, .int a1, .int a2, .int a3, .int a4, .int a5] [(md, .inr (6, [vm_0, .int sv, .ref ln, .ref mn, .ref it, .ref hs, vm_6, .ref tn, vm_8, vm_9, vm_10, vm_11, vm_12, vm_13, vm_14, vm_15, vm_16, vm_17, vm_18, vm_19, vm_20, vm_21, vm_22, vm_23])), (hs, .inl (cI, 45, .inl f)), (tn, .inl (cI, 45, .inl g)), (ln, .inl (cI, 8, .inl lf)), (mn, .inl (cI, 8, .inl sf)), (it, .inl (cI, 320, .inl tf))] (wt_QI D (fun r w => ∃ (g2 : Nat → Int32) (md_f1 : Int32), w = [(md, .inr (6, [.int 0, .int md_f1, .ref ln, .ref mn, .ref it, .ref hs, vm_6, .ref tn, vm_8, vm_9, vm_10, vm_11, vm_12, vm_13, vm_14, vm_15, vm_16, vm_17, vm_18, vm_19, vm_20, vm_21, vm_22, vm_23])), (hs, .inl (cI, 45, .inl f)), (tn, .inl (cI, 45, .inl g2)), (ln, .inl (cI, 8, .inl lf)), (mn, .inl (cI, 8, .inl sf)), (it, .inl (cI, 320, .inl tf))])) := by
  refine wt_M.ofW (cc := cX6_frosts) (maxL := 9) (ret := (some .int)) (by decide) rfl (Nat.le_of_ble_eq_true rfl) ?_
  intro p e s m below meth c A ls hx hb hr hts hown hlocks hml hnm hP hK hD hA hS hl
  have hP : va_P D vwCl [(md, .inr (6, [vm_0, .int sv, .ref ln, .ref mn, .ref it, .ref hs, vm_6, .ref tn, vm_8, vm_9, vm_10, vm_11, vm_12, vm_13, vm_14, vm_15, vm_16, vm_17, vm_18, vm_19, vm_20, vm_21, vm_22, vm_23])), (hs, .inl (cI, 45, .inl f)), (tn, .inl (cI, 45, .inl g)), (ln, .inl (cI, 8, .inl lf)), (mn, .inl (cI, 8, .inl sf)), (it, .inl (cI, 320, .inl tf))] s.heap := hP
  have hown : s.vm.findClass RX6 = some m.cls := hown
  have hl : lv_has ls 9 [(0, .ref md), (1, .int a1), (2, .int a2), (3, .int a3), (4, .int a4), (5, .int a5)] := hl
  have hi6 : ∀ w ∈ u_ws RX6 TX6 24, w ∈ wsX6_frosts := by decide +kernel
  have wc67 := hts (.constant RX6 67 (-1000001)) (by decide +kernel)
  have wf19 := hts (.fieldLink RX6 19 "WarmTubesModel" "house" "[I") (by decide +kernel)
  have wf25 := hts (.fieldLink RX6 25 "WarmTubesModel" "then" "[I") (by decide +kernel)
  have wf47 := hts (.fieldLink RX6 47 "WarmTubesModel" "thrown" "I") (by decide +kernel)
  have wl265 := hts (.constantLong RX6 265 (12)) (by decide +kernel)
  refine lv_aload_n hx hb dX6_frosts_0 rfl (lv_at hl 0 rfl) ?_
  refine lv_iconst (v := 0) hx hb dX6_frosts_1 (by decide) ?_
  refine va_put (D := D) (ci := 6) (v := .int 0) (ty := .int) (C := RX6) (T := TX6) (N := 24) hx hb hts hi6 tyX6 tyX6_ok nmX6 hown hK.1 hP hD hS 0 rfl rfl 0 (by decide) wf47 (fun _ h9 => h9) rfl (by decide +kernel) rfl rfl (Nat.le_of_ble_eq_true rfl) dX6_frosts_2 (fun H locs hP hD hS => ?_)
  have hP : va_P D vwCl [(md, .inr (6, [.int 0, .int sv, .ref ln, .ref mn, .ref it, .ref hs, vm_6, .ref tn, vm_8, vm_9, vm_10, vm_11, vm_12, vm_13, vm_14, vm_15, vm_16, vm_17, vm_18, vm_19, vm_20, vm_21, vm_22, vm_23])), (hs, .inl (cI, 45, .inl f)), (tn, .inl (cI, 45, .inl g)), (ln, .inl (cI, 8, .inl lf)), (mn, .inl (cI, 8, .inl sf)), (it, .inl (cI, 320, .inl tf))] H := hP
  have hD : va_D A [(md, .inr (6, [.int 0, .int sv, .ref ln, .ref mn, .ref it, .ref hs, vm_6, .ref tn, vm_8, vm_9, vm_10, vm_11, vm_12, vm_13, vm_14, vm_15, vm_16, vm_17, vm_18, vm_19, vm_20, vm_21, vm_22, vm_23])), (hs, .inl (cI, 45, .inl f)), (tn, .inl (cI, 45, .inl g)), (ln, .inl (cI, 8, .inl lf)), (mn, .inl (cI, 8, .inl sf)), (it, .inl (cI, 320, .inl tf))] := hD
  refine lv_aload_n hx hb dX6_frosts_5 rfl (lv_at hl 0 rfl) ?_
  refine lv_iload_n hx hb dX6_frosts_6 rfl (lv_at hl 1 rfl) ?_
  refine wt_rV (As := [.int a1]) (rest := []) ⟨hx, hb, hml, hown, hts⟩ (c_X6_isRoom l D cI cZ cH md hs R T f a1 (.int 0) (.int sv) (.ref ln) (.ref mn) (.ref it) vm_6 (.ref tn) vm_8 vm_9 vm_10 vm_11 vm_12 vm_13 vm_14 vm_15 vm_16 vm_17 vm_18 vm_19 vm_20 vm_21 vm_22 vm_23 (by first | assumption | omega) (by first | assumption | omega) (by first | assumption | omega)) (cwV 1 hts gX6_frosts_X6_isRoom rfl rfl rfl (by decide +kernel) ⟨Nat.le_of_ble_eq_true rfl, Nat.le_of_ble_eq_true rfl⟩) hK hP [0, 1] rfl (va_recv hK.1 hP (ci := 6) (q0 := 0) rfl rfl) rfl hl.1 rfl (Nat.le_of_ble_eq_true rfl) dX6_frosts_7 ⟨Nat.le_of_ble_eq_true rfl, Nat.le_of_ble_eq_true rfl⟩ (fun r_1 e_2 => ?_)
  subst e_2
  refine lv_if_eq (tgt := 43) hx hb dX6_frosts_10 (by decide) (fun c_3 => ?_) (fun c_3 => ?_)
  · skip
    refine lv_ldc hx hb hown wc67 dX6_frosts_43 ?_
    have hP9 := hP.sub (ws' := [(md, .inr (6, [.int 0, .int sv, .ref ln, .ref mn, .ref it, .ref hs, vm_6, .ref tn, vm_8, vm_9, vm_10, vm_11, vm_12, vm_13, vm_14, vm_15, vm_16, vm_17, vm_18, vm_19, vm_20, vm_21, vm_22, vm_23])), (hs, .inl (cI, 45, .inl f)), (tn, .inl (cI, 45, .inl g)), (ln, .inl (cI, 8, .inl lf)), (mn, .inl (cI, 8, .inl sf)), (it, .inl (cI, 320, .inl tf))]) [0, 1, 2, 3, 4, 5] rfl
    have hD9 := hD.sub (ws' := [(md, .inr (6, [.int 0, .int sv, .ref ln, .ref mn, .ref it, .ref hs, vm_6, .ref tn, vm_8, vm_9, vm_10, vm_11, vm_12, vm_13, vm_14, vm_15, vm_16, vm_17, vm_18, vm_19, vm_20, vm_21, vm_22, vm_23])), (hs, .inl (cI, 45, .inl f)), (tn, .inl (cI, 45, .inl g)), (ln, .inl (cI, 8, .inl lf)), (mn, .inl (cI, 8, .inl sf)), (it, .inl (cI, 320, .inl tf))]) [0, 1, 2, 3, 4, 5] (by decide) rfl
    exact wt_iret hx hb hr hlocks hP9 hD9 hS ⟨g, sv, rfl⟩ dX6_frosts_45
  · skip
    obtain ⟨j_4, hj_4, rfl⟩ := wI_natT (T := R) (by omega) c_3
    refine lv_iload_n hx hb dX6_frosts_13 rfl (lv_at hl 2 rfl) ?_
    refine lv_i2l hx hb dX6_frosts_14 rfl ?_
    refine lv_lconst (v := 0) hx hb dX6_frosts_15 (by decide) ?_
    refine lv_lconst (v := 1) hx hb dX6_frosts_16 (by decide) ?_
    refine wt_rS (As := [.long a2.toInt64, .long 0, .long 1]) (rest := []) ⟨hx, hb, hml, hown, hts⟩ (c_X6_in l D cI cZ cH a2.toInt64 0 1) (va_cwS 3 hts gX6_frosts_X6_in rfl rfl rfl (by decide +kernel) ⟨Nat.le_of_ble_eq_true rfl, Nat.le_of_ble_eq_true rfl⟩) hK hP [] rfl rfl hl.1 rfl (Nat.le_of_ble_eq_true rfl) dX6_frosts_17 ⟨Nat.le_of_ble_eq_true rfl, Nat.le_of_ble_eq_true rfl⟩ (fun r_5 e_6 => ?_)
    subst e_6
    refine wt_top (z := wI a2 0 1) (wL_I' (by decide) (by decide)) ?_
    refine lv_if_eq (tgt := 43) hx hb dX6_frosts_20 (by decide) (fun c_7 => ?_) (fun c_7 => ?_)
    · skip
      refine lv_ldc hx hb hown wc67 dX6_frosts_43 ?_
      have hP9 := hP.sub (ws' := [(md, .inr (6, [.int 0, .int sv, .ref ln, .ref mn, .ref it, .ref hs, vm_6, .ref tn, vm_8, vm_9, vm_10, vm_11, vm_12, vm_13, vm_14, vm_15, vm_16, vm_17, vm_18, vm_19, vm_20, vm_21, vm_22, vm_23])), (hs, .inl (cI, 45, .inl f)), (tn, .inl (cI, 45, .inl g)), (ln, .inl (cI, 8, .inl lf)), (mn, .inl (cI, 8, .inl sf)), (it, .inl (cI, 320, .inl tf))]) [0, 1, 2, 3, 4, 5] rfl
      have hD9 := hD.sub (ws' := [(md, .inr (6, [.int 0, .int sv, .ref ln, .ref mn, .ref it, .ref hs, vm_6, .ref tn, vm_8, vm_9, vm_10, vm_11, vm_12, vm_13, vm_14, vm_15, vm_16, vm_17, vm_18, vm_19, vm_20, vm_21, vm_22, vm_23])), (hs, .inl (cI, 45, .inl f)), (tn, .inl (cI, 45, .inl g)), (ln, .inl (cI, 8, .inl lf)), (mn, .inl (cI, 8, .inl sf)), (it, .inl (cI, 320, .inl tf))]) [0, 1, 2, 3, 4, 5] (by decide) rfl
      exact wt_iret hx hb hr hlocks hP9 hD9 hS ⟨g, sv, rfl⟩ dX6_frosts_45
    · skip
      obtain ⟨j_8, hj_8, hj_8b, rfl⟩ := wI_nat (a := 0) (b := 1) (by omega) (by omega) c_7
      refine lv_iload_n hx hb dX6_frosts_23 rfl (lv_at hl 3 rfl) ?_
      refine wt_rS (As := [.int a3]) (rest := []) ⟨hx, hb, hml, hown, hts⟩ (c_X6_isRow l D cI cZ cH a3) (va_cwS 1 hts gX6_frosts_X6_isRow rfl rfl rfl (by decide +kernel) ⟨Nat.le_of_ble_eq_true rfl, Nat.le_of_ble_eq_true rfl⟩) hK hP [] rfl rfl hl.1 rfl (Nat.le_of_ble_eq_true rfl) dX6_frosts_24 ⟨Nat.le_of_ble_eq_true rfl, Nat.le_of_ble_eq_true rfl⟩ (fun r_9 e_10 => ?_)
      subst e_10
      refine lv_if_eq (tgt := 43) hx hb dX6_frosts_27 (by decide) (fun c_11 => ?_) (fun c_11 => ?_)
      · skip
        refine lv_ldc hx hb hown wc67 dX6_frosts_43 ?_
        have hP9 := hP.sub (ws' := [(md, .inr (6, [.int 0, .int sv, .ref ln, .ref mn, .ref it, .ref hs, vm_6, .ref tn, vm_8, vm_9, vm_10, vm_11, vm_12, vm_13, vm_14, vm_15, vm_16, vm_17, vm_18, vm_19, vm_20, vm_21, vm_22, vm_23])), (hs, .inl (cI, 45, .inl f)), (tn, .inl (cI, 45, .inl g)), (ln, .inl (cI, 8, .inl lf)), (mn, .inl (cI, 8, .inl sf)), (it, .inl (cI, 320, .inl tf))]) [0, 1, 2, 3, 4, 5] rfl
        have hD9 := hD.sub (ws' := [(md, .inr (6, [.int 0, .int sv, .ref ln, .ref mn, .ref it, .ref hs, vm_6, .ref tn, vm_8, vm_9, vm_10, vm_11, vm_12, vm_13, vm_14, vm_15, vm_16, vm_17, vm_18, vm_19, vm_20, vm_21, vm_22, vm_23])), (hs, .inl (cI, 45, .inl f)), (tn, .inl (cI, 45, .inl g)), (ln, .inl (cI, 8, .inl lf)), (mn, .inl (cI, 8, .inl sf)), (it, .inl (cI, 320, .inl tf))]) [0, 1, 2, 3, 4, 5] (by decide) rfl
        exact wt_iret hx hb hr hlocks hP9 hD9 hS ⟨g, sv, rfl⟩ dX6_frosts_45
      · skip
        obtain ⟨j_12, hj_12, hj_12b, rfl⟩ := wI_nat (a := 0) (b := 7) (by omega) (by omega) c_11
        refine lv_iload hx hb dX6_frosts_30 (lv_at hl 5 rfl) ?_
        refine lv_i2l hx hb dX6_frosts_32 rfl ?_
        refine lv_lconst (v := 1) hx hb dX6_frosts_33 (by decide) ?_
        refine lv_ldc2 hx hb hown wl265 dX6_frosts_34 ?_
        refine wt_rS (As := [.long a5.toInt64, .long 1, .long 12]) (rest := []) ⟨hx, hb, hml, hown, hts⟩ (c_X6_in l D cI cZ cH a5.toInt64 1 12) (va_cwS 3 hts gX6_frosts_X6_in rfl rfl rfl (by decide +kernel) ⟨Nat.le_of_ble_eq_true rfl, Nat.le_of_ble_eq_true rfl⟩) hK hP [] rfl rfl hl.1 rfl (Nat.le_of_ble_eq_true rfl) dX6_frosts_37 ⟨Nat.le_of_ble_eq_true rfl, Nat.le_of_ble_eq_true rfl⟩ (fun r_13 e_14 => ?_)
        subst e_14
        refine wt_top (z := wI a5 1 12) (wL_I' (by decide) (by decide)) ?_
        refine lv_if_ne (tgt := 46) hx hb dX6_frosts_40 (by decide) (fun c_15 => ?_) (fun c_15 => ?_)
        · skip
          obtain ⟨j_16, hj_16, hj_16b, rfl⟩ := wI_nat (a := 1) (b := 12) (by omega) (by omega) c_15
          refine lv_aload_n hx hb dX6_frosts_46 rfl (lv_at hl 0 rfl) ?_
          refine lv_iload_n hx hb dX6_frosts_47 rfl (lv_at hl 3 rfl) ?_
          refine lv_iload hx hb dX6_frosts_48 (lv_at hl 4 rfl) ?_
          refine lv_iload hx hb dX6_frosts_50 (lv_at hl 5 rfl) ?_
          refine wt_goI (wr := [(hs, .inl (cI, 45, .inl f)), (tn, .inl (cI, 45, .inl g))]) (wt_runV (As := [.int (nI j_12), .int a4, .int (nI j_16)]) (rest := []) ⟨hx, hb, hml, hown, hts⟩ (c_X6_rowFound l D cI cZ cH md ln mn it lf sf tf j_12 j_16 sv a4 (.int 0) (.ref hs) vm_6 (.ref tn) vm_8 vm_9 vm_10 vm_11 vm_12 vm_13 vm_14 vm_15 vm_16 vm_17 vm_18 vm_19 vm_20 vm_21 vm_22 vm_23 (by first | assumption | omega) (by first | assumption | omega) (by first | assumption | omega)) (cwV 3 hts gX6_frosts_X6_rowFound rfl rfl rfl (by decide +kernel) ⟨Nat.le_of_ble_eq_true rfl, Nat.le_of_ble_eq_true rfl⟩) hK hP hD [0, 3, 4, 5] rfl (by decide) (va_recv hK.1 hP (ci := 6) (q0 := 0) rfl rfl) rfl hl.1 rfl (Nat.le_of_ble_eq_true rfl) dX6_frosts_52 ⟨Nat.le_of_ble_eq_true rfl, Nat.le_of_ble_eq_true rfl⟩) hP hD hS hA [0, 3, 4, 5] [1, 2] rfl rfl (by decide) (by decide) (fun r_17 w_18 H locs h_19 hP hD hS => ?_)
          obtain ⟨md_f1_20, rfl, x_21⟩ := h_19
          have hP : va_P D vwCl [(hs, .inl (cI, 45, .inl f)), (tn, .inl (cI, 45, .inl g)), (md, .inr (6, [.int 0, .int md_f1_20, .ref ln, .ref mn, .ref it, .ref hs, vm_6, .ref tn, vm_8, vm_9, vm_10, vm_11, vm_12, vm_13, vm_14, vm_15, vm_16, vm_17, vm_18, vm_19, vm_20, vm_21, vm_22, vm_23])), (ln, .inl (cI, 8, .inl lf)), (mn, .inl (cI, 8, .inl sf)), (it, .inl (cI, 320, .inl tf))] H := hP
          have hD : va_D A [(hs, .inl (cI, 45, .inl f)), (tn, .inl (cI, 45, .inl g)), (md, .inr (6, [.int 0, .int md_f1_20, .ref ln, .ref mn, .ref it, .ref hs, vm_6, .ref tn, vm_8, vm_9, vm_10, vm_11, vm_12, vm_13, vm_14, vm_15, vm_16, vm_17, vm_18, vm_19, vm_20, vm_21, vm_22, vm_23])), (ln, .inl (cI, 8, .inl lf)), (mn, .inl (cI, 8, .inl sf)), (it, .inl (cI, 320, .inl tf))] := hD
          refine lv_istore (lv' := [(6, .int r_17), (0, .ref md), (1, .int (nI j_4)), (2, .int (nI j_8)), (3, .int (nI j_12)), (4, .int a4), (5, .int (nI j_16))]) hx hb dX6_frosts_55 hl (by decide) rfl (fun ls hl => ?_)
          refine lv_iload hx hb dX6_frosts_57 (lv_at hl 0 rfl) ?_
          refine lv_if_eq (tgt := 65) hx hb dX6_frosts_59 (by decide) (fun c_22 => ?_) (fun c_22 => ?_)
          · skip
            obtain ⟨i_23, e_24, h_25⟩ := x_21 c_22
            subst e_24
            rcases (show j_8 = 0 ∨ j_8 = 1 by omega) with hw0 | hw0
            · skip
              subst hw0
              have hl : lv_has ls 9 [(6, .int r_17), (0, .ref md), (1, .int (nI j_4)), (2, .int 0), (3, .int (nI j_12)), (4, .int (nI i_23)), (5, .int (nI j_16))] := hl
              refine lv_iconst (v := 0) hx hb dX6_frosts_65 (by decide) ?_
              refine lv_istore (lv' := [(7, .int 0), (6, .int r_17), (0, .ref md), (1, .int (nI j_4)), (2, .int 0), (3, .int (nI j_12)), (4, .int (nI i_23)), (5, .int (nI j_16))]) hx hb dX6_frosts_66 hl (by decide) rfl (fun ls hl => ?_)
              refine lv_iconst (v := 0) hx hb dX6_frosts_68 (by decide) ?_
              refine lv_istore (lv' := [(8, .int 0), (7, .int 0), (6, .int r_17), (0, .ref md), (1, .int (nI j_4)), (2, .int 0), (3, .int (nI j_12)), (4, .int (nI i_23)), (5, .int (nI j_16))]) hx hb dX6_frosts_69 hl (by decide) rfl (fun ls hl => ?_)
              have loop71 : ∀ (k i_26 : Nat) (g_27 : Nat → Int32) (y_28 : Int32) (H : Heap) (locs : List Loc) (ls : Array Slot), i_26 + k = 10 → va_P D vwCl [(hs, .inl (cI, 45, .inl f)), (tn, .inl (cI, 45, .inl g_27)), (md, .inr (6, [.int 0, .int md_f1_20, .ref ln, .ref mn, .ref it, .ref hs, vm_6, .ref tn, vm_8, vm_9, vm_10, vm_11, vm_12, vm_13, vm_14, vm_15, vm_16, vm_17, vm_18, vm_19, vm_20, vm_21, vm_22, vm_23])), (ln, .inl (cI, 8, .inl lf)), (mn, .inl (cI, 8, .inl sf)), (it, .inl (cI, 320, .inl tf))] H → va_D A [(hs, .inl (cI, 45, .inl f)), (tn, .inl (cI, 45, .inl g_27)), (md, .inr (6, [.int 0, .int md_f1_20, .ref ln, .ref mn, .ref it, .ref hs, vm_6, .ref tn, vm_8, vm_9, vm_10, vm_11, vm_12, vm_13, vm_14, vm_15, vm_16, vm_17, vm_18, vm_19, vm_20, vm_21, vm_22, vm_23])), (ln, .inl (cI, 8, .inl lf)), (mn, .inl (cI, 8, .inl sf)), (it, .inl (cI, 320, .inl tf))] → va_S A s.heap H locs → lv_has ls 9 [(8, .int (nI i_26)), (7, .int y_28), (6, .int r_17), (0, .ref md), (1, .int (nI j_4)), (2, .int 0), (3, .int (nI j_12)), (4, .int (nI i_23)), (5, .int (nI j_16))] → W p l e ({ frames := 5, cells := 0, slots := 0, locals := 116 } : Room) s m ([.ref md, .int (nI j_4), .int (nI 0), .int (nI j_12), .int (nI i_23), .int (nI j_16)] : List Value).toArray below meth c H locs 0 0 (MQ below (wt_QI D (fun r w => ∃ (g2 : Nat → Int32) (md_f1 : Int32), w = [(md, .inr (6, [.int 0, .int md_f1, .ref ln, .ref mn, .ref it, .ref hs, vm_6, .ref tn, vm_8, vm_9, vm_10, vm_11, vm_12, vm_13, vm_14, vm_15, vm_16, vm_17, vm_18, vm_19, vm_20, vm_21, vm_22, vm_23])), (hs, .inl (cI, 45, .inl f)), (tn, .inl (cI, 45, .inl g2)), (ln, .inl (cI, 8, .inl lf)), (mn, .inl (cI, 8, .inl sf)), (it, .inl (cI, 320, .inl tf))]) A) ([.ref md, .int (nI j_4), .int (nI 0), .int (nI j_12), .int (nI i_23), .int (nI j_16)] : List Value).toArray s 0 0 A) (F0 m 71 ls []) := by
                intro k
                induction k with
                | zero =>
                  intro i_26 g_27 y_28 H locs ls hik  hP hD hS hl
                  refine lv_iload hx hb dX6_frosts_71 (lv_at hl 0 rfl) ?_
                  refine lv_bipush (v := 10) hx hb dX6_frosts_73 (by decide) ?_
                  refine lv_icmp_ge (tgt := 130) hx hb dX6_frosts_75 (by decide) (fun _ => ?_) (fun h => absurd (nI_le (a := 10) (b := i_26) (by omega) (by omega)) h)
                  refine lv_iconst (v := 0) hx hb dX6_frosts_130 (by decide) ?_
                  refine lv_istore (lv' := [(8, .int 0), (7, .int y_28), (6, .int r_17), (0, .ref md), (1, .int (nI j_4)), (2, .int 0), (3, .int (nI j_12)), (4, .int (nI i_23)), (5, .int (nI j_16))]) hx hb dX6_frosts_131 hl (by decide) rfl (fun ls hl => ?_)
                  refine lv_iload hx hb dX6_frosts_133 (lv_at hl 0 rfl) ?_
                  refine lv_aload_n hx hb dX6_frosts_135 rfl (lv_at hl 3 rfl) ?_
                  refine va_get (D := D) (ci := 6) (v := .ref hs) (C := RX6) (T := TX6) (N := 24) hx hb hts hi6 hown hK.1 hP 2 rfl rfl 5 (by decide) wf19 (fun _ h9 => h9) rfl dX6_frosts_136 ?_
                  refine lv_iconst (v := 1) hx hb dX6_frosts_139 (by decide) ?_
                  refine va_iald hx hb hK.1 hP 0 0 rfl rfl (by rw [vp_in_iff]; decide) dX6_frosts_140 ?_
                  refine wt_top (z := nI T) (hrk.2.1) ?_
                  refine lv_icmp_gt (tgt := 224) hx hb dX6_frosts_141 (by decide) (fun c_29 => ?_) (fun c_29 => ?_)
                  · skip
                    have c_29 : T < 0 := (nI_ltI (a := T) (b := 0) (by omega) (by omega)).mp c_29
                    refine lv_iload hx hb dX6_frosts_224 (lv_at hl 1 rfl) ?_
                    have hP9 := hP.sub (ws' := [(md, .inr (6, [.int 0, .int md_f1_20, .ref ln, .ref mn, .ref it, .ref hs, vm_6, .ref tn, vm_8, vm_9, vm_10, vm_11, vm_12, vm_13, vm_14, vm_15, vm_16, vm_17, vm_18, vm_19, vm_20, vm_21, vm_22, vm_23])), (hs, .inl (cI, 45, .inl f)), (tn, .inl (cI, 45, .inl g_27)), (ln, .inl (cI, 8, .inl lf)), (mn, .inl (cI, 8, .inl sf)), (it, .inl (cI, 320, .inl tf))]) [2, 0, 1, 3, 4, 5] rfl
                    have hD9 := hD.sub (ws' := [(md, .inr (6, [.int 0, .int md_f1_20, .ref ln, .ref mn, .ref it, .ref hs, vm_6, .ref tn, vm_8, vm_9, vm_10, vm_11, vm_12, vm_13, vm_14, vm_15, vm_16, vm_17, vm_18, vm_19, vm_20, vm_21, vm_22, vm_23])), (hs, .inl (cI, 45, .inl f)), (tn, .inl (cI, 45, .inl g_27)), (ln, .inl (cI, 8, .inl lf)), (mn, .inl (cI, 8, .inl sf)), (it, .inl (cI, 320, .inl tf))]) [2, 0, 1, 3, 4, 5] (by decide) rfl
                    exact wt_iret hx hb hr hlocks hP9 hD9 hS ⟨g_27, md_f1_20, rfl⟩ dX6_frosts_226
                  · skip
                    have c_29 : ¬ (T < 0) := fun h => c_29 ((nI_ltI (a := T) (b := 0) (by omega) (by omega)).mpr h)
                    refine lv_iload_n hx hb dX6_frosts_144 rfl (lv_at hl 5 rfl) ?_
                    refine lv_iconst (v := 1) hx hb dX6_frosts_145 (by decide) ?_
                    refine lv_icmp_ne (tgt := 224) hx hb dX6_frosts_146 (by decide) (fun _ => ?_) (fun h => absurd h (by decide))
                    refine lv_iload hx hb dX6_frosts_224 (lv_at hl 1 rfl) ?_
                    have hP9 := hP.sub (ws' := [(md, .inr (6, [.int 0, .int md_f1_20, .ref ln, .ref mn, .ref it, .ref hs, vm_6, .ref tn, vm_8, vm_9, vm_10, vm_11, vm_12, vm_13, vm_14, vm_15, vm_16, vm_17, vm_18, vm_19, vm_20, vm_21, vm_22, vm_23])), (hs, .inl (cI, 45, .inl f)), (tn, .inl (cI, 45, .inl g_27)), (ln, .inl (cI, 8, .inl lf)), (mn, .inl (cI, 8, .inl sf)), (it, .inl (cI, 320, .inl tf))]) [2, 0, 1, 3, 4, 5] rfl
                    have hD9 := hD.sub (ws' := [(md, .inr (6, [.int 0, .int md_f1_20, .ref ln, .ref mn, .ref it, .ref hs, vm_6, .ref tn, vm_8, vm_9, vm_10, vm_11, vm_12, vm_13, vm_14, vm_15, vm_16, vm_17, vm_18, vm_19, vm_20, vm_21, vm_22, vm_23])), (hs, .inl (cI, 45, .inl f)), (tn, .inl (cI, 45, .inl g_27)), (ln, .inl (cI, 8, .inl lf)), (mn, .inl (cI, 8, .inl sf)), (it, .inl (cI, 320, .inl tf))]) [2, 0, 1, 3, 4, 5] (by decide) rfl
                    exact wt_iret hx hb hr hlocks hP9 hD9 hS ⟨g_27, md_f1_20, rfl⟩ dX6_frosts_226
                | succ k ih71 =>
                  intro i_26 g_27 y_28 H locs ls hik  hP hD hS hl
                  refine lv_iload hx hb dX6_frosts_71 (lv_at hl 0 rfl) ?_
                  refine lv_bipush (v := 10) hx hb dX6_frosts_73 (by decide) ?_
                  refine lv_icmp_ge (tgt := 130) hx hb dX6_frosts_75 (by decide) (fun h => absurd h (nI_ge (a := i_26) (b := 10) (by omega) (by omega))) (fun _ => ?_)
                  refine lv_iload_n hx hb dX6_frosts_78 rfl (lv_at hl 5 rfl) ?_
                  refine lv_if_ne (tgt := 130) hx hb dX6_frosts_79 (by decide) (fun h => absurd h (by decide)) (fun _ => ?_)
                  refine lv_aload_n hx hb dX6_frosts_82 rfl (lv_at hl 3 rfl) ?_
                  refine wt_goV (wr := [(ln, .inl (cI, 8, .inl lf)), (mn, .inl (cI, 8, .inl sf)), (it, .inl (cI, 320, .inl tf))]) (wt_runV (As := []) (rest := []) ⟨hx, hb, hml, hown, hts⟩ (c_X6_layThen l D cI cZ cH md hs R T f tn g_27 (.int 0) (.int md_f1_20) (.ref ln) (.ref mn) (.ref it) vm_6 vm_8 vm_9 vm_10 vm_11 vm_12 vm_13 vm_14 vm_15 vm_16 vm_17 vm_18 vm_19 vm_20 vm_21 vm_22 vm_23 (by first | assumption | omega) (by first | assumption | omega) (by first | assumption | omega)) (cwV 0 hts gX6_frosts_X6_layThen rfl rfl rfl (by decide +kernel) ⟨Nat.le_of_ble_eq_true rfl, Nat.le_of_ble_eq_true rfl⟩) hK hP hD [2, 0, 1] rfl (by decide) (va_recv hK.1 hP (ci := 6) (q0 := 2) rfl rfl) rfl hl.1 rfl (Nat.le_of_ble_eq_true rfl) dX6_frosts_83 ⟨Nat.le_of_ble_eq_true rfl, Nat.le_of_ble_eq_true rfl⟩) hP hD hS hA [2, 0, 1] [3, 4, 5] rfl rfl (by decide) (by decide) (fun w_31 H locs h_32 hP hD hS => ?_)
                  obtain ⟨g2_33, rfl, x_34⟩ := h_32
                  have hP : va_P D vwCl [(ln, .inl (cI, 8, .inl lf)), (mn, .inl (cI, 8, .inl sf)), (it, .inl (cI, 320, .inl tf)), (md, .inr (6, [.int 0, .int md_f1_20, .ref ln, .ref mn, .ref it, .ref hs, vm_6, .ref tn, vm_8, vm_9, vm_10, vm_11, vm_12, vm_13, vm_14, vm_15, vm_16, vm_17, vm_18, vm_19, vm_20, vm_21, vm_22, vm_23])), (hs, .inl (cI, 45, .inl f)), (tn, .inl (cI, 45, .inl g2_33))] H := hP
                  have hD : va_D A [(ln, .inl (cI, 8, .inl lf)), (mn, .inl (cI, 8, .inl sf)), (it, .inl (cI, 320, .inl tf)), (md, .inr (6, [.int 0, .int md_f1_20, .ref ln, .ref mn, .ref it, .ref hs, vm_6, .ref tn, vm_8, vm_9, vm_10, vm_11, vm_12, vm_13, vm_14, vm_15, vm_16, vm_17, vm_18, vm_19, vm_20, vm_21, vm_22, vm_23])), (hs, .inl (cI, 45, .inl f)), (tn, .inl (cI, 45, .inl g2_33))] := hD
                  refine lv_aload_n hx hb dX6_frosts_86 rfl (lv_at hl 3 rfl) ?_
                  refine va_get (D := D) (ci := 6) (v := .ref tn) (C := RX6) (T := TX6) (N := 24) hx hb hts hi6 hown hK.1 hP 3 rfl rfl 7 (by decide) wf25 (fun _ h9 => h9) rfl dX6_frosts_87 ?_
                  refine lv_iconst (v := 2) hx hb dX6_frosts_90 (by decide) ?_
                  refine lv_iload hx hb dX6_frosts_91 (lv_at hl 0 rfl) ?_
                  refine va_iast hx hb hK.1 hP hD hS 5 0 rfl rfl (by rw [vp_in_iff]; decide) dX6_frosts_93 (fun H locs hP hD hS => ?_)
                  have hP : va_P D vwCl [(ln, .inl (cI, 8, .inl lf)), (mn, .inl (cI, 8, .inl sf)), (it, .inl (cI, 320, .inl tf)), (md, .inr (6, [.int 0, .int md_f1_20, .ref ln, .ref mn, .ref it, .ref hs, vm_6, .ref tn, vm_8, vm_9, vm_10, vm_11, vm_12, vm_13, vm_14, vm_15, vm_16, vm_17, vm_18, vm_19, vm_20, vm_21, vm_22, vm_23])), (hs, .inl (cI, 45, .inl f)), (tn, .inl (cI, 45, .inl (upd g2_33 (Int32.toNatClampNeg 2) (nI i_26))))] H := hP
                  have hD : va_D A [(ln, .inl (cI, 8, .inl lf)), (mn, .inl (cI, 8, .inl sf)), (it, .inl (cI, 320, .inl tf)), (md, .inr (6, [.int 0, .int md_f1_20, .ref ln, .ref mn, .ref it, .ref hs, vm_6, .ref tn, vm_8, vm_9, vm_10, vm_11, vm_12, vm_13, vm_14, vm_15, vm_16, vm_17, vm_18, vm_19, vm_20, vm_21, vm_22, vm_23])), (hs, .inl (cI, 45, .inl f)), (tn, .inl (cI, 45, .inl (upd g2_33 (Int32.toNatClampNeg 2) (nI i_26))))] := hD
                  have rk_35 : rk R T (upd g2_33 (Int32.toNatClampNeg 2) (nI i_26)) := rk_upd (k := 2) x_34 rfl (by omega) _
                  generalize upd g2_33 (Int32.toNatClampNeg 2) (nI i_26) = rf_36 at hP hD rk_35
                  refine lv_iload hx hb dX6_frosts_94 (lv_at hl 1 rfl) ?_
                  refine lv_aload_n hx hb dX6_frosts_96 rfl (lv_at hl 3 rfl) ?_
                  refine lv_iload_n hx hb dX6_frosts_97 rfl (lv_at hl 4 rfl) ?_
                  refine lv_bipush (v := 40) hx hb dX6_frosts_98 (by decide) ?_
                  refine lv_iload_n hx hb dX6_frosts_100 rfl (lv_at hl 6 rfl) ?_
                  refine lv_imul hx hb dX6_frosts_101 ?_
                  refine wt_top (z := nI (40 * j_12)) (pk_mul 40 j_12) ?_
                  refine lv_iload hx hb dX6_frosts_102 (lv_at hl 7 rfl) ?_
                  refine lv_iadd hx hb dX6_frosts_104 ?_
                  refine wt_top (z := nI ((40 * j_12) + i_23)) (nI_add (40 * j_12) i_23) ?_
                  refine lv_iload hx hb dX6_frosts_105 (lv_at hl 8 rfl) ?_
                  refine wt_goI (wr := [(ln, .inl (cI, 8, .inl lf)), (mn, .inl (cI, 8, .inl sf)), (hs, .inl (cI, 45, .inl f))]) (wt_runV (As := [.int (nI j_4), .int (nI ((40 * j_12) + i_23)), .int (nI j_16)]) (rest := [.int y_28]) ⟨hx, hb, hml, hown, hts⟩ (c_X6_warmSo l D cI cZ cH md tn it R T j_4 ((40 * j_12) + i_23) j_16 rf_36 tf (.int 0) (.int md_f1_20) (.ref ln) (.ref mn) (.ref hs) vm_6 vm_8 vm_9 vm_10 vm_11 vm_12 vm_13 vm_14 vm_15 vm_16 vm_17 vm_18 vm_19 vm_20 vm_21 vm_22 vm_23 (by first | assumption | omega) (by first | assumption | omega) (by first | assumption | omega) (by first | assumption | omega) (by first | assumption | omega) (by first | assumption | omega)) (cwV 3 hts gX6_frosts_X6_warmSo rfl rfl rfl (by decide +kernel) ⟨Nat.le_of_ble_eq_true rfl, Nat.le_of_ble_eq_true rfl⟩) hK hP hD [3, 5, 2] rfl (by decide) (va_recv hK.1 hP (ci := 6) (q0 := 3) rfl rfl) rfl hl.1 rfl (Nat.le_of_ble_eq_true rfl) dX6_frosts_107 ⟨Nat.le_of_ble_eq_true rfl, Nat.le_of_ble_eq_true rfl⟩) hP hD hS hA [3, 5, 2] [0, 1, 4] rfl rfl (by decide) (by decide) (fun r_37 w_38 H locs h_39 hP hD hS => ?_)
                  obtain ⟨g2_40, rfl⟩ := h_39
                  have hP : va_P D vwCl [(ln, .inl (cI, 8, .inl lf)), (mn, .inl (cI, 8, .inl sf)), (hs, .inl (cI, 45, .inl f)), (md, .inr (6, [.int 0, .int md_f1_20, .ref ln, .ref mn, .ref it, .ref hs, vm_6, .ref tn, vm_8, vm_9, vm_10, vm_11, vm_12, vm_13, vm_14, vm_15, vm_16, vm_17, vm_18, vm_19, vm_20, vm_21, vm_22, vm_23])), (tn, .inl (cI, 45, .inl g2_40)), (it, .inl (cI, 320, .inl tf))] H := hP
                  have hD : va_D A [(ln, .inl (cI, 8, .inl lf)), (mn, .inl (cI, 8, .inl sf)), (hs, .inl (cI, 45, .inl f)), (md, .inr (6, [.int 0, .int md_f1_20, .ref ln, .ref mn, .ref it, .ref hs, vm_6, .ref tn, vm_8, vm_9, vm_10, vm_11, vm_12, vm_13, vm_14, vm_15, vm_16, vm_17, vm_18, vm_19, vm_20, vm_21, vm_22, vm_23])), (tn, .inl (cI, 45, .inl g2_40)), (it, .inl (cI, 320, .inl tf))] := hD
                  refine lv_if_eq (tgt := 120) hx hb dX6_frosts_110 (by decide) (fun c_41 => ?_) (fun c_41 => ?_)
                  · skip
                    refine lv_iconst (v := 0) hx hb dX6_frosts_120 (by decide) ?_
                    refine lv_ior hx hb dX6_frosts_121 ?_
                    refine lv_topi (fun ov_42 _ => ?_)
                    refine lv_istore (lv' := [(7, .int ov_42), (8, .int (nI i_26)), (6, .int r_17), (0, .ref md), (1, .int (nI j_4)), (2, .int 0), (3, .int (nI j_12)), (4, .int (nI i_23)), (5, .int (nI j_16))]) hx hb dX6_frosts_122 hl (by decide) rfl (fun ls hl => ?_)
                    refine lv_iinc (v := nI (i_26 + 1)) (lv' := [(8, .int (nI (i_26 + 1))), (7, .int ov_42), (6, .int r_17), (0, .ref md), (1, .int (nI j_4)), (2, .int 0), (3, .int (nI j_12)), (4, .int (nI i_23)), (5, .int (nI j_16))]) hx hb dX6_frosts_124 hl (k := 1) rfl (nI_add i_26 1) (by decide) rfl (fun ls hl => ?_)
                    refine lv_goto (tgt := 71) hx hb dX6_frosts_127 (by decide) ?_
                    exact ih71 ((i_26 + 1)) g2_40 ov_42 H locs ls (by omega)  (hP.sub [2, 4, 3, 0, 1, 5] rfl) (hD.sub [2, 4, 3, 0, 1, 5] (by decide) rfl) hS (lv_sub hl [0, 1, 2, 3, 4, 5, 6, 7, 8] rfl)
                  · skip
                    refine lv_iconst (v := 1) hx hb dX6_frosts_113 (by decide) ?_
                    refine lv_iload hx hb dX6_frosts_114 (lv_at hl 0 rfl) ?_
                    refine lv_ishl hx hb dX6_frosts_116 ?_
                    refine wt_top (z := nI (2 ^ i_26)) (wt_shl1 (by omega)) ?_
                    refine lv_goto (tgt := 121) hx hb dX6_frosts_117 (by decide) ?_
                    refine lv_ior hx hb dX6_frosts_121 ?_
                    refine lv_topi (fun ov_43 _ => ?_)
                    refine lv_istore (lv' := [(7, .int ov_43), (8, .int (nI i_26)), (6, .int r_17), (0, .ref md), (1, .int (nI j_4)), (2, .int 0), (3, .int (nI j_12)), (4, .int (nI i_23)), (5, .int (nI j_16))]) hx hb dX6_frosts_122 hl (by decide) rfl (fun ls hl => ?_)
                    refine lv_iinc (v := nI (i_26 + 1)) (lv' := [(8, .int (nI (i_26 + 1))), (7, .int ov_43), (6, .int r_17), (0, .ref md), (1, .int (nI j_4)), (2, .int 0), (3, .int (nI j_12)), (4, .int (nI i_23)), (5, .int (nI j_16))]) hx hb dX6_frosts_124 hl (k := 1) rfl (nI_add i_26 1) (by decide) rfl (fun ls hl => ?_)
                    refine lv_goto (tgt := 71) hx hb dX6_frosts_127 (by decide) ?_
                    exact ih71 ((i_26 + 1)) g2_40 ov_43 H locs ls (by omega)  (hP.sub [2, 4, 3, 0, 1, 5] rfl) (hD.sub [2, 4, 3, 0, 1, 5] (by decide) rfl) hS (lv_sub hl [0, 1, 2, 3, 4, 5, 6, 7, 8] rfl)
              exact loop71 (10 - 0) (0) g 0 _ _ ls (by omega)  hP hD hS hl
            · skip
              subst hw0
              have hl : lv_has ls 9 [(6, .int r_17), (0, .ref md), (1, .int (nI j_4)), (2, .int 1), (3, .int (nI j_12)), (4, .int (nI i_23)), (5, .int (nI j_16))] := hl
              refine lv_iconst (v := 0) hx hb dX6_frosts_65 (by decide) ?_
              refine lv_istore (lv' := [(7, .int 0), (6, .int r_17), (0, .ref md), (1, .int (nI j_4)), (2, .int 1), (3, .int (nI j_12)), (4, .int (nI i_23)), (5, .int (nI j_16))]) hx hb dX6_frosts_66 hl (by decide) rfl (fun ls hl => ?_)
              refine lv_iconst (v := 0) hx hb dX6_frosts_68 (by decide) ?_
              refine lv_istore (lv' := [(8, .int 0), (7, .int 0), (6, .int r_17), (0, .ref md), (1, .int (nI j_4)), (2, .int 1), (3, .int (nI j_12)), (4, .int (nI i_23)), (5, .int (nI j_16))]) hx hb dX6_frosts_69 hl (by decide) rfl (fun ls hl => ?_)
              refine lv_iload hx hb dX6_frosts_71 (lv_at hl 0 rfl) ?_
              refine lv_bipush (v := 10) hx hb dX6_frosts_73 (by decide) ?_
              refine lv_icmp_ge (tgt := 130) hx hb dX6_frosts_75 (by decide) (fun h => absurd h (by decide)) (fun _ => ?_)
              refine lv_iload_n hx hb dX6_frosts_78 rfl (lv_at hl 5 rfl) ?_
              refine lv_if_ne (tgt := 130) hx hb dX6_frosts_79 (by decide) (fun _ => ?_) (fun h => absurd h (by decide))
              refine lv_iconst (v := 0) hx hb dX6_frosts_130 (by decide) ?_
              refine lv_istore (lv' := [(8, .int 0), (7, .int 0), (6, .int r_17), (0, .ref md), (1, .int (nI j_4)), (2, .int 1), (3, .int (nI j_12)), (4, .int (nI i_23)), (5, .int (nI j_16))]) hx hb dX6_frosts_131 hl (by decide) rfl (fun ls hl => ?_)
              have loop133 : ∀ (k i_44 : Nat) (g_45 : Nat → Int32) (y_46 : Int32) (H : Heap) (locs : List Loc) (ls : Array Slot), i_44 + k = T + 1 → va_P D vwCl [(hs, .inl (cI, 45, .inl f)), (tn, .inl (cI, 45, .inl g_45)), (md, .inr (6, [.int 0, .int md_f1_20, .ref ln, .ref mn, .ref it, .ref hs, vm_6, .ref tn, vm_8, vm_9, vm_10, vm_11, vm_12, vm_13, vm_14, vm_15, vm_16, vm_17, vm_18, vm_19, vm_20, vm_21, vm_22, vm_23])), (ln, .inl (cI, 8, .inl lf)), (mn, .inl (cI, 8, .inl sf)), (it, .inl (cI, 320, .inl tf))] H → va_D A [(hs, .inl (cI, 45, .inl f)), (tn, .inl (cI, 45, .inl g_45)), (md, .inr (6, [.int 0, .int md_f1_20, .ref ln, .ref mn, .ref it, .ref hs, vm_6, .ref tn, vm_8, vm_9, vm_10, vm_11, vm_12, vm_13, vm_14, vm_15, vm_16, vm_17, vm_18, vm_19, vm_20, vm_21, vm_22, vm_23])), (ln, .inl (cI, 8, .inl lf)), (mn, .inl (cI, 8, .inl sf)), (it, .inl (cI, 320, .inl tf))] → va_S A s.heap H locs → lv_has ls 9 [(8, .int (nI i_44)), (7, .int y_46), (6, .int r_17), (0, .ref md), (1, .int (nI j_4)), (2, .int 1), (3, .int (nI j_12)), (4, .int (nI i_23)), (5, .int (nI j_16))] → W p l e ({ frames := 5, cells := 0, slots := 0, locals := 116 } : Room) s m ([.ref md, .int (nI j_4), .int (nI 1), .int (nI j_12), .int (nI i_23), .int (nI j_16)] : List Value).toArray below meth c H locs 0 0 (MQ below (wt_QI D (fun r w => ∃ (g2 : Nat → Int32) (md_f1 : Int32), w = [(md, .inr (6, [.int 0, .int md_f1, .ref ln, .ref mn, .ref it, .ref hs, vm_6, .ref tn, vm_8, vm_9, vm_10, vm_11, vm_12, vm_13, vm_14, vm_15, vm_16, vm_17, vm_18, vm_19, vm_20, vm_21, vm_22, vm_23])), (hs, .inl (cI, 45, .inl f)), (tn, .inl (cI, 45, .inl g2)), (ln, .inl (cI, 8, .inl lf)), (mn, .inl (cI, 8, .inl sf)), (it, .inl (cI, 320, .inl tf))]) A) ([.ref md, .int (nI j_4), .int (nI 1), .int (nI j_12), .int (nI i_23), .int (nI j_16)] : List Value).toArray s 0 0 A) (F0 m 133 ls []) := by
                intro k
                induction k with
                | zero =>
                  intro i_44 g_45 y_46 H locs ls hik  hP hD hS hl
                  refine lv_iload hx hb dX6_frosts_133 (lv_at hl 0 rfl) ?_
                  refine lv_aload_n hx hb dX6_frosts_135 rfl (lv_at hl 3 rfl) ?_
                  refine va_get (D := D) (ci := 6) (v := .ref hs) (C := RX6) (T := TX6) (N := 24) hx hb hts hi6 hown hK.1 hP 2 rfl rfl 5 (by decide) wf19 (fun _ h9 => h9) rfl dX6_frosts_136 ?_
                  refine lv_iconst (v := 1) hx hb dX6_frosts_139 (by decide) ?_
                  refine va_iald hx hb hK.1 hP 0 0 rfl rfl (by rw [vp_in_iff]; decide) dX6_frosts_140 ?_
                  refine wt_top (z := nI T) (hrk.2.1) ?_
                  refine lv_icmp_gt (tgt := 224) hx hb dX6_frosts_141 (by decide) (fun _ => ?_) (fun h => absurd (nI_lt (a := T) (b := i_44) (by omega) (by omega)) h)
                  refine lv_iload hx hb dX6_frosts_224 (lv_at hl 1 rfl) ?_
                  have hP9 := hP.sub (ws' := [(md, .inr (6, [.int 0, .int md_f1_20, .ref ln, .ref mn, .ref it, .ref hs, vm_6, .ref tn, vm_8, vm_9, vm_10, vm_11, vm_12, vm_13, vm_14, vm_15, vm_16, vm_17, vm_18, vm_19, vm_20, vm_21, vm_22, vm_23])), (hs, .inl (cI, 45, .inl f)), (tn, .inl (cI, 45, .inl g_45)), (ln, .inl (cI, 8, .inl lf)), (mn, .inl (cI, 8, .inl sf)), (it, .inl (cI, 320, .inl tf))]) [2, 0, 1, 3, 4, 5] rfl
                  have hD9 := hD.sub (ws' := [(md, .inr (6, [.int 0, .int md_f1_20, .ref ln, .ref mn, .ref it, .ref hs, vm_6, .ref tn, vm_8, vm_9, vm_10, vm_11, vm_12, vm_13, vm_14, vm_15, vm_16, vm_17, vm_18, vm_19, vm_20, vm_21, vm_22, vm_23])), (hs, .inl (cI, 45, .inl f)), (tn, .inl (cI, 45, .inl g_45)), (ln, .inl (cI, 8, .inl lf)), (mn, .inl (cI, 8, .inl sf)), (it, .inl (cI, 320, .inl tf))]) [2, 0, 1, 3, 4, 5] (by decide) rfl
                  exact wt_iret hx hb hr hlocks hP9 hD9 hS ⟨g_45, md_f1_20, rfl⟩ dX6_frosts_226
                | succ k ih133 =>
                  intro i_44 g_45 y_46 H locs ls hik  hP hD hS hl
                  refine lv_iload hx hb dX6_frosts_133 (lv_at hl 0 rfl) ?_
                  refine lv_aload_n hx hb dX6_frosts_135 rfl (lv_at hl 3 rfl) ?_
                  refine va_get (D := D) (ci := 6) (v := .ref hs) (C := RX6) (T := TX6) (N := 24) hx hb hts hi6 hown hK.1 hP 2 rfl rfl 5 (by decide) wf19 (fun _ h9 => h9) rfl dX6_frosts_136 ?_
                  refine lv_iconst (v := 1) hx hb dX6_frosts_139 (by decide) ?_
                  refine va_iald hx hb hK.1 hP 0 0 rfl rfl (by rw [vp_in_iff]; decide) dX6_frosts_140 ?_
                  refine wt_top (z := nI T) (hrk.2.1) ?_
                  refine lv_icmp_gt (tgt := 224) hx hb dX6_frosts_141 (by decide) (fun h => absurd h (nI_nlt (a := T) (b := i_44) (by omega) (by omega))) (fun _ => ?_)
                  refine lv_iload_n hx hb dX6_frosts_144 rfl (lv_at hl 5 rfl) ?_
                  refine lv_iconst (v := 1) hx hb dX6_frosts_145 (by decide) ?_
                  refine lv_icmp_ne (tgt := 224) hx hb dX6_frosts_146 (by decide) (fun h => absurd h (by decide)) (fun _ => ?_)
                  refine lv_aload_n hx hb dX6_frosts_149 rfl (lv_at hl 3 rfl) ?_
                  refine lv_iload hx hb dX6_frosts_150 (lv_at hl 0 rfl) ?_
                  refine lv_aload_n hx hb dX6_frosts_152 rfl (lv_at hl 3 rfl) ?_
                  refine va_get (D := D) (ci := 6) (v := .ref hs) (C := RX6) (T := TX6) (N := 24) hx hb hts hi6 hown hK.1 hP 2 rfl rfl 5 (by decide) wf19 (fun _ h9 => h9) rfl dX6_frosts_153 ?_
                  refine lv_iconst (v := 1) hx hb dX6_frosts_156 (by decide) ?_
                  refine va_iald hx hb hK.1 hP 0 0 rfl rfl (by rw [vp_in_iff]; decide) dX6_frosts_157 ?_
                  refine wt_top (z := nI T) (hrk.2.1) ?_
                  refine lv_icmp_ge (tgt := 168) hx hb dX6_frosts_158 (by decide) (fun c_47 => ?_) (fun c_47 => ?_)
                  · skip
                    have c_47 : T ≤ i_44 := (nI_leI (a := T) (b := i_44) (by omega) (by omega)).mp c_47
                    refine lv_iconst (v := 0) hx hb dX6_frosts_168 (by decide) ?_
                    refine wt_goV (wr := [(ln, .inl (cI, 8, .inl lf)), (mn, .inl (cI, 8, .inl sf)), (it, .inl (cI, 320, .inl tf))]) (wt_runV (As := [.int 0]) (rest := []) ⟨hx, hb, hml, hown, hts⟩ (c_X6_layShaken l D cI cZ cH md hs R T f tn g_45 0 (.int 0) (.int md_f1_20) (.ref ln) (.ref mn) (.ref it) vm_6 vm_8 vm_9 vm_10 vm_11 vm_12 vm_13 vm_14 vm_15 vm_16 vm_17 vm_18 vm_19 vm_20 vm_21 vm_22 vm_23 (by first | assumption | omega) (by first | assumption | omega) (by first | assumption | omega)) (cwV 1 hts gX6_frosts_X6_layShaken rfl rfl rfl (by decide +kernel) ⟨Nat.le_of_ble_eq_true rfl, Nat.le_of_ble_eq_true rfl⟩) hK hP hD [2, 0, 1] rfl (by decide) (va_recv hK.1 hP (ci := 6) (q0 := 2) rfl rfl) rfl hl.1 rfl (Nat.le_of_ble_eq_true rfl) dX6_frosts_169 ⟨Nat.le_of_ble_eq_true rfl, Nat.le_of_ble_eq_true rfl⟩) hP hD hS hA [2, 0, 1] [3, 4, 5] rfl rfl (by decide) (by decide) (fun w_49 H locs h_50 hP hD hS => ?_)
                    obtain ⟨g2_51, rfl, x_52⟩ := h_50
                    have hP : va_P D vwCl [(ln, .inl (cI, 8, .inl lf)), (mn, .inl (cI, 8, .inl sf)), (it, .inl (cI, 320, .inl tf)), (md, .inr (6, [.int 0, .int md_f1_20, .ref ln, .ref mn, .ref it, .ref hs, vm_6, .ref tn, vm_8, vm_9, vm_10, vm_11, vm_12, vm_13, vm_14, vm_15, vm_16, vm_17, vm_18, vm_19, vm_20, vm_21, vm_22, vm_23])), (hs, .inl (cI, 45, .inl f)), (tn, .inl (cI, 45, .inl g2_51))] H := hP
                    have hD : va_D A [(ln, .inl (cI, 8, .inl lf)), (mn, .inl (cI, 8, .inl sf)), (it, .inl (cI, 320, .inl tf)), (md, .inr (6, [.int 0, .int md_f1_20, .ref ln, .ref mn, .ref it, .ref hs, vm_6, .ref tn, vm_8, vm_9, vm_10, vm_11, vm_12, vm_13, vm_14, vm_15, vm_16, vm_17, vm_18, vm_19, vm_20, vm_21, vm_22, vm_23])), (hs, .inl (cI, 45, .inl f)), (tn, .inl (cI, 45, .inl g2_51))] := hD
                    refine lv_iload hx hb dX6_frosts_172 (lv_at hl 1 rfl) ?_
                    refine lv_aload_n hx hb dX6_frosts_174 rfl (lv_at hl 3 rfl) ?_
                    refine lv_iload_n hx hb dX6_frosts_175 rfl (lv_at hl 4 rfl) ?_
                    refine lv_bipush (v := 40) hx hb dX6_frosts_176 (by decide) ?_
                    refine lv_iload_n hx hb dX6_frosts_178 rfl (lv_at hl 6 rfl) ?_
                    refine lv_imul hx hb dX6_frosts_179 ?_
                    refine wt_top (z := nI (40 * j_12)) (pk_mul 40 j_12) ?_
                    refine lv_iload hx hb dX6_frosts_180 (lv_at hl 7 rfl) ?_
                    refine lv_iadd hx hb dX6_frosts_182 ?_
                    refine wt_top (z := nI ((40 * j_12) + i_23)) (nI_add (40 * j_12) i_23) ?_
                    refine lv_iload hx hb dX6_frosts_183 (lv_at hl 8 rfl) ?_
                    refine wt_goI (wr := [(ln, .inl (cI, 8, .inl lf)), (mn, .inl (cI, 8, .inl sf)), (hs, .inl (cI, 45, .inl f))]) (wt_runV (As := [.int (nI j_4), .int (nI ((40 * j_12) + i_23)), .int (nI j_16)]) (rest := [.int y_46]) ⟨hx, hb, hml, hown, hts⟩ (c_X6_warmSo l D cI cZ cH md tn it R T j_4 ((40 * j_12) + i_23) j_16 g2_51 tf (.int 0) (.int md_f1_20) (.ref ln) (.ref mn) (.ref hs) vm_6 vm_8 vm_9 vm_10 vm_11 vm_12 vm_13 vm_14 vm_15 vm_16 vm_17 vm_18 vm_19 vm_20 vm_21 vm_22 vm_23 (by first | assumption | omega) (by first | assumption | omega) (by first | assumption | omega) (by first | assumption | omega) (by first | assumption | omega) (by first | assumption | omega)) (cwV 3 hts gX6_frosts_X6_warmSo rfl rfl rfl (by decide +kernel) ⟨Nat.le_of_ble_eq_true rfl, Nat.le_of_ble_eq_true rfl⟩) hK hP hD [3, 5, 2] rfl (by decide) (va_recv hK.1 hP (ci := 6) (q0 := 3) rfl rfl) rfl hl.1 rfl (Nat.le_of_ble_eq_true rfl) dX6_frosts_185 ⟨Nat.le_of_ble_eq_true rfl, Nat.le_of_ble_eq_true rfl⟩) hP hD hS hA [3, 5, 2] [0, 1, 4] rfl rfl (by decide) (by decide) (fun r_53 w_54 H locs h_55 hP hD hS => ?_)
                    obtain ⟨g2_56, rfl⟩ := h_55
                    have hP : va_P D vwCl [(ln, .inl (cI, 8, .inl lf)), (mn, .inl (cI, 8, .inl sf)), (hs, .inl (cI, 45, .inl f)), (md, .inr (6, [.int 0, .int md_f1_20, .ref ln, .ref mn, .ref it, .ref hs, vm_6, .ref tn, vm_8, vm_9, vm_10, vm_11, vm_12, vm_13, vm_14, vm_15, vm_16, vm_17, vm_18, vm_19, vm_20, vm_21, vm_22, vm_23])), (tn, .inl (cI, 45, .inl g2_56)), (it, .inl (cI, 320, .inl tf))] H := hP
                    have hD : va_D A [(ln, .inl (cI, 8, .inl lf)), (mn, .inl (cI, 8, .inl sf)), (hs, .inl (cI, 45, .inl f)), (md, .inr (6, [.int 0, .int md_f1_20, .ref ln, .ref mn, .ref it, .ref hs, vm_6, .ref tn, vm_8, vm_9, vm_10, vm_11, vm_12, vm_13, vm_14, vm_15, vm_16, vm_17, vm_18, vm_19, vm_20, vm_21, vm_22, vm_23])), (tn, .inl (cI, 45, .inl g2_56)), (it, .inl (cI, 320, .inl tf))] := hD
                    refine lv_if_eq (tgt := 214) hx hb dX6_frosts_188 (by decide) (fun c_57 => ?_) (fun c_57 => ?_)
                    · skip
                      refine lv_iconst (v := 0) hx hb dX6_frosts_214 (by decide) ?_
                      refine lv_ior hx hb dX6_frosts_215 ?_
                      refine lv_topi (fun ov_58 _ => ?_)
                      refine lv_istore (lv' := [(7, .int ov_58), (8, .int (nI i_44)), (6, .int r_17), (0, .ref md), (1, .int (nI j_4)), (2, .int 1), (3, .int (nI j_12)), (4, .int (nI i_23)), (5, .int (nI j_16))]) hx hb dX6_frosts_216 hl (by decide) rfl (fun ls hl => ?_)
                      refine lv_iinc (v := nI (i_44 + 1)) (lv' := [(8, .int (nI (i_44 + 1))), (7, .int ov_58), (6, .int r_17), (0, .ref md), (1, .int (nI j_4)), (2, .int 1), (3, .int (nI j_12)), (4, .int (nI i_23)), (5, .int (nI j_16))]) hx hb dX6_frosts_218 hl (k := 1) rfl (nI_add i_44 1) (by decide) rfl (fun ls hl => ?_)
                      refine lv_goto (tgt := 133) hx hb dX6_frosts_221 (by decide) ?_
                      exact ih133 ((i_44 + 1)) g2_56 ov_58 H locs ls (by omega)  (hP.sub [2, 4, 3, 0, 1, 5] rfl) (hD.sub [2, 4, 3, 0, 1, 5] (by decide) rfl) hS (lv_sub hl [0, 1, 2, 3, 4, 5, 6, 7, 8] rfl)
                    · skip
                      refine lv_iload hx hb dX6_frosts_191 (lv_at hl 0 rfl) ?_
                      refine lv_aload_n hx hb dX6_frosts_193 rfl (lv_at hl 3 rfl) ?_
                      refine va_get (D := D) (ci := 6) (v := .ref hs) (C := RX6) (T := TX6) (N := 24) hx hb hts hi6 hown hK.1 hP 3 rfl rfl 5 (by decide) wf19 (fun _ h9 => h9) rfl dX6_frosts_194 ?_
                      refine lv_iconst (v := 1) hx hb dX6_frosts_197 (by decide) ?_
                      refine va_iald hx hb hK.1 hP 2 0 rfl rfl (by rw [vp_in_iff]; decide) dX6_frosts_198 ?_
                      refine wt_top (z := nI T) (hrk.2.1) ?_
                      refine lv_icmp_ge (tgt := 209) hx hb dX6_frosts_199 (by decide) (fun c_59 => ?_) (fun c_59 => ?_)
                      · skip
                        have c_59 : T ≤ i_44 := (nI_leI (a := T) (b := i_44) (by omega) (by omega)).mp c_59
                        refine lv_bipush (v := 64) hx hb dX6_frosts_209 (by decide) ?_
                        refine lv_goto (tgt := 215) hx hb dX6_frosts_211 (by decide) ?_
                        refine lv_ior hx hb dX6_frosts_215 ?_
                        refine lv_topi (fun ov_60 _ => ?_)
                        refine lv_istore (lv' := [(7, .int ov_60), (8, .int (nI i_44)), (6, .int r_17), (0, .ref md), (1, .int (nI j_4)), (2, .int 1), (3, .int (nI j_12)), (4, .int (nI i_23)), (5, .int (nI j_16))]) hx hb dX6_frosts_216 hl (by decide) rfl (fun ls hl => ?_)
                        refine lv_iinc (v := nI (i_44 + 1)) (lv' := [(8, .int (nI (i_44 + 1))), (7, .int ov_60), (6, .int r_17), (0, .ref md), (1, .int (nI j_4)), (2, .int 1), (3, .int (nI j_12)), (4, .int (nI i_23)), (5, .int (nI j_16))]) hx hb dX6_frosts_218 hl (k := 1) rfl (nI_add i_44 1) (by decide) rfl (fun ls hl => ?_)
                        refine lv_goto (tgt := 133) hx hb dX6_frosts_221 (by decide) ?_
                        exact ih133 ((i_44 + 1)) g2_56 ov_60 H locs ls (by omega)  (hP.sub [2, 4, 3, 0, 1, 5] rfl) (hD.sub [2, 4, 3, 0, 1, 5] (by decide) rfl) hS (lv_sub hl [0, 1, 2, 3, 4, 5, 6, 7, 8] rfl)
                      · skip
                        have c_59 : ¬ (T ≤ i_44) := fun h => c_59 ((nI_leI (a := T) (b := i_44) (by omega) (by omega)).mpr h)
                        refine lv_iconst (v := 1) hx hb dX6_frosts_202 (by decide) ?_
                        refine lv_iload hx hb dX6_frosts_203 (lv_at hl 0 rfl) ?_
                        refine lv_ishl hx hb dX6_frosts_205 ?_
                        refine wt_top (z := nI (2 ^ i_44)) (wt_shl1 (by omega)) ?_
                        refine lv_goto (tgt := 215) hx hb dX6_frosts_206 (by decide) ?_
                        refine lv_ior hx hb dX6_frosts_215 ?_
                        refine lv_topi (fun ov_61 _ => ?_)
                        refine lv_istore (lv' := [(7, .int ov_61), (8, .int (nI i_44)), (6, .int r_17), (0, .ref md), (1, .int (nI j_4)), (2, .int 1), (3, .int (nI j_12)), (4, .int (nI i_23)), (5, .int (nI j_16))]) hx hb dX6_frosts_216 hl (by decide) rfl (fun ls hl => ?_)
                        refine lv_iinc (v := nI (i_44 + 1)) (lv' := [(8, .int (nI (i_44 + 1))), (7, .int ov_61), (6, .int r_17), (0, .ref md), (1, .int (nI j_4)), (2, .int 1), (3, .int (nI j_12)), (4, .int (nI i_23)), (5, .int (nI j_16))]) hx hb dX6_frosts_218 hl (k := 1) rfl (nI_add i_44 1) (by decide) rfl (fun ls hl => ?_)
                        refine lv_goto (tgt := 133) hx hb dX6_frosts_221 (by decide) ?_
                        exact ih133 ((i_44 + 1)) g2_56 ov_61 H locs ls (by omega)  (hP.sub [2, 4, 3, 0, 1, 5] rfl) (hD.sub [2, 4, 3, 0, 1, 5] (by decide) rfl) hS (lv_sub hl [0, 1, 2, 3, 4, 5, 6, 7, 8] rfl)
                  · skip
                    have c_47 : ¬ (T ≤ i_44) := fun h => c_47 ((nI_leI (a := T) (b := i_44) (by omega) (by omega)).mpr h)
                    refine lv_iconst (v := 1) hx hb dX6_frosts_161 (by decide) ?_
                    refine lv_iload hx hb dX6_frosts_162 (lv_at hl 0 rfl) ?_
                    refine lv_ishl hx hb dX6_frosts_164 ?_
                    refine wt_top (z := nI (2 ^ i_44)) (wt_shl1 (by omega)) ?_
                    refine lv_goto (tgt := 169) hx hb dX6_frosts_165 (by decide) ?_
                    refine wt_goV (wr := [(ln, .inl (cI, 8, .inl lf)), (mn, .inl (cI, 8, .inl sf)), (it, .inl (cI, 320, .inl tf))]) (wt_runV (As := [.int (nI (2 ^ i_44))]) (rest := []) ⟨hx, hb, hml, hown, hts⟩ (c_X6_layShaken l D cI cZ cH md hs R T f tn g_45 (nI (2 ^ i_44)) (.int 0) (.int md_f1_20) (.ref ln) (.ref mn) (.ref it) vm_6 vm_8 vm_9 vm_10 vm_11 vm_12 vm_13 vm_14 vm_15 vm_16 vm_17 vm_18 vm_19 vm_20 vm_21 vm_22 vm_23 (by first | assumption | omega) (by first | assumption | omega) (by first | assumption | omega)) (cwV 1 hts gX6_frosts_X6_layShaken rfl rfl rfl (by decide +kernel) ⟨Nat.le_of_ble_eq_true rfl, Nat.le_of_ble_eq_true rfl⟩) hK hP hD [2, 0, 1] rfl (by decide) (va_recv hK.1 hP (ci := 6) (q0 := 2) rfl rfl) rfl hl.1 rfl (Nat.le_of_ble_eq_true rfl) dX6_frosts_169 ⟨Nat.le_of_ble_eq_true rfl, Nat.le_of_ble_eq_true rfl⟩) hP hD hS hA [2, 0, 1] [3, 4, 5] rfl rfl (by decide) (by decide) (fun w_63 H locs h_64 hP hD hS => ?_)
                    obtain ⟨g2_65, rfl, x_66⟩ := h_64
                    have hP : va_P D vwCl [(ln, .inl (cI, 8, .inl lf)), (mn, .inl (cI, 8, .inl sf)), (it, .inl (cI, 320, .inl tf)), (md, .inr (6, [.int 0, .int md_f1_20, .ref ln, .ref mn, .ref it, .ref hs, vm_6, .ref tn, vm_8, vm_9, vm_10, vm_11, vm_12, vm_13, vm_14, vm_15, vm_16, vm_17, vm_18, vm_19, vm_20, vm_21, vm_22, vm_23])), (hs, .inl (cI, 45, .inl f)), (tn, .inl (cI, 45, .inl g2_65))] H := hP
                    have hD : va_D A [(ln, .inl (cI, 8, .inl lf)), (mn, .inl (cI, 8, .inl sf)), (it, .inl (cI, 320, .inl tf)), (md, .inr (6, [.int 0, .int md_f1_20, .ref ln, .ref mn, .ref it, .ref hs, vm_6, .ref tn, vm_8, vm_9, vm_10, vm_11, vm_12, vm_13, vm_14, vm_15, vm_16, vm_17, vm_18, vm_19, vm_20, vm_21, vm_22, vm_23])), (hs, .inl (cI, 45, .inl f)), (tn, .inl (cI, 45, .inl g2_65))] := hD
                    refine lv_iload hx hb dX6_frosts_172 (lv_at hl 1 rfl) ?_
                    refine lv_aload_n hx hb dX6_frosts_174 rfl (lv_at hl 3 rfl) ?_
                    refine lv_iload_n hx hb dX6_frosts_175 rfl (lv_at hl 4 rfl) ?_
                    refine lv_bipush (v := 40) hx hb dX6_frosts_176 (by decide) ?_
                    refine lv_iload_n hx hb dX6_frosts_178 rfl (lv_at hl 6 rfl) ?_
                    refine lv_imul hx hb dX6_frosts_179 ?_
                    refine wt_top (z := nI (40 * j_12)) (pk_mul 40 j_12) ?_
                    refine lv_iload hx hb dX6_frosts_180 (lv_at hl 7 rfl) ?_
                    refine lv_iadd hx hb dX6_frosts_182 ?_
                    refine wt_top (z := nI ((40 * j_12) + i_23)) (nI_add (40 * j_12) i_23) ?_
                    refine lv_iload hx hb dX6_frosts_183 (lv_at hl 8 rfl) ?_
                    refine wt_goI (wr := [(ln, .inl (cI, 8, .inl lf)), (mn, .inl (cI, 8, .inl sf)), (hs, .inl (cI, 45, .inl f))]) (wt_runV (As := [.int (nI j_4), .int (nI ((40 * j_12) + i_23)), .int (nI j_16)]) (rest := [.int y_46]) ⟨hx, hb, hml, hown, hts⟩ (c_X6_warmSo l D cI cZ cH md tn it R T j_4 ((40 * j_12) + i_23) j_16 g2_65 tf (.int 0) (.int md_f1_20) (.ref ln) (.ref mn) (.ref hs) vm_6 vm_8 vm_9 vm_10 vm_11 vm_12 vm_13 vm_14 vm_15 vm_16 vm_17 vm_18 vm_19 vm_20 vm_21 vm_22 vm_23 (by first | assumption | omega) (by first | assumption | omega) (by first | assumption | omega) (by first | assumption | omega) (by first | assumption | omega) (by first | assumption | omega)) (cwV 3 hts gX6_frosts_X6_warmSo rfl rfl rfl (by decide +kernel) ⟨Nat.le_of_ble_eq_true rfl, Nat.le_of_ble_eq_true rfl⟩) hK hP hD [3, 5, 2] rfl (by decide) (va_recv hK.1 hP (ci := 6) (q0 := 3) rfl rfl) rfl hl.1 rfl (Nat.le_of_ble_eq_true rfl) dX6_frosts_185 ⟨Nat.le_of_ble_eq_true rfl, Nat.le_of_ble_eq_true rfl⟩) hP hD hS hA [3, 5, 2] [0, 1, 4] rfl rfl (by decide) (by decide) (fun r_67 w_68 H locs h_69 hP hD hS => ?_)
                    obtain ⟨g2_70, rfl⟩ := h_69
                    have hP : va_P D vwCl [(ln, .inl (cI, 8, .inl lf)), (mn, .inl (cI, 8, .inl sf)), (hs, .inl (cI, 45, .inl f)), (md, .inr (6, [.int 0, .int md_f1_20, .ref ln, .ref mn, .ref it, .ref hs, vm_6, .ref tn, vm_8, vm_9, vm_10, vm_11, vm_12, vm_13, vm_14, vm_15, vm_16, vm_17, vm_18, vm_19, vm_20, vm_21, vm_22, vm_23])), (tn, .inl (cI, 45, .inl g2_70)), (it, .inl (cI, 320, .inl tf))] H := hP
                    have hD : va_D A [(ln, .inl (cI, 8, .inl lf)), (mn, .inl (cI, 8, .inl sf)), (hs, .inl (cI, 45, .inl f)), (md, .inr (6, [.int 0, .int md_f1_20, .ref ln, .ref mn, .ref it, .ref hs, vm_6, .ref tn, vm_8, vm_9, vm_10, vm_11, vm_12, vm_13, vm_14, vm_15, vm_16, vm_17, vm_18, vm_19, vm_20, vm_21, vm_22, vm_23])), (tn, .inl (cI, 45, .inl g2_70)), (it, .inl (cI, 320, .inl tf))] := hD
                    refine lv_if_eq (tgt := 214) hx hb dX6_frosts_188 (by decide) (fun c_71 => ?_) (fun c_71 => ?_)
                    · skip
                      refine lv_iconst (v := 0) hx hb dX6_frosts_214 (by decide) ?_
                      refine lv_ior hx hb dX6_frosts_215 ?_
                      refine lv_topi (fun ov_72 _ => ?_)
                      refine lv_istore (lv' := [(7, .int ov_72), (8, .int (nI i_44)), (6, .int r_17), (0, .ref md), (1, .int (nI j_4)), (2, .int 1), (3, .int (nI j_12)), (4, .int (nI i_23)), (5, .int (nI j_16))]) hx hb dX6_frosts_216 hl (by decide) rfl (fun ls hl => ?_)
                      refine lv_iinc (v := nI (i_44 + 1)) (lv' := [(8, .int (nI (i_44 + 1))), (7, .int ov_72), (6, .int r_17), (0, .ref md), (1, .int (nI j_4)), (2, .int 1), (3, .int (nI j_12)), (4, .int (nI i_23)), (5, .int (nI j_16))]) hx hb dX6_frosts_218 hl (k := 1) rfl (nI_add i_44 1) (by decide) rfl (fun ls hl => ?_)
                      refine lv_goto (tgt := 133) hx hb dX6_frosts_221 (by decide) ?_
                      exact ih133 ((i_44 + 1)) g2_70 ov_72 H locs ls (by omega)  (hP.sub [2, 4, 3, 0, 1, 5] rfl) (hD.sub [2, 4, 3, 0, 1, 5] (by decide) rfl) hS (lv_sub hl [0, 1, 2, 3, 4, 5, 6, 7, 8] rfl)
                    · skip
                      refine lv_iload hx hb dX6_frosts_191 (lv_at hl 0 rfl) ?_
                      refine lv_aload_n hx hb dX6_frosts_193 rfl (lv_at hl 3 rfl) ?_
                      refine va_get (D := D) (ci := 6) (v := .ref hs) (C := RX6) (T := TX6) (N := 24) hx hb hts hi6 hown hK.1 hP 3 rfl rfl 5 (by decide) wf19 (fun _ h9 => h9) rfl dX6_frosts_194 ?_
                      refine lv_iconst (v := 1) hx hb dX6_frosts_197 (by decide) ?_
                      refine va_iald hx hb hK.1 hP 2 0 rfl rfl (by rw [vp_in_iff]; decide) dX6_frosts_198 ?_
                      refine wt_top (z := nI T) (hrk.2.1) ?_
                      refine lv_icmp_ge (tgt := 209) hx hb dX6_frosts_199 (by decide) (fun c_73 => ?_) (fun c_73 => ?_)
                      · skip
                        have c_73 : T ≤ i_44 := (nI_leI (a := T) (b := i_44) (by omega) (by omega)).mp c_73
                        refine lv_bipush (v := 64) hx hb dX6_frosts_209 (by decide) ?_
                        refine lv_goto (tgt := 215) hx hb dX6_frosts_211 (by decide) ?_
                        refine lv_ior hx hb dX6_frosts_215 ?_
                        refine lv_topi (fun ov_74 _ => ?_)
                        refine lv_istore (lv' := [(7, .int ov_74), (8, .int (nI i_44)), (6, .int r_17), (0, .ref md), (1, .int (nI j_4)), (2, .int 1), (3, .int (nI j_12)), (4, .int (nI i_23)), (5, .int (nI j_16))]) hx hb dX6_frosts_216 hl (by decide) rfl (fun ls hl => ?_)
                        refine lv_iinc (v := nI (i_44 + 1)) (lv' := [(8, .int (nI (i_44 + 1))), (7, .int ov_74), (6, .int r_17), (0, .ref md), (1, .int (nI j_4)), (2, .int 1), (3, .int (nI j_12)), (4, .int (nI i_23)), (5, .int (nI j_16))]) hx hb dX6_frosts_218 hl (k := 1) rfl (nI_add i_44 1) (by decide) rfl (fun ls hl => ?_)
                        refine lv_goto (tgt := 133) hx hb dX6_frosts_221 (by decide) ?_
                        exact ih133 ((i_44 + 1)) g2_70 ov_74 H locs ls (by omega)  (hP.sub [2, 4, 3, 0, 1, 5] rfl) (hD.sub [2, 4, 3, 0, 1, 5] (by decide) rfl) hS (lv_sub hl [0, 1, 2, 3, 4, 5, 6, 7, 8] rfl)
                      · skip
                        have c_73 : ¬ (T ≤ i_44) := fun h => c_73 ((nI_leI (a := T) (b := i_44) (by omega) (by omega)).mpr h)
                        refine lv_iconst (v := 1) hx hb dX6_frosts_202 (by decide) ?_
                        refine lv_iload hx hb dX6_frosts_203 (lv_at hl 0 rfl) ?_
                        refine lv_ishl hx hb dX6_frosts_205 ?_
                        refine wt_top (z := nI (2 ^ i_44)) (wt_shl1 (by omega)) ?_
                        refine lv_goto (tgt := 215) hx hb dX6_frosts_206 (by decide) ?_
                        refine lv_ior hx hb dX6_frosts_215 ?_
                        refine lv_topi (fun ov_75 _ => ?_)
                        refine lv_istore (lv' := [(7, .int ov_75), (8, .int (nI i_44)), (6, .int r_17), (0, .ref md), (1, .int (nI j_4)), (2, .int 1), (3, .int (nI j_12)), (4, .int (nI i_23)), (5, .int (nI j_16))]) hx hb dX6_frosts_216 hl (by decide) rfl (fun ls hl => ?_)
                        refine lv_iinc (v := nI (i_44 + 1)) (lv' := [(8, .int (nI (i_44 + 1))), (7, .int ov_75), (6, .int r_17), (0, .ref md), (1, .int (nI j_4)), (2, .int 1), (3, .int (nI j_12)), (4, .int (nI i_23)), (5, .int (nI j_16))]) hx hb dX6_frosts_218 hl (k := 1) rfl (nI_add i_44 1) (by decide) rfl (fun ls hl => ?_)
                        refine lv_goto (tgt := 133) hx hb dX6_frosts_221 (by decide) ?_
                        exact ih133 ((i_44 + 1)) g2_70 ov_75 H locs ls (by omega)  (hP.sub [2, 4, 3, 0, 1, 5] rfl) (hD.sub [2, 4, 3, 0, 1, 5] (by decide) rfl) hS (lv_sub hl [0, 1, 2, 3, 4, 5, 6, 7, 8] rfl)
              exact loop133 ((T + 1) - 0) (0) g 0 _ _ ls (by omega)  hP hD hS hl
          · skip
            refine lv_iload hx hb dX6_frosts_62 (lv_at hl 0 rfl) ?_
            have hP9 := hP.sub (ws' := [(md, .inr (6, [.int 0, .int md_f1_20, .ref ln, .ref mn, .ref it, .ref hs, vm_6, .ref tn, vm_8, vm_9, vm_10, vm_11, vm_12, vm_13, vm_14, vm_15, vm_16, vm_17, vm_18, vm_19, vm_20, vm_21, vm_22, vm_23])), (hs, .inl (cI, 45, .inl f)), (tn, .inl (cI, 45, .inl g)), (ln, .inl (cI, 8, .inl lf)), (mn, .inl (cI, 8, .inl sf)), (it, .inl (cI, 320, .inl tf))]) [2, 0, 1, 3, 4, 5] rfl
            have hD9 := hD.sub (ws' := [(md, .inr (6, [.int 0, .int md_f1_20, .ref ln, .ref mn, .ref it, .ref hs, vm_6, .ref tn, vm_8, vm_9, vm_10, vm_11, vm_12, vm_13, vm_14, vm_15, vm_16, vm_17, vm_18, vm_19, vm_20, vm_21, vm_22, vm_23])), (hs, .inl (cI, 45, .inl f)), (tn, .inl (cI, 45, .inl g)), (ln, .inl (cI, 8, .inl lf)), (mn, .inl (cI, 8, .inl sf)), (it, .inl (cI, 320, .inl tf))]) [2, 0, 1, 3, 4, 5] (by decide) rfl
            exact wt_iret hx hb hr hlocks hP9 hD9 hS ⟨g, md_f1_20, rfl⟩ dX6_frosts_64
        · skip
          refine lv_ldc hx hb hown wc67 dX6_frosts_43 ?_
          have hP9 := hP.sub (ws' := [(md, .inr (6, [.int 0, .int sv, .ref ln, .ref mn, .ref it, .ref hs, vm_6, .ref tn, vm_8, vm_9, vm_10, vm_11, vm_12, vm_13, vm_14, vm_15, vm_16, vm_17, vm_18, vm_19, vm_20, vm_21, vm_22, vm_23])), (hs, .inl (cI, 45, .inl f)), (tn, .inl (cI, 45, .inl g)), (ln, .inl (cI, 8, .inl lf)), (mn, .inl (cI, 8, .inl sf)), (it, .inl (cI, 320, .inl tf))]) [0, 1, 2, 3, 4, 5] rfl
          have hD9 := hD.sub (ws' := [(md, .inr (6, [.int 0, .int sv, .ref ln, .ref mn, .ref it, .ref hs, vm_6, .ref tn, vm_8, vm_9, vm_10, vm_11, vm_12, vm_13, vm_14, vm_15, vm_16, vm_17, vm_18, vm_19, vm_20, vm_21, vm_22, vm_23])), (hs, .inl (cI, 45, .inl f)), (tn, .inl (cI, 45, .inl g)), (ln, .inl (cI, 8, .inl lf)), (mn, .inl (cI, 8, .inl sf)), (it, .inl (cI, 320, .inl tf))]) [0, 1, 2, 3, 4, 5] (by decide) rfl
          exact wt_iret hx hb hr hlocks hP9 hD9 hS ⟨g, sv, rfl⟩ dX6_frosts_45
set_option maxHeartbeats 4000000 in
set_option maxRecDepth 100000 in
theorem c_X6_drawn (l : Launch) (D : va_G) (cI cZ cH : ClassId) (md hs : Nat) (R T : Nat) (f : Nat → Int32) (tn : Nat) (g : Nat → Int32) (a1 a2 a3 : Int32) (vm_0 vm_1 vm_2 vm_3 vm_4 vm_6 vm_8 vm_9 vm_10 vm_11 vm_12 vm_13 vm_14 vm_15 vm_16 vm_17 vm_18 vm_19 vm_20 vm_21 vm_22 vm_23 : Value) (hR5 : R ≤ 5) (hT6 : T ≤ 6) (hrk : rk R T f) (hRT : 0 < R → 0 < T) : wt_M l yX6_drawn wsX6_drawn ({ frames := 4, cells := 0, slots := 0, locals := 91 } : Room) D (wt_T cI cZ cH) [.ref md, .int a1, .int a2, .int a3] [(md, .inr (6, [vm_0, vm_1, vm_2, vm_3, vm_4, .ref hs, vm_6, .ref tn, vm_8, vm_9, vm_10, vm_11, vm_12, vm_13, vm_14, vm_15, vm_16, vm_17, vm_18, vm_19, vm_20, vm_21, vm_22, vm_23])), (hs, .inl (cI, 45, .inl f)), (tn, .inl (cI, 45, .inl g))] (wt_QI D (fun r w => ∃ (g2 : Nat → Int32), w = [(md, .inr (6, [.int 0, vm_1, vm_2, vm_3, vm_4, .ref hs, vm_6, .ref tn, vm_8, vm_9, vm_10, vm_11, vm_12, vm_13, vm_14, vm_15, vm_16, vm_17, vm_18, vm_19, vm_20, vm_21, vm_22, vm_23])), (hs, .inl (cI, 45, .inl f)), (tn, .inl (cI, 45, .inl g2))])) := by
  refine wt_M.ofW (cc := cX6_drawn) (maxL := 9) (ret := (some .int)) (by decide) rfl (Nat.le_of_ble_eq_true rfl) ?_
  intro p e s m below meth c A ls hx hb hr hts hown hlocks hml hnm hP hK hD hA hS hl
  have hP : va_P D vwCl [(md, .inr (6, [vm_0, vm_1, vm_2, vm_3, vm_4, .ref hs, vm_6, .ref tn, vm_8, vm_9, vm_10, vm_11, vm_12, vm_13, vm_14, vm_15, vm_16, vm_17, vm_18, vm_19, vm_20, vm_21, vm_22, vm_23])), (hs, .inl (cI, 45, .inl f)), (tn, .inl (cI, 45, .inl g))] s.heap := hP
  have hown : s.vm.findClass RX6 = some m.cls := hown
  have hl : lv_has ls 9 [(0, .ref md), (1, .int a1), (2, .int a2), (3, .int a3)] := hl
  have hi6 : ∀ w ∈ u_ws RX6 TX6 24, w ∈ wsX6_drawn := by decide +kernel
  have wc189 := hts (.constant RX6 189 (-1000002)) (by decide +kernel)
  have wc67 := hts (.constant RX6 67 (-1000001)) (by decide +kernel)
  have wf25 := hts (.fieldLink RX6 25 "WarmTubesModel" "then" "[I") (by decide +kernel)
  have wf47 := hts (.fieldLink RX6 47 "WarmTubesModel" "thrown" "I") (by decide +kernel)
  have wl218 := hts (.constantLong RX6 218 (4)) (by decide +kernel)
  have wl225 := hts (.constantLong RX6 225 (60)) (by decide +kernel)
  have wl278 := hts (.constantLong RX6 278 (999999)) (by decide +kernel)
  have wl280 := hts (.constantLong RX6 280 (16807)) (by decide +kernel)
  have wl282 := hts (.constantLong RX6 282 (2147483647)) (by decide +kernel)
  have wl284 := hts (.constantLong RX6 284 (5)) (by decide +kernel)
  refine lv_aload_n hx hb dX6_drawn_0 rfl (lv_at hl 0 rfl) ?_
  refine lv_iconst (v := 0) hx hb dX6_drawn_1 (by decide) ?_
  refine va_put (D := D) (ci := 6) (v := .int 0) (ty := .int) (C := RX6) (T := TX6) (N := 24) hx hb hts hi6 tyX6 tyX6_ok nmX6 hown hK.1 hP hD hS 0 rfl rfl 0 (by decide) wf47 (fun _ h9 => h9) rfl (by decide +kernel) rfl rfl (Nat.le_of_ble_eq_true rfl) dX6_drawn_2 (fun H locs hP hD hS => ?_)
  have hP : va_P D vwCl [(md, .inr (6, [.int 0, vm_1, vm_2, vm_3, vm_4, .ref hs, vm_6, .ref tn, vm_8, vm_9, vm_10, vm_11, vm_12, vm_13, vm_14, vm_15, vm_16, vm_17, vm_18, vm_19, vm_20, vm_21, vm_22, vm_23])), (hs, .inl (cI, 45, .inl f)), (tn, .inl (cI, 45, .inl g))] H := hP
  have hD : va_D A [(md, .inr (6, [.int 0, vm_1, vm_2, vm_3, vm_4, .ref hs, vm_6, .ref tn, vm_8, vm_9, vm_10, vm_11, vm_12, vm_13, vm_14, vm_15, vm_16, vm_17, vm_18, vm_19, vm_20, vm_21, vm_22, vm_23])), (hs, .inl (cI, 45, .inl f)), (tn, .inl (cI, 45, .inl g))] := hD
  refine lv_aload_n hx hb dX6_drawn_5 rfl (lv_at hl 0 rfl) ?_
  refine wt_rV (As := []) (rest := []) ⟨hx, hb, hml, hown, hts⟩ (c_X6_isThere l D cI cZ cH md hs R T f (.int 0) vm_1 vm_2 vm_3 vm_4 vm_6 (.ref tn) vm_8 vm_9 vm_10 vm_11 vm_12 vm_13 vm_14 vm_15 vm_16 vm_17 vm_18 vm_19 vm_20 vm_21 vm_22 vm_23 (by first | assumption | omega) (by first | assumption | omega) (by first | assumption | omega)) (cwV 0 hts gX6_drawn_X6_isThere rfl rfl rfl (by decide +kernel) ⟨Nat.le_of_ble_eq_true rfl, Nat.le_of_ble_eq_true rfl⟩) hK hP [0, 1] rfl (va_recv hK.1 hP (ci := 6) (q0 := 0) rfl rfl) rfl hl.1 rfl (Nat.le_of_ble_eq_true rfl) dX6_drawn_6 ⟨Nat.le_of_ble_eq_true rfl, Nat.le_of_ble_eq_true rfl⟩ (fun r_1 e_2 => ?_)
  subst e_2
  refine lv_if_ne (tgt := 15) hx hb dX6_drawn_9 (by decide) (fun c_3 => ?_) (fun c_3 => ?_)
  · skip
    have g_4 : 0 < R := wP_nat (by omega) c_3
    refine lv_iload_n hx hb dX6_drawn_15 rfl (lv_at hl 1 rfl) ?_
    refine lv_i2l hx hb dX6_drawn_16 rfl ?_
    refine lv_lconst (v := 0) hx hb dX6_drawn_17 (by decide) ?_
    refine lv_ldc2 hx hb hown wl225 dX6_drawn_18 ?_
    refine wt_rS (As := [.long a1.toInt64, .long 0, .long 60]) (rest := []) ⟨hx, hb, hml, hown, hts⟩ (c_X6_in l D cI cZ cH a1.toInt64 0 60) (va_cwS 3 hts gX6_drawn_X6_in rfl rfl rfl (by decide +kernel) ⟨Nat.le_of_ble_eq_true rfl, Nat.le_of_ble_eq_true rfl⟩) hK hP [] rfl rfl hl.1 rfl (Nat.le_of_ble_eq_true rfl) dX6_drawn_21 ⟨Nat.le_of_ble_eq_true rfl, Nat.le_of_ble_eq_true rfl⟩ (fun r_5 e_6 => ?_)
    subst e_6
    refine wt_top (z := wI a1 0 60) (wL_I' (by decide) (by decide)) ?_
    refine lv_if_eq (tgt := 49) hx hb dX6_drawn_24 (by decide) (fun c_7 => ?_) (fun c_7 => ?_)
    · skip
      refine lv_ldc hx hb hown wc67 dX6_drawn_49 ?_
      have hP9 := hP.sub (ws' := [(md, .inr (6, [.int 0, vm_1, vm_2, vm_3, vm_4, .ref hs, vm_6, .ref tn, vm_8, vm_9, vm_10, vm_11, vm_12, vm_13, vm_14, vm_15, vm_16, vm_17, vm_18, vm_19, vm_20, vm_21, vm_22, vm_23])), (hs, .inl (cI, 45, .inl f)), (tn, .inl (cI, 45, .inl g))]) [0, 1, 2] rfl
      have hD9 := hD.sub (ws' := [(md, .inr (6, [.int 0, vm_1, vm_2, vm_3, vm_4, .ref hs, vm_6, .ref tn, vm_8, vm_9, vm_10, vm_11, vm_12, vm_13, vm_14, vm_15, vm_16, vm_17, vm_18, vm_19, vm_20, vm_21, vm_22, vm_23])), (hs, .inl (cI, 45, .inl f)), (tn, .inl (cI, 45, .inl g))]) [0, 1, 2] (by decide) rfl
      exact wt_iret hx hb hr hlocks hP9 hD9 hS ⟨g, rfl⟩ dX6_drawn_51
    · skip
      obtain ⟨j_8, hj_8, hj_8b, rfl⟩ := wI_nat (a := 0) (b := 60) (by omega) (by omega) c_7
      refine lv_iload_n hx hb dX6_drawn_27 rfl (lv_at hl 2 rfl) ?_
      refine lv_i2l hx hb dX6_drawn_28 rfl ?_
      refine lv_lconst (v := 1) hx hb dX6_drawn_29 (by decide) ?_
      refine lv_ldc2 hx hb hown wl278 dX6_drawn_30 ?_
      refine wt_rS (As := [.long a2.toInt64, .long 1, .long 999999]) (rest := []) ⟨hx, hb, hml, hown, hts⟩ (c_X6_in l D cI cZ cH a2.toInt64 1 999999) (va_cwS 3 hts gX6_drawn_X6_in rfl rfl rfl (by decide +kernel) ⟨Nat.le_of_ble_eq_true rfl, Nat.le_of_ble_eq_true rfl⟩) hK hP [] rfl rfl hl.1 rfl (Nat.le_of_ble_eq_true rfl) dX6_drawn_33 ⟨Nat.le_of_ble_eq_true rfl, Nat.le_of_ble_eq_true rfl⟩ (fun r_9 e_10 => ?_)
      subst e_10
      refine wt_top (z := wI a2 1 999999) (wL_I' (by decide) (by decide)) ?_
      refine lv_if_eq (tgt := 49) hx hb dX6_drawn_36 (by decide) (fun c_11 => ?_) (fun c_11 => ?_)
      · skip
        refine lv_ldc hx hb hown wc67 dX6_drawn_49 ?_
        have hP9 := hP.sub (ws' := [(md, .inr (6, [.int 0, vm_1, vm_2, vm_3, vm_4, .ref hs, vm_6, .ref tn, vm_8, vm_9, vm_10, vm_11, vm_12, vm_13, vm_14, vm_15, vm_16, vm_17, vm_18, vm_19, vm_20, vm_21, vm_22, vm_23])), (hs, .inl (cI, 45, .inl f)), (tn, .inl (cI, 45, .inl g))]) [0, 1, 2] rfl
        have hD9 := hD.sub (ws' := [(md, .inr (6, [.int 0, vm_1, vm_2, vm_3, vm_4, .ref hs, vm_6, .ref tn, vm_8, vm_9, vm_10, vm_11, vm_12, vm_13, vm_14, vm_15, vm_16, vm_17, vm_18, vm_19, vm_20, vm_21, vm_22, vm_23])), (hs, .inl (cI, 45, .inl f)), (tn, .inl (cI, 45, .inl g))]) [0, 1, 2] (by decide) rfl
        exact wt_iret hx hb hr hlocks hP9 hD9 hS ⟨g, rfl⟩ dX6_drawn_51
      · skip
        obtain ⟨j_12, hj_12, hj_12b, rfl⟩ := wI_nat (a := 1) (b := 999999) (by omega) (by omega) c_11
        refine lv_iload_n hx hb dX6_drawn_39 rfl (lv_at hl 3 rfl) ?_
        refine lv_i2l hx hb dX6_drawn_40 rfl ?_
        refine lv_lconst (v := 0) hx hb dX6_drawn_41 (by decide) ?_
        refine lv_lconst (v := 1) hx hb dX6_drawn_42 (by decide) ?_
        refine wt_rS (As := [.long a3.toInt64, .long 0, .long 1]) (rest := []) ⟨hx, hb, hml, hown, hts⟩ (c_X6_in l D cI cZ cH a3.toInt64 0 1) (va_cwS 3 hts gX6_drawn_X6_in rfl rfl rfl (by decide +kernel) ⟨Nat.le_of_ble_eq_true rfl, Nat.le_of_ble_eq_true rfl⟩) hK hP [] rfl rfl hl.1 rfl (Nat.le_of_ble_eq_true rfl) dX6_drawn_43 ⟨Nat.le_of_ble_eq_true rfl, Nat.le_of_ble_eq_true rfl⟩ (fun r_13 e_14 => ?_)
        subst e_14
        refine wt_top (z := wI a3 0 1) (wL_I' (by decide) (by decide)) ?_
        refine lv_if_ne (tgt := 52) hx hb dX6_drawn_46 (by decide) (fun c_15 => ?_) (fun c_15 => ?_)
        · skip
          obtain ⟨j_16, hj_16, hj_16b, rfl⟩ := wI_nat (a := 0) (b := 1) (by omega) (by omega) c_15
          refine lv_aload_n hx hb dX6_drawn_52 rfl (lv_at hl 0 rfl) ?_
          refine wt_goV (wr := []) (wt_runV (As := []) (rest := []) ⟨hx, hb, hml, hown, hts⟩ (c_X6_layThen l D cI cZ cH md hs R T f tn g (.int 0) vm_1 vm_2 vm_3 vm_4 vm_6 vm_8 vm_9 vm_10 vm_11 vm_12 vm_13 vm_14 vm_15 vm_16 vm_17 vm_18 vm_19 vm_20 vm_21 vm_22 vm_23 (by first | assumption | omega) (by first | assumption | omega) (by first | assumption | omega)) (cwV 0 hts gX6_drawn_X6_layThen rfl rfl rfl (by decide +kernel) ⟨Nat.le_of_ble_eq_true rfl, Nat.le_of_ble_eq_true rfl⟩) hK hP hD [0, 1, 2] rfl (by decide) (va_recv hK.1 hP (ci := 6) (q0 := 0) rfl rfl) rfl hl.1 rfl (Nat.le_of_ble_eq_true rfl) dX6_drawn_53 ⟨Nat.le_of_ble_eq_true rfl, Nat.le_of_ble_eq_true rfl⟩) hP hD hS hA [0, 1, 2] [] rfl rfl (by decide) (by decide) (fun w_18 H locs h_19 hP hD hS => ?_)
          obtain ⟨g2_20, rfl, x_21⟩ := h_19
          have hP : va_P D vwCl [(md, .inr (6, [.int 0, vm_1, vm_2, vm_3, vm_4, .ref hs, vm_6, .ref tn, vm_8, vm_9, vm_10, vm_11, vm_12, vm_13, vm_14, vm_15, vm_16, vm_17, vm_18, vm_19, vm_20, vm_21, vm_22, vm_23])), (hs, .inl (cI, 45, .inl f)), (tn, .inl (cI, 45, .inl g2_20))] H := hP
          have hD : va_D A [(md, .inr (6, [.int 0, vm_1, vm_2, vm_3, vm_4, .ref hs, vm_6, .ref tn, vm_8, vm_9, vm_10, vm_11, vm_12, vm_13, vm_14, vm_15, vm_16, vm_17, vm_18, vm_19, vm_20, vm_21, vm_22, vm_23])), (hs, .inl (cI, 45, .inl f)), (tn, .inl (cI, 45, .inl g2_20))] := hD
          refine lv_iload_n hx hb dX6_drawn_56 rfl (lv_at hl 2 rfl) ?_
          refine lv_i2l hx hb dX6_drawn_57 rfl ?_
          refine wt_topl (z := lN j_12) (nI_l (by omega)) ?_
          refine lv_lstore (lv' := [(4, .long (lN j_12)), (0, .ref md), (1, .int (nI j_8)), (2, .int (nI j_12)), (3, .int (nI j_16))]) hx hb dX6_drawn_58 hl (by decide) rfl (fun ls hl => ?_)
          refine lv_iconst (v := 0) hx hb dX6_drawn_60 (by decide) ?_
          refine lv_istore (lv' := [(6, .int 0), (4, .long (lN j_12)), (0, .ref md), (1, .int (nI j_8)), (2, .int (nI j_12)), (3, .int (nI j_16))]) hx hb dX6_drawn_61 hl (by decide) rfl (fun ls hl => ?_)
          have loop63 : ∀ (k i_22 : Nat) (g2_20_23 : Nat → Int32) (n_24 : Nat) (H : Heap) (locs : List Loc) (ls : Array Slot), i_22 + k = j_8 → (n_24 < 2147483648) → (rk R T g2_20_23) → va_P D vwCl [(md, .inr (6, [.int 0, vm_1, vm_2, vm_3, vm_4, .ref hs, vm_6, .ref tn, vm_8, vm_9, vm_10, vm_11, vm_12, vm_13, vm_14, vm_15, vm_16, vm_17, vm_18, vm_19, vm_20, vm_21, vm_22, vm_23])), (hs, .inl (cI, 45, .inl f)), (tn, .inl (cI, 45, .inl g2_20_23))] H → va_D A [(md, .inr (6, [.int 0, vm_1, vm_2, vm_3, vm_4, .ref hs, vm_6, .ref tn, vm_8, vm_9, vm_10, vm_11, vm_12, vm_13, vm_14, vm_15, vm_16, vm_17, vm_18, vm_19, vm_20, vm_21, vm_22, vm_23])), (hs, .inl (cI, 45, .inl f)), (tn, .inl (cI, 45, .inl g2_20_23))] → va_S A s.heap H locs → lv_has ls 9 [(6, .int (nI i_22)), (4, .long (lN n_24)), (0, .ref md), (1, .int (nI j_8)), (2, .int (nI j_12)), (3, .int (nI j_16))] → W p l e ({ frames := 4, cells := 0, slots := 0, locals := 91 } : Room) s m ([.ref md, .int (nI j_8), .int (nI j_12), .int (nI j_16)] : List Value).toArray below meth c H locs 0 0 (MQ below (wt_QI D (fun r w => ∃ (g2 : Nat → Int32), w = [(md, .inr (6, [.int 0, vm_1, vm_2, vm_3, vm_4, .ref hs, vm_6, .ref tn, vm_8, vm_9, vm_10, vm_11, vm_12, vm_13, vm_14, vm_15, vm_16, vm_17, vm_18, vm_19, vm_20, vm_21, vm_22, vm_23])), (hs, .inl (cI, 45, .inl f)), (tn, .inl (cI, 45, .inl g2))]) A) ([.ref md, .int (nI j_8), .int (nI j_12), .int (nI j_16)] : List Value).toArray s 0 0 A) (F0 m 63 ls []) := by
            intro k
            induction k with
            | zero =>
              intro i_22 g2_20_23 n_24 H locs ls hik hl4 rk_25 hP hD hS hl
              refine lv_iload hx hb dX6_drawn_63 (lv_at hl 0 rfl) ?_
              refine lv_iload_n hx hb dX6_drawn_65 rfl (lv_at hl 3 rfl) ?_
              refine lv_icmp_ge (tgt := 161) hx hb dX6_drawn_66 (by decide) (fun _ => ?_) (fun h => absurd (nI_le (a := j_8) (b := i_22) (by omega) (by omega)) h)
              refine lv_iload_n hx hb dX6_drawn_161 rfl (lv_at hl 5 rfl) ?_
              refine lv_if_ne (tgt := 178) hx hb dX6_drawn_162 (by decide) (fun c_26 => ?_) (fun c_26 => ?_)
              · skip
                have c_26 : ¬ (j_16 = 0) := fun h => c_26 ((nI_eq (a := j_16) (b := 0) (by omega) (by omega)).mpr h)
                refine lv_aload_n hx hb dX6_drawn_178 rfl (lv_at hl 2 rfl) ?_
                refine va_get (D := D) (ci := 6) (v := .ref tn) (C := RX6) (T := TX6) (N := 24) hx hb hts hi6 hown hK.1 hP 0 rfl rfl 7 (by decide) wf25 (fun _ h9 => h9) rfl dX6_drawn_179 ?_
                refine wt_rS (As := [.ref tn]) (rest := []) ⟨hx, hb, hml, hown, hts⟩ (c_X6_degreesOf l D cI cZ cH tn R T g2_20_23 (by first | assumption | omega) (by first | assumption | omega) (by first | assumption | omega)) (va_cwS 1 hts gX6_drawn_X6_degreesOf rfl rfl rfl (by decide +kernel) ⟨Nat.le_of_ble_eq_true rfl, Nat.le_of_ble_eq_true rfl⟩) hK hP [2] rfl rfl hl.1 rfl (Nat.le_of_ble_eq_true rfl) dX6_drawn_182 ⟨Nat.le_of_ble_eq_true rfl, Nat.le_of_ble_eq_true rfl⟩ (fun r_27 e_28 => ?_)
                have hP9 := hP.sub (ws' := [(md, .inr (6, [.int 0, vm_1, vm_2, vm_3, vm_4, .ref hs, vm_6, .ref tn, vm_8, vm_9, vm_10, vm_11, vm_12, vm_13, vm_14, vm_15, vm_16, vm_17, vm_18, vm_19, vm_20, vm_21, vm_22, vm_23])), (hs, .inl (cI, 45, .inl f)), (tn, .inl (cI, 45, .inl g2_20_23))]) [0, 1, 2] rfl
                have hD9 := hD.sub (ws' := [(md, .inr (6, [.int 0, vm_1, vm_2, vm_3, vm_4, .ref hs, vm_6, .ref tn, vm_8, vm_9, vm_10, vm_11, vm_12, vm_13, vm_14, vm_15, vm_16, vm_17, vm_18, vm_19, vm_20, vm_21, vm_22, vm_23])), (hs, .inl (cI, 45, .inl f)), (tn, .inl (cI, 45, .inl g2_20_23))]) [0, 1, 2] (by decide) rfl
                exact wt_iret hx hb hr hlocks hP9 hD9 hS ⟨g2_20_23, rfl⟩ dX6_drawn_185
              · skip
                have c_26 : j_16 = 0 := (nI_eq (a := j_16) (b := 0) (by omega) (by omega)).mp c_26
                refine lv_aload_n hx hb dX6_drawn_165 rfl (lv_at hl 2 rfl) ?_
                refine va_get (D := D) (ci := 6) (v := .ref tn) (C := RX6) (T := TX6) (N := 24) hx hb hts hi6 hown hK.1 hP 0 rfl rfl 7 (by decide) wf25 (fun _ h9 => h9) rfl dX6_drawn_166 ?_
                refine wt_rS (As := [.ref tn]) (rest := []) ⟨hx, hb, hml, hown, hts⟩ (c_X6_colds l D cI cZ cH tn R T g2_20_23 (by first | assumption | omega) (by first | assumption | omega) (by first | assumption | omega)) (va_cwS 1 hts gX6_drawn_X6_colds rfl rfl rfl (by decide +kernel) ⟨Nat.le_of_ble_eq_true rfl, Nat.le_of_ble_eq_true rfl⟩) hK hP [2] rfl rfl hl.1 rfl (Nat.le_of_ble_eq_true rfl) dX6_drawn_169 ⟨Nat.le_of_ble_eq_true rfl, Nat.le_of_ble_eq_true rfl⟩ (fun r_29 e_30 => ?_)
                refine wt_rS (As := [.int r_29]) (rest := []) ⟨hx, hb, hml, hown, hts⟩ (c_X6_bits l D cI cZ cH r_29) (va_cwS 1 hts gX6_drawn_X6_bits rfl rfl rfl (by decide +kernel) ⟨Nat.le_of_ble_eq_true rfl, Nat.le_of_ble_eq_true rfl⟩) hK hP [] rfl rfl hl.1 rfl (Nat.le_of_ble_eq_true rfl) dX6_drawn_172 ⟨Nat.le_of_ble_eq_true rfl, Nat.le_of_ble_eq_true rfl⟩ (fun r_31 e_32 => ?_)
                refine lv_goto (tgt := 185) hx hb dX6_drawn_175 (by decide) ?_
                have hP9 := hP.sub (ws' := [(md, .inr (6, [.int 0, vm_1, vm_2, vm_3, vm_4, .ref hs, vm_6, .ref tn, vm_8, vm_9, vm_10, vm_11, vm_12, vm_13, vm_14, vm_15, vm_16, vm_17, vm_18, vm_19, vm_20, vm_21, vm_22, vm_23])), (hs, .inl (cI, 45, .inl f)), (tn, .inl (cI, 45, .inl g2_20_23))]) [0, 1, 2] rfl
                have hD9 := hD.sub (ws' := [(md, .inr (6, [.int 0, vm_1, vm_2, vm_3, vm_4, .ref hs, vm_6, .ref tn, vm_8, vm_9, vm_10, vm_11, vm_12, vm_13, vm_14, vm_15, vm_16, vm_17, vm_18, vm_19, vm_20, vm_21, vm_22, vm_23])), (hs, .inl (cI, 45, .inl f)), (tn, .inl (cI, 45, .inl g2_20_23))]) [0, 1, 2] (by decide) rfl
                exact wt_iret hx hb hr hlocks hP9 hD9 hS ⟨g2_20_23, rfl⟩ dX6_drawn_185
            | succ k ih63 =>
              intro i_22 g2_20_23 n_24 H locs ls hik hl4 rk_25 hP hD hS hl
              refine lv_iload hx hb dX6_drawn_63 (lv_at hl 0 rfl) ?_
              refine lv_iload_n hx hb dX6_drawn_65 rfl (lv_at hl 3 rfl) ?_
              refine lv_icmp_ge (tgt := 161) hx hb dX6_drawn_66 (by decide) (fun h => absurd h (nI_ge (a := i_22) (b := j_8) (by omega) (by omega))) (fun _ => ?_)
              refine lv_lload hx hb dX6_drawn_69 (lv_at hl 1 rfl) ?_
              refine lv_ldc2 hx hb hown wl280 dX6_drawn_71 ?_
              refine lv_lmul hx hb dX6_drawn_74 ?_
              refine wt_topl (z := lN (n_24 * 16807)) (lN_mul n_24 16807) ?_
              refine lv_ldc2 hx hb hown wl282 dX6_drawn_75 ?_
              refine lv_lrem hx hb dX6_drawn_78 (by decide) ?_
              obtain ⟨v_33, hv_33, ev_33⟩ : ∃ v : Nat, v < 2147483647 ∧ (n_24 * 16807) % 2147483647 = v := ⟨_, Nat.mod_lt _ (by omega), rfl⟩
              refine wt_topl (z := lN v_33) (by rw [← ev_33]; exact pk_lRem (a := (n_24 * 16807)) (b := 2147483647) (by omega) (by omega) (by omega)) ?_
              refine lv_lstore (lv' := [(4, .long (lN v_33)), (6, .int (nI i_22)), (0, .ref md), (1, .int (nI j_8)), (2, .int (nI j_12)), (3, .int (nI j_16))]) hx hb dX6_drawn_79 hl (by decide) rfl (fun ls hl => ?_)
              refine lv_lload hx hb dX6_drawn_81 (lv_at hl 0 rfl) ?_
              refine lv_aload_n hx hb dX6_drawn_83 rfl (lv_at hl 2 rfl) ?_
              refine va_get (D := D) (ci := 6) (v := .ref tn) (C := RX6) (T := TX6) (N := 24) hx hb hts hi6 hown hK.1 hP 0 rfl rfl 7 (by decide) wf25 (fun _ h9 => h9) rfl dX6_drawn_84 ?_
              refine lv_iconst (v := 1) hx hb dX6_drawn_87 (by decide) ?_
              refine va_iald hx hb hK.1 hP 2 0 rfl rfl (by rw [vp_in_iff]; decide) dX6_drawn_88 ?_
              refine wt_top (z := nI T) (rk_25.2.1) ?_
              refine lv_i2l hx hb dX6_drawn_89 rfl ?_
              refine wt_topl (z := lN T) (nI_l (by omega)) ?_
              refine lv_lrem hx hb dX6_drawn_90 (wt_lne (by omega) (by omega)) ?_
              obtain ⟨v_34, hv_34, ev_34⟩ : ∃ v : Nat, v < T ∧ v_33 % T = v := ⟨_, Nat.mod_lt _ (by omega), rfl⟩
              refine wt_topl (z := lN v_34) (by rw [← ev_34]; exact pk_lRem (a := v_33) (b := T) (by omega) (by omega) (by omega)) ?_
              refine lv_l2i hx hb dX6_drawn_91 rfl ?_
              refine wt_top (z := nI v_34) (lN_i _) ?_
              refine lv_istore (lv' := [(7, .int (nI v_34)), (4, .long (lN v_33)), (6, .int (nI i_22)), (0, .ref md), (1, .int (nI j_8)), (2, .int (nI j_12)), (3, .int (nI j_16))]) hx hb dX6_drawn_92 hl (by decide) rfl (fun ls hl => ?_)
              refine lv_lload hx hb dX6_drawn_94 (lv_at hl 1 rfl) ?_
              refine lv_ldc2 hx hb hown wl218 dX6_drawn_96 ?_
              refine lv_lrem hx hb dX6_drawn_99 (by decide) ?_
              obtain ⟨v_35, hv_35, ev_35⟩ : ∃ v : Nat, v < 4 ∧ v_33 % 4 = v := ⟨_, Nat.mod_lt _ (by omega), rfl⟩
              refine wt_topl (z := lN v_35) (by rw [← ev_35]; exact pk_lRem (a := v_33) (b := 4) (by omega) (by omega) (by omega)) ?_
              refine lv_lconst (v := 0) hx hb dX6_drawn_100 (by decide) ?_
              refine W.lcmp hx hb dX6_drawn_101 ?_
              refine lv_topi (fun ov_36 _ => ?_)
              refine lv_if_ne (tgt := 116) hx hb dX6_drawn_102 (by decide) (fun c_37 => ?_) (fun c_37 => ?_)
              · skip
                refine lv_lload hx hb dX6_drawn_116 (lv_at hl 1 rfl) ?_
                refine lv_ldc2 hx hb hown wl284 dX6_drawn_118 ?_
                refine lv_lrem hx hb dX6_drawn_121 (by decide) ?_
                obtain ⟨v_38, hv_38, ev_38⟩ : ∃ v : Nat, v < 5 ∧ v_33 % 5 = v := ⟨_, Nat.mod_lt _ (by omega), rfl⟩
                refine wt_topl (z := lN v_38) (by rw [← ev_38]; exact pk_lRem (a := v_33) (b := 5) (by omega) (by omega) (by omega)) ?_
                refine lv_lconst (v := 0) hx hb dX6_drawn_122 (by decide) ?_
                refine W.lcmp hx hb dX6_drawn_123 ?_
                refine lv_topi (fun ov_39 _ => ?_)
                refine lv_if_ne (tgt := 148) hx hb dX6_drawn_124 (by decide) (fun c_40 => ?_) (fun c_40 => ?_)
                · skip
                  refine lv_aload_n hx hb dX6_drawn_148 rfl (lv_at hl 3 rfl) ?_
                  refine va_get (D := D) (ci := 6) (v := .ref tn) (C := RX6) (T := TX6) (N := 24) hx hb hts hi6 hown hK.1 hP 0 rfl rfl 7 (by decide) wf25 (fun _ h9 => h9) rfl dX6_drawn_149 ?_
                  refine wt_goV (wr := [(md, .inr (6, [.int 0, vm_1, vm_2, vm_3, vm_4, .ref hs, vm_6, .ref tn, vm_8, vm_9, vm_10, vm_11, vm_12, vm_13, vm_14, vm_15, vm_16, vm_17, vm_18, vm_19, vm_20, vm_21, vm_22, vm_23])), (hs, .inl (cI, 45, .inl f))]) (wt_runS (As := [.ref tn]) (rest := []) ⟨hx, hb, hml, hown, hts⟩ (c_X6_minute l D cI cZ cH tn R T g2_20_23 (by first | assumption | omega) (by first | assumption | omega) (by first | assumption | omega)) (va_cwS 1 hts gX6_drawn_X6_minute rfl rfl rfl (by decide +kernel) ⟨Nat.le_of_ble_eq_true rfl, Nat.le_of_ble_eq_true rfl⟩) hK hP hD [2] rfl (by decide) rfl hl.1 rfl (Nat.le_of_ble_eq_true rfl) dX6_drawn_152 ⟨Nat.le_of_ble_eq_true rfl, Nat.le_of_ble_eq_true rfl⟩) hP hD hS hA [2] [0, 1] rfl rfl (by decide) (by decide) (fun w_42 H locs h_43 hP hD hS => ?_)
                  obtain ⟨f2_44, rfl, x_45⟩ := h_43
                  have hP : va_P D vwCl [(md, .inr (6, [.int 0, vm_1, vm_2, vm_3, vm_4, .ref hs, vm_6, .ref tn, vm_8, vm_9, vm_10, vm_11, vm_12, vm_13, vm_14, vm_15, vm_16, vm_17, vm_18, vm_19, vm_20, vm_21, vm_22, vm_23])), (hs, .inl (cI, 45, .inl f)), (tn, .inl (cI, 45, .inl f2_44))] H := hP
                  have hD : va_D A [(md, .inr (6, [.int 0, vm_1, vm_2, vm_3, vm_4, .ref hs, vm_6, .ref tn, vm_8, vm_9, vm_10, vm_11, vm_12, vm_13, vm_14, vm_15, vm_16, vm_17, vm_18, vm_19, vm_20, vm_21, vm_22, vm_23])), (hs, .inl (cI, 45, .inl f)), (tn, .inl (cI, 45, .inl f2_44))] := hD
                  refine lv_iinc (v := nI (i_22 + 1)) (lv' := [(6, .int (nI (i_22 + 1))), (7, .int (nI v_34)), (4, .long (lN v_33)), (0, .ref md), (1, .int (nI j_8)), (2, .int (nI j_12)), (3, .int (nI j_16))]) hx hb dX6_drawn_155 hl (k := 2) rfl (nI_add i_22 1) (by decide) rfl (fun ls hl => ?_)
                  refine lv_goto (tgt := 63) hx hb dX6_drawn_158 (by decide) ?_
                  exact ih63 ((i_22 + 1)) f2_44 v_33 H locs ls (by omega) (by omega) x_45 hP hD hS (lv_sub hl [0, 2, 3, 4, 5, 6] rfl)
                · skip
                  refine lv_aload_n hx hb dX6_drawn_127 rfl (lv_at hl 3 rfl) ?_
                  refine va_get (D := D) (ci := 6) (v := .ref tn) (C := RX6) (T := TX6) (N := 24) hx hb hts hi6 hown hK.1 hP 0 rfl rfl 7 (by decide) wf25 (fun _ h9 => h9) rfl dX6_drawn_128 ?_
                  refine lv_iload hx hb dX6_drawn_131 (lv_at hl 0 rfl) ?_
                  refine lv_iconst (v := 1) hx hb dX6_drawn_133 (by decide) ?_
                  refine lv_lload hx hb dX6_drawn_134 (lv_at hl 1 rfl) ?_
                  refine lv_aload_n hx hb dX6_drawn_136 rfl (lv_at hl 3 rfl) ?_
                  refine va_get (D := D) (ci := 6) (v := .ref tn) (C := RX6) (T := TX6) (N := 24) hx hb hts hi6 hown hK.1 hP 0 rfl rfl 7 (by decide) wf25 (fun _ h9 => h9) rfl dX6_drawn_137 ?_
                  refine lv_iconst (v := 0) hx hb dX6_drawn_140 (by decide) ?_
                  refine va_iald hx hb hK.1 hP 2 0 rfl rfl (by rw [vp_in_iff]; decide) dX6_drawn_141 ?_
                  refine wt_top (z := nI R) (rk_25.1) ?_
                  refine lv_i2l hx hb dX6_drawn_142 rfl ?_
                  refine wt_topl (z := lN R) (nI_l (by omega)) ?_
                  refine lv_lrem hx hb dX6_drawn_143 (wt_lne (by omega) (by omega)) ?_
                  obtain ⟨v_46, hv_46, ev_46⟩ : ∃ v : Nat, v < R ∧ v_33 % R = v := ⟨_, Nat.mod_lt _ (by omega), rfl⟩
                  refine wt_topl (z := lN v_46) (by rw [← ev_46]; exact pk_lRem (a := v_33) (b := R) (by omega) (by omega) (by omega)) ?_
                  refine lv_l2i hx hb dX6_drawn_144 rfl ?_
                  refine wt_top (z := nI v_46) (lN_i _) ?_
                  refine wt_goV (wr := [(md, .inr (6, [.int 0, vm_1, vm_2, vm_3, vm_4, .ref hs, vm_6, .ref tn, vm_8, vm_9, vm_10, vm_11, vm_12, vm_13, vm_14, vm_15, vm_16, vm_17, vm_18, vm_19, vm_20, vm_21, vm_22, vm_23])), (hs, .inl (cI, 45, .inl f))]) (wt_runS (As := [.ref tn, .int (nI v_34), .int 1, .int (nI v_46)]) (rest := []) ⟨hx, hb, hml, hown, hts⟩ (c_X6_be_1 l D cI cZ cH tn R T g2_20_23 v_34 v_46 (by first | assumption | omega) (by first | assumption | omega) (by first | assumption | omega) (by first | assumption | omega) (by first | assumption | omega)) (va_cwS 4 hts gX6_drawn_X6_be rfl rfl rfl (by decide +kernel) ⟨Nat.le_of_ble_eq_true rfl, Nat.le_of_ble_eq_true rfl⟩) hK hP hD [2] rfl (by decide) rfl hl.1 rfl (Nat.le_of_ble_eq_true rfl) dX6_drawn_145 ⟨Nat.le_of_ble_eq_true rfl, Nat.le_of_ble_eq_true rfl⟩) hP hD hS hA [2] [0, 1] rfl rfl (by decide) (by decide) (fun w_48 H locs h_49 hP hD hS => ?_)
                  obtain ⟨f2_50, rfl, x_51⟩ := h_49
                  have hP : va_P D vwCl [(md, .inr (6, [.int 0, vm_1, vm_2, vm_3, vm_4, .ref hs, vm_6, .ref tn, vm_8, vm_9, vm_10, vm_11, vm_12, vm_13, vm_14, vm_15, vm_16, vm_17, vm_18, vm_19, vm_20, vm_21, vm_22, vm_23])), (hs, .inl (cI, 45, .inl f)), (tn, .inl (cI, 45, .inl f2_50))] H := hP
                  have hD : va_D A [(md, .inr (6, [.int 0, vm_1, vm_2, vm_3, vm_4, .ref hs, vm_6, .ref tn, vm_8, vm_9, vm_10, vm_11, vm_12, vm_13, vm_14, vm_15, vm_16, vm_17, vm_18, vm_19, vm_20, vm_21, vm_22, vm_23])), (hs, .inl (cI, 45, .inl f)), (tn, .inl (cI, 45, .inl f2_50))] := hD
                  refine lv_aload_n hx hb dX6_drawn_148 rfl (lv_at hl 3 rfl) ?_
                  refine va_get (D := D) (ci := 6) (v := .ref tn) (C := RX6) (T := TX6) (N := 24) hx hb hts hi6 hown hK.1 hP 0 rfl rfl 7 (by decide) wf25 (fun _ h9 => h9) rfl dX6_drawn_149 ?_
                  refine wt_goV (wr := [(md, .inr (6, [.int 0, vm_1, vm_2, vm_3, vm_4, .ref hs, vm_6, .ref tn, vm_8, vm_9, vm_10, vm_11, vm_12, vm_13, vm_14, vm_15, vm_16, vm_17, vm_18, vm_19, vm_20, vm_21, vm_22, vm_23])), (hs, .inl (cI, 45, .inl f))]) (wt_runS (As := [.ref tn]) (rest := []) ⟨hx, hb, hml, hown, hts⟩ (c_X6_minute l D cI cZ cH tn R T f2_50 (by first | assumption | omega) (by first | assumption | omega) (by first | assumption | omega)) (va_cwS 1 hts gX6_drawn_X6_minute rfl rfl rfl (by decide +kernel) ⟨Nat.le_of_ble_eq_true rfl, Nat.le_of_ble_eq_true rfl⟩) hK hP hD [2] rfl (by decide) rfl hl.1 rfl (Nat.le_of_ble_eq_true rfl) dX6_drawn_152 ⟨Nat.le_of_ble_eq_true rfl, Nat.le_of_ble_eq_true rfl⟩) hP hD hS hA [2] [0, 1] rfl rfl (by decide) (by decide) (fun w_53 H locs h_54 hP hD hS => ?_)
                  obtain ⟨f2_55, rfl, x_56⟩ := h_54
                  have hP : va_P D vwCl [(md, .inr (6, [.int 0, vm_1, vm_2, vm_3, vm_4, .ref hs, vm_6, .ref tn, vm_8, vm_9, vm_10, vm_11, vm_12, vm_13, vm_14, vm_15, vm_16, vm_17, vm_18, vm_19, vm_20, vm_21, vm_22, vm_23])), (hs, .inl (cI, 45, .inl f)), (tn, .inl (cI, 45, .inl f2_55))] H := hP
                  have hD : va_D A [(md, .inr (6, [.int 0, vm_1, vm_2, vm_3, vm_4, .ref hs, vm_6, .ref tn, vm_8, vm_9, vm_10, vm_11, vm_12, vm_13, vm_14, vm_15, vm_16, vm_17, vm_18, vm_19, vm_20, vm_21, vm_22, vm_23])), (hs, .inl (cI, 45, .inl f)), (tn, .inl (cI, 45, .inl f2_55))] := hD
                  refine lv_iinc (v := nI (i_22 + 1)) (lv' := [(6, .int (nI (i_22 + 1))), (7, .int (nI v_34)), (4, .long (lN v_33)), (0, .ref md), (1, .int (nI j_8)), (2, .int (nI j_12)), (3, .int (nI j_16))]) hx hb dX6_drawn_155 hl (k := 2) rfl (nI_add i_22 1) (by decide) rfl (fun ls hl => ?_)
                  refine lv_goto (tgt := 63) hx hb dX6_drawn_158 (by decide) ?_
                  exact ih63 ((i_22 + 1)) f2_55 v_33 H locs ls (by omega) (by omega) x_56 hP hD hS (lv_sub hl [0, 2, 3, 4, 5, 6] rfl)
              · skip
                refine lv_aload_n hx hb dX6_drawn_105 rfl (lv_at hl 3 rfl) ?_
                refine va_get (D := D) (ci := 6) (v := .ref tn) (C := RX6) (T := TX6) (N := 24) hx hb hts hi6 hown hK.1 hP 0 rfl rfl 7 (by decide) wf25 (fun _ h9 => h9) rfl dX6_drawn_106 ?_
                refine lv_iload hx hb dX6_drawn_109 (lv_at hl 0 rfl) ?_
                refine wt_goI (wr := [(md, .inr (6, [.int 0, vm_1, vm_2, vm_3, vm_4, .ref hs, vm_6, .ref tn, vm_8, vm_9, vm_10, vm_11, vm_12, vm_13, vm_14, vm_15, vm_16, vm_17, vm_18, vm_19, vm_20, vm_21, vm_22, vm_23])), (hs, .inl (cI, 45, .inl f))]) (wt_runS (As := [.ref tn, .int (nI v_34)]) (rest := []) ⟨hx, hb, hml, hown, hts⟩ (c_X6_shaken l D cI cZ cH tn R T g2_20_23 v_34 (by first | assumption | omega) (by first | assumption | omega) (by first | assumption | omega) (by first | assumption | omega)) (va_cwS 2 hts gX6_drawn_X6_shaken rfl rfl rfl (by decide +kernel) ⟨Nat.le_of_ble_eq_true rfl, Nat.le_of_ble_eq_true rfl⟩) hK hP hD [2] rfl (by decide) rfl hl.1 rfl (Nat.le_of_ble_eq_true rfl) dX6_drawn_111 ⟨Nat.le_of_ble_eq_true rfl, Nat.le_of_ble_eq_true rfl⟩) hP hD hS hA [2] [0, 1] rfl rfl (by decide) (by decide) (fun r_57 w_58 H locs h_59 hP hD hS => ?_)
                obtain ⟨f2_60, rfl, x_61⟩ := h_59
                have hP : va_P D vwCl [(md, .inr (6, [.int 0, vm_1, vm_2, vm_3, vm_4, .ref hs, vm_6, .ref tn, vm_8, vm_9, vm_10, vm_11, vm_12, vm_13, vm_14, vm_15, vm_16, vm_17, vm_18, vm_19, vm_20, vm_21, vm_22, vm_23])), (hs, .inl (cI, 45, .inl f)), (tn, .inl (cI, 45, .inl f2_60))] H := hP
                have hD : va_D A [(md, .inr (6, [.int 0, vm_1, vm_2, vm_3, vm_4, .ref hs, vm_6, .ref tn, vm_8, vm_9, vm_10, vm_11, vm_12, vm_13, vm_14, vm_15, vm_16, vm_17, vm_18, vm_19, vm_20, vm_21, vm_22, vm_23])), (hs, .inl (cI, 45, .inl f)), (tn, .inl (cI, 45, .inl f2_60))] := hD
                refine lv_istore (lv' := [(8, .int r_57), (7, .int (nI v_34)), (4, .long (lN v_33)), (6, .int (nI i_22)), (0, .ref md), (1, .int (nI j_8)), (2, .int (nI j_12)), (3, .int (nI j_16))]) hx hb dX6_drawn_114 hl (by decide) rfl (fun ls hl => ?_)
                refine lv_lload hx hb dX6_drawn_116 (lv_at hl 2 rfl) ?_
                refine lv_ldc2 hx hb hown wl284 dX6_drawn_118 ?_
                refine lv_lrem hx hb dX6_drawn_121 (by decide) ?_
                obtain ⟨v_62, hv_62, ev_62⟩ : ∃ v : Nat, v < 5 ∧ v_33 % 5 = v := ⟨_, Nat.mod_lt _ (by omega), rfl⟩
                refine wt_topl (z := lN v_62) (by rw [← ev_62]; exact pk_lRem (a := v_33) (b := 5) (by omega) (by omega) (by omega)) ?_
                refine lv_lconst (v := 0) hx hb dX6_drawn_122 (by decide) ?_
                refine W.lcmp hx hb dX6_drawn_123 ?_
                refine lv_topi (fun ov_63 _ => ?_)
                refine lv_if_ne (tgt := 148) hx hb dX6_drawn_124 (by decide) (fun c_64 => ?_) (fun c_64 => ?_)
                · skip
                  refine lv_aload_n hx hb dX6_drawn_148 rfl (lv_at hl 4 rfl) ?_
                  refine va_get (D := D) (ci := 6) (v := .ref tn) (C := RX6) (T := TX6) (N := 24) hx hb hts hi6 hown hK.1 hP 0 rfl rfl 7 (by decide) wf25 (fun _ h9 => h9) rfl dX6_drawn_149 ?_
                  refine wt_goV (wr := [(md, .inr (6, [.int 0, vm_1, vm_2, vm_3, vm_4, .ref hs, vm_6, .ref tn, vm_8, vm_9, vm_10, vm_11, vm_12, vm_13, vm_14, vm_15, vm_16, vm_17, vm_18, vm_19, vm_20, vm_21, vm_22, vm_23])), (hs, .inl (cI, 45, .inl f))]) (wt_runS (As := [.ref tn]) (rest := []) ⟨hx, hb, hml, hown, hts⟩ (c_X6_minute l D cI cZ cH tn R T f2_60 (by first | assumption | omega) (by first | assumption | omega) (by first | assumption | omega)) (va_cwS 1 hts gX6_drawn_X6_minute rfl rfl rfl (by decide +kernel) ⟨Nat.le_of_ble_eq_true rfl, Nat.le_of_ble_eq_true rfl⟩) hK hP hD [2] rfl (by decide) rfl hl.1 rfl (Nat.le_of_ble_eq_true rfl) dX6_drawn_152 ⟨Nat.le_of_ble_eq_true rfl, Nat.le_of_ble_eq_true rfl⟩) hP hD hS hA [2] [0, 1] rfl rfl (by decide) (by decide) (fun w_66 H locs h_67 hP hD hS => ?_)
                  obtain ⟨f2_68, rfl, x_69⟩ := h_67
                  have hP : va_P D vwCl [(md, .inr (6, [.int 0, vm_1, vm_2, vm_3, vm_4, .ref hs, vm_6, .ref tn, vm_8, vm_9, vm_10, vm_11, vm_12, vm_13, vm_14, vm_15, vm_16, vm_17, vm_18, vm_19, vm_20, vm_21, vm_22, vm_23])), (hs, .inl (cI, 45, .inl f)), (tn, .inl (cI, 45, .inl f2_68))] H := hP
                  have hD : va_D A [(md, .inr (6, [.int 0, vm_1, vm_2, vm_3, vm_4, .ref hs, vm_6, .ref tn, vm_8, vm_9, vm_10, vm_11, vm_12, vm_13, vm_14, vm_15, vm_16, vm_17, vm_18, vm_19, vm_20, vm_21, vm_22, vm_23])), (hs, .inl (cI, 45, .inl f)), (tn, .inl (cI, 45, .inl f2_68))] := hD
                  refine lv_iinc (v := nI (i_22 + 1)) (lv' := [(6, .int (nI (i_22 + 1))), (8, .int r_57), (7, .int (nI v_34)), (4, .long (lN v_33)), (0, .ref md), (1, .int (nI j_8)), (2, .int (nI j_12)), (3, .int (nI j_16))]) hx hb dX6_drawn_155 hl (k := 3) rfl (nI_add i_22 1) (by decide) rfl (fun ls hl => ?_)
                  refine lv_goto (tgt := 63) hx hb dX6_drawn_158 (by decide) ?_
                  exact ih63 ((i_22 + 1)) f2_68 v_33 H locs ls (by omega) (by omega) x_69 hP hD hS (lv_sub hl [0, 3, 4, 5, 6, 7] rfl)
                · skip
                  refine lv_aload_n hx hb dX6_drawn_127 rfl (lv_at hl 4 rfl) ?_
                  refine va_get (D := D) (ci := 6) (v := .ref tn) (C := RX6) (T := TX6) (N := 24) hx hb hts hi6 hown hK.1 hP 0 rfl rfl 7 (by decide) wf25 (fun _ h9 => h9) rfl dX6_drawn_128 ?_
                  refine lv_iload hx hb dX6_drawn_131 (lv_at hl 1 rfl) ?_
                  refine lv_iconst (v := 1) hx hb dX6_drawn_133 (by decide) ?_
                  refine lv_lload hx hb dX6_drawn_134 (lv_at hl 2 rfl) ?_
                  refine lv_aload_n hx hb dX6_drawn_136 rfl (lv_at hl 4 rfl) ?_
                  refine va_get (D := D) (ci := 6) (v := .ref tn) (C := RX6) (T := TX6) (N := 24) hx hb hts hi6 hown hK.1 hP 0 rfl rfl 7 (by decide) wf25 (fun _ h9 => h9) rfl dX6_drawn_137 ?_
                  refine lv_iconst (v := 0) hx hb dX6_drawn_140 (by decide) ?_
                  refine va_iald hx hb hK.1 hP 2 0 rfl rfl (by rw [vp_in_iff]; decide) dX6_drawn_141 ?_
                  refine wt_top (z := nI R) (x_61.1) ?_
                  refine lv_i2l hx hb dX6_drawn_142 rfl ?_
                  refine wt_topl (z := lN R) (nI_l (by omega)) ?_
                  refine lv_lrem hx hb dX6_drawn_143 (wt_lne (by omega) (by omega)) ?_
                  obtain ⟨v_70, hv_70, ev_70⟩ : ∃ v : Nat, v < R ∧ v_33 % R = v := ⟨_, Nat.mod_lt _ (by omega), rfl⟩
                  refine wt_topl (z := lN v_70) (by rw [← ev_70]; exact pk_lRem (a := v_33) (b := R) (by omega) (by omega) (by omega)) ?_
                  refine lv_l2i hx hb dX6_drawn_144 rfl ?_
                  refine wt_top (z := nI v_70) (lN_i _) ?_
                  refine wt_goV (wr := [(md, .inr (6, [.int 0, vm_1, vm_2, vm_3, vm_4, .ref hs, vm_6, .ref tn, vm_8, vm_9, vm_10, vm_11, vm_12, vm_13, vm_14, vm_15, vm_16, vm_17, vm_18, vm_19, vm_20, vm_21, vm_22, vm_23])), (hs, .inl (cI, 45, .inl f))]) (wt_runS (As := [.ref tn, .int (nI v_34), .int 1, .int (nI v_70)]) (rest := []) ⟨hx, hb, hml, hown, hts⟩ (c_X6_be_1 l D cI cZ cH tn R T f2_60 v_34 v_70 (by first | assumption | omega) (by first | assumption | omega) (by first | assumption | omega) (by first | assumption | omega) (by first | assumption | omega)) (va_cwS 4 hts gX6_drawn_X6_be rfl rfl rfl (by decide +kernel) ⟨Nat.le_of_ble_eq_true rfl, Nat.le_of_ble_eq_true rfl⟩) hK hP hD [2] rfl (by decide) rfl hl.1 rfl (Nat.le_of_ble_eq_true rfl) dX6_drawn_145 ⟨Nat.le_of_ble_eq_true rfl, Nat.le_of_ble_eq_true rfl⟩) hP hD hS hA [2] [0, 1] rfl rfl (by decide) (by decide) (fun w_72 H locs h_73 hP hD hS => ?_)
                  obtain ⟨f2_74, rfl, x_75⟩ := h_73
                  have hP : va_P D vwCl [(md, .inr (6, [.int 0, vm_1, vm_2, vm_3, vm_4, .ref hs, vm_6, .ref tn, vm_8, vm_9, vm_10, vm_11, vm_12, vm_13, vm_14, vm_15, vm_16, vm_17, vm_18, vm_19, vm_20, vm_21, vm_22, vm_23])), (hs, .inl (cI, 45, .inl f)), (tn, .inl (cI, 45, .inl f2_74))] H := hP
                  have hD : va_D A [(md, .inr (6, [.int 0, vm_1, vm_2, vm_3, vm_4, .ref hs, vm_6, .ref tn, vm_8, vm_9, vm_10, vm_11, vm_12, vm_13, vm_14, vm_15, vm_16, vm_17, vm_18, vm_19, vm_20, vm_21, vm_22, vm_23])), (hs, .inl (cI, 45, .inl f)), (tn, .inl (cI, 45, .inl f2_74))] := hD
                  refine lv_aload_n hx hb dX6_drawn_148 rfl (lv_at hl 4 rfl) ?_
                  refine va_get (D := D) (ci := 6) (v := .ref tn) (C := RX6) (T := TX6) (N := 24) hx hb hts hi6 hown hK.1 hP 0 rfl rfl 7 (by decide) wf25 (fun _ h9 => h9) rfl dX6_drawn_149 ?_
                  refine wt_goV (wr := [(md, .inr (6, [.int 0, vm_1, vm_2, vm_3, vm_4, .ref hs, vm_6, .ref tn, vm_8, vm_9, vm_10, vm_11, vm_12, vm_13, vm_14, vm_15, vm_16, vm_17, vm_18, vm_19, vm_20, vm_21, vm_22, vm_23])), (hs, .inl (cI, 45, .inl f))]) (wt_runS (As := [.ref tn]) (rest := []) ⟨hx, hb, hml, hown, hts⟩ (c_X6_minute l D cI cZ cH tn R T f2_74 (by first | assumption | omega) (by first | assumption | omega) (by first | assumption | omega)) (va_cwS 1 hts gX6_drawn_X6_minute rfl rfl rfl (by decide +kernel) ⟨Nat.le_of_ble_eq_true rfl, Nat.le_of_ble_eq_true rfl⟩) hK hP hD [2] rfl (by decide) rfl hl.1 rfl (Nat.le_of_ble_eq_true rfl) dX6_drawn_152 ⟨Nat.le_of_ble_eq_true rfl, Nat.le_of_ble_eq_true rfl⟩) hP hD hS hA [2] [0, 1] rfl rfl (by decide) (by decide) (fun w_77 H locs h_78 hP hD hS => ?_)
                  obtain ⟨f2_79, rfl, x_80⟩ := h_78
                  have hP : va_P D vwCl [(md, .inr (6, [.int 0, vm_1, vm_2, vm_3, vm_4, .ref hs, vm_6, .ref tn, vm_8, vm_9, vm_10, vm_11, vm_12, vm_13, vm_14, vm_15, vm_16, vm_17, vm_18, vm_19, vm_20, vm_21, vm_22, vm_23])), (hs, .inl (cI, 45, .inl f)), (tn, .inl (cI, 45, .inl f2_79))] H := hP
                  have hD : va_D A [(md, .inr (6, [.int 0, vm_1, vm_2, vm_3, vm_4, .ref hs, vm_6, .ref tn, vm_8, vm_9, vm_10, vm_11, vm_12, vm_13, vm_14, vm_15, vm_16, vm_17, vm_18, vm_19, vm_20, vm_21, vm_22, vm_23])), (hs, .inl (cI, 45, .inl f)), (tn, .inl (cI, 45, .inl f2_79))] := hD
                  refine lv_iinc (v := nI (i_22 + 1)) (lv' := [(6, .int (nI (i_22 + 1))), (8, .int r_57), (7, .int (nI v_34)), (4, .long (lN v_33)), (0, .ref md), (1, .int (nI j_8)), (2, .int (nI j_12)), (3, .int (nI j_16))]) hx hb dX6_drawn_155 hl (k := 3) rfl (nI_add i_22 1) (by decide) rfl (fun ls hl => ?_)
                  refine lv_goto (tgt := 63) hx hb dX6_drawn_158 (by decide) ?_
                  exact ih63 ((i_22 + 1)) f2_79 v_33 H locs ls (by omega) (by omega) x_80 hP hD hS (lv_sub hl [0, 3, 4, 5, 6, 7] rfl)
          exact loop63 (j_8 - 0) (0) g2_20 j_12 _ _ ls (by omega) (by omega) x_21 hP hD hS hl
        · skip
          refine lv_ldc hx hb hown wc67 dX6_drawn_49 ?_
          have hP9 := hP.sub (ws' := [(md, .inr (6, [.int 0, vm_1, vm_2, vm_3, vm_4, .ref hs, vm_6, .ref tn, vm_8, vm_9, vm_10, vm_11, vm_12, vm_13, vm_14, vm_15, vm_16, vm_17, vm_18, vm_19, vm_20, vm_21, vm_22, vm_23])), (hs, .inl (cI, 45, .inl f)), (tn, .inl (cI, 45, .inl g))]) [0, 1, 2] rfl
          have hD9 := hD.sub (ws' := [(md, .inr (6, [.int 0, vm_1, vm_2, vm_3, vm_4, .ref hs, vm_6, .ref tn, vm_8, vm_9, vm_10, vm_11, vm_12, vm_13, vm_14, vm_15, vm_16, vm_17, vm_18, vm_19, vm_20, vm_21, vm_22, vm_23])), (hs, .inl (cI, 45, .inl f)), (tn, .inl (cI, 45, .inl g))]) [0, 1, 2] (by decide) rfl
          exact wt_iret hx hb hr hlocks hP9 hD9 hS ⟨g, rfl⟩ dX6_drawn_51
  · skip
    refine lv_ldc hx hb hown wc189 dX6_drawn_12 ?_
    have hP9 := hP.sub (ws' := [(md, .inr (6, [.int 0, vm_1, vm_2, vm_3, vm_4, .ref hs, vm_6, .ref tn, vm_8, vm_9, vm_10, vm_11, vm_12, vm_13, vm_14, vm_15, vm_16, vm_17, vm_18, vm_19, vm_20, vm_21, vm_22, vm_23])), (hs, .inl (cI, 45, .inl f)), (tn, .inl (cI, 45, .inl g))]) [0, 1, 2] rfl
    have hD9 := hD.sub (ws' := [(md, .inr (6, [.int 0, vm_1, vm_2, vm_3, vm_4, .ref hs, vm_6, .ref tn, vm_8, vm_9, vm_10, vm_11, vm_12, vm_13, vm_14, vm_15, vm_16, vm_17, vm_18, vm_19, vm_20, vm_21, vm_22, vm_23])), (hs, .inl (cI, 45, .inl f)), (tn, .inl (cI, 45, .inl g))]) [0, 1, 2] (by decide) rfl
    exact wt_iret hx hb hr hlocks hP9 hD9 hS ⟨g, rfl⟩ dX6_drawn_14
set_option maxHeartbeats 4000000 in
set_option maxRecDepth 100000 in
theorem c_X6_began (l : Launch) (D : va_G) (cI cZ cH : ClassId) (md tc kn : Nat) (cf : Nat → Int32) (a1 : Int32) (vm_0 vm_1 vm_2 vm_3 vm_4 vm_5 vm_6 vm_7 vm_8 vm_9 vm_10 vm_11 vm_12 vm_13 vm_14 vm_15 vm_16 vm_17 vm_18 vm_19 vm_20 vm_21 : Value) (hkn : kn ≤ 16) : wt_M l yX6_began wsX6_began ({ frames := 0, cells := 0, slots := 0, locals := 0 } : Room) D (wt_T cI cZ cH) [.ref md, .int a1] [(md, .inr (6, [vm_0, vm_1, vm_2, vm_3, vm_4, vm_5, vm_6, vm_7, vm_8, vm_9, vm_10, vm_11, vm_12, vm_13, vm_14, vm_15, vm_16, vm_17, vm_18, vm_19, vm_20, vm_21, .ref tc, .int (nI kn)])), (tc, .inl (cI, 16, .inl cf))] (wt_QV D (fun w => ∃ (cf2 : Nat → Int32) (kn2 : Nat), w = [(md, .inr (6, [vm_0, vm_1, vm_2, vm_3, vm_4, vm_5, vm_6, vm_7, vm_8, vm_9, vm_10, vm_11, vm_12, vm_13, vm_14, vm_15, vm_16, vm_17, vm_18, vm_19, vm_20, vm_21, .ref tc, .int (nI kn2)])), (tc, .inl (cI, 16, .inl cf2))] ∧ kn2 ≤ 16)) := by
  refine wt_M.ofW (cc := cX6_began) (maxL := 2) (ret := none) (by decide) rfl (Nat.le_of_ble_eq_true rfl) ?_
  intro p e s m below meth c A ls hx hb hr hts hown hlocks hml hnm hP hK hD hA hS hl
  have hP : va_P D vwCl [(md, .inr (6, [vm_0, vm_1, vm_2, vm_3, vm_4, vm_5, vm_6, vm_7, vm_8, vm_9, vm_10, vm_11, vm_12, vm_13, vm_14, vm_15, vm_16, vm_17, vm_18, vm_19, vm_20, vm_21, .ref tc, .int (nI kn)])), (tc, .inl (cI, 16, .inl cf))] s.heap := hP
  have hown : s.vm.findClass RX6 = some m.cls := hown
  have hl : lv_has ls 2 [(0, .ref md), (1, .int a1)] := hl
  have hi6 : ∀ w ∈ u_ws RX6 TX6 24, w ∈ wsX6_began := by decide +kernel
  have wf289 := hts (.fieldLink RX6 289 "WarmTubesModel" "traced" "I") (by decide +kernel)
  have wf44 := hts (.fieldLink RX6 44 "WarmTubesModel" "trace" "[I") (by decide +kernel)
  refine lv_aload_n hx hb dX6_began_0 rfl (lv_at hl 0 rfl) ?_
  refine va_get (D := D) (ci := 6) (v := .int (nI kn)) (C := RX6) (T := TX6) (N := 24) hx hb hts hi6 hown hK.1 hP 0 rfl rfl 23 (by decide) wf289 (fun _ h9 => h9) rfl dX6_began_1 ?_
  refine lv_bipush (v := 16) hx hb dX6_began_4 (by decide) ?_
  refine lv_icmp_ge (tgt := 29) hx hb dX6_began_6 (by decide) (fun c_1 => ?_) (fun c_1 => ?_)
  · skip
    have c_1 : 16 ≤ kn := (nI_leI (a := 16) (b := kn) (by omega) (by omega)).mp c_1
    have hP9 := hP.sub (ws' := [(md, .inr (6, [vm_0, vm_1, vm_2, vm_3, vm_4, vm_5, vm_6, vm_7, vm_8, vm_9, vm_10, vm_11, vm_12, vm_13, vm_14, vm_15, vm_16, vm_17, vm_18, vm_19, vm_20, vm_21, .ref tc, .int (nI kn)])), (tc, .inl (cI, 16, .inl cf))]) [0, 1] rfl
    have hD9 := hD.sub (ws' := [(md, .inr (6, [vm_0, vm_1, vm_2, vm_3, vm_4, vm_5, vm_6, vm_7, vm_8, vm_9, vm_10, vm_11, vm_12, vm_13, vm_14, vm_15, vm_16, vm_17, vm_18, vm_19, vm_20, vm_21, .ref tc, .int (nI kn)])), (tc, .inl (cI, 16, .inl cf))]) [0, 1] (by decide) rfl
    exact wt_vret hx hb hr hlocks hP9 hD9 hS ⟨cf, kn, rfl, (by omega)⟩ dX6_began_29
  · skip
    have c_1 : ¬ (16 ≤ kn) := fun h => c_1 ((nI_leI (a := 16) (b := kn) (by omega) (by omega)).mpr h)
    refine lv_aload_n hx hb dX6_began_9 rfl (lv_at hl 0 rfl) ?_
    refine va_get (D := D) (ci := 6) (v := .ref tc) (C := RX6) (T := TX6) (N := 24) hx hb hts hi6 hown hK.1 hP 0 rfl rfl 22 (by decide) wf44 (fun _ h9 => h9) rfl dX6_began_10 ?_
    refine lv_aload_n hx hb dX6_began_13 rfl (lv_at hl 0 rfl) ?_
    refine va_get (D := D) (ci := 6) (v := .int (nI kn)) (C := RX6) (T := TX6) (N := 24) hx hb hts hi6 hown hK.1 hP 0 rfl rfl 23 (by decide) wf289 (fun _ h9 => h9) rfl dX6_began_14 ?_
    refine lv_iload_n hx hb dX6_began_17 rfl (lv_at hl 1 rfl) ?_
    refine va_iast hx hb hK.1 hP hD hS 1 0 rfl rfl (vp_in_nI (by omega) (by omega)) dX6_began_18 (fun H locs hP hD hS => ?_)
    have hP : va_P D vwCl [(md, .inr (6, [vm_0, vm_1, vm_2, vm_3, vm_4, vm_5, vm_6, vm_7, vm_8, vm_9, vm_10, vm_11, vm_12, vm_13, vm_14, vm_15, vm_16, vm_17, vm_18, vm_19, vm_20, vm_21, .ref tc, .int (nI kn)])), (tc, .inl (cI, 16, .inl (upd cf ((nI kn).toNatClampNeg) a1)))] H := hP
    have hD : va_D A [(md, .inr (6, [vm_0, vm_1, vm_2, vm_3, vm_4, vm_5, vm_6, vm_7, vm_8, vm_9, vm_10, vm_11, vm_12, vm_13, vm_14, vm_15, vm_16, vm_17, vm_18, vm_19, vm_20, vm_21, .ref tc, .int (nI kn)])), (tc, .inl (cI, 16, .inl (upd cf ((nI kn).toNatClampNeg) a1)))] := hD
    generalize upd cf ((nI kn).toNatClampNeg) a1 = cf_2 at hP hD
    refine lv_aload_n hx hb dX6_began_19 rfl (lv_at hl 0 rfl) ?_
    refine lv_dup hx hb dX6_began_20 rfl ?_
    refine va_get (D := D) (ci := 6) (v := .int (nI kn)) (C := RX6) (T := TX6) (N := 24) hx hb hts hi6 hown hK.1 hP 0 rfl rfl 23 (by decide) wf289 (fun _ h9 => h9) rfl dX6_began_21 ?_
    refine lv_iconst (v := 1) hx hb dX6_began_24 (by decide) ?_
    refine lv_iadd hx hb dX6_began_25 ?_
    refine wt_top (z := nI (kn + 1)) (nI_add kn 1) ?_
    refine va_put (D := D) (ci := 6) (v := .int (nI (kn + 1))) (ty := .int) (C := RX6) (T := TX6) (N := 24) hx hb hts hi6 tyX6 tyX6_ok nmX6 hown hK.1 hP hD hS 0 rfl rfl 23 (by decide) wf289 (fun _ h9 => h9) rfl (by decide +kernel) rfl rfl (Nat.le_of_ble_eq_true rfl) dX6_began_26 (fun H locs hP hD hS => ?_)
    have hP : va_P D vwCl [(md, .inr (6, [vm_0, vm_1, vm_2, vm_3, vm_4, vm_5, vm_6, vm_7, vm_8, vm_9, vm_10, vm_11, vm_12, vm_13, vm_14, vm_15, vm_16, vm_17, vm_18, vm_19, vm_20, vm_21, .ref tc, .int (nI (kn + 1))])), (tc, .inl (cI, 16, .inl cf_2))] H := hP
    have hD : va_D A [(md, .inr (6, [vm_0, vm_1, vm_2, vm_3, vm_4, vm_5, vm_6, vm_7, vm_8, vm_9, vm_10, vm_11, vm_12, vm_13, vm_14, vm_15, vm_16, vm_17, vm_18, vm_19, vm_20, vm_21, .ref tc, .int (nI (kn + 1))])), (tc, .inl (cI, 16, .inl cf_2))] := hD
    have hP9 := hP.sub (ws' := [(md, .inr (6, [vm_0, vm_1, vm_2, vm_3, vm_4, vm_5, vm_6, vm_7, vm_8, vm_9, vm_10, vm_11, vm_12, vm_13, vm_14, vm_15, vm_16, vm_17, vm_18, vm_19, vm_20, vm_21, .ref tc, .int (nI (kn + 1))])), (tc, .inl (cI, 16, .inl cf_2))]) [0, 1] rfl
    have hD9 := hD.sub (ws' := [(md, .inr (6, [vm_0, vm_1, vm_2, vm_3, vm_4, vm_5, vm_6, vm_7, vm_8, vm_9, vm_10, vm_11, vm_12, vm_13, vm_14, vm_15, vm_16, vm_17, vm_18, vm_19, vm_20, vm_21, .ref tc, .int (nI (kn + 1))])), (tc, .inl (cI, 16, .inl cf_2))]) [0, 1] (by decide) rfl
    exact wt_vret hx hb hr hlocks hP9 hD9 hS ⟨cf_2, (kn + 1), rfl, (by omega)⟩ dX6_began_29
set_option maxHeartbeats 4000000 in
set_option maxRecDepth 100000 in
theorem c_X6_plainSize (l : Launch) (D : va_G) (cI cZ cH : ClassId) (md hs : Nat) (R T : Nat) (f : Nat → Int32) (tc kn : Nat) (cf : Nat → Int32) (j : Nat) (vm_0 vm_1 vm_2 vm_3 vm_4 vm_6 vm_7 vm_8 vm_9 vm_10 vm_11 vm_12 vm_13 vm_14 vm_15 vm_16 vm_17 vm_18 vm_19 vm_20 vm_21 : Value) (hR5 : R ≤ 5) (hT6 : T ≤ 6) (hrk : rk R T f) (hj6 : j < 6) (hkn : kn ≤ 16) : wt_M l yX6_plainSize wsX6_plainSize ({ frames := 1, cells := 0, slots := 0, locals := 22 } : Room) D (wt_T cI cZ cH) [.ref md, .int (nI j)] [(md, .inr (6, [vm_0, vm_1, vm_2, vm_3, vm_4, .ref hs, vm_6, vm_7, vm_8, vm_9, vm_10, vm_11, vm_12, vm_13, vm_14, vm_15, vm_16, vm_17, vm_18, vm_19, vm_20, vm_21, .ref tc, .int (nI kn)])), (hs, .inl (cI, 45, .inl f)), (tc, .inl (cI, 16, .inl cf))] (wt_QI D (fun r w => ∃ (cf2 : Nat → Int32) (kn2 : Nat), w = [(md, .inr (6, [vm_0, vm_1, vm_2, vm_3, vm_4, .ref hs, vm_6, vm_7, vm_8, vm_9, vm_10, vm_11, vm_12, vm_13, vm_14, vm_15, vm_16, vm_17, vm_18, vm_19, vm_20, vm_21, .ref tc, .int (nI kn2)])), (hs, .inl (cI, 45, .inl f)), (tc, .inl (cI, 16, .inl cf2))] ∧ kn2 ≤ 16)) := by
  refine wt_M.ofW (cc := cX6_plainSize) (maxL := 2) (ret := (some .int)) (by decide) rfl (Nat.le_of_ble_eq_true rfl) ?_
  intro p e s m below meth c A ls hx hb hr hts hown hlocks hml hnm hP hK hD hA hS hl
  have hP : va_P D vwCl [(md, .inr (6, [vm_0, vm_1, vm_2, vm_3, vm_4, .ref hs, vm_6, vm_7, vm_8, vm_9, vm_10, vm_11, vm_12, vm_13, vm_14, vm_15, vm_16, vm_17, vm_18, vm_19, vm_20, vm_21, .ref tc, .int (nI kn)])), (hs, .inl (cI, 45, .inl f)), (tc, .inl (cI, 16, .inl cf))] s.heap := hP
  have hown : s.vm.findClass RX6 = some m.cls := hown
  have hl : lv_has ls 2 [(0, .ref md), (1, .int (nI j))] := hl
  have hi6 : ∀ w ∈ u_ws RX6 TX6 24, w ∈ wsX6_plainSize := by decide +kernel
  have wf19 := hts (.fieldLink RX6 19 "WarmTubesModel" "house" "[I") (by decide +kernel)
  refine lv_aload_n hx hb dX6_plainSize_0 rfl (lv_at hl 0 rfl) ?_
  refine lv_bipush (v := 10) hx hb dX6_plainSize_1 (by decide) ?_
  refine wt_goV (wr := [(hs, .inl (cI, 45, .inl f))]) (wt_runV (As := [.int 10]) (rest := []) ⟨hx, hb, hml, hown, hts⟩ (c_X6_began l D cI cZ cH md tc kn cf 10 vm_0 vm_1 vm_2 vm_3 vm_4 (.ref hs) vm_6 vm_7 vm_8 vm_9 vm_10 vm_11 vm_12 vm_13 vm_14 vm_15 vm_16 vm_17 vm_18 vm_19 vm_20 vm_21 (by first | assumption | omega)) (cwV 1 hts gX6_plainSize_X6_began rfl rfl rfl (by decide +kernel) ⟨Nat.le_of_ble_eq_true rfl, Nat.le_of_ble_eq_true rfl⟩) hK hP hD [0, 2] rfl (by decide) (va_recv hK.1 hP (ci := 6) (q0 := 0) rfl rfl) rfl hl.1 rfl (Nat.le_of_ble_eq_true rfl) dX6_plainSize_3 ⟨Nat.le_of_ble_eq_true rfl, Nat.le_of_ble_eq_true rfl⟩) hP hD hS hA [0, 2] [1] rfl rfl (by decide) (by decide) (fun w_2 H locs h_3 hP hD hS => ?_)
  obtain ⟨cf2_4, kn2_5, rfl, x_6⟩ := h_3
  have hP : va_P D vwCl [(hs, .inl (cI, 45, .inl f)), (md, .inr (6, [vm_0, vm_1, vm_2, vm_3, vm_4, .ref hs, vm_6, vm_7, vm_8, vm_9, vm_10, vm_11, vm_12, vm_13, vm_14, vm_15, vm_16, vm_17, vm_18, vm_19, vm_20, vm_21, .ref tc, .int (nI kn2_5)])), (tc, .inl (cI, 16, .inl cf2_4))] H := hP
  have hD : va_D A [(hs, .inl (cI, 45, .inl f)), (md, .inr (6, [vm_0, vm_1, vm_2, vm_3, vm_4, .ref hs, vm_6, vm_7, vm_8, vm_9, vm_10, vm_11, vm_12, vm_13, vm_14, vm_15, vm_16, vm_17, vm_18, vm_19, vm_20, vm_21, .ref tc, .int (nI kn2_5)])), (tc, .inl (cI, 16, .inl cf2_4))] := hD
  refine lv_aload_n hx hb dX6_plainSize_6 rfl (lv_at hl 0 rfl) ?_
  refine va_get (D := D) (ci := 6) (v := .ref hs) (C := RX6) (T := TX6) (N := 24) hx hb hts hi6 hown hK.1 hP 1 rfl rfl 5 (by decide) wf19 (fun _ h9 => h9) rfl dX6_plainSize_7 ?_
  refine lv_iload_n hx hb dX6_plainSize_10 rfl (lv_at hl 1 rfl) ?_
  refine lv_iconst (v := 3) hx hb dX6_plainSize_11 (by decide) ?_
  refine wt_rS (As := [.ref hs, .int (nI j), .int 3]) (rest := []) ⟨hx, hb, hml, hown, hts⟩ (c_X6_of_w l D cI cZ cH hs R T f j 3 (by first | assumption | omega) (by first | assumption | omega) (by first | assumption | omega) (by first | assumption | omega) (by first | assumption | omega)) (va_cwS 3 hts gX6_plainSize_X6_of rfl rfl rfl (by decide +kernel) ⟨Nat.le_of_ble_eq_true rfl, Nat.le_of_ble_eq_true rfl⟩) hK hP [0] rfl rfl hl.1 rfl (Nat.le_of_ble_eq_true rfl) dX6_plainSize_12 ⟨Nat.le_of_ble_eq_true rfl, Nat.le_of_ble_eq_true rfl⟩ (fun r_7 e_8 => ?_)
  have hP9 := hP.sub (ws' := [(md, .inr (6, [vm_0, vm_1, vm_2, vm_3, vm_4, .ref hs, vm_6, vm_7, vm_8, vm_9, vm_10, vm_11, vm_12, vm_13, vm_14, vm_15, vm_16, vm_17, vm_18, vm_19, vm_20, vm_21, .ref tc, .int (nI kn2_5)])), (hs, .inl (cI, 45, .inl f)), (tc, .inl (cI, 16, .inl cf2_4))]) [1, 0, 2] rfl
  have hD9 := hD.sub (ws' := [(md, .inr (6, [vm_0, vm_1, vm_2, vm_3, vm_4, .ref hs, vm_6, vm_7, vm_8, vm_9, vm_10, vm_11, vm_12, vm_13, vm_14, vm_15, vm_16, vm_17, vm_18, vm_19, vm_20, vm_21, .ref tc, .int (nI kn2_5)])), (hs, .inl (cI, 45, .inl f)), (tc, .inl (cI, 16, .inl cf2_4))]) [1, 0, 2] (by decide) rfl
  exact wt_iret hx hb hr hlocks hP9 hD9 hS ⟨cf2_4, kn2_5, rfl, (by omega)⟩ dX6_plainSize_15
set_option maxHeartbeats 4000000 in
set_option maxRecDepth 100000 in
theorem c_X6_woolSize (l : Launch) (D : va_G) (cI cZ cH : ClassId) (md hs : Nat) (R T : Nat) (f : Nat → Int32) (tc kn : Nat) (cf : Nat → Int32) (j : Nat) (vm_0 vm_1 vm_2 vm_3 vm_4 vm_6 vm_7 vm_8 vm_9 vm_10 vm_11 vm_12 vm_13 vm_14 vm_15 vm_16 vm_17 vm_18 vm_19 vm_20 vm_21 : Value) (hR5 : R ≤ 5) (hT6 : T ≤ 6) (hrk : rk R T f) (hj6 : j < 6) (hkn : kn ≤ 16) : wt_M l yX6_woolSize wsX6_woolSize ({ frames := 2, cells := 0, slots := 0, locals := 43 } : Room) D (wt_T cI cZ cH) [.ref md, .int (nI j)] [(md, .inr (6, [vm_0, vm_1, vm_2, vm_3, vm_4, .ref hs, vm_6, vm_7, vm_8, vm_9, vm_10, vm_11, vm_12, vm_13, vm_14, vm_15, vm_16, vm_17, vm_18, vm_19, vm_20, vm_21, .ref tc, .int (nI kn)])), (hs, .inl (cI, 45, .inl f)), (tc, .inl (cI, 16, .inl cf))] (wt_QI D (fun r w => ∃ (cf2 : Nat → Int32) (kn2 : Nat), w = [(md, .inr (6, [vm_0, vm_1, vm_2, vm_3, vm_4, .ref hs, vm_6, vm_7, vm_8, vm_9, vm_10, vm_11, vm_12, vm_13, vm_14, vm_15, vm_16, vm_17, vm_18, vm_19, vm_20, vm_21, .ref tc, .int (nI kn2)])), (hs, .inl (cI, 45, .inl f)), (tc, .inl (cI, 16, .inl cf2))] ∧ kn2 ≤ 16)) := by
  refine wt_M.ofW (cc := cX6_woolSize) (maxL := 4) (ret := (some .int)) (by decide) rfl (Nat.le_of_ble_eq_true rfl) ?_
  intro p e s m below meth c A ls hx hb hr hts hown hlocks hml hnm hP hK hD hA hS hl
  have hP : va_P D vwCl [(md, .inr (6, [vm_0, vm_1, vm_2, vm_3, vm_4, .ref hs, vm_6, vm_7, vm_8, vm_9, vm_10, vm_11, vm_12, vm_13, vm_14, vm_15, vm_16, vm_17, vm_18, vm_19, vm_20, vm_21, .ref tc, .int (nI kn)])), (hs, .inl (cI, 45, .inl f)), (tc, .inl (cI, 16, .inl cf))] s.heap := hP
  have hown : s.vm.findClass RX6 = some m.cls := hown
  have hl : lv_has ls 4 [(0, .ref md), (1, .int (nI j))] := hl
  have hi6 : ∀ w ∈ u_ws RX6 TX6 24, w ∈ wsX6_woolSize := by decide +kernel
  have wf19 := hts (.fieldLink RX6 19 "WarmTubesModel" "house" "[I") (by decide +kernel)
  refine lv_aload_n hx hb dX6_woolSize_0 rfl (lv_at hl 0 rfl) ?_
  refine va_get (D := D) (ci := 6) (v := .ref hs) (C := RX6) (T := TX6) (N := 24) hx hb hts hi6 hown hK.1 hP 0 rfl rfl 5 (by decide) wf19 (fun _ h9 => h9) rfl dX6_woolSize_1 ?_
  refine lv_iload_n hx hb dX6_woolSize_4 rfl (lv_at hl 1 rfl) ?_
  refine lv_iconst (v := 0) hx hb dX6_woolSize_5 (by decide) ?_
  refine wt_rS (As := [.ref hs, .int (nI j), .int 0]) (rest := []) ⟨hx, hb, hml, hown, hts⟩ (c_X6_of_w l D cI cZ cH hs R T f j 0 (by first | assumption | omega) (by first | assumption | omega) (by first | assumption | omega) (by first | assumption | omega) (by first | assumption | omega)) (va_cwS 3 hts gX6_woolSize_X6_of rfl rfl rfl (by decide +kernel) ⟨Nat.le_of_ble_eq_true rfl, Nat.le_of_ble_eq_true rfl⟩) hK hP [1] rfl rfl hl.1 rfl (Nat.le_of_ble_eq_true rfl) dX6_woolSize_6 ⟨Nat.le_of_ble_eq_true rfl, Nat.le_of_ble_eq_true rfl⟩ (fun r_1 e_2 => ?_)
  refine lv_iconst (v := 5) hx hb dX6_woolSize_9 (by decide) ?_
  refine lv_icmp_ne (tgt := 17) hx hb dX6_woolSize_10 (by decide) (fun c_3 => ?_) (fun c_3 => ?_)
  · skip
    refine lv_iconst (v := 0) hx hb dX6_woolSize_17 (by decide) ?_
    refine lv_istore_n (lv' := [(2, .int 0), (0, .ref md), (1, .int (nI j))]) hx hb dX6_woolSize_18 rfl hl (by decide) rfl (fun ls hl => ?_)
    refine lv_iload_n hx hb dX6_woolSize_19 rfl (lv_at hl 0 rfl) ?_
    refine lv_if_eq (tgt := 29) hx hb dX6_woolSize_20 (by decide) (fun _ => ?_) (fun h => absurd h (by decide))
    refine lv_aload_n hx hb dX6_woolSize_29 rfl (lv_at hl 1 rfl) ?_
    refine lv_bipush (v := 13) hx hb dX6_woolSize_30 (by decide) ?_
    refine wt_goV (wr := [(hs, .inl (cI, 45, .inl f))]) (wt_runV (As := [.int 13]) (rest := []) ⟨hx, hb, hml, hown, hts⟩ (c_X6_began l D cI cZ cH md tc kn cf 13 vm_0 vm_1 vm_2 vm_3 vm_4 (.ref hs) vm_6 vm_7 vm_8 vm_9 vm_10 vm_11 vm_12 vm_13 vm_14 vm_15 vm_16 vm_17 vm_18 vm_19 vm_20 vm_21 (by first | assumption | omega)) (cwV 1 hts gX6_woolSize_X6_began rfl rfl rfl (by decide +kernel) ⟨Nat.le_of_ble_eq_true rfl, Nat.le_of_ble_eq_true rfl⟩) hK hP hD [0, 2] rfl (by decide) (va_recv hK.1 hP (ci := 6) (q0 := 0) rfl rfl) rfl hl.1 rfl (Nat.le_of_ble_eq_true rfl) dX6_woolSize_32 ⟨Nat.le_of_ble_eq_true rfl, Nat.le_of_ble_eq_true rfl⟩) hP hD hS hA [0, 2] [1] rfl rfl (by decide) (by decide) (fun w_5 H locs h_6 hP hD hS => ?_)
    obtain ⟨cf2_7, kn2_8, rfl, x_9⟩ := h_6
    have hP : va_P D vwCl [(hs, .inl (cI, 45, .inl f)), (md, .inr (6, [vm_0, vm_1, vm_2, vm_3, vm_4, .ref hs, vm_6, vm_7, vm_8, vm_9, vm_10, vm_11, vm_12, vm_13, vm_14, vm_15, vm_16, vm_17, vm_18, vm_19, vm_20, vm_21, .ref tc, .int (nI kn2_8)])), (tc, .inl (cI, 16, .inl cf2_7))] H := hP
    have hD : va_D A [(hs, .inl (cI, 45, .inl f)), (md, .inr (6, [vm_0, vm_1, vm_2, vm_3, vm_4, .ref hs, vm_6, vm_7, vm_8, vm_9, vm_10, vm_11, vm_12, vm_13, vm_14, vm_15, vm_16, vm_17, vm_18, vm_19, vm_20, vm_21, .ref tc, .int (nI kn2_8)])), (tc, .inl (cI, 16, .inl cf2_7))] := hD
    refine lv_aload_n hx hb dX6_woolSize_35 rfl (lv_at hl 1 rfl) ?_
    refine lv_iload_n hx hb dX6_woolSize_36 rfl (lv_at hl 2 rfl) ?_
    refine wt_goI (wr := []) (wt_runV (As := [.int (nI j)]) (rest := []) ⟨hx, hb, hml, hown, hts⟩ (c_X6_plainSize l D cI cZ cH md hs R T f tc kn2_8 cf2_7 j vm_0 vm_1 vm_2 vm_3 vm_4 vm_6 vm_7 vm_8 vm_9 vm_10 vm_11 vm_12 vm_13 vm_14 vm_15 vm_16 vm_17 vm_18 vm_19 vm_20 vm_21 (by first | assumption | omega) (by first | assumption | omega) (by first | assumption | omega) (by first | assumption | omega) (by first | assumption | omega)) (cwV 1 hts gX6_woolSize_X6_plainSize rfl rfl rfl (by decide +kernel) ⟨Nat.le_of_ble_eq_true rfl, Nat.le_of_ble_eq_true rfl⟩) hK hP hD [1, 0, 2] rfl (by decide) (va_recv hK.1 hP (ci := 6) (q0 := 1) rfl rfl) rfl hl.1 rfl (Nat.le_of_ble_eq_true rfl) dX6_woolSize_37 ⟨Nat.le_of_ble_eq_true rfl, Nat.le_of_ble_eq_true rfl⟩) hP hD hS hA [1, 0, 2] [] rfl rfl (by decide) (by decide) (fun r_10 w_11 H locs h_12 hP hD hS => ?_)
    obtain ⟨cf2_13, kn2_14, rfl, x_15⟩ := h_12
    have hP : va_P D vwCl [(md, .inr (6, [vm_0, vm_1, vm_2, vm_3, vm_4, .ref hs, vm_6, vm_7, vm_8, vm_9, vm_10, vm_11, vm_12, vm_13, vm_14, vm_15, vm_16, vm_17, vm_18, vm_19, vm_20, vm_21, .ref tc, .int (nI kn2_14)])), (hs, .inl (cI, 45, .inl f)), (tc, .inl (cI, 16, .inl cf2_13))] H := hP
    have hD : va_D A [(md, .inr (6, [vm_0, vm_1, vm_2, vm_3, vm_4, .ref hs, vm_6, vm_7, vm_8, vm_9, vm_10, vm_11, vm_12, vm_13, vm_14, vm_15, vm_16, vm_17, vm_18, vm_19, vm_20, vm_21, .ref tc, .int (nI kn2_14)])), (hs, .inl (cI, 45, .inl f)), (tc, .inl (cI, 16, .inl cf2_13))] := hD
    refine lv_bipush (v := 100) hx hb dX6_woolSize_40 (by decide) ?_
    refine lv_isub hx hb dX6_woolSize_42 ?_
    refine lv_topi (fun ov_16 _ => ?_)
    refine lv_istore_n (lv' := [(3, .int ov_16), (2, .int 0), (0, .ref md), (1, .int (nI j))]) hx hb dX6_woolSize_43 rfl hl (by decide) rfl (fun ls hl => ?_)
    refine lv_iload_n hx hb dX6_woolSize_44 rfl (lv_at hl 1 rfl) ?_
    refine lv_if_eq (tgt := 54) hx hb dX6_woolSize_45 (by decide) (fun _ => ?_) (fun h => absurd h (by decide))
    refine lv_iload_n hx hb dX6_woolSize_54 rfl (lv_at hl 0 rfl) ?_
    have hP9 := hP.sub (ws' := [(md, .inr (6, [vm_0, vm_1, vm_2, vm_3, vm_4, .ref hs, vm_6, vm_7, vm_8, vm_9, vm_10, vm_11, vm_12, vm_13, vm_14, vm_15, vm_16, vm_17, vm_18, vm_19, vm_20, vm_21, .ref tc, .int (nI kn2_14)])), (hs, .inl (cI, 45, .inl f)), (tc, .inl (cI, 16, .inl cf2_13))]) [0, 1, 2] rfl
    have hD9 := hD.sub (ws' := [(md, .inr (6, [vm_0, vm_1, vm_2, vm_3, vm_4, .ref hs, vm_6, vm_7, vm_8, vm_9, vm_10, vm_11, vm_12, vm_13, vm_14, vm_15, vm_16, vm_17, vm_18, vm_19, vm_20, vm_21, .ref tc, .int (nI kn2_14)])), (hs, .inl (cI, 45, .inl f)), (tc, .inl (cI, 16, .inl cf2_13))]) [0, 1, 2] (by decide) rfl
    exact wt_iret hx hb hr hlocks hP9 hD9 hS ⟨cf2_13, kn2_14, rfl, (by omega)⟩ dX6_woolSize_55
  · skip
    refine lv_iconst (v := 1) hx hb dX6_woolSize_13 (by decide) ?_
    refine lv_goto (tgt := 18) hx hb dX6_woolSize_14 (by decide) ?_
    refine lv_istore_n (lv' := [(2, .int 1), (0, .ref md), (1, .int (nI j))]) hx hb dX6_woolSize_18 rfl hl (by decide) rfl (fun ls hl => ?_)
    refine lv_iload_n hx hb dX6_woolSize_19 rfl (lv_at hl 0 rfl) ?_
    refine lv_if_eq (tgt := 29) hx hb dX6_woolSize_20 (by decide) (fun h => absurd h (by decide)) (fun _ => ?_)
    refine lv_aload_n hx hb dX6_woolSize_23 rfl (lv_at hl 1 rfl) ?_
    refine lv_bipush (v := 14) hx hb dX6_woolSize_24 (by decide) ?_
    refine wt_goV (wr := [(hs, .inl (cI, 45, .inl f))]) (wt_runV (As := [.int 14]) (rest := []) ⟨hx, hb, hml, hown, hts⟩ (c_X6_began l D cI cZ cH md tc kn cf 14 vm_0 vm_1 vm_2 vm_3 vm_4 (.ref hs) vm_6 vm_7 vm_8 vm_9 vm_10 vm_11 vm_12 vm_13 vm_14 vm_15 vm_16 vm_17 vm_18 vm_19 vm_20 vm_21 (by first | assumption | omega)) (cwV 1 hts gX6_woolSize_X6_began rfl rfl rfl (by decide +kernel) ⟨Nat.le_of_ble_eq_true rfl, Nat.le_of_ble_eq_true rfl⟩) hK hP hD [0, 2] rfl (by decide) (va_recv hK.1 hP (ci := 6) (q0 := 0) rfl rfl) rfl hl.1 rfl (Nat.le_of_ble_eq_true rfl) dX6_woolSize_26 ⟨Nat.le_of_ble_eq_true rfl, Nat.le_of_ble_eq_true rfl⟩) hP hD hS hA [0, 2] [1] rfl rfl (by decide) (by decide) (fun w_18 H locs h_19 hP hD hS => ?_)
    obtain ⟨cf2_20, kn2_21, rfl, x_22⟩ := h_19
    have hP : va_P D vwCl [(hs, .inl (cI, 45, .inl f)), (md, .inr (6, [vm_0, vm_1, vm_2, vm_3, vm_4, .ref hs, vm_6, vm_7, vm_8, vm_9, vm_10, vm_11, vm_12, vm_13, vm_14, vm_15, vm_16, vm_17, vm_18, vm_19, vm_20, vm_21, .ref tc, .int (nI kn2_21)])), (tc, .inl (cI, 16, .inl cf2_20))] H := hP
    have hD : va_D A [(hs, .inl (cI, 45, .inl f)), (md, .inr (6, [vm_0, vm_1, vm_2, vm_3, vm_4, .ref hs, vm_6, vm_7, vm_8, vm_9, vm_10, vm_11, vm_12, vm_13, vm_14, vm_15, vm_16, vm_17, vm_18, vm_19, vm_20, vm_21, .ref tc, .int (nI kn2_21)])), (tc, .inl (cI, 16, .inl cf2_20))] := hD
    refine lv_aload_n hx hb dX6_woolSize_29 rfl (lv_at hl 1 rfl) ?_
    refine lv_bipush (v := 13) hx hb dX6_woolSize_30 (by decide) ?_
    refine wt_goV (wr := [(hs, .inl (cI, 45, .inl f))]) (wt_runV (As := [.int 13]) (rest := []) ⟨hx, hb, hml, hown, hts⟩ (c_X6_began l D cI cZ cH md tc kn2_21 cf2_20 13 vm_0 vm_1 vm_2 vm_3 vm_4 (.ref hs) vm_6 vm_7 vm_8 vm_9 vm_10 vm_11 vm_12 vm_13 vm_14 vm_15 vm_16 vm_17 vm_18 vm_19 vm_20 vm_21 (by first | assumption | omega)) (cwV 1 hts gX6_woolSize_X6_began rfl rfl rfl (by decide +kernel) ⟨Nat.le_of_ble_eq_true rfl, Nat.le_of_ble_eq_true rfl⟩) hK hP hD [1, 2] rfl (by decide) (va_recv hK.1 hP (ci := 6) (q0 := 1) rfl rfl) rfl hl.1 rfl (Nat.le_of_ble_eq_true rfl) dX6_woolSize_32 ⟨Nat.le_of_ble_eq_true rfl, Nat.le_of_ble_eq_true rfl⟩) hP hD hS hA [1, 2] [0] rfl rfl (by decide) (by decide) (fun w_24 H locs h_25 hP hD hS => ?_)
    obtain ⟨cf2_26, kn2_27, rfl, x_28⟩ := h_25
    have hP : va_P D vwCl [(hs, .inl (cI, 45, .inl f)), (md, .inr (6, [vm_0, vm_1, vm_2, vm_3, vm_4, .ref hs, vm_6, vm_7, vm_8, vm_9, vm_10, vm_11, vm_12, vm_13, vm_14, vm_15, vm_16, vm_17, vm_18, vm_19, vm_20, vm_21, .ref tc, .int (nI kn2_27)])), (tc, .inl (cI, 16, .inl cf2_26))] H := hP
    have hD : va_D A [(hs, .inl (cI, 45, .inl f)), (md, .inr (6, [vm_0, vm_1, vm_2, vm_3, vm_4, .ref hs, vm_6, vm_7, vm_8, vm_9, vm_10, vm_11, vm_12, vm_13, vm_14, vm_15, vm_16, vm_17, vm_18, vm_19, vm_20, vm_21, .ref tc, .int (nI kn2_27)])), (tc, .inl (cI, 16, .inl cf2_26))] := hD
    refine lv_aload_n hx hb dX6_woolSize_35 rfl (lv_at hl 1 rfl) ?_
    refine lv_iload_n hx hb dX6_woolSize_36 rfl (lv_at hl 2 rfl) ?_
    refine wt_goI (wr := []) (wt_runV (As := [.int (nI j)]) (rest := []) ⟨hx, hb, hml, hown, hts⟩ (c_X6_plainSize l D cI cZ cH md hs R T f tc kn2_27 cf2_26 j vm_0 vm_1 vm_2 vm_3 vm_4 vm_6 vm_7 vm_8 vm_9 vm_10 vm_11 vm_12 vm_13 vm_14 vm_15 vm_16 vm_17 vm_18 vm_19 vm_20 vm_21 (by first | assumption | omega) (by first | assumption | omega) (by first | assumption | omega) (by first | assumption | omega) (by first | assumption | omega)) (cwV 1 hts gX6_woolSize_X6_plainSize rfl rfl rfl (by decide +kernel) ⟨Nat.le_of_ble_eq_true rfl, Nat.le_of_ble_eq_true rfl⟩) hK hP hD [1, 0, 2] rfl (by decide) (va_recv hK.1 hP (ci := 6) (q0 := 1) rfl rfl) rfl hl.1 rfl (Nat.le_of_ble_eq_true rfl) dX6_woolSize_37 ⟨Nat.le_of_ble_eq_true rfl, Nat.le_of_ble_eq_true rfl⟩) hP hD hS hA [1, 0, 2] [] rfl rfl (by decide) (by decide) (fun r_29 w_30 H locs h_31 hP hD hS => ?_)
    obtain ⟨cf2_32, kn2_33, rfl, x_34⟩ := h_31
    have hP : va_P D vwCl [(md, .inr (6, [vm_0, vm_1, vm_2, vm_3, vm_4, .ref hs, vm_6, vm_7, vm_8, vm_9, vm_10, vm_11, vm_12, vm_13, vm_14, vm_15, vm_16, vm_17, vm_18, vm_19, vm_20, vm_21, .ref tc, .int (nI kn2_33)])), (hs, .inl (cI, 45, .inl f)), (tc, .inl (cI, 16, .inl cf2_32))] H := hP
    have hD : va_D A [(md, .inr (6, [vm_0, vm_1, vm_2, vm_3, vm_4, .ref hs, vm_6, vm_7, vm_8, vm_9, vm_10, vm_11, vm_12, vm_13, vm_14, vm_15, vm_16, vm_17, vm_18, vm_19, vm_20, vm_21, .ref tc, .int (nI kn2_33)])), (hs, .inl (cI, 45, .inl f)), (tc, .inl (cI, 16, .inl cf2_32))] := hD
    refine lv_bipush (v := 100) hx hb dX6_woolSize_40 (by decide) ?_
    refine lv_isub hx hb dX6_woolSize_42 ?_
    refine lv_topi (fun ov_35 _ => ?_)
    refine lv_istore_n (lv' := [(3, .int ov_35), (2, .int 1), (0, .ref md), (1, .int (nI j))]) hx hb dX6_woolSize_43 rfl hl (by decide) rfl (fun ls hl => ?_)
    refine lv_iload_n hx hb dX6_woolSize_44 rfl (lv_at hl 1 rfl) ?_
    refine lv_if_eq (tgt := 54) hx hb dX6_woolSize_45 (by decide) (fun h => absurd h (by decide)) (fun _ => ?_)
    refine lv_iconst (v := 2) hx hb dX6_woolSize_48 (by decide) ?_
    refine lv_iload_n hx hb dX6_woolSize_49 rfl (lv_at hl 0 rfl) ?_
    refine lv_imul hx hb dX6_woolSize_50 ?_
    refine lv_topi (fun ov_36 _ => ?_)
    refine lv_goto (tgt := 55) hx hb dX6_woolSize_51 (by decide) ?_
    have hP9 := hP.sub (ws' := [(md, .inr (6, [vm_0, vm_1, vm_2, vm_3, vm_4, .ref hs, vm_6, vm_7, vm_8, vm_9, vm_10, vm_11, vm_12, vm_13, vm_14, vm_15, vm_16, vm_17, vm_18, vm_19, vm_20, vm_21, .ref tc, .int (nI kn2_33)])), (hs, .inl (cI, 45, .inl f)), (tc, .inl (cI, 16, .inl cf2_32))]) [0, 1, 2] rfl
    have hD9 := hD.sub (ws' := [(md, .inr (6, [vm_0, vm_1, vm_2, vm_3, vm_4, .ref hs, vm_6, vm_7, vm_8, vm_9, vm_10, vm_11, vm_12, vm_13, vm_14, vm_15, vm_16, vm_17, vm_18, vm_19, vm_20, vm_21, .ref tc, .int (nI kn2_33)])), (hs, .inl (cI, 45, .inl f)), (tc, .inl (cI, 16, .inl cf2_32))]) [0, 1, 2] (by decide) rfl
    exact wt_iret hx hb hr hlocks hP9 hD9 hS ⟨cf2_32, kn2_33, rfl, (by omega)⟩ dX6_woolSize_55
set_option maxHeartbeats 4000000 in
set_option maxRecDepth 100000 in
theorem c_X6_markOf (l : Launch) (D : va_G) (cI cZ cH : ClassId) (md hs : Nat) (R T : Nat) (f : Nat → Int32) (tc kn : Nat) (cf : Nat → Int32) (j : Nat) (vm_0 vm_1 vm_2 vm_3 vm_4 vm_6 vm_7 vm_8 vm_9 vm_10 vm_11 vm_12 vm_13 vm_14 vm_15 vm_16 vm_17 vm_18 vm_19 vm_20 vm_21 : Value) (hR5 : R ≤ 5) (hT6 : T ≤ 6) (hrk : rk R T f) (hj6 : j < 6) (hkn : kn ≤ 16) : wt_M l yX6_markOf wsX6_markOf ({ frames := 3, cells := 0, slots := 0, locals := 66 } : Room) D (wt_T cI cZ cH) [.ref md, .int (nI j)] [(md, .inr (6, [vm_0, vm_1, vm_2, vm_3, vm_4, .ref hs, vm_6, vm_7, vm_8, vm_9, vm_10, vm_11, vm_12, vm_13, vm_14, vm_15, vm_16, vm_17, vm_18, vm_19, vm_20, vm_21, .ref tc, .int (nI kn)])), (hs, .inl (cI, 45, .inl f)), (tc, .inl (cI, 16, .inl cf))] (wt_QI D (fun r w => ∃ (cf2 : Nat → Int32) (kn2 : Nat), w = [(md, .inr (6, [vm_0, vm_1, vm_2, vm_3, vm_4, .ref hs, vm_6, vm_7, vm_8, vm_9, vm_10, vm_11, vm_12, vm_13, vm_14, vm_15, vm_16, vm_17, vm_18, vm_19, vm_20, vm_21, .ref tc, .int (nI kn2)])), (hs, .inl (cI, 45, .inl f)), (tc, .inl (cI, 16, .inl cf2))] ∧ kn2 ≤ 16)) := by
  refine wt_M.ofW (cc := cX6_markOf) (maxL := 4) (ret := (some .int)) (by decide) rfl (Nat.le_of_ble_eq_true rfl) ?_
  intro p e s m below meth c A ls hx hb hr hts hown hlocks hml hnm hP hK hD hA hS hl
  have hP : va_P D vwCl [(md, .inr (6, [vm_0, vm_1, vm_2, vm_3, vm_4, .ref hs, vm_6, vm_7, vm_8, vm_9, vm_10, vm_11, vm_12, vm_13, vm_14, vm_15, vm_16, vm_17, vm_18, vm_19, vm_20, vm_21, .ref tc, .int (nI kn)])), (hs, .inl (cI, 45, .inl f)), (tc, .inl (cI, 16, .inl cf))] s.heap := hP
  have hown : s.vm.findClass RX6 = some m.cls := hown
  have hl : lv_has ls 4 [(0, .ref md), (1, .int (nI j))] := hl
  have hi6 : ∀ w ∈ u_ws RX6 TX6 24, w ∈ wsX6_markOf := by decide +kernel
  have wf19 := hts (.fieldLink RX6 19 "WarmTubesModel" "house" "[I") (by decide +kernel)
  refine lv_aload_n hx hb dX6_markOf_0 rfl (lv_at hl 0 rfl) ?_
  refine va_get (D := D) (ci := 6) (v := .ref hs) (C := RX6) (T := TX6) (N := 24) hx hb hts hi6 hown hK.1 hP 0 rfl rfl 5 (by decide) wf19 (fun _ h9 => h9) rfl dX6_markOf_1 ?_
  refine lv_iload_n hx hb dX6_markOf_4 rfl (lv_at hl 1 rfl) ?_
  refine lv_iconst (v := 0) hx hb dX6_markOf_5 (by decide) ?_
  refine wt_rS (As := [.ref hs, .int (nI j), .int 0]) (rest := []) ⟨hx, hb, hml, hown, hts⟩ (c_X6_of_w l D cI cZ cH hs R T f j 0 (by first | assumption | omega) (by first | assumption | omega) (by first | assumption | omega) (by first | assumption | omega) (by first | assumption | omega)) (va_cwS 3 hts gX6_markOf_X6_of rfl rfl rfl (by decide +kernel) ⟨Nat.le_of_ble_eq_true rfl, Nat.le_of_ble_eq_true rfl⟩) hK hP [1] rfl rfl hl.1 rfl (Nat.le_of_ble_eq_true rfl) dX6_markOf_6 ⟨Nat.le_of_ble_eq_true rfl, Nat.le_of_ble_eq_true rfl⟩ (fun r_1 e_2 => ?_)
  refine lv_istore_n (lv' := [(2, .int r_1), (0, .ref md), (1, .int (nI j))]) hx hb dX6_markOf_9 rfl hl (by decide) rfl (fun ls hl => ?_)
  refine lv_iload_n hx hb dX6_markOf_10 rfl (lv_at hl 0 rfl) ?_
  refine lv_iconst (v := 4) hx hb dX6_markOf_11 (by decide) ?_
  refine lv_icmp_lt (tgt := 35) hx hb dX6_markOf_12 (by decide) (fun c_3 => ?_) (fun c_3 => ?_)
  · skip
    refine lv_iload_n hx hb dX6_markOf_35 rfl (lv_at hl 0 rfl) ?_
    refine lv_iconst (v := 1) hx hb dX6_markOf_36 (by decide) ?_
    refine lv_icmp_eq (tgt := 56) hx hb dX6_markOf_37 (by decide) (fun c_4 => ?_) (fun c_4 => ?_)
    · skip
      refine lv_aload_n hx hb dX6_markOf_56 rfl (lv_at hl 1 rfl) ?_
      refine lv_bipush (v := 21) hx hb dX6_markOf_57 (by decide) ?_
      refine wt_goV (wr := [(hs, .inl (cI, 45, .inl f))]) (wt_runV (As := [.int 21]) (rest := []) ⟨hx, hb, hml, hown, hts⟩ (c_X6_began l D cI cZ cH md tc kn cf 21 vm_0 vm_1 vm_2 vm_3 vm_4 (.ref hs) vm_6 vm_7 vm_8 vm_9 vm_10 vm_11 vm_12 vm_13 vm_14 vm_15 vm_16 vm_17 vm_18 vm_19 vm_20 vm_21 (by first | assumption | omega)) (cwV 1 hts gX6_markOf_X6_began rfl rfl rfl (by decide +kernel) ⟨Nat.le_of_ble_eq_true rfl, Nat.le_of_ble_eq_true rfl⟩) hK hP hD [0, 2] rfl (by decide) (va_recv hK.1 hP (ci := 6) (q0 := 0) rfl rfl) rfl hl.1 rfl (Nat.le_of_ble_eq_true rfl) dX6_markOf_59 ⟨Nat.le_of_ble_eq_true rfl, Nat.le_of_ble_eq_true rfl⟩) hP hD hS hA [0, 2] [1] rfl rfl (by decide) (by decide) (fun w_6 H locs h_7 hP hD hS => ?_)
      obtain ⟨cf2_8, kn2_9, rfl, x_10⟩ := h_7
      have hP : va_P D vwCl [(hs, .inl (cI, 45, .inl f)), (md, .inr (6, [vm_0, vm_1, vm_2, vm_3, vm_4, .ref hs, vm_6, vm_7, vm_8, vm_9, vm_10, vm_11, vm_12, vm_13, vm_14, vm_15, vm_16, vm_17, vm_18, vm_19, vm_20, vm_21, .ref tc, .int (nI kn2_9)])), (tc, .inl (cI, 16, .inl cf2_8))] H := hP
      have hD : va_D A [(hs, .inl (cI, 45, .inl f)), (md, .inr (6, [vm_0, vm_1, vm_2, vm_3, vm_4, .ref hs, vm_6, vm_7, vm_8, vm_9, vm_10, vm_11, vm_12, vm_13, vm_14, vm_15, vm_16, vm_17, vm_18, vm_19, vm_20, vm_21, .ref tc, .int (nI kn2_9)])), (tc, .inl (cI, 16, .inl cf2_8))] := hD
      refine lv_aload_n hx hb dX6_markOf_62 rfl (lv_at hl 1 rfl) ?_
      refine lv_bipush (v := 20) hx hb dX6_markOf_63 (by decide) ?_
      refine wt_goV (wr := [(hs, .inl (cI, 45, .inl f))]) (wt_runV (As := [.int 20]) (rest := []) ⟨hx, hb, hml, hown, hts⟩ (c_X6_began l D cI cZ cH md tc kn2_9 cf2_8 20 vm_0 vm_1 vm_2 vm_3 vm_4 (.ref hs) vm_6 vm_7 vm_8 vm_9 vm_10 vm_11 vm_12 vm_13 vm_14 vm_15 vm_16 vm_17 vm_18 vm_19 vm_20 vm_21 (by first | assumption | omega)) (cwV 1 hts gX6_markOf_X6_began rfl rfl rfl (by decide +kernel) ⟨Nat.le_of_ble_eq_true rfl, Nat.le_of_ble_eq_true rfl⟩) hK hP hD [1, 2] rfl (by decide) (va_recv hK.1 hP (ci := 6) (q0 := 1) rfl rfl) rfl hl.1 rfl (Nat.le_of_ble_eq_true rfl) dX6_markOf_65 ⟨Nat.le_of_ble_eq_true rfl, Nat.le_of_ble_eq_true rfl⟩) hP hD hS hA [1, 2] [0] rfl rfl (by decide) (by decide) (fun w_12 H locs h_13 hP hD hS => ?_)
      obtain ⟨cf2_14, kn2_15, rfl, x_16⟩ := h_13
      have hP : va_P D vwCl [(hs, .inl (cI, 45, .inl f)), (md, .inr (6, [vm_0, vm_1, vm_2, vm_3, vm_4, .ref hs, vm_6, vm_7, vm_8, vm_9, vm_10, vm_11, vm_12, vm_13, vm_14, vm_15, vm_16, vm_17, vm_18, vm_19, vm_20, vm_21, .ref tc, .int (nI kn2_15)])), (tc, .inl (cI, 16, .inl cf2_14))] H := hP
      have hD : va_D A [(hs, .inl (cI, 45, .inl f)), (md, .inr (6, [vm_0, vm_1, vm_2, vm_3, vm_4, .ref hs, vm_6, vm_7, vm_8, vm_9, vm_10, vm_11, vm_12, vm_13, vm_14, vm_15, vm_16, vm_17, vm_18, vm_19, vm_20, vm_21, .ref tc, .int (nI kn2_15)])), (tc, .inl (cI, 16, .inl cf2_14))] := hD
      refine lv_iload_n hx hb dX6_markOf_68 rfl (lv_at hl 2 rfl) ?_
      refine lv_aload_n hx hb dX6_markOf_69 rfl (lv_at hl 1 rfl) ?_
      refine va_get (D := D) (ci := 6) (v := .ref hs) (C := RX6) (T := TX6) (N := 24) hx hb hts hi6 hown hK.1 hP 1 rfl rfl 5 (by decide) wf19 (fun _ h9 => h9) rfl dX6_markOf_70 ?_
      refine lv_iload_n hx hb dX6_markOf_73 rfl (lv_at hl 2 rfl) ?_
      refine lv_iconst (v := 4) hx hb dX6_markOf_74 (by decide) ?_
      refine wt_rS (As := [.ref hs, .int (nI j), .int 4]) (rest := [.int (nI j)]) ⟨hx, hb, hml, hown, hts⟩ (c_X6_of_w l D cI cZ cH hs R T f j 4 (by first | assumption | omega) (by first | assumption | omega) (by first | assumption | omega) (by first | assumption | omega) (by first | assumption | omega)) (va_cwS 3 hts gX6_markOf_X6_of rfl rfl rfl (by decide +kernel) ⟨Nat.le_of_ble_eq_true rfl, Nat.le_of_ble_eq_true rfl⟩) hK hP [0] rfl rfl hl.1 rfl (Nat.le_of_ble_eq_true rfl) dX6_markOf_75 ⟨Nat.le_of_ble_eq_true rfl, Nat.le_of_ble_eq_true rfl⟩ (fun r_17 e_18 => ?_)
      refine lv_iadd hx hb dX6_markOf_78 ?_
      refine lv_topi (fun ov_19 _ => ?_)
      refine lv_istore_n (lv' := [(3, .int ov_19), (2, .int r_1), (0, .ref md), (1, .int (nI j))]) hx hb dX6_markOf_79 rfl hl (by decide) rfl (fun ls hl => ?_)
      refine lv_iload_n hx hb dX6_markOf_80 rfl (lv_at hl 1 rfl) ?_
      refine lv_iconst (v := 1) hx hb dX6_markOf_81 (by decide) ?_
      refine lv_icmp_ne (tgt := 89) hx hb dX6_markOf_82 (by decide) (fun h => absurd c_4 h) (fun _ => ?_)
      refine lv_iload_n hx hb dX6_markOf_85 rfl (lv_at hl 0 rfl) ?_
      refine lv_goto (tgt := 105) hx hb dX6_markOf_86 (by decide) ?_
      have hP9 := hP.sub (ws' := [(md, .inr (6, [vm_0, vm_1, vm_2, vm_3, vm_4, .ref hs, vm_6, vm_7, vm_8, vm_9, vm_10, vm_11, vm_12, vm_13, vm_14, vm_15, vm_16, vm_17, vm_18, vm_19, vm_20, vm_21, .ref tc, .int (nI kn2_15)])), (hs, .inl (cI, 45, .inl f)), (tc, .inl (cI, 16, .inl cf2_14))]) [1, 0, 2] rfl
      have hD9 := hD.sub (ws' := [(md, .inr (6, [vm_0, vm_1, vm_2, vm_3, vm_4, .ref hs, vm_6, vm_7, vm_8, vm_9, vm_10, vm_11, vm_12, vm_13, vm_14, vm_15, vm_16, vm_17, vm_18, vm_19, vm_20, vm_21, .ref tc, .int (nI kn2_15)])), (hs, .inl (cI, 45, .inl f)), (tc, .inl (cI, 16, .inl cf2_14))]) [1, 0, 2] (by decide) rfl
      exact wt_iret hx hb hr hlocks hP9 hD9 hS ⟨cf2_14, kn2_15, rfl, (by omega)⟩ dX6_markOf_105
    · skip
      refine lv_aload_n hx hb dX6_markOf_40 rfl (lv_at hl 1 rfl) ?_
      refine lv_iload_n hx hb dX6_markOf_41 rfl (lv_at hl 0 rfl) ?_
      refine lv_iconst (v := 3) hx hb dX6_markOf_42 (by decide) ?_
      refine lv_icmp_ne (tgt := 51) hx hb dX6_markOf_43 (by decide) (fun c_20 => ?_) (fun c_20 => ?_)
      · skip
        refine lv_bipush (v := 24) hx hb dX6_markOf_51 (by decide) ?_
        refine wt_goV (wr := [(hs, .inl (cI, 45, .inl f))]) (wt_runV (As := [.int 24]) (rest := []) ⟨hx, hb, hml, hown, hts⟩ (c_X6_began l D cI cZ cH md tc kn cf 24 vm_0 vm_1 vm_2 vm_3 vm_4 (.ref hs) vm_6 vm_7 vm_8 vm_9 vm_10 vm_11 vm_12 vm_13 vm_14 vm_15 vm_16 vm_17 vm_18 vm_19 vm_20 vm_21 (by first | assumption | omega)) (cwV 1 hts gX6_markOf_X6_began rfl rfl rfl (by decide +kernel) ⟨Nat.le_of_ble_eq_true rfl, Nat.le_of_ble_eq_true rfl⟩) hK hP hD [0, 2] rfl (by decide) (va_recv hK.1 hP (ci := 6) (q0 := 0) rfl rfl) rfl hl.1 rfl (Nat.le_of_ble_eq_true rfl) dX6_markOf_53 ⟨Nat.le_of_ble_eq_true rfl, Nat.le_of_ble_eq_true rfl⟩) hP hD hS hA [0, 2] [1] rfl rfl (by decide) (by decide) (fun w_22 H locs h_23 hP hD hS => ?_)
        obtain ⟨cf2_24, kn2_25, rfl, x_26⟩ := h_23
        have hP : va_P D vwCl [(hs, .inl (cI, 45, .inl f)), (md, .inr (6, [vm_0, vm_1, vm_2, vm_3, vm_4, .ref hs, vm_6, vm_7, vm_8, vm_9, vm_10, vm_11, vm_12, vm_13, vm_14, vm_15, vm_16, vm_17, vm_18, vm_19, vm_20, vm_21, .ref tc, .int (nI kn2_25)])), (tc, .inl (cI, 16, .inl cf2_24))] H := hP
        have hD : va_D A [(hs, .inl (cI, 45, .inl f)), (md, .inr (6, [vm_0, vm_1, vm_2, vm_3, vm_4, .ref hs, vm_6, vm_7, vm_8, vm_9, vm_10, vm_11, vm_12, vm_13, vm_14, vm_15, vm_16, vm_17, vm_18, vm_19, vm_20, vm_21, .ref tc, .int (nI kn2_25)])), (tc, .inl (cI, 16, .inl cf2_24))] := hD
        refine lv_aload_n hx hb dX6_markOf_56 rfl (lv_at hl 1 rfl) ?_
        refine lv_bipush (v := 21) hx hb dX6_markOf_57 (by decide) ?_
        refine wt_goV (wr := [(hs, .inl (cI, 45, .inl f))]) (wt_runV (As := [.int 21]) (rest := []) ⟨hx, hb, hml, hown, hts⟩ (c_X6_began l D cI cZ cH md tc kn2_25 cf2_24 21 vm_0 vm_1 vm_2 vm_3 vm_4 (.ref hs) vm_6 vm_7 vm_8 vm_9 vm_10 vm_11 vm_12 vm_13 vm_14 vm_15 vm_16 vm_17 vm_18 vm_19 vm_20 vm_21 (by first | assumption | omega)) (cwV 1 hts gX6_markOf_X6_began rfl rfl rfl (by decide +kernel) ⟨Nat.le_of_ble_eq_true rfl, Nat.le_of_ble_eq_true rfl⟩) hK hP hD [1, 2] rfl (by decide) (va_recv hK.1 hP (ci := 6) (q0 := 1) rfl rfl) rfl hl.1 rfl (Nat.le_of_ble_eq_true rfl) dX6_markOf_59 ⟨Nat.le_of_ble_eq_true rfl, Nat.le_of_ble_eq_true rfl⟩) hP hD hS hA [1, 2] [0] rfl rfl (by decide) (by decide) (fun w_28 H locs h_29 hP hD hS => ?_)
        obtain ⟨cf2_30, kn2_31, rfl, x_32⟩ := h_29
        have hP : va_P D vwCl [(hs, .inl (cI, 45, .inl f)), (md, .inr (6, [vm_0, vm_1, vm_2, vm_3, vm_4, .ref hs, vm_6, vm_7, vm_8, vm_9, vm_10, vm_11, vm_12, vm_13, vm_14, vm_15, vm_16, vm_17, vm_18, vm_19, vm_20, vm_21, .ref tc, .int (nI kn2_31)])), (tc, .inl (cI, 16, .inl cf2_30))] H := hP
        have hD : va_D A [(hs, .inl (cI, 45, .inl f)), (md, .inr (6, [vm_0, vm_1, vm_2, vm_3, vm_4, .ref hs, vm_6, vm_7, vm_8, vm_9, vm_10, vm_11, vm_12, vm_13, vm_14, vm_15, vm_16, vm_17, vm_18, vm_19, vm_20, vm_21, .ref tc, .int (nI kn2_31)])), (tc, .inl (cI, 16, .inl cf2_30))] := hD
        refine lv_aload_n hx hb dX6_markOf_62 rfl (lv_at hl 1 rfl) ?_
        refine lv_bipush (v := 20) hx hb dX6_markOf_63 (by decide) ?_
        refine wt_goV (wr := [(hs, .inl (cI, 45, .inl f))]) (wt_runV (As := [.int 20]) (rest := []) ⟨hx, hb, hml, hown, hts⟩ (c_X6_began l D cI cZ cH md tc kn2_31 cf2_30 20 vm_0 vm_1 vm_2 vm_3 vm_4 (.ref hs) vm_6 vm_7 vm_8 vm_9 vm_10 vm_11 vm_12 vm_13 vm_14 vm_15 vm_16 vm_17 vm_18 vm_19 vm_20 vm_21 (by first | assumption | omega)) (cwV 1 hts gX6_markOf_X6_began rfl rfl rfl (by decide +kernel) ⟨Nat.le_of_ble_eq_true rfl, Nat.le_of_ble_eq_true rfl⟩) hK hP hD [1, 2] rfl (by decide) (va_recv hK.1 hP (ci := 6) (q0 := 1) rfl rfl) rfl hl.1 rfl (Nat.le_of_ble_eq_true rfl) dX6_markOf_65 ⟨Nat.le_of_ble_eq_true rfl, Nat.le_of_ble_eq_true rfl⟩) hP hD hS hA [1, 2] [0] rfl rfl (by decide) (by decide) (fun w_34 H locs h_35 hP hD hS => ?_)
        obtain ⟨cf2_36, kn2_37, rfl, x_38⟩ := h_35
        have hP : va_P D vwCl [(hs, .inl (cI, 45, .inl f)), (md, .inr (6, [vm_0, vm_1, vm_2, vm_3, vm_4, .ref hs, vm_6, vm_7, vm_8, vm_9, vm_10, vm_11, vm_12, vm_13, vm_14, vm_15, vm_16, vm_17, vm_18, vm_19, vm_20, vm_21, .ref tc, .int (nI kn2_37)])), (tc, .inl (cI, 16, .inl cf2_36))] H := hP
        have hD : va_D A [(hs, .inl (cI, 45, .inl f)), (md, .inr (6, [vm_0, vm_1, vm_2, vm_3, vm_4, .ref hs, vm_6, vm_7, vm_8, vm_9, vm_10, vm_11, vm_12, vm_13, vm_14, vm_15, vm_16, vm_17, vm_18, vm_19, vm_20, vm_21, .ref tc, .int (nI kn2_37)])), (tc, .inl (cI, 16, .inl cf2_36))] := hD
        refine lv_iload_n hx hb dX6_markOf_68 rfl (lv_at hl 2 rfl) ?_
        refine lv_aload_n hx hb dX6_markOf_69 rfl (lv_at hl 1 rfl) ?_
        refine va_get (D := D) (ci := 6) (v := .ref hs) (C := RX6) (T := TX6) (N := 24) hx hb hts hi6 hown hK.1 hP 1 rfl rfl 5 (by decide) wf19 (fun _ h9 => h9) rfl dX6_markOf_70 ?_
        refine lv_iload_n hx hb dX6_markOf_73 rfl (lv_at hl 2 rfl) ?_
        refine lv_iconst (v := 4) hx hb dX6_markOf_74 (by decide) ?_
        refine wt_rS (As := [.ref hs, .int (nI j), .int 4]) (rest := [.int (nI j)]) ⟨hx, hb, hml, hown, hts⟩ (c_X6_of_w l D cI cZ cH hs R T f j 4 (by first | assumption | omega) (by first | assumption | omega) (by first | assumption | omega) (by first | assumption | omega) (by first | assumption | omega)) (va_cwS 3 hts gX6_markOf_X6_of rfl rfl rfl (by decide +kernel) ⟨Nat.le_of_ble_eq_true rfl, Nat.le_of_ble_eq_true rfl⟩) hK hP [0] rfl rfl hl.1 rfl (Nat.le_of_ble_eq_true rfl) dX6_markOf_75 ⟨Nat.le_of_ble_eq_true rfl, Nat.le_of_ble_eq_true rfl⟩ (fun r_39 e_40 => ?_)
        refine lv_iadd hx hb dX6_markOf_78 ?_
        refine lv_topi (fun ov_41 _ => ?_)
        refine lv_istore_n (lv' := [(3, .int ov_41), (2, .int r_1), (0, .ref md), (1, .int (nI j))]) hx hb dX6_markOf_79 rfl hl (by decide) rfl (fun ls hl => ?_)
        refine lv_iload_n hx hb dX6_markOf_80 rfl (lv_at hl 1 rfl) ?_
        refine lv_iconst (v := 1) hx hb dX6_markOf_81 (by decide) ?_
        refine lv_icmp_ne (tgt := 89) hx hb dX6_markOf_82 (by decide) (fun _ => ?_) (fun h => absurd h c_4)
        refine lv_iload_n hx hb dX6_markOf_89 rfl (lv_at hl 1 rfl) ?_
        refine lv_iconst (v := 3) hx hb dX6_markOf_90 (by decide) ?_
        refine lv_icmp_ne (tgt := 102) hx hb dX6_markOf_91 (by decide) (fun _ => ?_) (fun h => absurd h c_20)
        refine lv_iconst (v := 2) hx hb dX6_markOf_102 (by decide) ?_
        refine lv_iload_n hx hb dX6_markOf_103 rfl (lv_at hl 0 rfl) ?_
        refine lv_imul hx hb dX6_markOf_104 ?_
        refine lv_topi (fun ov_42 _ => ?_)
        have hP9 := hP.sub (ws' := [(md, .inr (6, [vm_0, vm_1, vm_2, vm_3, vm_4, .ref hs, vm_6, vm_7, vm_8, vm_9, vm_10, vm_11, vm_12, vm_13, vm_14, vm_15, vm_16, vm_17, vm_18, vm_19, vm_20, vm_21, .ref tc, .int (nI kn2_37)])), (hs, .inl (cI, 45, .inl f)), (tc, .inl (cI, 16, .inl cf2_36))]) [1, 0, 2] rfl
        have hD9 := hD.sub (ws' := [(md, .inr (6, [vm_0, vm_1, vm_2, vm_3, vm_4, .ref hs, vm_6, vm_7, vm_8, vm_9, vm_10, vm_11, vm_12, vm_13, vm_14, vm_15, vm_16, vm_17, vm_18, vm_19, vm_20, vm_21, .ref tc, .int (nI kn2_37)])), (hs, .inl (cI, 45, .inl f)), (tc, .inl (cI, 16, .inl cf2_36))]) [1, 0, 2] (by decide) rfl
        exact wt_iret hx hb hr hlocks hP9 hD9 hS ⟨cf2_36, kn2_37, rfl, (by omega)⟩ dX6_markOf_105
      · skip
        refine lv_bipush (v := 22) hx hb dX6_markOf_46 (by decide) ?_
        refine lv_goto (tgt := 53) hx hb dX6_markOf_48 (by decide) ?_
        refine wt_goV (wr := [(hs, .inl (cI, 45, .inl f))]) (wt_runV (As := [.int 22]) (rest := []) ⟨hx, hb, hml, hown, hts⟩ (c_X6_began l D cI cZ cH md tc kn cf 22 vm_0 vm_1 vm_2 vm_3 vm_4 (.ref hs) vm_6 vm_7 vm_8 vm_9 vm_10 vm_11 vm_12 vm_13 vm_14 vm_15 vm_16 vm_17 vm_18 vm_19 vm_20 vm_21 (by first | assumption | omega)) (cwV 1 hts gX6_markOf_X6_began rfl rfl rfl (by decide +kernel) ⟨Nat.le_of_ble_eq_true rfl, Nat.le_of_ble_eq_true rfl⟩) hK hP hD [0, 2] rfl (by decide) (va_recv hK.1 hP (ci := 6) (q0 := 0) rfl rfl) rfl hl.1 rfl (Nat.le_of_ble_eq_true rfl) dX6_markOf_53 ⟨Nat.le_of_ble_eq_true rfl, Nat.le_of_ble_eq_true rfl⟩) hP hD hS hA [0, 2] [1] rfl rfl (by decide) (by decide) (fun w_44 H locs h_45 hP hD hS => ?_)
        obtain ⟨cf2_46, kn2_47, rfl, x_48⟩ := h_45
        have hP : va_P D vwCl [(hs, .inl (cI, 45, .inl f)), (md, .inr (6, [vm_0, vm_1, vm_2, vm_3, vm_4, .ref hs, vm_6, vm_7, vm_8, vm_9, vm_10, vm_11, vm_12, vm_13, vm_14, vm_15, vm_16, vm_17, vm_18, vm_19, vm_20, vm_21, .ref tc, .int (nI kn2_47)])), (tc, .inl (cI, 16, .inl cf2_46))] H := hP
        have hD : va_D A [(hs, .inl (cI, 45, .inl f)), (md, .inr (6, [vm_0, vm_1, vm_2, vm_3, vm_4, .ref hs, vm_6, vm_7, vm_8, vm_9, vm_10, vm_11, vm_12, vm_13, vm_14, vm_15, vm_16, vm_17, vm_18, vm_19, vm_20, vm_21, .ref tc, .int (nI kn2_47)])), (tc, .inl (cI, 16, .inl cf2_46))] := hD
        refine lv_aload_n hx hb dX6_markOf_56 rfl (lv_at hl 1 rfl) ?_
        refine lv_bipush (v := 21) hx hb dX6_markOf_57 (by decide) ?_
        refine wt_goV (wr := [(hs, .inl (cI, 45, .inl f))]) (wt_runV (As := [.int 21]) (rest := []) ⟨hx, hb, hml, hown, hts⟩ (c_X6_began l D cI cZ cH md tc kn2_47 cf2_46 21 vm_0 vm_1 vm_2 vm_3 vm_4 (.ref hs) vm_6 vm_7 vm_8 vm_9 vm_10 vm_11 vm_12 vm_13 vm_14 vm_15 vm_16 vm_17 vm_18 vm_19 vm_20 vm_21 (by first | assumption | omega)) (cwV 1 hts gX6_markOf_X6_began rfl rfl rfl (by decide +kernel) ⟨Nat.le_of_ble_eq_true rfl, Nat.le_of_ble_eq_true rfl⟩) hK hP hD [1, 2] rfl (by decide) (va_recv hK.1 hP (ci := 6) (q0 := 1) rfl rfl) rfl hl.1 rfl (Nat.le_of_ble_eq_true rfl) dX6_markOf_59 ⟨Nat.le_of_ble_eq_true rfl, Nat.le_of_ble_eq_true rfl⟩) hP hD hS hA [1, 2] [0] rfl rfl (by decide) (by decide) (fun w_50 H locs h_51 hP hD hS => ?_)
        obtain ⟨cf2_52, kn2_53, rfl, x_54⟩ := h_51
        have hP : va_P D vwCl [(hs, .inl (cI, 45, .inl f)), (md, .inr (6, [vm_0, vm_1, vm_2, vm_3, vm_4, .ref hs, vm_6, vm_7, vm_8, vm_9, vm_10, vm_11, vm_12, vm_13, vm_14, vm_15, vm_16, vm_17, vm_18, vm_19, vm_20, vm_21, .ref tc, .int (nI kn2_53)])), (tc, .inl (cI, 16, .inl cf2_52))] H := hP
        have hD : va_D A [(hs, .inl (cI, 45, .inl f)), (md, .inr (6, [vm_0, vm_1, vm_2, vm_3, vm_4, .ref hs, vm_6, vm_7, vm_8, vm_9, vm_10, vm_11, vm_12, vm_13, vm_14, vm_15, vm_16, vm_17, vm_18, vm_19, vm_20, vm_21, .ref tc, .int (nI kn2_53)])), (tc, .inl (cI, 16, .inl cf2_52))] := hD
        refine lv_aload_n hx hb dX6_markOf_62 rfl (lv_at hl 1 rfl) ?_
        refine lv_bipush (v := 20) hx hb dX6_markOf_63 (by decide) ?_
        refine wt_goV (wr := [(hs, .inl (cI, 45, .inl f))]) (wt_runV (As := [.int 20]) (rest := []) ⟨hx, hb, hml, hown, hts⟩ (c_X6_began l D cI cZ cH md tc kn2_53 cf2_52 20 vm_0 vm_1 vm_2 vm_3 vm_4 (.ref hs) vm_6 vm_7 vm_8 vm_9 vm_10 vm_11 vm_12 vm_13 vm_14 vm_15 vm_16 vm_17 vm_18 vm_19 vm_20 vm_21 (by first | assumption | omega)) (cwV 1 hts gX6_markOf_X6_began rfl rfl rfl (by decide +kernel) ⟨Nat.le_of_ble_eq_true rfl, Nat.le_of_ble_eq_true rfl⟩) hK hP hD [1, 2] rfl (by decide) (va_recv hK.1 hP (ci := 6) (q0 := 1) rfl rfl) rfl hl.1 rfl (Nat.le_of_ble_eq_true rfl) dX6_markOf_65 ⟨Nat.le_of_ble_eq_true rfl, Nat.le_of_ble_eq_true rfl⟩) hP hD hS hA [1, 2] [0] rfl rfl (by decide) (by decide) (fun w_56 H locs h_57 hP hD hS => ?_)
        obtain ⟨cf2_58, kn2_59, rfl, x_60⟩ := h_57
        have hP : va_P D vwCl [(hs, .inl (cI, 45, .inl f)), (md, .inr (6, [vm_0, vm_1, vm_2, vm_3, vm_4, .ref hs, vm_6, vm_7, vm_8, vm_9, vm_10, vm_11, vm_12, vm_13, vm_14, vm_15, vm_16, vm_17, vm_18, vm_19, vm_20, vm_21, .ref tc, .int (nI kn2_59)])), (tc, .inl (cI, 16, .inl cf2_58))] H := hP
        have hD : va_D A [(hs, .inl (cI, 45, .inl f)), (md, .inr (6, [vm_0, vm_1, vm_2, vm_3, vm_4, .ref hs, vm_6, vm_7, vm_8, vm_9, vm_10, vm_11, vm_12, vm_13, vm_14, vm_15, vm_16, vm_17, vm_18, vm_19, vm_20, vm_21, .ref tc, .int (nI kn2_59)])), (tc, .inl (cI, 16, .inl cf2_58))] := hD
        refine lv_iload_n hx hb dX6_markOf_68 rfl (lv_at hl 2 rfl) ?_
        refine lv_aload_n hx hb dX6_markOf_69 rfl (lv_at hl 1 rfl) ?_
        refine va_get (D := D) (ci := 6) (v := .ref hs) (C := RX6) (T := TX6) (N := 24) hx hb hts hi6 hown hK.1 hP 1 rfl rfl 5 (by decide) wf19 (fun _ h9 => h9) rfl dX6_markOf_70 ?_
        refine lv_iload_n hx hb dX6_markOf_73 rfl (lv_at hl 2 rfl) ?_
        refine lv_iconst (v := 4) hx hb dX6_markOf_74 (by decide) ?_
        refine wt_rS (As := [.ref hs, .int (nI j), .int 4]) (rest := [.int (nI j)]) ⟨hx, hb, hml, hown, hts⟩ (c_X6_of_w l D cI cZ cH hs R T f j 4 (by first | assumption | omega) (by first | assumption | omega) (by first | assumption | omega) (by first | assumption | omega) (by first | assumption | omega)) (va_cwS 3 hts gX6_markOf_X6_of rfl rfl rfl (by decide +kernel) ⟨Nat.le_of_ble_eq_true rfl, Nat.le_of_ble_eq_true rfl⟩) hK hP [0] rfl rfl hl.1 rfl (Nat.le_of_ble_eq_true rfl) dX6_markOf_75 ⟨Nat.le_of_ble_eq_true rfl, Nat.le_of_ble_eq_true rfl⟩ (fun r_61 e_62 => ?_)
        refine lv_iadd hx hb dX6_markOf_78 ?_
        refine lv_topi (fun ov_63 _ => ?_)
        refine lv_istore_n (lv' := [(3, .int ov_63), (2, .int r_1), (0, .ref md), (1, .int (nI j))]) hx hb dX6_markOf_79 rfl hl (by decide) rfl (fun ls hl => ?_)
        refine lv_iload_n hx hb dX6_markOf_80 rfl (lv_at hl 1 rfl) ?_
        refine lv_iconst (v := 1) hx hb dX6_markOf_81 (by decide) ?_
        refine lv_icmp_ne (tgt := 89) hx hb dX6_markOf_82 (by decide) (fun _ => ?_) (fun h => absurd h c_4)
        refine lv_iload_n hx hb dX6_markOf_89 rfl (lv_at hl 1 rfl) ?_
        refine lv_iconst (v := 3) hx hb dX6_markOf_90 (by decide) ?_
        refine lv_icmp_ne (tgt := 102) hx hb dX6_markOf_91 (by decide) (fun h => absurd c_20 h) (fun _ => ?_)
        refine lv_iload_n hx hb dX6_markOf_94 rfl (lv_at hl 0 rfl) ?_
        refine lv_sipush (v := 1000) hx hb dX6_markOf_95 (by decide) ?_
        refine lv_isub hx hb dX6_markOf_98 ?_
        refine lv_topi (fun ov_64 _ => ?_)
        refine lv_goto (tgt := 105) hx hb dX6_markOf_99 (by decide) ?_
        have hP9 := hP.sub (ws' := [(md, .inr (6, [vm_0, vm_1, vm_2, vm_3, vm_4, .ref hs, vm_6, vm_7, vm_8, vm_9, vm_10, vm_11, vm_12, vm_13, vm_14, vm_15, vm_16, vm_17, vm_18, vm_19, vm_20, vm_21, .ref tc, .int (nI kn2_59)])), (hs, .inl (cI, 45, .inl f)), (tc, .inl (cI, 16, .inl cf2_58))]) [1, 0, 2] rfl
        have hD9 := hD.sub (ws' := [(md, .inr (6, [vm_0, vm_1, vm_2, vm_3, vm_4, .ref hs, vm_6, vm_7, vm_8, vm_9, vm_10, vm_11, vm_12, vm_13, vm_14, vm_15, vm_16, vm_17, vm_18, vm_19, vm_20, vm_21, .ref tc, .int (nI kn2_59)])), (hs, .inl (cI, 45, .inl f)), (tc, .inl (cI, 16, .inl cf2_58))]) [1, 0, 2] (by decide) rfl
        exact wt_iret hx hb hr hlocks hP9 hD9 hS ⟨cf2_58, kn2_59, rfl, (by omega)⟩ dX6_markOf_105
  · skip
    refine lv_aload_n hx hb dX6_markOf_15 rfl (lv_at hl 1 rfl) ?_
    refine lv_bipush (v := 23) hx hb dX6_markOf_16 (by decide) ?_
    refine wt_goV (wr := [(hs, .inl (cI, 45, .inl f))]) (wt_runV (As := [.int 23]) (rest := []) ⟨hx, hb, hml, hown, hts⟩ (c_X6_began l D cI cZ cH md tc kn cf 23 vm_0 vm_1 vm_2 vm_3 vm_4 (.ref hs) vm_6 vm_7 vm_8 vm_9 vm_10 vm_11 vm_12 vm_13 vm_14 vm_15 vm_16 vm_17 vm_18 vm_19 vm_20 vm_21 (by first | assumption | omega)) (cwV 1 hts gX6_markOf_X6_began rfl rfl rfl (by decide +kernel) ⟨Nat.le_of_ble_eq_true rfl, Nat.le_of_ble_eq_true rfl⟩) hK hP hD [0, 2] rfl (by decide) (va_recv hK.1 hP (ci := 6) (q0 := 0) rfl rfl) rfl hl.1 rfl (Nat.le_of_ble_eq_true rfl) dX6_markOf_18 ⟨Nat.le_of_ble_eq_true rfl, Nat.le_of_ble_eq_true rfl⟩) hP hD hS hA [0, 2] [1] rfl rfl (by decide) (by decide) (fun w_66 H locs h_67 hP hD hS => ?_)
    obtain ⟨cf2_68, kn2_69, rfl, x_70⟩ := h_67
    have hP : va_P D vwCl [(hs, .inl (cI, 45, .inl f)), (md, .inr (6, [vm_0, vm_1, vm_2, vm_3, vm_4, .ref hs, vm_6, vm_7, vm_8, vm_9, vm_10, vm_11, vm_12, vm_13, vm_14, vm_15, vm_16, vm_17, vm_18, vm_19, vm_20, vm_21, .ref tc, .int (nI kn2_69)])), (tc, .inl (cI, 16, .inl cf2_68))] H := hP
    have hD : va_D A [(hs, .inl (cI, 45, .inl f)), (md, .inr (6, [vm_0, vm_1, vm_2, vm_3, vm_4, .ref hs, vm_6, vm_7, vm_8, vm_9, vm_10, vm_11, vm_12, vm_13, vm_14, vm_15, vm_16, vm_17, vm_18, vm_19, vm_20, vm_21, .ref tc, .int (nI kn2_69)])), (tc, .inl (cI, 16, .inl cf2_68))] := hD
    refine lv_aload_n hx hb dX6_markOf_21 rfl (lv_at hl 1 rfl) ?_
    refine lv_bipush (v := 20) hx hb dX6_markOf_22 (by decide) ?_
    refine wt_goV (wr := [(hs, .inl (cI, 45, .inl f))]) (wt_runV (As := [.int 20]) (rest := []) ⟨hx, hb, hml, hown, hts⟩ (c_X6_began l D cI cZ cH md tc kn2_69 cf2_68 20 vm_0 vm_1 vm_2 vm_3 vm_4 (.ref hs) vm_6 vm_7 vm_8 vm_9 vm_10 vm_11 vm_12 vm_13 vm_14 vm_15 vm_16 vm_17 vm_18 vm_19 vm_20 vm_21 (by first | assumption | omega)) (cwV 1 hts gX6_markOf_X6_began rfl rfl rfl (by decide +kernel) ⟨Nat.le_of_ble_eq_true rfl, Nat.le_of_ble_eq_true rfl⟩) hK hP hD [1, 2] rfl (by decide) (va_recv hK.1 hP (ci := 6) (q0 := 1) rfl rfl) rfl hl.1 rfl (Nat.le_of_ble_eq_true rfl) dX6_markOf_24 ⟨Nat.le_of_ble_eq_true rfl, Nat.le_of_ble_eq_true rfl⟩) hP hD hS hA [1, 2] [0] rfl rfl (by decide) (by decide) (fun w_72 H locs h_73 hP hD hS => ?_)
    obtain ⟨cf2_74, kn2_75, rfl, x_76⟩ := h_73
    have hP : va_P D vwCl [(hs, .inl (cI, 45, .inl f)), (md, .inr (6, [vm_0, vm_1, vm_2, vm_3, vm_4, .ref hs, vm_6, vm_7, vm_8, vm_9, vm_10, vm_11, vm_12, vm_13, vm_14, vm_15, vm_16, vm_17, vm_18, vm_19, vm_20, vm_21, .ref tc, .int (nI kn2_75)])), (tc, .inl (cI, 16, .inl cf2_74))] H := hP
    have hD : va_D A [(hs, .inl (cI, 45, .inl f)), (md, .inr (6, [vm_0, vm_1, vm_2, vm_3, vm_4, .ref hs, vm_6, vm_7, vm_8, vm_9, vm_10, vm_11, vm_12, vm_13, vm_14, vm_15, vm_16, vm_17, vm_18, vm_19, vm_20, vm_21, .ref tc, .int (nI kn2_75)])), (tc, .inl (cI, 16, .inl cf2_74))] := hD
    refine lv_iload_n hx hb dX6_markOf_27 rfl (lv_at hl 2 rfl) ?_
    refine lv_aload_n hx hb dX6_markOf_28 rfl (lv_at hl 1 rfl) ?_
    refine lv_iload_n hx hb dX6_markOf_29 rfl (lv_at hl 2 rfl) ?_
    refine wt_goI (wr := []) (wt_runV (As := [.int (nI j)]) (rest := [.int (nI j)]) ⟨hx, hb, hml, hown, hts⟩ (c_X6_woolSize l D cI cZ cH md hs R T f tc kn2_75 cf2_74 j vm_0 vm_1 vm_2 vm_3 vm_4 vm_6 vm_7 vm_8 vm_9 vm_10 vm_11 vm_12 vm_13 vm_14 vm_15 vm_16 vm_17 vm_18 vm_19 vm_20 vm_21 (by first | assumption | omega) (by first | assumption | omega) (by first | assumption | omega) (by first | assumption | omega) (by first | assumption | omega)) (cwV 1 hts gX6_markOf_X6_woolSize rfl rfl rfl (by decide +kernel) ⟨Nat.le_of_ble_eq_true rfl, Nat.le_of_ble_eq_true rfl⟩) hK hP hD [1, 0, 2] rfl (by decide) (va_recv hK.1 hP (ci := 6) (q0 := 1) rfl rfl) rfl hl.1 rfl (Nat.le_of_ble_eq_true rfl) dX6_markOf_30 ⟨Nat.le_of_ble_eq_true rfl, Nat.le_of_ble_eq_true rfl⟩) hP hD hS hA [1, 0, 2] [] rfl rfl (by decide) (by decide) (fun r_77 w_78 H locs h_79 hP hD hS => ?_)
    obtain ⟨cf2_80, kn2_81, rfl, x_82⟩ := h_79
    have hP : va_P D vwCl [(md, .inr (6, [vm_0, vm_1, vm_2, vm_3, vm_4, .ref hs, vm_6, vm_7, vm_8, vm_9, vm_10, vm_11, vm_12, vm_13, vm_14, vm_15, vm_16, vm_17, vm_18, vm_19, vm_20, vm_21, .ref tc, .int (nI kn2_81)])), (hs, .inl (cI, 45, .inl f)), (tc, .inl (cI, 16, .inl cf2_80))] H := hP
    have hD : va_D A [(md, .inr (6, [vm_0, vm_1, vm_2, vm_3, vm_4, .ref hs, vm_6, vm_7, vm_8, vm_9, vm_10, vm_11, vm_12, vm_13, vm_14, vm_15, vm_16, vm_17, vm_18, vm_19, vm_20, vm_21, .ref tc, .int (nI kn2_81)])), (hs, .inl (cI, 45, .inl f)), (tc, .inl (cI, 16, .inl cf2_80))] := hD
    refine lv_isub hx hb dX6_markOf_33 ?_
    refine lv_topi (fun ov_83 _ => ?_)
    have hP9 := hP.sub (ws' := [(md, .inr (6, [vm_0, vm_1, vm_2, vm_3, vm_4, .ref hs, vm_6, vm_7, vm_8, vm_9, vm_10, vm_11, vm_12, vm_13, vm_14, vm_15, vm_16, vm_17, vm_18, vm_19, vm_20, vm_21, .ref tc, .int (nI kn2_81)])), (hs, .inl (cI, 45, .inl f)), (tc, .inl (cI, 16, .inl cf2_80))]) [0, 1, 2] rfl
    have hD9 := hD.sub (ws' := [(md, .inr (6, [vm_0, vm_1, vm_2, vm_3, vm_4, .ref hs, vm_6, vm_7, vm_8, vm_9, vm_10, vm_11, vm_12, vm_13, vm_14, vm_15, vm_16, vm_17, vm_18, vm_19, vm_20, vm_21, .ref tc, .int (nI kn2_81)])), (hs, .inl (cI, 45, .inl f)), (tc, .inl (cI, 16, .inl cf2_80))]) [0, 1, 2] (by decide) rfl
    exact wt_iret hx hb hr hlocks hP9 hD9 hS ⟨cf2_80, kn2_81, rfl, (by omega)⟩ dX6_markOf_34
set_option maxHeartbeats 4000000 in
set_option maxRecDepth 100000 in
theorem c_X6_sizeOf (l : Launch) (D : va_G) (cI cZ cH : ClassId) (md hs : Nat) (R T : Nat) (f : Nat → Int32) (tc kn : Nat) (cf : Nat → Int32) (j : Nat) (vm_0 vm_1 vm_2 vm_3 vm_4 vm_6 vm_7 vm_8 vm_9 vm_10 vm_11 vm_12 vm_13 vm_14 vm_15 vm_16 vm_17 vm_18 vm_19 vm_20 vm_21 : Value) (hR5 : R ≤ 5) (hT6 : T ≤ 6) (hrk : rk R T f) (hj6 : j < 6) (hkn : kn ≤ 16) : wt_M l yX6_sizeOf wsX6_sizeOf ({ frames := 4, cells := 0, slots := 0, locals := 89 } : Room) D (wt_T cI cZ cH) [.ref md, .int (nI j)] [(md, .inr (6, [vm_0, vm_1, vm_2, vm_3, vm_4, .ref hs, vm_6, vm_7, vm_8, vm_9, vm_10, vm_11, vm_12, vm_13, vm_14, vm_15, vm_16, vm_17, vm_18, vm_19, vm_20, vm_21, .ref tc, .int (nI kn)])), (hs, .inl (cI, 45, .inl f)), (tc, .inl (cI, 16, .inl cf))] (wt_QI D (fun r w => ∃ (cf2 : Nat → Int32) (kn2 : Nat), w = [(md, .inr (6, [vm_0, vm_1, vm_2, vm_3, vm_4, .ref hs, vm_6, vm_7, vm_8, vm_9, vm_10, vm_11, vm_12, vm_13, vm_14, vm_15, vm_16, vm_17, vm_18, vm_19, vm_20, vm_21, .ref tc, .int (nI kn2)])), (hs, .inl (cI, 45, .inl f)), (tc, .inl (cI, 16, .inl cf2))] ∧ kn2 ≤ 16)) := by
  refine wt_M.ofW (cc := cX6_sizeOf) (maxL := 4) (ret := (some .int)) (by decide) rfl (Nat.le_of_ble_eq_true rfl) ?_
  intro p e s m below meth c A ls hx hb hr hts hown hlocks hml hnm hP hK hD hA hS hl
  have hP : va_P D vwCl [(md, .inr (6, [vm_0, vm_1, vm_2, vm_3, vm_4, .ref hs, vm_6, vm_7, vm_8, vm_9, vm_10, vm_11, vm_12, vm_13, vm_14, vm_15, vm_16, vm_17, vm_18, vm_19, vm_20, vm_21, .ref tc, .int (nI kn)])), (hs, .inl (cI, 45, .inl f)), (tc, .inl (cI, 16, .inl cf))] s.heap := hP
  have hown : s.vm.findClass RX6 = some m.cls := hown
  have hl : lv_has ls 4 [(0, .ref md), (1, .int (nI j))] := hl
  have hi6 : ∀ w ∈ u_ws RX6 TX6 24, w ∈ wsX6_sizeOf := by decide +kernel
  have wf19 := hts (.fieldLink RX6 19 "WarmTubesModel" "house" "[I") (by decide +kernel)
  refine lv_aload_n hx hb dX6_sizeOf_0 rfl (lv_at hl 0 rfl) ?_
  refine va_get (D := D) (ci := 6) (v := .ref hs) (C := RX6) (T := TX6) (N := 24) hx hb hts hi6 hown hK.1 hP 0 rfl rfl 5 (by decide) wf19 (fun _ h9 => h9) rfl dX6_sizeOf_1 ?_
  refine lv_iload_n hx hb dX6_sizeOf_4 rfl (lv_at hl 1 rfl) ?_
  refine lv_iconst (v := 0) hx hb dX6_sizeOf_5 (by decide) ?_
  refine wt_rS (As := [.ref hs, .int (nI j), .int 0]) (rest := []) ⟨hx, hb, hml, hown, hts⟩ (c_X6_of_w l D cI cZ cH hs R T f j 0 (by first | assumption | omega) (by first | assumption | omega) (by first | assumption | omega) (by first | assumption | omega) (by first | assumption | omega)) (va_cwS 3 hts gX6_sizeOf_X6_of rfl rfl rfl (by decide +kernel) ⟨Nat.le_of_ble_eq_true rfl, Nat.le_of_ble_eq_true rfl⟩) hK hP [1] rfl rfl hl.1 rfl (Nat.le_of_ble_eq_true rfl) dX6_sizeOf_6 ⟨Nat.le_of_ble_eq_true rfl, Nat.le_of_ble_eq_true rfl⟩ (fun r_1 e_2 => ?_)
  refine lv_istore_n (lv' := [(2, .int r_1), (0, .ref md), (1, .int (nI j))]) hx hb dX6_sizeOf_9 rfl hl (by decide) rfl (fun ls hl => ?_)
  refine lv_iload_n hx hb dX6_sizeOf_10 rfl (lv_at hl 0 rfl) ?_
  refine lv_iconst (v := 4) hx hb dX6_sizeOf_11 (by decide) ?_
  refine lv_icmp_lt (tgt := 21) hx hb dX6_sizeOf_12 (by decide) (fun c_3 => ?_) (fun c_3 => ?_)
  · skip
    refine lv_iload_n hx hb dX6_sizeOf_21 rfl (lv_at hl 0 rfl) ?_
    refine lv_iconst (v := 2) hx hb dX6_sizeOf_22 (by decide) ?_
    refine lv_icmp_ne (tgt := 32) hx hb dX6_sizeOf_23 (by decide) (fun c_4 => ?_) (fun c_4 => ?_)
    · skip
      refine lv_aload_n hx hb dX6_sizeOf_32 rfl (lv_at hl 1 rfl) ?_
      refine lv_bipush (v := 11) hx hb dX6_sizeOf_33 (by decide) ?_
      refine wt_goV (wr := [(hs, .inl (cI, 45, .inl f))]) (wt_runV (As := [.int 11]) (rest := []) ⟨hx, hb, hml, hown, hts⟩ (c_X6_began l D cI cZ cH md tc kn cf 11 vm_0 vm_1 vm_2 vm_3 vm_4 (.ref hs) vm_6 vm_7 vm_8 vm_9 vm_10 vm_11 vm_12 vm_13 vm_14 vm_15 vm_16 vm_17 vm_18 vm_19 vm_20 vm_21 (by first | assumption | omega)) (cwV 1 hts gX6_sizeOf_X6_began rfl rfl rfl (by decide +kernel) ⟨Nat.le_of_ble_eq_true rfl, Nat.le_of_ble_eq_true rfl⟩) hK hP hD [0, 2] rfl (by decide) (va_recv hK.1 hP (ci := 6) (q0 := 0) rfl rfl) rfl hl.1 rfl (Nat.le_of_ble_eq_true rfl) dX6_sizeOf_35 ⟨Nat.le_of_ble_eq_true rfl, Nat.le_of_ble_eq_true rfl⟩) hP hD hS hA [0, 2] [1] rfl rfl (by decide) (by decide) (fun w_6 H locs h_7 hP hD hS => ?_)
      obtain ⟨cf2_8, kn2_9, rfl, x_10⟩ := h_7
      have hP : va_P D vwCl [(hs, .inl (cI, 45, .inl f)), (md, .inr (6, [vm_0, vm_1, vm_2, vm_3, vm_4, .ref hs, vm_6, vm_7, vm_8, vm_9, vm_10, vm_11, vm_12, vm_13, vm_14, vm_15, vm_16, vm_17, vm_18, vm_19, vm_20, vm_21, .ref tc, .int (nI kn2_9)])), (tc, .inl (cI, 16, .inl cf2_8))] H := hP
      have hD : va_D A [(hs, .inl (cI, 45, .inl f)), (md, .inr (6, [vm_0, vm_1, vm_2, vm_3, vm_4, .ref hs, vm_6, vm_7, vm_8, vm_9, vm_10, vm_11, vm_12, vm_13, vm_14, vm_15, vm_16, vm_17, vm_18, vm_19, vm_20, vm_21, .ref tc, .int (nI kn2_9)])), (tc, .inl (cI, 16, .inl cf2_8))] := hD
      refine lv_aload_n hx hb dX6_sizeOf_38 rfl (lv_at hl 1 rfl) ?_
      refine lv_iload_n hx hb dX6_sizeOf_39 rfl (lv_at hl 2 rfl) ?_
      refine wt_goI (wr := []) (wt_runV (As := [.int (nI j)]) (rest := []) ⟨hx, hb, hml, hown, hts⟩ (c_X6_plainSize l D cI cZ cH md hs R T f tc kn2_9 cf2_8 j vm_0 vm_1 vm_2 vm_3 vm_4 vm_6 vm_7 vm_8 vm_9 vm_10 vm_11 vm_12 vm_13 vm_14 vm_15 vm_16 vm_17 vm_18 vm_19 vm_20 vm_21 (by first | assumption | omega) (by first | assumption | omega) (by first | assumption | omega) (by first | assumption | omega) (by first | assumption | omega)) (cwV 1 hts gX6_sizeOf_X6_plainSize rfl rfl rfl (by decide +kernel) ⟨Nat.le_of_ble_eq_true rfl, Nat.le_of_ble_eq_true rfl⟩) hK hP hD [1, 0, 2] rfl (by decide) (va_recv hK.1 hP (ci := 6) (q0 := 1) rfl rfl) rfl hl.1 rfl (Nat.le_of_ble_eq_true rfl) dX6_sizeOf_40 ⟨Nat.le_of_ble_eq_true rfl, Nat.le_of_ble_eq_true rfl⟩) hP hD hS hA [1, 0, 2] [] rfl rfl (by decide) (by decide) (fun r_11 w_12 H locs h_13 hP hD hS => ?_)
      obtain ⟨cf2_14, kn2_15, rfl, x_16⟩ := h_13
      have hP : va_P D vwCl [(md, .inr (6, [vm_0, vm_1, vm_2, vm_3, vm_4, .ref hs, vm_6, vm_7, vm_8, vm_9, vm_10, vm_11, vm_12, vm_13, vm_14, vm_15, vm_16, vm_17, vm_18, vm_19, vm_20, vm_21, .ref tc, .int (nI kn2_15)])), (hs, .inl (cI, 45, .inl f)), (tc, .inl (cI, 16, .inl cf2_14))] H := hP
      have hD : va_D A [(md, .inr (6, [vm_0, vm_1, vm_2, vm_3, vm_4, .ref hs, vm_6, vm_7, vm_8, vm_9, vm_10, vm_11, vm_12, vm_13, vm_14, vm_15, vm_16, vm_17, vm_18, vm_19, vm_20, vm_21, .ref tc, .int (nI kn2_15)])), (hs, .inl (cI, 45, .inl f)), (tc, .inl (cI, 16, .inl cf2_14))] := hD
      refine lv_istore_n (lv' := [(3, .int r_11), (2, .int r_1), (0, .ref md), (1, .int (nI j))]) hx hb dX6_sizeOf_43 rfl hl (by decide) rfl (fun ls hl => ?_)
      refine lv_iload_n hx hb dX6_sizeOf_44 rfl (lv_at hl 0 rfl) ?_
      refine lv_aload_n hx hb dX6_sizeOf_45 rfl (lv_at hl 2 rfl) ?_
      refine lv_iload_n hx hb dX6_sizeOf_46 rfl (lv_at hl 3 rfl) ?_
      refine wt_goI (wr := []) (wt_runV (As := [.int (nI j)]) (rest := [.int r_11]) ⟨hx, hb, hml, hown, hts⟩ (c_X6_markOf l D cI cZ cH md hs R T f tc kn2_15 cf2_14 j vm_0 vm_1 vm_2 vm_3 vm_4 vm_6 vm_7 vm_8 vm_9 vm_10 vm_11 vm_12 vm_13 vm_14 vm_15 vm_16 vm_17 vm_18 vm_19 vm_20 vm_21 (by first | assumption | omega) (by first | assumption | omega) (by first | assumption | omega) (by first | assumption | omega) (by first | assumption | omega)) (cwV 1 hts gX6_sizeOf_X6_markOf rfl rfl rfl (by decide +kernel) ⟨Nat.le_of_ble_eq_true rfl, Nat.le_of_ble_eq_true rfl⟩) hK hP hD [0, 1, 2] rfl (by decide) (va_recv hK.1 hP (ci := 6) (q0 := 0) rfl rfl) rfl hl.1 rfl (Nat.le_of_ble_eq_true rfl) dX6_sizeOf_47 ⟨Nat.le_of_ble_eq_true rfl, Nat.le_of_ble_eq_true rfl⟩) hP hD hS hA [0, 1, 2] [] rfl rfl (by decide) (by decide) (fun r_17 w_18 H locs h_19 hP hD hS => ?_)
      obtain ⟨cf2_20, kn2_21, rfl, x_22⟩ := h_19
      have hP : va_P D vwCl [(md, .inr (6, [vm_0, vm_1, vm_2, vm_3, vm_4, .ref hs, vm_6, vm_7, vm_8, vm_9, vm_10, vm_11, vm_12, vm_13, vm_14, vm_15, vm_16, vm_17, vm_18, vm_19, vm_20, vm_21, .ref tc, .int (nI kn2_21)])), (hs, .inl (cI, 45, .inl f)), (tc, .inl (cI, 16, .inl cf2_20))] H := hP
      have hD : va_D A [(md, .inr (6, [vm_0, vm_1, vm_2, vm_3, vm_4, .ref hs, vm_6, vm_7, vm_8, vm_9, vm_10, vm_11, vm_12, vm_13, vm_14, vm_15, vm_16, vm_17, vm_18, vm_19, vm_20, vm_21, .ref tc, .int (nI kn2_21)])), (hs, .inl (cI, 45, .inl f)), (tc, .inl (cI, 16, .inl cf2_20))] := hD
      refine lv_iadd hx hb dX6_sizeOf_50 ?_
      refine lv_topi (fun ov_23 _ => ?_)
      refine lv_istore_n (lv' := [(3, .int ov_23), (2, .int r_1), (0, .ref md), (1, .int (nI j))]) hx hb dX6_sizeOf_51 rfl hl (by decide) rfl (fun ls hl => ?_)
      refine lv_iload_n hx hb dX6_sizeOf_52 rfl (lv_at hl 1 rfl) ?_
      refine lv_iconst (v := 2) hx hb dX6_sizeOf_53 (by decide) ?_
      refine lv_icmp_ne (tgt := 62) hx hb dX6_sizeOf_54 (by decide) (fun _ => ?_) (fun h => absurd h c_4)
      refine lv_iload_n hx hb dX6_sizeOf_62 rfl (lv_at hl 0 rfl) ?_
      have hP9 := hP.sub (ws' := [(md, .inr (6, [vm_0, vm_1, vm_2, vm_3, vm_4, .ref hs, vm_6, vm_7, vm_8, vm_9, vm_10, vm_11, vm_12, vm_13, vm_14, vm_15, vm_16, vm_17, vm_18, vm_19, vm_20, vm_21, .ref tc, .int (nI kn2_21)])), (hs, .inl (cI, 45, .inl f)), (tc, .inl (cI, 16, .inl cf2_20))]) [0, 1, 2] rfl
      have hD9 := hD.sub (ws' := [(md, .inr (6, [vm_0, vm_1, vm_2, vm_3, vm_4, .ref hs, vm_6, vm_7, vm_8, vm_9, vm_10, vm_11, vm_12, vm_13, vm_14, vm_15, vm_16, vm_17, vm_18, vm_19, vm_20, vm_21, .ref tc, .int (nI kn2_21)])), (hs, .inl (cI, 45, .inl f)), (tc, .inl (cI, 16, .inl cf2_20))]) [0, 1, 2] (by decide) rfl
      exact wt_iret hx hb hr hlocks hP9 hD9 hS ⟨cf2_20, kn2_21, rfl, (by omega)⟩ dX6_sizeOf_63
    · skip
      refine lv_aload_n hx hb dX6_sizeOf_26 rfl (lv_at hl 1 rfl) ?_
      refine lv_bipush (v := 12) hx hb dX6_sizeOf_27 (by decide) ?_
      refine wt_goV (wr := [(hs, .inl (cI, 45, .inl f))]) (wt_runV (As := [.int 12]) (rest := []) ⟨hx, hb, hml, hown, hts⟩ (c_X6_began l D cI cZ cH md tc kn cf 12 vm_0 vm_1 vm_2 vm_3 vm_4 (.ref hs) vm_6 vm_7 vm_8 vm_9 vm_10 vm_11 vm_12 vm_13 vm_14 vm_15 vm_16 vm_17 vm_18 vm_19 vm_20 vm_21 (by first | assumption | omega)) (cwV 1 hts gX6_sizeOf_X6_began rfl rfl rfl (by decide +kernel) ⟨Nat.le_of_ble_eq_true rfl, Nat.le_of_ble_eq_true rfl⟩) hK hP hD [0, 2] rfl (by decide) (va_recv hK.1 hP (ci := 6) (q0 := 0) rfl rfl) rfl hl.1 rfl (Nat.le_of_ble_eq_true rfl) dX6_sizeOf_29 ⟨Nat.le_of_ble_eq_true rfl, Nat.le_of_ble_eq_true rfl⟩) hP hD hS hA [0, 2] [1] rfl rfl (by decide) (by decide) (fun w_25 H locs h_26 hP hD hS => ?_)
      obtain ⟨cf2_27, kn2_28, rfl, x_29⟩ := h_26
      have hP : va_P D vwCl [(hs, .inl (cI, 45, .inl f)), (md, .inr (6, [vm_0, vm_1, vm_2, vm_3, vm_4, .ref hs, vm_6, vm_7, vm_8, vm_9, vm_10, vm_11, vm_12, vm_13, vm_14, vm_15, vm_16, vm_17, vm_18, vm_19, vm_20, vm_21, .ref tc, .int (nI kn2_28)])), (tc, .inl (cI, 16, .inl cf2_27))] H := hP
      have hD : va_D A [(hs, .inl (cI, 45, .inl f)), (md, .inr (6, [vm_0, vm_1, vm_2, vm_3, vm_4, .ref hs, vm_6, vm_7, vm_8, vm_9, vm_10, vm_11, vm_12, vm_13, vm_14, vm_15, vm_16, vm_17, vm_18, vm_19, vm_20, vm_21, .ref tc, .int (nI kn2_28)])), (tc, .inl (cI, 16, .inl cf2_27))] := hD
      refine lv_aload_n hx hb dX6_sizeOf_32 rfl (lv_at hl 1 rfl) ?_
      refine lv_bipush (v := 11) hx hb dX6_sizeOf_33 (by decide) ?_
      refine wt_goV (wr := [(hs, .inl (cI, 45, .inl f))]) (wt_runV (As := [.int 11]) (rest := []) ⟨hx, hb, hml, hown, hts⟩ (c_X6_began l D cI cZ cH md tc kn2_28 cf2_27 11 vm_0 vm_1 vm_2 vm_3 vm_4 (.ref hs) vm_6 vm_7 vm_8 vm_9 vm_10 vm_11 vm_12 vm_13 vm_14 vm_15 vm_16 vm_17 vm_18 vm_19 vm_20 vm_21 (by first | assumption | omega)) (cwV 1 hts gX6_sizeOf_X6_began rfl rfl rfl (by decide +kernel) ⟨Nat.le_of_ble_eq_true rfl, Nat.le_of_ble_eq_true rfl⟩) hK hP hD [1, 2] rfl (by decide) (va_recv hK.1 hP (ci := 6) (q0 := 1) rfl rfl) rfl hl.1 rfl (Nat.le_of_ble_eq_true rfl) dX6_sizeOf_35 ⟨Nat.le_of_ble_eq_true rfl, Nat.le_of_ble_eq_true rfl⟩) hP hD hS hA [1, 2] [0] rfl rfl (by decide) (by decide) (fun w_31 H locs h_32 hP hD hS => ?_)
      obtain ⟨cf2_33, kn2_34, rfl, x_35⟩ := h_32
      have hP : va_P D vwCl [(hs, .inl (cI, 45, .inl f)), (md, .inr (6, [vm_0, vm_1, vm_2, vm_3, vm_4, .ref hs, vm_6, vm_7, vm_8, vm_9, vm_10, vm_11, vm_12, vm_13, vm_14, vm_15, vm_16, vm_17, vm_18, vm_19, vm_20, vm_21, .ref tc, .int (nI kn2_34)])), (tc, .inl (cI, 16, .inl cf2_33))] H := hP
      have hD : va_D A [(hs, .inl (cI, 45, .inl f)), (md, .inr (6, [vm_0, vm_1, vm_2, vm_3, vm_4, .ref hs, vm_6, vm_7, vm_8, vm_9, vm_10, vm_11, vm_12, vm_13, vm_14, vm_15, vm_16, vm_17, vm_18, vm_19, vm_20, vm_21, .ref tc, .int (nI kn2_34)])), (tc, .inl (cI, 16, .inl cf2_33))] := hD
      refine lv_aload_n hx hb dX6_sizeOf_38 rfl (lv_at hl 1 rfl) ?_
      refine lv_iload_n hx hb dX6_sizeOf_39 rfl (lv_at hl 2 rfl) ?_
      refine wt_goI (wr := []) (wt_runV (As := [.int (nI j)]) (rest := []) ⟨hx, hb, hml, hown, hts⟩ (c_X6_plainSize l D cI cZ cH md hs R T f tc kn2_34 cf2_33 j vm_0 vm_1 vm_2 vm_3 vm_4 vm_6 vm_7 vm_8 vm_9 vm_10 vm_11 vm_12 vm_13 vm_14 vm_15 vm_16 vm_17 vm_18 vm_19 vm_20 vm_21 (by first | assumption | omega) (by first | assumption | omega) (by first | assumption | omega) (by first | assumption | omega) (by first | assumption | omega)) (cwV 1 hts gX6_sizeOf_X6_plainSize rfl rfl rfl (by decide +kernel) ⟨Nat.le_of_ble_eq_true rfl, Nat.le_of_ble_eq_true rfl⟩) hK hP hD [1, 0, 2] rfl (by decide) (va_recv hK.1 hP (ci := 6) (q0 := 1) rfl rfl) rfl hl.1 rfl (Nat.le_of_ble_eq_true rfl) dX6_sizeOf_40 ⟨Nat.le_of_ble_eq_true rfl, Nat.le_of_ble_eq_true rfl⟩) hP hD hS hA [1, 0, 2] [] rfl rfl (by decide) (by decide) (fun r_36 w_37 H locs h_38 hP hD hS => ?_)
      obtain ⟨cf2_39, kn2_40, rfl, x_41⟩ := h_38
      have hP : va_P D vwCl [(md, .inr (6, [vm_0, vm_1, vm_2, vm_3, vm_4, .ref hs, vm_6, vm_7, vm_8, vm_9, vm_10, vm_11, vm_12, vm_13, vm_14, vm_15, vm_16, vm_17, vm_18, vm_19, vm_20, vm_21, .ref tc, .int (nI kn2_40)])), (hs, .inl (cI, 45, .inl f)), (tc, .inl (cI, 16, .inl cf2_39))] H := hP
      have hD : va_D A [(md, .inr (6, [vm_0, vm_1, vm_2, vm_3, vm_4, .ref hs, vm_6, vm_7, vm_8, vm_9, vm_10, vm_11, vm_12, vm_13, vm_14, vm_15, vm_16, vm_17, vm_18, vm_19, vm_20, vm_21, .ref tc, .int (nI kn2_40)])), (hs, .inl (cI, 45, .inl f)), (tc, .inl (cI, 16, .inl cf2_39))] := hD
      refine lv_istore_n (lv' := [(3, .int r_36), (2, .int r_1), (0, .ref md), (1, .int (nI j))]) hx hb dX6_sizeOf_43 rfl hl (by decide) rfl (fun ls hl => ?_)
      refine lv_iload_n hx hb dX6_sizeOf_44 rfl (lv_at hl 0 rfl) ?_
      refine lv_aload_n hx hb dX6_sizeOf_45 rfl (lv_at hl 2 rfl) ?_
      refine lv_iload_n hx hb dX6_sizeOf_46 rfl (lv_at hl 3 rfl) ?_
      refine wt_goI (wr := []) (wt_runV (As := [.int (nI j)]) (rest := [.int r_36]) ⟨hx, hb, hml, hown, hts⟩ (c_X6_markOf l D cI cZ cH md hs R T f tc kn2_40 cf2_39 j vm_0 vm_1 vm_2 vm_3 vm_4 vm_6 vm_7 vm_8 vm_9 vm_10 vm_11 vm_12 vm_13 vm_14 vm_15 vm_16 vm_17 vm_18 vm_19 vm_20 vm_21 (by first | assumption | omega) (by first | assumption | omega) (by first | assumption | omega) (by first | assumption | omega) (by first | assumption | omega)) (cwV 1 hts gX6_sizeOf_X6_markOf rfl rfl rfl (by decide +kernel) ⟨Nat.le_of_ble_eq_true rfl, Nat.le_of_ble_eq_true rfl⟩) hK hP hD [0, 1, 2] rfl (by decide) (va_recv hK.1 hP (ci := 6) (q0 := 0) rfl rfl) rfl hl.1 rfl (Nat.le_of_ble_eq_true rfl) dX6_sizeOf_47 ⟨Nat.le_of_ble_eq_true rfl, Nat.le_of_ble_eq_true rfl⟩) hP hD hS hA [0, 1, 2] [] rfl rfl (by decide) (by decide) (fun r_42 w_43 H locs h_44 hP hD hS => ?_)
      obtain ⟨cf2_45, kn2_46, rfl, x_47⟩ := h_44
      have hP : va_P D vwCl [(md, .inr (6, [vm_0, vm_1, vm_2, vm_3, vm_4, .ref hs, vm_6, vm_7, vm_8, vm_9, vm_10, vm_11, vm_12, vm_13, vm_14, vm_15, vm_16, vm_17, vm_18, vm_19, vm_20, vm_21, .ref tc, .int (nI kn2_46)])), (hs, .inl (cI, 45, .inl f)), (tc, .inl (cI, 16, .inl cf2_45))] H := hP
      have hD : va_D A [(md, .inr (6, [vm_0, vm_1, vm_2, vm_3, vm_4, .ref hs, vm_6, vm_7, vm_8, vm_9, vm_10, vm_11, vm_12, vm_13, vm_14, vm_15, vm_16, vm_17, vm_18, vm_19, vm_20, vm_21, .ref tc, .int (nI kn2_46)])), (hs, .inl (cI, 45, .inl f)), (tc, .inl (cI, 16, .inl cf2_45))] := hD
      refine lv_iadd hx hb dX6_sizeOf_50 ?_
      refine lv_topi (fun ov_48 _ => ?_)
      refine lv_istore_n (lv' := [(3, .int ov_48), (2, .int r_1), (0, .ref md), (1, .int (nI j))]) hx hb dX6_sizeOf_51 rfl hl (by decide) rfl (fun ls hl => ?_)
      refine lv_iload_n hx hb dX6_sizeOf_52 rfl (lv_at hl 1 rfl) ?_
      refine lv_iconst (v := 2) hx hb dX6_sizeOf_53 (by decide) ?_
      refine lv_icmp_ne (tgt := 62) hx hb dX6_sizeOf_54 (by decide) (fun h => absurd c_4 h) (fun _ => ?_)
      refine lv_iload_n hx hb dX6_sizeOf_57 rfl (lv_at hl 0 rfl) ?_
      refine lv_ineg hx hb dX6_sizeOf_58 ?_
      refine lv_topi (fun ov_49 _ => ?_)
      refine lv_goto (tgt := 63) hx hb dX6_sizeOf_59 (by decide) ?_
      have hP9 := hP.sub (ws' := [(md, .inr (6, [vm_0, vm_1, vm_2, vm_3, vm_4, .ref hs, vm_6, vm_7, vm_8, vm_9, vm_10, vm_11, vm_12, vm_13, vm_14, vm_15, vm_16, vm_17, vm_18, vm_19, vm_20, vm_21, .ref tc, .int (nI kn2_46)])), (hs, .inl (cI, 45, .inl f)), (tc, .inl (cI, 16, .inl cf2_45))]) [0, 1, 2] rfl
      have hD9 := hD.sub (ws' := [(md, .inr (6, [vm_0, vm_1, vm_2, vm_3, vm_4, .ref hs, vm_6, vm_7, vm_8, vm_9, vm_10, vm_11, vm_12, vm_13, vm_14, vm_15, vm_16, vm_17, vm_18, vm_19, vm_20, vm_21, .ref tc, .int (nI kn2_46)])), (hs, .inl (cI, 45, .inl f)), (tc, .inl (cI, 16, .inl cf2_45))]) [0, 1, 2] (by decide) rfl
      exact wt_iret hx hb hr hlocks hP9 hD9 hS ⟨cf2_45, kn2_46, rfl, (by omega)⟩ dX6_sizeOf_63
  · skip
    refine lv_aload_n hx hb dX6_sizeOf_15 rfl (lv_at hl 1 rfl) ?_
    refine lv_iload_n hx hb dX6_sizeOf_16 rfl (lv_at hl 2 rfl) ?_
    refine wt_goI (wr := []) (wt_runV (As := [.int (nI j)]) (rest := []) ⟨hx, hb, hml, hown, hts⟩ (c_X6_woolSize l D cI cZ cH md hs R T f tc kn cf j vm_0 vm_1 vm_2 vm_3 vm_4 vm_6 vm_7 vm_8 vm_9 vm_10 vm_11 vm_12 vm_13 vm_14 vm_15 vm_16 vm_17 vm_18 vm_19 vm_20 vm_21 (by first | assumption | omega) (by first | assumption | omega) (by first | assumption | omega) (by first | assumption | omega) (by first | assumption | omega)) (cwV 1 hts gX6_sizeOf_X6_woolSize rfl rfl rfl (by decide +kernel) ⟨Nat.le_of_ble_eq_true rfl, Nat.le_of_ble_eq_true rfl⟩) hK hP hD [0, 1, 2] rfl (by decide) (va_recv hK.1 hP (ci := 6) (q0 := 0) rfl rfl) rfl hl.1 rfl (Nat.le_of_ble_eq_true rfl) dX6_sizeOf_17 ⟨Nat.le_of_ble_eq_true rfl, Nat.le_of_ble_eq_true rfl⟩) hP hD hS hA [0, 1, 2] [] rfl rfl (by decide) (by decide) (fun r_50 w_51 H locs h_52 hP hD hS => ?_)
    obtain ⟨cf2_53, kn2_54, rfl, x_55⟩ := h_52
    have hP : va_P D vwCl [(md, .inr (6, [vm_0, vm_1, vm_2, vm_3, vm_4, .ref hs, vm_6, vm_7, vm_8, vm_9, vm_10, vm_11, vm_12, vm_13, vm_14, vm_15, vm_16, vm_17, vm_18, vm_19, vm_20, vm_21, .ref tc, .int (nI kn2_54)])), (hs, .inl (cI, 45, .inl f)), (tc, .inl (cI, 16, .inl cf2_53))] H := hP
    have hD : va_D A [(md, .inr (6, [vm_0, vm_1, vm_2, vm_3, vm_4, .ref hs, vm_6, vm_7, vm_8, vm_9, vm_10, vm_11, vm_12, vm_13, vm_14, vm_15, vm_16, vm_17, vm_18, vm_19, vm_20, vm_21, .ref tc, .int (nI kn2_54)])), (hs, .inl (cI, 45, .inl f)), (tc, .inl (cI, 16, .inl cf2_53))] := hD
    have hP9 := hP.sub (ws' := [(md, .inr (6, [vm_0, vm_1, vm_2, vm_3, vm_4, .ref hs, vm_6, vm_7, vm_8, vm_9, vm_10, vm_11, vm_12, vm_13, vm_14, vm_15, vm_16, vm_17, vm_18, vm_19, vm_20, vm_21, .ref tc, .int (nI kn2_54)])), (hs, .inl (cI, 45, .inl f)), (tc, .inl (cI, 16, .inl cf2_53))]) [0, 1, 2] rfl
    have hD9 := hD.sub (ws' := [(md, .inr (6, [vm_0, vm_1, vm_2, vm_3, vm_4, .ref hs, vm_6, vm_7, vm_8, vm_9, vm_10, vm_11, vm_12, vm_13, vm_14, vm_15, vm_16, vm_17, vm_18, vm_19, vm_20, vm_21, .ref tc, .int (nI kn2_54)])), (hs, .inl (cI, 45, .inl f)), (tc, .inl (cI, 16, .inl cf2_53))]) [0, 1, 2] (by decide) rfl
    exact wt_iret hx hb hr hlocks hP9 hD9 hS ⟨cf2_53, kn2_54, rfl, (by omega)⟩ dX6_sizeOf_20
set_option maxHeartbeats 4000000 in
set_option maxRecDepth 100000 in
theorem c_X6_ask (l : Launch) (D : va_G) (cI cZ cH : ClassId) (md hs : Nat) (R T : Nat) (f : Nat → Int32) (tc kn : Nat) (cf : Nat → Int32) (a1 a2 : Int32) (vm_0 vm_1 vm_2 vm_3 vm_4 vm_6 vm_7 vm_8 vm_9 vm_10 vm_11 vm_12 vm_13 vm_14 vm_15 vm_16 vm_17 vm_18 vm_19 vm_20 vm_21 : Value) (hR5 : R ≤ 5) (hT6 : T ≤ 6) (hrk : rk R T f) (hkn : kn ≤ 16) : wt_M l yX6_ask wsX6_ask ({ frames := 5, cells := 0, slots := 0, locals := 112 } : Room) D (wt_T cI cZ cH) [.ref md, .int a1, .int a2] [(md, .inr (6, [vm_0, vm_1, vm_2, vm_3, vm_4, .ref hs, vm_6, vm_7, vm_8, vm_9, vm_10, vm_11, vm_12, vm_13, vm_14, vm_15, vm_16, vm_17, vm_18, vm_19, vm_20, vm_21, .ref tc, .int (nI kn)])), (hs, .inl (cI, 45, .inl f)), (tc, .inl (cI, 16, .inl cf))] (wt_QI D (fun r w => ∃ (cf2 : Nat → Int32) (kn2 : Nat), w = [(md, .inr (6, [.int 0, vm_1, vm_2, vm_3, vm_4, .ref hs, vm_6, vm_7, vm_8, vm_9, vm_10, vm_11, vm_12, vm_13, vm_14, vm_15, vm_16, vm_17, vm_18, vm_19, vm_20, vm_21, .ref tc, .int (nI kn2)])), (hs, .inl (cI, 45, .inl f)), (tc, .inl (cI, 16, .inl cf2))] ∧ kn2 ≤ 16)) := by
  refine wt_M.ofW (cc := cX6_ask) (maxL := 3) (ret := (some .int)) (by decide) rfl (Nat.le_of_ble_eq_true rfl) ?_
  intro p e s m below meth c A ls hx hb hr hts hown hlocks hml hnm hP hK hD hA hS hl
  have hP : va_P D vwCl [(md, .inr (6, [vm_0, vm_1, vm_2, vm_3, vm_4, .ref hs, vm_6, vm_7, vm_8, vm_9, vm_10, vm_11, vm_12, vm_13, vm_14, vm_15, vm_16, vm_17, vm_18, vm_19, vm_20, vm_21, .ref tc, .int (nI kn)])), (hs, .inl (cI, 45, .inl f)), (tc, .inl (cI, 16, .inl cf))] s.heap := hP
  have hown : s.vm.findClass RX6 = some m.cls := hown
  have hl : lv_has ls 3 [(0, .ref md), (1, .int a1), (2, .int a2)] := hl
  have hi6 : ∀ w ∈ u_ws RX6 TX6 24, w ∈ wsX6_ask := by decide +kernel
  have wc67 := hts (.constant RX6 67 (-1000001)) (by decide +kernel)
  have wf289 := hts (.fieldLink RX6 289 "WarmTubesModel" "traced" "I") (by decide +kernel)
  have wf47 := hts (.fieldLink RX6 47 "WarmTubesModel" "thrown" "I") (by decide +kernel)
  refine lv_aload_n hx hb dX6_ask_0 rfl (lv_at hl 0 rfl) ?_
  refine lv_iconst (v := 0) hx hb dX6_ask_1 (by decide) ?_
  refine va_put (D := D) (ci := 6) (v := .int 0) (ty := .int) (C := RX6) (T := TX6) (N := 24) hx hb hts hi6 tyX6 tyX6_ok nmX6 hown hK.1 hP hD hS 0 rfl rfl 0 (by decide) wf47 (fun _ h9 => h9) rfl (by decide +kernel) rfl rfl (Nat.le_of_ble_eq_true rfl) dX6_ask_2 (fun H locs hP hD hS => ?_)
  have hP : va_P D vwCl [(md, .inr (6, [.int 0, vm_1, vm_2, vm_3, vm_4, .ref hs, vm_6, vm_7, vm_8, vm_9, vm_10, vm_11, vm_12, vm_13, vm_14, vm_15, vm_16, vm_17, vm_18, vm_19, vm_20, vm_21, .ref tc, .int (nI kn)])), (hs, .inl (cI, 45, .inl f)), (tc, .inl (cI, 16, .inl cf))] H := hP
  have hD : va_D A [(md, .inr (6, [.int 0, vm_1, vm_2, vm_3, vm_4, .ref hs, vm_6, vm_7, vm_8, vm_9, vm_10, vm_11, vm_12, vm_13, vm_14, vm_15, vm_16, vm_17, vm_18, vm_19, vm_20, vm_21, .ref tc, .int (nI kn)])), (hs, .inl (cI, 45, .inl f)), (tc, .inl (cI, 16, .inl cf))] := hD
  refine lv_aload_n hx hb dX6_ask_5 rfl (lv_at hl 0 rfl) ?_
  refine lv_iload_n hx hb dX6_ask_6 rfl (lv_at hl 1 rfl) ?_
  refine wt_rV (As := [.int a1]) (rest := []) ⟨hx, hb, hml, hown, hts⟩ (c_X6_isTube l D cI cZ cH md hs R T f a1 (.int 0) vm_1 vm_2 vm_3 vm_4 vm_6 vm_7 vm_8 vm_9 vm_10 vm_11 vm_12 vm_13 vm_14 vm_15 vm_16 vm_17 vm_18 vm_19 vm_20 vm_21 (.ref tc) (.int (nI kn)) (by first | assumption | omega) (by first | assumption | omega) (by first | assumption | omega)) (cwV 1 hts gX6_ask_X6_isTube rfl rfl rfl (by decide +kernel) ⟨Nat.le_of_ble_eq_true rfl, Nat.le_of_ble_eq_true rfl⟩) hK hP [0, 1] rfl (va_recv hK.1 hP (ci := 6) (q0 := 0) rfl rfl) rfl hl.1 rfl (Nat.le_of_ble_eq_true rfl) dX6_ask_7 ⟨Nat.le_of_ble_eq_true rfl, Nat.le_of_ble_eq_true rfl⟩ (fun r_1 e_2 => ?_)
  subst e_2
  refine lv_if_eq (tgt := 23) hx hb dX6_ask_10 (by decide) (fun c_3 => ?_) (fun c_3 => ?_)
  · skip
    refine lv_ldc hx hb hown wc67 dX6_ask_23 ?_
    have hP9 := hP.sub (ws' := [(md, .inr (6, [.int 0, vm_1, vm_2, vm_3, vm_4, .ref hs, vm_6, vm_7, vm_8, vm_9, vm_10, vm_11, vm_12, vm_13, vm_14, vm_15, vm_16, vm_17, vm_18, vm_19, vm_20, vm_21, .ref tc, .int (nI kn)])), (hs, .inl (cI, 45, .inl f)), (tc, .inl (cI, 16, .inl cf))]) [0, 1, 2] rfl
    have hD9 := hD.sub (ws' := [(md, .inr (6, [.int 0, vm_1, vm_2, vm_3, vm_4, .ref hs, vm_6, vm_7, vm_8, vm_9, vm_10, vm_11, vm_12, vm_13, vm_14, vm_15, vm_16, vm_17, vm_18, vm_19, vm_20, vm_21, .ref tc, .int (nI kn)])), (hs, .inl (cI, 45, .inl f)), (tc, .inl (cI, 16, .inl cf))]) [0, 1, 2] (by decide) rfl
    exact wt_iret hx hb hr hlocks hP9 hD9 hS ⟨cf, kn, rfl, (by omega)⟩ dX6_ask_25
  · skip
    obtain ⟨j_4, hj_4, rfl⟩ := wI_natT (T := T) (by omega) c_3
    refine lv_iload_n hx hb dX6_ask_13 rfl (lv_at hl 2 rfl) ?_
    refine lv_i2l hx hb dX6_ask_14 rfl ?_
    refine lv_lconst (v := 0) hx hb dX6_ask_15 (by decide) ?_
    refine lv_lconst (v := 1) hx hb dX6_ask_16 (by decide) ?_
    refine wt_rS (As := [.long a2.toInt64, .long 0, .long 1]) (rest := []) ⟨hx, hb, hml, hown, hts⟩ (c_X6_in l D cI cZ cH a2.toInt64 0 1) (va_cwS 3 hts gX6_ask_X6_in rfl rfl rfl (by decide +kernel) ⟨Nat.le_of_ble_eq_true rfl, Nat.le_of_ble_eq_true rfl⟩) hK hP [] rfl rfl hl.1 rfl (Nat.le_of_ble_eq_true rfl) dX6_ask_17 ⟨Nat.le_of_ble_eq_true rfl, Nat.le_of_ble_eq_true rfl⟩ (fun r_5 e_6 => ?_)
    subst e_6
    refine wt_top (z := wI a2 0 1) (wL_I' (by decide) (by decide)) ?_
    refine lv_if_ne (tgt := 26) hx hb dX6_ask_20 (by decide) (fun c_7 => ?_) (fun c_7 => ?_)
    · skip
      obtain ⟨j_8, hj_8, hj_8b, rfl⟩ := wI_nat (a := 0) (b := 1) (by omega) (by omega) c_7
      refine lv_aload_n hx hb dX6_ask_26 rfl (lv_at hl 0 rfl) ?_
      refine lv_iconst (v := 0) hx hb dX6_ask_27 (by decide) ?_
      refine va_put (D := D) (ci := 6) (v := .int 0) (ty := .int) (C := RX6) (T := TX6) (N := 24) hx hb hts hi6 tyX6 tyX6_ok nmX6 hown hK.1 hP hD hS 0 rfl rfl 23 (by decide) wf289 (fun _ h9 => h9) rfl (by decide +kernel) rfl rfl (Nat.le_of_ble_eq_true rfl) dX6_ask_28 (fun H locs hP hD hS => ?_)
      have hP : va_P D vwCl [(md, .inr (6, [.int 0, vm_1, vm_2, vm_3, vm_4, .ref hs, vm_6, vm_7, vm_8, vm_9, vm_10, vm_11, vm_12, vm_13, vm_14, vm_15, vm_16, vm_17, vm_18, vm_19, vm_20, vm_21, .ref tc, .int 0])), (hs, .inl (cI, 45, .inl f)), (tc, .inl (cI, 16, .inl cf))] H := hP
      have hD : va_D A [(md, .inr (6, [.int 0, vm_1, vm_2, vm_3, vm_4, .ref hs, vm_6, vm_7, vm_8, vm_9, vm_10, vm_11, vm_12, vm_13, vm_14, vm_15, vm_16, vm_17, vm_18, vm_19, vm_20, vm_21, .ref tc, .int 0])), (hs, .inl (cI, 45, .inl f)), (tc, .inl (cI, 16, .inl cf))] := hD
      refine lv_iload_n hx hb dX6_ask_31 rfl (lv_at hl 2 rfl) ?_
      refine lv_if_ne (tgt := 43) hx hb dX6_ask_32 (by decide) (fun c_9 => ?_) (fun c_9 => ?_)
      · skip
        have c_9 : ¬ (j_8 = 0) := fun h => c_9 ((nI_eq (a := j_8) (b := 0) (by omega) (by omega)).mpr h)
        refine lv_aload_n hx hb dX6_ask_43 rfl (lv_at hl 0 rfl) ?_
        refine lv_iload_n hx hb dX6_ask_44 rfl (lv_at hl 1 rfl) ?_
        refine wt_goI (wr := []) (wt_runV (As := [.int (nI j_4)]) (rest := []) ⟨hx, hb, hml, hown, hts⟩ (c_X6_markOf l D cI cZ cH md hs R T f tc 0 cf j_4 (.int 0) vm_1 vm_2 vm_3 vm_4 vm_6 vm_7 vm_8 vm_9 vm_10 vm_11 vm_12 vm_13 vm_14 vm_15 vm_16 vm_17 vm_18 vm_19 vm_20 vm_21 (by first | assumption | omega) (by first | assumption | omega) (by first | assumption | omega) (by first | assumption | omega) (by first | assumption | omega)) (cwV 1 hts gX6_ask_X6_markOf rfl rfl rfl (by decide +kernel) ⟨Nat.le_of_ble_eq_true rfl, Nat.le_of_ble_eq_true rfl⟩) hK hP hD [0, 1, 2] rfl (by decide) (va_recv hK.1 hP (ci := 6) (q0 := 0) rfl rfl) rfl hl.1 rfl (Nat.le_of_ble_eq_true rfl) dX6_ask_45 ⟨Nat.le_of_ble_eq_true rfl, Nat.le_of_ble_eq_true rfl⟩) hP hD hS hA [0, 1, 2] [] rfl rfl (by decide) (by decide) (fun r_10 w_11 H locs h_12 hP hD hS => ?_)
        obtain ⟨cf2_13, kn2_14, rfl, x_15⟩ := h_12
        have hP : va_P D vwCl [(md, .inr (6, [.int 0, vm_1, vm_2, vm_3, vm_4, .ref hs, vm_6, vm_7, vm_8, vm_9, vm_10, vm_11, vm_12, vm_13, vm_14, vm_15, vm_16, vm_17, vm_18, vm_19, vm_20, vm_21, .ref tc, .int (nI kn2_14)])), (hs, .inl (cI, 45, .inl f)), (tc, .inl (cI, 16, .inl cf2_13))] H := hP
        have hD : va_D A [(md, .inr (6, [.int 0, vm_1, vm_2, vm_3, vm_4, .ref hs, vm_6, vm_7, vm_8, vm_9, vm_10, vm_11, vm_12, vm_13, vm_14, vm_15, vm_16, vm_17, vm_18, vm_19, vm_20, vm_21, .ref tc, .int (nI kn2_14)])), (hs, .inl (cI, 45, .inl f)), (tc, .inl (cI, 16, .inl cf2_13))] := hD
        have hP9 := hP.sub (ws' := [(md, .inr (6, [.int 0, vm_1, vm_2, vm_3, vm_4, .ref hs, vm_6, vm_7, vm_8, vm_9, vm_10, vm_11, vm_12, vm_13, vm_14, vm_15, vm_16, vm_17, vm_18, vm_19, vm_20, vm_21, .ref tc, .int (nI kn2_14)])), (hs, .inl (cI, 45, .inl f)), (tc, .inl (cI, 16, .inl cf2_13))]) [0, 1, 2] rfl
        have hD9 := hD.sub (ws' := [(md, .inr (6, [.int 0, vm_1, vm_2, vm_3, vm_4, .ref hs, vm_6, vm_7, vm_8, vm_9, vm_10, vm_11, vm_12, vm_13, vm_14, vm_15, vm_16, vm_17, vm_18, vm_19, vm_20, vm_21, .ref tc, .int (nI kn2_14)])), (hs, .inl (cI, 45, .inl f)), (tc, .inl (cI, 16, .inl cf2_13))]) [0, 1, 2] (by decide) rfl
        exact wt_iret hx hb hr hlocks hP9 hD9 hS ⟨cf2_13, kn2_14, rfl, (by omega)⟩ dX6_ask_48
      · skip
        have c_9 : j_8 = 0 := (nI_eq (a := j_8) (b := 0) (by omega) (by omega)).mp c_9
        refine lv_aload_n hx hb dX6_ask_35 rfl (lv_at hl 0 rfl) ?_
        refine lv_iload_n hx hb dX6_ask_36 rfl (lv_at hl 1 rfl) ?_
        refine wt_goI (wr := []) (wt_runV (As := [.int (nI j_4)]) (rest := []) ⟨hx, hb, hml, hown, hts⟩ (c_X6_sizeOf l D cI cZ cH md hs R T f tc 0 cf j_4 (.int 0) vm_1 vm_2 vm_3 vm_4 vm_6 vm_7 vm_8 vm_9 vm_10 vm_11 vm_12 vm_13 vm_14 vm_15 vm_16 vm_17 vm_18 vm_19 vm_20 vm_21 (by first | assumption | omega) (by first | assumption | omega) (by first | assumption | omega) (by first | assumption | omega) (by first | assumption | omega)) (cwV 1 hts gX6_ask_X6_sizeOf rfl rfl rfl (by decide +kernel) ⟨Nat.le_of_ble_eq_true rfl, Nat.le_of_ble_eq_true rfl⟩) hK hP hD [0, 1, 2] rfl (by decide) (va_recv hK.1 hP (ci := 6) (q0 := 0) rfl rfl) rfl hl.1 rfl (Nat.le_of_ble_eq_true rfl) dX6_ask_37 ⟨Nat.le_of_ble_eq_true rfl, Nat.le_of_ble_eq_true rfl⟩) hP hD hS hA [0, 1, 2] [] rfl rfl (by decide) (by decide) (fun r_16 w_17 H locs h_18 hP hD hS => ?_)
        obtain ⟨cf2_19, kn2_20, rfl, x_21⟩ := h_18
        have hP : va_P D vwCl [(md, .inr (6, [.int 0, vm_1, vm_2, vm_3, vm_4, .ref hs, vm_6, vm_7, vm_8, vm_9, vm_10, vm_11, vm_12, vm_13, vm_14, vm_15, vm_16, vm_17, vm_18, vm_19, vm_20, vm_21, .ref tc, .int (nI kn2_20)])), (hs, .inl (cI, 45, .inl f)), (tc, .inl (cI, 16, .inl cf2_19))] H := hP
        have hD : va_D A [(md, .inr (6, [.int 0, vm_1, vm_2, vm_3, vm_4, .ref hs, vm_6, vm_7, vm_8, vm_9, vm_10, vm_11, vm_12, vm_13, vm_14, vm_15, vm_16, vm_17, vm_18, vm_19, vm_20, vm_21, .ref tc, .int (nI kn2_20)])), (hs, .inl (cI, 45, .inl f)), (tc, .inl (cI, 16, .inl cf2_19))] := hD
        refine lv_goto (tgt := 48) hx hb dX6_ask_40 (by decide) ?_
        have hP9 := hP.sub (ws' := [(md, .inr (6, [.int 0, vm_1, vm_2, vm_3, vm_4, .ref hs, vm_6, vm_7, vm_8, vm_9, vm_10, vm_11, vm_12, vm_13, vm_14, vm_15, vm_16, vm_17, vm_18, vm_19, vm_20, vm_21, .ref tc, .int (nI kn2_20)])), (hs, .inl (cI, 45, .inl f)), (tc, .inl (cI, 16, .inl cf2_19))]) [0, 1, 2] rfl
        have hD9 := hD.sub (ws' := [(md, .inr (6, [.int 0, vm_1, vm_2, vm_3, vm_4, .ref hs, vm_6, vm_7, vm_8, vm_9, vm_10, vm_11, vm_12, vm_13, vm_14, vm_15, vm_16, vm_17, vm_18, vm_19, vm_20, vm_21, .ref tc, .int (nI kn2_20)])), (hs, .inl (cI, 45, .inl f)), (tc, .inl (cI, 16, .inl cf2_19))]) [0, 1, 2] (by decide) rfl
        exact wt_iret hx hb hr hlocks hP9 hD9 hS ⟨cf2_19, kn2_20, rfl, (by omega)⟩ dX6_ask_48
    · skip
      refine lv_ldc hx hb hown wc67 dX6_ask_23 ?_
      have hP9 := hP.sub (ws' := [(md, .inr (6, [.int 0, vm_1, vm_2, vm_3, vm_4, .ref hs, vm_6, vm_7, vm_8, vm_9, vm_10, vm_11, vm_12, vm_13, vm_14, vm_15, vm_16, vm_17, vm_18, vm_19, vm_20, vm_21, .ref tc, .int (nI kn)])), (hs, .inl (cI, 45, .inl f)), (tc, .inl (cI, 16, .inl cf))]) [0, 1, 2] rfl
      have hD9 := hD.sub (ws' := [(md, .inr (6, [.int 0, vm_1, vm_2, vm_3, vm_4, .ref hs, vm_6, vm_7, vm_8, vm_9, vm_10, vm_11, vm_12, vm_13, vm_14, vm_15, vm_16, vm_17, vm_18, vm_19, vm_20, vm_21, .ref tc, .int (nI kn)])), (hs, .inl (cI, 45, .inl f)), (tc, .inl (cI, 16, .inl cf))]) [0, 1, 2] (by decide) rfl
      exact wt_iret hx hb hr hlocks hP9 hD9 hS ⟨cf, kn, rfl, (by omega)⟩ dX6_ask_25
set_option maxHeartbeats 4000000 in
set_option maxRecDepth 100000 in
theorem c_X6_trace (l : Launch) (D : va_G) (cI cZ cH : ClassId) (md tc kn : Nat) (cf : Nat → Int32) (a1 : Int32) (vm_0 vm_1 vm_2 vm_3 vm_4 vm_5 vm_6 vm_7 vm_8 vm_9 vm_10 vm_11 vm_12 vm_13 vm_14 vm_15 vm_16 vm_17 vm_18 vm_19 vm_20 vm_21 : Value) (hkn : kn ≤ 16) : wt_M l yX6_trace wsX6_trace ({ frames := 1, cells := 0, slots := 0, locals := 25 } : Room) D (wt_T cI cZ cH) [.ref md, .int a1] [(md, .inr (6, [vm_0, vm_1, vm_2, vm_3, vm_4, vm_5, vm_6, vm_7, vm_8, vm_9, vm_10, vm_11, vm_12, vm_13, vm_14, vm_15, vm_16, vm_17, vm_18, vm_19, vm_20, vm_21, .ref tc, .int (nI kn)])), (tc, .inl (cI, 16, .inl cf))] (wt_QI D (fun r w => w = [(md, .inr (6, [.int 0, vm_1, vm_2, vm_3, vm_4, vm_5, vm_6, vm_7, vm_8, vm_9, vm_10, vm_11, vm_12, vm_13, vm_14, vm_15, vm_16, vm_17, vm_18, vm_19, vm_20, vm_21, .ref tc, .int (nI kn)])), (tc, .inl (cI, 16, .inl cf))])) := by
  refine wt_M.ofW (cc := cX6_trace) (maxL := 2) (ret := (some .int)) (by decide) rfl (Nat.le_of_ble_eq_true rfl) ?_
  intro p e s m below meth c A ls hx hb hr hts hown hlocks hml hnm hP hK hD hA hS hl
  have hP : va_P D vwCl [(md, .inr (6, [vm_0, vm_1, vm_2, vm_3, vm_4, vm_5, vm_6, vm_7, vm_8, vm_9, vm_10, vm_11, vm_12, vm_13, vm_14, vm_15, vm_16, vm_17, vm_18, vm_19, vm_20, vm_21, .ref tc, .int (nI kn)])), (tc, .inl (cI, 16, .inl cf))] s.heap := hP
  have hown : s.vm.findClass RX6 = some m.cls := hown
  have hl : lv_has ls 2 [(0, .ref md), (1, .int a1)] := hl
  have hi6 : ∀ w ∈ u_ws RX6 TX6 24, w ∈ wsX6_trace := by decide +kernel
  have wc90 := hts (.constant RX6 90 (-1000000)) (by decide +kernel)
  have wf289 := hts (.fieldLink RX6 289 "WarmTubesModel" "traced" "I") (by decide +kernel)
  have wf44 := hts (.fieldLink RX6 44 "WarmTubesModel" "trace" "[I") (by decide +kernel)
  have wf47 := hts (.fieldLink RX6 47 "WarmTubesModel" "thrown" "I") (by decide +kernel)
  refine lv_aload_n hx hb dX6_trace_0 rfl (lv_at hl 0 rfl) ?_
  refine lv_iconst (v := 0) hx hb dX6_trace_1 (by decide) ?_
  refine va_put (D := D) (ci := 6) (v := .int 0) (ty := .int) (C := RX6) (T := TX6) (N := 24) hx hb hts hi6 tyX6 tyX6_ok nmX6 hown hK.1 hP hD hS 0 rfl rfl 0 (by decide) wf47 (fun _ h9 => h9) rfl (by decide +kernel) rfl rfl (Nat.le_of_ble_eq_true rfl) dX6_trace_2 (fun H locs hP hD hS => ?_)
  have hP : va_P D vwCl [(md, .inr (6, [.int 0, vm_1, vm_2, vm_3, vm_4, vm_5, vm_6, vm_7, vm_8, vm_9, vm_10, vm_11, vm_12, vm_13, vm_14, vm_15, vm_16, vm_17, vm_18, vm_19, vm_20, vm_21, .ref tc, .int (nI kn)])), (tc, .inl (cI, 16, .inl cf))] H := hP
  have hD : va_D A [(md, .inr (6, [.int 0, vm_1, vm_2, vm_3, vm_4, vm_5, vm_6, vm_7, vm_8, vm_9, vm_10, vm_11, vm_12, vm_13, vm_14, vm_15, vm_16, vm_17, vm_18, vm_19, vm_20, vm_21, .ref tc, .int (nI kn)])), (tc, .inl (cI, 16, .inl cf))] := hD
  refine lv_iload_n hx hb dX6_trace_5 rfl (lv_at hl 1 rfl) ?_
  refine lv_i2l hx hb dX6_trace_6 rfl ?_
  refine lv_lconst (v := 0) hx hb dX6_trace_7 (by decide) ?_
  refine lv_aload_n hx hb dX6_trace_8 rfl (lv_at hl 0 rfl) ?_
  refine va_get (D := D) (ci := 6) (v := .int (nI kn)) (C := RX6) (T := TX6) (N := 24) hx hb hts hi6 hown hK.1 hP 0 rfl rfl 23 (by decide) wf289 (fun _ h9 => h9) rfl dX6_trace_9 ?_
  refine lv_iconst (v := 1) hx hb dX6_trace_12 (by decide) ?_
  refine lv_isub hx hb dX6_trace_13 ?_
  refine lv_i2l hx hb dX6_trace_14 rfl ?_
  refine wt_rS (As := [.long a1.toInt64, .long 0, .long (((nI kn) - 1).toInt64)]) (rest := []) ⟨hx, hb, hml, hown, hts⟩ (c_X6_in l D cI cZ cH a1.toInt64 0 (((nI kn) - 1).toInt64)) (va_cwS 3 hts gX6_trace_X6_in rfl rfl rfl (by decide +kernel) ⟨Nat.le_of_ble_eq_true rfl, Nat.le_of_ble_eq_true rfl⟩) hK hP [] rfl rfl hl.1 rfl (Nat.le_of_ble_eq_true rfl) dX6_trace_15 ⟨Nat.le_of_ble_eq_true rfl, Nat.le_of_ble_eq_true rfl⟩ (fun r_1 e_2 => ?_)
  subst e_2
  refine wt_top (z := wI a1 0 ((nI kn) - 1)) (wL_I' (by decide) rfl) ?_
  refine lv_if_eq (tgt := 30) hx hb dX6_trace_18 (by decide) (fun c_3 => ?_) (fun c_3 => ?_)
  · skip
    refine lv_ldc hx hb hown wc90 dX6_trace_30 ?_
    have hP9 := hP.sub (ws' := [(md, .inr (6, [.int 0, vm_1, vm_2, vm_3, vm_4, vm_5, vm_6, vm_7, vm_8, vm_9, vm_10, vm_11, vm_12, vm_13, vm_14, vm_15, vm_16, vm_17, vm_18, vm_19, vm_20, vm_21, .ref tc, .int (nI kn)])), (tc, .inl (cI, 16, .inl cf))]) [0, 1] rfl
    have hD9 := hD.sub (ws' := [(md, .inr (6, [.int 0, vm_1, vm_2, vm_3, vm_4, vm_5, vm_6, vm_7, vm_8, vm_9, vm_10, vm_11, vm_12, vm_13, vm_14, vm_15, vm_16, vm_17, vm_18, vm_19, vm_20, vm_21, .ref tc, .int (nI kn)])), (tc, .inl (cI, 16, .inl cf))]) [0, 1] (by decide) rfl
    exact wt_iret hx hb hr hlocks hP9 hD9 hS rfl dX6_trace_32
  · skip
    obtain ⟨j_4, hj_4, rfl⟩ := wI_natT (T := kn) (by omega) c_3
    refine lv_aload_n hx hb dX6_trace_21 rfl (lv_at hl 0 rfl) ?_
    refine va_get (D := D) (ci := 6) (v := .ref tc) (C := RX6) (T := TX6) (N := 24) hx hb hts hi6 hown hK.1 hP 0 rfl rfl 22 (by decide) wf44 (fun _ h9 => h9) rfl dX6_trace_22 ?_
    refine lv_iload_n hx hb dX6_trace_25 rfl (lv_at hl 1 rfl) ?_
    refine va_iald hx hb hK.1 hP 1 0 rfl rfl (vp_in_nI (by omega) (by omega)) dX6_trace_26 ?_
    refine lv_topi (fun ov_5 _ => ?_)
    refine lv_goto (tgt := 32) hx hb dX6_trace_27 (by decide) ?_
    have hP9 := hP.sub (ws' := [(md, .inr (6, [.int 0, vm_1, vm_2, vm_3, vm_4, vm_5, vm_6, vm_7, vm_8, vm_9, vm_10, vm_11, vm_12, vm_13, vm_14, vm_15, vm_16, vm_17, vm_18, vm_19, vm_20, vm_21, .ref tc, .int (nI kn)])), (tc, .inl (cI, 16, .inl cf))]) [0, 1] rfl
    have hD9 := hD.sub (ws' := [(md, .inr (6, [.int 0, vm_1, vm_2, vm_3, vm_4, vm_5, vm_6, vm_7, vm_8, vm_9, vm_10, vm_11, vm_12, vm_13, vm_14, vm_15, vm_16, vm_17, vm_18, vm_19, vm_20, vm_21, .ref tc, .int (nI kn)])), (tc, .inl (cI, 16, .inl cf))]) [0, 1] (by decide) rfl
    exact wt_iret hx hb hr hlocks hP9 hD9 hS rfl dX6_trace_32
set_option maxHeartbeats 4000000 in
set_option maxRecDepth 100000 in
theorem c_X6_isOf (l : Launch) (D : va_G) (cI cZ cH : ClassId) (a1 a2 : Int32) : wt_R l yX6_isOf wsX6_isOf ({ frames := 0, cells := 0, slots := 0, locals := 0 } : Room) D (wt_T cI cZ cH) [.int a1, .int a2] [] (vp_Si (fun r => True)) := by
  refine wt_R.ofW (cc := cX6_isOf) (maxL := 2) (ret := (some .boolean)) (by decide) rfl (Nat.le_of_ble_eq_true rfl) ?_
  intro p e s m below meth c ls hx hb hr hts hown hlocks hml hP hK hl
  have hown : s.vm.findClass RX6 = some m.cls := hown
  have hl : lv_has ls 2 [(0, .int a1), (1, .int a2)] := hl
  refine lv_iload_n hx hb dX6_isOf_0 rfl (lv_at hl 1 rfl) ?_
  refine lv_if_eq (tgt := 29) hx hb dX6_isOf_1 (by decide) (fun c_1 => ?_) (fun c_1 => ?_)
  · skip
    refine lv_iconst (v := 1) hx hb dX6_isOf_29 (by decide) ?_
    refine lv_goto (tgt := 34) hx hb dX6_isOf_30 (by decide) ?_
    exact wt_szret hx hb hr hlocks (by decide) (by trivial) dX6_isOf_34
  · skip
    refine lv_iload_n hx hb dX6_isOf_4 rfl (lv_at hl 0 rfl) ?_
    refine lv_iload_n hx hb dX6_isOf_5 rfl (lv_at hl 1 rfl) ?_
    refine lv_icmp_eq (tgt := 29) hx hb dX6_isOf_6 (by decide) (fun c_2 => ?_) (fun c_2 => ?_)
    · skip
      refine lv_iconst (v := 1) hx hb dX6_isOf_29 (by decide) ?_
      refine lv_goto (tgt := 34) hx hb dX6_isOf_30 (by decide) ?_
      exact wt_szret hx hb hr hlocks (by decide) (by trivial) dX6_isOf_34
    · skip
      refine lv_iload_n hx hb dX6_isOf_9 rfl (lv_at hl 1 rfl) ?_
      refine lv_iconst (v := 1) hx hb dX6_isOf_10 (by decide) ?_
      refine lv_icmp_ne (tgt := 19) hx hb dX6_isOf_11 (by decide) (fun c_3 => ?_) (fun c_3 => ?_)
      · skip
        refine lv_iload_n hx hb dX6_isOf_19 rfl (lv_at hl 1 rfl) ?_
        refine lv_iconst (v := 4) hx hb dX6_isOf_20 (by decide) ?_
        refine lv_icmp_ne (tgt := 33) hx hb dX6_isOf_21 (by decide) (fun c_4 => ?_) (fun c_4 => ?_)
        · skip
          refine lv_iconst (v := 0) hx hb dX6_isOf_33 (by decide) ?_
          exact wt_szret hx hb hr hlocks (by decide) (by trivial) dX6_isOf_34
        · skip
          refine lv_iload_n hx hb dX6_isOf_24 rfl (lv_at hl 0 rfl) ?_
          refine lv_iconst (v := 5) hx hb dX6_isOf_25 (by decide) ?_
          refine lv_icmp_ne (tgt := 33) hx hb dX6_isOf_26 (by decide) (fun c_5 => ?_) (fun c_5 => ?_)
          · skip
            refine lv_iconst (v := 0) hx hb dX6_isOf_33 (by decide) ?_
            exact wt_szret hx hb hr hlocks (by decide) (by trivial) dX6_isOf_34
          · skip
            refine lv_iconst (v := 1) hx hb dX6_isOf_29 (by decide) ?_
            refine lv_goto (tgt := 34) hx hb dX6_isOf_30 (by decide) ?_
            exact wt_szret hx hb hr hlocks (by decide) (by trivial) dX6_isOf_34
      · skip
        refine lv_iload_n hx hb dX6_isOf_14 rfl (lv_at hl 0 rfl) ?_
        refine lv_iconst (v := 4) hx hb dX6_isOf_15 (by decide) ?_
        refine lv_icmp_lt (tgt := 29) hx hb dX6_isOf_16 (by decide) (fun c_6 => ?_) (fun c_6 => ?_)
        · skip
          refine lv_iconst (v := 1) hx hb dX6_isOf_29 (by decide) ?_
          refine lv_goto (tgt := 34) hx hb dX6_isOf_30 (by decide) ?_
          exact wt_szret hx hb hr hlocks (by decide) (by trivial) dX6_isOf_34
        · skip
          refine lv_iload_n hx hb dX6_isOf_19 rfl (lv_at hl 1 rfl) ?_
          refine lv_iconst (v := 4) hx hb dX6_isOf_20 (by decide) ?_
          refine lv_icmp_ne (tgt := 33) hx hb dX6_isOf_21 (by decide) (fun c_7 => ?_) (fun c_7 => ?_)
          · skip
            refine lv_iconst (v := 0) hx hb dX6_isOf_33 (by decide) ?_
            exact wt_szret hx hb hr hlocks (by decide) (by trivial) dX6_isOf_34
          · skip
            refine lv_iload_n hx hb dX6_isOf_24 rfl (lv_at hl 0 rfl) ?_
            refine lv_iconst (v := 5) hx hb dX6_isOf_25 (by decide) ?_
            refine lv_icmp_ne (tgt := 33) hx hb dX6_isOf_26 (by decide) (fun c_8 => ?_) (fun c_8 => ?_)
            · skip
              refine lv_iconst (v := 0) hx hb dX6_isOf_33 (by decide) ?_
              exact wt_szret hx hb hr hlocks (by decide) (by trivial) dX6_isOf_34
            · skip
              refine lv_iconst (v := 1) hx hb dX6_isOf_29 (by decide) ?_
              refine lv_goto (tgt := 34) hx hb dX6_isOf_30 (by decide) ?_
              exact wt_szret hx hb hr hlocks (by decide) (by trivial) dX6_isOf_34
set_option maxHeartbeats 4000000 in
set_option maxRecDepth 100000 in
theorem c_X6_as (l : Launch) (D : va_G) (cI cZ cH : ClassId) (md hs : Nat) (R T : Nat) (f : Nat → Int32) (sv : Int32) (a1 a2 : Int32) (vm_0 vm_2 vm_3 vm_4 vm_6 vm_7 vm_8 vm_9 vm_10 vm_11 vm_12 vm_13 vm_14 vm_15 vm_16 vm_17 vm_18 vm_19 vm_20 vm_21 vm_22 vm_23 : Value) (hR5 : R ≤ 5) (hT6 : T ≤ 6) (hrk : rk R T f) : wt_M l yX6_as wsX6_as ({ frames := 2, cells := 0, slots := 0, locals := 46 } : Room) D (wt_T cI cZ cH) [.ref md, .int a1, .int a2] [(md, .inr (6, [vm_0, .int sv, vm_2, vm_3, vm_4, .ref hs, vm_6, vm_7, vm_8, vm_9, vm_10, vm_11, vm_12, vm_13, vm_14, vm_15, vm_16, vm_17, vm_18, vm_19, vm_20, vm_21, vm_22, vm_23])), (hs, .inl (cI, 45, .inl f))] (wt_QI D (fun r w => ∃ (md_f1 : Int32), w = [(md, .inr (6, [.int 0, .int md_f1, vm_2, vm_3, vm_4, .ref hs, vm_6, vm_7, vm_8, vm_9, vm_10, vm_11, vm_12, vm_13, vm_14, vm_15, vm_16, vm_17, vm_18, vm_19, vm_20, vm_21, vm_22, vm_23])), (hs, .inl (cI, 45, .inl f))])) := by
  refine wt_M.ofW (cc := cX6_as) (maxL := 3) (ret := (some .int)) (by decide) rfl (Nat.le_of_ble_eq_true rfl) ?_
  intro p e s m below meth c A ls hx hb hr hts hown hlocks hml hnm hP hK hD hA hS hl
  have hP : va_P D vwCl [(md, .inr (6, [vm_0, .int sv, vm_2, vm_3, vm_4, .ref hs, vm_6, vm_7, vm_8, vm_9, vm_10, vm_11, vm_12, vm_13, vm_14, vm_15, vm_16, vm_17, vm_18, vm_19, vm_20, vm_21, vm_22, vm_23])), (hs, .inl (cI, 45, .inl f))] s.heap := hP
  have hown : s.vm.findClass RX6 = some m.cls := hown
  have hl : lv_has ls 3 [(0, .ref md), (1, .int a1), (2, .int a2)] := hl
  have hi6 : ∀ w ∈ u_ws RX6 TX6 24, w ∈ wsX6_as := by decide +kernel
  have wc67 := hts (.constant RX6 67 (-1000001)) (by decide +kernel)
  have wf19 := hts (.fieldLink RX6 19 "WarmTubesModel" "house" "[I") (by decide +kernel)
  have wf47 := hts (.fieldLink RX6 47 "WarmTubesModel" "thrown" "I") (by decide +kernel)
  have wf51 := hts (.fieldLink RX6 51 "WarmTubesModel" "status" "I") (by decide +kernel)
  have wl284 := hts (.constantLong RX6 284 (5)) (by decide +kernel)
  refine lv_aload_n hx hb dX6_as_0 rfl (lv_at hl 0 rfl) ?_
  refine lv_iconst (v := 0) hx hb dX6_as_1 (by decide) ?_
  refine va_put (D := D) (ci := 6) (v := .int 0) (ty := .int) (C := RX6) (T := TX6) (N := 24) hx hb hts hi6 tyX6 tyX6_ok nmX6 hown hK.1 hP hD hS 0 rfl rfl 0 (by decide) wf47 (fun _ h9 => h9) rfl (by decide +kernel) rfl rfl (Nat.le_of_ble_eq_true rfl) dX6_as_2 (fun H locs hP hD hS => ?_)
  have hP : va_P D vwCl [(md, .inr (6, [.int 0, .int sv, vm_2, vm_3, vm_4, .ref hs, vm_6, vm_7, vm_8, vm_9, vm_10, vm_11, vm_12, vm_13, vm_14, vm_15, vm_16, vm_17, vm_18, vm_19, vm_20, vm_21, vm_22, vm_23])), (hs, .inl (cI, 45, .inl f))] H := hP
  have hD : va_D A [(md, .inr (6, [.int 0, .int sv, vm_2, vm_3, vm_4, .ref hs, vm_6, vm_7, vm_8, vm_9, vm_10, vm_11, vm_12, vm_13, vm_14, vm_15, vm_16, vm_17, vm_18, vm_19, vm_20, vm_21, vm_22, vm_23])), (hs, .inl (cI, 45, .inl f))] := hD
  refine lv_aload_n hx hb dX6_as_5 rfl (lv_at hl 0 rfl) ?_
  refine lv_iload_n hx hb dX6_as_6 rfl (lv_at hl 1 rfl) ?_
  refine wt_rV (As := [.int a1]) (rest := []) ⟨hx, hb, hml, hown, hts⟩ (c_X6_isTube l D cI cZ cH md hs R T f a1 (.int 0) (.int sv) vm_2 vm_3 vm_4 vm_6 vm_7 vm_8 vm_9 vm_10 vm_11 vm_12 vm_13 vm_14 vm_15 vm_16 vm_17 vm_18 vm_19 vm_20 vm_21 vm_22 vm_23 (by first | assumption | omega) (by first | assumption | omega) (by first | assumption | omega)) (cwV 1 hts gX6_as_X6_isTube rfl rfl rfl (by decide +kernel) ⟨Nat.le_of_ble_eq_true rfl, Nat.le_of_ble_eq_true rfl⟩) hK hP [0, 1] rfl (va_recv hK.1 hP (ci := 6) (q0 := 0) rfl rfl) rfl hl.1 rfl (Nat.le_of_ble_eq_true rfl) dX6_as_7 ⟨Nat.le_of_ble_eq_true rfl, Nat.le_of_ble_eq_true rfl⟩ (fun r_1 e_2 => ?_)
  subst e_2
  refine lv_if_eq (tgt := 25) hx hb dX6_as_10 (by decide) (fun c_3 => ?_) (fun c_3 => ?_)
  · skip
    refine lv_ldc hx hb hown wc67 dX6_as_25 ?_
    have hP9 := hP.sub (ws' := [(md, .inr (6, [.int 0, .int sv, vm_2, vm_3, vm_4, .ref hs, vm_6, vm_7, vm_8, vm_9, vm_10, vm_11, vm_12, vm_13, vm_14, vm_15, vm_16, vm_17, vm_18, vm_19, vm_20, vm_21, vm_22, vm_23])), (hs, .inl (cI, 45, .inl f))]) [0, 1] rfl
    have hD9 := hD.sub (ws' := [(md, .inr (6, [.int 0, .int sv, vm_2, vm_3, vm_4, .ref hs, vm_6, vm_7, vm_8, vm_9, vm_10, vm_11, vm_12, vm_13, vm_14, vm_15, vm_16, vm_17, vm_18, vm_19, vm_20, vm_21, vm_22, vm_23])), (hs, .inl (cI, 45, .inl f))]) [0, 1] (by decide) rfl
    exact wt_iret hx hb hr hlocks hP9 hD9 hS ⟨sv, rfl⟩ dX6_as_27
  · skip
    obtain ⟨j_4, hj_4, rfl⟩ := wI_natT (T := T) (by omega) c_3
    refine lv_iload_n hx hb dX6_as_13 rfl (lv_at hl 2 rfl) ?_
    refine lv_i2l hx hb dX6_as_14 rfl ?_
    refine lv_lconst (v := 0) hx hb dX6_as_15 (by decide) ?_
    refine lv_ldc2 hx hb hown wl284 dX6_as_16 ?_
    refine wt_rS (As := [.long a2.toInt64, .long 0, .long 5]) (rest := []) ⟨hx, hb, hml, hown, hts⟩ (c_X6_in l D cI cZ cH a2.toInt64 0 5) (va_cwS 3 hts gX6_as_X6_in rfl rfl rfl (by decide +kernel) ⟨Nat.le_of_ble_eq_true rfl, Nat.le_of_ble_eq_true rfl⟩) hK hP [] rfl rfl hl.1 rfl (Nat.le_of_ble_eq_true rfl) dX6_as_19 ⟨Nat.le_of_ble_eq_true rfl, Nat.le_of_ble_eq_true rfl⟩ (fun r_5 e_6 => ?_)
    subst e_6
    refine wt_top (z := wI a2 0 5) (wL_I' (by decide) (by decide)) ?_
    refine lv_if_ne (tgt := 28) hx hb dX6_as_22 (by decide) (fun c_7 => ?_) (fun c_7 => ?_)
    · skip
      obtain ⟨j_8, hj_8, hj_8b, rfl⟩ := wI_nat (a := 0) (b := 5) (by omega) (by omega) c_7
      refine lv_aload_n hx hb dX6_as_28 rfl (lv_at hl 0 rfl) ?_
      refine lv_iconst (v := 0) hx hb dX6_as_29 (by decide) ?_
      refine va_put (D := D) (ci := 6) (v := .int 0) (ty := .int) (C := RX6) (T := TX6) (N := 24) hx hb hts hi6 tyX6 tyX6_ok nmX6 hown hK.1 hP hD hS 0 rfl rfl 1 (by decide) wf51 (fun _ h9 => h9) rfl (by decide +kernel) rfl rfl (Nat.le_of_ble_eq_true rfl) dX6_as_30 (fun H locs hP hD hS => ?_)
      have hP : va_P D vwCl [(md, .inr (6, [.int 0, .int 0, vm_2, vm_3, vm_4, .ref hs, vm_6, vm_7, vm_8, vm_9, vm_10, vm_11, vm_12, vm_13, vm_14, vm_15, vm_16, vm_17, vm_18, vm_19, vm_20, vm_21, vm_22, vm_23])), (hs, .inl (cI, 45, .inl f))] H := hP
      have hD : va_D A [(md, .inr (6, [.int 0, .int 0, vm_2, vm_3, vm_4, .ref hs, vm_6, vm_7, vm_8, vm_9, vm_10, vm_11, vm_12, vm_13, vm_14, vm_15, vm_16, vm_17, vm_18, vm_19, vm_20, vm_21, vm_22, vm_23])), (hs, .inl (cI, 45, .inl f))] := hD
      refine lv_aload_n hx hb dX6_as_33 rfl (lv_at hl 0 rfl) ?_
      refine va_get (D := D) (ci := 6) (v := .ref hs) (C := RX6) (T := TX6) (N := 24) hx hb hts hi6 hown hK.1 hP 0 rfl rfl 5 (by decide) wf19 (fun _ h9 => h9) rfl dX6_as_34 ?_
      refine lv_iload_n hx hb dX6_as_37 rfl (lv_at hl 1 rfl) ?_
      refine lv_iconst (v := 0) hx hb dX6_as_38 (by decide) ?_
      refine wt_rS (As := [.ref hs, .int (nI j_4), .int 0]) (rest := []) ⟨hx, hb, hml, hown, hts⟩ (c_X6_of_w l D cI cZ cH hs R T f j_4 0 (by first | assumption | omega) (by first | assumption | omega) (by first | assumption | omega) (by first | assumption | omega) (by first | assumption | omega)) (va_cwS 3 hts gX6_as_X6_of rfl rfl rfl (by decide +kernel) ⟨Nat.le_of_ble_eq_true rfl, Nat.le_of_ble_eq_true rfl⟩) hK hP [1] rfl rfl hl.1 rfl (Nat.le_of_ble_eq_true rfl) dX6_as_39 ⟨Nat.le_of_ble_eq_true rfl, Nat.le_of_ble_eq_true rfl⟩ (fun r_9 e_10 => ?_)
      refine lv_iload_n hx hb dX6_as_42 rfl (lv_at hl 2 rfl) ?_
      refine wt_rS (As := [.int r_9, .int (nI j_8)]) (rest := []) ⟨hx, hb, hml, hown, hts⟩ (c_X6_isOf l D cI cZ cH r_9 (nI j_8)) (va_cwS 2 hts gX6_as_X6_isOf rfl rfl rfl (by decide +kernel) ⟨Nat.le_of_ble_eq_true rfl, Nat.le_of_ble_eq_true rfl⟩) hK hP [] rfl rfl hl.1 rfl (Nat.le_of_ble_eq_true rfl) dX6_as_43 ⟨Nat.le_of_ble_eq_true rfl, Nat.le_of_ble_eq_true rfl⟩ (fun r_11 e_12 => ?_)
      refine lv_if_eq (tgt := 53) hx hb dX6_as_46 (by decide) (fun c_13 => ?_) (fun c_13 => ?_)
      · skip
        refine lv_aload_n hx hb dX6_as_53 rfl (lv_at hl 0 rfl) ?_
        refine lv_iconst (v := 3) hx hb dX6_as_54 (by decide) ?_
        refine wt_goI (wr := [(hs, .inl (cI, 45, .inl f))]) (wt_runV (As := [.int 3]) (rest := []) ⟨hx, hb, hml, hown, hts⟩ (c_X6_finding l D cI cZ cH md 3 (.int 0) (.int 0) vm_2 vm_3 vm_4 (.ref hs) vm_6 vm_7 vm_8 vm_9 vm_10 vm_11 vm_12 vm_13 vm_14 vm_15 vm_16 vm_17 vm_18 vm_19 vm_20 vm_21 vm_22 vm_23) (cwV 1 hts gX6_as_X6_finding rfl rfl rfl (by decide +kernel) ⟨Nat.le_of_ble_eq_true rfl, Nat.le_of_ble_eq_true rfl⟩) hK hP hD [0] rfl (by decide) (va_recv hK.1 hP (ci := 6) (q0 := 0) rfl rfl) rfl hl.1 rfl (Nat.le_of_ble_eq_true rfl) dX6_as_55 ⟨Nat.le_of_ble_eq_true rfl, Nat.le_of_ble_eq_true rfl⟩) hP hD hS hA [0] [1] rfl rfl (by decide) (by decide) (fun r_14 w_15 H locs h_16 hP hD hS => ?_)
        obtain ⟨rfl, rfl⟩ := h_16
        have hP : va_P D vwCl [(hs, .inl (cI, 45, .inl f)), (md, .inr (6, [.int 0, .int 3, vm_2, vm_3, vm_4, .ref hs, vm_6, vm_7, vm_8, vm_9, vm_10, vm_11, vm_12, vm_13, vm_14, vm_15, vm_16, vm_17, vm_18, vm_19, vm_20, vm_21, vm_22, vm_23]))] H := hP
        have hD : va_D A [(hs, .inl (cI, 45, .inl f)), (md, .inr (6, [.int 0, .int 3, vm_2, vm_3, vm_4, .ref hs, vm_6, vm_7, vm_8, vm_9, vm_10, vm_11, vm_12, vm_13, vm_14, vm_15, vm_16, vm_17, vm_18, vm_19, vm_20, vm_21, vm_22, vm_23]))] := hD
        refine wt_top (z := (-1000013)) (by decide) ?_
        have hP9 := hP.sub (ws' := [(md, .inr (6, [.int 0, .int 3, vm_2, vm_3, vm_4, .ref hs, vm_6, vm_7, vm_8, vm_9, vm_10, vm_11, vm_12, vm_13, vm_14, vm_15, vm_16, vm_17, vm_18, vm_19, vm_20, vm_21, vm_22, vm_23])), (hs, .inl (cI, 45, .inl f))]) [1, 0] rfl
        have hD9 := hD.sub (ws' := [(md, .inr (6, [.int 0, .int 3, vm_2, vm_3, vm_4, .ref hs, vm_6, vm_7, vm_8, vm_9, vm_10, vm_11, vm_12, vm_13, vm_14, vm_15, vm_16, vm_17, vm_18, vm_19, vm_20, vm_21, vm_22, vm_23])), (hs, .inl (cI, 45, .inl f))]) [1, 0] (by decide) rfl
        exact wt_iret hx hb hr hlocks hP9 hD9 hS ⟨3, rfl⟩ dX6_as_58
      · skip
        refine lv_iload_n hx hb dX6_as_49 rfl (lv_at hl 1 rfl) ?_
        refine lv_goto (tgt := 58) hx hb dX6_as_50 (by decide) ?_
        have hP9 := hP.sub (ws' := [(md, .inr (6, [.int 0, .int 0, vm_2, vm_3, vm_4, .ref hs, vm_6, vm_7, vm_8, vm_9, vm_10, vm_11, vm_12, vm_13, vm_14, vm_15, vm_16, vm_17, vm_18, vm_19, vm_20, vm_21, vm_22, vm_23])), (hs, .inl (cI, 45, .inl f))]) [0, 1] rfl
        have hD9 := hD.sub (ws' := [(md, .inr (6, [.int 0, .int 0, vm_2, vm_3, vm_4, .ref hs, vm_6, vm_7, vm_8, vm_9, vm_10, vm_11, vm_12, vm_13, vm_14, vm_15, vm_16, vm_17, vm_18, vm_19, vm_20, vm_21, vm_22, vm_23])), (hs, .inl (cI, 45, .inl f))]) [0, 1] (by decide) rfl
        exact wt_iret hx hb hr hlocks hP9 hD9 hS ⟨0, rfl⟩ dX6_as_58
    · skip
      refine lv_ldc hx hb hown wc67 dX6_as_25 ?_
      have hP9 := hP.sub (ws' := [(md, .inr (6, [.int 0, .int sv, vm_2, vm_3, vm_4, .ref hs, vm_6, vm_7, vm_8, vm_9, vm_10, vm_11, vm_12, vm_13, vm_14, vm_15, vm_16, vm_17, vm_18, vm_19, vm_20, vm_21, vm_22, vm_23])), (hs, .inl (cI, 45, .inl f))]) [0, 1] rfl
      have hD9 := hD.sub (ws' := [(md, .inr (6, [.int 0, .int sv, vm_2, vm_3, vm_4, .ref hs, vm_6, vm_7, vm_8, vm_9, vm_10, vm_11, vm_12, vm_13, vm_14, vm_15, vm_16, vm_17, vm_18, vm_19, vm_20, vm_21, vm_22, vm_23])), (hs, .inl (cI, 45, .inl f))]) [0, 1] (by decide) rfl
      exact wt_iret hx hb hr hlocks hP9 hD9 hS ⟨sv, rfl⟩ dX6_as_27
set_option maxHeartbeats 4000000 in
set_option maxRecDepth 100000 in
theorem c_X6_count (l : Launch) (D : va_G) (cI cZ cH : ClassId) (md hs : Nat) (R T : Nat) (f : Nat → Int32) (ln ac tl : Nat) (lf : Nat → Int32) (a1 : Int32) (vm_0 vm_1 vm_3 vm_4 vm_6 vm_7 vm_8 vm_10 vm_12 vm_13 vm_14 vm_15 vm_16 vm_17 vm_18 vm_19 vm_20 vm_21 vm_22 vm_23 : Value) (hR5 : R ≤ 5) (hT6 : T ≤ 6) (hrk : rk R T f) : wt_M l yX6_count wsX6_count ({ frames := 3, cells := 0, slots := 0, locals := 64 } : Room) D (wt_T cI cZ cH) [.ref md, .int a1] [(md, .inr (6, [vm_0, vm_1, .ref ln, vm_3, vm_4, .ref hs, vm_6, vm_7, vm_8, .int (nI ac), vm_10, .int (nI tl), vm_12, vm_13, vm_14, vm_15, vm_16, vm_17, vm_18, vm_19, vm_20, vm_21, vm_22, vm_23])), (hs, .inl (cI, 45, .inl f)), (ln, .inl (cI, 8, .inl lf))] (wt_QI D (fun r w => w = [(md, .inr (6, [.int 0, vm_1, .ref ln, vm_3, vm_4, .ref hs, vm_6, vm_7, vm_8, .int (nI ac), vm_10, .int (nI tl), vm_12, vm_13, vm_14, vm_15, vm_16, vm_17, vm_18, vm_19, vm_20, vm_21, vm_22, vm_23])), (hs, .inl (cI, 45, .inl f)), (ln, .inl (cI, 8, .inl lf))])) := by
  refine wt_M.ofW (cc := cX6_count) (maxL := 4) (ret := (some .int)) (by decide) rfl (Nat.le_of_ble_eq_true rfl) ?_
  intro p e s m below meth c A ls hx hb hr hts hown hlocks hml hnm hP hK hD hA hS hl
  have hP : va_P D vwCl [(md, .inr (6, [vm_0, vm_1, .ref ln, vm_3, vm_4, .ref hs, vm_6, vm_7, vm_8, .int (nI ac), vm_10, .int (nI tl), vm_12, vm_13, vm_14, vm_15, vm_16, vm_17, vm_18, vm_19, vm_20, vm_21, vm_22, vm_23])), (hs, .inl (cI, 45, .inl f)), (ln, .inl (cI, 8, .inl lf))] s.heap := hP
  have hown : s.vm.findClass RX6 = some m.cls := hown
  have hl : lv_has ls 4 [(0, .ref md), (1, .int a1)] := hl
  have hi6 : ∀ w ∈ u_ws RX6 TX6 24, w ∈ wsX6_count := by decide +kernel
  have wc67 := hts (.constant RX6 67 (-1000001)) (by decide +kernel)
  have wf149 := hts (.fieldLink RX6 149 "WarmTubesModel" "acts" "I") (by decide +kernel)
  have wf19 := hts (.fieldLink RX6 19 "WarmTubesModel" "house" "[I") (by decide +kernel)
  have wf47 := hts (.fieldLink RX6 47 "WarmTubesModel" "thrown" "I") (by decide +kernel)
  have wf7 := hts (.fieldLink RX6 7 "WarmTubesModel" "lane" "[I") (by decide +kernel)
  have wf74 := hts (.fieldLink RX6 74 "WarmTubesModel" "taped" "I") (by decide +kernel)
  refine lv_aload_n hx hb dX6_count_0 rfl (lv_at hl 0 rfl) ?_
  refine lv_iconst (v := 0) hx hb dX6_count_1 (by decide) ?_
  refine va_put (D := D) (ci := 6) (v := .int 0) (ty := .int) (C := RX6) (T := TX6) (N := 24) hx hb hts hi6 tyX6 tyX6_ok nmX6 hown hK.1 hP hD hS 0 rfl rfl 0 (by decide) wf47 (fun _ h9 => h9) rfl (by decide +kernel) rfl rfl (Nat.le_of_ble_eq_true rfl) dX6_count_2 (fun H locs hP hD hS => ?_)
  have hP : va_P D vwCl [(md, .inr (6, [.int 0, vm_1, .ref ln, vm_3, vm_4, .ref hs, vm_6, vm_7, vm_8, .int (nI ac), vm_10, .int (nI tl), vm_12, vm_13, vm_14, vm_15, vm_16, vm_17, vm_18, vm_19, vm_20, vm_21, vm_22, vm_23])), (hs, .inl (cI, 45, .inl f)), (ln, .inl (cI, 8, .inl lf))] H := hP
  have hD : va_D A [(md, .inr (6, [.int 0, vm_1, .ref ln, vm_3, vm_4, .ref hs, vm_6, vm_7, vm_8, .int (nI ac), vm_10, .int (nI tl), vm_12, vm_13, vm_14, vm_15, vm_16, vm_17, vm_18, vm_19, vm_20, vm_21, vm_22, vm_23])), (hs, .inl (cI, 45, .inl f)), (ln, .inl (cI, 8, .inl lf))] := hD
  refine lv_iconst (v := 0) hx hb dX6_count_5 (by decide) ?_
  refine lv_istore_n (lv' := [(2, .int 0), (0, .ref md), (1, .int a1)]) hx hb dX6_count_6 rfl hl (by decide) rfl (fun ls hl => ?_)
  refine lv_iload_n hx hb dX6_count_7 rfl (lv_at hl 2 rfl) ?_
  rcases wt_dec (a1) 0 with c_2 | c_2
  · subst c_2
    refine lv_tableIn (off := 48) (tgt := 56) hx hb dX6_count_8 (by decide) (by decide) rfl (by decide) ?_
    refine lv_iconst (v := 0) hx hb dX6_count_56 (by decide) ?_
    refine lv_istore_n (lv' := [(3, .int 0), (2, .int 0), (0, .ref md), (1, .int 0)]) hx hb dX6_count_57 rfl hl (by decide) rfl (fun ls hl => ?_)
    have loop58 : ∀ (k i_3 : Nat) (y_4 : Int32) (H : Heap) (locs : List Loc) (ls : Array Slot), i_3 + k = 8 → va_P D vwCl [(md, .inr (6, [.int 0, vm_1, .ref ln, vm_3, vm_4, .ref hs, vm_6, vm_7, vm_8, .int (nI ac), vm_10, .int (nI tl), vm_12, vm_13, vm_14, vm_15, vm_16, vm_17, vm_18, vm_19, vm_20, vm_21, vm_22, vm_23])), (hs, .inl (cI, 45, .inl f)), (ln, .inl (cI, 8, .inl lf))] H → va_D A [(md, .inr (6, [.int 0, vm_1, .ref ln, vm_3, vm_4, .ref hs, vm_6, vm_7, vm_8, .int (nI ac), vm_10, .int (nI tl), vm_12, vm_13, vm_14, vm_15, vm_16, vm_17, vm_18, vm_19, vm_20, vm_21, vm_22, vm_23])), (hs, .inl (cI, 45, .inl f)), (ln, .inl (cI, 8, .inl lf))] → va_S A s.heap H locs → lv_has ls 4 [(3, .int (nI i_3)), (2, .int y_4), (0, .ref md), (1, .int 0)] → W p l e ({ frames := 3, cells := 0, slots := 0, locals := 64 } : Room) s m ([.ref md, .int 0] : List Value).toArray below meth c H locs 0 0 (MQ below (wt_QI D (fun r w => w = [(md, .inr (6, [.int 0, vm_1, .ref ln, vm_3, vm_4, .ref hs, vm_6, vm_7, vm_8, .int (nI ac), vm_10, .int (nI tl), vm_12, vm_13, vm_14, vm_15, vm_16, vm_17, vm_18, vm_19, vm_20, vm_21, vm_22, vm_23])), (hs, .inl (cI, 45, .inl f)), (ln, .inl (cI, 8, .inl lf))]) A) ([.ref md, .int 0] : List Value).toArray s 0 0 A) (F0 m 58 ls []) := by
      intro k
      induction k with
      | zero =>
        intro i_3 y_4 H locs ls hik  hP hD hS hl
        refine lv_iload_n hx hb dX6_count_58 rfl (lv_at hl 0 rfl) ?_
        refine lv_bipush (v := 8) hx hb dX6_count_59 (by decide) ?_
        refine lv_icmp_ge (tgt := 87) hx hb dX6_count_61 (by decide) (fun _ => ?_) (fun h => absurd (nI_le (a := 8) (b := i_3) (by omega) (by omega)) h)
        refine lv_iload_n hx hb dX6_count_87 rfl (lv_at hl 1 rfl) ?_
        have hP9 := hP.sub (ws' := [(md, .inr (6, [.int 0, vm_1, .ref ln, vm_3, vm_4, .ref hs, vm_6, vm_7, vm_8, .int (nI ac), vm_10, .int (nI tl), vm_12, vm_13, vm_14, vm_15, vm_16, vm_17, vm_18, vm_19, vm_20, vm_21, vm_22, vm_23])), (hs, .inl (cI, 45, .inl f)), (ln, .inl (cI, 8, .inl lf))]) [0, 1, 2] rfl
        have hD9 := hD.sub (ws' := [(md, .inr (6, [.int 0, vm_1, .ref ln, vm_3, vm_4, .ref hs, vm_6, vm_7, vm_8, .int (nI ac), vm_10, .int (nI tl), vm_12, vm_13, vm_14, vm_15, vm_16, vm_17, vm_18, vm_19, vm_20, vm_21, vm_22, vm_23])), (hs, .inl (cI, 45, .inl f)), (ln, .inl (cI, 8, .inl lf))]) [0, 1, 2] (by decide) rfl
        exact wt_iret hx hb hr hlocks hP9 hD9 hS rfl dX6_count_88
      | succ k ih58 =>
        intro i_3 y_4 H locs ls hik  hP hD hS hl
        refine lv_iload_n hx hb dX6_count_58 rfl (lv_at hl 0 rfl) ?_
        refine lv_bipush (v := 8) hx hb dX6_count_59 (by decide) ?_
        refine lv_icmp_ge (tgt := 87) hx hb dX6_count_61 (by decide) (fun h => absurd h (nI_ge (a := i_3) (b := 8) (by omega) (by omega))) (fun _ => ?_)
        refine lv_iload_n hx hb dX6_count_64 rfl (lv_at hl 1 rfl) ?_
        refine lv_aload_n hx hb dX6_count_65 rfl (lv_at hl 2 rfl) ?_
        refine va_get (D := D) (ci := 6) (v := .ref ln) (C := RX6) (T := TX6) (N := 24) hx hb hts hi6 hown hK.1 hP 0 rfl rfl 2 (by decide) wf7 (fun _ h9 => h9) rfl dX6_count_66 ?_
        refine lv_iload_n hx hb dX6_count_69 rfl (lv_at hl 0 rfl) ?_
        refine va_iald hx hb hK.1 hP 2 0 rfl rfl (vp_in_nI (by omega) (by omega)) dX6_count_70 ?_
        refine lv_topi (fun ov_5 _ => ?_)
        refine lv_if_lt (tgt := 78) hx hb dX6_count_71 (by decide) (fun c_6 => ?_) (fun c_6 => ?_)
        · skip
          refine lv_iconst (v := 0) hx hb dX6_count_78 (by decide) ?_
          refine lv_iadd hx hb dX6_count_79 ?_
          refine lv_topi (fun ov_7 _ => ?_)
          refine lv_istore_n (lv' := [(2, .int ov_7), (3, .int (nI i_3)), (0, .ref md), (1, .int 0)]) hx hb dX6_count_80 rfl hl (by decide) rfl (fun ls hl => ?_)
          refine lv_iinc (v := nI (i_3 + 1)) (lv' := [(3, .int (nI (i_3 + 1))), (2, .int ov_7), (0, .ref md), (1, .int 0)]) hx hb dX6_count_81 hl (k := 1) rfl (nI_add i_3 1) (by decide) rfl (fun ls hl => ?_)
          refine lv_goto (tgt := 58) hx hb dX6_count_84 (by decide) ?_
          exact ih58 ((i_3 + 1)) ov_7 H locs ls (by omega)  hP hD hS (lv_sub hl [0, 1, 2, 3] rfl)
        · skip
          refine lv_iconst (v := 1) hx hb dX6_count_74 (by decide) ?_
          refine lv_goto (tgt := 79) hx hb dX6_count_75 (by decide) ?_
          refine lv_iadd hx hb dX6_count_79 ?_
          refine lv_topi (fun ov_8 _ => ?_)
          refine lv_istore_n (lv' := [(2, .int ov_8), (3, .int (nI i_3)), (0, .ref md), (1, .int 0)]) hx hb dX6_count_80 rfl hl (by decide) rfl (fun ls hl => ?_)
          refine lv_iinc (v := nI (i_3 + 1)) (lv' := [(3, .int (nI (i_3 + 1))), (2, .int ov_8), (0, .ref md), (1, .int 0)]) hx hb dX6_count_81 hl (k := 1) rfl (nI_add i_3 1) (by decide) rfl (fun ls hl => ?_)
          refine lv_goto (tgt := 58) hx hb dX6_count_84 (by decide) ?_
          exact ih58 ((i_3 + 1)) ov_8 H locs ls (by omega)  hP hD hS (lv_sub hl [0, 1, 2, 3] rfl)
    exact loop58 (8 - 0) (0) 0 _ _ ls (by omega)  hP hD hS hl
  rcases wt_dec (a1) 1 with c_9 | c_9
  · subst c_9
    refine lv_tableIn (off := 81) (tgt := 89) hx hb dX6_count_8 (by decide) (by decide) rfl (by decide) ?_
    refine lv_aload_n hx hb dX6_count_89 rfl (lv_at hl 1 rfl) ?_
    refine va_get (D := D) (ci := 6) (v := .ref hs) (C := RX6) (T := TX6) (N := 24) hx hb hts hi6 hown hK.1 hP 0 rfl rfl 5 (by decide) wf19 (fun _ h9 => h9) rfl dX6_count_90 ?_
    refine lv_iconst (v := 0) hx hb dX6_count_93 (by decide) ?_
    refine va_iald hx hb hK.1 hP 1 0 rfl rfl (by rw [vp_in_iff]; decide) dX6_count_94 ?_
    refine wt_top (z := nI R) (hrk.1) ?_
    have hP9 := hP.sub (ws' := [(md, .inr (6, [.int 0, vm_1, .ref ln, vm_3, vm_4, .ref hs, vm_6, vm_7, vm_8, .int (nI ac), vm_10, .int (nI tl), vm_12, vm_13, vm_14, vm_15, vm_16, vm_17, vm_18, vm_19, vm_20, vm_21, vm_22, vm_23])), (hs, .inl (cI, 45, .inl f)), (ln, .inl (cI, 8, .inl lf))]) [0, 1, 2] rfl
    have hD9 := hD.sub (ws' := [(md, .inr (6, [.int 0, vm_1, .ref ln, vm_3, vm_4, .ref hs, vm_6, vm_7, vm_8, .int (nI ac), vm_10, .int (nI tl), vm_12, vm_13, vm_14, vm_15, vm_16, vm_17, vm_18, vm_19, vm_20, vm_21, vm_22, vm_23])), (hs, .inl (cI, 45, .inl f)), (ln, .inl (cI, 8, .inl lf))]) [0, 1, 2] (by decide) rfl
    exact wt_iret hx hb hr hlocks hP9 hD9 hS rfl dX6_count_95
  rcases wt_dec (a1) 2 with c_10 | c_10
  · subst c_10
    refine lv_tableIn (off := 88) (tgt := 96) hx hb dX6_count_8 (by decide) (by decide) rfl (by decide) ?_
    refine lv_aload_n hx hb dX6_count_96 rfl (lv_at hl 1 rfl) ?_
    refine va_get (D := D) (ci := 6) (v := .ref hs) (C := RX6) (T := TX6) (N := 24) hx hb hts hi6 hown hK.1 hP 0 rfl rfl 5 (by decide) wf19 (fun _ h9 => h9) rfl dX6_count_97 ?_
    refine lv_iconst (v := 1) hx hb dX6_count_100 (by decide) ?_
    refine va_iald hx hb hK.1 hP 1 0 rfl rfl (by rw [vp_in_iff]; decide) dX6_count_101 ?_
    refine wt_top (z := nI T) (hrk.2.1) ?_
    have hP9 := hP.sub (ws' := [(md, .inr (6, [.int 0, vm_1, .ref ln, vm_3, vm_4, .ref hs, vm_6, vm_7, vm_8, .int (nI ac), vm_10, .int (nI tl), vm_12, vm_13, vm_14, vm_15, vm_16, vm_17, vm_18, vm_19, vm_20, vm_21, vm_22, vm_23])), (hs, .inl (cI, 45, .inl f)), (ln, .inl (cI, 8, .inl lf))]) [0, 1, 2] rfl
    have hD9 := hD.sub (ws' := [(md, .inr (6, [.int 0, vm_1, .ref ln, vm_3, vm_4, .ref hs, vm_6, vm_7, vm_8, .int (nI ac), vm_10, .int (nI tl), vm_12, vm_13, vm_14, vm_15, vm_16, vm_17, vm_18, vm_19, vm_20, vm_21, vm_22, vm_23])), (hs, .inl (cI, 45, .inl f)), (ln, .inl (cI, 8, .inl lf))]) [0, 1, 2] (by decide) rfl
    exact wt_iret hx hb hr hlocks hP9 hD9 hS rfl dX6_count_102
  rcases wt_dec (a1) 3 with c_11 | c_11
  · subst c_11
    refine lv_tableIn (off := 95) (tgt := 103) hx hb dX6_count_8 (by decide) (by decide) rfl (by decide) ?_
    refine lv_aload_n hx hb dX6_count_103 rfl (lv_at hl 1 rfl) ?_
    refine va_get (D := D) (ci := 6) (v := .ref hs) (C := RX6) (T := TX6) (N := 24) hx hb hts hi6 hown hK.1 hP 0 rfl rfl 5 (by decide) wf19 (fun _ h9 => h9) rfl dX6_count_104 ?_
    refine lv_iconst (v := 4) hx hb dX6_count_107 (by decide) ?_
    refine va_iald hx hb hK.1 hP 1 0 rfl rfl (by rw [vp_in_iff]; decide) dX6_count_108 ?_
    refine lv_topi (fun ov_12 _ => ?_)
    have hP9 := hP.sub (ws' := [(md, .inr (6, [.int 0, vm_1, .ref ln, vm_3, vm_4, .ref hs, vm_6, vm_7, vm_8, .int (nI ac), vm_10, .int (nI tl), vm_12, vm_13, vm_14, vm_15, vm_16, vm_17, vm_18, vm_19, vm_20, vm_21, vm_22, vm_23])), (hs, .inl (cI, 45, .inl f)), (ln, .inl (cI, 8, .inl lf))]) [0, 1, 2] rfl
    have hD9 := hD.sub (ws' := [(md, .inr (6, [.int 0, vm_1, .ref ln, vm_3, vm_4, .ref hs, vm_6, vm_7, vm_8, .int (nI ac), vm_10, .int (nI tl), vm_12, vm_13, vm_14, vm_15, vm_16, vm_17, vm_18, vm_19, vm_20, vm_21, vm_22, vm_23])), (hs, .inl (cI, 45, .inl f)), (ln, .inl (cI, 8, .inl lf))]) [0, 1, 2] (by decide) rfl
    exact wt_iret hx hb hr hlocks hP9 hD9 hS rfl dX6_count_109
  rcases wt_dec (a1) 4 with c_13 | c_13
  · subst c_13
    refine lv_tableIn (off := 102) (tgt := 110) hx hb dX6_count_8 (by decide) (by decide) rfl (by decide) ?_
    refine lv_aload_n hx hb dX6_count_110 rfl (lv_at hl 1 rfl) ?_
    refine va_get (D := D) (ci := 6) (v := .ref hs) (C := RX6) (T := TX6) (N := 24) hx hb hts hi6 hown hK.1 hP 0 rfl rfl 5 (by decide) wf19 (fun _ h9 => h9) rfl dX6_count_111 ?_
    refine wt_rS (As := [.ref hs]) (rest := []) ⟨hx, hb, hml, hown, hts⟩ (c_X6_colds l D cI cZ cH hs R T f (by first | assumption | omega) (by first | assumption | omega) (by first | assumption | omega)) (va_cwS 1 hts gX6_count_X6_colds rfl rfl rfl (by decide +kernel) ⟨Nat.le_of_ble_eq_true rfl, Nat.le_of_ble_eq_true rfl⟩) hK hP [1] rfl rfl hl.1 rfl (Nat.le_of_ble_eq_true rfl) dX6_count_114 ⟨Nat.le_of_ble_eq_true rfl, Nat.le_of_ble_eq_true rfl⟩ (fun r_14 e_15 => ?_)
    have hP9 := hP.sub (ws' := [(md, .inr (6, [.int 0, vm_1, .ref ln, vm_3, vm_4, .ref hs, vm_6, vm_7, vm_8, .int (nI ac), vm_10, .int (nI tl), vm_12, vm_13, vm_14, vm_15, vm_16, vm_17, vm_18, vm_19, vm_20, vm_21, vm_22, vm_23])), (hs, .inl (cI, 45, .inl f)), (ln, .inl (cI, 8, .inl lf))]) [0, 1, 2] rfl
    have hD9 := hD.sub (ws' := [(md, .inr (6, [.int 0, vm_1, .ref ln, vm_3, vm_4, .ref hs, vm_6, vm_7, vm_8, .int (nI ac), vm_10, .int (nI tl), vm_12, vm_13, vm_14, vm_15, vm_16, vm_17, vm_18, vm_19, vm_20, vm_21, vm_22, vm_23])), (hs, .inl (cI, 45, .inl f)), (ln, .inl (cI, 8, .inl lf))]) [0, 1, 2] (by decide) rfl
    exact wt_iret hx hb hr hlocks hP9 hD9 hS rfl dX6_count_117
  rcases wt_dec (a1) 5 with c_16 | c_16
  · subst c_16
    refine lv_tableIn (off := 110) (tgt := 118) hx hb dX6_count_8 (by decide) (by decide) rfl (by decide) ?_
    refine lv_aload_n hx hb dX6_count_118 rfl (lv_at hl 1 rfl) ?_
    refine va_get (D := D) (ci := 6) (v := .ref hs) (C := RX6) (T := TX6) (N := 24) hx hb hts hi6 hown hK.1 hP 0 rfl rfl 5 (by decide) wf19 (fun _ h9 => h9) rfl dX6_count_119 ?_
    refine wt_rS (As := [.ref hs]) (rest := []) ⟨hx, hb, hml, hown, hts⟩ (c_X6_upOf l D cI cZ cH hs R T f (by first | assumption | omega) (by first | assumption | omega) (by first | assumption | omega)) (va_cwS 1 hts gX6_count_X6_upOf rfl rfl rfl (by decide +kernel) ⟨Nat.le_of_ble_eq_true rfl, Nat.le_of_ble_eq_true rfl⟩) hK hP [1] rfl rfl hl.1 rfl (Nat.le_of_ble_eq_true rfl) dX6_count_122 ⟨Nat.le_of_ble_eq_true rfl, Nat.le_of_ble_eq_true rfl⟩ (fun r_17 e_18 => ?_)
    have hP9 := hP.sub (ws' := [(md, .inr (6, [.int 0, vm_1, .ref ln, vm_3, vm_4, .ref hs, vm_6, vm_7, vm_8, .int (nI ac), vm_10, .int (nI tl), vm_12, vm_13, vm_14, vm_15, vm_16, vm_17, vm_18, vm_19, vm_20, vm_21, vm_22, vm_23])), (hs, .inl (cI, 45, .inl f)), (ln, .inl (cI, 8, .inl lf))]) [0, 1, 2] rfl
    have hD9 := hD.sub (ws' := [(md, .inr (6, [.int 0, vm_1, .ref ln, vm_3, vm_4, .ref hs, vm_6, vm_7, vm_8, .int (nI ac), vm_10, .int (nI tl), vm_12, vm_13, vm_14, vm_15, vm_16, vm_17, vm_18, vm_19, vm_20, vm_21, vm_22, vm_23])), (hs, .inl (cI, 45, .inl f)), (ln, .inl (cI, 8, .inl lf))]) [0, 1, 2] (by decide) rfl
    exact wt_iret hx hb hr hlocks hP9 hD9 hS rfl dX6_count_125
  rcases wt_dec (a1) 6 with c_19 | c_19
  · subst c_19
    refine lv_tableIn (off := 118) (tgt := 126) hx hb dX6_count_8 (by decide) (by decide) rfl (by decide) ?_
    refine lv_aload_n hx hb dX6_count_126 rfl (lv_at hl 1 rfl) ?_
    refine va_get (D := D) (ci := 6) (v := .int (nI ac)) (C := RX6) (T := TX6) (N := 24) hx hb hts hi6 hown hK.1 hP 0 rfl rfl 9 (by decide) wf149 (fun _ h9 => h9) rfl dX6_count_127 ?_
    have hP9 := hP.sub (ws' := [(md, .inr (6, [.int 0, vm_1, .ref ln, vm_3, vm_4, .ref hs, vm_6, vm_7, vm_8, .int (nI ac), vm_10, .int (nI tl), vm_12, vm_13, vm_14, vm_15, vm_16, vm_17, vm_18, vm_19, vm_20, vm_21, vm_22, vm_23])), (hs, .inl (cI, 45, .inl f)), (ln, .inl (cI, 8, .inl lf))]) [0, 1, 2] rfl
    have hD9 := hD.sub (ws' := [(md, .inr (6, [.int 0, vm_1, .ref ln, vm_3, vm_4, .ref hs, vm_6, vm_7, vm_8, .int (nI ac), vm_10, .int (nI tl), vm_12, vm_13, vm_14, vm_15, vm_16, vm_17, vm_18, vm_19, vm_20, vm_21, vm_22, vm_23])), (hs, .inl (cI, 45, .inl f)), (ln, .inl (cI, 8, .inl lf))]) [0, 1, 2] (by decide) rfl
    exact wt_iret hx hb hr hlocks hP9 hD9 hS rfl dX6_count_130
  rcases wt_dec (a1) 7 with c_20 | c_20
  · subst c_20
    refine lv_tableIn (off := 123) (tgt := 131) hx hb dX6_count_8 (by decide) (by decide) rfl (by decide) ?_
    refine lv_aload_n hx hb dX6_count_131 rfl (lv_at hl 1 rfl) ?_
    refine va_get (D := D) (ci := 6) (v := .int (nI tl)) (C := RX6) (T := TX6) (N := 24) hx hb hts hi6 hown hK.1 hP 0 rfl rfl 11 (by decide) wf74 (fun _ h9 => h9) rfl dX6_count_132 ?_
    have hP9 := hP.sub (ws' := [(md, .inr (6, [.int 0, vm_1, .ref ln, vm_3, vm_4, .ref hs, vm_6, vm_7, vm_8, .int (nI ac), vm_10, .int (nI tl), vm_12, vm_13, vm_14, vm_15, vm_16, vm_17, vm_18, vm_19, vm_20, vm_21, vm_22, vm_23])), (hs, .inl (cI, 45, .inl f)), (ln, .inl (cI, 8, .inl lf))]) [0, 1, 2] rfl
    have hD9 := hD.sub (ws' := [(md, .inr (6, [.int 0, vm_1, .ref ln, vm_3, vm_4, .ref hs, vm_6, vm_7, vm_8, .int (nI ac), vm_10, .int (nI tl), vm_12, vm_13, vm_14, vm_15, vm_16, vm_17, vm_18, vm_19, vm_20, vm_21, vm_22, vm_23])), (hs, .inl (cI, 45, .inl f)), (ln, .inl (cI, 8, .inl lf))]) [0, 1, 2] (by decide) rfl
    exact wt_iret hx hb hr hlocks hP9 hD9 hS rfl dX6_count_135
  refine lv_tableOut (tgt := 136) hx hb dX6_count_8 (by have := lv_neT (a := 0) c_2 rfl; have := lv_neT (a := 1) c_9 rfl; have := lv_neT (a := 2) c_10 rfl; have := lv_neT (a := 3) c_11 rfl; have := lv_neT (a := 4) c_13 rfl; have := lv_neT (a := 5) c_16 rfl; have := lv_neT (a := 6) c_19 rfl; have := lv_neT (a := 7) c_20 rfl; omega) (by decide) ?_
  refine lv_ldc hx hb hown wc67 dX6_count_136 ?_
  have hP9 := hP.sub (ws' := [(md, .inr (6, [.int 0, vm_1, .ref ln, vm_3, vm_4, .ref hs, vm_6, vm_7, vm_8, .int (nI ac), vm_10, .int (nI tl), vm_12, vm_13, vm_14, vm_15, vm_16, vm_17, vm_18, vm_19, vm_20, vm_21, vm_22, vm_23])), (hs, .inl (cI, 45, .inl f)), (ln, .inl (cI, 8, .inl lf))]) [0, 1, 2] rfl
  have hD9 := hD.sub (ws' := [(md, .inr (6, [.int 0, vm_1, .ref ln, vm_3, vm_4, .ref hs, vm_6, vm_7, vm_8, .int (nI ac), vm_10, .int (nI tl), vm_12, vm_13, vm_14, vm_15, vm_16, vm_17, vm_18, vm_19, vm_20, vm_21, vm_22, vm_23])), (hs, .inl (cI, 45, .inl f)), (ln, .inl (cI, 8, .inl lf))]) [0, 1, 2] (by decide) rfl
  exact wt_iret hx hb hr hlocks hP9 hD9 hS rfl dX6_count_138
set_option maxHeartbeats 4000000 in
set_option maxRecDepth 100000 in
theorem c_X6_status (l : Launch) (D : va_G) (cI cZ cH : ClassId) (md : Nat) (sv : Int32) (vm_0 vm_2 vm_3 vm_4 vm_5 vm_6 vm_7 vm_8 vm_9 vm_10 vm_11 vm_12 vm_13 vm_14 vm_15 vm_16 vm_17 vm_18 vm_19 vm_20 vm_21 vm_22 vm_23 : Value) : wt_M l yX6_status wsX6_status ({ frames := 0, cells := 0, slots := 0, locals := 0 } : Room) D (wt_T cI cZ cH) [.ref md] [(md, .inr (6, [vm_0, .int sv, vm_2, vm_3, vm_4, vm_5, vm_6, vm_7, vm_8, vm_9, vm_10, vm_11, vm_12, vm_13, vm_14, vm_15, vm_16, vm_17, vm_18, vm_19, vm_20, vm_21, vm_22, vm_23]))] (wt_QI D (fun r w => w = [(md, .inr (6, [.int 0, .int sv, vm_2, vm_3, vm_4, vm_5, vm_6, vm_7, vm_8, vm_9, vm_10, vm_11, vm_12, vm_13, vm_14, vm_15, vm_16, vm_17, vm_18, vm_19, vm_20, vm_21, vm_22, vm_23]))] ∧ r = sv)) := by
  refine wt_M.ofW (cc := cX6_status) (maxL := 1) (ret := (some .int)) (by decide) rfl (Nat.le_of_ble_eq_true rfl) ?_
  intro p e s m below meth c A ls hx hb hr hts hown hlocks hml hnm hP hK hD hA hS hl
  have hP : va_P D vwCl [(md, .inr (6, [vm_0, .int sv, vm_2, vm_3, vm_4, vm_5, vm_6, vm_7, vm_8, vm_9, vm_10, vm_11, vm_12, vm_13, vm_14, vm_15, vm_16, vm_17, vm_18, vm_19, vm_20, vm_21, vm_22, vm_23]))] s.heap := hP
  have hown : s.vm.findClass RX6 = some m.cls := hown
  have hl : lv_has ls 1 [(0, .ref md)] := hl
  have hi6 : ∀ w ∈ u_ws RX6 TX6 24, w ∈ wsX6_status := by decide +kernel
  have wf47 := hts (.fieldLink RX6 47 "WarmTubesModel" "thrown" "I") (by decide +kernel)
  have wf51 := hts (.fieldLink RX6 51 "WarmTubesModel" "status" "I") (by decide +kernel)
  refine lv_aload_n hx hb dX6_status_0 rfl (lv_at hl 0 rfl) ?_
  refine lv_iconst (v := 0) hx hb dX6_status_1 (by decide) ?_
  refine va_put (D := D) (ci := 6) (v := .int 0) (ty := .int) (C := RX6) (T := TX6) (N := 24) hx hb hts hi6 tyX6 tyX6_ok nmX6 hown hK.1 hP hD hS 0 rfl rfl 0 (by decide) wf47 (fun _ h9 => h9) rfl (by decide +kernel) rfl rfl (Nat.le_of_ble_eq_true rfl) dX6_status_2 (fun H locs hP hD hS => ?_)
  have hP : va_P D vwCl [(md, .inr (6, [.int 0, .int sv, vm_2, vm_3, vm_4, vm_5, vm_6, vm_7, vm_8, vm_9, vm_10, vm_11, vm_12, vm_13, vm_14, vm_15, vm_16, vm_17, vm_18, vm_19, vm_20, vm_21, vm_22, vm_23]))] H := hP
  have hD : va_D A [(md, .inr (6, [.int 0, .int sv, vm_2, vm_3, vm_4, vm_5, vm_6, vm_7, vm_8, vm_9, vm_10, vm_11, vm_12, vm_13, vm_14, vm_15, vm_16, vm_17, vm_18, vm_19, vm_20, vm_21, vm_22, vm_23]))] := hD
  refine lv_aload_n hx hb dX6_status_5 rfl (lv_at hl 0 rfl) ?_
  refine va_get (D := D) (ci := 6) (v := .int sv) (C := RX6) (T := TX6) (N := 24) hx hb hts hi6 hown hK.1 hP 0 rfl rfl 1 (by decide) wf51 (fun _ h9 => h9) rfl dX6_status_6 ?_
  have hP9 := hP.sub (ws' := [(md, .inr (6, [.int 0, .int sv, vm_2, vm_3, vm_4, vm_5, vm_6, vm_7, vm_8, vm_9, vm_10, vm_11, vm_12, vm_13, vm_14, vm_15, vm_16, vm_17, vm_18, vm_19, vm_20, vm_21, vm_22, vm_23]))]) [0] rfl
  have hD9 := hD.sub (ws' := [(md, .inr (6, [.int 0, .int sv, vm_2, vm_3, vm_4, vm_5, vm_6, vm_7, vm_8, vm_9, vm_10, vm_11, vm_12, vm_13, vm_14, vm_15, vm_16, vm_17, vm_18, vm_19, vm_20, vm_21, vm_22, vm_23]))]) [0] (by decide) rfl
  exact wt_iret hx hb hr hlocks hP9 hD9 hS ⟨rfl, (by rfl)⟩ dX6_status_9
set_option maxHeartbeats 4000000 in
set_option maxRecDepth 100000 in
theorem c_X6_fault (l : Launch) (D : va_G) (cI cZ cH : ClassId) (md : Nat) (sv : Int32) (vm_0 vm_1 vm_2 vm_3 vm_4 vm_5 vm_6 vm_7 vm_8 vm_9 vm_10 vm_11 vm_12 vm_13 vm_14 vm_15 vm_16 vm_17 vm_19 vm_20 vm_21 vm_22 vm_23 : Value) : wt_M l yX6_fault wsX6_fault ({ frames := 0, cells := 0, slots := 0, locals := 0 } : Room) D (wt_T cI cZ cH) [.ref md] [(md, .inr (6, [vm_0, vm_1, vm_2, vm_3, vm_4, vm_5, vm_6, vm_7, vm_8, vm_9, vm_10, vm_11, vm_12, vm_13, vm_14, vm_15, vm_16, vm_17, .int sv, vm_19, vm_20, vm_21, vm_22, vm_23]))] (wt_QI D (fun r w => w = [(md, .inr (6, [.int 0, vm_1, vm_2, vm_3, vm_4, vm_5, vm_6, vm_7, vm_8, vm_9, vm_10, vm_11, vm_12, vm_13, vm_14, vm_15, vm_16, vm_17, .int sv, vm_19, vm_20, vm_21, vm_22, vm_23]))] ∧ r = sv)) := by
  refine wt_M.ofW (cc := cX6_fault) (maxL := 1) (ret := (some .int)) (by decide) rfl (Nat.le_of_ble_eq_true rfl) ?_
  intro p e s m below meth c A ls hx hb hr hts hown hlocks hml hnm hP hK hD hA hS hl
  have hP : va_P D vwCl [(md, .inr (6, [vm_0, vm_1, vm_2, vm_3, vm_4, vm_5, vm_6, vm_7, vm_8, vm_9, vm_10, vm_11, vm_12, vm_13, vm_14, vm_15, vm_16, vm_17, .int sv, vm_19, vm_20, vm_21, vm_22, vm_23]))] s.heap := hP
  have hown : s.vm.findClass RX6 = some m.cls := hown
  have hl : lv_has ls 1 [(0, .ref md)] := hl
  have hi6 : ∀ w ∈ u_ws RX6 TX6 24, w ∈ wsX6_fault := by decide +kernel
  have wf116 := hts (.fieldLink RX6 116 "WarmTubesModel" "latest" "I") (by decide +kernel)
  have wf47 := hts (.fieldLink RX6 47 "WarmTubesModel" "thrown" "I") (by decide +kernel)
  refine lv_aload_n hx hb dX6_fault_0 rfl (lv_at hl 0 rfl) ?_
  refine lv_iconst (v := 0) hx hb dX6_fault_1 (by decide) ?_
  refine va_put (D := D) (ci := 6) (v := .int 0) (ty := .int) (C := RX6) (T := TX6) (N := 24) hx hb hts hi6 tyX6 tyX6_ok nmX6 hown hK.1 hP hD hS 0 rfl rfl 0 (by decide) wf47 (fun _ h9 => h9) rfl (by decide +kernel) rfl rfl (Nat.le_of_ble_eq_true rfl) dX6_fault_2 (fun H locs hP hD hS => ?_)
  have hP : va_P D vwCl [(md, .inr (6, [.int 0, vm_1, vm_2, vm_3, vm_4, vm_5, vm_6, vm_7, vm_8, vm_9, vm_10, vm_11, vm_12, vm_13, vm_14, vm_15, vm_16, vm_17, .int sv, vm_19, vm_20, vm_21, vm_22, vm_23]))] H := hP
  have hD : va_D A [(md, .inr (6, [.int 0, vm_1, vm_2, vm_3, vm_4, vm_5, vm_6, vm_7, vm_8, vm_9, vm_10, vm_11, vm_12, vm_13, vm_14, vm_15, vm_16, vm_17, .int sv, vm_19, vm_20, vm_21, vm_22, vm_23]))] := hD
  refine lv_aload_n hx hb dX6_fault_5 rfl (lv_at hl 0 rfl) ?_
  refine va_get (D := D) (ci := 6) (v := .int sv) (C := RX6) (T := TX6) (N := 24) hx hb hts hi6 hown hK.1 hP 0 rfl rfl 18 (by decide) wf116 (fun _ h9 => h9) rfl dX6_fault_6 ?_
  have hP9 := hP.sub (ws' := [(md, .inr (6, [.int 0, vm_1, vm_2, vm_3, vm_4, vm_5, vm_6, vm_7, vm_8, vm_9, vm_10, vm_11, vm_12, vm_13, vm_14, vm_15, vm_16, vm_17, .int sv, vm_19, vm_20, vm_21, vm_22, vm_23]))]) [0] rfl
  have hD9 := hD.sub (ws' := [(md, .inr (6, [.int 0, vm_1, vm_2, vm_3, vm_4, vm_5, vm_6, vm_7, vm_8, vm_9, vm_10, vm_11, vm_12, vm_13, vm_14, vm_15, vm_16, vm_17, .int sv, vm_19, vm_20, vm_21, vm_22, vm_23]))]) [0] (by decide) rfl
  exact wt_iret hx hb hr hlocks hP9 hD9 hS ⟨rfl, (by rfl)⟩ dX6_fault_9

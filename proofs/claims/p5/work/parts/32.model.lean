set_option maxHeartbeats 4000000 in
set_option maxRecDepth 100000 in
theorem c_X6_ahead (l : Launch) (D : va_G) (cI cZ cH : ClassId) (md hs : Nat) (R T : Nat) (f : Nat → Int32) (tn : Nat) (g : Nat → Int32) (a1 a2 : Int32) (vm_0 vm_1 vm_2 vm_3 vm_4 vm_6 vm_8 vm_9 vm_10 vm_11 vm_12 vm_13 vm_14 vm_15 vm_16 vm_17 vm_18 vm_19 vm_20 vm_21 vm_22 vm_23 : Value) (hR5 : R ≤ 5) (hT6 : T ≤ 6) (hrk : rk R T f) : wt_M l yX6_ahead wsX6_ahead ({ frames := 5, cells := 0, slots := 0, locals := 113 } : Room) D (wt_T cI cZ cH) [.ref md, .int a1, .int a2] [(md, .inr (6, [vm_0, vm_1, vm_2, vm_3, vm_4, .ref hs, vm_6, .ref tn, vm_8, vm_9, vm_10, vm_11, vm_12, vm_13, vm_14, vm_15, vm_16, vm_17, vm_18, vm_19, vm_20, vm_21, vm_22, vm_23])), (hs, .inl (cI, 45, .inl f)), (tn, .inl (cI, 45, .inl g))] (wt_QI D (fun r w => ∃ (g2 : Nat → Int32), w = [(md, .inr (6, [.int 0, vm_1, vm_2, vm_3, vm_4, .ref hs, vm_6, .ref tn, vm_8, vm_9, vm_10, vm_11, vm_12, vm_13, vm_14, vm_15, vm_16, vm_17, vm_18, vm_19, vm_20, vm_21, vm_22, vm_23])), (hs, .inl (cI, 45, .inl f)), (tn, .inl (cI, 45, .inl g2))])) := by
  refine wt_M.ofW (cc := cX6_ahead) (maxL := 3) (ret := (some .int)) (by decide) rfl (Nat.le_of_ble_eq_true rfl) ?_
  intro p e s m below meth c A ls hx hb hr hts hown hlocks hml hnm hP hK hD hA hS hl
  have hP : va_P D vwCl [(md, .inr (6, [vm_0, vm_1, vm_2, vm_3, vm_4, .ref hs, vm_6, .ref tn, vm_8, vm_9, vm_10, vm_11, vm_12, vm_13, vm_14, vm_15, vm_16, vm_17, vm_18, vm_19, vm_20, vm_21, vm_22, vm_23])), (hs, .inl (cI, 45, .inl f)), (tn, .inl (cI, 45, .inl g))] s.heap := hP
  have hown : s.vm.findClass RX6 = some m.cls := hown
  have hl : lv_has ls 3 [(0, .ref md), (1, .int a1), (2, .int a2)] := hl
  have hi6 : ∀ w ∈ u_ws RX6 TX6 24, w ∈ wsX6_ahead := by decide +kernel
  have wc67 := hts (.constant RX6 67 (-1000001)) (by decide +kernel)
  have wf25 := hts (.fieldLink RX6 25 "WarmTubesModel" "then" "[I") (by decide +kernel)
  have wf47 := hts (.fieldLink RX6 47 "WarmTubesModel" "thrown" "I") (by decide +kernel)
  have wl225 := hts (.constantLong RX6 225 (60)) (by decide +kernel)
  refine lv_aload_n hx hb dX6_ahead_0 rfl (lv_at hl 0 rfl) ?_
  refine lv_iconst (v := 0) hx hb dX6_ahead_1 (by decide) ?_
  refine va_put (D := D) (ci := 6) (v := .int 0) (ty := .int) (C := RX6) (T := TX6) (N := 24) hx hb hts hi6 tyX6 tyX6_ok nmX6 hown hK.1 hP hD hS 0 rfl rfl 0 (by decide) wf47 (fun _ h9 => h9) rfl (by decide +kernel) rfl rfl (Nat.le_of_ble_eq_true rfl) dX6_ahead_2 (fun H locs hP hD hS => ?_)
  have hP : va_P D vwCl [(md, .inr (6, [.int 0, vm_1, vm_2, vm_3, vm_4, .ref hs, vm_6, .ref tn, vm_8, vm_9, vm_10, vm_11, vm_12, vm_13, vm_14, vm_15, vm_16, vm_17, vm_18, vm_19, vm_20, vm_21, vm_22, vm_23])), (hs, .inl (cI, 45, .inl f)), (tn, .inl (cI, 45, .inl g))] H := hP
  have hD : va_D A [(md, .inr (6, [.int 0, vm_1, vm_2, vm_3, vm_4, .ref hs, vm_6, .ref tn, vm_8, vm_9, vm_10, vm_11, vm_12, vm_13, vm_14, vm_15, vm_16, vm_17, vm_18, vm_19, vm_20, vm_21, vm_22, vm_23])), (hs, .inl (cI, 45, .inl f)), (tn, .inl (cI, 45, .inl g))] := hD
  refine lv_aload_n hx hb dX6_ahead_5 rfl (lv_at hl 0 rfl) ?_
  refine lv_iload_n hx hb dX6_ahead_6 rfl (lv_at hl 1 rfl) ?_
  refine wt_rV (As := [.int a1]) (rest := []) ⟨hx, hb, hml, hown, hts⟩ (c_X6_isRoom l D cI cZ cH md hs R T f a1 (.int 0) vm_1 vm_2 vm_3 vm_4 vm_6 (.ref tn) vm_8 vm_9 vm_10 vm_11 vm_12 vm_13 vm_14 vm_15 vm_16 vm_17 vm_18 vm_19 vm_20 vm_21 vm_22 vm_23 (by first | assumption | omega) (by first | assumption | omega) (by first | assumption | omega)) (cwV 1 hts gX6_ahead_X6_isRoom rfl rfl rfl (by decide +kernel) ⟨Nat.le_of_ble_eq_true rfl, Nat.le_of_ble_eq_true rfl⟩) hK hP [0, 1] rfl (va_recv hK.1 hP (ci := 6) (q0 := 0) rfl rfl) rfl hl.1 rfl (Nat.le_of_ble_eq_true rfl) dX6_ahead_7 ⟨Nat.le_of_ble_eq_true rfl, Nat.le_of_ble_eq_true rfl⟩ (fun r_1 e_2 => ?_)
  subst e_2
  refine lv_if_eq (tgt := 25) hx hb dX6_ahead_10 (by decide) (fun c_3 => ?_) (fun c_3 => ?_)
  · skip
    refine lv_ldc hx hb hown wc67 dX6_ahead_25 ?_
    have hP9 := hP.sub (ws' := [(md, .inr (6, [.int 0, vm_1, vm_2, vm_3, vm_4, .ref hs, vm_6, .ref tn, vm_8, vm_9, vm_10, vm_11, vm_12, vm_13, vm_14, vm_15, vm_16, vm_17, vm_18, vm_19, vm_20, vm_21, vm_22, vm_23])), (hs, .inl (cI, 45, .inl f)), (tn, .inl (cI, 45, .inl g))]) [0, 1, 2] rfl
    have hD9 := hD.sub (ws' := [(md, .inr (6, [.int 0, vm_1, vm_2, vm_3, vm_4, .ref hs, vm_6, .ref tn, vm_8, vm_9, vm_10, vm_11, vm_12, vm_13, vm_14, vm_15, vm_16, vm_17, vm_18, vm_19, vm_20, vm_21, vm_22, vm_23])), (hs, .inl (cI, 45, .inl f)), (tn, .inl (cI, 45, .inl g))]) [0, 1, 2] (by decide) rfl
    exact wt_iret hx hb hr hlocks hP9 hD9 hS ⟨g, rfl⟩ dX6_ahead_27
  · skip
    obtain ⟨j_4, hj_4, rfl⟩ := wI_natT (T := R) (by omega) c_3
    refine lv_iload_n hx hb dX6_ahead_13 rfl (lv_at hl 2 rfl) ?_
    refine lv_i2l hx hb dX6_ahead_14 rfl ?_
    refine lv_lconst (v := 0) hx hb dX6_ahead_15 (by decide) ?_
    refine lv_ldc2 hx hb hown wl225 dX6_ahead_16 ?_
    refine wt_rS (As := [.long a2.toInt64, .long 0, .long 60]) (rest := []) ⟨hx, hb, hml, hown, hts⟩ (c_X6_in l D cI cZ cH a2.toInt64 0 60) (va_cwS 3 hts gX6_ahead_X6_in rfl rfl rfl (by decide +kernel) ⟨Nat.le_of_ble_eq_true rfl, Nat.le_of_ble_eq_true rfl⟩) hK hP [] rfl rfl hl.1 rfl (Nat.le_of_ble_eq_true rfl) dX6_ahead_19 ⟨Nat.le_of_ble_eq_true rfl, Nat.le_of_ble_eq_true rfl⟩ (fun r_5 e_6 => ?_)
    subst e_6
    refine wt_top (z := wI a2 0 60) (wL_I' (by decide) (by decide)) ?_
    refine lv_if_ne (tgt := 28) hx hb dX6_ahead_22 (by decide) (fun c_7 => ?_) (fun c_7 => ?_)
    · skip
      obtain ⟨j_8, hj_8, hj_8b, rfl⟩ := wI_nat (a := 0) (b := 60) (by omega) (by omega) c_7
      refine lv_aload_n hx hb dX6_ahead_28 rfl (lv_at hl 0 rfl) ?_
      refine wt_goV (wr := []) (wt_runV (As := []) (rest := []) ⟨hx, hb, hml, hown, hts⟩ (c_X6_layThen l D cI cZ cH md hs R T f tn g (.int 0) vm_1 vm_2 vm_3 vm_4 vm_6 vm_8 vm_9 vm_10 vm_11 vm_12 vm_13 vm_14 vm_15 vm_16 vm_17 vm_18 vm_19 vm_20 vm_21 vm_22 vm_23 (by first | assumption | omega) (by first | assumption | omega) (by first | assumption | omega)) (cwV 0 hts gX6_ahead_X6_layThen rfl rfl rfl (by decide +kernel) ⟨Nat.le_of_ble_eq_true rfl, Nat.le_of_ble_eq_true rfl⟩) hK hP hD [0, 1, 2] rfl (by decide) (va_recv hK.1 hP (ci := 6) (q0 := 0) rfl rfl) rfl hl.1 rfl (Nat.le_of_ble_eq_true rfl) dX6_ahead_29 ⟨Nat.le_of_ble_eq_true rfl, Nat.le_of_ble_eq_true rfl⟩) hP hD hS hA [0, 1, 2] [] rfl rfl (by decide) (by decide) (fun w_10 H locs h_11 hP hD hS => ?_)
      obtain ⟨g2_12, rfl, x_13⟩ := h_11
      have hP : va_P D vwCl [(md, .inr (6, [.int 0, vm_1, vm_2, vm_3, vm_4, .ref hs, vm_6, .ref tn, vm_8, vm_9, vm_10, vm_11, vm_12, vm_13, vm_14, vm_15, vm_16, vm_17, vm_18, vm_19, vm_20, vm_21, vm_22, vm_23])), (hs, .inl (cI, 45, .inl f)), (tn, .inl (cI, 45, .inl g2_12))] H := hP
      have hD : va_D A [(md, .inr (6, [.int 0, vm_1, vm_2, vm_3, vm_4, .ref hs, vm_6, .ref tn, vm_8, vm_9, vm_10, vm_11, vm_12, vm_13, vm_14, vm_15, vm_16, vm_17, vm_18, vm_19, vm_20, vm_21, vm_22, vm_23])), (hs, .inl (cI, 45, .inl f)), (tn, .inl (cI, 45, .inl g2_12))] := hD
      refine lv_aload_n hx hb dX6_ahead_32 rfl (lv_at hl 0 rfl) ?_
      refine va_get (D := D) (ci := 6) (v := .ref tn) (C := RX6) (T := TX6) (N := 24) hx hb hts hi6 hown hK.1 hP 0 rfl rfl 7 (by decide) wf25 (fun _ h9 => h9) rfl dX6_ahead_33 ?_
      refine lv_iload_n hx hb dX6_ahead_36 rfl (lv_at hl 2 rfl) ?_
      refine wt_goV (wr := [(md, .inr (6, [.int 0, vm_1, vm_2, vm_3, vm_4, .ref hs, vm_6, .ref tn, vm_8, vm_9, vm_10, vm_11, vm_12, vm_13, vm_14, vm_15, vm_16, vm_17, vm_18, vm_19, vm_20, vm_21, vm_22, vm_23])), (hs, .inl (cI, 45, .inl f))]) (wt_runS (As := [.ref tn, .int (nI j_8)]) (rest := []) ⟨hx, hb, hml, hown, hts⟩ (c_X6_minutesOf l D cI cZ cH tn R T g2_12 j_8 (by first | assumption | omega) (by first | assumption | omega) (by first | assumption | omega) (by first | assumption | omega)) (va_cwS 2 hts gX6_ahead_X6_minutesOf rfl rfl rfl (by decide +kernel) ⟨Nat.le_of_ble_eq_true rfl, Nat.le_of_ble_eq_true rfl⟩) hK hP hD [2] rfl (by decide) rfl hl.1 rfl (Nat.le_of_ble_eq_true rfl) dX6_ahead_37 ⟨Nat.le_of_ble_eq_true rfl, Nat.le_of_ble_eq_true rfl⟩) hP hD hS hA [2] [0, 1] rfl rfl (by decide) (by decide) (fun w_15 H locs h_16 hP hD hS => ?_)
      obtain ⟨f2_17, rfl, x_18⟩ := h_16
      have hP : va_P D vwCl [(md, .inr (6, [.int 0, vm_1, vm_2, vm_3, vm_4, .ref hs, vm_6, .ref tn, vm_8, vm_9, vm_10, vm_11, vm_12, vm_13, vm_14, vm_15, vm_16, vm_17, vm_18, vm_19, vm_20, vm_21, vm_22, vm_23])), (hs, .inl (cI, 45, .inl f)), (tn, .inl (cI, 45, .inl f2_17))] H := hP
      have hD : va_D A [(md, .inr (6, [.int 0, vm_1, vm_2, vm_3, vm_4, .ref hs, vm_6, .ref tn, vm_8, vm_9, vm_10, vm_11, vm_12, vm_13, vm_14, vm_15, vm_16, vm_17, vm_18, vm_19, vm_20, vm_21, vm_22, vm_23])), (hs, .inl (cI, 45, .inl f)), (tn, .inl (cI, 45, .inl f2_17))] := hD
      refine lv_aload_n hx hb dX6_ahead_40 rfl (lv_at hl 0 rfl) ?_
      refine va_get (D := D) (ci := 6) (v := .ref tn) (C := RX6) (T := TX6) (N := 24) hx hb hts hi6 hown hK.1 hP 0 rfl rfl 7 (by decide) wf25 (fun _ h9 => h9) rfl dX6_ahead_41 ?_
      refine lv_iload_n hx hb dX6_ahead_44 rfl (lv_at hl 1 rfl) ?_
      refine wt_rS (As := [.ref tn, .int (nI j_4)]) (rest := []) ⟨hx, hb, hml, hown, hts⟩ (c_X6_warmth l D cI cZ cH tn R T f2_17 j_4 (by first | assumption | omega) (by first | assumption | omega) (by first | assumption | omega) (by first | assumption | omega)) (va_cwS 2 hts gX6_ahead_X6_warmth rfl rfl rfl (by decide +kernel) ⟨Nat.le_of_ble_eq_true rfl, Nat.le_of_ble_eq_true rfl⟩) hK hP [2] rfl rfl hl.1 rfl (Nat.le_of_ble_eq_true rfl) dX6_ahead_45 ⟨Nat.le_of_ble_eq_true rfl, Nat.le_of_ble_eq_true rfl⟩ (fun r_19 e_20 => ?_)
      have hP9 := hP.sub (ws' := [(md, .inr (6, [.int 0, vm_1, vm_2, vm_3, vm_4, .ref hs, vm_6, .ref tn, vm_8, vm_9, vm_10, vm_11, vm_12, vm_13, vm_14, vm_15, vm_16, vm_17, vm_18, vm_19, vm_20, vm_21, vm_22, vm_23])), (hs, .inl (cI, 45, .inl f)), (tn, .inl (cI, 45, .inl f2_17))]) [0, 1, 2] rfl
      have hD9 := hD.sub (ws' := [(md, .inr (6, [.int 0, vm_1, vm_2, vm_3, vm_4, .ref hs, vm_6, .ref tn, vm_8, vm_9, vm_10, vm_11, vm_12, vm_13, vm_14, vm_15, vm_16, vm_17, vm_18, vm_19, vm_20, vm_21, vm_22, vm_23])), (hs, .inl (cI, 45, .inl f)), (tn, .inl (cI, 45, .inl f2_17))]) [0, 1, 2] (by decide) rfl
      exact wt_iret hx hb hr hlocks hP9 hD9 hS ⟨f2_17, rfl⟩ dX6_ahead_48
    · skip
      refine lv_ldc hx hb hown wc67 dX6_ahead_25 ?_
      have hP9 := hP.sub (ws' := [(md, .inr (6, [.int 0, vm_1, vm_2, vm_3, vm_4, .ref hs, vm_6, .ref tn, vm_8, vm_9, vm_10, vm_11, vm_12, vm_13, vm_14, vm_15, vm_16, vm_17, vm_18, vm_19, vm_20, vm_21, vm_22, vm_23])), (hs, .inl (cI, 45, .inl f)), (tn, .inl (cI, 45, .inl g))]) [0, 1, 2] rfl
      have hD9 := hD.sub (ws' := [(md, .inr (6, [.int 0, vm_1, vm_2, vm_3, vm_4, .ref hs, vm_6, .ref tn, vm_8, vm_9, vm_10, vm_11, vm_12, vm_13, vm_14, vm_15, vm_16, vm_17, vm_18, vm_19, vm_20, vm_21, vm_22, vm_23])), (hs, .inl (cI, 45, .inl f)), (tn, .inl (cI, 45, .inl g))]) [0, 1, 2] (by decide) rfl
      exact wt_iret hx hb hr hlocks hP9 hD9 hS ⟨g, rfl⟩ dX6_ahead_27
set_option maxHeartbeats 4000000 in
set_option maxRecDepth 100000 in
theorem c_X6_upAhead (l : Launch) (D : va_G) (cI cZ cH : ClassId) (md hs : Nat) (R T : Nat) (f : Nat → Int32) (tn : Nat) (g : Nat → Int32) (a1 a2 : Int32) (vm_0 vm_1 vm_2 vm_3 vm_4 vm_6 vm_8 vm_9 vm_10 vm_11 vm_12 vm_13 vm_14 vm_15 vm_16 vm_17 vm_18 vm_19 vm_20 vm_21 vm_22 vm_23 : Value) (hR5 : R ≤ 5) (hT6 : T ≤ 6) (hrk : rk R T f) : wt_M l yX6_upAhead wsX6_upAhead ({ frames := 5, cells := 0, slots := 0, locals := 113 } : Room) D (wt_T cI cZ cH) [.ref md, .int a1, .int a2] [(md, .inr (6, [vm_0, vm_1, vm_2, vm_3, vm_4, .ref hs, vm_6, .ref tn, vm_8, vm_9, vm_10, vm_11, vm_12, vm_13, vm_14, vm_15, vm_16, vm_17, vm_18, vm_19, vm_20, vm_21, vm_22, vm_23])), (hs, .inl (cI, 45, .inl f)), (tn, .inl (cI, 45, .inl g))] (wt_QI D (fun r w => ∃ (g2 : Nat → Int32), w = [(md, .inr (6, [.int 0, vm_1, vm_2, vm_3, vm_4, .ref hs, vm_6, .ref tn, vm_8, vm_9, vm_10, vm_11, vm_12, vm_13, vm_14, vm_15, vm_16, vm_17, vm_18, vm_19, vm_20, vm_21, vm_22, vm_23])), (hs, .inl (cI, 45, .inl f)), (tn, .inl (cI, 45, .inl g2))])) := by
  refine wt_M.ofW (cc := cX6_upAhead) (maxL := 3) (ret := (some .int)) (by decide) rfl (Nat.le_of_ble_eq_true rfl) ?_
  intro p e s m below meth c A ls hx hb hr hts hown hlocks hml hnm hP hK hD hA hS hl
  have hP : va_P D vwCl [(md, .inr (6, [vm_0, vm_1, vm_2, vm_3, vm_4, .ref hs, vm_6, .ref tn, vm_8, vm_9, vm_10, vm_11, vm_12, vm_13, vm_14, vm_15, vm_16, vm_17, vm_18, vm_19, vm_20, vm_21, vm_22, vm_23])), (hs, .inl (cI, 45, .inl f)), (tn, .inl (cI, 45, .inl g))] s.heap := hP
  have hown : s.vm.findClass RX6 = some m.cls := hown
  have hl : lv_has ls 3 [(0, .ref md), (1, .int a1), (2, .int a2)] := hl
  have hi6 : ∀ w ∈ u_ws RX6 TX6 24, w ∈ wsX6_upAhead := by decide +kernel
  have wc67 := hts (.constant RX6 67 (-1000001)) (by decide +kernel)
  have wf25 := hts (.fieldLink RX6 25 "WarmTubesModel" "then" "[I") (by decide +kernel)
  have wf47 := hts (.fieldLink RX6 47 "WarmTubesModel" "thrown" "I") (by decide +kernel)
  have wl225 := hts (.constantLong RX6 225 (60)) (by decide +kernel)
  refine lv_aload_n hx hb dX6_upAhead_0 rfl (lv_at hl 0 rfl) ?_
  refine lv_iconst (v := 0) hx hb dX6_upAhead_1 (by decide) ?_
  refine va_put (D := D) (ci := 6) (v := .int 0) (ty := .int) (C := RX6) (T := TX6) (N := 24) hx hb hts hi6 tyX6 tyX6_ok nmX6 hown hK.1 hP hD hS 0 rfl rfl 0 (by decide) wf47 (fun _ h9 => h9) rfl (by decide +kernel) rfl rfl (Nat.le_of_ble_eq_true rfl) dX6_upAhead_2 (fun H locs hP hD hS => ?_)
  have hP : va_P D vwCl [(md, .inr (6, [.int 0, vm_1, vm_2, vm_3, vm_4, .ref hs, vm_6, .ref tn, vm_8, vm_9, vm_10, vm_11, vm_12, vm_13, vm_14, vm_15, vm_16, vm_17, vm_18, vm_19, vm_20, vm_21, vm_22, vm_23])), (hs, .inl (cI, 45, .inl f)), (tn, .inl (cI, 45, .inl g))] H := hP
  have hD : va_D A [(md, .inr (6, [.int 0, vm_1, vm_2, vm_3, vm_4, .ref hs, vm_6, .ref tn, vm_8, vm_9, vm_10, vm_11, vm_12, vm_13, vm_14, vm_15, vm_16, vm_17, vm_18, vm_19, vm_20, vm_21, vm_22, vm_23])), (hs, .inl (cI, 45, .inl f)), (tn, .inl (cI, 45, .inl g))] := hD
  refine lv_aload_n hx hb dX6_upAhead_5 rfl (lv_at hl 0 rfl) ?_
  refine lv_iload_n hx hb dX6_upAhead_6 rfl (lv_at hl 1 rfl) ?_
  refine wt_rV (As := [.int a1]) (rest := []) ⟨hx, hb, hml, hown, hts⟩ (c_X6_isTube l D cI cZ cH md hs R T f a1 (.int 0) vm_1 vm_2 vm_3 vm_4 vm_6 (.ref tn) vm_8 vm_9 vm_10 vm_11 vm_12 vm_13 vm_14 vm_15 vm_16 vm_17 vm_18 vm_19 vm_20 vm_21 vm_22 vm_23 (by first | assumption | omega) (by first | assumption | omega) (by first | assumption | omega)) (cwV 1 hts gX6_upAhead_X6_isTube rfl rfl rfl (by decide +kernel) ⟨Nat.le_of_ble_eq_true rfl, Nat.le_of_ble_eq_true rfl⟩) hK hP [0, 1] rfl (va_recv hK.1 hP (ci := 6) (q0 := 0) rfl rfl) rfl hl.1 rfl (Nat.le_of_ble_eq_true rfl) dX6_upAhead_7 ⟨Nat.le_of_ble_eq_true rfl, Nat.le_of_ble_eq_true rfl⟩ (fun r_1 e_2 => ?_)
  subst e_2
  refine lv_if_eq (tgt := 25) hx hb dX6_upAhead_10 (by decide) (fun c_3 => ?_) (fun c_3 => ?_)
  · skip
    refine lv_ldc hx hb hown wc67 dX6_upAhead_25 ?_
    have hP9 := hP.sub (ws' := [(md, .inr (6, [.int 0, vm_1, vm_2, vm_3, vm_4, .ref hs, vm_6, .ref tn, vm_8, vm_9, vm_10, vm_11, vm_12, vm_13, vm_14, vm_15, vm_16, vm_17, vm_18, vm_19, vm_20, vm_21, vm_22, vm_23])), (hs, .inl (cI, 45, .inl f)), (tn, .inl (cI, 45, .inl g))]) [0, 1, 2] rfl
    have hD9 := hD.sub (ws' := [(md, .inr (6, [.int 0, vm_1, vm_2, vm_3, vm_4, .ref hs, vm_6, .ref tn, vm_8, vm_9, vm_10, vm_11, vm_12, vm_13, vm_14, vm_15, vm_16, vm_17, vm_18, vm_19, vm_20, vm_21, vm_22, vm_23])), (hs, .inl (cI, 45, .inl f)), (tn, .inl (cI, 45, .inl g))]) [0, 1, 2] (by decide) rfl
    exact wt_iret hx hb hr hlocks hP9 hD9 hS ⟨g, rfl⟩ dX6_upAhead_27
  · skip
    obtain ⟨j_4, hj_4, rfl⟩ := wI_natT (T := T) (by omega) c_3
    refine lv_iload_n hx hb dX6_upAhead_13 rfl (lv_at hl 2 rfl) ?_
    refine lv_i2l hx hb dX6_upAhead_14 rfl ?_
    refine lv_lconst (v := 0) hx hb dX6_upAhead_15 (by decide) ?_
    refine lv_ldc2 hx hb hown wl225 dX6_upAhead_16 ?_
    refine wt_rS (As := [.long a2.toInt64, .long 0, .long 60]) (rest := []) ⟨hx, hb, hml, hown, hts⟩ (c_X6_in l D cI cZ cH a2.toInt64 0 60) (va_cwS 3 hts gX6_upAhead_X6_in rfl rfl rfl (by decide +kernel) ⟨Nat.le_of_ble_eq_true rfl, Nat.le_of_ble_eq_true rfl⟩) hK hP [] rfl rfl hl.1 rfl (Nat.le_of_ble_eq_true rfl) dX6_upAhead_19 ⟨Nat.le_of_ble_eq_true rfl, Nat.le_of_ble_eq_true rfl⟩ (fun r_5 e_6 => ?_)
    subst e_6
    refine wt_top (z := wI a2 0 60) (wL_I' (by decide) (by decide)) ?_
    refine lv_if_ne (tgt := 28) hx hb dX6_upAhead_22 (by decide) (fun c_7 => ?_) (fun c_7 => ?_)
    · skip
      obtain ⟨j_8, hj_8, hj_8b, rfl⟩ := wI_nat (a := 0) (b := 60) (by omega) (by omega) c_7
      refine lv_aload_n hx hb dX6_upAhead_28 rfl (lv_at hl 0 rfl) ?_
      refine wt_goV (wr := []) (wt_runV (As := []) (rest := []) ⟨hx, hb, hml, hown, hts⟩ (c_X6_layThen l D cI cZ cH md hs R T f tn g (.int 0) vm_1 vm_2 vm_3 vm_4 vm_6 vm_8 vm_9 vm_10 vm_11 vm_12 vm_13 vm_14 vm_15 vm_16 vm_17 vm_18 vm_19 vm_20 vm_21 vm_22 vm_23 (by first | assumption | omega) (by first | assumption | omega) (by first | assumption | omega)) (cwV 0 hts gX6_upAhead_X6_layThen rfl rfl rfl (by decide +kernel) ⟨Nat.le_of_ble_eq_true rfl, Nat.le_of_ble_eq_true rfl⟩) hK hP hD [0, 1, 2] rfl (by decide) (va_recv hK.1 hP (ci := 6) (q0 := 0) rfl rfl) rfl hl.1 rfl (Nat.le_of_ble_eq_true rfl) dX6_upAhead_29 ⟨Nat.le_of_ble_eq_true rfl, Nat.le_of_ble_eq_true rfl⟩) hP hD hS hA [0, 1, 2] [] rfl rfl (by decide) (by decide) (fun w_10 H locs h_11 hP hD hS => ?_)
      obtain ⟨g2_12, rfl, x_13⟩ := h_11
      have hP : va_P D vwCl [(md, .inr (6, [.int 0, vm_1, vm_2, vm_3, vm_4, .ref hs, vm_6, .ref tn, vm_8, vm_9, vm_10, vm_11, vm_12, vm_13, vm_14, vm_15, vm_16, vm_17, vm_18, vm_19, vm_20, vm_21, vm_22, vm_23])), (hs, .inl (cI, 45, .inl f)), (tn, .inl (cI, 45, .inl g2_12))] H := hP
      have hD : va_D A [(md, .inr (6, [.int 0, vm_1, vm_2, vm_3, vm_4, .ref hs, vm_6, .ref tn, vm_8, vm_9, vm_10, vm_11, vm_12, vm_13, vm_14, vm_15, vm_16, vm_17, vm_18, vm_19, vm_20, vm_21, vm_22, vm_23])), (hs, .inl (cI, 45, .inl f)), (tn, .inl (cI, 45, .inl g2_12))] := hD
      refine lv_aload_n hx hb dX6_upAhead_32 rfl (lv_at hl 0 rfl) ?_
      refine va_get (D := D) (ci := 6) (v := .ref tn) (C := RX6) (T := TX6) (N := 24) hx hb hts hi6 hown hK.1 hP 0 rfl rfl 7 (by decide) wf25 (fun _ h9 => h9) rfl dX6_upAhead_33 ?_
      refine lv_iload_n hx hb dX6_upAhead_36 rfl (lv_at hl 2 rfl) ?_
      refine wt_goV (wr := [(md, .inr (6, [.int 0, vm_1, vm_2, vm_3, vm_4, .ref hs, vm_6, .ref tn, vm_8, vm_9, vm_10, vm_11, vm_12, vm_13, vm_14, vm_15, vm_16, vm_17, vm_18, vm_19, vm_20, vm_21, vm_22, vm_23])), (hs, .inl (cI, 45, .inl f))]) (wt_runS (As := [.ref tn, .int (nI j_8)]) (rest := []) ⟨hx, hb, hml, hown, hts⟩ (c_X6_minutesOf l D cI cZ cH tn R T g2_12 j_8 (by first | assumption | omega) (by first | assumption | omega) (by first | assumption | omega) (by first | assumption | omega)) (va_cwS 2 hts gX6_upAhead_X6_minutesOf rfl rfl rfl (by decide +kernel) ⟨Nat.le_of_ble_eq_true rfl, Nat.le_of_ble_eq_true rfl⟩) hK hP hD [2] rfl (by decide) rfl hl.1 rfl (Nat.le_of_ble_eq_true rfl) dX6_upAhead_37 ⟨Nat.le_of_ble_eq_true rfl, Nat.le_of_ble_eq_true rfl⟩) hP hD hS hA [2] [0, 1] rfl rfl (by decide) (by decide) (fun w_15 H locs h_16 hP hD hS => ?_)
      obtain ⟨f2_17, rfl, x_18⟩ := h_16
      have hP : va_P D vwCl [(md, .inr (6, [.int 0, vm_1, vm_2, vm_3, vm_4, .ref hs, vm_6, .ref tn, vm_8, vm_9, vm_10, vm_11, vm_12, vm_13, vm_14, vm_15, vm_16, vm_17, vm_18, vm_19, vm_20, vm_21, vm_22, vm_23])), (hs, .inl (cI, 45, .inl f)), (tn, .inl (cI, 45, .inl f2_17))] H := hP
      have hD : va_D A [(md, .inr (6, [.int 0, vm_1, vm_2, vm_3, vm_4, .ref hs, vm_6, .ref tn, vm_8, vm_9, vm_10, vm_11, vm_12, vm_13, vm_14, vm_15, vm_16, vm_17, vm_18, vm_19, vm_20, vm_21, vm_22, vm_23])), (hs, .inl (cI, 45, .inl f)), (tn, .inl (cI, 45, .inl f2_17))] := hD
      refine lv_aload_n hx hb dX6_upAhead_40 rfl (lv_at hl 0 rfl) ?_
      refine va_get (D := D) (ci := 6) (v := .ref tn) (C := RX6) (T := TX6) (N := 24) hx hb hts hi6 hown hK.1 hP 0 rfl rfl 7 (by decide) wf25 (fun _ h9 => h9) rfl dX6_upAhead_41 ?_
      refine lv_iload_n hx hb dX6_upAhead_44 rfl (lv_at hl 1 rfl) ?_
      refine lv_iconst (v := 4) hx hb dX6_upAhead_45 (by decide) ?_
      refine wt_rS (As := [.ref tn, .int (nI j_4), .int 4]) (rest := []) ⟨hx, hb, hml, hown, hts⟩ (c_X6_of_w l D cI cZ cH tn R T f2_17 j_4 4 (by first | assumption | omega) (by first | assumption | omega) (by first | assumption | omega) (by first | assumption | omega) (by first | assumption | omega)) (va_cwS 3 hts gX6_upAhead_X6_of rfl rfl rfl (by decide +kernel) ⟨Nat.le_of_ble_eq_true rfl, Nat.le_of_ble_eq_true rfl⟩) hK hP [2] rfl rfl hl.1 rfl (Nat.le_of_ble_eq_true rfl) dX6_upAhead_46 ⟨Nat.le_of_ble_eq_true rfl, Nat.le_of_ble_eq_true rfl⟩ (fun r_19 e_20 => ?_)
      have hP9 := hP.sub (ws' := [(md, .inr (6, [.int 0, vm_1, vm_2, vm_3, vm_4, .ref hs, vm_6, .ref tn, vm_8, vm_9, vm_10, vm_11, vm_12, vm_13, vm_14, vm_15, vm_16, vm_17, vm_18, vm_19, vm_20, vm_21, vm_22, vm_23])), (hs, .inl (cI, 45, .inl f)), (tn, .inl (cI, 45, .inl f2_17))]) [0, 1, 2] rfl
      have hD9 := hD.sub (ws' := [(md, .inr (6, [.int 0, vm_1, vm_2, vm_3, vm_4, .ref hs, vm_6, .ref tn, vm_8, vm_9, vm_10, vm_11, vm_12, vm_13, vm_14, vm_15, vm_16, vm_17, vm_18, vm_19, vm_20, vm_21, vm_22, vm_23])), (hs, .inl (cI, 45, .inl f)), (tn, .inl (cI, 45, .inl f2_17))]) [0, 1, 2] (by decide) rfl
      exact wt_iret hx hb hr hlocks hP9 hD9 hS ⟨f2_17, rfl⟩ dX6_upAhead_49
    · skip
      refine lv_ldc hx hb hown wc67 dX6_upAhead_25 ?_
      have hP9 := hP.sub (ws' := [(md, .inr (6, [.int 0, vm_1, vm_2, vm_3, vm_4, .ref hs, vm_6, .ref tn, vm_8, vm_9, vm_10, vm_11, vm_12, vm_13, vm_14, vm_15, vm_16, vm_17, vm_18, vm_19, vm_20, vm_21, vm_22, vm_23])), (hs, .inl (cI, 45, .inl f)), (tn, .inl (cI, 45, .inl g))]) [0, 1, 2] rfl
      have hD9 := hD.sub (ws' := [(md, .inr (6, [.int 0, vm_1, vm_2, vm_3, vm_4, .ref hs, vm_6, .ref tn, vm_8, vm_9, vm_10, vm_11, vm_12, vm_13, vm_14, vm_15, vm_16, vm_17, vm_18, vm_19, vm_20, vm_21, vm_22, vm_23])), (hs, .inl (cI, 45, .inl f)), (tn, .inl (cI, 45, .inl g))]) [0, 1, 2] (by decide) rfl
      exact wt_iret hx hb hr hlocks hP9 hD9 hS ⟨g, rfl⟩ dX6_upAhead_27
set_option maxHeartbeats 4000000 in
set_option maxRecDepth 100000 in
theorem c_X6_chill (l : Launch) (D : va_G) (cI cZ cH : ClassId) (md hs : Nat) (R T : Nat) (f : Nat → Int32) (tn : Nat) (g : Nat → Int32) (a1 : Int32) (vm_0 vm_1 vm_2 vm_3 vm_4 vm_6 vm_8 vm_9 vm_10 vm_11 vm_12 vm_13 vm_14 vm_15 vm_16 vm_17 vm_18 vm_19 vm_20 vm_21 vm_22 vm_23 : Value) (hR5 : R ≤ 5) (hT6 : T ≤ 6) (hrk : rk R T f) : wt_M l yX6_chill wsX6_chill ({ frames := 4, cells := 0, slots := 0, locals := 91 } : Room) D (wt_T cI cZ cH) [.ref md, .int a1] [(md, .inr (6, [vm_0, vm_1, vm_2, vm_3, vm_4, .ref hs, vm_6, .ref tn, vm_8, vm_9, vm_10, vm_11, vm_12, vm_13, vm_14, vm_15, vm_16, vm_17, vm_18, vm_19, vm_20, vm_21, vm_22, vm_23])), (hs, .inl (cI, 45, .inl f)), (tn, .inl (cI, 45, .inl g))] (wt_QI D (fun r w => ∃ (g2 : Nat → Int32), w = [(md, .inr (6, [.int 0, vm_1, vm_2, vm_3, vm_4, .ref hs, vm_6, .ref tn, vm_8, vm_9, vm_10, vm_11, vm_12, vm_13, vm_14, vm_15, vm_16, vm_17, vm_18, vm_19, vm_20, vm_21, vm_22, vm_23])), (hs, .inl (cI, 45, .inl f)), (tn, .inl (cI, 45, .inl g2))])) := by
  refine wt_M.ofW (cc := cX6_chill) (maxL := 3) (ret := (some .int)) (by decide) rfl (Nat.le_of_ble_eq_true rfl) ?_
  intro p e s m below meth c A ls hx hb hr hts hown hlocks hml hnm hP hK hD hA hS hl
  have hP : va_P D vwCl [(md, .inr (6, [vm_0, vm_1, vm_2, vm_3, vm_4, .ref hs, vm_6, .ref tn, vm_8, vm_9, vm_10, vm_11, vm_12, vm_13, vm_14, vm_15, vm_16, vm_17, vm_18, vm_19, vm_20, vm_21, vm_22, vm_23])), (hs, .inl (cI, 45, .inl f)), (tn, .inl (cI, 45, .inl g))] s.heap := hP
  have hown : s.vm.findClass RX6 = some m.cls := hown
  have hl : lv_has ls 3 [(0, .ref md), (1, .int a1)] := hl
  have hi6 : ∀ w ∈ u_ws RX6 TX6 24, w ∈ wsX6_chill := by decide +kernel
  have wc67 := hts (.constant RX6 67 (-1000001)) (by decide +kernel)
  have wc90 := hts (.constant RX6 90 (-1000000)) (by decide +kernel)
  have wf25 := hts (.fieldLink RX6 25 "WarmTubesModel" "then" "[I") (by decide +kernel)
  have wf47 := hts (.fieldLink RX6 47 "WarmTubesModel" "thrown" "I") (by decide +kernel)
  refine lv_aload_n hx hb dX6_chill_0 rfl (lv_at hl 0 rfl) ?_
  refine lv_iconst (v := 0) hx hb dX6_chill_1 (by decide) ?_
  refine va_put (D := D) (ci := 6) (v := .int 0) (ty := .int) (C := RX6) (T := TX6) (N := 24) hx hb hts hi6 tyX6 tyX6_ok nmX6 hown hK.1 hP hD hS 0 rfl rfl 0 (by decide) wf47 (fun _ h9 => h9) rfl (by decide +kernel) rfl rfl (Nat.le_of_ble_eq_true rfl) dX6_chill_2 (fun H locs hP hD hS => ?_)
  have hP : va_P D vwCl [(md, .inr (6, [.int 0, vm_1, vm_2, vm_3, vm_4, .ref hs, vm_6, .ref tn, vm_8, vm_9, vm_10, vm_11, vm_12, vm_13, vm_14, vm_15, vm_16, vm_17, vm_18, vm_19, vm_20, vm_21, vm_22, vm_23])), (hs, .inl (cI, 45, .inl f)), (tn, .inl (cI, 45, .inl g))] H := hP
  have hD : va_D A [(md, .inr (6, [.int 0, vm_1, vm_2, vm_3, vm_4, .ref hs, vm_6, .ref tn, vm_8, vm_9, vm_10, vm_11, vm_12, vm_13, vm_14, vm_15, vm_16, vm_17, vm_18, vm_19, vm_20, vm_21, vm_22, vm_23])), (hs, .inl (cI, 45, .inl f)), (tn, .inl (cI, 45, .inl g))] := hD
  refine lv_aload_n hx hb dX6_chill_5 rfl (lv_at hl 0 rfl) ?_
  refine lv_iload_n hx hb dX6_chill_6 rfl (lv_at hl 1 rfl) ?_
  refine wt_rV (As := [.int a1]) (rest := []) ⟨hx, hb, hml, hown, hts⟩ (c_X6_isRoom l D cI cZ cH md hs R T f a1 (.int 0) vm_1 vm_2 vm_3 vm_4 vm_6 (.ref tn) vm_8 vm_9 vm_10 vm_11 vm_12 vm_13 vm_14 vm_15 vm_16 vm_17 vm_18 vm_19 vm_20 vm_21 vm_22 vm_23 (by first | assumption | omega) (by first | assumption | omega) (by first | assumption | omega)) (cwV 1 hts gX6_chill_X6_isRoom rfl rfl rfl (by decide +kernel) ⟨Nat.le_of_ble_eq_true rfl, Nat.le_of_ble_eq_true rfl⟩) hK hP [0, 1] rfl (va_recv hK.1 hP (ci := 6) (q0 := 0) rfl rfl) rfl hl.1 rfl (Nat.le_of_ble_eq_true rfl) dX6_chill_7 ⟨Nat.le_of_ble_eq_true rfl, Nat.le_of_ble_eq_true rfl⟩ (fun r_1 e_2 => ?_)
  subst e_2
  refine lv_if_ne (tgt := 16) hx hb dX6_chill_10 (by decide) (fun c_3 => ?_) (fun c_3 => ?_)
  · skip
    obtain ⟨j_4, hj_4, rfl⟩ := wI_natT (T := R) (by omega) c_3
    refine lv_aload_n hx hb dX6_chill_16 rfl (lv_at hl 0 rfl) ?_
    refine wt_goV (wr := []) (wt_runV (As := []) (rest := []) ⟨hx, hb, hml, hown, hts⟩ (c_X6_layThen l D cI cZ cH md hs R T f tn g (.int 0) vm_1 vm_2 vm_3 vm_4 vm_6 vm_8 vm_9 vm_10 vm_11 vm_12 vm_13 vm_14 vm_15 vm_16 vm_17 vm_18 vm_19 vm_20 vm_21 vm_22 vm_23 (by first | assumption | omega) (by first | assumption | omega) (by first | assumption | omega)) (cwV 0 hts gX6_chill_X6_layThen rfl rfl rfl (by decide +kernel) ⟨Nat.le_of_ble_eq_true rfl, Nat.le_of_ble_eq_true rfl⟩) hK hP hD [0, 1, 2] rfl (by decide) (va_recv hK.1 hP (ci := 6) (q0 := 0) rfl rfl) rfl hl.1 rfl (Nat.le_of_ble_eq_true rfl) dX6_chill_17 ⟨Nat.le_of_ble_eq_true rfl, Nat.le_of_ble_eq_true rfl⟩) hP hD hS hA [0, 1, 2] [] rfl rfl (by decide) (by decide) (fun w_6 H locs h_7 hP hD hS => ?_)
    obtain ⟨g2_8, rfl, x_9⟩ := h_7
    have hP : va_P D vwCl [(md, .inr (6, [.int 0, vm_1, vm_2, vm_3, vm_4, .ref hs, vm_6, .ref tn, vm_8, vm_9, vm_10, vm_11, vm_12, vm_13, vm_14, vm_15, vm_16, vm_17, vm_18, vm_19, vm_20, vm_21, vm_22, vm_23])), (hs, .inl (cI, 45, .inl f)), (tn, .inl (cI, 45, .inl g2_8))] H := hP
    have hD : va_D A [(md, .inr (6, [.int 0, vm_1, vm_2, vm_3, vm_4, .ref hs, vm_6, .ref tn, vm_8, vm_9, vm_10, vm_11, vm_12, vm_13, vm_14, vm_15, vm_16, vm_17, vm_18, vm_19, vm_20, vm_21, vm_22, vm_23])), (hs, .inl (cI, 45, .inl f)), (tn, .inl (cI, 45, .inl g2_8))] := hD
    refine lv_iconst (v := 0) hx hb dX6_chill_20 (by decide) ?_
    refine lv_istore_n (lv' := [(2, .int 0), (0, .ref md), (1, .int (nI j_4))]) hx hb dX6_chill_21 rfl hl (by decide) rfl (fun ls hl => ?_)
    have loop22 : ∀ (k i_10 : Nat) (g2_8_11 : Nat → Int32) (H : Heap) (locs : List Loc) (ls : Array Slot), i_10 + k = 60 + 1 → (rk R T g2_8_11) → va_P D vwCl [(md, .inr (6, [.int 0, vm_1, vm_2, vm_3, vm_4, .ref hs, vm_6, .ref tn, vm_8, vm_9, vm_10, vm_11, vm_12, vm_13, vm_14, vm_15, vm_16, vm_17, vm_18, vm_19, vm_20, vm_21, vm_22, vm_23])), (hs, .inl (cI, 45, .inl f)), (tn, .inl (cI, 45, .inl g2_8_11))] H → va_D A [(md, .inr (6, [.int 0, vm_1, vm_2, vm_3, vm_4, .ref hs, vm_6, .ref tn, vm_8, vm_9, vm_10, vm_11, vm_12, vm_13, vm_14, vm_15, vm_16, vm_17, vm_18, vm_19, vm_20, vm_21, vm_22, vm_23])), (hs, .inl (cI, 45, .inl f)), (tn, .inl (cI, 45, .inl g2_8_11))] → va_S A s.heap H locs → lv_has ls 3 [(2, .int (nI i_10)), (0, .ref md), (1, .int (nI j_4))] → W p l e ({ frames := 4, cells := 0, slots := 0, locals := 91 } : Room) s m ([.ref md, .int (nI j_4)] : List Value).toArray below meth c H locs 0 0 (MQ below (wt_QI D (fun r w => ∃ (g2 : Nat → Int32), w = [(md, .inr (6, [.int 0, vm_1, vm_2, vm_3, vm_4, .ref hs, vm_6, .ref tn, vm_8, vm_9, vm_10, vm_11, vm_12, vm_13, vm_14, vm_15, vm_16, vm_17, vm_18, vm_19, vm_20, vm_21, vm_22, vm_23])), (hs, .inl (cI, 45, .inl f)), (tn, .inl (cI, 45, .inl g2))]) A) ([.ref md, .int (nI j_4)] : List Value).toArray s 0 0 A) (F0 m 22 ls []) := by
      intro k
      induction k with
      | zero =>
        intro i_10 g2_8_11 H locs ls hik rk_12 hP hD hS hl
        refine lv_iload_n hx hb dX6_chill_22 rfl (lv_at hl 0 rfl) ?_
        refine lv_bipush (v := 60) hx hb dX6_chill_23 (by decide) ?_
        refine lv_icmp_gt (tgt := 54) hx hb dX6_chill_25 (by decide) (fun _ => ?_) (fun h => absurd (nI_lt (a := 60) (b := i_10) (by omega) (by omega)) h)
        refine lv_ldc hx hb hown wc90 dX6_chill_54 ?_
        have hP9 := hP.sub (ws' := [(md, .inr (6, [.int 0, vm_1, vm_2, vm_3, vm_4, .ref hs, vm_6, .ref tn, vm_8, vm_9, vm_10, vm_11, vm_12, vm_13, vm_14, vm_15, vm_16, vm_17, vm_18, vm_19, vm_20, vm_21, vm_22, vm_23])), (hs, .inl (cI, 45, .inl f)), (tn, .inl (cI, 45, .inl g2_8_11))]) [0, 1, 2] rfl
        have hD9 := hD.sub (ws' := [(md, .inr (6, [.int 0, vm_1, vm_2, vm_3, vm_4, .ref hs, vm_6, .ref tn, vm_8, vm_9, vm_10, vm_11, vm_12, vm_13, vm_14, vm_15, vm_16, vm_17, vm_18, vm_19, vm_20, vm_21, vm_22, vm_23])), (hs, .inl (cI, 45, .inl f)), (tn, .inl (cI, 45, .inl g2_8_11))]) [0, 1, 2] (by decide) rfl
        exact wt_iret hx hb hr hlocks hP9 hD9 hS ⟨g2_8_11, rfl⟩ dX6_chill_56
      | succ k ih22 =>
        intro i_10 g2_8_11 H locs ls hik rk_12 hP hD hS hl
        refine lv_iload_n hx hb dX6_chill_22 rfl (lv_at hl 0 rfl) ?_
        refine lv_bipush (v := 60) hx hb dX6_chill_23 (by decide) ?_
        refine lv_icmp_gt (tgt := 54) hx hb dX6_chill_25 (by decide) (fun h => absurd h (nI_nlt (a := 60) (b := i_10) (by omega) (by omega))) (fun _ => ?_)
        refine lv_aload_n hx hb dX6_chill_28 rfl (lv_at hl 1 rfl) ?_
        refine va_get (D := D) (ci := 6) (v := .ref tn) (C := RX6) (T := TX6) (N := 24) hx hb hts hi6 hown hK.1 hP 0 rfl rfl 7 (by decide) wf25 (fun _ h9 => h9) rfl dX6_chill_29 ?_
        refine lv_iload_n hx hb dX6_chill_32 rfl (lv_at hl 2 rfl) ?_
        refine wt_rS (As := [.ref tn, .int (nI j_4)]) (rest := []) ⟨hx, hb, hml, hown, hts⟩ (c_X6_isCold l D cI cZ cH tn R T g2_8_11 j_4 (by first | assumption | omega) (by first | assumption | omega) (by first | assumption | omega) (by first | assumption | omega)) (va_cwS 2 hts gX6_chill_X6_isCold rfl rfl rfl (by decide +kernel) ⟨Nat.le_of_ble_eq_true rfl, Nat.le_of_ble_eq_true rfl⟩) hK hP [2] rfl rfl hl.1 rfl (Nat.le_of_ble_eq_true rfl) dX6_chill_33 ⟨Nat.le_of_ble_eq_true rfl, Nat.le_of_ble_eq_true rfl⟩ (fun r_13 e_14 => ?_)
        refine lv_if_eq (tgt := 41) hx hb dX6_chill_36 (by decide) (fun c_15 => ?_) (fun c_15 => ?_)
        · skip
          refine lv_aload_n hx hb dX6_chill_41 rfl (lv_at hl 1 rfl) ?_
          refine va_get (D := D) (ci := 6) (v := .ref tn) (C := RX6) (T := TX6) (N := 24) hx hb hts hi6 hown hK.1 hP 0 rfl rfl 7 (by decide) wf25 (fun _ h9 => h9) rfl dX6_chill_42 ?_
          refine wt_goV (wr := [(md, .inr (6, [.int 0, vm_1, vm_2, vm_3, vm_4, .ref hs, vm_6, .ref tn, vm_8, vm_9, vm_10, vm_11, vm_12, vm_13, vm_14, vm_15, vm_16, vm_17, vm_18, vm_19, vm_20, vm_21, vm_22, vm_23])), (hs, .inl (cI, 45, .inl f))]) (wt_runS (As := [.ref tn]) (rest := []) ⟨hx, hb, hml, hown, hts⟩ (c_X6_minute l D cI cZ cH tn R T g2_8_11 (by first | assumption | omega) (by first | assumption | omega) (by first | assumption | omega)) (va_cwS 1 hts gX6_chill_X6_minute rfl rfl rfl (by decide +kernel) ⟨Nat.le_of_ble_eq_true rfl, Nat.le_of_ble_eq_true rfl⟩) hK hP hD [2] rfl (by decide) rfl hl.1 rfl (Nat.le_of_ble_eq_true rfl) dX6_chill_45 ⟨Nat.le_of_ble_eq_true rfl, Nat.le_of_ble_eq_true rfl⟩) hP hD hS hA [2] [0, 1] rfl rfl (by decide) (by decide) (fun w_17 H locs h_18 hP hD hS => ?_)
          obtain ⟨f2_19, rfl, x_20⟩ := h_18
          have hP : va_P D vwCl [(md, .inr (6, [.int 0, vm_1, vm_2, vm_3, vm_4, .ref hs, vm_6, .ref tn, vm_8, vm_9, vm_10, vm_11, vm_12, vm_13, vm_14, vm_15, vm_16, vm_17, vm_18, vm_19, vm_20, vm_21, vm_22, vm_23])), (hs, .inl (cI, 45, .inl f)), (tn, .inl (cI, 45, .inl f2_19))] H := hP
          have hD : va_D A [(md, .inr (6, [.int 0, vm_1, vm_2, vm_3, vm_4, .ref hs, vm_6, .ref tn, vm_8, vm_9, vm_10, vm_11, vm_12, vm_13, vm_14, vm_15, vm_16, vm_17, vm_18, vm_19, vm_20, vm_21, vm_22, vm_23])), (hs, .inl (cI, 45, .inl f)), (tn, .inl (cI, 45, .inl f2_19))] := hD
          refine lv_iinc (v := nI (i_10 + 1)) (lv' := [(2, .int (nI (i_10 + 1))), (0, .ref md), (1, .int (nI j_4))]) hx hb dX6_chill_48 hl (k := 0) rfl (nI_add i_10 1) (by decide) rfl (fun ls hl => ?_)
          refine lv_goto (tgt := 22) hx hb dX6_chill_51 (by decide) ?_
          exact ih22 ((i_10 + 1)) f2_19 H locs ls (by omega) x_20 hP hD hS (lv_sub hl [0, 1, 2] rfl)
        · skip
          refine lv_iload_n hx hb dX6_chill_39 rfl (lv_at hl 0 rfl) ?_
          have hP9 := hP.sub (ws' := [(md, .inr (6, [.int 0, vm_1, vm_2, vm_3, vm_4, .ref hs, vm_6, .ref tn, vm_8, vm_9, vm_10, vm_11, vm_12, vm_13, vm_14, vm_15, vm_16, vm_17, vm_18, vm_19, vm_20, vm_21, vm_22, vm_23])), (hs, .inl (cI, 45, .inl f)), (tn, .inl (cI, 45, .inl g2_8_11))]) [0, 1, 2] rfl
          have hD9 := hD.sub (ws' := [(md, .inr (6, [.int 0, vm_1, vm_2, vm_3, vm_4, .ref hs, vm_6, .ref tn, vm_8, vm_9, vm_10, vm_11, vm_12, vm_13, vm_14, vm_15, vm_16, vm_17, vm_18, vm_19, vm_20, vm_21, vm_22, vm_23])), (hs, .inl (cI, 45, .inl f)), (tn, .inl (cI, 45, .inl g2_8_11))]) [0, 1, 2] (by decide) rfl
          exact wt_iret hx hb hr hlocks hP9 hD9 hS ⟨g2_8_11, rfl⟩ dX6_chill_40
    exact loop22 ((60 + 1) - 0) (0) g2_8 _ _ ls (by omega) x_9 hP hD hS hl
  · skip
    refine lv_ldc hx hb hown wc67 dX6_chill_13 ?_
    have hP9 := hP.sub (ws' := [(md, .inr (6, [.int 0, vm_1, vm_2, vm_3, vm_4, .ref hs, vm_6, .ref tn, vm_8, vm_9, vm_10, vm_11, vm_12, vm_13, vm_14, vm_15, vm_16, vm_17, vm_18, vm_19, vm_20, vm_21, vm_22, vm_23])), (hs, .inl (cI, 45, .inl f)), (tn, .inl (cI, 45, .inl g))]) [0, 1, 2] rfl
    have hD9 := hD.sub (ws' := [(md, .inr (6, [.int 0, vm_1, vm_2, vm_3, vm_4, .ref hs, vm_6, .ref tn, vm_8, vm_9, vm_10, vm_11, vm_12, vm_13, vm_14, vm_15, vm_16, vm_17, vm_18, vm_19, vm_20, vm_21, vm_22, vm_23])), (hs, .inl (cI, 45, .inl f)), (tn, .inl (cI, 45, .inl g))]) [0, 1, 2] (by decide) rfl
    exact wt_iret hx hb hr hlocks hP9 hD9 hS ⟨g, rfl⟩ dX6_chill_15
set_option maxHeartbeats 4000000 in
set_option maxRecDepth 100000 in
theorem c_X6_first (l : Launch) (D : va_G) (cI cZ cH : ClassId) (md hs : Nat) (R T : Nat) (f : Nat → Int32) (tn : Nat) (g : Nat → Int32) (a1 : Int32) (vm_0 vm_1 vm_2 vm_3 vm_4 vm_6 vm_8 vm_9 vm_10 vm_11 vm_12 vm_13 vm_14 vm_15 vm_16 vm_17 vm_18 vm_19 vm_20 vm_21 vm_22 vm_23 : Value) (hR5 : R ≤ 5) (hT6 : T ≤ 6) (hrk : rk R T f) : wt_M l yX6_first wsX6_first ({ frames := 4, cells := 0, slots := 0, locals := 91 } : Room) D (wt_T cI cZ cH) [.ref md, .int a1] [(md, .inr (6, [vm_0, vm_1, vm_2, vm_3, vm_4, .ref hs, vm_6, .ref tn, vm_8, vm_9, vm_10, vm_11, vm_12, vm_13, vm_14, vm_15, vm_16, vm_17, vm_18, vm_19, vm_20, vm_21, vm_22, vm_23])), (hs, .inl (cI, 45, .inl f)), (tn, .inl (cI, 45, .inl g))] (wt_QI D (fun r w => ∃ (g2 : Nat → Int32), w = [(md, .inr (6, [.int 0, vm_1, vm_2, vm_3, vm_4, .ref hs, vm_6, .ref tn, vm_8, vm_9, vm_10, vm_11, vm_12, vm_13, vm_14, vm_15, vm_16, vm_17, vm_18, vm_19, vm_20, vm_21, vm_22, vm_23])), (hs, .inl (cI, 45, .inl f)), (tn, .inl (cI, 45, .inl g2))])) := by
  refine wt_M.ofW (cc := cX6_first) (maxL := 4) (ret := (some .int)) (by decide) rfl (Nat.le_of_ble_eq_true rfl) ?_
  intro p e s m below meth c A ls hx hb hr hts hown hlocks hml hnm hP hK hD hA hS hl
  have hP : va_P D vwCl [(md, .inr (6, [vm_0, vm_1, vm_2, vm_3, vm_4, .ref hs, vm_6, .ref tn, vm_8, vm_9, vm_10, vm_11, vm_12, vm_13, vm_14, vm_15, vm_16, vm_17, vm_18, vm_19, vm_20, vm_21, vm_22, vm_23])), (hs, .inl (cI, 45, .inl f)), (tn, .inl (cI, 45, .inl g))] s.heap := hP
  have hown : s.vm.findClass RX6 = some m.cls := hown
  have hl : lv_has ls 4 [(0, .ref md), (1, .int a1)] := hl
  have hi6 : ∀ w ∈ u_ws RX6 TX6 24, w ∈ wsX6_first := by decide +kernel
  have wc189 := hts (.constant RX6 189 (-1000002)) (by decide +kernel)
  have wc67 := hts (.constant RX6 67 (-1000001)) (by decide +kernel)
  have wc90 := hts (.constant RX6 90 (-1000000)) (by decide +kernel)
  have wf19 := hts (.fieldLink RX6 19 "WarmTubesModel" "house" "[I") (by decide +kernel)
  have wf25 := hts (.fieldLink RX6 25 "WarmTubesModel" "then" "[I") (by decide +kernel)
  have wf47 := hts (.fieldLink RX6 47 "WarmTubesModel" "thrown" "I") (by decide +kernel)
  refine lv_aload_n hx hb dX6_first_0 rfl (lv_at hl 0 rfl) ?_
  refine lv_iconst (v := 0) hx hb dX6_first_1 (by decide) ?_
  refine va_put (D := D) (ci := 6) (v := .int 0) (ty := .int) (C := RX6) (T := TX6) (N := 24) hx hb hts hi6 tyX6 tyX6_ok nmX6 hown hK.1 hP hD hS 0 rfl rfl 0 (by decide) wf47 (fun _ h9 => h9) rfl (by decide +kernel) rfl rfl (Nat.le_of_ble_eq_true rfl) dX6_first_2 (fun H locs hP hD hS => ?_)
  have hP : va_P D vwCl [(md, .inr (6, [.int 0, vm_1, vm_2, vm_3, vm_4, .ref hs, vm_6, .ref tn, vm_8, vm_9, vm_10, vm_11, vm_12, vm_13, vm_14, vm_15, vm_16, vm_17, vm_18, vm_19, vm_20, vm_21, vm_22, vm_23])), (hs, .inl (cI, 45, .inl f)), (tn, .inl (cI, 45, .inl g))] H := hP
  have hD : va_D A [(md, .inr (6, [.int 0, vm_1, vm_2, vm_3, vm_4, .ref hs, vm_6, .ref tn, vm_8, vm_9, vm_10, vm_11, vm_12, vm_13, vm_14, vm_15, vm_16, vm_17, vm_18, vm_19, vm_20, vm_21, vm_22, vm_23])), (hs, .inl (cI, 45, .inl f)), (tn, .inl (cI, 45, .inl g))] := hD
  refine lv_aload_n hx hb dX6_first_5 rfl (lv_at hl 0 rfl) ?_
  refine wt_rV (As := []) (rest := []) ⟨hx, hb, hml, hown, hts⟩ (c_X6_isThere l D cI cZ cH md hs R T f (.int 0) vm_1 vm_2 vm_3 vm_4 vm_6 (.ref tn) vm_8 vm_9 vm_10 vm_11 vm_12 vm_13 vm_14 vm_15 vm_16 vm_17 vm_18 vm_19 vm_20 vm_21 vm_22 vm_23 (by first | assumption | omega) (by first | assumption | omega) (by first | assumption | omega)) (cwV 0 hts gX6_first_X6_isThere rfl rfl rfl (by decide +kernel) ⟨Nat.le_of_ble_eq_true rfl, Nat.le_of_ble_eq_true rfl⟩) hK hP [0, 1] rfl (va_recv hK.1 hP (ci := 6) (q0 := 0) rfl rfl) rfl hl.1 rfl (Nat.le_of_ble_eq_true rfl) dX6_first_6 ⟨Nat.le_of_ble_eq_true rfl, Nat.le_of_ble_eq_true rfl⟩ (fun r_1 e_2 => ?_)
  subst e_2
  refine lv_if_ne (tgt := 15) hx hb dX6_first_9 (by decide) (fun c_3 => ?_) (fun c_3 => ?_)
  · skip
    have g_4 : 0 < R := wP_nat (by omega) c_3
    refine lv_iload_n hx hb dX6_first_15 rfl (lv_at hl 1 rfl) ?_
    refine lv_i2l hx hb dX6_first_16 rfl ?_
    refine lv_lconst (v := 0) hx hb dX6_first_17 (by decide) ?_
    refine lv_lconst (v := 1) hx hb dX6_first_18 (by decide) ?_
    refine wt_rS (As := [.long a1.toInt64, .long 0, .long 1]) (rest := []) ⟨hx, hb, hml, hown, hts⟩ (c_X6_in l D cI cZ cH a1.toInt64 0 1) (va_cwS 3 hts gX6_first_X6_in rfl rfl rfl (by decide +kernel) ⟨Nat.le_of_ble_eq_true rfl, Nat.le_of_ble_eq_true rfl⟩) hK hP [] rfl rfl hl.1 rfl (Nat.le_of_ble_eq_true rfl) dX6_first_19 ⟨Nat.le_of_ble_eq_true rfl, Nat.le_of_ble_eq_true rfl⟩ (fun r_5 e_6 => ?_)
    subst e_6
    refine wt_top (z := wI a1 0 1) (wL_I' (by decide) (by decide)) ?_
    refine lv_if_ne (tgt := 28) hx hb dX6_first_22 (by decide) (fun c_7 => ?_) (fun c_7 => ?_)
    · skip
      obtain ⟨j_8, hj_8, hj_8b, rfl⟩ := wI_nat (a := 0) (b := 1) (by omega) (by omega) c_7
      refine lv_aload_n hx hb dX6_first_28 rfl (lv_at hl 0 rfl) ?_
      refine wt_goV (wr := []) (wt_runV (As := []) (rest := []) ⟨hx, hb, hml, hown, hts⟩ (c_X6_layThen l D cI cZ cH md hs R T f tn g (.int 0) vm_1 vm_2 vm_3 vm_4 vm_6 vm_8 vm_9 vm_10 vm_11 vm_12 vm_13 vm_14 vm_15 vm_16 vm_17 vm_18 vm_19 vm_20 vm_21 vm_22 vm_23 (by first | assumption | omega) (by first | assumption | omega) (by first | assumption | omega)) (cwV 0 hts gX6_first_X6_layThen rfl rfl rfl (by decide +kernel) ⟨Nat.le_of_ble_eq_true rfl, Nat.le_of_ble_eq_true rfl⟩) hK hP hD [0, 1, 2] rfl (by decide) (va_recv hK.1 hP (ci := 6) (q0 := 0) rfl rfl) rfl hl.1 rfl (Nat.le_of_ble_eq_true rfl) dX6_first_29 ⟨Nat.le_of_ble_eq_true rfl, Nat.le_of_ble_eq_true rfl⟩) hP hD hS hA [0, 1, 2] [] rfl rfl (by decide) (by decide) (fun w_10 H locs h_11 hP hD hS => ?_)
      obtain ⟨g2_12, rfl, x_13⟩ := h_11
      have hP : va_P D vwCl [(md, .inr (6, [.int 0, vm_1, vm_2, vm_3, vm_4, .ref hs, vm_6, .ref tn, vm_8, vm_9, vm_10, vm_11, vm_12, vm_13, vm_14, vm_15, vm_16, vm_17, vm_18, vm_19, vm_20, vm_21, vm_22, vm_23])), (hs, .inl (cI, 45, .inl f)), (tn, .inl (cI, 45, .inl g2_12))] H := hP
      have hD : va_D A [(md, .inr (6, [.int 0, vm_1, vm_2, vm_3, vm_4, .ref hs, vm_6, .ref tn, vm_8, vm_9, vm_10, vm_11, vm_12, vm_13, vm_14, vm_15, vm_16, vm_17, vm_18, vm_19, vm_20, vm_21, vm_22, vm_23])), (hs, .inl (cI, 45, .inl f)), (tn, .inl (cI, 45, .inl g2_12))] := hD
      refine lv_iconst (v := 0) hx hb dX6_first_32 (by decide) ?_
      refine lv_istore_n (lv' := [(2, .int 0), (0, .ref md), (1, .int (nI j_8))]) hx hb dX6_first_33 rfl hl (by decide) rfl (fun ls hl => ?_)
      have loop34 : ∀ (k i_14 : Nat) (g2_12_15 : Nat → Int32) (H : Heap) (locs : List Loc) (ls : Array Slot), i_14 + k = 60 + 1 → (rk R T g2_12_15) → va_P D vwCl [(md, .inr (6, [.int 0, vm_1, vm_2, vm_3, vm_4, .ref hs, vm_6, .ref tn, vm_8, vm_9, vm_10, vm_11, vm_12, vm_13, vm_14, vm_15, vm_16, vm_17, vm_18, vm_19, vm_20, vm_21, vm_22, vm_23])), (hs, .inl (cI, 45, .inl f)), (tn, .inl (cI, 45, .inl g2_12_15))] H → va_D A [(md, .inr (6, [.int 0, vm_1, vm_2, vm_3, vm_4, .ref hs, vm_6, .ref tn, vm_8, vm_9, vm_10, vm_11, vm_12, vm_13, vm_14, vm_15, vm_16, vm_17, vm_18, vm_19, vm_20, vm_21, vm_22, vm_23])), (hs, .inl (cI, 45, .inl f)), (tn, .inl (cI, 45, .inl g2_12_15))] → va_S A s.heap H locs → lv_has ls 4 [(2, .int (nI i_14)), (0, .ref md), (1, .int (nI j_8))] → W p l e ({ frames := 4, cells := 0, slots := 0, locals := 91 } : Room) s m ([.ref md, .int (nI j_8)] : List Value).toArray below meth c H locs 0 0 (MQ below (wt_QI D (fun r w => ∃ (g2 : Nat → Int32), w = [(md, .inr (6, [.int 0, vm_1, vm_2, vm_3, vm_4, .ref hs, vm_6, .ref tn, vm_8, vm_9, vm_10, vm_11, vm_12, vm_13, vm_14, vm_15, vm_16, vm_17, vm_18, vm_19, vm_20, vm_21, vm_22, vm_23])), (hs, .inl (cI, 45, .inl f)), (tn, .inl (cI, 45, .inl g2))]) A) ([.ref md, .int (nI j_8)] : List Value).toArray s 0 0 A) (F0 m 34 ls []) := by
        intro k
        induction k with
        | zero =>
          intro i_14 g2_12_15 H locs ls hik rk_16 hP hD hS hl
          refine lv_iload_n hx hb dX6_first_34 rfl (lv_at hl 0 rfl) ?_
          refine lv_bipush (v := 60) hx hb dX6_first_35 (by decide) ?_
          refine lv_icmp_gt (tgt := 92) hx hb dX6_first_37 (by decide) (fun _ => ?_) (fun h => absurd (nI_lt (a := 60) (b := i_14) (by omega) (by omega)) h)
          refine lv_ldc hx hb hown wc90 dX6_first_92 ?_
          have hP9 := hP.sub (ws' := [(md, .inr (6, [.int 0, vm_1, vm_2, vm_3, vm_4, .ref hs, vm_6, .ref tn, vm_8, vm_9, vm_10, vm_11, vm_12, vm_13, vm_14, vm_15, vm_16, vm_17, vm_18, vm_19, vm_20, vm_21, vm_22, vm_23])), (hs, .inl (cI, 45, .inl f)), (tn, .inl (cI, 45, .inl g2_12_15))]) [0, 1, 2] rfl
          have hD9 := hD.sub (ws' := [(md, .inr (6, [.int 0, vm_1, vm_2, vm_3, vm_4, .ref hs, vm_6, .ref tn, vm_8, vm_9, vm_10, vm_11, vm_12, vm_13, vm_14, vm_15, vm_16, vm_17, vm_18, vm_19, vm_20, vm_21, vm_22, vm_23])), (hs, .inl (cI, 45, .inl f)), (tn, .inl (cI, 45, .inl g2_12_15))]) [0, 1, 2] (by decide) rfl
          exact wt_iret hx hb hr hlocks hP9 hD9 hS ⟨g2_12_15, rfl⟩ dX6_first_94
        | succ k ih34 =>
          intro i_14 g2_12_15 H locs ls hik rk_16 hP hD hS hl
          refine lv_iload_n hx hb dX6_first_34 rfl (lv_at hl 0 rfl) ?_
          refine lv_bipush (v := 60) hx hb dX6_first_35 (by decide) ?_
          refine lv_icmp_gt (tgt := 92) hx hb dX6_first_37 (by decide) (fun h => absurd h (nI_nlt (a := 60) (b := i_14) (by omega) (by omega))) (fun _ => ?_)
          refine lv_iconst (v := 0) hx hb dX6_first_40 (by decide) ?_
          refine lv_istore_n (lv' := [(3, .int 0), (2, .int (nI i_14)), (0, .ref md), (1, .int (nI j_8))]) hx hb dX6_first_41 rfl hl (by decide) rfl (fun ls hl => ?_)
          have loop42 : ∀ (k i_17 : Nat) (g2_12_15_18 : Nat → Int32) (H : Heap) (locs : List Loc) (ls : Array Slot), i_17 + k = R → (rk R T g2_12_15_18) → va_P D vwCl [(md, .inr (6, [.int 0, vm_1, vm_2, vm_3, vm_4, .ref hs, vm_6, .ref tn, vm_8, vm_9, vm_10, vm_11, vm_12, vm_13, vm_14, vm_15, vm_16, vm_17, vm_18, vm_19, vm_20, vm_21, vm_22, vm_23])), (hs, .inl (cI, 45, .inl f)), (tn, .inl (cI, 45, .inl g2_12_15_18))] H → va_D A [(md, .inr (6, [.int 0, vm_1, vm_2, vm_3, vm_4, .ref hs, vm_6, .ref tn, vm_8, vm_9, vm_10, vm_11, vm_12, vm_13, vm_14, vm_15, vm_16, vm_17, vm_18, vm_19, vm_20, vm_21, vm_22, vm_23])), (hs, .inl (cI, 45, .inl f)), (tn, .inl (cI, 45, .inl g2_12_15_18))] → va_S A s.heap H locs → lv_has ls 4 [(3, .int (nI i_17)), (2, .int (nI i_14)), (0, .ref md), (1, .int (nI j_8))] → W p l e ({ frames := 4, cells := 0, slots := 0, locals := 91 } : Room) s m ([.ref md, .int (nI j_8)] : List Value).toArray below meth c H locs 0 0 (MQ below (wt_QI D (fun r w => ∃ (g2 : Nat → Int32), w = [(md, .inr (6, [.int 0, vm_1, vm_2, vm_3, vm_4, .ref hs, vm_6, .ref tn, vm_8, vm_9, vm_10, vm_11, vm_12, vm_13, vm_14, vm_15, vm_16, vm_17, vm_18, vm_19, vm_20, vm_21, vm_22, vm_23])), (hs, .inl (cI, 45, .inl f)), (tn, .inl (cI, 45, .inl g2))]) A) ([.ref md, .int (nI j_8)] : List Value).toArray s 0 0 A) (F0 m 42 ls []) := by
            intro k
            induction k with
            | zero =>
              intro i_17 g2_12_15_18 H locs ls hik rk_19 hP hD hS hl
              refine lv_iload_n hx hb dX6_first_42 rfl (lv_at hl 0 rfl) ?_
              refine lv_aload_n hx hb dX6_first_43 rfl (lv_at hl 2 rfl) ?_
              refine va_get (D := D) (ci := 6) (v := .ref hs) (C := RX6) (T := TX6) (N := 24) hx hb hts hi6 hown hK.1 hP 0 rfl rfl 5 (by decide) wf19 (fun _ h9 => h9) rfl dX6_first_44 ?_
              refine lv_iconst (v := 0) hx hb dX6_first_47 (by decide) ?_
              refine va_iald hx hb hK.1 hP 1 0 rfl rfl (by rw [vp_in_iff]; decide) dX6_first_48 ?_
              refine wt_top (z := nI R) (hrk.1) ?_
              refine lv_icmp_ge (tgt := 79) hx hb dX6_first_49 (by decide) (fun _ => ?_) (fun h => absurd (nI_le (a := R) (b := i_17) (by omega) (by omega)) h)
              refine lv_aload_n hx hb dX6_first_79 rfl (lv_at hl 2 rfl) ?_
              refine va_get (D := D) (ci := 6) (v := .ref tn) (C := RX6) (T := TX6) (N := 24) hx hb hts hi6 hown hK.1 hP 0 rfl rfl 7 (by decide) wf25 (fun _ h9 => h9) rfl dX6_first_80 ?_
              refine wt_goV (wr := [(md, .inr (6, [.int 0, vm_1, vm_2, vm_3, vm_4, .ref hs, vm_6, .ref tn, vm_8, vm_9, vm_10, vm_11, vm_12, vm_13, vm_14, vm_15, vm_16, vm_17, vm_18, vm_19, vm_20, vm_21, vm_22, vm_23])), (hs, .inl (cI, 45, .inl f))]) (wt_runS (As := [.ref tn]) (rest := []) ⟨hx, hb, hml, hown, hts⟩ (c_X6_minute l D cI cZ cH tn R T g2_12_15_18 (by first | assumption | omega) (by first | assumption | omega) (by first | assumption | omega)) (va_cwS 1 hts gX6_first_X6_minute rfl rfl rfl (by decide +kernel) ⟨Nat.le_of_ble_eq_true rfl, Nat.le_of_ble_eq_true rfl⟩) hK hP hD [2] rfl (by decide) rfl hl.1 rfl (Nat.le_of_ble_eq_true rfl) dX6_first_83 ⟨Nat.le_of_ble_eq_true rfl, Nat.le_of_ble_eq_true rfl⟩) hP hD hS hA [2] [0, 1] rfl rfl (by decide) (by decide) (fun w_21 H locs h_22 hP hD hS => ?_)
              obtain ⟨f2_23, rfl, x_24⟩ := h_22
              have hP : va_P D vwCl [(md, .inr (6, [.int 0, vm_1, vm_2, vm_3, vm_4, .ref hs, vm_6, .ref tn, vm_8, vm_9, vm_10, vm_11, vm_12, vm_13, vm_14, vm_15, vm_16, vm_17, vm_18, vm_19, vm_20, vm_21, vm_22, vm_23])), (hs, .inl (cI, 45, .inl f)), (tn, .inl (cI, 45, .inl f2_23))] H := hP
              have hD : va_D A [(md, .inr (6, [.int 0, vm_1, vm_2, vm_3, vm_4, .ref hs, vm_6, .ref tn, vm_8, vm_9, vm_10, vm_11, vm_12, vm_13, vm_14, vm_15, vm_16, vm_17, vm_18, vm_19, vm_20, vm_21, vm_22, vm_23])), (hs, .inl (cI, 45, .inl f)), (tn, .inl (cI, 45, .inl f2_23))] := hD
              refine lv_iinc (v := nI (i_14 + 1)) (lv' := [(2, .int (nI (i_14 + 1))), (3, .int (nI i_17)), (0, .ref md), (1, .int (nI j_8))]) hx hb dX6_first_86 hl (k := 1) rfl (nI_add i_14 1) (by decide) rfl (fun ls hl => ?_)
              refine lv_goto (tgt := 34) hx hb dX6_first_89 (by decide) ?_
              exact ih34 ((i_14 + 1)) f2_23 H locs ls (by omega) x_24 hP hD hS (lv_sub hl [0, 2, 3] rfl)
            | succ k ih42 =>
              intro i_17 g2_12_15_18 H locs ls hik rk_19 hP hD hS hl
              refine lv_iload_n hx hb dX6_first_42 rfl (lv_at hl 0 rfl) ?_
              refine lv_aload_n hx hb dX6_first_43 rfl (lv_at hl 2 rfl) ?_
              refine va_get (D := D) (ci := 6) (v := .ref hs) (C := RX6) (T := TX6) (N := 24) hx hb hts hi6 hown hK.1 hP 0 rfl rfl 5 (by decide) wf19 (fun _ h9 => h9) rfl dX6_first_44 ?_
              refine lv_iconst (v := 0) hx hb dX6_first_47 (by decide) ?_
              refine va_iald hx hb hK.1 hP 1 0 rfl rfl (by rw [vp_in_iff]; decide) dX6_first_48 ?_
              refine wt_top (z := nI R) (hrk.1) ?_
              refine lv_icmp_ge (tgt := 79) hx hb dX6_first_49 (by decide) (fun h => absurd h (nI_ge (a := i_17) (b := R) (by omega) (by omega))) (fun _ => ?_)
              refine lv_aload_n hx hb dX6_first_52 rfl (lv_at hl 2 rfl) ?_
              refine va_get (D := D) (ci := 6) (v := .ref tn) (C := RX6) (T := TX6) (N := 24) hx hb hts hi6 hown hK.1 hP 0 rfl rfl 7 (by decide) wf25 (fun _ h9 => h9) rfl dX6_first_53 ?_
              refine lv_iload_n hx hb dX6_first_56 rfl (lv_at hl 0 rfl) ?_
              refine wt_rS (As := [.ref tn, .int (nI i_17)]) (rest := []) ⟨hx, hb, hml, hown, hts⟩ (c_X6_isCold l D cI cZ cH tn R T g2_12_15_18 i_17 (by first | assumption | omega) (by first | assumption | omega) (by first | assumption | omega) (by first | assumption | omega)) (va_cwS 2 hts gX6_first_X6_isCold rfl rfl rfl (by decide +kernel) ⟨Nat.le_of_ble_eq_true rfl, Nat.le_of_ble_eq_true rfl⟩) hK hP [2] rfl rfl hl.1 rfl (Nat.le_of_ble_eq_true rfl) dX6_first_57 ⟨Nat.le_of_ble_eq_true rfl, Nat.le_of_ble_eq_true rfl⟩ (fun r_25 e_26 => ?_)
              refine lv_if_eq (tgt := 73) hx hb dX6_first_60 (by decide) (fun c_27 => ?_) (fun c_27 => ?_)
              · skip
                refine lv_iinc (v := nI (i_17 + 1)) (lv' := [(3, .int (nI (i_17 + 1))), (2, .int (nI i_14)), (0, .ref md), (1, .int (nI j_8))]) hx hb dX6_first_73 hl (k := 0) rfl (nI_add i_17 1) (by decide) rfl (fun ls hl => ?_)
                refine lv_goto (tgt := 42) hx hb dX6_first_76 (by decide) ?_
                exact ih42 ((i_17 + 1)) g2_12_15_18 H locs ls (by omega) rk_19 hP hD hS (lv_sub hl [0, 1, 2, 3] rfl)
              · skip
                refine lv_iload_n hx hb dX6_first_63 rfl (lv_at hl 3 rfl) ?_
                refine lv_if_ne (tgt := 71) hx hb dX6_first_64 (by decide) (fun c_28 => ?_) (fun c_28 => ?_)
                · skip
                  have c_28 : ¬ (j_8 = 0) := fun h => c_28 ((nI_eq (a := j_8) (b := 0) (by omega) (by omega)).mpr h)
                  refine lv_iload_n hx hb dX6_first_71 rfl (lv_at hl 1 rfl) ?_
                  have hP9 := hP.sub (ws' := [(md, .inr (6, [.int 0, vm_1, vm_2, vm_3, vm_4, .ref hs, vm_6, .ref tn, vm_8, vm_9, vm_10, vm_11, vm_12, vm_13, vm_14, vm_15, vm_16, vm_17, vm_18, vm_19, vm_20, vm_21, vm_22, vm_23])), (hs, .inl (cI, 45, .inl f)), (tn, .inl (cI, 45, .inl g2_12_15_18))]) [0, 1, 2] rfl
                  have hD9 := hD.sub (ws' := [(md, .inr (6, [.int 0, vm_1, vm_2, vm_3, vm_4, .ref hs, vm_6, .ref tn, vm_8, vm_9, vm_10, vm_11, vm_12, vm_13, vm_14, vm_15, vm_16, vm_17, vm_18, vm_19, vm_20, vm_21, vm_22, vm_23])), (hs, .inl (cI, 45, .inl f)), (tn, .inl (cI, 45, .inl g2_12_15_18))]) [0, 1, 2] (by decide) rfl
                  exact wt_iret hx hb hr hlocks hP9 hD9 hS ⟨g2_12_15_18, rfl⟩ dX6_first_72
                · skip
                  have c_28 : j_8 = 0 := (nI_eq (a := j_8) (b := 0) (by omega) (by omega)).mp c_28
                  refine lv_iload_n hx hb dX6_first_67 rfl (lv_at hl 0 rfl) ?_
                  refine lv_goto (tgt := 72) hx hb dX6_first_68 (by decide) ?_
                  have hP9 := hP.sub (ws' := [(md, .inr (6, [.int 0, vm_1, vm_2, vm_3, vm_4, .ref hs, vm_6, .ref tn, vm_8, vm_9, vm_10, vm_11, vm_12, vm_13, vm_14, vm_15, vm_16, vm_17, vm_18, vm_19, vm_20, vm_21, vm_22, vm_23])), (hs, .inl (cI, 45, .inl f)), (tn, .inl (cI, 45, .inl g2_12_15_18))]) [0, 1, 2] rfl
                  have hD9 := hD.sub (ws' := [(md, .inr (6, [.int 0, vm_1, vm_2, vm_3, vm_4, .ref hs, vm_6, .ref tn, vm_8, vm_9, vm_10, vm_11, vm_12, vm_13, vm_14, vm_15, vm_16, vm_17, vm_18, vm_19, vm_20, vm_21, vm_22, vm_23])), (hs, .inl (cI, 45, .inl f)), (tn, .inl (cI, 45, .inl g2_12_15_18))]) [0, 1, 2] (by decide) rfl
                  exact wt_iret hx hb hr hlocks hP9 hD9 hS ⟨g2_12_15_18, rfl⟩ dX6_first_72
          exact loop42 (R - 0) (0) g2_12_15 _ _ ls (by omega) rk_16 hP hD hS hl
      exact loop34 ((60 + 1) - 0) (0) g2_12 _ _ ls (by omega) x_13 hP hD hS hl
    · skip
      refine lv_ldc hx hb hown wc67 dX6_first_25 ?_
      have hP9 := hP.sub (ws' := [(md, .inr (6, [.int 0, vm_1, vm_2, vm_3, vm_4, .ref hs, vm_6, .ref tn, vm_8, vm_9, vm_10, vm_11, vm_12, vm_13, vm_14, vm_15, vm_16, vm_17, vm_18, vm_19, vm_20, vm_21, vm_22, vm_23])), (hs, .inl (cI, 45, .inl f)), (tn, .inl (cI, 45, .inl g))]) [0, 1, 2] rfl
      have hD9 := hD.sub (ws' := [(md, .inr (6, [.int 0, vm_1, vm_2, vm_3, vm_4, .ref hs, vm_6, .ref tn, vm_8, vm_9, vm_10, vm_11, vm_12, vm_13, vm_14, vm_15, vm_16, vm_17, vm_18, vm_19, vm_20, vm_21, vm_22, vm_23])), (hs, .inl (cI, 45, .inl f)), (tn, .inl (cI, 45, .inl g))]) [0, 1, 2] (by decide) rfl
      exact wt_iret hx hb hr hlocks hP9 hD9 hS ⟨g, rfl⟩ dX6_first_27
  · skip
    refine lv_ldc hx hb hown wc189 dX6_first_12 ?_
    have hP9 := hP.sub (ws' := [(md, .inr (6, [.int 0, vm_1, vm_2, vm_3, vm_4, .ref hs, vm_6, .ref tn, vm_8, vm_9, vm_10, vm_11, vm_12, vm_13, vm_14, vm_15, vm_16, vm_17, vm_18, vm_19, vm_20, vm_21, vm_22, vm_23])), (hs, .inl (cI, 45, .inl f)), (tn, .inl (cI, 45, .inl g))]) [0, 1, 2] rfl
    have hD9 := hD.sub (ws' := [(md, .inr (6, [.int 0, vm_1, vm_2, vm_3, vm_4, .ref hs, vm_6, .ref tn, vm_8, vm_9, vm_10, vm_11, vm_12, vm_13, vm_14, vm_15, vm_16, vm_17, vm_18, vm_19, vm_20, vm_21, vm_22, vm_23])), (hs, .inl (cI, 45, .inl f)), (tn, .inl (cI, 45, .inl g))]) [0, 1, 2] (by decide) rfl
    exact wt_iret hx hb hr hlocks hP9 hD9 hS ⟨g, rfl⟩ dX6_first_14
set_option maxHeartbeats 4000000 in
set_option maxRecDepth 100000 in
theorem c_X6_filled (l : Launch) (D : va_G) (cI cZ cH : ClassId) (md hs : Nat) (R T : Nat) (f : Nat → Int32) (tn : Nat) (g : Nat → Int32) (a1 : Int32) (vm_0 vm_1 vm_2 vm_3 vm_4 vm_6 vm_8 vm_9 vm_10 vm_11 vm_12 vm_13 vm_14 vm_15 vm_16 vm_17 vm_18 vm_19 vm_20 vm_21 vm_22 vm_23 : Value) (hR5 : R ≤ 5) (hT6 : T ≤ 6) (hrk : rk R T f) : wt_M l yX6_filled wsX6_filled ({ frames := 4, cells := 0, slots := 0, locals := 91 } : Room) D (wt_T cI cZ cH) [.ref md, .int a1] [(md, .inr (6, [vm_0, vm_1, vm_2, vm_3, vm_4, .ref hs, vm_6, .ref tn, vm_8, vm_9, vm_10, vm_11, vm_12, vm_13, vm_14, vm_15, vm_16, vm_17, vm_18, vm_19, vm_20, vm_21, vm_22, vm_23])), (hs, .inl (cI, 45, .inl f)), (tn, .inl (cI, 45, .inl g))] (wt_QI D (fun r w => ∃ (g2 : Nat → Int32), w = [(md, .inr (6, [.int 0, vm_1, vm_2, vm_3, vm_4, .ref hs, vm_6, .ref tn, vm_8, vm_9, vm_10, vm_11, vm_12, vm_13, vm_14, vm_15, vm_16, vm_17, vm_18, vm_19, vm_20, vm_21, vm_22, vm_23])), (hs, .inl (cI, 45, .inl f)), (tn, .inl (cI, 45, .inl g2))])) := by
  refine wt_M.ofW (cc := cX6_filled) (maxL := 3) (ret := (some .int)) (by decide) rfl (Nat.le_of_ble_eq_true rfl) ?_
  intro p e s m below meth c A ls hx hb hr hts hown hlocks hml hnm hP hK hD hA hS hl
  have hP : va_P D vwCl [(md, .inr (6, [vm_0, vm_1, vm_2, vm_3, vm_4, .ref hs, vm_6, .ref tn, vm_8, vm_9, vm_10, vm_11, vm_12, vm_13, vm_14, vm_15, vm_16, vm_17, vm_18, vm_19, vm_20, vm_21, vm_22, vm_23])), (hs, .inl (cI, 45, .inl f)), (tn, .inl (cI, 45, .inl g))] s.heap := hP
  have hown : s.vm.findClass RX6 = some m.cls := hown
  have hl : lv_has ls 3 [(0, .ref md), (1, .int a1)] := hl
  have hi6 : ∀ w ∈ u_ws RX6 TX6 24, w ∈ wsX6_filled := by decide +kernel
  have wc67 := hts (.constant RX6 67 (-1000001)) (by decide +kernel)
  have wc90 := hts (.constant RX6 90 (-1000000)) (by decide +kernel)
  have wf25 := hts (.fieldLink RX6 25 "WarmTubesModel" "then" "[I") (by decide +kernel)
  have wf47 := hts (.fieldLink RX6 47 "WarmTubesModel" "thrown" "I") (by decide +kernel)
  refine lv_aload_n hx hb dX6_filled_0 rfl (lv_at hl 0 rfl) ?_
  refine lv_iconst (v := 0) hx hb dX6_filled_1 (by decide) ?_
  refine va_put (D := D) (ci := 6) (v := .int 0) (ty := .int) (C := RX6) (T := TX6) (N := 24) hx hb hts hi6 tyX6 tyX6_ok nmX6 hown hK.1 hP hD hS 0 rfl rfl 0 (by decide) wf47 (fun _ h9 => h9) rfl (by decide +kernel) rfl rfl (Nat.le_of_ble_eq_true rfl) dX6_filled_2 (fun H locs hP hD hS => ?_)
  have hP : va_P D vwCl [(md, .inr (6, [.int 0, vm_1, vm_2, vm_3, vm_4, .ref hs, vm_6, .ref tn, vm_8, vm_9, vm_10, vm_11, vm_12, vm_13, vm_14, vm_15, vm_16, vm_17, vm_18, vm_19, vm_20, vm_21, vm_22, vm_23])), (hs, .inl (cI, 45, .inl f)), (tn, .inl (cI, 45, .inl g))] H := hP
  have hD : va_D A [(md, .inr (6, [.int 0, vm_1, vm_2, vm_3, vm_4, .ref hs, vm_6, .ref tn, vm_8, vm_9, vm_10, vm_11, vm_12, vm_13, vm_14, vm_15, vm_16, vm_17, vm_18, vm_19, vm_20, vm_21, vm_22, vm_23])), (hs, .inl (cI, 45, .inl f)), (tn, .inl (cI, 45, .inl g))] := hD
  refine lv_aload_n hx hb dX6_filled_5 rfl (lv_at hl 0 rfl) ?_
  refine lv_iload_n hx hb dX6_filled_6 rfl (lv_at hl 1 rfl) ?_
  refine wt_rV (As := [.int a1]) (rest := []) ⟨hx, hb, hml, hown, hts⟩ (c_X6_isTube l D cI cZ cH md hs R T f a1 (.int 0) vm_1 vm_2 vm_3 vm_4 vm_6 (.ref tn) vm_8 vm_9 vm_10 vm_11 vm_12 vm_13 vm_14 vm_15 vm_16 vm_17 vm_18 vm_19 vm_20 vm_21 vm_22 vm_23 (by first | assumption | omega) (by first | assumption | omega) (by first | assumption | omega)) (cwV 1 hts gX6_filled_X6_isTube rfl rfl rfl (by decide +kernel) ⟨Nat.le_of_ble_eq_true rfl, Nat.le_of_ble_eq_true rfl⟩) hK hP [0, 1] rfl (va_recv hK.1 hP (ci := 6) (q0 := 0) rfl rfl) rfl hl.1 rfl (Nat.le_of_ble_eq_true rfl) dX6_filled_7 ⟨Nat.le_of_ble_eq_true rfl, Nat.le_of_ble_eq_true rfl⟩ (fun r_1 e_2 => ?_)
  subst e_2
  refine lv_if_ne (tgt := 16) hx hb dX6_filled_10 (by decide) (fun c_3 => ?_) (fun c_3 => ?_)
  · skip
    obtain ⟨j_4, hj_4, rfl⟩ := wI_natT (T := T) (by omega) c_3
    refine lv_aload_n hx hb dX6_filled_16 rfl (lv_at hl 0 rfl) ?_
    refine wt_goV (wr := []) (wt_runV (As := []) (rest := []) ⟨hx, hb, hml, hown, hts⟩ (c_X6_layThen l D cI cZ cH md hs R T f tn g (.int 0) vm_1 vm_2 vm_3 vm_4 vm_6 vm_8 vm_9 vm_10 vm_11 vm_12 vm_13 vm_14 vm_15 vm_16 vm_17 vm_18 vm_19 vm_20 vm_21 vm_22 vm_23 (by first | assumption | omega) (by first | assumption | omega) (by first | assumption | omega)) (cwV 0 hts gX6_filled_X6_layThen rfl rfl rfl (by decide +kernel) ⟨Nat.le_of_ble_eq_true rfl, Nat.le_of_ble_eq_true rfl⟩) hK hP hD [0, 1, 2] rfl (by decide) (va_recv hK.1 hP (ci := 6) (q0 := 0) rfl rfl) rfl hl.1 rfl (Nat.le_of_ble_eq_true rfl) dX6_filled_17 ⟨Nat.le_of_ble_eq_true rfl, Nat.le_of_ble_eq_true rfl⟩) hP hD hS hA [0, 1, 2] [] rfl rfl (by decide) (by decide) (fun w_6 H locs h_7 hP hD hS => ?_)
    obtain ⟨g2_8, rfl, x_9⟩ := h_7
    have hP : va_P D vwCl [(md, .inr (6, [.int 0, vm_1, vm_2, vm_3, vm_4, .ref hs, vm_6, .ref tn, vm_8, vm_9, vm_10, vm_11, vm_12, vm_13, vm_14, vm_15, vm_16, vm_17, vm_18, vm_19, vm_20, vm_21, vm_22, vm_23])), (hs, .inl (cI, 45, .inl f)), (tn, .inl (cI, 45, .inl g2_8))] H := hP
    have hD : va_D A [(md, .inr (6, [.int 0, vm_1, vm_2, vm_3, vm_4, .ref hs, vm_6, .ref tn, vm_8, vm_9, vm_10, vm_11, vm_12, vm_13, vm_14, vm_15, vm_16, vm_17, vm_18, vm_19, vm_20, vm_21, vm_22, vm_23])), (hs, .inl (cI, 45, .inl f)), (tn, .inl (cI, 45, .inl g2_8))] := hD
    refine lv_iconst (v := 0) hx hb dX6_filled_20 (by decide) ?_
    refine lv_istore_n (lv' := [(2, .int 0), (0, .ref md), (1, .int (nI j_4))]) hx hb dX6_filled_21 rfl hl (by decide) rfl (fun ls hl => ?_)
    have loop22 : ∀ (k i_10 : Nat) (g2_8_11 : Nat → Int32) (H : Heap) (locs : List Loc) (ls : Array Slot), i_10 + k = 60 + 1 → (rk R T g2_8_11) → va_P D vwCl [(md, .inr (6, [.int 0, vm_1, vm_2, vm_3, vm_4, .ref hs, vm_6, .ref tn, vm_8, vm_9, vm_10, vm_11, vm_12, vm_13, vm_14, vm_15, vm_16, vm_17, vm_18, vm_19, vm_20, vm_21, vm_22, vm_23])), (hs, .inl (cI, 45, .inl f)), (tn, .inl (cI, 45, .inl g2_8_11))] H → va_D A [(md, .inr (6, [.int 0, vm_1, vm_2, vm_3, vm_4, .ref hs, vm_6, .ref tn, vm_8, vm_9, vm_10, vm_11, vm_12, vm_13, vm_14, vm_15, vm_16, vm_17, vm_18, vm_19, vm_20, vm_21, vm_22, vm_23])), (hs, .inl (cI, 45, .inl f)), (tn, .inl (cI, 45, .inl g2_8_11))] → va_S A s.heap H locs → lv_has ls 3 [(2, .int (nI i_10)), (0, .ref md), (1, .int (nI j_4))] → W p l e ({ frames := 4, cells := 0, slots := 0, locals := 91 } : Room) s m ([.ref md, .int (nI j_4)] : List Value).toArray below meth c H locs 0 0 (MQ below (wt_QI D (fun r w => ∃ (g2 : Nat → Int32), w = [(md, .inr (6, [.int 0, vm_1, vm_2, vm_3, vm_4, .ref hs, vm_6, .ref tn, vm_8, vm_9, vm_10, vm_11, vm_12, vm_13, vm_14, vm_15, vm_16, vm_17, vm_18, vm_19, vm_20, vm_21, vm_22, vm_23])), (hs, .inl (cI, 45, .inl f)), (tn, .inl (cI, 45, .inl g2))]) A) ([.ref md, .int (nI j_4)] : List Value).toArray s 0 0 A) (F0 m 22 ls []) := by
      intro k
      induction k with
      | zero =>
        intro i_10 g2_8_11 H locs ls hik rk_12 hP hD hS hl
        refine lv_iload_n hx hb dX6_filled_22 rfl (lv_at hl 0 rfl) ?_
        refine lv_bipush (v := 60) hx hb dX6_filled_23 (by decide) ?_
        refine lv_icmp_gt (tgt := 64) hx hb dX6_filled_25 (by decide) (fun _ => ?_) (fun h => absurd (nI_lt (a := 60) (b := i_10) (by omega) (by omega)) h)
        refine lv_ldc hx hb hown wc90 dX6_filled_64 ?_
        have hP9 := hP.sub (ws' := [(md, .inr (6, [.int 0, vm_1, vm_2, vm_3, vm_4, .ref hs, vm_6, .ref tn, vm_8, vm_9, vm_10, vm_11, vm_12, vm_13, vm_14, vm_15, vm_16, vm_17, vm_18, vm_19, vm_20, vm_21, vm_22, vm_23])), (hs, .inl (cI, 45, .inl f)), (tn, .inl (cI, 45, .inl g2_8_11))]) [0, 1, 2] rfl
        have hD9 := hD.sub (ws' := [(md, .inr (6, [.int 0, vm_1, vm_2, vm_3, vm_4, .ref hs, vm_6, .ref tn, vm_8, vm_9, vm_10, vm_11, vm_12, vm_13, vm_14, vm_15, vm_16, vm_17, vm_18, vm_19, vm_20, vm_21, vm_22, vm_23])), (hs, .inl (cI, 45, .inl f)), (tn, .inl (cI, 45, .inl g2_8_11))]) [0, 1, 2] (by decide) rfl
        exact wt_iret hx hb hr hlocks hP9 hD9 hS ⟨g2_8_11, rfl⟩ dX6_filled_66
      | succ k ih22 =>
        intro i_10 g2_8_11 H locs ls hik rk_12 hP hD hS hl
        refine lv_iload_n hx hb dX6_filled_22 rfl (lv_at hl 0 rfl) ?_
        refine lv_bipush (v := 60) hx hb dX6_filled_23 (by decide) ?_
        refine lv_icmp_gt (tgt := 64) hx hb dX6_filled_25 (by decide) (fun h => absurd h (nI_nlt (a := 60) (b := i_10) (by omega) (by omega))) (fun _ => ?_)
        refine lv_aload_n hx hb dX6_filled_28 rfl (lv_at hl 1 rfl) ?_
        refine va_get (D := D) (ci := 6) (v := .ref tn) (C := RX6) (T := TX6) (N := 24) hx hb hts hi6 hown hK.1 hP 0 rfl rfl 7 (by decide) wf25 (fun _ h9 => h9) rfl dX6_filled_29 ?_
        refine lv_iload_n hx hb dX6_filled_32 rfl (lv_at hl 2 rfl) ?_
        refine lv_iconst (v := 4) hx hb dX6_filled_33 (by decide) ?_
        refine wt_rS (As := [.ref tn, .int (nI j_4), .int 4]) (rest := []) ⟨hx, hb, hml, hown, hts⟩ (c_X6_of_w l D cI cZ cH tn R T g2_8_11 j_4 4 (by first | assumption | omega) (by first | assumption | omega) (by first | assumption | omega) (by first | assumption | omega) (by first | assumption | omega)) (va_cwS 3 hts gX6_filled_X6_of rfl rfl rfl (by decide +kernel) ⟨Nat.le_of_ble_eq_true rfl, Nat.le_of_ble_eq_true rfl⟩) hK hP [2] rfl rfl hl.1 rfl (Nat.le_of_ble_eq_true rfl) dX6_filled_34 ⟨Nat.le_of_ble_eq_true rfl, Nat.le_of_ble_eq_true rfl⟩ (fun r_13 e_14 => ?_)
        refine lv_aload_n hx hb dX6_filled_37 rfl (lv_at hl 1 rfl) ?_
        refine va_get (D := D) (ci := 6) (v := .ref tn) (C := RX6) (T := TX6) (N := 24) hx hb hts hi6 hown hK.1 hP 0 rfl rfl 7 (by decide) wf25 (fun _ h9 => h9) rfl dX6_filled_38 ?_
        refine lv_iload_n hx hb dX6_filled_41 rfl (lv_at hl 2 rfl) ?_
        refine lv_iconst (v := 3) hx hb dX6_filled_42 (by decide) ?_
        refine wt_rS (As := [.ref tn, .int (nI j_4), .int 3]) (rest := [.int r_13]) ⟨hx, hb, hml, hown, hts⟩ (c_X6_of_w l D cI cZ cH tn R T g2_8_11 j_4 3 (by first | assumption | omega) (by first | assumption | omega) (by first | assumption | omega) (by first | assumption | omega) (by first | assumption | omega)) (va_cwS 3 hts gX6_filled_X6_of rfl rfl rfl (by decide +kernel) ⟨Nat.le_of_ble_eq_true rfl, Nat.le_of_ble_eq_true rfl⟩) hK hP [2] rfl rfl hl.1 rfl (Nat.le_of_ble_eq_true rfl) dX6_filled_43 ⟨Nat.le_of_ble_eq_true rfl, Nat.le_of_ble_eq_true rfl⟩ (fun r_15 e_16 => ?_)
        refine lv_icmp_ne (tgt := 51) hx hb dX6_filled_46 (by decide) (fun c_17 => ?_) (fun c_17 => ?_)
        · skip
          refine lv_aload_n hx hb dX6_filled_51 rfl (lv_at hl 1 rfl) ?_
          refine va_get (D := D) (ci := 6) (v := .ref tn) (C := RX6) (T := TX6) (N := 24) hx hb hts hi6 hown hK.1 hP 0 rfl rfl 7 (by decide) wf25 (fun _ h9 => h9) rfl dX6_filled_52 ?_
          refine wt_goV (wr := [(md, .inr (6, [.int 0, vm_1, vm_2, vm_3, vm_4, .ref hs, vm_6, .ref tn, vm_8, vm_9, vm_10, vm_11, vm_12, vm_13, vm_14, vm_15, vm_16, vm_17, vm_18, vm_19, vm_20, vm_21, vm_22, vm_23])), (hs, .inl (cI, 45, .inl f))]) (wt_runS (As := [.ref tn]) (rest := []) ⟨hx, hb, hml, hown, hts⟩ (c_X6_minute l D cI cZ cH tn R T g2_8_11 (by first | assumption | omega) (by first | assumption | omega) (by first | assumption | omega)) (va_cwS 1 hts gX6_filled_X6_minute rfl rfl rfl (by decide +kernel) ⟨Nat.le_of_ble_eq_true rfl, Nat.le_of_ble_eq_true rfl⟩) hK hP hD [2] rfl (by decide) rfl hl.1 rfl (Nat.le_of_ble_eq_true rfl) dX6_filled_55 ⟨Nat.le_of_ble_eq_true rfl, Nat.le_of_ble_eq_true rfl⟩) hP hD hS hA [2] [0, 1] rfl rfl (by decide) (by decide) (fun w_19 H locs h_20 hP hD hS => ?_)
          obtain ⟨f2_21, rfl, x_22⟩ := h_20
          have hP : va_P D vwCl [(md, .inr (6, [.int 0, vm_1, vm_2, vm_3, vm_4, .ref hs, vm_6, .ref tn, vm_8, vm_9, vm_10, vm_11, vm_12, vm_13, vm_14, vm_15, vm_16, vm_17, vm_18, vm_19, vm_20, vm_21, vm_22, vm_23])), (hs, .inl (cI, 45, .inl f)), (tn, .inl (cI, 45, .inl f2_21))] H := hP
          have hD : va_D A [(md, .inr (6, [.int 0, vm_1, vm_2, vm_3, vm_4, .ref hs, vm_6, .ref tn, vm_8, vm_9, vm_10, vm_11, vm_12, vm_13, vm_14, vm_15, vm_16, vm_17, vm_18, vm_19, vm_20, vm_21, vm_22, vm_23])), (hs, .inl (cI, 45, .inl f)), (tn, .inl (cI, 45, .inl f2_21))] := hD
          refine lv_iinc (v := nI (i_10 + 1)) (lv' := [(2, .int (nI (i_10 + 1))), (0, .ref md), (1, .int (nI j_4))]) hx hb dX6_filled_58 hl (k := 0) rfl (nI_add i_10 1) (by decide) rfl (fun ls hl => ?_)
          refine lv_goto (tgt := 22) hx hb dX6_filled_61 (by decide) ?_
          exact ih22 ((i_10 + 1)) f2_21 H locs ls (by omega) x_22 hP hD hS (lv_sub hl [0, 1, 2] rfl)
        · skip
          refine lv_iload_n hx hb dX6_filled_49 rfl (lv_at hl 0 rfl) ?_
          have hP9 := hP.sub (ws' := [(md, .inr (6, [.int 0, vm_1, vm_2, vm_3, vm_4, .ref hs, vm_6, .ref tn, vm_8, vm_9, vm_10, vm_11, vm_12, vm_13, vm_14, vm_15, vm_16, vm_17, vm_18, vm_19, vm_20, vm_21, vm_22, vm_23])), (hs, .inl (cI, 45, .inl f)), (tn, .inl (cI, 45, .inl g2_8_11))]) [0, 1, 2] rfl
          have hD9 := hD.sub (ws' := [(md, .inr (6, [.int 0, vm_1, vm_2, vm_3, vm_4, .ref hs, vm_6, .ref tn, vm_8, vm_9, vm_10, vm_11, vm_12, vm_13, vm_14, vm_15, vm_16, vm_17, vm_18, vm_19, vm_20, vm_21, vm_22, vm_23])), (hs, .inl (cI, 45, .inl f)), (tn, .inl (cI, 45, .inl g2_8_11))]) [0, 1, 2] (by decide) rfl
          exact wt_iret hx hb hr hlocks hP9 hD9 hS ⟨g2_8_11, rfl⟩ dX6_filled_50
    exact loop22 ((60 + 1) - 0) (0) g2_8 _ _ ls (by omega) x_9 hP hD hS hl
  · skip
    refine lv_ldc hx hb hown wc67 dX6_filled_13 ?_
    have hP9 := hP.sub (ws' := [(md, .inr (6, [.int 0, vm_1, vm_2, vm_3, vm_4, .ref hs, vm_6, .ref tn, vm_8, vm_9, vm_10, vm_11, vm_12, vm_13, vm_14, vm_15, vm_16, vm_17, vm_18, vm_19, vm_20, vm_21, vm_22, vm_23])), (hs, .inl (cI, 45, .inl f)), (tn, .inl (cI, 45, .inl g))]) [0, 1, 2] rfl
    have hD9 := hD.sub (ws' := [(md, .inr (6, [.int 0, vm_1, vm_2, vm_3, vm_4, .ref hs, vm_6, .ref tn, vm_8, vm_9, vm_10, vm_11, vm_12, vm_13, vm_14, vm_15, vm_16, vm_17, vm_18, vm_19, vm_20, vm_21, vm_22, vm_23])), (hs, .inl (cI, 45, .inl f)), (tn, .inl (cI, 45, .inl g))]) [0, 1, 2] (by decide) rfl
    exact wt_iret hx hb hr hlocks hP9 hD9 hS ⟨g, rfl⟩ dX6_filled_15
set_option maxHeartbeats 4000000 in
set_option maxRecDepth 100000 in
theorem c_X6_layOut (l : Launch) (D : va_G) (cI cZ cH : ClassId) (md hs : Nat) (R T : Nat) (f : Nat → Int32) (tn : Nat) (g : Nat → Int32) (set : Int32) (vm_0 vm_1 vm_2 vm_3 vm_4 vm_6 vm_8 vm_9 vm_10 vm_11 vm_12 vm_13 vm_14 vm_15 vm_16 vm_17 vm_18 vm_19 vm_20 vm_21 vm_22 vm_23 : Value) (hR5 : R ≤ 5) (hT6 : T ≤ 6) (hrk : rk R T f) : wt_M l yX6_layOut wsX6_layOut ({ frames := 1, cells := 0, slots := 0, locals := 23 } : Room) D (wt_T cI cZ cH) [.ref md, .int set] [(md, .inr (6, [vm_0, vm_1, vm_2, vm_3, vm_4, .ref hs, vm_6, .ref tn, vm_8, vm_9, vm_10, vm_11, vm_12, vm_13, vm_14, vm_15, vm_16, vm_17, vm_18, vm_19, vm_20, vm_21, vm_22, vm_23])), (hs, .inl (cI, 45, .inl f)), (tn, .inl (cI, 45, .inl g))] (wt_QV D (fun w => ∃ (g2 : Nat → Int32), w = [(md, .inr (6, [vm_0, vm_1, vm_2, vm_3, vm_4, .ref hs, vm_6, .ref tn, vm_8, vm_9, vm_10, vm_11, vm_12, vm_13, vm_14, vm_15, vm_16, vm_17, vm_18, vm_19, vm_20, vm_21, vm_22, vm_23])), (hs, .inl (cI, 45, .inl f)), (tn, .inl (cI, 45, .inl g2))] ∧ rk R T g2)) := by
  refine wt_M.ofW (cc := cX6_layOut) (maxL := 3) (ret := none) (by decide) rfl (Nat.le_of_ble_eq_true rfl) ?_
  intro p e s m below meth c A ls hx hb hr hts hown hlocks hml hnm hP hK hD hA hS hl
  have hP : va_P D vwCl [(md, .inr (6, [vm_0, vm_1, vm_2, vm_3, vm_4, .ref hs, vm_6, .ref tn, vm_8, vm_9, vm_10, vm_11, vm_12, vm_13, vm_14, vm_15, vm_16, vm_17, vm_18, vm_19, vm_20, vm_21, vm_22, vm_23])), (hs, .inl (cI, 45, .inl f)), (tn, .inl (cI, 45, .inl g))] s.heap := hP
  have hown : s.vm.findClass RX6 = some m.cls := hown
  have hl : lv_has ls 3 [(0, .ref md), (1, .int set)] := hl
  have hi6 : ∀ w ∈ u_ws RX6 TX6 24, w ∈ wsX6_layOut := by decide +kernel
  have wf19 := hts (.fieldLink RX6 19 "WarmTubesModel" "house" "[I") (by decide +kernel)
  have wf25 := hts (.fieldLink RX6 25 "WarmTubesModel" "then" "[I") (by decide +kernel)
  refine lv_aload_n hx hb dX6_layOut_0 rfl (lv_at hl 0 rfl) ?_
  refine wt_goV (wr := []) (wt_runV (As := []) (rest := []) ⟨hx, hb, hml, hown, hts⟩ (c_X6_layThen l D cI cZ cH md hs R T f tn g vm_0 vm_1 vm_2 vm_3 vm_4 vm_6 vm_8 vm_9 vm_10 vm_11 vm_12 vm_13 vm_14 vm_15 vm_16 vm_17 vm_18 vm_19 vm_20 vm_21 vm_22 vm_23 (by first | assumption | omega) (by first | assumption | omega) (by first | assumption | omega)) (cwV 0 hts gX6_layOut_X6_layThen rfl rfl rfl (by decide +kernel) ⟨Nat.le_of_ble_eq_true rfl, Nat.le_of_ble_eq_true rfl⟩) hK hP hD [0, 1, 2] rfl (by decide) (va_recv hK.1 hP (ci := 6) (q0 := 0) rfl rfl) rfl hl.1 rfl (Nat.le_of_ble_eq_true rfl) dX6_layOut_1 ⟨Nat.le_of_ble_eq_true rfl, Nat.le_of_ble_eq_true rfl⟩) hP hD hS hA [0, 1, 2] [] rfl rfl (by decide) (by decide) (fun w_2 H locs h_3 hP hD hS => ?_)
  obtain ⟨g2_4, rfl, x_5⟩ := h_3
  have hP : va_P D vwCl [(md, .inr (6, [vm_0, vm_1, vm_2, vm_3, vm_4, .ref hs, vm_6, .ref tn, vm_8, vm_9, vm_10, vm_11, vm_12, vm_13, vm_14, vm_15, vm_16, vm_17, vm_18, vm_19, vm_20, vm_21, vm_22, vm_23])), (hs, .inl (cI, 45, .inl f)), (tn, .inl (cI, 45, .inl g2_4))] H := hP
  have hD : va_D A [(md, .inr (6, [vm_0, vm_1, vm_2, vm_3, vm_4, .ref hs, vm_6, .ref tn, vm_8, vm_9, vm_10, vm_11, vm_12, vm_13, vm_14, vm_15, vm_16, vm_17, vm_18, vm_19, vm_20, vm_21, vm_22, vm_23])), (hs, .inl (cI, 45, .inl f)), (tn, .inl (cI, 45, .inl g2_4))] := hD
  refine lv_iconst (v := 0) hx hb dX6_layOut_4 (by decide) ?_
  refine lv_istore_n (lv' := [(2, .int 0), (0, .ref md), (1, .int set)]) hx hb dX6_layOut_5 rfl hl (by decide) rfl (fun ls hl => ?_)
  have loop6 : ∀ (k i_6 : Nat) (g2_4_7 : Nat → Int32) (H : Heap) (locs : List Loc) (ls : Array Slot), i_6 + k = T → (rk R T g2_4_7) → va_P D vwCl [(md, .inr (6, [vm_0, vm_1, vm_2, vm_3, vm_4, .ref hs, vm_6, .ref tn, vm_8, vm_9, vm_10, vm_11, vm_12, vm_13, vm_14, vm_15, vm_16, vm_17, vm_18, vm_19, vm_20, vm_21, vm_22, vm_23])), (hs, .inl (cI, 45, .inl f)), (tn, .inl (cI, 45, .inl g2_4_7))] H → va_D A [(md, .inr (6, [vm_0, vm_1, vm_2, vm_3, vm_4, .ref hs, vm_6, .ref tn, vm_8, vm_9, vm_10, vm_11, vm_12, vm_13, vm_14, vm_15, vm_16, vm_17, vm_18, vm_19, vm_20, vm_21, vm_22, vm_23])), (hs, .inl (cI, 45, .inl f)), (tn, .inl (cI, 45, .inl g2_4_7))] → va_S A s.heap H locs → lv_has ls 3 [(2, .int (nI i_6)), (0, .ref md), (1, .int set)] → W p l e ({ frames := 1, cells := 0, slots := 0, locals := 23 } : Room) s m ([.ref md, .int set] : List Value).toArray below meth c H locs 0 0 (MQ below (wt_QV D (fun w => ∃ (g2 : Nat → Int32), w = [(md, .inr (6, [vm_0, vm_1, vm_2, vm_3, vm_4, .ref hs, vm_6, .ref tn, vm_8, vm_9, vm_10, vm_11, vm_12, vm_13, vm_14, vm_15, vm_16, vm_17, vm_18, vm_19, vm_20, vm_21, vm_22, vm_23])), (hs, .inl (cI, 45, .inl f)), (tn, .inl (cI, 45, .inl g2))] ∧ rk R T g2) A) ([.ref md, .int set] : List Value).toArray s 0 0 A) (F0 m 6 ls []) := by
    intro k
    induction k with
    | zero =>
      intro i_6 g2_4_7 H locs ls hik rk_8 hP hD hS hl
      refine lv_iload_n hx hb dX6_layOut_6 rfl (lv_at hl 0 rfl) ?_
      refine lv_aload_n hx hb dX6_layOut_7 rfl (lv_at hl 1 rfl) ?_
      refine va_get (D := D) (ci := 6) (v := .ref hs) (C := RX6) (T := TX6) (N := 24) hx hb hts hi6 hown hK.1 hP 0 rfl rfl 5 (by decide) wf19 (fun _ h9 => h9) rfl dX6_layOut_8 ?_
      refine lv_iconst (v := 1) hx hb dX6_layOut_11 (by decide) ?_
      refine va_iald hx hb hK.1 hP 1 0 rfl rfl (by rw [vp_in_iff]; decide) dX6_layOut_12 ?_
      refine wt_top (z := nI T) (hrk.2.1) ?_
      refine lv_icmp_ge (tgt := 45) hx hb dX6_layOut_13 (by decide) (fun _ => ?_) (fun h => absurd (nI_le (a := T) (b := i_6) (by omega) (by omega)) h)
      have hP9 := hP.sub (ws' := [(md, .inr (6, [vm_0, vm_1, vm_2, vm_3, vm_4, .ref hs, vm_6, .ref tn, vm_8, vm_9, vm_10, vm_11, vm_12, vm_13, vm_14, vm_15, vm_16, vm_17, vm_18, vm_19, vm_20, vm_21, vm_22, vm_23])), (hs, .inl (cI, 45, .inl f)), (tn, .inl (cI, 45, .inl g2_4_7))]) [0, 1, 2] rfl
      have hD9 := hD.sub (ws' := [(md, .inr (6, [vm_0, vm_1, vm_2, vm_3, vm_4, .ref hs, vm_6, .ref tn, vm_8, vm_9, vm_10, vm_11, vm_12, vm_13, vm_14, vm_15, vm_16, vm_17, vm_18, vm_19, vm_20, vm_21, vm_22, vm_23])), (hs, .inl (cI, 45, .inl f)), (tn, .inl (cI, 45, .inl g2_4_7))]) [0, 1, 2] (by decide) rfl
      exact wt_vret hx hb hr hlocks hP9 hD9 hS ⟨g2_4_7, rfl, rk_8⟩ dX6_layOut_45
    | succ k ih6 =>
      intro i_6 g2_4_7 H locs ls hik rk_8 hP hD hS hl
      refine lv_iload_n hx hb dX6_layOut_6 rfl (lv_at hl 0 rfl) ?_
      refine lv_aload_n hx hb dX6_layOut_7 rfl (lv_at hl 1 rfl) ?_
      refine va_get (D := D) (ci := 6) (v := .ref hs) (C := RX6) (T := TX6) (N := 24) hx hb hts hi6 hown hK.1 hP 0 rfl rfl 5 (by decide) wf19 (fun _ h9 => h9) rfl dX6_layOut_8 ?_
      refine lv_iconst (v := 1) hx hb dX6_layOut_11 (by decide) ?_
      refine va_iald hx hb hK.1 hP 1 0 rfl rfl (by rw [vp_in_iff]; decide) dX6_layOut_12 ?_
      refine wt_top (z := nI T) (hrk.2.1) ?_
      refine lv_icmp_ge (tgt := 45) hx hb dX6_layOut_13 (by decide) (fun h => absurd h (nI_ge (a := i_6) (b := T) (by omega) (by omega))) (fun _ => ?_)
      refine lv_iload_n hx hb dX6_layOut_16 rfl (lv_at hl 2 rfl) ?_
      refine lv_iload_n hx hb dX6_layOut_17 rfl (lv_at hl 0 rfl) ?_
      refine wt_rS (As := [.int set, .int (nI i_6)]) (rest := []) ⟨hx, hb, hml, hown, hts⟩ (c_X6_has l D cI cZ cH set (nI i_6)) (va_cwS 2 hts gX6_layOut_X6_has rfl rfl rfl (by decide +kernel) ⟨Nat.le_of_ble_eq_true rfl, Nat.le_of_ble_eq_true rfl⟩) hK hP [] rfl rfl hl.1 rfl (Nat.le_of_ble_eq_true rfl) dX6_layOut_18 ⟨Nat.le_of_ble_eq_true rfl, Nat.le_of_ble_eq_true rfl⟩ (fun r_9 e_10 => ?_)
      refine lv_if_eq (tgt := 39) hx hb dX6_layOut_21 (by decide) (fun c_11 => ?_) (fun c_11 => ?_)
      · skip
        refine lv_iinc (v := nI (i_6 + 1)) (lv' := [(2, .int (nI (i_6 + 1))), (0, .ref md), (1, .int set)]) hx hb dX6_layOut_39 hl (k := 0) rfl (nI_add i_6 1) (by decide) rfl (fun ls hl => ?_)
        refine lv_goto (tgt := 6) hx hb dX6_layOut_42 (by decide) ?_
        exact ih6 ((i_6 + 1)) g2_4_7 H locs ls (by omega) rk_8 hP hD hS (lv_sub hl [0, 1, 2] rfl)
      · skip
        refine lv_aload_n hx hb dX6_layOut_24 rfl (lv_at hl 1 rfl) ?_
        refine va_get (D := D) (ci := 6) (v := .ref tn) (C := RX6) (T := TX6) (N := 24) hx hb hts hi6 hown hK.1 hP 0 rfl rfl 7 (by decide) wf25 (fun _ h9 => h9) rfl dX6_layOut_25 ?_
        refine lv_iload_n hx hb dX6_layOut_28 rfl (lv_at hl 0 rfl) ?_
        refine lv_iconst (v := 1) hx hb dX6_layOut_29 (by decide) ?_
        refine lv_aload_n hx hb dX6_layOut_30 rfl (lv_at hl 1 rfl) ?_
        refine va_get (D := D) (ci := 6) (v := .ref hs) (C := RX6) (T := TX6) (N := 24) hx hb hts hi6 hown hK.1 hP 0 rfl rfl 5 (by decide) wf19 (fun _ h9 => h9) rfl dX6_layOut_31 ?_
        refine lv_iconst (v := 0) hx hb dX6_layOut_34 (by decide) ?_
        refine va_iald hx hb hK.1 hP 1 0 rfl rfl (by rw [vp_in_iff]; decide) dX6_layOut_35 ?_
        refine wt_top (z := nI R) (hrk.1) ?_
        refine wt_goV (wr := [(md, .inr (6, [vm_0, vm_1, vm_2, vm_3, vm_4, .ref hs, vm_6, .ref tn, vm_8, vm_9, vm_10, vm_11, vm_12, vm_13, vm_14, vm_15, vm_16, vm_17, vm_18, vm_19, vm_20, vm_21, vm_22, vm_23])), (hs, .inl (cI, 45, .inl f))]) (wt_runS (As := [.ref tn, .int (nI i_6), .int 1, .int (nI R)]) (rest := []) ⟨hx, hb, hml, hown, hts⟩ (c_X6_be_1 l D cI cZ cH tn R T g2_4_7 i_6 R (by first | assumption | omega) (by first | assumption | omega) (by first | assumption | omega) (by first | assumption | omega) (by first | assumption | omega)) (va_cwS 4 hts gX6_layOut_X6_be rfl rfl rfl (by decide +kernel) ⟨Nat.le_of_ble_eq_true rfl, Nat.le_of_ble_eq_true rfl⟩) hK hP hD [2] rfl (by decide) rfl hl.1 rfl (Nat.le_of_ble_eq_true rfl) dX6_layOut_36 ⟨Nat.le_of_ble_eq_true rfl, Nat.le_of_ble_eq_true rfl⟩) hP hD hS hA [2] [0, 1] rfl rfl (by decide) (by decide) (fun w_13 H locs h_14 hP hD hS => ?_)
        obtain ⟨f2_15, rfl, x_16⟩ := h_14
        have hP : va_P D vwCl [(md, .inr (6, [vm_0, vm_1, vm_2, vm_3, vm_4, .ref hs, vm_6, .ref tn, vm_8, vm_9, vm_10, vm_11, vm_12, vm_13, vm_14, vm_15, vm_16, vm_17, vm_18, vm_19, vm_20, vm_21, vm_22, vm_23])), (hs, .inl (cI, 45, .inl f)), (tn, .inl (cI, 45, .inl f2_15))] H := hP
        have hD : va_D A [(md, .inr (6, [vm_0, vm_1, vm_2, vm_3, vm_4, .ref hs, vm_6, .ref tn, vm_8, vm_9, vm_10, vm_11, vm_12, vm_13, vm_14, vm_15, vm_16, vm_17, vm_18, vm_19, vm_20, vm_21, vm_22, vm_23])), (hs, .inl (cI, 45, .inl f)), (tn, .inl (cI, 45, .inl f2_15))] := hD
        refine lv_iinc (v := nI (i_6 + 1)) (lv' := [(2, .int (nI (i_6 + 1))), (0, .ref md), (1, .int set)]) hx hb dX6_layOut_39 hl (k := 0) rfl (nI_add i_6 1) (by decide) rfl (fun ls hl => ?_)
        refine lv_goto (tgt := 6) hx hb dX6_layOut_42 (by decide) ?_
        exact ih6 ((i_6 + 1)) f2_15 H locs ls (by omega) x_16 hP hD hS (lv_sub hl [0, 1, 2] rfl)
  exact loop6 (T - 0) (0) g2_4 _ _ ls (by omega) x_5 hP hD hS hl
set_option maxHeartbeats 4000000 in
set_option maxRecDepth 100000 in
theorem c_X6_layShaken (l : Launch) (D : va_G) (cI cZ cH : ClassId) (md hs : Nat) (R T : Nat) (f : Nat → Int32) (tn : Nat) (g : Nat → Int32) (set : Int32) (vm_0 vm_1 vm_2 vm_3 vm_4 vm_6 vm_8 vm_9 vm_10 vm_11 vm_12 vm_13 vm_14 vm_15 vm_16 vm_17 vm_18 vm_19 vm_20 vm_21 vm_22 vm_23 : Value) (hR5 : R ≤ 5) (hT6 : T ≤ 6) (hrk : rk R T f) : wt_M l yX6_layShaken wsX6_layShaken ({ frames := 3, cells := 0, slots := 0, locals := 66 } : Room) D (wt_T cI cZ cH) [.ref md, .int set] [(md, .inr (6, [vm_0, vm_1, vm_2, vm_3, vm_4, .ref hs, vm_6, .ref tn, vm_8, vm_9, vm_10, vm_11, vm_12, vm_13, vm_14, vm_15, vm_16, vm_17, vm_18, vm_19, vm_20, vm_21, vm_22, vm_23])), (hs, .inl (cI, 45, .inl f)), (tn, .inl (cI, 45, .inl g))] (wt_QV D (fun w => ∃ (g2 : Nat → Int32), w = [(md, .inr (6, [vm_0, vm_1, vm_2, vm_3, vm_4, .ref hs, vm_6, .ref tn, vm_8, vm_9, vm_10, vm_11, vm_12, vm_13, vm_14, vm_15, vm_16, vm_17, vm_18, vm_19, vm_20, vm_21, vm_22, vm_23])), (hs, .inl (cI, 45, .inl f)), (tn, .inl (cI, 45, .inl g2))] ∧ rk R T g2)) := by
  refine wt_M.ofW (cc := cX6_layShaken) (maxL := 4) (ret := none) (by decide) rfl (Nat.le_of_ble_eq_true rfl) ?_
  intro p e s m below meth c A ls hx hb hr hts hown hlocks hml hnm hP hK hD hA hS hl
  have hP : va_P D vwCl [(md, .inr (6, [vm_0, vm_1, vm_2, vm_3, vm_4, .ref hs, vm_6, .ref tn, vm_8, vm_9, vm_10, vm_11, vm_12, vm_13, vm_14, vm_15, vm_16, vm_17, vm_18, vm_19, vm_20, vm_21, vm_22, vm_23])), (hs, .inl (cI, 45, .inl f)), (tn, .inl (cI, 45, .inl g))] s.heap := hP
  have hown : s.vm.findClass RX6 = some m.cls := hown
  have hl : lv_has ls 4 [(0, .ref md), (1, .int set)] := hl
  have hi6 : ∀ w ∈ u_ws RX6 TX6 24, w ∈ wsX6_layShaken := by decide +kernel
  have wf19 := hts (.fieldLink RX6 19 "WarmTubesModel" "house" "[I") (by decide +kernel)
  have wf25 := hts (.fieldLink RX6 25 "WarmTubesModel" "then" "[I") (by decide +kernel)
  refine lv_aload_n hx hb dX6_layShaken_0 rfl (lv_at hl 0 rfl) ?_
  refine wt_goV (wr := []) (wt_runV (As := []) (rest := []) ⟨hx, hb, hml, hown, hts⟩ (c_X6_layThen l D cI cZ cH md hs R T f tn g vm_0 vm_1 vm_2 vm_3 vm_4 vm_6 vm_8 vm_9 vm_10 vm_11 vm_12 vm_13 vm_14 vm_15 vm_16 vm_17 vm_18 vm_19 vm_20 vm_21 vm_22 vm_23 (by first | assumption | omega) (by first | assumption | omega) (by first | assumption | omega)) (cwV 0 hts gX6_layShaken_X6_layThen rfl rfl rfl (by decide +kernel) ⟨Nat.le_of_ble_eq_true rfl, Nat.le_of_ble_eq_true rfl⟩) hK hP hD [0, 1, 2] rfl (by decide) (va_recv hK.1 hP (ci := 6) (q0 := 0) rfl rfl) rfl hl.1 rfl (Nat.le_of_ble_eq_true rfl) dX6_layShaken_1 ⟨Nat.le_of_ble_eq_true rfl, Nat.le_of_ble_eq_true rfl⟩) hP hD hS hA [0, 1, 2] [] rfl rfl (by decide) (by decide) (fun w_2 H locs h_3 hP hD hS => ?_)
  obtain ⟨g2_4, rfl, x_5⟩ := h_3
  have hP : va_P D vwCl [(md, .inr (6, [vm_0, vm_1, vm_2, vm_3, vm_4, .ref hs, vm_6, .ref tn, vm_8, vm_9, vm_10, vm_11, vm_12, vm_13, vm_14, vm_15, vm_16, vm_17, vm_18, vm_19, vm_20, vm_21, vm_22, vm_23])), (hs, .inl (cI, 45, .inl f)), (tn, .inl (cI, 45, .inl g2_4))] H := hP
  have hD : va_D A [(md, .inr (6, [vm_0, vm_1, vm_2, vm_3, vm_4, .ref hs, vm_6, .ref tn, vm_8, vm_9, vm_10, vm_11, vm_12, vm_13, vm_14, vm_15, vm_16, vm_17, vm_18, vm_19, vm_20, vm_21, vm_22, vm_23])), (hs, .inl (cI, 45, .inl f)), (tn, .inl (cI, 45, .inl g2_4))] := hD
  refine lv_iconst (v := 0) hx hb dX6_layShaken_4 (by decide) ?_
  refine lv_istore_n (lv' := [(2, .int 0), (0, .ref md), (1, .int set)]) hx hb dX6_layShaken_5 rfl hl (by decide) rfl (fun ls hl => ?_)
  have loop6 : ∀ (k i_6 : Nat) (g2_4_7 : Nat → Int32) (H : Heap) (locs : List Loc) (ls : Array Slot), i_6 + k = T → (rk R T g2_4_7) → va_P D vwCl [(md, .inr (6, [vm_0, vm_1, vm_2, vm_3, vm_4, .ref hs, vm_6, .ref tn, vm_8, vm_9, vm_10, vm_11, vm_12, vm_13, vm_14, vm_15, vm_16, vm_17, vm_18, vm_19, vm_20, vm_21, vm_22, vm_23])), (hs, .inl (cI, 45, .inl f)), (tn, .inl (cI, 45, .inl g2_4_7))] H → va_D A [(md, .inr (6, [vm_0, vm_1, vm_2, vm_3, vm_4, .ref hs, vm_6, .ref tn, vm_8, vm_9, vm_10, vm_11, vm_12, vm_13, vm_14, vm_15, vm_16, vm_17, vm_18, vm_19, vm_20, vm_21, vm_22, vm_23])), (hs, .inl (cI, 45, .inl f)), (tn, .inl (cI, 45, .inl g2_4_7))] → va_S A s.heap H locs → lv_has ls 4 [(2, .int (nI i_6)), (0, .ref md), (1, .int set)] → W p l e ({ frames := 3, cells := 0, slots := 0, locals := 66 } : Room) s m ([.ref md, .int set] : List Value).toArray below meth c H locs 0 0 (MQ below (wt_QV D (fun w => ∃ (g2 : Nat → Int32), w = [(md, .inr (6, [vm_0, vm_1, vm_2, vm_3, vm_4, .ref hs, vm_6, .ref tn, vm_8, vm_9, vm_10, vm_11, vm_12, vm_13, vm_14, vm_15, vm_16, vm_17, vm_18, vm_19, vm_20, vm_21, vm_22, vm_23])), (hs, .inl (cI, 45, .inl f)), (tn, .inl (cI, 45, .inl g2))] ∧ rk R T g2) A) ([.ref md, .int set] : List Value).toArray s 0 0 A) (F0 m 6 ls []) := by
    intro k
    induction k with
    | zero =>
      intro i_6 g2_4_7 H locs ls hik rk_8 hP hD hS hl
      refine lv_iload_n hx hb dX6_layShaken_6 rfl (lv_at hl 0 rfl) ?_
      refine lv_aload_n hx hb dX6_layShaken_7 rfl (lv_at hl 1 rfl) ?_
      refine va_get (D := D) (ci := 6) (v := .ref hs) (C := RX6) (T := TX6) (N := 24) hx hb hts hi6 hown hK.1 hP 0 rfl rfl 5 (by decide) wf19 (fun _ h9 => h9) rfl dX6_layShaken_8 ?_
      refine lv_iconst (v := 1) hx hb dX6_layShaken_11 (by decide) ?_
      refine va_iald hx hb hK.1 hP 1 0 rfl rfl (by rw [vp_in_iff]; decide) dX6_layShaken_12 ?_
      refine wt_top (z := nI T) (hrk.2.1) ?_
      refine lv_icmp_ge (tgt := 39) hx hb dX6_layShaken_13 (by decide) (fun _ => ?_) (fun h => absurd (nI_le (a := T) (b := i_6) (by omega) (by omega)) h)
      have hP9 := hP.sub (ws' := [(md, .inr (6, [vm_0, vm_1, vm_2, vm_3, vm_4, .ref hs, vm_6, .ref tn, vm_8, vm_9, vm_10, vm_11, vm_12, vm_13, vm_14, vm_15, vm_16, vm_17, vm_18, vm_19, vm_20, vm_21, vm_22, vm_23])), (hs, .inl (cI, 45, .inl f)), (tn, .inl (cI, 45, .inl g2_4_7))]) [0, 1, 2] rfl
      have hD9 := hD.sub (ws' := [(md, .inr (6, [vm_0, vm_1, vm_2, vm_3, vm_4, .ref hs, vm_6, .ref tn, vm_8, vm_9, vm_10, vm_11, vm_12, vm_13, vm_14, vm_15, vm_16, vm_17, vm_18, vm_19, vm_20, vm_21, vm_22, vm_23])), (hs, .inl (cI, 45, .inl f)), (tn, .inl (cI, 45, .inl g2_4_7))]) [0, 1, 2] (by decide) rfl
      exact wt_vret hx hb hr hlocks hP9 hD9 hS ⟨g2_4_7, rfl, rk_8⟩ dX6_layShaken_39
    | succ k ih6 =>
      intro i_6 g2_4_7 H locs ls hik rk_8 hP hD hS hl
      refine lv_iload_n hx hb dX6_layShaken_6 rfl (lv_at hl 0 rfl) ?_
      refine lv_aload_n hx hb dX6_layShaken_7 rfl (lv_at hl 1 rfl) ?_
      refine va_get (D := D) (ci := 6) (v := .ref hs) (C := RX6) (T := TX6) (N := 24) hx hb hts hi6 hown hK.1 hP 0 rfl rfl 5 (by decide) wf19 (fun _ h9 => h9) rfl dX6_layShaken_8 ?_
      refine lv_iconst (v := 1) hx hb dX6_layShaken_11 (by decide) ?_
      refine va_iald hx hb hK.1 hP 1 0 rfl rfl (by rw [vp_in_iff]; decide) dX6_layShaken_12 ?_
      refine wt_top (z := nI T) (hrk.2.1) ?_
      refine lv_icmp_ge (tgt := 39) hx hb dX6_layShaken_13 (by decide) (fun h => absurd h (nI_ge (a := i_6) (b := T) (by omega) (by omega))) (fun _ => ?_)
      refine lv_iload_n hx hb dX6_layShaken_16 rfl (lv_at hl 2 rfl) ?_
      refine lv_iload_n hx hb dX6_layShaken_17 rfl (lv_at hl 0 rfl) ?_
      refine wt_rS (As := [.int set, .int (nI i_6)]) (rest := []) ⟨hx, hb, hml, hown, hts⟩ (c_X6_has l D cI cZ cH set (nI i_6)) (va_cwS 2 hts gX6_layShaken_X6_has rfl rfl rfl (by decide +kernel) ⟨Nat.le_of_ble_eq_true rfl, Nat.le_of_ble_eq_true rfl⟩) hK hP [] rfl rfl hl.1 rfl (Nat.le_of_ble_eq_true rfl) dX6_layShaken_18 ⟨Nat.le_of_ble_eq_true rfl, Nat.le_of_ble_eq_true rfl⟩ (fun r_9 e_10 => ?_)
      refine lv_if_eq (tgt := 33) hx hb dX6_layShaken_21 (by decide) (fun c_11 => ?_) (fun c_11 => ?_)
      · skip
        refine lv_iinc (v := nI (i_6 + 1)) (lv' := [(2, .int (nI (i_6 + 1))), (0, .ref md), (1, .int set)]) hx hb dX6_layShaken_33 hl (k := 0) rfl (nI_add i_6 1) (by decide) rfl (fun ls hl => ?_)
        refine lv_goto (tgt := 6) hx hb dX6_layShaken_36 (by decide) ?_
        exact ih6 ((i_6 + 1)) g2_4_7 H locs ls (by omega) rk_8 hP hD hS (lv_sub hl [0, 1, 2] rfl)
      · skip
        refine lv_aload_n hx hb dX6_layShaken_24 rfl (lv_at hl 1 rfl) ?_
        refine va_get (D := D) (ci := 6) (v := .ref tn) (C := RX6) (T := TX6) (N := 24) hx hb hts hi6 hown hK.1 hP 0 rfl rfl 7 (by decide) wf25 (fun _ h9 => h9) rfl dX6_layShaken_25 ?_
        refine lv_iload_n hx hb dX6_layShaken_28 rfl (lv_at hl 0 rfl) ?_
        refine wt_goI (wr := [(md, .inr (6, [vm_0, vm_1, vm_2, vm_3, vm_4, .ref hs, vm_6, .ref tn, vm_8, vm_9, vm_10, vm_11, vm_12, vm_13, vm_14, vm_15, vm_16, vm_17, vm_18, vm_19, vm_20, vm_21, vm_22, vm_23])), (hs, .inl (cI, 45, .inl f))]) (wt_runS (As := [.ref tn, .int (nI i_6)]) (rest := []) ⟨hx, hb, hml, hown, hts⟩ (c_X6_shaken l D cI cZ cH tn R T g2_4_7 i_6 (by first | assumption | omega) (by first | assumption | omega) (by first | assumption | omega) (by first | assumption | omega)) (va_cwS 2 hts gX6_layShaken_X6_shaken rfl rfl rfl (by decide +kernel) ⟨Nat.le_of_ble_eq_true rfl, Nat.le_of_ble_eq_true rfl⟩) hK hP hD [2] rfl (by decide) rfl hl.1 rfl (Nat.le_of_ble_eq_true rfl) dX6_layShaken_29 ⟨Nat.le_of_ble_eq_true rfl, Nat.le_of_ble_eq_true rfl⟩) hP hD hS hA [2] [0, 1] rfl rfl (by decide) (by decide) (fun r_12 w_13 H locs h_14 hP hD hS => ?_)
        obtain ⟨f2_15, rfl, x_16⟩ := h_14
        have hP : va_P D vwCl [(md, .inr (6, [vm_0, vm_1, vm_2, vm_3, vm_4, .ref hs, vm_6, .ref tn, vm_8, vm_9, vm_10, vm_11, vm_12, vm_13, vm_14, vm_15, vm_16, vm_17, vm_18, vm_19, vm_20, vm_21, vm_22, vm_23])), (hs, .inl (cI, 45, .inl f)), (tn, .inl (cI, 45, .inl f2_15))] H := hP
        have hD : va_D A [(md, .inr (6, [vm_0, vm_1, vm_2, vm_3, vm_4, .ref hs, vm_6, .ref tn, vm_8, vm_9, vm_10, vm_11, vm_12, vm_13, vm_14, vm_15, vm_16, vm_17, vm_18, vm_19, vm_20, vm_21, vm_22, vm_23])), (hs, .inl (cI, 45, .inl f)), (tn, .inl (cI, 45, .inl f2_15))] := hD
        refine lv_istore_n (lv' := [(3, .int r_12), (2, .int (nI i_6)), (0, .ref md), (1, .int set)]) hx hb dX6_layShaken_32 rfl hl (by decide) rfl (fun ls hl => ?_)
        refine lv_iinc (v := nI (i_6 + 1)) (lv' := [(2, .int (nI (i_6 + 1))), (3, .int r_12), (0, .ref md), (1, .int set)]) hx hb dX6_layShaken_33 hl (k := 1) rfl (nI_add i_6 1) (by decide) rfl (fun ls hl => ?_)
        refine lv_goto (tgt := 6) hx hb dX6_layShaken_36 (by decide) ?_
        exact ih6 ((i_6 + 1)) f2_15 H locs ls (by omega) x_16 hP hD hS (lv_sub hl [0, 2, 3] rfl)
  exact loop6 (T - 0) (0) g2_4 _ _ ls (by omega) x_5 hP hD hS hl
set_option maxHeartbeats 4000000 in
set_option maxRecDepth 100000 in
theorem c_X6_inside (l : Launch) (D : va_G) (cI cZ cH : ClassId) (md hs : Nat) (R T : Nat) (f : Nat → Int32) (vm_0 vm_1 vm_2 vm_3 vm_4 vm_6 vm_7 vm_8 vm_9 vm_10 vm_11 vm_12 vm_13 vm_14 vm_15 vm_16 vm_17 vm_18 vm_19 vm_20 vm_21 vm_22 vm_23 : Value) (hR5 : R ≤ 5) (hT6 : T ≤ 6) (hrk : rk R T f) : wt_R l yX6_inside wsX6_inside ({ frames := 2, cells := 0, slots := 0, locals := 45 } : Room) D (wt_T cI cZ cH) [.ref md] [(md, .inr (6, [vm_0, vm_1, vm_2, vm_3, vm_4, .ref hs, vm_6, vm_7, vm_8, vm_9, vm_10, vm_11, vm_12, vm_13, vm_14, vm_15, vm_16, vm_17, vm_18, vm_19, vm_20, vm_21, vm_22, vm_23])), (hs, .inl (cI, 45, .inl f))] (vp_Si (fun r => ∃ b : Nat, b < 64 ∧ r = nI b)) := by
  refine wt_R.ofW (cc := cX6_inside) (maxL := 1) (ret := (some .int)) (by decide) rfl (Nat.le_of_ble_eq_true rfl) ?_
  intro p e s m below meth c ls hx hb hr hts hown hlocks hml hP hK hl
  have hown : s.vm.findClass RX6 = some m.cls := hown
  have hl : lv_has ls 1 [(0, .ref md)] := hl
  have hi6 : ∀ w ∈ u_ws RX6 TX6 24, w ∈ wsX6_inside := by decide +kernel
  have wf19 := hts (.fieldLink RX6 19 "WarmTubesModel" "house" "[I") (by decide +kernel)
  have hp64 := wt_p64 hT6
  refine lv_iconst (v := 1) hx hb dX6_inside_0 (by decide) ?_
  refine lv_aload_n hx hb dX6_inside_1 rfl (lv_at hl 0 rfl) ?_
  refine va_get (D := D) (ci := 6) (v := .ref hs) (C := RX6) (T := TX6) (N := 24) hx hb hts hi6 hown hK.1 hP 0 rfl rfl 5 (by decide) wf19 (fun _ h9 => h9) rfl dX6_inside_2 ?_
  refine lv_iconst (v := 1) hx hb dX6_inside_5 (by decide) ?_
  refine va_iald hx hb hK.1 hP 1 0 rfl rfl (by rw [vp_in_iff]; decide) dX6_inside_6 ?_
  refine wt_top (z := nI T) (hrk.2.1) ?_
  refine lv_ishl hx hb dX6_inside_7 ?_
  refine wt_top (z := nI (2 ^ T)) (wt_shl1 (by omega)) ?_
  refine lv_iconst (v := 1) hx hb dX6_inside_8 (by decide) ?_
  refine lv_isub hx hb dX6_inside_9 ?_
  refine wt_top (z := nI ((2 ^ T) - 1)) (pk_sub (a := (2 ^ T)) (b := 1) (by omega)) ?_
  refine lv_aload_n hx hb dX6_inside_10 rfl (lv_at hl 0 rfl) ?_
  refine va_get (D := D) (ci := 6) (v := .ref hs) (C := RX6) (T := TX6) (N := 24) hx hb hts hi6 hown hK.1 hP 0 rfl rfl 5 (by decide) wf19 (fun _ h9 => h9) rfl dX6_inside_11 ?_
  refine lv_aload_n hx hb dX6_inside_14 rfl (lv_at hl 0 rfl) ?_
  refine va_get (D := D) (ci := 6) (v := .ref hs) (C := RX6) (T := TX6) (N := 24) hx hb hts hi6 hown hK.1 hP 0 rfl rfl 5 (by decide) wf19 (fun _ h9 => h9) rfl dX6_inside_15 ?_
  refine lv_iconst (v := 0) hx hb dX6_inside_18 (by decide) ?_
  refine va_iald hx hb hK.1 hP 1 0 rfl rfl (by rw [vp_in_iff]; decide) dX6_inside_19 ?_
  refine wt_top (z := nI R) (hrk.1) ?_
  refine wt_rS (As := [.ref hs, .int (nI R)]) (rest := [.int (nI ((2 ^ T) - 1))]) ⟨hx, hb, hml, hown, hts⟩ (c_X6_tubesIn l D cI cZ cH hs R T f (nI R) (by first | assumption | omega) (by first | assumption | omega) (by first | assumption | omega)) (va_cwS 2 hts gX6_inside_X6_tubesIn rfl rfl rfl (by decide +kernel) ⟨Nat.le_of_ble_eq_true rfl, Nat.le_of_ble_eq_true rfl⟩) hK hP [1] rfl rfl hl.1 rfl (Nat.le_of_ble_eq_true rfl) dX6_inside_20 ⟨Nat.le_of_ble_eq_true rfl, Nat.le_of_ble_eq_true rfl⟩ (fun r_1 e_2 => ?_)
  obtain ⟨b_3, e_2, rfl⟩ := e_2
  refine lv_iconst (v := (-1)) hx hb dX6_inside_23 (by decide) ?_
  refine lv_ixor hx hb dX6_inside_24 ?_
  refine lv_topi (fun ov_4 _ => ?_)
  refine lv_iand hx hb dX6_inside_25 ?_
  obtain ⟨nb_5, hnb_5, enb_5⟩ := wt_and64 (m := 2 ^ T - 1) (by omega) ov_4
  refine wt_top (z := nI nb_5) enb_5 ?_
  exact wt_siret hx hb hr hlocks (by exact ⟨nb_5, by omega, rfl⟩) dX6_inside_26
set_option maxHeartbeats 4000000 in
set_option maxRecDepth 100000 in
theorem c_X6_outs (l : Launch) (D : va_G) (cI cZ cH : ClassId) (md hs : Nat) (R T : Nat) (f : Nat → Int32) (tn : Nat) (g : Nat → Int32) (a1 a2 a3 : Int32) (vm_0 vm_1 vm_2 vm_3 vm_4 vm_6 vm_8 vm_9 vm_10 vm_11 vm_12 vm_13 vm_14 vm_15 vm_16 vm_17 vm_18 vm_19 vm_20 vm_21 vm_22 vm_23 : Value) (hR5 : R ≤ 5) (hT6 : T ≤ 6) (hrk : rk R T f) : wt_M l yX6_outs wsX6_outs ({ frames := 4, cells := 0, slots := 0, locals := 91 } : Room) D (wt_T cI cZ cH) [.ref md, .int a1, .int a2, .int a3] [(md, .inr (6, [vm_0, vm_1, vm_2, vm_3, vm_4, .ref hs, vm_6, .ref tn, vm_8, vm_9, vm_10, vm_11, vm_12, vm_13, vm_14, vm_15, vm_16, vm_17, vm_18, vm_19, vm_20, vm_21, vm_22, vm_23])), (hs, .inl (cI, 45, .inl f)), (tn, .inl (cI, 45, .inl g))] (wt_QI D (fun r w => ∃ (g2 : Nat → Int32), w = [(md, .inr (6, [.int 0, vm_1, vm_2, vm_3, vm_4, .ref hs, vm_6, .ref tn, vm_8, vm_9, vm_10, vm_11, vm_12, vm_13, vm_14, vm_15, vm_16, vm_17, vm_18, vm_19, vm_20, vm_21, vm_22, vm_23])), (hs, .inl (cI, 45, .inl f)), (tn, .inl (cI, 45, .inl g2))])) := by
  refine wt_M.ofW (cc := cX6_outs) (maxL := 8) (ret := (some .int)) (by decide) rfl (Nat.le_of_ble_eq_true rfl) ?_
  intro p e s m below meth c A ls hx hb hr hts hown hlocks hml hnm hP hK hD hA hS hl
  have hP : va_P D vwCl [(md, .inr (6, [vm_0, vm_1, vm_2, vm_3, vm_4, .ref hs, vm_6, .ref tn, vm_8, vm_9, vm_10, vm_11, vm_12, vm_13, vm_14, vm_15, vm_16, vm_17, vm_18, vm_19, vm_20, vm_21, vm_22, vm_23])), (hs, .inl (cI, 45, .inl f)), (tn, .inl (cI, 45, .inl g))] s.heap := hP
  have hown : s.vm.findClass RX6 = some m.cls := hown
  have hl : lv_has ls 8 [(0, .ref md), (1, .int a1), (2, .int a2), (3, .int a3)] := hl
  have hi6 : ∀ w ∈ u_ws RX6 TX6 24, w ∈ wsX6_outs := by decide +kernel
  have wc67 := hts (.constant RX6 67 (-1000001)) (by decide +kernel)
  have wc90 := hts (.constant RX6 90 (-1000000)) (by decide +kernel)
  have wf25 := hts (.fieldLink RX6 25 "WarmTubesModel" "then" "[I") (by decide +kernel)
  have wf47 := hts (.fieldLink RX6 47 "WarmTubesModel" "thrown" "I") (by decide +kernel)
  have wl235 := hts (.constantLong RX6 235 (30)) (by decide +kernel)
  refine lv_aload_n hx hb dX6_outs_0 rfl (lv_at hl 0 rfl) ?_
  refine lv_iconst (v := 0) hx hb dX6_outs_1 (by decide) ?_
  refine va_put (D := D) (ci := 6) (v := .int 0) (ty := .int) (C := RX6) (T := TX6) (N := 24) hx hb hts hi6 tyX6 tyX6_ok nmX6 hown hK.1 hP hD hS 0 rfl rfl 0 (by decide) wf47 (fun _ h9 => h9) rfl (by decide +kernel) rfl rfl (Nat.le_of_ble_eq_true rfl) dX6_outs_2 (fun H locs hP hD hS => ?_)
  have hP : va_P D vwCl [(md, .inr (6, [.int 0, vm_1, vm_2, vm_3, vm_4, .ref hs, vm_6, .ref tn, vm_8, vm_9, vm_10, vm_11, vm_12, vm_13, vm_14, vm_15, vm_16, vm_17, vm_18, vm_19, vm_20, vm_21, vm_22, vm_23])), (hs, .inl (cI, 45, .inl f)), (tn, .inl (cI, 45, .inl g))] H := hP
  have hD : va_D A [(md, .inr (6, [.int 0, vm_1, vm_2, vm_3, vm_4, .ref hs, vm_6, .ref tn, vm_8, vm_9, vm_10, vm_11, vm_12, vm_13, vm_14, vm_15, vm_16, vm_17, vm_18, vm_19, vm_20, vm_21, vm_22, vm_23])), (hs, .inl (cI, 45, .inl f)), (tn, .inl (cI, 45, .inl g))] := hD
  refine lv_aload_n hx hb dX6_outs_5 rfl (lv_at hl 0 rfl) ?_
  refine lv_iload_n hx hb dX6_outs_6 rfl (lv_at hl 1 rfl) ?_
  refine wt_rV (As := [.int a1]) (rest := []) ⟨hx, hb, hml, hown, hts⟩ (c_X6_isRoom l D cI cZ cH md hs R T f a1 (.int 0) vm_1 vm_2 vm_3 vm_4 vm_6 (.ref tn) vm_8 vm_9 vm_10 vm_11 vm_12 vm_13 vm_14 vm_15 vm_16 vm_17 vm_18 vm_19 vm_20 vm_21 vm_22 vm_23 (by first | assumption | omega) (by first | assumption | omega) (by first | assumption | omega)) (cwV 1 hts gX6_outs_X6_isRoom rfl rfl rfl (by decide +kernel) ⟨Nat.le_of_ble_eq_true rfl, Nat.le_of_ble_eq_true rfl⟩) hK hP [0, 1] rfl (va_recv hK.1 hP (ci := 6) (q0 := 0) rfl rfl) rfl hl.1 rfl (Nat.le_of_ble_eq_true rfl) dX6_outs_7 ⟨Nat.le_of_ble_eq_true rfl, Nat.le_of_ble_eq_true rfl⟩ (fun r_1 e_2 => ?_)
  subst e_2
  refine lv_if_eq (tgt := 35) hx hb dX6_outs_10 (by decide) (fun c_3 => ?_) (fun c_3 => ?_)
  · skip
    refine lv_ldc hx hb hown wc67 dX6_outs_35 ?_
    have hP9 := hP.sub (ws' := [(md, .inr (6, [.int 0, vm_1, vm_2, vm_3, vm_4, .ref hs, vm_6, .ref tn, vm_8, vm_9, vm_10, vm_11, vm_12, vm_13, vm_14, vm_15, vm_16, vm_17, vm_18, vm_19, vm_20, vm_21, vm_22, vm_23])), (hs, .inl (cI, 45, .inl f)), (tn, .inl (cI, 45, .inl g))]) [0, 1, 2] rfl
    have hD9 := hD.sub (ws' := [(md, .inr (6, [.int 0, vm_1, vm_2, vm_3, vm_4, .ref hs, vm_6, .ref tn, vm_8, vm_9, vm_10, vm_11, vm_12, vm_13, vm_14, vm_15, vm_16, vm_17, vm_18, vm_19, vm_20, vm_21, vm_22, vm_23])), (hs, .inl (cI, 45, .inl f)), (tn, .inl (cI, 45, .inl g))]) [0, 1, 2] (by decide) rfl
    exact wt_iret hx hb hr hlocks hP9 hD9 hS ⟨g, rfl⟩ dX6_outs_37
  · skip
    obtain ⟨j_4, hj_4, rfl⟩ := wI_natT (T := R) (by omega) c_3
    refine lv_iload_n hx hb dX6_outs_13 rfl (lv_at hl 2 rfl) ?_
    refine lv_i2l hx hb dX6_outs_14 rfl ?_
    refine lv_lconst (v := 1) hx hb dX6_outs_15 (by decide) ?_
    refine lv_ldc2 hx hb hown wl235 dX6_outs_16 ?_
    refine wt_rS (As := [.long a2.toInt64, .long 1, .long 30]) (rest := []) ⟨hx, hb, hml, hown, hts⟩ (c_X6_in l D cI cZ cH a2.toInt64 1 30) (va_cwS 3 hts gX6_outs_X6_in rfl rfl rfl (by decide +kernel) ⟨Nat.le_of_ble_eq_true rfl, Nat.le_of_ble_eq_true rfl⟩) hK hP [] rfl rfl hl.1 rfl (Nat.le_of_ble_eq_true rfl) dX6_outs_19 ⟨Nat.le_of_ble_eq_true rfl, Nat.le_of_ble_eq_true rfl⟩ (fun r_5 e_6 => ?_)
    subst e_6
    refine wt_top (z := wI a2 1 30) (wL_I' (by decide) (by decide)) ?_
    refine lv_if_eq (tgt := 35) hx hb dX6_outs_22 (by decide) (fun c_7 => ?_) (fun c_7 => ?_)
    · skip
      refine lv_ldc hx hb hown wc67 dX6_outs_35 ?_
      have hP9 := hP.sub (ws' := [(md, .inr (6, [.int 0, vm_1, vm_2, vm_3, vm_4, .ref hs, vm_6, .ref tn, vm_8, vm_9, vm_10, vm_11, vm_12, vm_13, vm_14, vm_15, vm_16, vm_17, vm_18, vm_19, vm_20, vm_21, vm_22, vm_23])), (hs, .inl (cI, 45, .inl f)), (tn, .inl (cI, 45, .inl g))]) [0, 1, 2] rfl
      have hD9 := hD.sub (ws' := [(md, .inr (6, [.int 0, vm_1, vm_2, vm_3, vm_4, .ref hs, vm_6, .ref tn, vm_8, vm_9, vm_10, vm_11, vm_12, vm_13, vm_14, vm_15, vm_16, vm_17, vm_18, vm_19, vm_20, vm_21, vm_22, vm_23])), (hs, .inl (cI, 45, .inl f)), (tn, .inl (cI, 45, .inl g))]) [0, 1, 2] (by decide) rfl
      exact wt_iret hx hb hr hlocks hP9 hD9 hS ⟨g, rfl⟩ dX6_outs_37
    · skip
      obtain ⟨j_8, hj_8, hj_8b, rfl⟩ := wI_nat (a := 1) (b := 30) (by omega) (by omega) c_7
      refine lv_iload_n hx hb dX6_outs_25 rfl (lv_at hl 3 rfl) ?_
      refine lv_i2l hx hb dX6_outs_26 rfl ?_
      refine lv_lconst (v := 0) hx hb dX6_outs_27 (by decide) ?_
      refine lv_lconst (v := 1) hx hb dX6_outs_28 (by decide) ?_
      refine wt_rS (As := [.long a3.toInt64, .long 0, .long 1]) (rest := []) ⟨hx, hb, hml, hown, hts⟩ (c_X6_in l D cI cZ cH a3.toInt64 0 1) (va_cwS 3 hts gX6_outs_X6_in rfl rfl rfl (by decide +kernel) ⟨Nat.le_of_ble_eq_true rfl, Nat.le_of_ble_eq_true rfl⟩) hK hP [] rfl rfl hl.1 rfl (Nat.le_of_ble_eq_true rfl) dX6_outs_29 ⟨Nat.le_of_ble_eq_true rfl, Nat.le_of_ble_eq_true rfl⟩ (fun r_9 e_10 => ?_)
      subst e_10
      refine wt_top (z := wI a3 0 1) (wL_I' (by decide) (by decide)) ?_
      refine lv_if_ne (tgt := 38) hx hb dX6_outs_32 (by decide) (fun c_11 => ?_) (fun c_11 => ?_)
      · skip
        obtain ⟨j_12, hj_12, hj_12b, rfl⟩ := wI_nat (a := 0) (b := 1) (by omega) (by omega) c_11
        refine lv_ldc hx hb hown wc90 dX6_outs_38 ?_
        refine lv_istore (lv' := [(4, .int (-1000000)), (0, .ref md), (1, .int (nI j_4)), (2, .int (nI j_8)), (3, .int (nI j_12))]) hx hb dX6_outs_40 hl (by decide) rfl (fun ls hl => ?_)
        refine lv_iconst (v := 0) hx hb dX6_outs_42 (by decide) ?_
        refine lv_istore (lv' := [(5, .int 0), (4, .int (-1000000)), (0, .ref md), (1, .int (nI j_4)), (2, .int (nI j_8)), (3, .int (nI j_12))]) hx hb dX6_outs_43 hl (by decide) rfl (fun ls hl => ?_)
        have loop45 : ∀ (k i_13 : Nat) (g_14 : Nat → Int32) (y_15 : Int32) (H : Heap) (locs : List Loc) (ls : Array Slot), i_13 + k = 64 → va_P D vwCl [(md, .inr (6, [.int 0, vm_1, vm_2, vm_3, vm_4, .ref hs, vm_6, .ref tn, vm_8, vm_9, vm_10, vm_11, vm_12, vm_13, vm_14, vm_15, vm_16, vm_17, vm_18, vm_19, vm_20, vm_21, vm_22, vm_23])), (hs, .inl (cI, 45, .inl f)), (tn, .inl (cI, 45, .inl g_14))] H → va_D A [(md, .inr (6, [.int 0, vm_1, vm_2, vm_3, vm_4, .ref hs, vm_6, .ref tn, vm_8, vm_9, vm_10, vm_11, vm_12, vm_13, vm_14, vm_15, vm_16, vm_17, vm_18, vm_19, vm_20, vm_21, vm_22, vm_23])), (hs, .inl (cI, 45, .inl f)), (tn, .inl (cI, 45, .inl g_14))] → va_S A s.heap H locs → lv_has ls 8 [(5, .int (nI i_13)), (4, .int y_15), (0, .ref md), (1, .int (nI j_4)), (2, .int (nI j_8)), (3, .int (nI j_12))] → W p l e ({ frames := 4, cells := 0, slots := 0, locals := 91 } : Room) s m ([.ref md, .int (nI j_4), .int (nI j_8), .int (nI j_12)] : List Value).toArray below meth c H locs 0 0 (MQ below (wt_QI D (fun r w => ∃ (g2 : Nat → Int32), w = [(md, .inr (6, [.int 0, vm_1, vm_2, vm_3, vm_4, .ref hs, vm_6, .ref tn, vm_8, vm_9, vm_10, vm_11, vm_12, vm_13, vm_14, vm_15, vm_16, vm_17, vm_18, vm_19, vm_20, vm_21, vm_22, vm_23])), (hs, .inl (cI, 45, .inl f)), (tn, .inl (cI, 45, .inl g2))]) A) ([.ref md, .int (nI j_4), .int (nI j_8), .int (nI j_12)] : List Value).toArray s 0 0 A) (F0 m 45 ls []) := by
          intro k
          induction k with
          | zero =>
            intro i_13 g_14 y_15 H locs ls hik  hP hD hS hl
            refine lv_iload hx hb dX6_outs_45 (lv_at hl 0 rfl) ?_
            refine lv_aload_n hx hb dX6_outs_47 rfl (lv_at hl 2 rfl) ?_
            refine wt_rV (As := []) (rest := [.int (nI i_13)]) ⟨hx, hb, hml, hown, hts⟩ (c_X6_inside l D cI cZ cH md hs R T f (.int 0) vm_1 vm_2 vm_3 vm_4 vm_6 (.ref tn) vm_8 vm_9 vm_10 vm_11 vm_12 vm_13 vm_14 vm_15 vm_16 vm_17 vm_18 vm_19 vm_20 vm_21 vm_22 vm_23 (by first | assumption | omega) (by first | assumption | omega) (by first | assumption | omega)) (cwV 0 hts gX6_outs_X6_inside rfl rfl rfl (by decide +kernel) ⟨Nat.le_of_ble_eq_true rfl, Nat.le_of_ble_eq_true rfl⟩) hK hP [0, 1] rfl (va_recv hK.1 hP (ci := 6) (q0 := 0) rfl rfl) rfl hl.1 rfl (Nat.le_of_ble_eq_true rfl) dX6_outs_48 ⟨Nat.le_of_ble_eq_true rfl, Nat.le_of_ble_eq_true rfl⟩ (fun r_16 e_17 => ?_)
            obtain ⟨b_18, e_17, rfl⟩ := e_17
            refine lv_icmp_gt (tgt := 160) hx hb dX6_outs_51 (by decide) (fun _ => ?_) (fun h => absurd (nI_lt (a := b_18) (b := i_13) (by omega) (by omega)) h)
            refine lv_iload hx hb dX6_outs_160 (lv_at hl 1 rfl) ?_
            refine lv_ldc hx hb hown wc90 dX6_outs_162 ?_
            refine lv_icmp_eq (tgt := 172) hx hb dX6_outs_164 (by decide) (fun c_19 => ?_) (fun c_19 => ?_)
            · skip
              refine lv_iload hx hb dX6_outs_172 (lv_at hl 1 rfl) ?_
              refine lv_goto (tgt := 182) hx hb dX6_outs_174 (by decide) ?_
              have hP9 := hP.sub (ws' := [(md, .inr (6, [.int 0, vm_1, vm_2, vm_3, vm_4, .ref hs, vm_6, .ref tn, vm_8, vm_9, vm_10, vm_11, vm_12, vm_13, vm_14, vm_15, vm_16, vm_17, vm_18, vm_19, vm_20, vm_21, vm_22, vm_23])), (hs, .inl (cI, 45, .inl f)), (tn, .inl (cI, 45, .inl g_14))]) [0, 1, 2] rfl
              have hD9 := hD.sub (ws' := [(md, .inr (6, [.int 0, vm_1, vm_2, vm_3, vm_4, .ref hs, vm_6, .ref tn, vm_8, vm_9, vm_10, vm_11, vm_12, vm_13, vm_14, vm_15, vm_16, vm_17, vm_18, vm_19, vm_20, vm_21, vm_22, vm_23])), (hs, .inl (cI, 45, .inl f)), (tn, .inl (cI, 45, .inl g_14))]) [0, 1, 2] (by decide) rfl
              exact wt_iret hx hb hr hlocks hP9 hD9 hS ⟨g_14, rfl⟩ dX6_outs_182
            · skip
              refine lv_iload_n hx hb dX6_outs_167 rfl (lv_at hl 5 rfl) ?_
              refine lv_iconst (v := 1) hx hb dX6_outs_168 (by decide) ?_
              refine lv_icmp_ne (tgt := 177) hx hb dX6_outs_169 (by decide) (fun c_20 => ?_) (fun c_20 => ?_)
              · skip
                have c_20 : ¬ (j_12 = 1) := fun h => c_20 ((nI_eq (a := j_12) (b := 1) (by omega) (by omega)).mpr h)
                refine lv_iload hx hb dX6_outs_177 (lv_at hl 1 rfl) ?_
                refine wt_rS (As := [.int y_15]) (rest := []) ⟨hx, hb, hml, hown, hts⟩ (c_X6_bits l D cI cZ cH y_15) (va_cwS 1 hts gX6_outs_X6_bits rfl rfl rfl (by decide +kernel) ⟨Nat.le_of_ble_eq_true rfl, Nat.le_of_ble_eq_true rfl⟩) hK hP [] rfl rfl hl.1 rfl (Nat.le_of_ble_eq_true rfl) dX6_outs_179 ⟨Nat.le_of_ble_eq_true rfl, Nat.le_of_ble_eq_true rfl⟩ (fun r_21 e_22 => ?_)
                have hP9 := hP.sub (ws' := [(md, .inr (6, [.int 0, vm_1, vm_2, vm_3, vm_4, .ref hs, vm_6, .ref tn, vm_8, vm_9, vm_10, vm_11, vm_12, vm_13, vm_14, vm_15, vm_16, vm_17, vm_18, vm_19, vm_20, vm_21, vm_22, vm_23])), (hs, .inl (cI, 45, .inl f)), (tn, .inl (cI, 45, .inl g_14))]) [0, 1, 2] rfl
                have hD9 := hD.sub (ws' := [(md, .inr (6, [.int 0, vm_1, vm_2, vm_3, vm_4, .ref hs, vm_6, .ref tn, vm_8, vm_9, vm_10, vm_11, vm_12, vm_13, vm_14, vm_15, vm_16, vm_17, vm_18, vm_19, vm_20, vm_21, vm_22, vm_23])), (hs, .inl (cI, 45, .inl f)), (tn, .inl (cI, 45, .inl g_14))]) [0, 1, 2] (by decide) rfl
                exact wt_iret hx hb hr hlocks hP9 hD9 hS ⟨g_14, rfl⟩ dX6_outs_182
              · skip
                have c_20 : j_12 = 1 := (nI_eq (a := j_12) (b := 1) (by omega) (by omega)).mp c_20
                refine lv_iload hx hb dX6_outs_172 (lv_at hl 1 rfl) ?_
                refine lv_goto (tgt := 182) hx hb dX6_outs_174 (by decide) ?_
                have hP9 := hP.sub (ws' := [(md, .inr (6, [.int 0, vm_1, vm_2, vm_3, vm_4, .ref hs, vm_6, .ref tn, vm_8, vm_9, vm_10, vm_11, vm_12, vm_13, vm_14, vm_15, vm_16, vm_17, vm_18, vm_19, vm_20, vm_21, vm_22, vm_23])), (hs, .inl (cI, 45, .inl f)), (tn, .inl (cI, 45, .inl g_14))]) [0, 1, 2] rfl
                have hD9 := hD.sub (ws' := [(md, .inr (6, [.int 0, vm_1, vm_2, vm_3, vm_4, .ref hs, vm_6, .ref tn, vm_8, vm_9, vm_10, vm_11, vm_12, vm_13, vm_14, vm_15, vm_16, vm_17, vm_18, vm_19, vm_20, vm_21, vm_22, vm_23])), (hs, .inl (cI, 45, .inl f)), (tn, .inl (cI, 45, .inl g_14))]) [0, 1, 2] (by decide) rfl
                exact wt_iret hx hb hr hlocks hP9 hD9 hS ⟨g_14, rfl⟩ dX6_outs_182
          | succ k ih45 =>
            intro i_13 g_14 y_15 H locs ls hik  hP hD hS hl
            refine lv_iload hx hb dX6_outs_45 (lv_at hl 0 rfl) ?_
            refine lv_aload_n hx hb dX6_outs_47 rfl (lv_at hl 2 rfl) ?_
            refine wt_rV (As := []) (rest := [.int (nI i_13)]) ⟨hx, hb, hml, hown, hts⟩ (c_X6_inside l D cI cZ cH md hs R T f (.int 0) vm_1 vm_2 vm_3 vm_4 vm_6 (.ref tn) vm_8 vm_9 vm_10 vm_11 vm_12 vm_13 vm_14 vm_15 vm_16 vm_17 vm_18 vm_19 vm_20 vm_21 vm_22 vm_23 (by first | assumption | omega) (by first | assumption | omega) (by first | assumption | omega)) (cwV 0 hts gX6_outs_X6_inside rfl rfl rfl (by decide +kernel) ⟨Nat.le_of_ble_eq_true rfl, Nat.le_of_ble_eq_true rfl⟩) hK hP [0, 1] rfl (va_recv hK.1 hP (ci := 6) (q0 := 0) rfl rfl) rfl hl.1 rfl (Nat.le_of_ble_eq_true rfl) dX6_outs_48 ⟨Nat.le_of_ble_eq_true rfl, Nat.le_of_ble_eq_true rfl⟩ (fun r_23 e_24 => ?_)
            obtain ⟨b_25, e_24, rfl⟩ := e_24
            refine lv_icmp_gt (tgt := 160) hx hb dX6_outs_51 (by decide) (fun c_26 => ?_) (fun c_26 => ?_)
            · skip
              have c_26 : b_25 < i_13 := (nI_ltI (a := b_25) (b := i_13) (by omega) (by omega)).mp c_26
              refine lv_iload hx hb dX6_outs_160 (lv_at hl 1 rfl) ?_
              refine lv_ldc hx hb hown wc90 dX6_outs_162 ?_
              refine lv_icmp_eq (tgt := 172) hx hb dX6_outs_164 (by decide) (fun c_27 => ?_) (fun c_27 => ?_)
              · skip
                refine lv_iload hx hb dX6_outs_172 (lv_at hl 1 rfl) ?_
                refine lv_goto (tgt := 182) hx hb dX6_outs_174 (by decide) ?_
                have hP9 := hP.sub (ws' := [(md, .inr (6, [.int 0, vm_1, vm_2, vm_3, vm_4, .ref hs, vm_6, .ref tn, vm_8, vm_9, vm_10, vm_11, vm_12, vm_13, vm_14, vm_15, vm_16, vm_17, vm_18, vm_19, vm_20, vm_21, vm_22, vm_23])), (hs, .inl (cI, 45, .inl f)), (tn, .inl (cI, 45, .inl g_14))]) [0, 1, 2] rfl
                have hD9 := hD.sub (ws' := [(md, .inr (6, [.int 0, vm_1, vm_2, vm_3, vm_4, .ref hs, vm_6, .ref tn, vm_8, vm_9, vm_10, vm_11, vm_12, vm_13, vm_14, vm_15, vm_16, vm_17, vm_18, vm_19, vm_20, vm_21, vm_22, vm_23])), (hs, .inl (cI, 45, .inl f)), (tn, .inl (cI, 45, .inl g_14))]) [0, 1, 2] (by decide) rfl
                exact wt_iret hx hb hr hlocks hP9 hD9 hS ⟨g_14, rfl⟩ dX6_outs_182
              · skip
                refine lv_iload_n hx hb dX6_outs_167 rfl (lv_at hl 5 rfl) ?_
                refine lv_iconst (v := 1) hx hb dX6_outs_168 (by decide) ?_
                refine lv_icmp_ne (tgt := 177) hx hb dX6_outs_169 (by decide) (fun c_28 => ?_) (fun c_28 => ?_)
                · skip
                  have c_28 : ¬ (j_12 = 1) := fun h => c_28 ((nI_eq (a := j_12) (b := 1) (by omega) (by omega)).mpr h)
                  refine lv_iload hx hb dX6_outs_177 (lv_at hl 1 rfl) ?_
                  refine wt_rS (As := [.int y_15]) (rest := []) ⟨hx, hb, hml, hown, hts⟩ (c_X6_bits l D cI cZ cH y_15) (va_cwS 1 hts gX6_outs_X6_bits rfl rfl rfl (by decide +kernel) ⟨Nat.le_of_ble_eq_true rfl, Nat.le_of_ble_eq_true rfl⟩) hK hP [] rfl rfl hl.1 rfl (Nat.le_of_ble_eq_true rfl) dX6_outs_179 ⟨Nat.le_of_ble_eq_true rfl, Nat.le_of_ble_eq_true rfl⟩ (fun r_29 e_30 => ?_)
                  have hP9 := hP.sub (ws' := [(md, .inr (6, [.int 0, vm_1, vm_2, vm_3, vm_4, .ref hs, vm_6, .ref tn, vm_8, vm_9, vm_10, vm_11, vm_12, vm_13, vm_14, vm_15, vm_16, vm_17, vm_18, vm_19, vm_20, vm_21, vm_22, vm_23])), (hs, .inl (cI, 45, .inl f)), (tn, .inl (cI, 45, .inl g_14))]) [0, 1, 2] rfl
                  have hD9 := hD.sub (ws' := [(md, .inr (6, [.int 0, vm_1, vm_2, vm_3, vm_4, .ref hs, vm_6, .ref tn, vm_8, vm_9, vm_10, vm_11, vm_12, vm_13, vm_14, vm_15, vm_16, vm_17, vm_18, vm_19, vm_20, vm_21, vm_22, vm_23])), (hs, .inl (cI, 45, .inl f)), (tn, .inl (cI, 45, .inl g_14))]) [0, 1, 2] (by decide) rfl
                  exact wt_iret hx hb hr hlocks hP9 hD9 hS ⟨g_14, rfl⟩ dX6_outs_182
                · skip
                  have c_28 : j_12 = 1 := (nI_eq (a := j_12) (b := 1) (by omega) (by omega)).mp c_28
                  refine lv_iload hx hb dX6_outs_172 (lv_at hl 1 rfl) ?_
                  refine lv_goto (tgt := 182) hx hb dX6_outs_174 (by decide) ?_
                  have hP9 := hP.sub (ws' := [(md, .inr (6, [.int 0, vm_1, vm_2, vm_3, vm_4, .ref hs, vm_6, .ref tn, vm_8, vm_9, vm_10, vm_11, vm_12, vm_13, vm_14, vm_15, vm_16, vm_17, vm_18, vm_19, vm_20, vm_21, vm_22, vm_23])), (hs, .inl (cI, 45, .inl f)), (tn, .inl (cI, 45, .inl g_14))]) [0, 1, 2] rfl
                  have hD9 := hD.sub (ws' := [(md, .inr (6, [.int 0, vm_1, vm_2, vm_3, vm_4, .ref hs, vm_6, .ref tn, vm_8, vm_9, vm_10, vm_11, vm_12, vm_13, vm_14, vm_15, vm_16, vm_17, vm_18, vm_19, vm_20, vm_21, vm_22, vm_23])), (hs, .inl (cI, 45, .inl f)), (tn, .inl (cI, 45, .inl g_14))]) [0, 1, 2] (by decide) rfl
                  exact wt_iret hx hb hr hlocks hP9 hD9 hS ⟨g_14, rfl⟩ dX6_outs_182
            · skip
              have c_26 : ¬ (b_25 < i_13) := fun h => c_26 ((nI_ltI (a := b_25) (b := i_13) (by omega) (by omega)).mpr h)
              refine lv_iload hx hb dX6_outs_54 (lv_at hl 0 rfl) ?_
              refine lv_aload_n hx hb dX6_outs_56 rfl (lv_at hl 2 rfl) ?_
              refine wt_rV (As := []) (rest := [.int (nI i_13)]) ⟨hx, hb, hml, hown, hts⟩ (c_X6_inside l D cI cZ cH md hs R T f (.int 0) vm_1 vm_2 vm_3 vm_4 vm_6 (.ref tn) vm_8 vm_9 vm_10 vm_11 vm_12 vm_13 vm_14 vm_15 vm_16 vm_17 vm_18 vm_19 vm_20 vm_21 vm_22 vm_23 (by first | assumption | omega) (by first | assumption | omega) (by first | assumption | omega)) (cwV 0 hts gX6_outs_X6_inside rfl rfl rfl (by decide +kernel) ⟨Nat.le_of_ble_eq_true rfl, Nat.le_of_ble_eq_true rfl⟩) hK hP [0, 1] rfl (va_recv hK.1 hP (ci := 6) (q0 := 0) rfl rfl) rfl hl.1 rfl (Nat.le_of_ble_eq_true rfl) dX6_outs_57 ⟨Nat.le_of_ble_eq_true rfl, Nat.le_of_ble_eq_true rfl⟩ (fun r_31 e_32 => ?_)
              obtain ⟨b_33, e_32, rfl⟩ := e_32
              refine lv_iconst (v := (-1)) hx hb dX6_outs_60 (by decide) ?_
              refine lv_ixor hx hb dX6_outs_61 ?_
              refine lv_topi (fun ov_34 _ => ?_)
              refine lv_iand hx hb dX6_outs_62 ?_
              refine lv_topi (fun ov_35 _ => ?_)
              refine lv_if_ne (tgt := 154) hx hb dX6_outs_63 (by decide) (fun c_36 => ?_) (fun c_36 => ?_)
              · skip
                refine lv_iinc (v := nI (i_13 + 1)) (lv' := [(5, .int (nI (i_13 + 1))), (4, .int y_15), (0, .ref md), (1, .int (nI j_4)), (2, .int (nI j_8)), (3, .int (nI j_12))]) hx hb dX6_outs_154 hl (k := 0) rfl (nI_add i_13 1) (by decide) rfl (fun ls hl => ?_)
                refine lv_goto (tgt := 45) hx hb dX6_outs_157 (by decide) ?_
                exact ih45 ((i_13 + 1)) g_14 y_15 H locs ls (by omega)  hP hD hS (lv_sub hl [0, 1, 2, 3, 4, 5] rfl)
              · skip
                refine lv_iload hx hb dX6_outs_66 (lv_at hl 1 rfl) ?_
                refine lv_ldc hx hb hown wc90 dX6_outs_68 ?_
                refine lv_icmp_eq (tgt := 86) hx hb dX6_outs_70 (by decide) (fun c_37 => ?_) (fun c_37 => ?_)
                · skip
                  refine lv_aload_n hx hb dX6_outs_86 rfl (lv_at hl 2 rfl) ?_
                  refine lv_iload hx hb dX6_outs_87 (lv_at hl 0 rfl) ?_
                  refine wt_goV (wr := []) (wt_runV (As := [.int (nI i_13)]) (rest := []) ⟨hx, hb, hml, hown, hts⟩ (c_X6_layOut l D cI cZ cH md hs R T f tn g_14 (nI i_13) (.int 0) vm_1 vm_2 vm_3 vm_4 vm_6 vm_8 vm_9 vm_10 vm_11 vm_12 vm_13 vm_14 vm_15 vm_16 vm_17 vm_18 vm_19 vm_20 vm_21 vm_22 vm_23 (by first | assumption | omega) (by first | assumption | omega) (by first | assumption | omega)) (cwV 1 hts gX6_outs_X6_layOut rfl rfl rfl (by decide +kernel) ⟨Nat.le_of_ble_eq_true rfl, Nat.le_of_ble_eq_true rfl⟩) hK hP hD [0, 1, 2] rfl (by decide) (va_recv hK.1 hP (ci := 6) (q0 := 0) rfl rfl) rfl hl.1 rfl (Nat.le_of_ble_eq_true rfl) dX6_outs_89 ⟨Nat.le_of_ble_eq_true rfl, Nat.le_of_ble_eq_true rfl⟩) hP hD hS hA [0, 1, 2] [] rfl rfl (by decide) (by decide) (fun w_39 H locs h_40 hP hD hS => ?_)
                  obtain ⟨g2_41, rfl, x_42⟩ := h_40
                  have hP : va_P D vwCl [(md, .inr (6, [.int 0, vm_1, vm_2, vm_3, vm_4, .ref hs, vm_6, .ref tn, vm_8, vm_9, vm_10, vm_11, vm_12, vm_13, vm_14, vm_15, vm_16, vm_17, vm_18, vm_19, vm_20, vm_21, vm_22, vm_23])), (hs, .inl (cI, 45, .inl f)), (tn, .inl (cI, 45, .inl g2_41))] H := hP
                  have hD : va_D A [(md, .inr (6, [.int 0, vm_1, vm_2, vm_3, vm_4, .ref hs, vm_6, .ref tn, vm_8, vm_9, vm_10, vm_11, vm_12, vm_13, vm_14, vm_15, vm_16, vm_17, vm_18, vm_19, vm_20, vm_21, vm_22, vm_23])), (hs, .inl (cI, 45, .inl f)), (tn, .inl (cI, 45, .inl g2_41))] := hD
                  refine lv_iconst (v := 1) hx hb dX6_outs_92 (by decide) ?_
                  refine lv_istore (lv' := [(6, .int 1), (5, .int (nI i_13)), (4, .int y_15), (0, .ref md), (1, .int (nI j_4)), (2, .int (nI j_8)), (3, .int (nI j_12))]) hx hb dX6_outs_93 hl (by decide) rfl (fun ls hl => ?_)
                  refine lv_iconst (v := 0) hx hb dX6_outs_95 (by decide) ?_
                  refine lv_istore (lv' := [(7, .int 0), (6, .int 1), (5, .int (nI i_13)), (4, .int y_15), (0, .ref md), (1, .int (nI j_4)), (2, .int (nI j_8)), (3, .int (nI j_12))]) hx hb dX6_outs_96 hl (by decide) rfl (fun ls hl => ?_)
                  have loop98 : ∀ (k i_43 : Nat) (g2_41_44 : Nat → Int32) (y_45 : Int32) (H : Heap) (locs : List Loc) (ls : Array Slot), i_43 + k = j_8 → (rk R T g2_41_44) → va_P D vwCl [(md, .inr (6, [.int 0, vm_1, vm_2, vm_3, vm_4, .ref hs, vm_6, .ref tn, vm_8, vm_9, vm_10, vm_11, vm_12, vm_13, vm_14, vm_15, vm_16, vm_17, vm_18, vm_19, vm_20, vm_21, vm_22, vm_23])), (hs, .inl (cI, 45, .inl f)), (tn, .inl (cI, 45, .inl g2_41_44))] H → va_D A [(md, .inr (6, [.int 0, vm_1, vm_2, vm_3, vm_4, .ref hs, vm_6, .ref tn, vm_8, vm_9, vm_10, vm_11, vm_12, vm_13, vm_14, vm_15, vm_16, vm_17, vm_18, vm_19, vm_20, vm_21, vm_22, vm_23])), (hs, .inl (cI, 45, .inl f)), (tn, .inl (cI, 45, .inl g2_41_44))] → va_S A s.heap H locs → lv_has ls 8 [(7, .int (nI i_43)), (6, .int y_45), (5, .int (nI i_13)), (4, .int y_15), (0, .ref md), (1, .int (nI j_4)), (2, .int (nI j_8)), (3, .int (nI j_12))] → W p l e ({ frames := 4, cells := 0, slots := 0, locals := 91 } : Room) s m ([.ref md, .int (nI j_4), .int (nI j_8), .int (nI j_12)] : List Value).toArray below meth c H locs 0 0 (MQ below (wt_QI D (fun r w => ∃ (g2 : Nat → Int32), w = [(md, .inr (6, [.int 0, vm_1, vm_2, vm_3, vm_4, .ref hs, vm_6, .ref tn, vm_8, vm_9, vm_10, vm_11, vm_12, vm_13, vm_14, vm_15, vm_16, vm_17, vm_18, vm_19, vm_20, vm_21, vm_22, vm_23])), (hs, .inl (cI, 45, .inl f)), (tn, .inl (cI, 45, .inl g2))]) A) ([.ref md, .int (nI j_4), .int (nI j_8), .int (nI j_12)] : List Value).toArray s 0 0 A) (F0 m 98 ls []) := by
                    intro k
                    induction k with
                    | zero =>
                      intro i_43 g2_41_44 y_45 H locs ls hik rk_46 hP hD hS hl
                      refine lv_iload hx hb dX6_outs_98 (lv_at hl 0 rfl) ?_
                      refine lv_iload_n hx hb dX6_outs_100 rfl (lv_at hl 6 rfl) ?_
                      refine lv_icmp_ge (tgt := 140) hx hb dX6_outs_101 (by decide) (fun _ => ?_) (fun h => absurd (nI_le (a := j_8) (b := i_43) (by omega) (by omega)) h)
                      refine lv_iload hx hb dX6_outs_140 (lv_at hl 1 rfl) ?_
                      refine lv_if_eq (tgt := 150) hx hb dX6_outs_142 (by decide) (fun c_47 => ?_) (fun c_47 => ?_)
                      · skip
                        refine lv_iload hx hb dX6_outs_150 (lv_at hl 3 rfl) ?_
                        refine lv_istore (lv' := [(4, .int y_15), (7, .int (nI i_43)), (6, .int y_45), (5, .int (nI i_13)), (0, .ref md), (1, .int (nI j_4)), (2, .int (nI j_8)), (3, .int (nI j_12))]) hx hb dX6_outs_152 hl (by decide) rfl (fun ls hl => ?_)
                        refine lv_iinc (v := nI (i_13 + 1)) (lv' := [(5, .int (nI (i_13 + 1))), (4, .int y_15), (7, .int (nI i_43)), (6, .int y_45), (0, .ref md), (1, .int (nI j_4)), (2, .int (nI j_8)), (3, .int (nI j_12))]) hx hb dX6_outs_154 hl (k := 3) rfl (nI_add i_13 1) (by decide) rfl (fun ls hl => ?_)
                        refine lv_goto (tgt := 45) hx hb dX6_outs_157 (by decide) ?_
                        exact ih45 ((i_13 + 1)) g2_41_44 y_15 H locs ls (by omega)  hP hD hS (lv_sub hl [0, 1, 4, 5, 6, 7] rfl)
                      · skip
                        refine lv_iload hx hb dX6_outs_145 (lv_at hl 2 rfl) ?_
                        refine lv_goto (tgt := 152) hx hb dX6_outs_147 (by decide) ?_
                        refine lv_istore (lv' := [(4, .int (nI i_13)), (7, .int (nI i_43)), (6, .int y_45), (5, .int (nI i_13)), (0, .ref md), (1, .int (nI j_4)), (2, .int (nI j_8)), (3, .int (nI j_12))]) hx hb dX6_outs_152 hl (by decide) rfl (fun ls hl => ?_)
                        refine lv_iinc (v := nI (i_13 + 1)) (lv' := [(5, .int (nI (i_13 + 1))), (4, .int (nI i_13)), (7, .int (nI i_43)), (6, .int y_45), (0, .ref md), (1, .int (nI j_4)), (2, .int (nI j_8)), (3, .int (nI j_12))]) hx hb dX6_outs_154 hl (k := 3) rfl (nI_add i_13 1) (by decide) rfl (fun ls hl => ?_)
                        refine lv_goto (tgt := 45) hx hb dX6_outs_157 (by decide) ?_
                        exact ih45 ((i_13 + 1)) g2_41_44 (nI i_13) H locs ls (by omega)  hP hD hS (lv_sub hl [0, 1, 4, 5, 6, 7] rfl)
                    | succ k ih98 =>
                      intro i_43 g2_41_44 y_45 H locs ls hik rk_46 hP hD hS hl
                      refine lv_iload hx hb dX6_outs_98 (lv_at hl 0 rfl) ?_
                      refine lv_iload_n hx hb dX6_outs_100 rfl (lv_at hl 6 rfl) ?_
                      refine lv_icmp_ge (tgt := 140) hx hb dX6_outs_101 (by decide) (fun h => absurd h (nI_ge (a := i_43) (b := j_8) (by omega) (by omega))) (fun _ => ?_)
                      refine lv_iload hx hb dX6_outs_104 (lv_at hl 1 rfl) ?_
                      refine lv_if_eq (tgt := 140) hx hb dX6_outs_106 (by decide) (fun c_48 => ?_) (fun c_48 => ?_)
                      · skip
                        refine lv_iload hx hb dX6_outs_140 (lv_at hl 1 rfl) ?_
                        refine lv_if_eq (tgt := 150) hx hb dX6_outs_142 (by decide) (fun _ => ?_) (fun h => absurd c_48 h)
                        refine lv_iload hx hb dX6_outs_150 (lv_at hl 3 rfl) ?_
                        refine lv_istore (lv' := [(4, .int y_15), (7, .int (nI i_43)), (6, .int y_45), (5, .int (nI i_13)), (0, .ref md), (1, .int (nI j_4)), (2, .int (nI j_8)), (3, .int (nI j_12))]) hx hb dX6_outs_152 hl (by decide) rfl (fun ls hl => ?_)
                        refine lv_iinc (v := nI (i_13 + 1)) (lv' := [(5, .int (nI (i_13 + 1))), (4, .int y_15), (7, .int (nI i_43)), (6, .int y_45), (0, .ref md), (1, .int (nI j_4)), (2, .int (nI j_8)), (3, .int (nI j_12))]) hx hb dX6_outs_154 hl (k := 3) rfl (nI_add i_13 1) (by decide) rfl (fun ls hl => ?_)
                        refine lv_goto (tgt := 45) hx hb dX6_outs_157 (by decide) ?_
                        exact ih45 ((i_13 + 1)) g2_41_44 y_15 H locs ls (by omega)  hP hD hS (lv_sub hl [0, 1, 4, 5, 6, 7] rfl)
                      · skip
                        refine lv_aload_n hx hb dX6_outs_109 rfl (lv_at hl 4 rfl) ?_
                        refine va_get (D := D) (ci := 6) (v := .ref tn) (C := RX6) (T := TX6) (N := 24) hx hb hts hi6 hown hK.1 hP 0 rfl rfl 7 (by decide) wf25 (fun _ h9 => h9) rfl dX6_outs_110 ?_
                        refine wt_goV (wr := [(md, .inr (6, [.int 0, vm_1, vm_2, vm_3, vm_4, .ref hs, vm_6, .ref tn, vm_8, vm_9, vm_10, vm_11, vm_12, vm_13, vm_14, vm_15, vm_16, vm_17, vm_18, vm_19, vm_20, vm_21, vm_22, vm_23])), (hs, .inl (cI, 45, .inl f))]) (wt_runS (As := [.ref tn]) (rest := []) ⟨hx, hb, hml, hown, hts⟩ (c_X6_minute l D cI cZ cH tn R T g2_41_44 (by first | assumption | omega) (by first | assumption | omega) (by first | assumption | omega)) (va_cwS 1 hts gX6_outs_X6_minute rfl rfl rfl (by decide +kernel) ⟨Nat.le_of_ble_eq_true rfl, Nat.le_of_ble_eq_true rfl⟩) hK hP hD [2] rfl (by decide) rfl hl.1 rfl (Nat.le_of_ble_eq_true rfl) dX6_outs_113 ⟨Nat.le_of_ble_eq_true rfl, Nat.le_of_ble_eq_true rfl⟩) hP hD hS hA [2] [0, 1] rfl rfl (by decide) (by decide) (fun w_50 H locs h_51 hP hD hS => ?_)
                        obtain ⟨f2_52, rfl, x_53⟩ := h_51
                        have hP : va_P D vwCl [(md, .inr (6, [.int 0, vm_1, vm_2, vm_3, vm_4, .ref hs, vm_6, .ref tn, vm_8, vm_9, vm_10, vm_11, vm_12, vm_13, vm_14, vm_15, vm_16, vm_17, vm_18, vm_19, vm_20, vm_21, vm_22, vm_23])), (hs, .inl (cI, 45, .inl f)), (tn, .inl (cI, 45, .inl f2_52))] H := hP
                        have hD : va_D A [(md, .inr (6, [.int 0, vm_1, vm_2, vm_3, vm_4, .ref hs, vm_6, .ref tn, vm_8, vm_9, vm_10, vm_11, vm_12, vm_13, vm_14, vm_15, vm_16, vm_17, vm_18, vm_19, vm_20, vm_21, vm_22, vm_23])), (hs, .inl (cI, 45, .inl f)), (tn, .inl (cI, 45, .inl f2_52))] := hD
                        refine lv_aload_n hx hb dX6_outs_116 rfl (lv_at hl 4 rfl) ?_
                        refine va_get (D := D) (ci := 6) (v := .ref tn) (C := RX6) (T := TX6) (N := 24) hx hb hts hi6 hown hK.1 hP 0 rfl rfl 7 (by decide) wf25 (fun _ h9 => h9) rfl dX6_outs_117 ?_
                        refine lv_iload_n hx hb dX6_outs_120 rfl (lv_at hl 5 rfl) ?_
                        refine wt_rS (As := [.ref tn, .int (nI j_4)]) (rest := []) ⟨hx, hb, hml, hown, hts⟩ (c_X6_isCold l D cI cZ cH tn R T f2_52 j_4 (by first | assumption | omega) (by first | assumption | omega) (by first | assumption | omega) (by first | assumption | omega)) (va_cwS 2 hts gX6_outs_X6_isCold rfl rfl rfl (by decide +kernel) ⟨Nat.le_of_ble_eq_true rfl, Nat.le_of_ble_eq_true rfl⟩) hK hP [2] rfl rfl hl.1 rfl (Nat.le_of_ble_eq_true rfl) dX6_outs_121 ⟨Nat.le_of_ble_eq_true rfl, Nat.le_of_ble_eq_true rfl⟩ (fun r_54 e_55 => ?_)
                        refine lv_if_ne (tgt := 131) hx hb dX6_outs_124 (by decide) (fun c_56 => ?_) (fun c_56 => ?_)
                        · skip
                          refine lv_iconst (v := 0) hx hb dX6_outs_131 (by decide) ?_
                          refine lv_istore (lv' := [(6, .int 0), (7, .int (nI i_43)), (5, .int (nI i_13)), (4, .int y_15), (0, .ref md), (1, .int (nI j_4)), (2, .int (nI j_8)), (3, .int (nI j_12))]) hx hb dX6_outs_132 hl (by decide) rfl (fun ls hl => ?_)
                          refine lv_iinc (v := nI (i_43 + 1)) (lv' := [(7, .int (nI (i_43 + 1))), (6, .int 0), (5, .int (nI i_13)), (4, .int y_15), (0, .ref md), (1, .int (nI j_4)), (2, .int (nI j_8)), (3, .int (nI j_12))]) hx hb dX6_outs_134 hl (k := 1) rfl (nI_add i_43 1) (by decide) rfl (fun ls hl => ?_)
                          refine lv_goto (tgt := 98) hx hb dX6_outs_137 (by decide) ?_
                          exact ih98 ((i_43 + 1)) f2_52 0 H locs ls (by omega) x_53 hP hD hS (lv_sub hl [0, 1, 2, 3, 4, 5, 6, 7] rfl)
                        · skip
                          refine lv_iconst (v := 1) hx hb dX6_outs_127 (by decide) ?_
                          refine lv_goto (tgt := 132) hx hb dX6_outs_128 (by decide) ?_
                          refine lv_istore (lv' := [(6, .int 1), (7, .int (nI i_43)), (5, .int (nI i_13)), (4, .int y_15), (0, .ref md), (1, .int (nI j_4)), (2, .int (nI j_8)), (3, .int (nI j_12))]) hx hb dX6_outs_132 hl (by decide) rfl (fun ls hl => ?_)
                          refine lv_iinc (v := nI (i_43 + 1)) (lv' := [(7, .int (nI (i_43 + 1))), (6, .int 1), (5, .int (nI i_13)), (4, .int y_15), (0, .ref md), (1, .int (nI j_4)), (2, .int (nI j_8)), (3, .int (nI j_12))]) hx hb dX6_outs_134 hl (k := 1) rfl (nI_add i_43 1) (by decide) rfl (fun ls hl => ?_)
                          refine lv_goto (tgt := 98) hx hb dX6_outs_137 (by decide) ?_
                          exact ih98 ((i_43 + 1)) f2_52 1 H locs ls (by omega) x_53 hP hD hS (lv_sub hl [0, 1, 2, 3, 4, 5, 6, 7] rfl)
                  exact loop98 (j_8 - 0) (0) g2_41 1 _ _ ls (by omega) x_42 hP hD hS hl
                · skip
                  refine lv_iload hx hb dX6_outs_73 (lv_at hl 0 rfl) ?_
                  refine wt_rS (As := [.int (nI i_13)]) (rest := []) ⟨hx, hb, hml, hown, hts⟩ (c_X6_bits l D cI cZ cH (nI i_13)) (va_cwS 1 hts gX6_outs_X6_bits rfl rfl rfl (by decide +kernel) ⟨Nat.le_of_ble_eq_true rfl, Nat.le_of_ble_eq_true rfl⟩) hK hP [] rfl rfl hl.1 rfl (Nat.le_of_ble_eq_true rfl) dX6_outs_75 ⟨Nat.le_of_ble_eq_true rfl, Nat.le_of_ble_eq_true rfl⟩ (fun r_57 e_58 => ?_)
                  refine lv_iload hx hb dX6_outs_78 (lv_at hl 1 rfl) ?_
                  refine wt_rS (As := [.int y_15]) (rest := [.int r_57]) ⟨hx, hb, hml, hown, hts⟩ (c_X6_bits l D cI cZ cH y_15) (va_cwS 1 hts gX6_outs_X6_bits rfl rfl rfl (by decide +kernel) ⟨Nat.le_of_ble_eq_true rfl, Nat.le_of_ble_eq_true rfl⟩) hK hP [] rfl rfl hl.1 rfl (Nat.le_of_ble_eq_true rfl) dX6_outs_80 ⟨Nat.le_of_ble_eq_true rfl, Nat.le_of_ble_eq_true rfl⟩ (fun r_59 e_60 => ?_)
                  refine lv_icmp_ge (tgt := 154) hx hb dX6_outs_83 (by decide) (fun c_61 => ?_) (fun c_61 => ?_)
                  · skip
                    refine lv_iinc (v := nI (i_13 + 1)) (lv' := [(5, .int (nI (i_13 + 1))), (4, .int y_15), (0, .ref md), (1, .int (nI j_4)), (2, .int (nI j_8)), (3, .int (nI j_12))]) hx hb dX6_outs_154 hl (k := 0) rfl (nI_add i_13 1) (by decide) rfl (fun ls hl => ?_)
                    refine lv_goto (tgt := 45) hx hb dX6_outs_157 (by decide) ?_
                    exact ih45 ((i_13 + 1)) g_14 y_15 H locs ls (by omega)  hP hD hS (lv_sub hl [0, 1, 2, 3, 4, 5] rfl)
                  · skip
                    refine lv_aload_n hx hb dX6_outs_86 rfl (lv_at hl 2 rfl) ?_
                    refine lv_iload hx hb dX6_outs_87 (lv_at hl 0 rfl) ?_
                    refine wt_goV (wr := []) (wt_runV (As := [.int (nI i_13)]) (rest := []) ⟨hx, hb, hml, hown, hts⟩ (c_X6_layOut l D cI cZ cH md hs R T f tn g_14 (nI i_13) (.int 0) vm_1 vm_2 vm_3 vm_4 vm_6 vm_8 vm_9 vm_10 vm_11 vm_12 vm_13 vm_14 vm_15 vm_16 vm_17 vm_18 vm_19 vm_20 vm_21 vm_22 vm_23 (by first | assumption | omega) (by first | assumption | omega) (by first | assumption | omega)) (cwV 1 hts gX6_outs_X6_layOut rfl rfl rfl (by decide +kernel) ⟨Nat.le_of_ble_eq_true rfl, Nat.le_of_ble_eq_true rfl⟩) hK hP hD [0, 1, 2] rfl (by decide) (va_recv hK.1 hP (ci := 6) (q0 := 0) rfl rfl) rfl hl.1 rfl (Nat.le_of_ble_eq_true rfl) dX6_outs_89 ⟨Nat.le_of_ble_eq_true rfl, Nat.le_of_ble_eq_true rfl⟩) hP hD hS hA [0, 1, 2] [] rfl rfl (by decide) (by decide) (fun w_63 H locs h_64 hP hD hS => ?_)
                    obtain ⟨g2_65, rfl, x_66⟩ := h_64
                    have hP : va_P D vwCl [(md, .inr (6, [.int 0, vm_1, vm_2, vm_3, vm_4, .ref hs, vm_6, .ref tn, vm_8, vm_9, vm_10, vm_11, vm_12, vm_13, vm_14, vm_15, vm_16, vm_17, vm_18, vm_19, vm_20, vm_21, vm_22, vm_23])), (hs, .inl (cI, 45, .inl f)), (tn, .inl (cI, 45, .inl g2_65))] H := hP
                    have hD : va_D A [(md, .inr (6, [.int 0, vm_1, vm_2, vm_3, vm_4, .ref hs, vm_6, .ref tn, vm_8, vm_9, vm_10, vm_11, vm_12, vm_13, vm_14, vm_15, vm_16, vm_17, vm_18, vm_19, vm_20, vm_21, vm_22, vm_23])), (hs, .inl (cI, 45, .inl f)), (tn, .inl (cI, 45, .inl g2_65))] := hD
                    refine lv_iconst (v := 1) hx hb dX6_outs_92 (by decide) ?_
                    refine lv_istore (lv' := [(6, .int 1), (5, .int (nI i_13)), (4, .int y_15), (0, .ref md), (1, .int (nI j_4)), (2, .int (nI j_8)), (3, .int (nI j_12))]) hx hb dX6_outs_93 hl (by decide) rfl (fun ls hl => ?_)
                    refine lv_iconst (v := 0) hx hb dX6_outs_95 (by decide) ?_
                    refine lv_istore (lv' := [(7, .int 0), (6, .int 1), (5, .int (nI i_13)), (4, .int y_15), (0, .ref md), (1, .int (nI j_4)), (2, .int (nI j_8)), (3, .int (nI j_12))]) hx hb dX6_outs_96 hl (by decide) rfl (fun ls hl => ?_)
                    have loop98 : ∀ (k i_67 : Nat) (g2_65_68 : Nat → Int32) (y_69 : Int32) (H : Heap) (locs : List Loc) (ls : Array Slot), i_67 + k = j_8 → (rk R T g2_65_68) → va_P D vwCl [(md, .inr (6, [.int 0, vm_1, vm_2, vm_3, vm_4, .ref hs, vm_6, .ref tn, vm_8, vm_9, vm_10, vm_11, vm_12, vm_13, vm_14, vm_15, vm_16, vm_17, vm_18, vm_19, vm_20, vm_21, vm_22, vm_23])), (hs, .inl (cI, 45, .inl f)), (tn, .inl (cI, 45, .inl g2_65_68))] H → va_D A [(md, .inr (6, [.int 0, vm_1, vm_2, vm_3, vm_4, .ref hs, vm_6, .ref tn, vm_8, vm_9, vm_10, vm_11, vm_12, vm_13, vm_14, vm_15, vm_16, vm_17, vm_18, vm_19, vm_20, vm_21, vm_22, vm_23])), (hs, .inl (cI, 45, .inl f)), (tn, .inl (cI, 45, .inl g2_65_68))] → va_S A s.heap H locs → lv_has ls 8 [(7, .int (nI i_67)), (6, .int y_69), (5, .int (nI i_13)), (4, .int y_15), (0, .ref md), (1, .int (nI j_4)), (2, .int (nI j_8)), (3, .int (nI j_12))] → W p l e ({ frames := 4, cells := 0, slots := 0, locals := 91 } : Room) s m ([.ref md, .int (nI j_4), .int (nI j_8), .int (nI j_12)] : List Value).toArray below meth c H locs 0 0 (MQ below (wt_QI D (fun r w => ∃ (g2 : Nat → Int32), w = [(md, .inr (6, [.int 0, vm_1, vm_2, vm_3, vm_4, .ref hs, vm_6, .ref tn, vm_8, vm_9, vm_10, vm_11, vm_12, vm_13, vm_14, vm_15, vm_16, vm_17, vm_18, vm_19, vm_20, vm_21, vm_22, vm_23])), (hs, .inl (cI, 45, .inl f)), (tn, .inl (cI, 45, .inl g2))]) A) ([.ref md, .int (nI j_4), .int (nI j_8), .int (nI j_12)] : List Value).toArray s 0 0 A) (F0 m 98 ls []) := by
                      intro k
                      induction k with
                      | zero =>
                        intro i_67 g2_65_68 y_69 H locs ls hik rk_70 hP hD hS hl
                        refine lv_iload hx hb dX6_outs_98 (lv_at hl 0 rfl) ?_
                        refine lv_iload_n hx hb dX6_outs_100 rfl (lv_at hl 6 rfl) ?_
                        refine lv_icmp_ge (tgt := 140) hx hb dX6_outs_101 (by decide) (fun _ => ?_) (fun h => absurd (nI_le (a := j_8) (b := i_67) (by omega) (by omega)) h)
                        refine lv_iload hx hb dX6_outs_140 (lv_at hl 1 rfl) ?_
                        refine lv_if_eq (tgt := 150) hx hb dX6_outs_142 (by decide) (fun c_71 => ?_) (fun c_71 => ?_)
                        · skip
                          refine lv_iload hx hb dX6_outs_150 (lv_at hl 3 rfl) ?_
                          refine lv_istore (lv' := [(4, .int y_15), (7, .int (nI i_67)), (6, .int y_69), (5, .int (nI i_13)), (0, .ref md), (1, .int (nI j_4)), (2, .int (nI j_8)), (3, .int (nI j_12))]) hx hb dX6_outs_152 hl (by decide) rfl (fun ls hl => ?_)
                          refine lv_iinc (v := nI (i_13 + 1)) (lv' := [(5, .int (nI (i_13 + 1))), (4, .int y_15), (7, .int (nI i_67)), (6, .int y_69), (0, .ref md), (1, .int (nI j_4)), (2, .int (nI j_8)), (3, .int (nI j_12))]) hx hb dX6_outs_154 hl (k := 3) rfl (nI_add i_13 1) (by decide) rfl (fun ls hl => ?_)
                          refine lv_goto (tgt := 45) hx hb dX6_outs_157 (by decide) ?_
                          exact ih45 ((i_13 + 1)) g2_65_68 y_15 H locs ls (by omega)  hP hD hS (lv_sub hl [0, 1, 4, 5, 6, 7] rfl)
                        · skip
                          refine lv_iload hx hb dX6_outs_145 (lv_at hl 2 rfl) ?_
                          refine lv_goto (tgt := 152) hx hb dX6_outs_147 (by decide) ?_
                          refine lv_istore (lv' := [(4, .int (nI i_13)), (7, .int (nI i_67)), (6, .int y_69), (5, .int (nI i_13)), (0, .ref md), (1, .int (nI j_4)), (2, .int (nI j_8)), (3, .int (nI j_12))]) hx hb dX6_outs_152 hl (by decide) rfl (fun ls hl => ?_)
                          refine lv_iinc (v := nI (i_13 + 1)) (lv' := [(5, .int (nI (i_13 + 1))), (4, .int (nI i_13)), (7, .int (nI i_67)), (6, .int y_69), (0, .ref md), (1, .int (nI j_4)), (2, .int (nI j_8)), (3, .int (nI j_12))]) hx hb dX6_outs_154 hl (k := 3) rfl (nI_add i_13 1) (by decide) rfl (fun ls hl => ?_)
                          refine lv_goto (tgt := 45) hx hb dX6_outs_157 (by decide) ?_
                          exact ih45 ((i_13 + 1)) g2_65_68 (nI i_13) H locs ls (by omega)  hP hD hS (lv_sub hl [0, 1, 4, 5, 6, 7] rfl)
                      | succ k ih98 =>
                        intro i_67 g2_65_68 y_69 H locs ls hik rk_70 hP hD hS hl
                        refine lv_iload hx hb dX6_outs_98 (lv_at hl 0 rfl) ?_
                        refine lv_iload_n hx hb dX6_outs_100 rfl (lv_at hl 6 rfl) ?_
                        refine lv_icmp_ge (tgt := 140) hx hb dX6_outs_101 (by decide) (fun h => absurd h (nI_ge (a := i_67) (b := j_8) (by omega) (by omega))) (fun _ => ?_)
                        refine lv_iload hx hb dX6_outs_104 (lv_at hl 1 rfl) ?_
                        refine lv_if_eq (tgt := 140) hx hb dX6_outs_106 (by decide) (fun c_72 => ?_) (fun c_72 => ?_)
                        · skip
                          refine lv_iload hx hb dX6_outs_140 (lv_at hl 1 rfl) ?_
                          refine lv_if_eq (tgt := 150) hx hb dX6_outs_142 (by decide) (fun _ => ?_) (fun h => absurd c_72 h)
                          refine lv_iload hx hb dX6_outs_150 (lv_at hl 3 rfl) ?_
                          refine lv_istore (lv' := [(4, .int y_15), (7, .int (nI i_67)), (6, .int y_69), (5, .int (nI i_13)), (0, .ref md), (1, .int (nI j_4)), (2, .int (nI j_8)), (3, .int (nI j_12))]) hx hb dX6_outs_152 hl (by decide) rfl (fun ls hl => ?_)
                          refine lv_iinc (v := nI (i_13 + 1)) (lv' := [(5, .int (nI (i_13 + 1))), (4, .int y_15), (7, .int (nI i_67)), (6, .int y_69), (0, .ref md), (1, .int (nI j_4)), (2, .int (nI j_8)), (3, .int (nI j_12))]) hx hb dX6_outs_154 hl (k := 3) rfl (nI_add i_13 1) (by decide) rfl (fun ls hl => ?_)
                          refine lv_goto (tgt := 45) hx hb dX6_outs_157 (by decide) ?_
                          exact ih45 ((i_13 + 1)) g2_65_68 y_15 H locs ls (by omega)  hP hD hS (lv_sub hl [0, 1, 4, 5, 6, 7] rfl)
                        · skip
                          refine lv_aload_n hx hb dX6_outs_109 rfl (lv_at hl 4 rfl) ?_
                          refine va_get (D := D) (ci := 6) (v := .ref tn) (C := RX6) (T := TX6) (N := 24) hx hb hts hi6 hown hK.1 hP 0 rfl rfl 7 (by decide) wf25 (fun _ h9 => h9) rfl dX6_outs_110 ?_
                          refine wt_goV (wr := [(md, .inr (6, [.int 0, vm_1, vm_2, vm_3, vm_4, .ref hs, vm_6, .ref tn, vm_8, vm_9, vm_10, vm_11, vm_12, vm_13, vm_14, vm_15, vm_16, vm_17, vm_18, vm_19, vm_20, vm_21, vm_22, vm_23])), (hs, .inl (cI, 45, .inl f))]) (wt_runS (As := [.ref tn]) (rest := []) ⟨hx, hb, hml, hown, hts⟩ (c_X6_minute l D cI cZ cH tn R T g2_65_68 (by first | assumption | omega) (by first | assumption | omega) (by first | assumption | omega)) (va_cwS 1 hts gX6_outs_X6_minute rfl rfl rfl (by decide +kernel) ⟨Nat.le_of_ble_eq_true rfl, Nat.le_of_ble_eq_true rfl⟩) hK hP hD [2] rfl (by decide) rfl hl.1 rfl (Nat.le_of_ble_eq_true rfl) dX6_outs_113 ⟨Nat.le_of_ble_eq_true rfl, Nat.le_of_ble_eq_true rfl⟩) hP hD hS hA [2] [0, 1] rfl rfl (by decide) (by decide) (fun w_74 H locs h_75 hP hD hS => ?_)
                          obtain ⟨f2_76, rfl, x_77⟩ := h_75
                          have hP : va_P D vwCl [(md, .inr (6, [.int 0, vm_1, vm_2, vm_3, vm_4, .ref hs, vm_6, .ref tn, vm_8, vm_9, vm_10, vm_11, vm_12, vm_13, vm_14, vm_15, vm_16, vm_17, vm_18, vm_19, vm_20, vm_21, vm_22, vm_23])), (hs, .inl (cI, 45, .inl f)), (tn, .inl (cI, 45, .inl f2_76))] H := hP
                          have hD : va_D A [(md, .inr (6, [.int 0, vm_1, vm_2, vm_3, vm_4, .ref hs, vm_6, .ref tn, vm_8, vm_9, vm_10, vm_11, vm_12, vm_13, vm_14, vm_15, vm_16, vm_17, vm_18, vm_19, vm_20, vm_21, vm_22, vm_23])), (hs, .inl (cI, 45, .inl f)), (tn, .inl (cI, 45, .inl f2_76))] := hD
                          refine lv_aload_n hx hb dX6_outs_116 rfl (lv_at hl 4 rfl) ?_
                          refine va_get (D := D) (ci := 6) (v := .ref tn) (C := RX6) (T := TX6) (N := 24) hx hb hts hi6 hown hK.1 hP 0 rfl rfl 7 (by decide) wf25 (fun _ h9 => h9) rfl dX6_outs_117 ?_
                          refine lv_iload_n hx hb dX6_outs_120 rfl (lv_at hl 5 rfl) ?_
                          refine wt_rS (As := [.ref tn, .int (nI j_4)]) (rest := []) ⟨hx, hb, hml, hown, hts⟩ (c_X6_isCold l D cI cZ cH tn R T f2_76 j_4 (by first | assumption | omega) (by first | assumption | omega) (by first | assumption | omega) (by first | assumption | omega)) (va_cwS 2 hts gX6_outs_X6_isCold rfl rfl rfl (by decide +kernel) ⟨Nat.le_of_ble_eq_true rfl, Nat.le_of_ble_eq_true rfl⟩) hK hP [2] rfl rfl hl.1 rfl (Nat.le_of_ble_eq_true rfl) dX6_outs_121 ⟨Nat.le_of_ble_eq_true rfl, Nat.le_of_ble_eq_true rfl⟩ (fun r_78 e_79 => ?_)
                          refine lv_if_ne (tgt := 131) hx hb dX6_outs_124 (by decide) (fun c_80 => ?_) (fun c_80 => ?_)
                          · skip
                            refine lv_iconst (v := 0) hx hb dX6_outs_131 (by decide) ?_
                            refine lv_istore (lv' := [(6, .int 0), (7, .int (nI i_67)), (5, .int (nI i_13)), (4, .int y_15), (0, .ref md), (1, .int (nI j_4)), (2, .int (nI j_8)), (3, .int (nI j_12))]) hx hb dX6_outs_132 hl (by decide) rfl (fun ls hl => ?_)
                            refine lv_iinc (v := nI (i_67 + 1)) (lv' := [(7, .int (nI (i_67 + 1))), (6, .int 0), (5, .int (nI i_13)), (4, .int y_15), (0, .ref md), (1, .int (nI j_4)), (2, .int (nI j_8)), (3, .int (nI j_12))]) hx hb dX6_outs_134 hl (k := 1) rfl (nI_add i_67 1) (by decide) rfl (fun ls hl => ?_)
                            refine lv_goto (tgt := 98) hx hb dX6_outs_137 (by decide) ?_
                            exact ih98 ((i_67 + 1)) f2_76 0 H locs ls (by omega) x_77 hP hD hS (lv_sub hl [0, 1, 2, 3, 4, 5, 6, 7] rfl)
                          · skip
                            refine lv_iconst (v := 1) hx hb dX6_outs_127 (by decide) ?_
                            refine lv_goto (tgt := 132) hx hb dX6_outs_128 (by decide) ?_
                            refine lv_istore (lv' := [(6, .int 1), (7, .int (nI i_67)), (5, .int (nI i_13)), (4, .int y_15), (0, .ref md), (1, .int (nI j_4)), (2, .int (nI j_8)), (3, .int (nI j_12))]) hx hb dX6_outs_132 hl (by decide) rfl (fun ls hl => ?_)
                            refine lv_iinc (v := nI (i_67 + 1)) (lv' := [(7, .int (nI (i_67 + 1))), (6, .int 1), (5, .int (nI i_13)), (4, .int y_15), (0, .ref md), (1, .int (nI j_4)), (2, .int (nI j_8)), (3, .int (nI j_12))]) hx hb dX6_outs_134 hl (k := 1) rfl (nI_add i_67 1) (by decide) rfl (fun ls hl => ?_)
                            refine lv_goto (tgt := 98) hx hb dX6_outs_137 (by decide) ?_
                            exact ih98 ((i_67 + 1)) f2_76 1 H locs ls (by omega) x_77 hP hD hS (lv_sub hl [0, 1, 2, 3, 4, 5, 6, 7] rfl)
                    exact loop98 (j_8 - 0) (0) g2_65 1 _ _ ls (by omega) x_66 hP hD hS hl
        exact loop45 (64 - 0) (0) g (-1000000) _ _ ls (by omega)  hP hD hS hl
      · skip
        refine lv_ldc hx hb hown wc67 dX6_outs_35 ?_
        have hP9 := hP.sub (ws' := [(md, .inr (6, [.int 0, vm_1, vm_2, vm_3, vm_4, .ref hs, vm_6, .ref tn, vm_8, vm_9, vm_10, vm_11, vm_12, vm_13, vm_14, vm_15, vm_16, vm_17, vm_18, vm_19, vm_20, vm_21, vm_22, vm_23])), (hs, .inl (cI, 45, .inl f)), (tn, .inl (cI, 45, .inl g))]) [0, 1, 2] rfl
        have hD9 := hD.sub (ws' := [(md, .inr (6, [.int 0, vm_1, vm_2, vm_3, vm_4, .ref hs, vm_6, .ref tn, vm_8, vm_9, vm_10, vm_11, vm_12, vm_13, vm_14, vm_15, vm_16, vm_17, vm_18, vm_19, vm_20, vm_21, vm_22, vm_23])), (hs, .inl (cI, 45, .inl f)), (tn, .inl (cI, 45, .inl g))]) [0, 1, 2] (by decide) rfl
        exact wt_iret hx hb hr hlocks hP9 hD9 hS ⟨g, rfl⟩ dX6_outs_37
set_option maxHeartbeats 4000000 in
set_option maxRecDepth 100000 in
theorem c_X6_shakes (l : Launch) (D : va_G) (cI cZ cH : ClassId) (md hs : Nat) (R T : Nat) (f : Nat → Int32) (tn : Nat) (g : Nat → Int32) (a1 a2 a3 : Int32) (vm_0 vm_1 vm_2 vm_3 vm_4 vm_6 vm_8 vm_9 vm_10 vm_11 vm_12 vm_13 vm_14 vm_15 vm_16 vm_17 vm_18 vm_19 vm_20 vm_21 vm_22 vm_23 : Value) (hR5 : R ≤ 5) (hT6 : T ≤ 6) (hrk : rk R T f) : wt_M l yX6_shakes wsX6_shakes ({ frames := 5, cells := 0, slots := 0, locals := 113 } : Room) D (wt_T cI cZ cH) [.ref md, .int a1, .int a2, .int a3] [(md, .inr (6, [vm_0, vm_1, vm_2, vm_3, vm_4, .ref hs, vm_6, .ref tn, vm_8, vm_9, vm_10, vm_11, vm_12, vm_13, vm_14, vm_15, vm_16, vm_17, vm_18, vm_19, vm_20, vm_21, vm_22, vm_23])), (hs, .inl (cI, 45, .inl f)), (tn, .inl (cI, 45, .inl g))] (wt_QI D (fun r w => ∃ (g2 : Nat → Int32), w = [(md, .inr (6, [.int 0, vm_1, vm_2, vm_3, vm_4, .ref hs, vm_6, .ref tn, vm_8, vm_9, vm_10, vm_11, vm_12, vm_13, vm_14, vm_15, vm_16, vm_17, vm_18, vm_19, vm_20, vm_21, vm_22, vm_23])), (hs, .inl (cI, 45, .inl f)), (tn, .inl (cI, 45, .inl g2))])) := by
  refine wt_M.ofW (cc := cX6_shakes) (maxL := 7) (ret := (some .int)) (by decide) rfl (Nat.le_of_ble_eq_true rfl) ?_
  intro p e s m below meth c A ls hx hb hr hts hown hlocks hml hnm hP hK hD hA hS hl
  have hP : va_P D vwCl [(md, .inr (6, [vm_0, vm_1, vm_2, vm_3, vm_4, .ref hs, vm_6, .ref tn, vm_8, vm_9, vm_10, vm_11, vm_12, vm_13, vm_14, vm_15, vm_16, vm_17, vm_18, vm_19, vm_20, vm_21, vm_22, vm_23])), (hs, .inl (cI, 45, .inl f)), (tn, .inl (cI, 45, .inl g))] s.heap := hP
  have hown : s.vm.findClass RX6 = some m.cls := hown
  have hl : lv_has ls 7 [(0, .ref md), (1, .int a1), (2, .int a2), (3, .int a3)] := hl
  have hi6 : ∀ w ∈ u_ws RX6 TX6 24, w ∈ wsX6_shakes := by decide +kernel
  have wc67 := hts (.constant RX6 67 (-1000001)) (by decide +kernel)
  have wc90 := hts (.constant RX6 90 (-1000000)) (by decide +kernel)
  have wf19 := hts (.fieldLink RX6 19 "WarmTubesModel" "house" "[I") (by decide +kernel)
  have wf25 := hts (.fieldLink RX6 25 "WarmTubesModel" "then" "[I") (by decide +kernel)
  have wf47 := hts (.fieldLink RX6 47 "WarmTubesModel" "thrown" "I") (by decide +kernel)
  have wl235 := hts (.constantLong RX6 235 (30)) (by decide +kernel)
  refine lv_aload_n hx hb dX6_shakes_0 rfl (lv_at hl 0 rfl) ?_
  refine lv_iconst (v := 0) hx hb dX6_shakes_1 (by decide) ?_
  refine va_put (D := D) (ci := 6) (v := .int 0) (ty := .int) (C := RX6) (T := TX6) (N := 24) hx hb hts hi6 tyX6 tyX6_ok nmX6 hown hK.1 hP hD hS 0 rfl rfl 0 (by decide) wf47 (fun _ h9 => h9) rfl (by decide +kernel) rfl rfl (Nat.le_of_ble_eq_true rfl) dX6_shakes_2 (fun H locs hP hD hS => ?_)
  have hP : va_P D vwCl [(md, .inr (6, [.int 0, vm_1, vm_2, vm_3, vm_4, .ref hs, vm_6, .ref tn, vm_8, vm_9, vm_10, vm_11, vm_12, vm_13, vm_14, vm_15, vm_16, vm_17, vm_18, vm_19, vm_20, vm_21, vm_22, vm_23])), (hs, .inl (cI, 45, .inl f)), (tn, .inl (cI, 45, .inl g))] H := hP
  have hD : va_D A [(md, .inr (6, [.int 0, vm_1, vm_2, vm_3, vm_4, .ref hs, vm_6, .ref tn, vm_8, vm_9, vm_10, vm_11, vm_12, vm_13, vm_14, vm_15, vm_16, vm_17, vm_18, vm_19, vm_20, vm_21, vm_22, vm_23])), (hs, .inl (cI, 45, .inl f)), (tn, .inl (cI, 45, .inl g))] := hD
  refine lv_aload_n hx hb dX6_shakes_5 rfl (lv_at hl 0 rfl) ?_
  refine lv_iload_n hx hb dX6_shakes_6 rfl (lv_at hl 1 rfl) ?_
  refine wt_rV (As := [.int a1]) (rest := []) ⟨hx, hb, hml, hown, hts⟩ (c_X6_isRoom l D cI cZ cH md hs R T f a1 (.int 0) vm_1 vm_2 vm_3 vm_4 vm_6 (.ref tn) vm_8 vm_9 vm_10 vm_11 vm_12 vm_13 vm_14 vm_15 vm_16 vm_17 vm_18 vm_19 vm_20 vm_21 vm_22 vm_23 (by first | assumption | omega) (by first | assumption | omega) (by first | assumption | omega)) (cwV 1 hts gX6_shakes_X6_isRoom rfl rfl rfl (by decide +kernel) ⟨Nat.le_of_ble_eq_true rfl, Nat.le_of_ble_eq_true rfl⟩) hK hP [0, 1] rfl (va_recv hK.1 hP (ci := 6) (q0 := 0) rfl rfl) rfl hl.1 rfl (Nat.le_of_ble_eq_true rfl) dX6_shakes_7 ⟨Nat.le_of_ble_eq_true rfl, Nat.le_of_ble_eq_true rfl⟩ (fun r_1 e_2 => ?_)
  subst e_2
  refine lv_if_eq (tgt := 35) hx hb dX6_shakes_10 (by decide) (fun c_3 => ?_) (fun c_3 => ?_)
  · skip
    refine lv_ldc hx hb hown wc67 dX6_shakes_35 ?_
    have hP9 := hP.sub (ws' := [(md, .inr (6, [.int 0, vm_1, vm_2, vm_3, vm_4, .ref hs, vm_6, .ref tn, vm_8, vm_9, vm_10, vm_11, vm_12, vm_13, vm_14, vm_15, vm_16, vm_17, vm_18, vm_19, vm_20, vm_21, vm_22, vm_23])), (hs, .inl (cI, 45, .inl f)), (tn, .inl (cI, 45, .inl g))]) [0, 1, 2] rfl
    have hD9 := hD.sub (ws' := [(md, .inr (6, [.int 0, vm_1, vm_2, vm_3, vm_4, .ref hs, vm_6, .ref tn, vm_8, vm_9, vm_10, vm_11, vm_12, vm_13, vm_14, vm_15, vm_16, vm_17, vm_18, vm_19, vm_20, vm_21, vm_22, vm_23])), (hs, .inl (cI, 45, .inl f)), (tn, .inl (cI, 45, .inl g))]) [0, 1, 2] (by decide) rfl
    exact wt_iret hx hb hr hlocks hP9 hD9 hS ⟨g, rfl⟩ dX6_shakes_37
  · skip
    obtain ⟨j_4, hj_4, rfl⟩ := wI_natT (T := R) (by omega) c_3
    refine lv_iload_n hx hb dX6_shakes_13 rfl (lv_at hl 2 rfl) ?_
    refine lv_i2l hx hb dX6_shakes_14 rfl ?_
    refine lv_lconst (v := 1) hx hb dX6_shakes_15 (by decide) ?_
    refine lv_ldc2 hx hb hown wl235 dX6_shakes_16 ?_
    refine wt_rS (As := [.long a2.toInt64, .long 1, .long 30]) (rest := []) ⟨hx, hb, hml, hown, hts⟩ (c_X6_in l D cI cZ cH a2.toInt64 1 30) (va_cwS 3 hts gX6_shakes_X6_in rfl rfl rfl (by decide +kernel) ⟨Nat.le_of_ble_eq_true rfl, Nat.le_of_ble_eq_true rfl⟩) hK hP [] rfl rfl hl.1 rfl (Nat.le_of_ble_eq_true rfl) dX6_shakes_19 ⟨Nat.le_of_ble_eq_true rfl, Nat.le_of_ble_eq_true rfl⟩ (fun r_5 e_6 => ?_)
    subst e_6
    refine wt_top (z := wI a2 1 30) (wL_I' (by decide) (by decide)) ?_
    refine lv_if_eq (tgt := 35) hx hb dX6_shakes_22 (by decide) (fun c_7 => ?_) (fun c_7 => ?_)
    · skip
      refine lv_ldc hx hb hown wc67 dX6_shakes_35 ?_
      have hP9 := hP.sub (ws' := [(md, .inr (6, [.int 0, vm_1, vm_2, vm_3, vm_4, .ref hs, vm_6, .ref tn, vm_8, vm_9, vm_10, vm_11, vm_12, vm_13, vm_14, vm_15, vm_16, vm_17, vm_18, vm_19, vm_20, vm_21, vm_22, vm_23])), (hs, .inl (cI, 45, .inl f)), (tn, .inl (cI, 45, .inl g))]) [0, 1, 2] rfl
      have hD9 := hD.sub (ws' := [(md, .inr (6, [.int 0, vm_1, vm_2, vm_3, vm_4, .ref hs, vm_6, .ref tn, vm_8, vm_9, vm_10, vm_11, vm_12, vm_13, vm_14, vm_15, vm_16, vm_17, vm_18, vm_19, vm_20, vm_21, vm_22, vm_23])), (hs, .inl (cI, 45, .inl f)), (tn, .inl (cI, 45, .inl g))]) [0, 1, 2] (by decide) rfl
      exact wt_iret hx hb hr hlocks hP9 hD9 hS ⟨g, rfl⟩ dX6_shakes_37
    · skip
      obtain ⟨j_8, hj_8, hj_8b, rfl⟩ := wI_nat (a := 1) (b := 30) (by omega) (by omega) c_7
      refine lv_iload_n hx hb dX6_shakes_25 rfl (lv_at hl 3 rfl) ?_
      refine lv_i2l hx hb dX6_shakes_26 rfl ?_
      refine lv_lconst (v := 0) hx hb dX6_shakes_27 (by decide) ?_
      refine lv_lconst (v := 1) hx hb dX6_shakes_28 (by decide) ?_
      refine wt_rS (As := [.long a3.toInt64, .long 0, .long 1]) (rest := []) ⟨hx, hb, hml, hown, hts⟩ (c_X6_in l D cI cZ cH a3.toInt64 0 1) (va_cwS 3 hts gX6_shakes_X6_in rfl rfl rfl (by decide +kernel) ⟨Nat.le_of_ble_eq_true rfl, Nat.le_of_ble_eq_true rfl⟩) hK hP [] rfl rfl hl.1 rfl (Nat.le_of_ble_eq_true rfl) dX6_shakes_29 ⟨Nat.le_of_ble_eq_true rfl, Nat.le_of_ble_eq_true rfl⟩ (fun r_9 e_10 => ?_)
      subst e_10
      refine wt_top (z := wI a3 0 1) (wL_I' (by decide) (by decide)) ?_
      refine lv_if_ne (tgt := 38) hx hb dX6_shakes_32 (by decide) (fun c_11 => ?_) (fun c_11 => ?_)
      · skip
        obtain ⟨j_12, hj_12, hj_12b, rfl⟩ := wI_nat (a := 0) (b := 1) (by omega) (by omega) c_11
        refine lv_aload_n hx hb dX6_shakes_38 rfl (lv_at hl 0 rfl) ?_
        refine va_get (D := D) (ci := 6) (v := .ref hs) (C := RX6) (T := TX6) (N := 24) hx hb hts hi6 hown hK.1 hP 0 rfl rfl 5 (by decide) wf19 (fun _ h9 => h9) rfl dX6_shakes_39 ?_
        refine lv_iload_n hx hb dX6_shakes_42 rfl (lv_at hl 1 rfl) ?_
        refine wt_rS (As := [.ref hs, .int (nI j_4)]) (rest := []) ⟨hx, hb, hml, hown, hts⟩ (c_X6_tubesIn l D cI cZ cH hs R T f (nI j_4) (by first | assumption | omega) (by first | assumption | omega) (by first | assumption | omega)) (va_cwS 2 hts gX6_shakes_X6_tubesIn rfl rfl rfl (by decide +kernel) ⟨Nat.le_of_ble_eq_true rfl, Nat.le_of_ble_eq_true rfl⟩) hK hP [1] rfl rfl hl.1 rfl (Nat.le_of_ble_eq_true rfl) dX6_shakes_43 ⟨Nat.le_of_ble_eq_true rfl, Nat.le_of_ble_eq_true rfl⟩ (fun r_13 e_14 => ?_)
        obtain ⟨b_15, e_14, rfl⟩ := e_14
        refine lv_istore (lv' := [(4, .int (nI b_15)), (0, .ref md), (1, .int (nI j_4)), (2, .int (nI j_8)), (3, .int (nI j_12))]) hx hb dX6_shakes_46 hl (by decide) rfl (fun ls hl => ?_)
        refine lv_ldc hx hb hown wc90 dX6_shakes_48 ?_
        refine lv_istore (lv' := [(5, .int (-1000000)), (4, .int (nI b_15)), (0, .ref md), (1, .int (nI j_4)), (2, .int (nI j_8)), (3, .int (nI j_12))]) hx hb dX6_shakes_50 hl (by decide) rfl (fun ls hl => ?_)
        refine lv_iconst (v := 0) hx hb dX6_shakes_52 (by decide) ?_
        refine lv_istore (lv' := [(6, .int 0), (5, .int (-1000000)), (4, .int (nI b_15)), (0, .ref md), (1, .int (nI j_4)), (2, .int (nI j_8)), (3, .int (nI j_12))]) hx hb dX6_shakes_53 hl (by decide) rfl (fun ls hl => ?_)
        have loop55 : ∀ (k i_16 : Nat) (g_17 : Nat → Int32) (y_18 : Int32) (H : Heap) (locs : List Loc) (ls : Array Slot), i_16 + k = b_15 + 1 → va_P D vwCl [(md, .inr (6, [.int 0, vm_1, vm_2, vm_3, vm_4, .ref hs, vm_6, .ref tn, vm_8, vm_9, vm_10, vm_11, vm_12, vm_13, vm_14, vm_15, vm_16, vm_17, vm_18, vm_19, vm_20, vm_21, vm_22, vm_23])), (hs, .inl (cI, 45, .inl f)), (tn, .inl (cI, 45, .inl g_17))] H → va_D A [(md, .inr (6, [.int 0, vm_1, vm_2, vm_3, vm_4, .ref hs, vm_6, .ref tn, vm_8, vm_9, vm_10, vm_11, vm_12, vm_13, vm_14, vm_15, vm_16, vm_17, vm_18, vm_19, vm_20, vm_21, vm_22, vm_23])), (hs, .inl (cI, 45, .inl f)), (tn, .inl (cI, 45, .inl g_17))] → va_S A s.heap H locs → lv_has ls 7 [(6, .int (nI i_16)), (5, .int y_18), (4, .int (nI b_15)), (0, .ref md), (1, .int (nI j_4)), (2, .int (nI j_8)), (3, .int (nI j_12))] → W p l e ({ frames := 5, cells := 0, slots := 0, locals := 113 } : Room) s m ([.ref md, .int (nI j_4), .int (nI j_8), .int (nI j_12)] : List Value).toArray below meth c H locs 0 0 (MQ below (wt_QI D (fun r w => ∃ (g2 : Nat → Int32), w = [(md, .inr (6, [.int 0, vm_1, vm_2, vm_3, vm_4, .ref hs, vm_6, .ref tn, vm_8, vm_9, vm_10, vm_11, vm_12, vm_13, vm_14, vm_15, vm_16, vm_17, vm_18, vm_19, vm_20, vm_21, vm_22, vm_23])), (hs, .inl (cI, 45, .inl f)), (tn, .inl (cI, 45, .inl g2))]) A) ([.ref md, .int (nI j_4), .int (nI j_8), .int (nI j_12)] : List Value).toArray s 0 0 A) (F0 m 55 ls []) := by
          intro k
          induction k with
          | zero =>
            intro i_16 g_17 y_18 H locs ls hik  hP hD hS hl
            refine lv_iload hx hb dX6_shakes_55 (lv_at hl 0 rfl) ?_
            refine lv_iload hx hb dX6_shakes_57 (lv_at hl 2 rfl) ?_
            refine lv_icmp_gt (tgt := 132) hx hb dX6_shakes_59 (by decide) (fun _ => ?_) (fun h => absurd (nI_lt (a := b_15) (b := i_16) (by omega) (by omega)) h)
            refine lv_iload hx hb dX6_shakes_132 (lv_at hl 1 rfl) ?_
            refine lv_ldc hx hb hown wc90 dX6_shakes_134 ?_
            refine lv_icmp_eq (tgt := 144) hx hb dX6_shakes_136 (by decide) (fun c_19 => ?_) (fun c_19 => ?_)
            · skip
              refine lv_iload hx hb dX6_shakes_144 (lv_at hl 1 rfl) ?_
              refine lv_goto (tgt := 154) hx hb dX6_shakes_146 (by decide) ?_
              have hP9 := hP.sub (ws' := [(md, .inr (6, [.int 0, vm_1, vm_2, vm_3, vm_4, .ref hs, vm_6, .ref tn, vm_8, vm_9, vm_10, vm_11, vm_12, vm_13, vm_14, vm_15, vm_16, vm_17, vm_18, vm_19, vm_20, vm_21, vm_22, vm_23])), (hs, .inl (cI, 45, .inl f)), (tn, .inl (cI, 45, .inl g_17))]) [0, 1, 2] rfl
              have hD9 := hD.sub (ws' := [(md, .inr (6, [.int 0, vm_1, vm_2, vm_3, vm_4, .ref hs, vm_6, .ref tn, vm_8, vm_9, vm_10, vm_11, vm_12, vm_13, vm_14, vm_15, vm_16, vm_17, vm_18, vm_19, vm_20, vm_21, vm_22, vm_23])), (hs, .inl (cI, 45, .inl f)), (tn, .inl (cI, 45, .inl g_17))]) [0, 1, 2] (by decide) rfl
              exact wt_iret hx hb hr hlocks hP9 hD9 hS ⟨g_17, rfl⟩ dX6_shakes_154
            · skip
              refine lv_iload_n hx hb dX6_shakes_139 rfl (lv_at hl 6 rfl) ?_
              refine lv_iconst (v := 1) hx hb dX6_shakes_140 (by decide) ?_
              refine lv_icmp_ne (tgt := 149) hx hb dX6_shakes_141 (by decide) (fun c_20 => ?_) (fun c_20 => ?_)
              · skip
                have c_20 : ¬ (j_12 = 1) := fun h => c_20 ((nI_eq (a := j_12) (b := 1) (by omega) (by omega)).mpr h)
                refine lv_iload hx hb dX6_shakes_149 (lv_at hl 1 rfl) ?_
                refine wt_rS (As := [.int y_18]) (rest := []) ⟨hx, hb, hml, hown, hts⟩ (c_X6_bits l D cI cZ cH y_18) (va_cwS 1 hts gX6_shakes_X6_bits rfl rfl rfl (by decide +kernel) ⟨Nat.le_of_ble_eq_true rfl, Nat.le_of_ble_eq_true rfl⟩) hK hP [] rfl rfl hl.1 rfl (Nat.le_of_ble_eq_true rfl) dX6_shakes_151 ⟨Nat.le_of_ble_eq_true rfl, Nat.le_of_ble_eq_true rfl⟩ (fun r_21 e_22 => ?_)
                have hP9 := hP.sub (ws' := [(md, .inr (6, [.int 0, vm_1, vm_2, vm_3, vm_4, .ref hs, vm_6, .ref tn, vm_8, vm_9, vm_10, vm_11, vm_12, vm_13, vm_14, vm_15, vm_16, vm_17, vm_18, vm_19, vm_20, vm_21, vm_22, vm_23])), (hs, .inl (cI, 45, .inl f)), (tn, .inl (cI, 45, .inl g_17))]) [0, 1, 2] rfl
                have hD9 := hD.sub (ws' := [(md, .inr (6, [.int 0, vm_1, vm_2, vm_3, vm_4, .ref hs, vm_6, .ref tn, vm_8, vm_9, vm_10, vm_11, vm_12, vm_13, vm_14, vm_15, vm_16, vm_17, vm_18, vm_19, vm_20, vm_21, vm_22, vm_23])), (hs, .inl (cI, 45, .inl f)), (tn, .inl (cI, 45, .inl g_17))]) [0, 1, 2] (by decide) rfl
                exact wt_iret hx hb hr hlocks hP9 hD9 hS ⟨g_17, rfl⟩ dX6_shakes_154
              · skip
                have c_20 : j_12 = 1 := (nI_eq (a := j_12) (b := 1) (by omega) (by omega)).mp c_20
                refine lv_iload hx hb dX6_shakes_144 (lv_at hl 1 rfl) ?_
                refine lv_goto (tgt := 154) hx hb dX6_shakes_146 (by decide) ?_
                have hP9 := hP.sub (ws' := [(md, .inr (6, [.int 0, vm_1, vm_2, vm_3, vm_4, .ref hs, vm_6, .ref tn, vm_8, vm_9, vm_10, vm_11, vm_12, vm_13, vm_14, vm_15, vm_16, vm_17, vm_18, vm_19, vm_20, vm_21, vm_22, vm_23])), (hs, .inl (cI, 45, .inl f)), (tn, .inl (cI, 45, .inl g_17))]) [0, 1, 2] rfl
                have hD9 := hD.sub (ws' := [(md, .inr (6, [.int 0, vm_1, vm_2, vm_3, vm_4, .ref hs, vm_6, .ref tn, vm_8, vm_9, vm_10, vm_11, vm_12, vm_13, vm_14, vm_15, vm_16, vm_17, vm_18, vm_19, vm_20, vm_21, vm_22, vm_23])), (hs, .inl (cI, 45, .inl f)), (tn, .inl (cI, 45, .inl g_17))]) [0, 1, 2] (by decide) rfl
                exact wt_iret hx hb hr hlocks hP9 hD9 hS ⟨g_17, rfl⟩ dX6_shakes_154
          | succ k ih55 =>
            intro i_16 g_17 y_18 H locs ls hik  hP hD hS hl
            refine lv_iload hx hb dX6_shakes_55 (lv_at hl 0 rfl) ?_
            refine lv_iload hx hb dX6_shakes_57 (lv_at hl 2 rfl) ?_
            refine lv_icmp_gt (tgt := 132) hx hb dX6_shakes_59 (by decide) (fun h => absurd h (nI_nlt (a := b_15) (b := i_16) (by omega) (by omega))) (fun _ => ?_)
            refine lv_iload hx hb dX6_shakes_62 (lv_at hl 0 rfl) ?_
            refine lv_iload hx hb dX6_shakes_64 (lv_at hl 2 rfl) ?_
            refine lv_iconst (v := (-1)) hx hb dX6_shakes_66 (by decide) ?_
            refine lv_ixor hx hb dX6_shakes_67 ?_
            refine lv_topi (fun ov_23 _ => ?_)
            refine lv_iand hx hb dX6_shakes_68 ?_
            refine lv_topi (fun ov_24 _ => ?_)
            refine lv_if_ne (tgt := 126) hx hb dX6_shakes_69 (by decide) (fun c_25 => ?_) (fun c_25 => ?_)
            · skip
              refine lv_iinc (v := nI (i_16 + 1)) (lv' := [(6, .int (nI (i_16 + 1))), (5, .int y_18), (4, .int (nI b_15)), (0, .ref md), (1, .int (nI j_4)), (2, .int (nI j_8)), (3, .int (nI j_12))]) hx hb dX6_shakes_126 hl (k := 0) rfl (nI_add i_16 1) (by decide) rfl (fun ls hl => ?_)
              refine lv_goto (tgt := 55) hx hb dX6_shakes_129 (by decide) ?_
              exact ih55 ((i_16 + 1)) g_17 y_18 H locs ls (by omega)  hP hD hS (lv_sub hl [0, 1, 2, 3, 4, 5, 6] rfl)
            · skip
              refine lv_iload hx hb dX6_shakes_72 (lv_at hl 1 rfl) ?_
              refine lv_ldc hx hb hown wc90 dX6_shakes_74 ?_
              refine lv_icmp_eq (tgt := 92) hx hb dX6_shakes_76 (by decide) (fun c_26 => ?_) (fun c_26 => ?_)
              · skip
                refine lv_aload_n hx hb dX6_shakes_92 rfl (lv_at hl 3 rfl) ?_
                refine lv_iload hx hb dX6_shakes_93 (lv_at hl 0 rfl) ?_
                refine wt_goV (wr := []) (wt_runV (As := [.int (nI i_16)]) (rest := []) ⟨hx, hb, hml, hown, hts⟩ (c_X6_layShaken l D cI cZ cH md hs R T f tn g_17 (nI i_16) (.int 0) vm_1 vm_2 vm_3 vm_4 vm_6 vm_8 vm_9 vm_10 vm_11 vm_12 vm_13 vm_14 vm_15 vm_16 vm_17 vm_18 vm_19 vm_20 vm_21 vm_22 vm_23 (by first | assumption | omega) (by first | assumption | omega) (by first | assumption | omega)) (cwV 1 hts gX6_shakes_X6_layShaken rfl rfl rfl (by decide +kernel) ⟨Nat.le_of_ble_eq_true rfl, Nat.le_of_ble_eq_true rfl⟩) hK hP hD [0, 1, 2] rfl (by decide) (va_recv hK.1 hP (ci := 6) (q0 := 0) rfl rfl) rfl hl.1 rfl (Nat.le_of_ble_eq_true rfl) dX6_shakes_95 ⟨Nat.le_of_ble_eq_true rfl, Nat.le_of_ble_eq_true rfl⟩) hP hD hS hA [0, 1, 2] [] rfl rfl (by decide) (by decide) (fun w_28 H locs h_29 hP hD hS => ?_)
                obtain ⟨g2_30, rfl, x_31⟩ := h_29
                have hP : va_P D vwCl [(md, .inr (6, [.int 0, vm_1, vm_2, vm_3, vm_4, .ref hs, vm_6, .ref tn, vm_8, vm_9, vm_10, vm_11, vm_12, vm_13, vm_14, vm_15, vm_16, vm_17, vm_18, vm_19, vm_20, vm_21, vm_22, vm_23])), (hs, .inl (cI, 45, .inl f)), (tn, .inl (cI, 45, .inl g2_30))] H := hP
                have hD : va_D A [(md, .inr (6, [.int 0, vm_1, vm_2, vm_3, vm_4, .ref hs, vm_6, .ref tn, vm_8, vm_9, vm_10, vm_11, vm_12, vm_13, vm_14, vm_15, vm_16, vm_17, vm_18, vm_19, vm_20, vm_21, vm_22, vm_23])), (hs, .inl (cI, 45, .inl f)), (tn, .inl (cI, 45, .inl g2_30))] := hD
                refine lv_aload_n hx hb dX6_shakes_98 rfl (lv_at hl 3 rfl) ?_
                refine va_get (D := D) (ci := 6) (v := .ref tn) (C := RX6) (T := TX6) (N := 24) hx hb hts hi6 hown hK.1 hP 0 rfl rfl 7 (by decide) wf25 (fun _ h9 => h9) rfl dX6_shakes_99 ?_
                refine lv_iload_n hx hb dX6_shakes_102 rfl (lv_at hl 5 rfl) ?_
                refine wt_goV (wr := [(md, .inr (6, [.int 0, vm_1, vm_2, vm_3, vm_4, .ref hs, vm_6, .ref tn, vm_8, vm_9, vm_10, vm_11, vm_12, vm_13, vm_14, vm_15, vm_16, vm_17, vm_18, vm_19, vm_20, vm_21, vm_22, vm_23])), (hs, .inl (cI, 45, .inl f))]) (wt_runS (As := [.ref tn, .int (nI j_8)]) (rest := []) ⟨hx, hb, hml, hown, hts⟩ (c_X6_minutesOf l D cI cZ cH tn R T g2_30 j_8 (by first | assumption | omega) (by first | assumption | omega) (by first | assumption | omega) (by first | assumption | omega)) (va_cwS 2 hts gX6_shakes_X6_minutesOf rfl rfl rfl (by decide +kernel) ⟨Nat.le_of_ble_eq_true rfl, Nat.le_of_ble_eq_true rfl⟩) hK hP hD [2] rfl (by decide) rfl hl.1 rfl (Nat.le_of_ble_eq_true rfl) dX6_shakes_103 ⟨Nat.le_of_ble_eq_true rfl, Nat.le_of_ble_eq_true rfl⟩) hP hD hS hA [2] [0, 1] rfl rfl (by decide) (by decide) (fun w_33 H locs h_34 hP hD hS => ?_)
                obtain ⟨f2_35, rfl, x_36⟩ := h_34
                have hP : va_P D vwCl [(md, .inr (6, [.int 0, vm_1, vm_2, vm_3, vm_4, .ref hs, vm_6, .ref tn, vm_8, vm_9, vm_10, vm_11, vm_12, vm_13, vm_14, vm_15, vm_16, vm_17, vm_18, vm_19, vm_20, vm_21, vm_22, vm_23])), (hs, .inl (cI, 45, .inl f)), (tn, .inl (cI, 45, .inl f2_35))] H := hP
                have hD : va_D A [(md, .inr (6, [.int 0, vm_1, vm_2, vm_3, vm_4, .ref hs, vm_6, .ref tn, vm_8, vm_9, vm_10, vm_11, vm_12, vm_13, vm_14, vm_15, vm_16, vm_17, vm_18, vm_19, vm_20, vm_21, vm_22, vm_23])), (hs, .inl (cI, 45, .inl f)), (tn, .inl (cI, 45, .inl f2_35))] := hD
                refine lv_aload_n hx hb dX6_shakes_106 rfl (lv_at hl 3 rfl) ?_
                refine va_get (D := D) (ci := 6) (v := .ref tn) (C := RX6) (T := TX6) (N := 24) hx hb hts hi6 hown hK.1 hP 0 rfl rfl 7 (by decide) wf25 (fun _ h9 => h9) rfl dX6_shakes_107 ?_
                refine lv_iload_n hx hb dX6_shakes_110 rfl (lv_at hl 4 rfl) ?_
                refine wt_rS (As := [.ref tn, .int (nI j_4)]) (rest := []) ⟨hx, hb, hml, hown, hts⟩ (c_X6_isCold l D cI cZ cH tn R T f2_35 j_4 (by first | assumption | omega) (by first | assumption | omega) (by first | assumption | omega) (by first | assumption | omega)) (va_cwS 2 hts gX6_shakes_X6_isCold rfl rfl rfl (by decide +kernel) ⟨Nat.le_of_ble_eq_true rfl, Nat.le_of_ble_eq_true rfl⟩) hK hP [2] rfl rfl hl.1 rfl (Nat.le_of_ble_eq_true rfl) dX6_shakes_111 ⟨Nat.le_of_ble_eq_true rfl, Nat.le_of_ble_eq_true rfl⟩ (fun r_37 e_38 => ?_)
                refine lv_if_eq (tgt := 122) hx hb dX6_shakes_114 (by decide) (fun c_39 => ?_) (fun c_39 => ?_)
                · skip
                  refine lv_iload hx hb dX6_shakes_122 (lv_at hl 0 rfl) ?_
                  refine lv_istore (lv' := [(5, .int (nI i_16)), (6, .int (nI i_16)), (4, .int (nI b_15)), (0, .ref md), (1, .int (nI j_4)), (2, .int (nI j_8)), (3, .int (nI j_12))]) hx hb dX6_shakes_124 hl (by decide) rfl (fun ls hl => ?_)
                  refine lv_iinc (v := nI (i_16 + 1)) (lv' := [(6, .int (nI (i_16 + 1))), (5, .int (nI i_16)), (4, .int (nI b_15)), (0, .ref md), (1, .int (nI j_4)), (2, .int (nI j_8)), (3, .int (nI j_12))]) hx hb dX6_shakes_126 hl (k := 1) rfl (nI_add i_16 1) (by decide) rfl (fun ls hl => ?_)
                  refine lv_goto (tgt := 55) hx hb dX6_shakes_129 (by decide) ?_
                  exact ih55 ((i_16 + 1)) f2_35 (nI i_16) H locs ls (by omega)  hP hD hS (lv_sub hl [0, 1, 2, 3, 4, 5, 6] rfl)
                · skip
                  refine lv_iload hx hb dX6_shakes_117 (lv_at hl 1 rfl) ?_
                  refine lv_goto (tgt := 124) hx hb dX6_shakes_119 (by decide) ?_
                  refine lv_istore (lv' := [(5, .int y_18), (6, .int (nI i_16)), (4, .int (nI b_15)), (0, .ref md), (1, .int (nI j_4)), (2, .int (nI j_8)), (3, .int (nI j_12))]) hx hb dX6_shakes_124 hl (by decide) rfl (fun ls hl => ?_)
                  refine lv_iinc (v := nI (i_16 + 1)) (lv' := [(6, .int (nI (i_16 + 1))), (5, .int y_18), (4, .int (nI b_15)), (0, .ref md), (1, .int (nI j_4)), (2, .int (nI j_8)), (3, .int (nI j_12))]) hx hb dX6_shakes_126 hl (k := 1) rfl (nI_add i_16 1) (by decide) rfl (fun ls hl => ?_)
                  refine lv_goto (tgt := 55) hx hb dX6_shakes_129 (by decide) ?_
                  exact ih55 ((i_16 + 1)) f2_35 y_18 H locs ls (by omega)  hP hD hS (lv_sub hl [0, 1, 2, 3, 4, 5, 6] rfl)
              · skip
                refine lv_iload hx hb dX6_shakes_79 (lv_at hl 0 rfl) ?_
                refine wt_rS (As := [.int (nI i_16)]) (rest := []) ⟨hx, hb, hml, hown, hts⟩ (c_X6_bits l D cI cZ cH (nI i_16)) (va_cwS 1 hts gX6_shakes_X6_bits rfl rfl rfl (by decide +kernel) ⟨Nat.le_of_ble_eq_true rfl, Nat.le_of_ble_eq_true rfl⟩) hK hP [] rfl rfl hl.1 rfl (Nat.le_of_ble_eq_true rfl) dX6_shakes_81 ⟨Nat.le_of_ble_eq_true rfl, Nat.le_of_ble_eq_true rfl⟩ (fun r_40 e_41 => ?_)
                refine lv_iload hx hb dX6_shakes_84 (lv_at hl 1 rfl) ?_
                refine wt_rS (As := [.int y_18]) (rest := [.int r_40]) ⟨hx, hb, hml, hown, hts⟩ (c_X6_bits l D cI cZ cH y_18) (va_cwS 1 hts gX6_shakes_X6_bits rfl rfl rfl (by decide +kernel) ⟨Nat.le_of_ble_eq_true rfl, Nat.le_of_ble_eq_true rfl⟩) hK hP [] rfl rfl hl.1 rfl (Nat.le_of_ble_eq_true rfl) dX6_shakes_86 ⟨Nat.le_of_ble_eq_true rfl, Nat.le_of_ble_eq_true rfl⟩ (fun r_42 e_43 => ?_)
                refine lv_icmp_ge (tgt := 126) hx hb dX6_shakes_89 (by decide) (fun c_44 => ?_) (fun c_44 => ?_)
                · skip
                  refine lv_iinc (v := nI (i_16 + 1)) (lv' := [(6, .int (nI (i_16 + 1))), (5, .int y_18), (4, .int (nI b_15)), (0, .ref md), (1, .int (nI j_4)), (2, .int (nI j_8)), (3, .int (nI j_12))]) hx hb dX6_shakes_126 hl (k := 0) rfl (nI_add i_16 1) (by decide) rfl (fun ls hl => ?_)
                  refine lv_goto (tgt := 55) hx hb dX6_shakes_129 (by decide) ?_
                  exact ih55 ((i_16 + 1)) g_17 y_18 H locs ls (by omega)  hP hD hS (lv_sub hl [0, 1, 2, 3, 4, 5, 6] rfl)
                · skip
                  refine lv_aload_n hx hb dX6_shakes_92 rfl (lv_at hl 3 rfl) ?_
                  refine lv_iload hx hb dX6_shakes_93 (lv_at hl 0 rfl) ?_
                  refine wt_goV (wr := []) (wt_runV (As := [.int (nI i_16)]) (rest := []) ⟨hx, hb, hml, hown, hts⟩ (c_X6_layShaken l D cI cZ cH md hs R T f tn g_17 (nI i_16) (.int 0) vm_1 vm_2 vm_3 vm_4 vm_6 vm_8 vm_9 vm_10 vm_11 vm_12 vm_13 vm_14 vm_15 vm_16 vm_17 vm_18 vm_19 vm_20 vm_21 vm_22 vm_23 (by first | assumption | omega) (by first | assumption | omega) (by first | assumption | omega)) (cwV 1 hts gX6_shakes_X6_layShaken rfl rfl rfl (by decide +kernel) ⟨Nat.le_of_ble_eq_true rfl, Nat.le_of_ble_eq_true rfl⟩) hK hP hD [0, 1, 2] rfl (by decide) (va_recv hK.1 hP (ci := 6) (q0 := 0) rfl rfl) rfl hl.1 rfl (Nat.le_of_ble_eq_true rfl) dX6_shakes_95 ⟨Nat.le_of_ble_eq_true rfl, Nat.le_of_ble_eq_true rfl⟩) hP hD hS hA [0, 1, 2] [] rfl rfl (by decide) (by decide) (fun w_46 H locs h_47 hP hD hS => ?_)
                  obtain ⟨g2_48, rfl, x_49⟩ := h_47
                  have hP : va_P D vwCl [(md, .inr (6, [.int 0, vm_1, vm_2, vm_3, vm_4, .ref hs, vm_6, .ref tn, vm_8, vm_9, vm_10, vm_11, vm_12, vm_13, vm_14, vm_15, vm_16, vm_17, vm_18, vm_19, vm_20, vm_21, vm_22, vm_23])), (hs, .inl (cI, 45, .inl f)), (tn, .inl (cI, 45, .inl g2_48))] H := hP
                  have hD : va_D A [(md, .inr (6, [.int 0, vm_1, vm_2, vm_3, vm_4, .ref hs, vm_6, .ref tn, vm_8, vm_9, vm_10, vm_11, vm_12, vm_13, vm_14, vm_15, vm_16, vm_17, vm_18, vm_19, vm_20, vm_21, vm_22, vm_23])), (hs, .inl (cI, 45, .inl f)), (tn, .inl (cI, 45, .inl g2_48))] := hD
                  refine lv_aload_n hx hb dX6_shakes_98 rfl (lv_at hl 3 rfl) ?_
                  refine va_get (D := D) (ci := 6) (v := .ref tn) (C := RX6) (T := TX6) (N := 24) hx hb hts hi6 hown hK.1 hP 0 rfl rfl 7 (by decide) wf25 (fun _ h9 => h9) rfl dX6_shakes_99 ?_
                  refine lv_iload_n hx hb dX6_shakes_102 rfl (lv_at hl 5 rfl) ?_
                  refine wt_goV (wr := [(md, .inr (6, [.int 0, vm_1, vm_2, vm_3, vm_4, .ref hs, vm_6, .ref tn, vm_8, vm_9, vm_10, vm_11, vm_12, vm_13, vm_14, vm_15, vm_16, vm_17, vm_18, vm_19, vm_20, vm_21, vm_22, vm_23])), (hs, .inl (cI, 45, .inl f))]) (wt_runS (As := [.ref tn, .int (nI j_8)]) (rest := []) ⟨hx, hb, hml, hown, hts⟩ (c_X6_minutesOf l D cI cZ cH tn R T g2_48 j_8 (by first | assumption | omega) (by first | assumption | omega) (by first | assumption | omega) (by first | assumption | omega)) (va_cwS 2 hts gX6_shakes_X6_minutesOf rfl rfl rfl (by decide +kernel) ⟨Nat.le_of_ble_eq_true rfl, Nat.le_of_ble_eq_true rfl⟩) hK hP hD [2] rfl (by decide) rfl hl.1 rfl (Nat.le_of_ble_eq_true rfl) dX6_shakes_103 ⟨Nat.le_of_ble_eq_true rfl, Nat.le_of_ble_eq_true rfl⟩) hP hD hS hA [2] [0, 1] rfl rfl (by decide) (by decide) (fun w_51 H locs h_52 hP hD hS => ?_)
                  obtain ⟨f2_53, rfl, x_54⟩ := h_52
                  have hP : va_P D vwCl [(md, .inr (6, [.int 0, vm_1, vm_2, vm_3, vm_4, .ref hs, vm_6, .ref tn, vm_8, vm_9, vm_10, vm_11, vm_12, vm_13, vm_14, vm_15, vm_16, vm_17, vm_18, vm_19, vm_20, vm_21, vm_22, vm_23])), (hs, .inl (cI, 45, .inl f)), (tn, .inl (cI, 45, .inl f2_53))] H := hP
                  have hD : va_D A [(md, .inr (6, [.int 0, vm_1, vm_2, vm_3, vm_4, .ref hs, vm_6, .ref tn, vm_8, vm_9, vm_10, vm_11, vm_12, vm_13, vm_14, vm_15, vm_16, vm_17, vm_18, vm_19, vm_20, vm_21, vm_22, vm_23])), (hs, .inl (cI, 45, .inl f)), (tn, .inl (cI, 45, .inl f2_53))] := hD
                  refine lv_aload_n hx hb dX6_shakes_106 rfl (lv_at hl 3 rfl) ?_
                  refine va_get (D := D) (ci := 6) (v := .ref tn) (C := RX6) (T := TX6) (N := 24) hx hb hts hi6 hown hK.1 hP 0 rfl rfl 7 (by decide) wf25 (fun _ h9 => h9) rfl dX6_shakes_107 ?_
                  refine lv_iload_n hx hb dX6_shakes_110 rfl (lv_at hl 4 rfl) ?_
                  refine wt_rS (As := [.ref tn, .int (nI j_4)]) (rest := []) ⟨hx, hb, hml, hown, hts⟩ (c_X6_isCold l D cI cZ cH tn R T f2_53 j_4 (by first | assumption | omega) (by first | assumption | omega) (by first | assumption | omega) (by first | assumption | omega)) (va_cwS 2 hts gX6_shakes_X6_isCold rfl rfl rfl (by decide +kernel) ⟨Nat.le_of_ble_eq_true rfl, Nat.le_of_ble_eq_true rfl⟩) hK hP [2] rfl rfl hl.1 rfl (Nat.le_of_ble_eq_true rfl) dX6_shakes_111 ⟨Nat.le_of_ble_eq_true rfl, Nat.le_of_ble_eq_true rfl⟩ (fun r_55 e_56 => ?_)
                  refine lv_if_eq (tgt := 122) hx hb dX6_shakes_114 (by decide) (fun c_57 => ?_) (fun c_57 => ?_)
                  · skip
                    refine lv_iload hx hb dX6_shakes_122 (lv_at hl 0 rfl) ?_
                    refine lv_istore (lv' := [(5, .int (nI i_16)), (6, .int (nI i_16)), (4, .int (nI b_15)), (0, .ref md), (1, .int (nI j_4)), (2, .int (nI j_8)), (3, .int (nI j_12))]) hx hb dX6_shakes_124 hl (by decide) rfl (fun ls hl => ?_)
                    refine lv_iinc (v := nI (i_16 + 1)) (lv' := [(6, .int (nI (i_16 + 1))), (5, .int (nI i_16)), (4, .int (nI b_15)), (0, .ref md), (1, .int (nI j_4)), (2, .int (nI j_8)), (3, .int (nI j_12))]) hx hb dX6_shakes_126 hl (k := 1) rfl (nI_add i_16 1) (by decide) rfl (fun ls hl => ?_)
                    refine lv_goto (tgt := 55) hx hb dX6_shakes_129 (by decide) ?_
                    exact ih55 ((i_16 + 1)) f2_53 (nI i_16) H locs ls (by omega)  hP hD hS (lv_sub hl [0, 1, 2, 3, 4, 5, 6] rfl)
                  · skip
                    refine lv_iload hx hb dX6_shakes_117 (lv_at hl 1 rfl) ?_
                    refine lv_goto (tgt := 124) hx hb dX6_shakes_119 (by decide) ?_
                    refine lv_istore (lv' := [(5, .int y_18), (6, .int (nI i_16)), (4, .int (nI b_15)), (0, .ref md), (1, .int (nI j_4)), (2, .int (nI j_8)), (3, .int (nI j_12))]) hx hb dX6_shakes_124 hl (by decide) rfl (fun ls hl => ?_)
                    refine lv_iinc (v := nI (i_16 + 1)) (lv' := [(6, .int (nI (i_16 + 1))), (5, .int y_18), (4, .int (nI b_15)), (0, .ref md), (1, .int (nI j_4)), (2, .int (nI j_8)), (3, .int (nI j_12))]) hx hb dX6_shakes_126 hl (k := 1) rfl (nI_add i_16 1) (by decide) rfl (fun ls hl => ?_)
                    refine lv_goto (tgt := 55) hx hb dX6_shakes_129 (by decide) ?_
                    exact ih55 ((i_16 + 1)) f2_53 y_18 H locs ls (by omega)  hP hD hS (lv_sub hl [0, 1, 2, 3, 4, 5, 6] rfl)
        exact loop55 ((b_15 + 1) - 0) (0) g (-1000000) _ _ ls (by omega)  hP hD hS hl
      · skip
        refine lv_ldc hx hb hown wc67 dX6_shakes_35 ?_
        have hP9 := hP.sub (ws' := [(md, .inr (6, [.int 0, vm_1, vm_2, vm_3, vm_4, .ref hs, vm_6, .ref tn, vm_8, vm_9, vm_10, vm_11, vm_12, vm_13, vm_14, vm_15, vm_16, vm_17, vm_18, vm_19, vm_20, vm_21, vm_22, vm_23])), (hs, .inl (cI, 45, .inl f)), (tn, .inl (cI, 45, .inl g))]) [0, 1, 2] rfl
        have hD9 := hD.sub (ws' := [(md, .inr (6, [.int 0, vm_1, vm_2, vm_3, vm_4, .ref hs, vm_6, .ref tn, vm_8, vm_9, vm_10, vm_11, vm_12, vm_13, vm_14, vm_15, vm_16, vm_17, vm_18, vm_19, vm_20, vm_21, vm_22, vm_23])), (hs, .inl (cI, 45, .inl f)), (tn, .inl (cI, 45, .inl g))]) [0, 1, 2] (by decide) rfl
        exact wt_iret hx hb hr hlocks hP9 hD9 hS ⟨g, rfl⟩ dX6_shakes_37
set_option maxHeartbeats 4000000 in
set_option maxRecDepth 100000 in
theorem c_X6_hang (l : Launch) (D : va_G) (cI cZ cH : ClassId) (md hs : Nat) (R T : Nat) (f : Nat → Int32) (tn : Nat) (g : Nat → Int32) (a1 a2 a3 : Int32) (vm_0 vm_1 vm_2 vm_3 vm_4 vm_6 vm_8 vm_9 vm_10 vm_11 vm_12 vm_13 vm_14 vm_15 vm_16 vm_17 vm_18 vm_19 vm_20 vm_21 vm_22 vm_23 : Value) (hR5 : R ≤ 5) (hT6 : T ≤ 6) (hrk : rk R T f) : wt_M l yX6_hang wsX6_hang ({ frames := 5, cells := 0, slots := 0, locals := 113 } : Room) D (wt_T cI cZ cH) [.ref md, .int a1, .int a2, .int a3] [(md, .inr (6, [vm_0, vm_1, vm_2, vm_3, vm_4, .ref hs, vm_6, .ref tn, vm_8, vm_9, vm_10, vm_11, vm_12, vm_13, vm_14, vm_15, vm_16, vm_17, vm_18, vm_19, vm_20, vm_21, vm_22, vm_23])), (hs, .inl (cI, 45, .inl f)), (tn, .inl (cI, 45, .inl g))] (wt_QI D (fun r w => ∃ (g2 : Nat → Int32), w = [(md, .inr (6, [.int 0, vm_1, vm_2, vm_3, vm_4, .ref hs, vm_6, .ref tn, vm_8, vm_9, vm_10, vm_11, vm_12, vm_13, vm_14, vm_15, vm_16, vm_17, vm_18, vm_19, vm_20, vm_21, vm_22, vm_23])), (hs, .inl (cI, 45, .inl f)), (tn, .inl (cI, 45, .inl g2))])) := by
  refine wt_M.ofW (cc := cX6_hang) (maxL := 8) (ret := (some .int)) (by decide) rfl (Nat.le_of_ble_eq_true rfl) ?_
  intro p e s m below meth c A ls hx hb hr hts hown hlocks hml hnm hP hK hD hA hS hl
  have hP : va_P D vwCl [(md, .inr (6, [vm_0, vm_1, vm_2, vm_3, vm_4, .ref hs, vm_6, .ref tn, vm_8, vm_9, vm_10, vm_11, vm_12, vm_13, vm_14, vm_15, vm_16, vm_17, vm_18, vm_19, vm_20, vm_21, vm_22, vm_23])), (hs, .inl (cI, 45, .inl f)), (tn, .inl (cI, 45, .inl g))] s.heap := hP
  have hown : s.vm.findClass RX6 = some m.cls := hown
  have hl : lv_has ls 8 [(0, .ref md), (1, .int a1), (2, .int a2), (3, .int a3)] := hl
  have hi6 : ∀ w ∈ u_ws RX6 TX6 24, w ∈ wsX6_hang := by decide +kernel
  have wc67 := hts (.constant RX6 67 (-1000001)) (by decide +kernel)
  have wc90 := hts (.constant RX6 90 (-1000000)) (by decide +kernel)
  have wf19 := hts (.fieldLink RX6 19 "WarmTubesModel" "house" "[I") (by decide +kernel)
  have wf25 := hts (.fieldLink RX6 25 "WarmTubesModel" "then" "[I") (by decide +kernel)
  have wf47 := hts (.fieldLink RX6 47 "WarmTubesModel" "thrown" "I") (by decide +kernel)
  have wl235 := hts (.constantLong RX6 235 (30)) (by decide +kernel)
  refine lv_aload_n hx hb dX6_hang_0 rfl (lv_at hl 0 rfl) ?_
  refine lv_iconst (v := 0) hx hb dX6_hang_1 (by decide) ?_
  refine va_put (D := D) (ci := 6) (v := .int 0) (ty := .int) (C := RX6) (T := TX6) (N := 24) hx hb hts hi6 tyX6 tyX6_ok nmX6 hown hK.1 hP hD hS 0 rfl rfl 0 (by decide) wf47 (fun _ h9 => h9) rfl (by decide +kernel) rfl rfl (Nat.le_of_ble_eq_true rfl) dX6_hang_2 (fun H locs hP hD hS => ?_)
  have hP : va_P D vwCl [(md, .inr (6, [.int 0, vm_1, vm_2, vm_3, vm_4, .ref hs, vm_6, .ref tn, vm_8, vm_9, vm_10, vm_11, vm_12, vm_13, vm_14, vm_15, vm_16, vm_17, vm_18, vm_19, vm_20, vm_21, vm_22, vm_23])), (hs, .inl (cI, 45, .inl f)), (tn, .inl (cI, 45, .inl g))] H := hP
  have hD : va_D A [(md, .inr (6, [.int 0, vm_1, vm_2, vm_3, vm_4, .ref hs, vm_6, .ref tn, vm_8, vm_9, vm_10, vm_11, vm_12, vm_13, vm_14, vm_15, vm_16, vm_17, vm_18, vm_19, vm_20, vm_21, vm_22, vm_23])), (hs, .inl (cI, 45, .inl f)), (tn, .inl (cI, 45, .inl g))] := hD
  refine lv_aload_n hx hb dX6_hang_5 rfl (lv_at hl 0 rfl) ?_
  refine lv_iload_n hx hb dX6_hang_6 rfl (lv_at hl 1 rfl) ?_
  refine wt_rV (As := [.int a1]) (rest := []) ⟨hx, hb, hml, hown, hts⟩ (c_X6_isTube l D cI cZ cH md hs R T f a1 (.int 0) vm_1 vm_2 vm_3 vm_4 vm_6 (.ref tn) vm_8 vm_9 vm_10 vm_11 vm_12 vm_13 vm_14 vm_15 vm_16 vm_17 vm_18 vm_19 vm_20 vm_21 vm_22 vm_23 (by first | assumption | omega) (by first | assumption | omega) (by first | assumption | omega)) (cwV 1 hts gX6_hang_X6_isTube rfl rfl rfl (by decide +kernel) ⟨Nat.le_of_ble_eq_true rfl, Nat.le_of_ble_eq_true rfl⟩) hK hP [0, 1] rfl (va_recv hK.1 hP (ci := 6) (q0 := 0) rfl rfl) rfl hl.1 rfl (Nat.le_of_ble_eq_true rfl) dX6_hang_7 ⟨Nat.le_of_ble_eq_true rfl, Nat.le_of_ble_eq_true rfl⟩ (fun r_1 e_2 => ?_)
  subst e_2
  refine lv_if_eq (tgt := 35) hx hb dX6_hang_10 (by decide) (fun c_3 => ?_) (fun c_3 => ?_)
  · skip
    refine lv_ldc hx hb hown wc67 dX6_hang_35 ?_
    have hP9 := hP.sub (ws' := [(md, .inr (6, [.int 0, vm_1, vm_2, vm_3, vm_4, .ref hs, vm_6, .ref tn, vm_8, vm_9, vm_10, vm_11, vm_12, vm_13, vm_14, vm_15, vm_16, vm_17, vm_18, vm_19, vm_20, vm_21, vm_22, vm_23])), (hs, .inl (cI, 45, .inl f)), (tn, .inl (cI, 45, .inl g))]) [0, 1, 2] rfl
    have hD9 := hD.sub (ws' := [(md, .inr (6, [.int 0, vm_1, vm_2, vm_3, vm_4, .ref hs, vm_6, .ref tn, vm_8, vm_9, vm_10, vm_11, vm_12, vm_13, vm_14, vm_15, vm_16, vm_17, vm_18, vm_19, vm_20, vm_21, vm_22, vm_23])), (hs, .inl (cI, 45, .inl f)), (tn, .inl (cI, 45, .inl g))]) [0, 1, 2] (by decide) rfl
    exact wt_iret hx hb hr hlocks hP9 hD9 hS ⟨g, rfl⟩ dX6_hang_37
  · skip
    obtain ⟨j_4, hj_4, rfl⟩ := wI_natT (T := T) (by omega) c_3
    refine lv_iload_n hx hb dX6_hang_13 rfl (lv_at hl 2 rfl) ?_
    refine lv_i2l hx hb dX6_hang_14 rfl ?_
    refine lv_lconst (v := 1) hx hb dX6_hang_15 (by decide) ?_
    refine lv_ldc2 hx hb hown wl235 dX6_hang_16 ?_
    refine wt_rS (As := [.long a2.toInt64, .long 1, .long 30]) (rest := []) ⟨hx, hb, hml, hown, hts⟩ (c_X6_in l D cI cZ cH a2.toInt64 1 30) (va_cwS 3 hts gX6_hang_X6_in rfl rfl rfl (by decide +kernel) ⟨Nat.le_of_ble_eq_true rfl, Nat.le_of_ble_eq_true rfl⟩) hK hP [] rfl rfl hl.1 rfl (Nat.le_of_ble_eq_true rfl) dX6_hang_19 ⟨Nat.le_of_ble_eq_true rfl, Nat.le_of_ble_eq_true rfl⟩ (fun r_5 e_6 => ?_)
    subst e_6
    refine wt_top (z := wI a2 1 30) (wL_I' (by decide) (by decide)) ?_
    refine lv_if_eq (tgt := 35) hx hb dX6_hang_22 (by decide) (fun c_7 => ?_) (fun c_7 => ?_)
    · skip
      refine lv_ldc hx hb hown wc67 dX6_hang_35 ?_
      have hP9 := hP.sub (ws' := [(md, .inr (6, [.int 0, vm_1, vm_2, vm_3, vm_4, .ref hs, vm_6, .ref tn, vm_8, vm_9, vm_10, vm_11, vm_12, vm_13, vm_14, vm_15, vm_16, vm_17, vm_18, vm_19, vm_20, vm_21, vm_22, vm_23])), (hs, .inl (cI, 45, .inl f)), (tn, .inl (cI, 45, .inl g))]) [0, 1, 2] rfl
      have hD9 := hD.sub (ws' := [(md, .inr (6, [.int 0, vm_1, vm_2, vm_3, vm_4, .ref hs, vm_6, .ref tn, vm_8, vm_9, vm_10, vm_11, vm_12, vm_13, vm_14, vm_15, vm_16, vm_17, vm_18, vm_19, vm_20, vm_21, vm_22, vm_23])), (hs, .inl (cI, 45, .inl f)), (tn, .inl (cI, 45, .inl g))]) [0, 1, 2] (by decide) rfl
      exact wt_iret hx hb hr hlocks hP9 hD9 hS ⟨g, rfl⟩ dX6_hang_37
    · skip
      obtain ⟨j_8, hj_8, hj_8b, rfl⟩ := wI_nat (a := 1) (b := 30) (by omega) (by omega) c_7
      refine lv_iload_n hx hb dX6_hang_25 rfl (lv_at hl 3 rfl) ?_
      refine lv_i2l hx hb dX6_hang_26 rfl ?_
      refine lv_lconst (v := 0) hx hb dX6_hang_27 (by decide) ?_
      refine lv_lconst (v := 1) hx hb dX6_hang_28 (by decide) ?_
      refine wt_rS (As := [.long a3.toInt64, .long 0, .long 1]) (rest := []) ⟨hx, hb, hml, hown, hts⟩ (c_X6_in l D cI cZ cH a3.toInt64 0 1) (va_cwS 3 hts gX6_hang_X6_in rfl rfl rfl (by decide +kernel) ⟨Nat.le_of_ble_eq_true rfl, Nat.le_of_ble_eq_true rfl⟩) hK hP [] rfl rfl hl.1 rfl (Nat.le_of_ble_eq_true rfl) dX6_hang_29 ⟨Nat.le_of_ble_eq_true rfl, Nat.le_of_ble_eq_true rfl⟩ (fun r_9 e_10 => ?_)
      subst e_10
      refine wt_top (z := wI a3 0 1) (wL_I' (by decide) (by decide)) ?_
      refine lv_if_ne (tgt := 38) hx hb dX6_hang_32 (by decide) (fun c_11 => ?_) (fun c_11 => ?_)
      · skip
        obtain ⟨j_12, hj_12, hj_12b, rfl⟩ := wI_nat (a := 0) (b := 1) (by omega) (by omega) c_11
        refine lv_ldc hx hb hown wc90 dX6_hang_38 ?_
        refine lv_istore (lv' := [(4, .int (-1000000)), (0, .ref md), (1, .int (nI j_4)), (2, .int (nI j_8)), (3, .int (nI j_12))]) hx hb dX6_hang_40 hl (by decide) rfl (fun ls hl => ?_)
        refine lv_ldc hx hb hown wc90 dX6_hang_42 ?_
        refine lv_istore (lv' := [(5, .int (-1000000)), (4, .int (-1000000)), (0, .ref md), (1, .int (nI j_4)), (2, .int (nI j_8)), (3, .int (nI j_12))]) hx hb dX6_hang_44 hl (by decide) rfl (fun ls hl => ?_)
        refine lv_iconst (v := 0) hx hb dX6_hang_46 (by decide) ?_
        refine lv_istore (lv' := [(6, .int 0), (5, .int (-1000000)), (4, .int (-1000000)), (0, .ref md), (1, .int (nI j_4)), (2, .int (nI j_8)), (3, .int (nI j_12))]) hx hb dX6_hang_47 hl (by decide) rfl (fun ls hl => ?_)
        have loop49 : ∀ (k i_13 : Nat) (g_14 : Nat → Int32) (y_15 : Int32) (y_16 : Int32) (H : Heap) (locs : List Loc) (ls : Array Slot), i_13 + k = R + 1 → va_P D vwCl [(md, .inr (6, [.int 0, vm_1, vm_2, vm_3, vm_4, .ref hs, vm_6, .ref tn, vm_8, vm_9, vm_10, vm_11, vm_12, vm_13, vm_14, vm_15, vm_16, vm_17, vm_18, vm_19, vm_20, vm_21, vm_22, vm_23])), (hs, .inl (cI, 45, .inl f)), (tn, .inl (cI, 45, .inl g_14))] H → va_D A [(md, .inr (6, [.int 0, vm_1, vm_2, vm_3, vm_4, .ref hs, vm_6, .ref tn, vm_8, vm_9, vm_10, vm_11, vm_12, vm_13, vm_14, vm_15, vm_16, vm_17, vm_18, vm_19, vm_20, vm_21, vm_22, vm_23])), (hs, .inl (cI, 45, .inl f)), (tn, .inl (cI, 45, .inl g_14))] → va_S A s.heap H locs → lv_has ls 8 [(6, .int (nI i_13)), (5, .int y_16), (4, .int y_15), (0, .ref md), (1, .int (nI j_4)), (2, .int (nI j_8)), (3, .int (nI j_12))] → W p l e ({ frames := 5, cells := 0, slots := 0, locals := 113 } : Room) s m ([.ref md, .int (nI j_4), .int (nI j_8), .int (nI j_12)] : List Value).toArray below meth c H locs 0 0 (MQ below (wt_QI D (fun r w => ∃ (g2 : Nat → Int32), w = [(md, .inr (6, [.int 0, vm_1, vm_2, vm_3, vm_4, .ref hs, vm_6, .ref tn, vm_8, vm_9, vm_10, vm_11, vm_12, vm_13, vm_14, vm_15, vm_16, vm_17, vm_18, vm_19, vm_20, vm_21, vm_22, vm_23])), (hs, .inl (cI, 45, .inl f)), (tn, .inl (cI, 45, .inl g2))]) A) ([.ref md, .int (nI j_4), .int (nI j_8), .int (nI j_12)] : List Value).toArray s 0 0 A) (F0 m 49 ls []) := by
          intro k
          induction k with
          | zero =>
            intro i_13 g_14 y_15 y_16 H locs ls hik  hP hD hS hl
            refine lv_iload hx hb dX6_hang_49 (lv_at hl 0 rfl) ?_
            refine lv_aload_n hx hb dX6_hang_51 rfl (lv_at hl 3 rfl) ?_
            refine va_get (D := D) (ci := 6) (v := .ref hs) (C := RX6) (T := TX6) (N := 24) hx hb hts hi6 hown hK.1 hP 0 rfl rfl 5 (by decide) wf19 (fun _ h9 => h9) rfl dX6_hang_52 ?_
            refine lv_iconst (v := 0) hx hb dX6_hang_55 (by decide) ?_
            refine va_iald hx hb hK.1 hP 1 0 rfl rfl (by rw [vp_in_iff]; decide) dX6_hang_56 ?_
            refine wt_top (z := nI R) (hrk.1) ?_
            refine lv_icmp_gt (tgt := 145) hx hb dX6_hang_57 (by decide) (fun _ => ?_) (fun h => absurd (nI_lt (a := R) (b := i_13) (by omega) (by omega)) h)
            refine lv_iload_n hx hb dX6_hang_145 rfl (lv_at hl 6 rfl) ?_
            refine lv_if_ne (tgt := 154) hx hb dX6_hang_146 (by decide) (fun c_17 => ?_) (fun c_17 => ?_)
            · skip
              have c_17 : ¬ (j_12 = 0) := fun h => c_17 ((nI_eq (a := j_12) (b := 0) (by omega) (by omega)).mpr h)
              refine lv_iload hx hb dX6_hang_154 (lv_at hl 1 rfl) ?_
              have hP9 := hP.sub (ws' := [(md, .inr (6, [.int 0, vm_1, vm_2, vm_3, vm_4, .ref hs, vm_6, .ref tn, vm_8, vm_9, vm_10, vm_11, vm_12, vm_13, vm_14, vm_15, vm_16, vm_17, vm_18, vm_19, vm_20, vm_21, vm_22, vm_23])), (hs, .inl (cI, 45, .inl f)), (tn, .inl (cI, 45, .inl g_14))]) [0, 1, 2] rfl
              have hD9 := hD.sub (ws' := [(md, .inr (6, [.int 0, vm_1, vm_2, vm_3, vm_4, .ref hs, vm_6, .ref tn, vm_8, vm_9, vm_10, vm_11, vm_12, vm_13, vm_14, vm_15, vm_16, vm_17, vm_18, vm_19, vm_20, vm_21, vm_22, vm_23])), (hs, .inl (cI, 45, .inl f)), (tn, .inl (cI, 45, .inl g_14))]) [0, 1, 2] (by decide) rfl
              exact wt_iret hx hb hr hlocks hP9 hD9 hS ⟨g_14, rfl⟩ dX6_hang_156
            · skip
              have c_17 : j_12 = 0 := (nI_eq (a := j_12) (b := 0) (by omega) (by omega)).mp c_17
              refine lv_iload hx hb dX6_hang_149 (lv_at hl 2 rfl) ?_
              refine lv_goto (tgt := 156) hx hb dX6_hang_151 (by decide) ?_
              have hP9 := hP.sub (ws' := [(md, .inr (6, [.int 0, vm_1, vm_2, vm_3, vm_4, .ref hs, vm_6, .ref tn, vm_8, vm_9, vm_10, vm_11, vm_12, vm_13, vm_14, vm_15, vm_16, vm_17, vm_18, vm_19, vm_20, vm_21, vm_22, vm_23])), (hs, .inl (cI, 45, .inl f)), (tn, .inl (cI, 45, .inl g_14))]) [0, 1, 2] rfl
              have hD9 := hD.sub (ws' := [(md, .inr (6, [.int 0, vm_1, vm_2, vm_3, vm_4, .ref hs, vm_6, .ref tn, vm_8, vm_9, vm_10, vm_11, vm_12, vm_13, vm_14, vm_15, vm_16, vm_17, vm_18, vm_19, vm_20, vm_21, vm_22, vm_23])), (hs, .inl (cI, 45, .inl f)), (tn, .inl (cI, 45, .inl g_14))]) [0, 1, 2] (by decide) rfl
              exact wt_iret hx hb hr hlocks hP9 hD9 hS ⟨g_14, rfl⟩ dX6_hang_156
          | succ k ih49 =>
            intro i_13 g_14 y_15 y_16 H locs ls hik  hP hD hS hl
            refine lv_iload hx hb dX6_hang_49 (lv_at hl 0 rfl) ?_
            refine lv_aload_n hx hb dX6_hang_51 rfl (lv_at hl 3 rfl) ?_
            refine va_get (D := D) (ci := 6) (v := .ref hs) (C := RX6) (T := TX6) (N := 24) hx hb hts hi6 hown hK.1 hP 0 rfl rfl 5 (by decide) wf19 (fun _ h9 => h9) rfl dX6_hang_52 ?_
            refine lv_iconst (v := 0) hx hb dX6_hang_55 (by decide) ?_
            refine va_iald hx hb hK.1 hP 1 0 rfl rfl (by rw [vp_in_iff]; decide) dX6_hang_56 ?_
            refine wt_top (z := nI R) (hrk.1) ?_
            refine lv_icmp_gt (tgt := 145) hx hb dX6_hang_57 (by decide) (fun h => absurd h (nI_nlt (a := R) (b := i_13) (by omega) (by omega))) (fun _ => ?_)
            refine lv_aload_n hx hb dX6_hang_60 rfl (lv_at hl 3 rfl) ?_
            refine wt_goV (wr := []) (wt_runV (As := []) (rest := []) ⟨hx, hb, hml, hown, hts⟩ (c_X6_layThen l D cI cZ cH md hs R T f tn g_14 (.int 0) vm_1 vm_2 vm_3 vm_4 vm_6 vm_8 vm_9 vm_10 vm_11 vm_12 vm_13 vm_14 vm_15 vm_16 vm_17 vm_18 vm_19 vm_20 vm_21 vm_22 vm_23 (by first | assumption | omega) (by first | assumption | omega) (by first | assumption | omega)) (cwV 0 hts gX6_hang_X6_layThen rfl rfl rfl (by decide +kernel) ⟨Nat.le_of_ble_eq_true rfl, Nat.le_of_ble_eq_true rfl⟩) hK hP hD [0, 1, 2] rfl (by decide) (va_recv hK.1 hP (ci := 6) (q0 := 0) rfl rfl) rfl hl.1 rfl (Nat.le_of_ble_eq_true rfl) dX6_hang_61 ⟨Nat.le_of_ble_eq_true rfl, Nat.le_of_ble_eq_true rfl⟩) hP hD hS hA [0, 1, 2] [] rfl rfl (by decide) (by decide) (fun w_19 H locs h_20 hP hD hS => ?_)
            obtain ⟨g2_21, rfl, x_22⟩ := h_20
            have hP : va_P D vwCl [(md, .inr (6, [.int 0, vm_1, vm_2, vm_3, vm_4, .ref hs, vm_6, .ref tn, vm_8, vm_9, vm_10, vm_11, vm_12, vm_13, vm_14, vm_15, vm_16, vm_17, vm_18, vm_19, vm_20, vm_21, vm_22, vm_23])), (hs, .inl (cI, 45, .inl f)), (tn, .inl (cI, 45, .inl g2_21))] H := hP
            have hD : va_D A [(md, .inr (6, [.int 0, vm_1, vm_2, vm_3, vm_4, .ref hs, vm_6, .ref tn, vm_8, vm_9, vm_10, vm_11, vm_12, vm_13, vm_14, vm_15, vm_16, vm_17, vm_18, vm_19, vm_20, vm_21, vm_22, vm_23])), (hs, .inl (cI, 45, .inl f)), (tn, .inl (cI, 45, .inl g2_21))] := hD
            refine lv_aload_n hx hb dX6_hang_64 rfl (lv_at hl 3 rfl) ?_
            refine va_get (D := D) (ci := 6) (v := .ref tn) (C := RX6) (T := TX6) (N := 24) hx hb hts hi6 hown hK.1 hP 0 rfl rfl 7 (by decide) wf25 (fun _ h9 => h9) rfl dX6_hang_65 ?_
            refine lv_iload_n hx hb dX6_hang_68 rfl (lv_at hl 4 rfl) ?_
            refine lv_iconst (v := 1) hx hb dX6_hang_69 (by decide) ?_
            refine lv_iload hx hb dX6_hang_70 (lv_at hl 0 rfl) ?_
            refine wt_goV (wr := [(md, .inr (6, [.int 0, vm_1, vm_2, vm_3, vm_4, .ref hs, vm_6, .ref tn, vm_8, vm_9, vm_10, vm_11, vm_12, vm_13, vm_14, vm_15, vm_16, vm_17, vm_18, vm_19, vm_20, vm_21, vm_22, vm_23])), (hs, .inl (cI, 45, .inl f))]) (wt_runS (As := [.ref tn, .int (nI j_4), .int 1, .int (nI i_13)]) (rest := []) ⟨hx, hb, hml, hown, hts⟩ (c_X6_be_1 l D cI cZ cH tn R T g2_21 j_4 i_13 (by first | assumption | omega) (by first | assumption | omega) (by first | assumption | omega) (by first | assumption | omega) (by first | assumption | omega)) (va_cwS 4 hts gX6_hang_X6_be rfl rfl rfl (by decide +kernel) ⟨Nat.le_of_ble_eq_true rfl, Nat.le_of_ble_eq_true rfl⟩) hK hP hD [2] rfl (by decide) rfl hl.1 rfl (Nat.le_of_ble_eq_true rfl) dX6_hang_72 ⟨Nat.le_of_ble_eq_true rfl, Nat.le_of_ble_eq_true rfl⟩) hP hD hS hA [2] [0, 1] rfl rfl (by decide) (by decide) (fun w_24 H locs h_25 hP hD hS => ?_)
            obtain ⟨f2_26, rfl, x_27⟩ := h_25
            have hP : va_P D vwCl [(md, .inr (6, [.int 0, vm_1, vm_2, vm_3, vm_4, .ref hs, vm_6, .ref tn, vm_8, vm_9, vm_10, vm_11, vm_12, vm_13, vm_14, vm_15, vm_16, vm_17, vm_18, vm_19, vm_20, vm_21, vm_22, vm_23])), (hs, .inl (cI, 45, .inl f)), (tn, .inl (cI, 45, .inl f2_26))] H := hP
            have hD : va_D A [(md, .inr (6, [.int 0, vm_1, vm_2, vm_3, vm_4, .ref hs, vm_6, .ref tn, vm_8, vm_9, vm_10, vm_11, vm_12, vm_13, vm_14, vm_15, vm_16, vm_17, vm_18, vm_19, vm_20, vm_21, vm_22, vm_23])), (hs, .inl (cI, 45, .inl f)), (tn, .inl (cI, 45, .inl f2_26))] := hD
            refine lv_aload_n hx hb dX6_hang_75 rfl (lv_at hl 3 rfl) ?_
            refine va_get (D := D) (ci := 6) (v := .ref tn) (C := RX6) (T := TX6) (N := 24) hx hb hts hi6 hown hK.1 hP 0 rfl rfl 7 (by decide) wf25 (fun _ h9 => h9) rfl dX6_hang_76 ?_
            refine lv_iload_n hx hb dX6_hang_79 rfl (lv_at hl 5 rfl) ?_
            refine wt_goV (wr := [(md, .inr (6, [.int 0, vm_1, vm_2, vm_3, vm_4, .ref hs, vm_6, .ref tn, vm_8, vm_9, vm_10, vm_11, vm_12, vm_13, vm_14, vm_15, vm_16, vm_17, vm_18, vm_19, vm_20, vm_21, vm_22, vm_23])), (hs, .inl (cI, 45, .inl f))]) (wt_runS (As := [.ref tn, .int (nI j_8)]) (rest := []) ⟨hx, hb, hml, hown, hts⟩ (c_X6_minutesOf l D cI cZ cH tn R T f2_26 j_8 (by first | assumption | omega) (by first | assumption | omega) (by first | assumption | omega) (by first | assumption | omega)) (va_cwS 2 hts gX6_hang_X6_minutesOf rfl rfl rfl (by decide +kernel) ⟨Nat.le_of_ble_eq_true rfl, Nat.le_of_ble_eq_true rfl⟩) hK hP hD [2] rfl (by decide) rfl hl.1 rfl (Nat.le_of_ble_eq_true rfl) dX6_hang_80 ⟨Nat.le_of_ble_eq_true rfl, Nat.le_of_ble_eq_true rfl⟩) hP hD hS hA [2] [0, 1] rfl rfl (by decide) (by decide) (fun w_29 H locs h_30 hP hD hS => ?_)
            obtain ⟨f2_31, rfl, x_32⟩ := h_30
            have hP : va_P D vwCl [(md, .inr (6, [.int 0, vm_1, vm_2, vm_3, vm_4, .ref hs, vm_6, .ref tn, vm_8, vm_9, vm_10, vm_11, vm_12, vm_13, vm_14, vm_15, vm_16, vm_17, vm_18, vm_19, vm_20, vm_21, vm_22, vm_23])), (hs, .inl (cI, 45, .inl f)), (tn, .inl (cI, 45, .inl f2_31))] H := hP
            have hD : va_D A [(md, .inr (6, [.int 0, vm_1, vm_2, vm_3, vm_4, .ref hs, vm_6, .ref tn, vm_8, vm_9, vm_10, vm_11, vm_12, vm_13, vm_14, vm_15, vm_16, vm_17, vm_18, vm_19, vm_20, vm_21, vm_22, vm_23])), (hs, .inl (cI, 45, .inl f)), (tn, .inl (cI, 45, .inl f2_31))] := hD
            refine lv_aload_n hx hb dX6_hang_83 rfl (lv_at hl 3 rfl) ?_
            refine va_get (D := D) (ci := 6) (v := .ref tn) (C := RX6) (T := TX6) (N := 24) hx hb hts hi6 hown hK.1 hP 0 rfl rfl 7 (by decide) wf25 (fun _ h9 => h9) rfl dX6_hang_84 ?_
            refine lv_iload_n hx hb dX6_hang_87 rfl (lv_at hl 4 rfl) ?_
            refine lv_iconst (v := 4) hx hb dX6_hang_88 (by decide) ?_
            refine wt_rS (As := [.ref tn, .int (nI j_4), .int 4]) (rest := []) ⟨hx, hb, hml, hown, hts⟩ (c_X6_of_w l D cI cZ cH tn R T f2_31 j_4 4 (by first | assumption | omega) (by first | assumption | omega) (by first | assumption | omega) (by first | assumption | omega) (by first | assumption | omega)) (va_cwS 3 hts gX6_hang_X6_of rfl rfl rfl (by decide +kernel) ⟨Nat.le_of_ble_eq_true rfl, Nat.le_of_ble_eq_true rfl⟩) hK hP [2] rfl rfl hl.1 rfl (Nat.le_of_ble_eq_true rfl) dX6_hang_89 ⟨Nat.le_of_ble_eq_true rfl, Nat.le_of_ble_eq_true rfl⟩ (fun r_33 e_34 => ?_)
            refine lv_iload hx hb dX6_hang_92 (lv_at hl 1 rfl) ?_
            refine lv_icmp_le (tgt := 101) hx hb dX6_hang_94 (by decide) (fun c_35 => ?_) (fun c_35 => ?_)
            · skip
              refine lv_iconst (v := 0) hx hb dX6_hang_101 (by decide) ?_
              refine lv_istore (lv' := [(7, .int 0), (6, .int (nI i_13)), (5, .int y_16), (4, .int y_15), (0, .ref md), (1, .int (nI j_4)), (2, .int (nI j_8)), (3, .int (nI j_12))]) hx hb dX6_hang_102 hl (by decide) rfl (fun ls hl => ?_)
              refine lv_iload hx hb dX6_hang_104 (lv_at hl 0 rfl) ?_
              refine lv_if_eq (tgt := 114) hx hb dX6_hang_106 (by decide) (fun _ => ?_) (fun h => absurd h (by decide))
              refine lv_iload hx hb dX6_hang_114 (lv_at hl 3 rfl) ?_
              refine lv_istore (lv' := [(4, .int y_15), (7, .int 0), (6, .int (nI i_13)), (5, .int y_16), (0, .ref md), (1, .int (nI j_4)), (2, .int (nI j_8)), (3, .int (nI j_12))]) hx hb dX6_hang_116 hl (by decide) rfl (fun ls hl => ?_)
              refine lv_iload hx hb dX6_hang_118 (lv_at hl 1 rfl) ?_
              refine lv_if_eq (tgt := 135) hx hb dX6_hang_120 (by decide) (fun _ => ?_) (fun h => absurd h (by decide))
              refine lv_iload hx hb dX6_hang_135 (lv_at hl 3 rfl) ?_
              refine lv_istore (lv' := [(5, .int y_16), (4, .int y_15), (7, .int 0), (6, .int (nI i_13)), (0, .ref md), (1, .int (nI j_4)), (2, .int (nI j_8)), (3, .int (nI j_12))]) hx hb dX6_hang_137 hl (by decide) rfl (fun ls hl => ?_)
              refine lv_iinc (v := nI (i_13 + 1)) (lv' := [(6, .int (nI (i_13 + 1))), (5, .int y_16), (4, .int y_15), (7, .int 0), (0, .ref md), (1, .int (nI j_4)), (2, .int (nI j_8)), (3, .int (nI j_12))]) hx hb dX6_hang_139 hl (k := 3) rfl (nI_add i_13 1) (by decide) rfl (fun ls hl => ?_)
              refine lv_goto (tgt := 49) hx hb dX6_hang_142 (by decide) ?_
              exact ih49 ((i_13 + 1)) f2_31 y_15 y_16 H locs ls (by omega)  hP hD hS (lv_sub hl [0, 1, 2, 4, 5, 6, 7] rfl)
            · skip
              refine lv_iconst (v := 1) hx hb dX6_hang_97 (by decide) ?_
              refine lv_goto (tgt := 102) hx hb dX6_hang_98 (by decide) ?_
              refine lv_istore (lv' := [(7, .int 1), (6, .int (nI i_13)), (5, .int y_16), (4, .int y_15), (0, .ref md), (1, .int (nI j_4)), (2, .int (nI j_8)), (3, .int (nI j_12))]) hx hb dX6_hang_102 hl (by decide) rfl (fun ls hl => ?_)
              refine lv_iload hx hb dX6_hang_104 (lv_at hl 0 rfl) ?_
              refine lv_if_eq (tgt := 114) hx hb dX6_hang_106 (by decide) (fun h => absurd h (by decide)) (fun _ => ?_)
              refine lv_iload hx hb dX6_hang_109 (lv_at hl 1 rfl) ?_
              refine lv_goto (tgt := 116) hx hb dX6_hang_111 (by decide) ?_
              refine lv_istore (lv' := [(4, .int (nI i_13)), (7, .int 1), (6, .int (nI i_13)), (5, .int y_16), (0, .ref md), (1, .int (nI j_4)), (2, .int (nI j_8)), (3, .int (nI j_12))]) hx hb dX6_hang_116 hl (by decide) rfl (fun ls hl => ?_)
              refine lv_iload hx hb dX6_hang_118 (lv_at hl 1 rfl) ?_
              refine lv_if_eq (tgt := 135) hx hb dX6_hang_120 (by decide) (fun h => absurd h (by decide)) (fun _ => ?_)
              refine lv_aload_n hx hb dX6_hang_123 rfl (lv_at hl 4 rfl) ?_
              refine va_get (D := D) (ci := 6) (v := .ref tn) (C := RX6) (T := TX6) (N := 24) hx hb hts hi6 hown hK.1 hP 0 rfl rfl 7 (by decide) wf25 (fun _ h9 => h9) rfl dX6_hang_124 ?_
              refine lv_iload_n hx hb dX6_hang_127 rfl (lv_at hl 5 rfl) ?_
              refine lv_iconst (v := 4) hx hb dX6_hang_128 (by decide) ?_
              refine wt_rS (As := [.ref tn, .int (nI j_4), .int 4]) (rest := []) ⟨hx, hb, hml, hown, hts⟩ (c_X6_of_w l D cI cZ cH tn R T f2_31 j_4 4 (by first | assumption | omega) (by first | assumption | omega) (by first | assumption | omega) (by first | assumption | omega) (by first | assumption | omega)) (va_cwS 3 hts gX6_hang_X6_of rfl rfl rfl (by decide +kernel) ⟨Nat.le_of_ble_eq_true rfl, Nat.le_of_ble_eq_true rfl⟩) hK hP [2] rfl rfl hl.1 rfl (Nat.le_of_ble_eq_true rfl) dX6_hang_129 ⟨Nat.le_of_ble_eq_true rfl, Nat.le_of_ble_eq_true rfl⟩ (fun r_36 e_37 => ?_)
              refine lv_goto (tgt := 137) hx hb dX6_hang_132 (by decide) ?_
              refine lv_istore (lv' := [(5, .int r_36), (4, .int (nI i_13)), (7, .int 1), (6, .int (nI i_13)), (0, .ref md), (1, .int (nI j_4)), (2, .int (nI j_8)), (3, .int (nI j_12))]) hx hb dX6_hang_137 hl (by decide) rfl (fun ls hl => ?_)
              refine lv_iinc (v := nI (i_13 + 1)) (lv' := [(6, .int (nI (i_13 + 1))), (5, .int r_36), (4, .int (nI i_13)), (7, .int 1), (0, .ref md), (1, .int (nI j_4)), (2, .int (nI j_8)), (3, .int (nI j_12))]) hx hb dX6_hang_139 hl (k := 3) rfl (nI_add i_13 1) (by decide) rfl (fun ls hl => ?_)
              refine lv_goto (tgt := 49) hx hb dX6_hang_142 (by decide) ?_
              exact ih49 ((i_13 + 1)) f2_31 (nI i_13) r_36 H locs ls (by omega)  hP hD hS (lv_sub hl [0, 1, 2, 4, 5, 6, 7] rfl)
        exact loop49 ((R + 1) - 0) (0) g (-1000000) (-1000000) _ _ ls (by omega)  hP hD hS hl
      · skip
        refine lv_ldc hx hb hown wc67 dX6_hang_35 ?_
        have hP9 := hP.sub (ws' := [(md, .inr (6, [.int 0, vm_1, vm_2, vm_3, vm_4, .ref hs, vm_6, .ref tn, vm_8, vm_9, vm_10, vm_11, vm_12, vm_13, vm_14, vm_15, vm_16, vm_17, vm_18, vm_19, vm_20, vm_21, vm_22, vm_23])), (hs, .inl (cI, 45, .inl f)), (tn, .inl (cI, 45, .inl g))]) [0, 1, 2] rfl
        have hD9 := hD.sub (ws' := [(md, .inr (6, [.int 0, vm_1, vm_2, vm_3, vm_4, .ref hs, vm_6, .ref tn, vm_8, vm_9, vm_10, vm_11, vm_12, vm_13, vm_14, vm_15, vm_16, vm_17, vm_18, vm_19, vm_20, vm_21, vm_22, vm_23])), (hs, .inl (cI, 45, .inl f)), (tn, .inl (cI, 45, .inl g))]) [0, 1, 2] (by decide) rfl
        exact wt_iret hx hb hr hlocks hP9 hD9 hS ⟨g, rfl⟩ dX6_hang_37
set_option maxHeartbeats 4000000 in
set_option maxRecDepth 100000 in
theorem c_X6_fire (l : Launch) (D : va_G) (cI cZ cH : ClassId) (md hs : Nat) (R T : Nat) (f : Nat → Int32) (tn : Nat) (g : Nat → Int32) (a1 a2 : Int32) (vm_0 vm_1 vm_2 vm_3 vm_4 vm_6 vm_8 vm_9 vm_10 vm_11 vm_12 vm_13 vm_14 vm_15 vm_16 vm_17 vm_18 vm_19 vm_20 vm_21 vm_22 vm_23 : Value) (hR5 : R ≤ 5) (hT6 : T ≤ 6) (hrk : rk R T f) : wt_M l yX6_fire wsX6_fire ({ frames := 5, cells := 0, slots := 0, locals := 113 } : Room) D (wt_T cI cZ cH) [.ref md, .int a1, .int a2] [(md, .inr (6, [vm_0, vm_1, vm_2, vm_3, vm_4, .ref hs, vm_6, .ref tn, vm_8, vm_9, vm_10, vm_11, vm_12, vm_13, vm_14, vm_15, vm_16, vm_17, vm_18, vm_19, vm_20, vm_21, vm_22, vm_23])), (hs, .inl (cI, 45, .inl f)), (tn, .inl (cI, 45, .inl g))] (wt_QI D (fun r w => ∃ (g2 : Nat → Int32), w = [(md, .inr (6, [.int 0, vm_1, vm_2, vm_3, vm_4, .ref hs, vm_6, .ref tn, vm_8, vm_9, vm_10, vm_11, vm_12, vm_13, vm_14, vm_15, vm_16, vm_17, vm_18, vm_19, vm_20, vm_21, vm_22, vm_23])), (hs, .inl (cI, 45, .inl f)), (tn, .inl (cI, 45, .inl g2))])) := by
  refine wt_M.ofW (cc := cX6_fire) (maxL := 4) (ret := (some .int)) (by decide) rfl (Nat.le_of_ble_eq_true rfl) ?_
  intro p e s m below meth c A ls hx hb hr hts hown hlocks hml hnm hP hK hD hA hS hl
  have hP : va_P D vwCl [(md, .inr (6, [vm_0, vm_1, vm_2, vm_3, vm_4, .ref hs, vm_6, .ref tn, vm_8, vm_9, vm_10, vm_11, vm_12, vm_13, vm_14, vm_15, vm_16, vm_17, vm_18, vm_19, vm_20, vm_21, vm_22, vm_23])), (hs, .inl (cI, 45, .inl f)), (tn, .inl (cI, 45, .inl g))] s.heap := hP
  have hown : s.vm.findClass RX6 = some m.cls := hown
  have hl : lv_has ls 4 [(0, .ref md), (1, .int a1), (2, .int a2)] := hl
  have hi6 : ∀ w ∈ u_ws RX6 TX6 24, w ∈ wsX6_fire := by decide +kernel
  have wc67 := hts (.constant RX6 67 (-1000001)) (by decide +kernel)
  have wc90 := hts (.constant RX6 90 (-1000000)) (by decide +kernel)
  have wf25 := hts (.fieldLink RX6 25 "WarmTubesModel" "then" "[I") (by decide +kernel)
  have wf47 := hts (.fieldLink RX6 47 "WarmTubesModel" "thrown" "I") (by decide +kernel)
  have wl235 := hts (.constantLong RX6 235 (30)) (by decide +kernel)
  refine lv_aload_n hx hb dX6_fire_0 rfl (lv_at hl 0 rfl) ?_
  refine lv_iconst (v := 0) hx hb dX6_fire_1 (by decide) ?_
  refine va_put (D := D) (ci := 6) (v := .int 0) (ty := .int) (C := RX6) (T := TX6) (N := 24) hx hb hts hi6 tyX6 tyX6_ok nmX6 hown hK.1 hP hD hS 0 rfl rfl 0 (by decide) wf47 (fun _ h9 => h9) rfl (by decide +kernel) rfl rfl (Nat.le_of_ble_eq_true rfl) dX6_fire_2 (fun H locs hP hD hS => ?_)
  have hP : va_P D vwCl [(md, .inr (6, [.int 0, vm_1, vm_2, vm_3, vm_4, .ref hs, vm_6, .ref tn, vm_8, vm_9, vm_10, vm_11, vm_12, vm_13, vm_14, vm_15, vm_16, vm_17, vm_18, vm_19, vm_20, vm_21, vm_22, vm_23])), (hs, .inl (cI, 45, .inl f)), (tn, .inl (cI, 45, .inl g))] H := hP
  have hD : va_D A [(md, .inr (6, [.int 0, vm_1, vm_2, vm_3, vm_4, .ref hs, vm_6, .ref tn, vm_8, vm_9, vm_10, vm_11, vm_12, vm_13, vm_14, vm_15, vm_16, vm_17, vm_18, vm_19, vm_20, vm_21, vm_22, vm_23])), (hs, .inl (cI, 45, .inl f)), (tn, .inl (cI, 45, .inl g))] := hD
  refine lv_aload_n hx hb dX6_fire_5 rfl (lv_at hl 0 rfl) ?_
  refine lv_iload_n hx hb dX6_fire_6 rfl (lv_at hl 1 rfl) ?_
  refine wt_rV (As := [.int a1]) (rest := []) ⟨hx, hb, hml, hown, hts⟩ (c_X6_isRoom l D cI cZ cH md hs R T f a1 (.int 0) vm_1 vm_2 vm_3 vm_4 vm_6 (.ref tn) vm_8 vm_9 vm_10 vm_11 vm_12 vm_13 vm_14 vm_15 vm_16 vm_17 vm_18 vm_19 vm_20 vm_21 vm_22 vm_23 (by first | assumption | omega) (by first | assumption | omega) (by first | assumption | omega)) (cwV 1 hts gX6_fire_X6_isRoom rfl rfl rfl (by decide +kernel) ⟨Nat.le_of_ble_eq_true rfl, Nat.le_of_ble_eq_true rfl⟩) hK hP [0, 1] rfl (va_recv hK.1 hP (ci := 6) (q0 := 0) rfl rfl) rfl hl.1 rfl (Nat.le_of_ble_eq_true rfl) dX6_fire_7 ⟨Nat.le_of_ble_eq_true rfl, Nat.le_of_ble_eq_true rfl⟩ (fun r_1 e_2 => ?_)
  subst e_2
  refine lv_if_eq (tgt := 25) hx hb dX6_fire_10 (by decide) (fun c_3 => ?_) (fun c_3 => ?_)
  · skip
    refine lv_ldc hx hb hown wc67 dX6_fire_25 ?_
    have hP9 := hP.sub (ws' := [(md, .inr (6, [.int 0, vm_1, vm_2, vm_3, vm_4, .ref hs, vm_6, .ref tn, vm_8, vm_9, vm_10, vm_11, vm_12, vm_13, vm_14, vm_15, vm_16, vm_17, vm_18, vm_19, vm_20, vm_21, vm_22, vm_23])), (hs, .inl (cI, 45, .inl f)), (tn, .inl (cI, 45, .inl g))]) [0, 1, 2] rfl
    have hD9 := hD.sub (ws' := [(md, .inr (6, [.int 0, vm_1, vm_2, vm_3, vm_4, .ref hs, vm_6, .ref tn, vm_8, vm_9, vm_10, vm_11, vm_12, vm_13, vm_14, vm_15, vm_16, vm_17, vm_18, vm_19, vm_20, vm_21, vm_22, vm_23])), (hs, .inl (cI, 45, .inl f)), (tn, .inl (cI, 45, .inl g))]) [0, 1, 2] (by decide) rfl
    exact wt_iret hx hb hr hlocks hP9 hD9 hS ⟨g, rfl⟩ dX6_fire_27
  · skip
    obtain ⟨j_4, hj_4, rfl⟩ := wI_natT (T := R) (by omega) c_3
    refine lv_iload_n hx hb dX6_fire_13 rfl (lv_at hl 2 rfl) ?_
    refine lv_i2l hx hb dX6_fire_14 rfl ?_
    refine lv_lconst (v := 1) hx hb dX6_fire_15 (by decide) ?_
    refine lv_ldc2 hx hb hown wl235 dX6_fire_16 ?_
    refine wt_rS (As := [.long a2.toInt64, .long 1, .long 30]) (rest := []) ⟨hx, hb, hml, hown, hts⟩ (c_X6_in l D cI cZ cH a2.toInt64 1 30) (va_cwS 3 hts gX6_fire_X6_in rfl rfl rfl (by decide +kernel) ⟨Nat.le_of_ble_eq_true rfl, Nat.le_of_ble_eq_true rfl⟩) hK hP [] rfl rfl hl.1 rfl (Nat.le_of_ble_eq_true rfl) dX6_fire_19 ⟨Nat.le_of_ble_eq_true rfl, Nat.le_of_ble_eq_true rfl⟩ (fun r_5 e_6 => ?_)
    subst e_6
    refine wt_top (z := wI a2 1 30) (wL_I' (by decide) (by decide)) ?_
    refine lv_if_ne (tgt := 28) hx hb dX6_fire_22 (by decide) (fun c_7 => ?_) (fun c_7 => ?_)
    · skip
      obtain ⟨j_8, hj_8, hj_8b, rfl⟩ := wI_nat (a := 1) (b := 30) (by omega) (by omega) c_7
      refine lv_iconst (v := 0) hx hb dX6_fire_28 (by decide) ?_
      refine lv_istore_n (lv' := [(3, .int 0), (0, .ref md), (1, .int (nI j_4)), (2, .int (nI j_8))]) hx hb dX6_fire_29 rfl hl (by decide) rfl (fun ls hl => ?_)
      have loop30 : ∀ (k i_9 : Nat) (g_10 : Nat → Int32) (H : Heap) (locs : List Loc) (ls : Array Slot), i_9 + k = 20 + 1 → va_P D vwCl [(md, .inr (6, [.int 0, vm_1, vm_2, vm_3, vm_4, .ref hs, vm_6, .ref tn, vm_8, vm_9, vm_10, vm_11, vm_12, vm_13, vm_14, vm_15, vm_16, vm_17, vm_18, vm_19, vm_20, vm_21, vm_22, vm_23])), (hs, .inl (cI, 45, .inl f)), (tn, .inl (cI, 45, .inl g_10))] H → va_D A [(md, .inr (6, [.int 0, vm_1, vm_2, vm_3, vm_4, .ref hs, vm_6, .ref tn, vm_8, vm_9, vm_10, vm_11, vm_12, vm_13, vm_14, vm_15, vm_16, vm_17, vm_18, vm_19, vm_20, vm_21, vm_22, vm_23])), (hs, .inl (cI, 45, .inl f)), (tn, .inl (cI, 45, .inl g_10))] → va_S A s.heap H locs → lv_has ls 4 [(3, .int (nI i_9)), (0, .ref md), (1, .int (nI j_4)), (2, .int (nI j_8))] → W p l e ({ frames := 5, cells := 0, slots := 0, locals := 113 } : Room) s m ([.ref md, .int (nI j_4), .int (nI j_8)] : List Value).toArray below meth c H locs 0 0 (MQ below (wt_QI D (fun r w => ∃ (g2 : Nat → Int32), w = [(md, .inr (6, [.int 0, vm_1, vm_2, vm_3, vm_4, .ref hs, vm_6, .ref tn, vm_8, vm_9, vm_10, vm_11, vm_12, vm_13, vm_14, vm_15, vm_16, vm_17, vm_18, vm_19, vm_20, vm_21, vm_22, vm_23])), (hs, .inl (cI, 45, .inl f)), (tn, .inl (cI, 45, .inl g2))]) A) ([.ref md, .int (nI j_4), .int (nI j_8)] : List Value).toArray s 0 0 A) (F0 m 30 ls []) := by
        intro k
        induction k with
        | zero =>
          intro i_9 g_10 H locs ls hik  hP hD hS hl
          refine lv_iload_n hx hb dX6_fire_30 rfl (lv_at hl 0 rfl) ?_
          refine lv_bipush (v := 20) hx hb dX6_fire_31 (by decide) ?_
          refine lv_icmp_gt (tgt := 80) hx hb dX6_fire_33 (by decide) (fun _ => ?_) (fun h => absurd (nI_lt (a := 20) (b := i_9) (by omega) (by omega)) h)
          refine lv_ldc hx hb hown wc90 dX6_fire_80 ?_
          have hP9 := hP.sub (ws' := [(md, .inr (6, [.int 0, vm_1, vm_2, vm_3, vm_4, .ref hs, vm_6, .ref tn, vm_8, vm_9, vm_10, vm_11, vm_12, vm_13, vm_14, vm_15, vm_16, vm_17, vm_18, vm_19, vm_20, vm_21, vm_22, vm_23])), (hs, .inl (cI, 45, .inl f)), (tn, .inl (cI, 45, .inl g_10))]) [0, 1, 2] rfl
          have hD9 := hD.sub (ws' := [(md, .inr (6, [.int 0, vm_1, vm_2, vm_3, vm_4, .ref hs, vm_6, .ref tn, vm_8, vm_9, vm_10, vm_11, vm_12, vm_13, vm_14, vm_15, vm_16, vm_17, vm_18, vm_19, vm_20, vm_21, vm_22, vm_23])), (hs, .inl (cI, 45, .inl f)), (tn, .inl (cI, 45, .inl g_10))]) [0, 1, 2] (by decide) rfl
          exact wt_iret hx hb hr hlocks hP9 hD9 hS ⟨g_10, rfl⟩ dX6_fire_82
        | succ k ih30 =>
          intro i_9 g_10 H locs ls hik  hP hD hS hl
          refine lv_iload_n hx hb dX6_fire_30 rfl (lv_at hl 0 rfl) ?_
          refine lv_bipush (v := 20) hx hb dX6_fire_31 (by decide) ?_
          refine lv_icmp_gt (tgt := 80) hx hb dX6_fire_33 (by decide) (fun h => absurd h (nI_nlt (a := 20) (b := i_9) (by omega) (by omega))) (fun _ => ?_)
          refine lv_aload_n hx hb dX6_fire_36 rfl (lv_at hl 1 rfl) ?_
          refine wt_goV (wr := []) (wt_runV (As := []) (rest := []) ⟨hx, hb, hml, hown, hts⟩ (c_X6_layThen l D cI cZ cH md hs R T f tn g_10 (.int 0) vm_1 vm_2 vm_3 vm_4 vm_6 vm_8 vm_9 vm_10 vm_11 vm_12 vm_13 vm_14 vm_15 vm_16 vm_17 vm_18 vm_19 vm_20 vm_21 vm_22 vm_23 (by first | assumption | omega) (by first | assumption | omega) (by first | assumption | omega)) (cwV 0 hts gX6_fire_X6_layThen rfl rfl rfl (by decide +kernel) ⟨Nat.le_of_ble_eq_true rfl, Nat.le_of_ble_eq_true rfl⟩) hK hP hD [0, 1, 2] rfl (by decide) (va_recv hK.1 hP (ci := 6) (q0 := 0) rfl rfl) rfl hl.1 rfl (Nat.le_of_ble_eq_true rfl) dX6_fire_37 ⟨Nat.le_of_ble_eq_true rfl, Nat.le_of_ble_eq_true rfl⟩) hP hD hS hA [0, 1, 2] [] rfl rfl (by decide) (by decide) (fun w_12 H locs h_13 hP hD hS => ?_)
          obtain ⟨g2_14, rfl, x_15⟩ := h_13
          have hP : va_P D vwCl [(md, .inr (6, [.int 0, vm_1, vm_2, vm_3, vm_4, .ref hs, vm_6, .ref tn, vm_8, vm_9, vm_10, vm_11, vm_12, vm_13, vm_14, vm_15, vm_16, vm_17, vm_18, vm_19, vm_20, vm_21, vm_22, vm_23])), (hs, .inl (cI, 45, .inl f)), (tn, .inl (cI, 45, .inl g2_14))] H := hP
          have hD : va_D A [(md, .inr (6, [.int 0, vm_1, vm_2, vm_3, vm_4, .ref hs, vm_6, .ref tn, vm_8, vm_9, vm_10, vm_11, vm_12, vm_13, vm_14, vm_15, vm_16, vm_17, vm_18, vm_19, vm_20, vm_21, vm_22, vm_23])), (hs, .inl (cI, 45, .inl f)), (tn, .inl (cI, 45, .inl g2_14))] := hD
          refine lv_aload_n hx hb dX6_fire_40 rfl (lv_at hl 1 rfl) ?_
          refine va_get (D := D) (ci := 6) (v := .ref tn) (C := RX6) (T := TX6) (N := 24) hx hb hts hi6 hown hK.1 hP 0 rfl rfl 7 (by decide) wf25 (fun _ h9 => h9) rfl dX6_fire_41 ?_
          refine lv_iconst (v := 5) hx hb dX6_fire_44 (by decide) ?_
          refine lv_iconst (v := 2) hx hb dX6_fire_45 (by decide) ?_
          refine lv_iload_n hx hb dX6_fire_46 rfl (lv_at hl 2 rfl) ?_
          refine lv_imul hx hb dX6_fire_47 ?_
          refine wt_top (z := nI (2 * j_4)) (pk_mul 2 j_4) ?_
          refine lv_iadd hx hb dX6_fire_48 ?_
          refine wt_top (z := nI (5 + (2 * j_4))) (nI_add 5 (2 * j_4)) ?_
          refine lv_iconst (v := 1) hx hb dX6_fire_49 (by decide) ?_
          refine lv_iadd hx hb dX6_fire_50 ?_
          refine wt_top (z := nI ((5 + (2 * j_4)) + 1)) (nI_add (5 + (2 * j_4)) 1) ?_
          refine lv_iload_n hx hb dX6_fire_51 rfl (lv_at hl 0 rfl) ?_
          refine va_iast hx hb hK.1 hP hD hS 2 0 rfl rfl (vp_in_nI (by omega) (by omega)) dX6_fire_52 (fun H locs hP hD hS => ?_)
          have hP : va_P D vwCl [(md, .inr (6, [.int 0, vm_1, vm_2, vm_3, vm_4, .ref hs, vm_6, .ref tn, vm_8, vm_9, vm_10, vm_11, vm_12, vm_13, vm_14, vm_15, vm_16, vm_17, vm_18, vm_19, vm_20, vm_21, vm_22, vm_23])), (hs, .inl (cI, 45, .inl f)), (tn, .inl (cI, 45, .inl (upd g2_14 ((nI ((5 + (2 * j_4)) + 1)).toNatClampNeg) (nI i_9))))] H := hP
          have hD : va_D A [(md, .inr (6, [.int 0, vm_1, vm_2, vm_3, vm_4, .ref hs, vm_6, .ref tn, vm_8, vm_9, vm_10, vm_11, vm_12, vm_13, vm_14, vm_15, vm_16, vm_17, vm_18, vm_19, vm_20, vm_21, vm_22, vm_23])), (hs, .inl (cI, 45, .inl f)), (tn, .inl (cI, 45, .inl (upd g2_14 ((nI ((5 + (2 * j_4)) + 1)).toNatClampNeg) (nI i_9))))] := hD
          have rk_16 : rk R T (upd g2_14 ((nI ((5 + (2 * j_4)) + 1)).toNatClampNeg) (nI i_9)) := rk_upd (k := ((5 + (2 * j_4)) + 1)) x_15 (nI_clamp (by omega)) (by omega) _
          generalize upd g2_14 ((nI ((5 + (2 * j_4)) + 1)).toNatClampNeg) (nI i_9) = rf_17 at hP hD rk_16
          refine lv_aload_n hx hb dX6_fire_53 rfl (lv_at hl 1 rfl) ?_
          refine va_get (D := D) (ci := 6) (v := .ref tn) (C := RX6) (T := TX6) (N := 24) hx hb hts hi6 hown hK.1 hP 0 rfl rfl 7 (by decide) wf25 (fun _ h9 => h9) rfl dX6_fire_54 ?_
          refine lv_iload_n hx hb dX6_fire_57 rfl (lv_at hl 3 rfl) ?_
          refine wt_goV (wr := [(md, .inr (6, [.int 0, vm_1, vm_2, vm_3, vm_4, .ref hs, vm_6, .ref tn, vm_8, vm_9, vm_10, vm_11, vm_12, vm_13, vm_14, vm_15, vm_16, vm_17, vm_18, vm_19, vm_20, vm_21, vm_22, vm_23])), (hs, .inl (cI, 45, .inl f))]) (wt_runS (As := [.ref tn, .int (nI j_8)]) (rest := []) ⟨hx, hb, hml, hown, hts⟩ (c_X6_minutesOf l D cI cZ cH tn R T rf_17 j_8 (by first | assumption | omega) (by first | assumption | omega) (by first | assumption | omega) (by first | assumption | omega)) (va_cwS 2 hts gX6_fire_X6_minutesOf rfl rfl rfl (by decide +kernel) ⟨Nat.le_of_ble_eq_true rfl, Nat.le_of_ble_eq_true rfl⟩) hK hP hD [2] rfl (by decide) rfl hl.1 rfl (Nat.le_of_ble_eq_true rfl) dX6_fire_58 ⟨Nat.le_of_ble_eq_true rfl, Nat.le_of_ble_eq_true rfl⟩) hP hD hS hA [2] [0, 1] rfl rfl (by decide) (by decide) (fun w_19 H locs h_20 hP hD hS => ?_)
          obtain ⟨f2_21, rfl, x_22⟩ := h_20
          have hP : va_P D vwCl [(md, .inr (6, [.int 0, vm_1, vm_2, vm_3, vm_4, .ref hs, vm_6, .ref tn, vm_8, vm_9, vm_10, vm_11, vm_12, vm_13, vm_14, vm_15, vm_16, vm_17, vm_18, vm_19, vm_20, vm_21, vm_22, vm_23])), (hs, .inl (cI, 45, .inl f)), (tn, .inl (cI, 45, .inl f2_21))] H := hP
          have hD : va_D A [(md, .inr (6, [.int 0, vm_1, vm_2, vm_3, vm_4, .ref hs, vm_6, .ref tn, vm_8, vm_9, vm_10, vm_11, vm_12, vm_13, vm_14, vm_15, vm_16, vm_17, vm_18, vm_19, vm_20, vm_21, vm_22, vm_23])), (hs, .inl (cI, 45, .inl f)), (tn, .inl (cI, 45, .inl f2_21))] := hD
          refine lv_aload_n hx hb dX6_fire_61 rfl (lv_at hl 1 rfl) ?_
          refine va_get (D := D) (ci := 6) (v := .ref tn) (C := RX6) (T := TX6) (N := 24) hx hb hts hi6 hown hK.1 hP 0 rfl rfl 7 (by decide) wf25 (fun _ h9 => h9) rfl dX6_fire_62 ?_
          refine lv_iload_n hx hb dX6_fire_65 rfl (lv_at hl 2 rfl) ?_
          refine wt_rS (As := [.ref tn, .int (nI j_4)]) (rest := []) ⟨hx, hb, hml, hown, hts⟩ (c_X6_isCold l D cI cZ cH tn R T f2_21 j_4 (by first | assumption | omega) (by first | assumption | omega) (by first | assumption | omega) (by first | assumption | omega)) (va_cwS 2 hts gX6_fire_X6_isCold rfl rfl rfl (by decide +kernel) ⟨Nat.le_of_ble_eq_true rfl, Nat.le_of_ble_eq_true rfl⟩) hK hP [2] rfl rfl hl.1 rfl (Nat.le_of_ble_eq_true rfl) dX6_fire_66 ⟨Nat.le_of_ble_eq_true rfl, Nat.le_of_ble_eq_true rfl⟩ (fun r_23 e_24 => ?_)
          refine lv_if_ne (tgt := 74) hx hb dX6_fire_69 (by decide) (fun c_25 => ?_) (fun c_25 => ?_)
          · skip
            refine lv_iinc (v := nI (i_9 + 1)) (lv' := [(3, .int (nI (i_9 + 1))), (0, .ref md), (1, .int (nI j_4)), (2, .int (nI j_8))]) hx hb dX6_fire_74 hl (k := 0) rfl (nI_add i_9 1) (by decide) rfl (fun ls hl => ?_)
            refine lv_goto (tgt := 30) hx hb dX6_fire_77 (by decide) ?_
            exact ih30 ((i_9 + 1)) f2_21 H locs ls (by omega)  hP hD hS (lv_sub hl [0, 1, 2, 3] rfl)
          · skip
            refine lv_iload_n hx hb dX6_fire_72 rfl (lv_at hl 0 rfl) ?_
            have hP9 := hP.sub (ws' := [(md, .inr (6, [.int 0, vm_1, vm_2, vm_3, vm_4, .ref hs, vm_6, .ref tn, vm_8, vm_9, vm_10, vm_11, vm_12, vm_13, vm_14, vm_15, vm_16, vm_17, vm_18, vm_19, vm_20, vm_21, vm_22, vm_23])), (hs, .inl (cI, 45, .inl f)), (tn, .inl (cI, 45, .inl f2_21))]) [0, 1, 2] rfl
            have hD9 := hD.sub (ws' := [(md, .inr (6, [.int 0, vm_1, vm_2, vm_3, vm_4, .ref hs, vm_6, .ref tn, vm_8, vm_9, vm_10, vm_11, vm_12, vm_13, vm_14, vm_15, vm_16, vm_17, vm_18, vm_19, vm_20, vm_21, vm_22, vm_23])), (hs, .inl (cI, 45, .inl f)), (tn, .inl (cI, 45, .inl f2_21))]) [0, 1, 2] (by decide) rfl
            exact wt_iret hx hb hr hlocks hP9 hD9 hS ⟨f2_21, rfl⟩ dX6_fire_73
      exact loop30 ((20 + 1) - 0) (0) g _ _ ls (by omega)  hP hD hS hl
    · skip
      refine lv_ldc hx hb hown wc67 dX6_fire_25 ?_
      have hP9 := hP.sub (ws' := [(md, .inr (6, [.int 0, vm_1, vm_2, vm_3, vm_4, .ref hs, vm_6, .ref tn, vm_8, vm_9, vm_10, vm_11, vm_12, vm_13, vm_14, vm_15, vm_16, vm_17, vm_18, vm_19, vm_20, vm_21, vm_22, vm_23])), (hs, .inl (cI, 45, .inl f)), (tn, .inl (cI, 45, .inl g))]) [0, 1, 2] rfl
      have hD9 := hD.sub (ws' := [(md, .inr (6, [.int 0, vm_1, vm_2, vm_3, vm_4, .ref hs, vm_6, .ref tn, vm_8, vm_9, vm_10, vm_11, vm_12, vm_13, vm_14, vm_15, vm_16, vm_17, vm_18, vm_19, vm_20, vm_21, vm_22, vm_23])), (hs, .inl (cI, 45, .inl f)), (tn, .inl (cI, 45, .inl g))]) [0, 1, 2] (by decide) rfl
      exact wt_iret hx hb hr hlocks hP9 hD9 hS ⟨g, rfl⟩ dX6_fire_27
set_option maxHeartbeats 4000000 in
set_option maxRecDepth 100000 in
theorem c_X6_sale (l : Launch) (D : va_G) (cI cZ cH : ClassId) (md hs : Nat) (R T : Nat) (f : Nat → Int32) (tn : Nat) (g : Nat → Int32) (a1 a2 a3 a4 a5 : Int32) (vm_0 vm_1 vm_2 vm_3 vm_4 vm_6 vm_8 vm_9 vm_10 vm_11 vm_12 vm_13 vm_14 vm_15 vm_16 vm_17 vm_18 vm_19 vm_20 vm_21 vm_22 vm_23 : Value) (hR5 : R ≤ 5) (hT6 : T ≤ 6) (hrk : rk R T f) : wt_M l yX6_sale wsX6_sale ({ frames := 4, cells := 0, slots := 0, locals := 91 } : Room) D (wt_T cI cZ cH) [.ref md, .int a1, .int a2, .int a3, .int a4, .int a5] [(md, .inr (6, [vm_0, vm_1, vm_2, vm_3, vm_4, .ref hs, vm_6, .ref tn, vm_8, vm_9, vm_10, vm_11, vm_12, vm_13, vm_14, vm_15, vm_16, vm_17, vm_18, vm_19, vm_20, vm_21, vm_22, vm_23])), (hs, .inl (cI, 45, .inl f)), (tn, .inl (cI, 45, .inl g))] (wt_QI D (fun r w => ∃ (g2 : Nat → Int32), w = [(md, .inr (6, [.int 0, vm_1, vm_2, vm_3, vm_4, .ref hs, vm_6, .ref tn, vm_8, vm_9, vm_10, vm_11, vm_12, vm_13, vm_14, vm_15, vm_16, vm_17, vm_18, vm_19, vm_20, vm_21, vm_22, vm_23])), (hs, .inl (cI, 45, .inl f)), (tn, .inl (cI, 45, .inl g2))])) := by
  refine wt_M.ofW (cc := cX6_sale) (maxL := 11) (ret := (some .int)) (by decide) rfl (Nat.le_of_ble_eq_true rfl) ?_
  intro p e s m below meth c A ls hx hb hr hts hown hlocks hml hnm hP hK hD hA hS hl
  have hP : va_P D vwCl [(md, .inr (6, [vm_0, vm_1, vm_2, vm_3, vm_4, .ref hs, vm_6, .ref tn, vm_8, vm_9, vm_10, vm_11, vm_12, vm_13, vm_14, vm_15, vm_16, vm_17, vm_18, vm_19, vm_20, vm_21, vm_22, vm_23])), (hs, .inl (cI, 45, .inl f)), (tn, .inl (cI, 45, .inl g))] s.heap := hP
  have hown : s.vm.findClass RX6 = some m.cls := hown
  have hl : lv_has ls 11 [(0, .ref md), (1, .int a1), (2, .int a2), (3, .int a3), (4, .int a4), (5, .int a5)] := hl
  have hi6 : ∀ w ∈ u_ws RX6 TX6 24, w ∈ wsX6_sale := by decide +kernel
  have wc67 := hts (.constant RX6 67 (-1000001)) (by decide +kernel)
  have wc90 := hts (.constant RX6 90 (-1000000)) (by decide +kernel)
  have wf25 := hts (.fieldLink RX6 25 "WarmTubesModel" "then" "[I") (by decide +kernel)
  have wf47 := hts (.fieldLink RX6 47 "WarmTubesModel" "thrown" "I") (by decide +kernel)
  have wl235 := hts (.constantLong RX6 235 (30)) (by decide +kernel)
  have wl261 := hts (.constantLong RX6 261 (99)) (by decide +kernel)
  have wl263 := hts (.constantLong RX6 263 (9)) (by decide +kernel)
  refine lv_aload_n hx hb dX6_sale_0 rfl (lv_at hl 0 rfl) ?_
  refine lv_iconst (v := 0) hx hb dX6_sale_1 (by decide) ?_
  refine va_put (D := D) (ci := 6) (v := .int 0) (ty := .int) (C := RX6) (T := TX6) (N := 24) hx hb hts hi6 tyX6 tyX6_ok nmX6 hown hK.1 hP hD hS 0 rfl rfl 0 (by decide) wf47 (fun _ h9 => h9) rfl (by decide +kernel) rfl rfl (Nat.le_of_ble_eq_true rfl) dX6_sale_2 (fun H locs hP hD hS => ?_)
  have hP : va_P D vwCl [(md, .inr (6, [.int 0, vm_1, vm_2, vm_3, vm_4, .ref hs, vm_6, .ref tn, vm_8, vm_9, vm_10, vm_11, vm_12, vm_13, vm_14, vm_15, vm_16, vm_17, vm_18, vm_19, vm_20, vm_21, vm_22, vm_23])), (hs, .inl (cI, 45, .inl f)), (tn, .inl (cI, 45, .inl g))] H := hP
  have hD : va_D A [(md, .inr (6, [.int 0, vm_1, vm_2, vm_3, vm_4, .ref hs, vm_6, .ref tn, vm_8, vm_9, vm_10, vm_11, vm_12, vm_13, vm_14, vm_15, vm_16, vm_17, vm_18, vm_19, vm_20, vm_21, vm_22, vm_23])), (hs, .inl (cI, 45, .inl f)), (tn, .inl (cI, 45, .inl g))] := hD
  refine lv_aload_n hx hb dX6_sale_5 rfl (lv_at hl 0 rfl) ?_
  refine lv_iload_n hx hb dX6_sale_6 rfl (lv_at hl 1 rfl) ?_
  refine wt_rV (As := [.int a1]) (rest := []) ⟨hx, hb, hml, hown, hts⟩ (c_X6_isTube l D cI cZ cH md hs R T f a1 (.int 0) vm_1 vm_2 vm_3 vm_4 vm_6 (.ref tn) vm_8 vm_9 vm_10 vm_11 vm_12 vm_13 vm_14 vm_15 vm_16 vm_17 vm_18 vm_19 vm_20 vm_21 vm_22 vm_23 (by first | assumption | omega) (by first | assumption | omega) (by first | assumption | omega)) (cwV 1 hts gX6_sale_X6_isTube rfl rfl rfl (by decide +kernel) ⟨Nat.le_of_ble_eq_true rfl, Nat.le_of_ble_eq_true rfl⟩) hK hP [0, 1] rfl (va_recv hK.1 hP (ci := 6) (q0 := 0) rfl rfl) rfl hl.1 rfl (Nat.le_of_ble_eq_true rfl) dX6_sale_7 ⟨Nat.le_of_ble_eq_true rfl, Nat.le_of_ble_eq_true rfl⟩ (fun r_1 e_2 => ?_)
  subst e_2
  refine lv_if_eq (tgt := 61) hx hb dX6_sale_10 (by decide) (fun c_3 => ?_) (fun c_3 => ?_)
  · skip
    refine lv_ldc hx hb hown wc67 dX6_sale_61 ?_
    have hP9 := hP.sub (ws' := [(md, .inr (6, [.int 0, vm_1, vm_2, vm_3, vm_4, .ref hs, vm_6, .ref tn, vm_8, vm_9, vm_10, vm_11, vm_12, vm_13, vm_14, vm_15, vm_16, vm_17, vm_18, vm_19, vm_20, vm_21, vm_22, vm_23])), (hs, .inl (cI, 45, .inl f)), (tn, .inl (cI, 45, .inl g))]) [0, 1, 2] rfl
    have hD9 := hD.sub (ws' := [(md, .inr (6, [.int 0, vm_1, vm_2, vm_3, vm_4, .ref hs, vm_6, .ref tn, vm_8, vm_9, vm_10, vm_11, vm_12, vm_13, vm_14, vm_15, vm_16, vm_17, vm_18, vm_19, vm_20, vm_21, vm_22, vm_23])), (hs, .inl (cI, 45, .inl f)), (tn, .inl (cI, 45, .inl g))]) [0, 1, 2] (by decide) rfl
    exact wt_iret hx hb hr hlocks hP9 hD9 hS ⟨g, rfl⟩ dX6_sale_63
  · skip
    obtain ⟨j_4, hj_4, rfl⟩ := wI_natT (T := T) (by omega) c_3
    refine lv_iload_n hx hb dX6_sale_13 rfl (lv_at hl 2 rfl) ?_
    refine lv_i2l hx hb dX6_sale_14 rfl ?_
    refine lv_lconst (v := 1) hx hb dX6_sale_15 (by decide) ?_
    refine lv_ldc2 hx hb hown wl235 dX6_sale_16 ?_
    refine wt_rS (As := [.long a2.toInt64, .long 1, .long 30]) (rest := []) ⟨hx, hb, hml, hown, hts⟩ (c_X6_in l D cI cZ cH a2.toInt64 1 30) (va_cwS 3 hts gX6_sale_X6_in rfl rfl rfl (by decide +kernel) ⟨Nat.le_of_ble_eq_true rfl, Nat.le_of_ble_eq_true rfl⟩) hK hP [] rfl rfl hl.1 rfl (Nat.le_of_ble_eq_true rfl) dX6_sale_19 ⟨Nat.le_of_ble_eq_true rfl, Nat.le_of_ble_eq_true rfl⟩ (fun r_5 e_6 => ?_)
    subst e_6
    refine wt_top (z := wI a2 1 30) (wL_I' (by decide) (by decide)) ?_
    refine lv_if_eq (tgt := 61) hx hb dX6_sale_22 (by decide) (fun c_7 => ?_) (fun c_7 => ?_)
    · skip
      refine lv_ldc hx hb hown wc67 dX6_sale_61 ?_
      have hP9 := hP.sub (ws' := [(md, .inr (6, [.int 0, vm_1, vm_2, vm_3, vm_4, .ref hs, vm_6, .ref tn, vm_8, vm_9, vm_10, vm_11, vm_12, vm_13, vm_14, vm_15, vm_16, vm_17, vm_18, vm_19, vm_20, vm_21, vm_22, vm_23])), (hs, .inl (cI, 45, .inl f)), (tn, .inl (cI, 45, .inl g))]) [0, 1, 2] rfl
      have hD9 := hD.sub (ws' := [(md, .inr (6, [.int 0, vm_1, vm_2, vm_3, vm_4, .ref hs, vm_6, .ref tn, vm_8, vm_9, vm_10, vm_11, vm_12, vm_13, vm_14, vm_15, vm_16, vm_17, vm_18, vm_19, vm_20, vm_21, vm_22, vm_23])), (hs, .inl (cI, 45, .inl f)), (tn, .inl (cI, 45, .inl g))]) [0, 1, 2] (by decide) rfl
      exact wt_iret hx hb hr hlocks hP9 hD9 hS ⟨g, rfl⟩ dX6_sale_63
    · skip
      obtain ⟨j_8, hj_8, hj_8b, rfl⟩ := wI_nat (a := 1) (b := 30) (by omega) (by omega) c_7
      refine lv_iload_n hx hb dX6_sale_25 rfl (lv_at hl 3 rfl) ?_
      refine lv_i2l hx hb dX6_sale_26 rfl ?_
      refine lv_lconst (v := 1) hx hb dX6_sale_27 (by decide) ?_
      refine lv_ldc2 hx hb hown wl261 dX6_sale_28 ?_
      refine wt_rS (As := [.long a3.toInt64, .long 1, .long 99]) (rest := []) ⟨hx, hb, hml, hown, hts⟩ (c_X6_in l D cI cZ cH a3.toInt64 1 99) (va_cwS 3 hts gX6_sale_X6_in rfl rfl rfl (by decide +kernel) ⟨Nat.le_of_ble_eq_true rfl, Nat.le_of_ble_eq_true rfl⟩) hK hP [] rfl rfl hl.1 rfl (Nat.le_of_ble_eq_true rfl) dX6_sale_31 ⟨Nat.le_of_ble_eq_true rfl, Nat.le_of_ble_eq_true rfl⟩ (fun r_9 e_10 => ?_)
      subst e_10
      refine wt_top (z := wI a3 1 99) (wL_I' (by decide) (by decide)) ?_
      refine lv_if_eq (tgt := 61) hx hb dX6_sale_34 (by decide) (fun c_11 => ?_) (fun c_11 => ?_)
      · skip
        refine lv_ldc hx hb hown wc67 dX6_sale_61 ?_
        have hP9 := hP.sub (ws' := [(md, .inr (6, [.int 0, vm_1, vm_2, vm_3, vm_4, .ref hs, vm_6, .ref tn, vm_8, vm_9, vm_10, vm_11, vm_12, vm_13, vm_14, vm_15, vm_16, vm_17, vm_18, vm_19, vm_20, vm_21, vm_22, vm_23])), (hs, .inl (cI, 45, .inl f)), (tn, .inl (cI, 45, .inl g))]) [0, 1, 2] rfl
        have hD9 := hD.sub (ws' := [(md, .inr (6, [.int 0, vm_1, vm_2, vm_3, vm_4, .ref hs, vm_6, .ref tn, vm_8, vm_9, vm_10, vm_11, vm_12, vm_13, vm_14, vm_15, vm_16, vm_17, vm_18, vm_19, vm_20, vm_21, vm_22, vm_23])), (hs, .inl (cI, 45, .inl f)), (tn, .inl (cI, 45, .inl g))]) [0, 1, 2] (by decide) rfl
        exact wt_iret hx hb hr hlocks hP9 hD9 hS ⟨g, rfl⟩ dX6_sale_63
      · skip
        obtain ⟨j_12, hj_12, hj_12b, rfl⟩ := wI_nat (a := 1) (b := 99) (by omega) (by omega) c_11
        refine lv_iload hx hb dX6_sale_37 (lv_at hl 4 rfl) ?_
        refine lv_i2l hx hb dX6_sale_39 rfl ?_
        refine lv_lconst (v := 0) hx hb dX6_sale_40 (by decide) ?_
        refine lv_ldc2 hx hb hown wl263 dX6_sale_41 ?_
        refine wt_rS (As := [.long a4.toInt64, .long 0, .long 9]) (rest := []) ⟨hx, hb, hml, hown, hts⟩ (c_X6_in l D cI cZ cH a4.toInt64 0 9) (va_cwS 3 hts gX6_sale_X6_in rfl rfl rfl (by decide +kernel) ⟨Nat.le_of_ble_eq_true rfl, Nat.le_of_ble_eq_true rfl⟩) hK hP [] rfl rfl hl.1 rfl (Nat.le_of_ble_eq_true rfl) dX6_sale_44 ⟨Nat.le_of_ble_eq_true rfl, Nat.le_of_ble_eq_true rfl⟩ (fun r_13 e_14 => ?_)
        subst e_14
        refine wt_top (z := wI a4 0 9) (wL_I' (by decide) (by decide)) ?_
        refine lv_if_eq (tgt := 61) hx hb dX6_sale_47 (by decide) (fun c_15 => ?_) (fun c_15 => ?_)
        · skip
          refine lv_ldc hx hb hown wc67 dX6_sale_61 ?_
          have hP9 := hP.sub (ws' := [(md, .inr (6, [.int 0, vm_1, vm_2, vm_3, vm_4, .ref hs, vm_6, .ref tn, vm_8, vm_9, vm_10, vm_11, vm_12, vm_13, vm_14, vm_15, vm_16, vm_17, vm_18, vm_19, vm_20, vm_21, vm_22, vm_23])), (hs, .inl (cI, 45, .inl f)), (tn, .inl (cI, 45, .inl g))]) [0, 1, 2] rfl
          have hD9 := hD.sub (ws' := [(md, .inr (6, [.int 0, vm_1, vm_2, vm_3, vm_4, .ref hs, vm_6, .ref tn, vm_8, vm_9, vm_10, vm_11, vm_12, vm_13, vm_14, vm_15, vm_16, vm_17, vm_18, vm_19, vm_20, vm_21, vm_22, vm_23])), (hs, .inl (cI, 45, .inl f)), (tn, .inl (cI, 45, .inl g))]) [0, 1, 2] (by decide) rfl
          exact wt_iret hx hb hr hlocks hP9 hD9 hS ⟨g, rfl⟩ dX6_sale_63
        · skip
          obtain ⟨j_16, hj_16, hj_16b, rfl⟩ := wI_nat (a := 0) (b := 9) (by omega) (by omega) c_15
          refine lv_iload hx hb dX6_sale_50 (lv_at hl 5 rfl) ?_
          refine lv_i2l hx hb dX6_sale_52 rfl ?_
          refine lv_lconst (v := 0) hx hb dX6_sale_53 (by decide) ?_
          refine lv_lconst (v := 1) hx hb dX6_sale_54 (by decide) ?_
          refine wt_rS (As := [.long a5.toInt64, .long 0, .long 1]) (rest := []) ⟨hx, hb, hml, hown, hts⟩ (c_X6_in l D cI cZ cH a5.toInt64 0 1) (va_cwS 3 hts gX6_sale_X6_in rfl rfl rfl (by decide +kernel) ⟨Nat.le_of_ble_eq_true rfl, Nat.le_of_ble_eq_true rfl⟩) hK hP [] rfl rfl hl.1 rfl (Nat.le_of_ble_eq_true rfl) dX6_sale_55 ⟨Nat.le_of_ble_eq_true rfl, Nat.le_of_ble_eq_true rfl⟩ (fun r_17 e_18 => ?_)
          subst e_18
          refine wt_top (z := wI a5 0 1) (wL_I' (by decide) (by decide)) ?_
          refine lv_if_ne (tgt := 64) hx hb dX6_sale_58 (by decide) (fun c_19 => ?_) (fun c_19 => ?_)
          · skip
            obtain ⟨j_20, hj_20, hj_20b, rfl⟩ := wI_nat (a := 0) (b := 1) (by omega) (by omega) c_19
            refine lv_aload_n hx hb dX6_sale_64 rfl (lv_at hl 0 rfl) ?_
            refine wt_goV (wr := []) (wt_runV (As := []) (rest := []) ⟨hx, hb, hml, hown, hts⟩ (c_X6_layThen l D cI cZ cH md hs R T f tn g (.int 0) vm_1 vm_2 vm_3 vm_4 vm_6 vm_8 vm_9 vm_10 vm_11 vm_12 vm_13 vm_14 vm_15 vm_16 vm_17 vm_18 vm_19 vm_20 vm_21 vm_22 vm_23 (by first | assumption | omega) (by first | assumption | omega) (by first | assumption | omega)) (cwV 0 hts gX6_sale_X6_layThen rfl rfl rfl (by decide +kernel) ⟨Nat.le_of_ble_eq_true rfl, Nat.le_of_ble_eq_true rfl⟩) hK hP hD [0, 1, 2] rfl (by decide) (va_recv hK.1 hP (ci := 6) (q0 := 0) rfl rfl) rfl hl.1 rfl (Nat.le_of_ble_eq_true rfl) dX6_sale_65 ⟨Nat.le_of_ble_eq_true rfl, Nat.le_of_ble_eq_true rfl⟩) hP hD hS hA [0, 1, 2] [] rfl rfl (by decide) (by decide) (fun w_22 H locs h_23 hP hD hS => ?_)
            obtain ⟨g2_24, rfl, x_25⟩ := h_23
            have hP : va_P D vwCl [(md, .inr (6, [.int 0, vm_1, vm_2, vm_3, vm_4, .ref hs, vm_6, .ref tn, vm_8, vm_9, vm_10, vm_11, vm_12, vm_13, vm_14, vm_15, vm_16, vm_17, vm_18, vm_19, vm_20, vm_21, vm_22, vm_23])), (hs, .inl (cI, 45, .inl f)), (tn, .inl (cI, 45, .inl g2_24))] H := hP
            have hD : va_D A [(md, .inr (6, [.int 0, vm_1, vm_2, vm_3, vm_4, .ref hs, vm_6, .ref tn, vm_8, vm_9, vm_10, vm_11, vm_12, vm_13, vm_14, vm_15, vm_16, vm_17, vm_18, vm_19, vm_20, vm_21, vm_22, vm_23])), (hs, .inl (cI, 45, .inl f)), (tn, .inl (cI, 45, .inl g2_24))] := hD
            refine lv_ldc hx hb hown wc90 dX6_sale_68 ?_
            refine lv_istore (lv' := [(6, .int (-1000000)), (0, .ref md), (1, .int (nI j_4)), (2, .int (nI j_8)), (3, .int (nI j_12)), (4, .int (nI j_16)), (5, .int (nI j_20))]) hx hb dX6_sale_70 hl (by decide) rfl (fun ls hl => ?_)
            refine lv_ldc hx hb hown wc90 dX6_sale_72 ?_
            refine lv_istore (lv' := [(7, .int (-1000000)), (6, .int (-1000000)), (0, .ref md), (1, .int (nI j_4)), (2, .int (nI j_8)), (3, .int (nI j_12)), (4, .int (nI j_16)), (5, .int (nI j_20))]) hx hb dX6_sale_74 hl (by decide) rfl (fun ls hl => ?_)
            refine lv_iconst (v := 0) hx hb dX6_sale_76 (by decide) ?_
            refine lv_istore (lv' := [(8, .int 0), (7, .int (-1000000)), (6, .int (-1000000)), (0, .ref md), (1, .int (nI j_4)), (2, .int (nI j_8)), (3, .int (nI j_12)), (4, .int (nI j_16)), (5, .int (nI j_20))]) hx hb dX6_sale_77 hl (by decide) rfl (fun ls hl => ?_)
            have loop79 : ∀ (k i_26 : Nat) (g2_24_27 : Nat → Int32) (y_28 : Int32) (y_29 : Int32) (H : Heap) (locs : List Loc) (ls : Array Slot), i_26 + k = j_8 + 1 → (rk R T g2_24_27) → va_P D vwCl [(md, .inr (6, [.int 0, vm_1, vm_2, vm_3, vm_4, .ref hs, vm_6, .ref tn, vm_8, vm_9, vm_10, vm_11, vm_12, vm_13, vm_14, vm_15, vm_16, vm_17, vm_18, vm_19, vm_20, vm_21, vm_22, vm_23])), (hs, .inl (cI, 45, .inl f)), (tn, .inl (cI, 45, .inl g2_24_27))] H → va_D A [(md, .inr (6, [.int 0, vm_1, vm_2, vm_3, vm_4, .ref hs, vm_6, .ref tn, vm_8, vm_9, vm_10, vm_11, vm_12, vm_13, vm_14, vm_15, vm_16, vm_17, vm_18, vm_19, vm_20, vm_21, vm_22, vm_23])), (hs, .inl (cI, 45, .inl f)), (tn, .inl (cI, 45, .inl g2_24_27))] → va_S A s.heap H locs → lv_has ls 11 [(8, .int (nI i_26)), (7, .int y_29), (6, .int y_28), (0, .ref md), (1, .int (nI j_4)), (2, .int (nI j_8)), (3, .int (nI j_12)), (4, .int (nI j_16)), (5, .int (nI j_20))] → W p l e ({ frames := 4, cells := 0, slots := 0, locals := 91 } : Room) s m ([.ref md, .int (nI j_4), .int (nI j_8), .int (nI j_12), .int (nI j_16), .int (nI j_20)] : List Value).toArray below meth c H locs 0 0 (MQ below (wt_QI D (fun r w => ∃ (g2 : Nat → Int32), w = [(md, .inr (6, [.int 0, vm_1, vm_2, vm_3, vm_4, .ref hs, vm_6, .ref tn, vm_8, vm_9, vm_10, vm_11, vm_12, vm_13, vm_14, vm_15, vm_16, vm_17, vm_18, vm_19, vm_20, vm_21, vm_22, vm_23])), (hs, .inl (cI, 45, .inl f)), (tn, .inl (cI, 45, .inl g2))]) A) ([.ref md, .int (nI j_4), .int (nI j_8), .int (nI j_12), .int (nI j_16), .int (nI j_20)] : List Value).toArray s 0 0 A) (F0 m 79 ls []) := by
              intro k
              induction k with
              | zero =>
                intro i_26 g2_24_27 y_28 y_29 H locs ls hik rk_30 hP hD hS hl
                refine lv_iload hx hb dX6_sale_79 (lv_at hl 0 rfl) ?_
                refine lv_iload_n hx hb dX6_sale_81 rfl (lv_at hl 5 rfl) ?_
                refine lv_icmp_gt (tgt := 162) hx hb dX6_sale_82 (by decide) (fun _ => ?_) (fun h => absurd (nI_lt (a := j_8) (b := i_26) (by omega) (by omega)) h)
                refine lv_iload hx hb dX6_sale_162 (lv_at hl 8 rfl) ?_
                refine lv_if_ne (tgt := 172) hx hb dX6_sale_164 (by decide) (fun c_31 => ?_) (fun c_31 => ?_)
                · skip
                  have c_31 : ¬ (j_20 = 0) := fun h => c_31 ((nI_eq (a := j_20) (b := 0) (by omega) (by omega)).mpr h)
                  refine lv_iload hx hb dX6_sale_172 (lv_at hl 1 rfl) ?_
                  have hP9 := hP.sub (ws' := [(md, .inr (6, [.int 0, vm_1, vm_2, vm_3, vm_4, .ref hs, vm_6, .ref tn, vm_8, vm_9, vm_10, vm_11, vm_12, vm_13, vm_14, vm_15, vm_16, vm_17, vm_18, vm_19, vm_20, vm_21, vm_22, vm_23])), (hs, .inl (cI, 45, .inl f)), (tn, .inl (cI, 45, .inl g2_24_27))]) [0, 1, 2] rfl
                  have hD9 := hD.sub (ws' := [(md, .inr (6, [.int 0, vm_1, vm_2, vm_3, vm_4, .ref hs, vm_6, .ref tn, vm_8, vm_9, vm_10, vm_11, vm_12, vm_13, vm_14, vm_15, vm_16, vm_17, vm_18, vm_19, vm_20, vm_21, vm_22, vm_23])), (hs, .inl (cI, 45, .inl f)), (tn, .inl (cI, 45, .inl g2_24_27))]) [0, 1, 2] (by decide) rfl
                  exact wt_iret hx hb hr hlocks hP9 hD9 hS ⟨g2_24_27, rfl⟩ dX6_sale_174
                · skip
                  have c_31 : j_20 = 0 := (nI_eq (a := j_20) (b := 0) (by omega) (by omega)).mp c_31
                  refine lv_iload hx hb dX6_sale_167 (lv_at hl 2 rfl) ?_
                  refine lv_goto (tgt := 174) hx hb dX6_sale_169 (by decide) ?_
                  have hP9 := hP.sub (ws' := [(md, .inr (6, [.int 0, vm_1, vm_2, vm_3, vm_4, .ref hs, vm_6, .ref tn, vm_8, vm_9, vm_10, vm_11, vm_12, vm_13, vm_14, vm_15, vm_16, vm_17, vm_18, vm_19, vm_20, vm_21, vm_22, vm_23])), (hs, .inl (cI, 45, .inl f)), (tn, .inl (cI, 45, .inl g2_24_27))]) [0, 1, 2] rfl
                  have hD9 := hD.sub (ws' := [(md, .inr (6, [.int 0, vm_1, vm_2, vm_3, vm_4, .ref hs, vm_6, .ref tn, vm_8, vm_9, vm_10, vm_11, vm_12, vm_13, vm_14, vm_15, vm_16, vm_17, vm_18, vm_19, vm_20, vm_21, vm_22, vm_23])), (hs, .inl (cI, 45, .inl f)), (tn, .inl (cI, 45, .inl g2_24_27))]) [0, 1, 2] (by decide) rfl
                  exact wt_iret hx hb hr hlocks hP9 hD9 hS ⟨g2_24_27, rfl⟩ dX6_sale_174
              | succ k ih79 =>
                intro i_26 g2_24_27 y_28 y_29 H locs ls hik rk_30 hP hD hS hl
                refine lv_iload hx hb dX6_sale_79 (lv_at hl 0 rfl) ?_
                refine lv_iload_n hx hb dX6_sale_81 rfl (lv_at hl 5 rfl) ?_
                refine lv_icmp_gt (tgt := 162) hx hb dX6_sale_82 (by decide) (fun h => absurd h (nI_nlt (a := j_8) (b := i_26) (by omega) (by omega))) (fun _ => ?_)
                refine lv_iload_n hx hb dX6_sale_85 rfl (lv_at hl 6 rfl) ?_
                refine lv_iload hx hb dX6_sale_86 (lv_at hl 7 rfl) ?_
                refine lv_iload hx hb dX6_sale_88 (lv_at hl 0 rfl) ?_
                refine lv_imul hx hb dX6_sale_90 ?_
                refine wt_top (z := nI (j_16 * i_26)) (pk_mul j_16 i_26) ?_
                refine lv_isub hx hb dX6_sale_91 ?_
                refine lv_topi (fun ov_32 _ => ?_)
                refine lv_istore (lv' := [(9, .int ov_32), (8, .int (nI i_26)), (7, .int y_29), (6, .int y_28), (0, .ref md), (1, .int (nI j_4)), (2, .int (nI j_8)), (3, .int (nI j_12)), (4, .int (nI j_16)), (5, .int (nI j_20))]) hx hb dX6_sale_92 hl (by decide) rfl (fun ls hl => ?_)
                refine lv_iload hx hb dX6_sale_94 (lv_at hl 0 rfl) ?_
                refine lv_if_le (tgt := 114) hx hb dX6_sale_96 (by decide) (fun c_33 => ?_) (fun c_33 => ?_)
                · skip
                  refine lv_iconst (v := 0) hx hb dX6_sale_114 (by decide) ?_
                  refine lv_istore (lv' := [(10, .int 0), (9, .int ov_32), (8, .int (nI i_26)), (7, .int y_29), (6, .int y_28), (0, .ref md), (1, .int (nI j_4)), (2, .int (nI j_8)), (3, .int (nI j_12)), (4, .int (nI j_16)), (5, .int (nI j_20))]) hx hb dX6_sale_115 hl (by decide) rfl (fun ls hl => ?_)
                  refine lv_iload hx hb dX6_sale_117 (lv_at hl 0 rfl) ?_
                  refine lv_iload hx hb dX6_sale_119 (lv_at hl 3 rfl) ?_
                  refine lv_icmp_le (tgt := 129) hx hb dX6_sale_121 (by decide) (fun c_34 => ?_) (fun c_34 => ?_)
                  · skip
                    refine lv_iload hx hb dX6_sale_129 (lv_at hl 4 rfl) ?_
                    refine lv_istore (lv' := [(6, .int y_28), (10, .int 0), (9, .int ov_32), (8, .int (nI i_26)), (7, .int y_29), (0, .ref md), (1, .int (nI j_4)), (2, .int (nI j_8)), (3, .int (nI j_12)), (4, .int (nI j_16)), (5, .int (nI j_20))]) hx hb dX6_sale_131 hl (by decide) rfl (fun ls hl => ?_)
                    refine lv_iload hx hb dX6_sale_133 (lv_at hl 1 rfl) ?_
                    refine lv_iload hx hb dX6_sale_135 (lv_at hl 4 rfl) ?_
                    refine lv_icmp_le (tgt := 145) hx hb dX6_sale_137 (by decide) (fun _ => ?_) (fun h => absurd c_34 h)
                    refine lv_iload hx hb dX6_sale_145 (lv_at hl 4 rfl) ?_
                    refine lv_istore (lv' := [(7, .int y_29), (6, .int y_28), (10, .int 0), (9, .int ov_32), (8, .int (nI i_26)), (0, .ref md), (1, .int (nI j_4)), (2, .int (nI j_8)), (3, .int (nI j_12)), (4, .int (nI j_16)), (5, .int (nI j_20))]) hx hb dX6_sale_147 hl (by decide) rfl (fun ls hl => ?_)
                    refine lv_aload_n hx hb dX6_sale_149 rfl (lv_at hl 5 rfl) ?_
                    refine va_get (D := D) (ci := 6) (v := .ref tn) (C := RX6) (T := TX6) (N := 24) hx hb hts hi6 hown hK.1 hP 0 rfl rfl 7 (by decide) wf25 (fun _ h9 => h9) rfl dX6_sale_150 ?_
                    refine wt_goV (wr := [(md, .inr (6, [.int 0, vm_1, vm_2, vm_3, vm_4, .ref hs, vm_6, .ref tn, vm_8, vm_9, vm_10, vm_11, vm_12, vm_13, vm_14, vm_15, vm_16, vm_17, vm_18, vm_19, vm_20, vm_21, vm_22, vm_23])), (hs, .inl (cI, 45, .inl f))]) (wt_runS (As := [.ref tn]) (rest := []) ⟨hx, hb, hml, hown, hts⟩ (c_X6_minute l D cI cZ cH tn R T g2_24_27 (by first | assumption | omega) (by first | assumption | omega) (by first | assumption | omega)) (va_cwS 1 hts gX6_sale_X6_minute rfl rfl rfl (by decide +kernel) ⟨Nat.le_of_ble_eq_true rfl, Nat.le_of_ble_eq_true rfl⟩) hK hP hD [2] rfl (by decide) rfl hl.1 rfl (Nat.le_of_ble_eq_true rfl) dX6_sale_153 ⟨Nat.le_of_ble_eq_true rfl, Nat.le_of_ble_eq_true rfl⟩) hP hD hS hA [2] [0, 1] rfl rfl (by decide) (by decide) (fun w_36 H locs h_37 hP hD hS => ?_)
                    obtain ⟨f2_38, rfl, x_39⟩ := h_37
                    have hP : va_P D vwCl [(md, .inr (6, [.int 0, vm_1, vm_2, vm_3, vm_4, .ref hs, vm_6, .ref tn, vm_8, vm_9, vm_10, vm_11, vm_12, vm_13, vm_14, vm_15, vm_16, vm_17, vm_18, vm_19, vm_20, vm_21, vm_22, vm_23])), (hs, .inl (cI, 45, .inl f)), (tn, .inl (cI, 45, .inl f2_38))] H := hP
                    have hD : va_D A [(md, .inr (6, [.int 0, vm_1, vm_2, vm_3, vm_4, .ref hs, vm_6, .ref tn, vm_8, vm_9, vm_10, vm_11, vm_12, vm_13, vm_14, vm_15, vm_16, vm_17, vm_18, vm_19, vm_20, vm_21, vm_22, vm_23])), (hs, .inl (cI, 45, .inl f)), (tn, .inl (cI, 45, .inl f2_38))] := hD
                    refine lv_iinc (v := nI (i_26 + 1)) (lv' := [(8, .int (nI (i_26 + 1))), (7, .int y_29), (6, .int y_28), (10, .int 0), (9, .int ov_32), (0, .ref md), (1, .int (nI j_4)), (2, .int (nI j_8)), (3, .int (nI j_12)), (4, .int (nI j_16)), (5, .int (nI j_20))]) hx hb dX6_sale_156 hl (k := 4) rfl (nI_add i_26 1) (by decide) rfl (fun ls hl => ?_)
                    refine lv_goto (tgt := 79) hx hb dX6_sale_159 (by decide) ?_
                    exact ih79 ((i_26 + 1)) f2_38 y_28 y_29 H locs ls (by omega) x_39 hP hD hS (lv_sub hl [0, 1, 2, 5, 6, 7, 8, 9, 10] rfl)
                  · skip
                    refine lv_iload hx hb dX6_sale_124 (lv_at hl 2 rfl) ?_
                    refine lv_goto (tgt := 131) hx hb dX6_sale_126 (by decide) ?_
                    refine lv_istore (lv' := [(6, .int (nI i_26)), (10, .int 0), (9, .int ov_32), (8, .int (nI i_26)), (7, .int y_29), (0, .ref md), (1, .int (nI j_4)), (2, .int (nI j_8)), (3, .int (nI j_12)), (4, .int (nI j_16)), (5, .int (nI j_20))]) hx hb dX6_sale_131 hl (by decide) rfl (fun ls hl => ?_)
                    refine lv_iload hx hb dX6_sale_133 (lv_at hl 1 rfl) ?_
                    refine lv_iload hx hb dX6_sale_135 (lv_at hl 4 rfl) ?_
                    refine lv_icmp_le (tgt := 145) hx hb dX6_sale_137 (by decide) (fun h => absurd h c_34) (fun _ => ?_)
                    refine lv_iload hx hb dX6_sale_140 (lv_at hl 1 rfl) ?_
                    refine lv_goto (tgt := 147) hx hb dX6_sale_142 (by decide) ?_
                    refine lv_istore (lv' := [(7, .int 0), (6, .int (nI i_26)), (10, .int 0), (9, .int ov_32), (8, .int (nI i_26)), (0, .ref md), (1, .int (nI j_4)), (2, .int (nI j_8)), (3, .int (nI j_12)), (4, .int (nI j_16)), (5, .int (nI j_20))]) hx hb dX6_sale_147 hl (by decide) rfl (fun ls hl => ?_)
                    refine lv_aload_n hx hb dX6_sale_149 rfl (lv_at hl 5 rfl) ?_
                    refine va_get (D := D) (ci := 6) (v := .ref tn) (C := RX6) (T := TX6) (N := 24) hx hb hts hi6 hown hK.1 hP 0 rfl rfl 7 (by decide) wf25 (fun _ h9 => h9) rfl dX6_sale_150 ?_
                    refine wt_goV (wr := [(md, .inr (6, [.int 0, vm_1, vm_2, vm_3, vm_4, .ref hs, vm_6, .ref tn, vm_8, vm_9, vm_10, vm_11, vm_12, vm_13, vm_14, vm_15, vm_16, vm_17, vm_18, vm_19, vm_20, vm_21, vm_22, vm_23])), (hs, .inl (cI, 45, .inl f))]) (wt_runS (As := [.ref tn]) (rest := []) ⟨hx, hb, hml, hown, hts⟩ (c_X6_minute l D cI cZ cH tn R T g2_24_27 (by first | assumption | omega) (by first | assumption | omega) (by first | assumption | omega)) (va_cwS 1 hts gX6_sale_X6_minute rfl rfl rfl (by decide +kernel) ⟨Nat.le_of_ble_eq_true rfl, Nat.le_of_ble_eq_true rfl⟩) hK hP hD [2] rfl (by decide) rfl hl.1 rfl (Nat.le_of_ble_eq_true rfl) dX6_sale_153 ⟨Nat.le_of_ble_eq_true rfl, Nat.le_of_ble_eq_true rfl⟩) hP hD hS hA [2] [0, 1] rfl rfl (by decide) (by decide) (fun w_41 H locs h_42 hP hD hS => ?_)
                    obtain ⟨f2_43, rfl, x_44⟩ := h_42
                    have hP : va_P D vwCl [(md, .inr (6, [.int 0, vm_1, vm_2, vm_3, vm_4, .ref hs, vm_6, .ref tn, vm_8, vm_9, vm_10, vm_11, vm_12, vm_13, vm_14, vm_15, vm_16, vm_17, vm_18, vm_19, vm_20, vm_21, vm_22, vm_23])), (hs, .inl (cI, 45, .inl f)), (tn, .inl (cI, 45, .inl f2_43))] H := hP
                    have hD : va_D A [(md, .inr (6, [.int 0, vm_1, vm_2, vm_3, vm_4, .ref hs, vm_6, .ref tn, vm_8, vm_9, vm_10, vm_11, vm_12, vm_13, vm_14, vm_15, vm_16, vm_17, vm_18, vm_19, vm_20, vm_21, vm_22, vm_23])), (hs, .inl (cI, 45, .inl f)), (tn, .inl (cI, 45, .inl f2_43))] := hD
                    refine lv_iinc (v := nI (i_26 + 1)) (lv' := [(8, .int (nI (i_26 + 1))), (7, .int 0), (6, .int (nI i_26)), (10, .int 0), (9, .int ov_32), (0, .ref md), (1, .int (nI j_4)), (2, .int (nI j_8)), (3, .int (nI j_12)), (4, .int (nI j_16)), (5, .int (nI j_20))]) hx hb dX6_sale_156 hl (k := 4) rfl (nI_add i_26 1) (by decide) rfl (fun ls hl => ?_)
                    refine lv_goto (tgt := 79) hx hb dX6_sale_159 (by decide) ?_
                    exact ih79 ((i_26 + 1)) f2_43 (nI i_26) 0 H locs ls (by omega) x_44 hP hD hS (lv_sub hl [0, 1, 2, 5, 6, 7, 8, 9, 10] rfl)
                · skip
                  refine lv_iload hx hb dX6_sale_99 (lv_at hl 0 rfl) ?_
                  refine lv_aload_n hx hb dX6_sale_101 rfl (lv_at hl 4 rfl) ?_
                  refine va_get (D := D) (ci := 6) (v := .ref tn) (C := RX6) (T := TX6) (N := 24) hx hb hts hi6 hown hK.1 hP 0 rfl rfl 7 (by decide) wf25 (fun _ h9 => h9) rfl dX6_sale_102 ?_
                  refine lv_iload_n hx hb dX6_sale_105 rfl (lv_at hl 5 rfl) ?_
                  refine lv_iconst (v := 4) hx hb dX6_sale_106 (by decide) ?_
                  refine wt_rS (As := [.ref tn, .int (nI j_4), .int 4]) (rest := [.int ov_32]) ⟨hx, hb, hml, hown, hts⟩ (c_X6_of_w l D cI cZ cH tn R T g2_24_27 j_4 4 (by first | assumption | omega) (by first | assumption | omega) (by first | assumption | omega) (by first | assumption | omega) (by first | assumption | omega)) (va_cwS 3 hts gX6_sale_X6_of rfl rfl rfl (by decide +kernel) ⟨Nat.le_of_ble_eq_true rfl, Nat.le_of_ble_eq_true rfl⟩) hK hP [2] rfl rfl hl.1 rfl (Nat.le_of_ble_eq_true rfl) dX6_sale_107 ⟨Nat.le_of_ble_eq_true rfl, Nat.le_of_ble_eq_true rfl⟩ (fun r_45 e_46 => ?_)
                  refine lv_imul hx hb dX6_sale_110 ?_
                  refine lv_topi (fun ov_47 _ => ?_)
                  refine lv_goto (tgt := 115) hx hb dX6_sale_111 (by decide) ?_
                  refine lv_istore (lv' := [(10, .int ov_47), (9, .int ov_32), (8, .int (nI i_26)), (7, .int y_29), (6, .int y_28), (0, .ref md), (1, .int (nI j_4)), (2, .int (nI j_8)), (3, .int (nI j_12)), (4, .int (nI j_16)), (5, .int (nI j_20))]) hx hb dX6_sale_115 hl (by decide) rfl (fun ls hl => ?_)
                  refine lv_iload hx hb dX6_sale_117 (lv_at hl 0 rfl) ?_
                  refine lv_iload hx hb dX6_sale_119 (lv_at hl 3 rfl) ?_
                  refine lv_icmp_le (tgt := 129) hx hb dX6_sale_121 (by decide) (fun c_48 => ?_) (fun c_48 => ?_)
                  · skip
                    refine lv_iload hx hb dX6_sale_129 (lv_at hl 4 rfl) ?_
                    refine lv_istore (lv' := [(6, .int y_28), (10, .int ov_47), (9, .int ov_32), (8, .int (nI i_26)), (7, .int y_29), (0, .ref md), (1, .int (nI j_4)), (2, .int (nI j_8)), (3, .int (nI j_12)), (4, .int (nI j_16)), (5, .int (nI j_20))]) hx hb dX6_sale_131 hl (by decide) rfl (fun ls hl => ?_)
                    refine lv_iload hx hb dX6_sale_133 (lv_at hl 1 rfl) ?_
                    refine lv_iload hx hb dX6_sale_135 (lv_at hl 4 rfl) ?_
                    refine lv_icmp_le (tgt := 145) hx hb dX6_sale_137 (by decide) (fun _ => ?_) (fun h => absurd c_48 h)
                    refine lv_iload hx hb dX6_sale_145 (lv_at hl 4 rfl) ?_
                    refine lv_istore (lv' := [(7, .int y_29), (6, .int y_28), (10, .int ov_47), (9, .int ov_32), (8, .int (nI i_26)), (0, .ref md), (1, .int (nI j_4)), (2, .int (nI j_8)), (3, .int (nI j_12)), (4, .int (nI j_16)), (5, .int (nI j_20))]) hx hb dX6_sale_147 hl (by decide) rfl (fun ls hl => ?_)
                    refine lv_aload_n hx hb dX6_sale_149 rfl (lv_at hl 5 rfl) ?_
                    refine va_get (D := D) (ci := 6) (v := .ref tn) (C := RX6) (T := TX6) (N := 24) hx hb hts hi6 hown hK.1 hP 0 rfl rfl 7 (by decide) wf25 (fun _ h9 => h9) rfl dX6_sale_150 ?_
                    refine wt_goV (wr := [(md, .inr (6, [.int 0, vm_1, vm_2, vm_3, vm_4, .ref hs, vm_6, .ref tn, vm_8, vm_9, vm_10, vm_11, vm_12, vm_13, vm_14, vm_15, vm_16, vm_17, vm_18, vm_19, vm_20, vm_21, vm_22, vm_23])), (hs, .inl (cI, 45, .inl f))]) (wt_runS (As := [.ref tn]) (rest := []) ⟨hx, hb, hml, hown, hts⟩ (c_X6_minute l D cI cZ cH tn R T g2_24_27 (by first | assumption | omega) (by first | assumption | omega) (by first | assumption | omega)) (va_cwS 1 hts gX6_sale_X6_minute rfl rfl rfl (by decide +kernel) ⟨Nat.le_of_ble_eq_true rfl, Nat.le_of_ble_eq_true rfl⟩) hK hP hD [2] rfl (by decide) rfl hl.1 rfl (Nat.le_of_ble_eq_true rfl) dX6_sale_153 ⟨Nat.le_of_ble_eq_true rfl, Nat.le_of_ble_eq_true rfl⟩) hP hD hS hA [2] [0, 1] rfl rfl (by decide) (by decide) (fun w_50 H locs h_51 hP hD hS => ?_)
                    obtain ⟨f2_52, rfl, x_53⟩ := h_51
                    have hP : va_P D vwCl [(md, .inr (6, [.int 0, vm_1, vm_2, vm_3, vm_4, .ref hs, vm_6, .ref tn, vm_8, vm_9, vm_10, vm_11, vm_12, vm_13, vm_14, vm_15, vm_16, vm_17, vm_18, vm_19, vm_20, vm_21, vm_22, vm_23])), (hs, .inl (cI, 45, .inl f)), (tn, .inl (cI, 45, .inl f2_52))] H := hP
                    have hD : va_D A [(md, .inr (6, [.int 0, vm_1, vm_2, vm_3, vm_4, .ref hs, vm_6, .ref tn, vm_8, vm_9, vm_10, vm_11, vm_12, vm_13, vm_14, vm_15, vm_16, vm_17, vm_18, vm_19, vm_20, vm_21, vm_22, vm_23])), (hs, .inl (cI, 45, .inl f)), (tn, .inl (cI, 45, .inl f2_52))] := hD
                    refine lv_iinc (v := nI (i_26 + 1)) (lv' := [(8, .int (nI (i_26 + 1))), (7, .int y_29), (6, .int y_28), (10, .int ov_47), (9, .int ov_32), (0, .ref md), (1, .int (nI j_4)), (2, .int (nI j_8)), (3, .int (nI j_12)), (4, .int (nI j_16)), (5, .int (nI j_20))]) hx hb dX6_sale_156 hl (k := 4) rfl (nI_add i_26 1) (by decide) rfl (fun ls hl => ?_)
                    refine lv_goto (tgt := 79) hx hb dX6_sale_159 (by decide) ?_
                    exact ih79 ((i_26 + 1)) f2_52 y_28 y_29 H locs ls (by omega) x_53 hP hD hS (lv_sub hl [0, 1, 2, 5, 6, 7, 8, 9, 10] rfl)
                  · skip
                    refine lv_iload hx hb dX6_sale_124 (lv_at hl 2 rfl) ?_
                    refine lv_goto (tgt := 131) hx hb dX6_sale_126 (by decide) ?_
                    refine lv_istore (lv' := [(6, .int (nI i_26)), (10, .int ov_47), (9, .int ov_32), (8, .int (nI i_26)), (7, .int y_29), (0, .ref md), (1, .int (nI j_4)), (2, .int (nI j_8)), (3, .int (nI j_12)), (4, .int (nI j_16)), (5, .int (nI j_20))]) hx hb dX6_sale_131 hl (by decide) rfl (fun ls hl => ?_)
                    refine lv_iload hx hb dX6_sale_133 (lv_at hl 1 rfl) ?_
                    refine lv_iload hx hb dX6_sale_135 (lv_at hl 4 rfl) ?_
                    refine lv_icmp_le (tgt := 145) hx hb dX6_sale_137 (by decide) (fun h => absurd h c_48) (fun _ => ?_)
                    refine lv_iload hx hb dX6_sale_140 (lv_at hl 1 rfl) ?_
                    refine lv_goto (tgt := 147) hx hb dX6_sale_142 (by decide) ?_
                    refine lv_istore (lv' := [(7, .int ov_47), (6, .int (nI i_26)), (10, .int ov_47), (9, .int ov_32), (8, .int (nI i_26)), (0, .ref md), (1, .int (nI j_4)), (2, .int (nI j_8)), (3, .int (nI j_12)), (4, .int (nI j_16)), (5, .int (nI j_20))]) hx hb dX6_sale_147 hl (by decide) rfl (fun ls hl => ?_)
                    refine lv_aload_n hx hb dX6_sale_149 rfl (lv_at hl 5 rfl) ?_
                    refine va_get (D := D) (ci := 6) (v := .ref tn) (C := RX6) (T := TX6) (N := 24) hx hb hts hi6 hown hK.1 hP 0 rfl rfl 7 (by decide) wf25 (fun _ h9 => h9) rfl dX6_sale_150 ?_
                    refine wt_goV (wr := [(md, .inr (6, [.int 0, vm_1, vm_2, vm_3, vm_4, .ref hs, vm_6, .ref tn, vm_8, vm_9, vm_10, vm_11, vm_12, vm_13, vm_14, vm_15, vm_16, vm_17, vm_18, vm_19, vm_20, vm_21, vm_22, vm_23])), (hs, .inl (cI, 45, .inl f))]) (wt_runS (As := [.ref tn]) (rest := []) ⟨hx, hb, hml, hown, hts⟩ (c_X6_minute l D cI cZ cH tn R T g2_24_27 (by first | assumption | omega) (by first | assumption | omega) (by first | assumption | omega)) (va_cwS 1 hts gX6_sale_X6_minute rfl rfl rfl (by decide +kernel) ⟨Nat.le_of_ble_eq_true rfl, Nat.le_of_ble_eq_true rfl⟩) hK hP hD [2] rfl (by decide) rfl hl.1 rfl (Nat.le_of_ble_eq_true rfl) dX6_sale_153 ⟨Nat.le_of_ble_eq_true rfl, Nat.le_of_ble_eq_true rfl⟩) hP hD hS hA [2] [0, 1] rfl rfl (by decide) (by decide) (fun w_55 H locs h_56 hP hD hS => ?_)
                    obtain ⟨f2_57, rfl, x_58⟩ := h_56
                    have hP : va_P D vwCl [(md, .inr (6, [.int 0, vm_1, vm_2, vm_3, vm_4, .ref hs, vm_6, .ref tn, vm_8, vm_9, vm_10, vm_11, vm_12, vm_13, vm_14, vm_15, vm_16, vm_17, vm_18, vm_19, vm_20, vm_21, vm_22, vm_23])), (hs, .inl (cI, 45, .inl f)), (tn, .inl (cI, 45, .inl f2_57))] H := hP
                    have hD : va_D A [(md, .inr (6, [.int 0, vm_1, vm_2, vm_3, vm_4, .ref hs, vm_6, .ref tn, vm_8, vm_9, vm_10, vm_11, vm_12, vm_13, vm_14, vm_15, vm_16, vm_17, vm_18, vm_19, vm_20, vm_21, vm_22, vm_23])), (hs, .inl (cI, 45, .inl f)), (tn, .inl (cI, 45, .inl f2_57))] := hD
                    refine lv_iinc (v := nI (i_26 + 1)) (lv' := [(8, .int (nI (i_26 + 1))), (7, .int ov_47), (6, .int (nI i_26)), (10, .int ov_47), (9, .int ov_32), (0, .ref md), (1, .int (nI j_4)), (2, .int (nI j_8)), (3, .int (nI j_12)), (4, .int (nI j_16)), (5, .int (nI j_20))]) hx hb dX6_sale_156 hl (k := 4) rfl (nI_add i_26 1) (by decide) rfl (fun ls hl => ?_)
                    refine lv_goto (tgt := 79) hx hb dX6_sale_159 (by decide) ?_
                    exact ih79 ((i_26 + 1)) f2_57 (nI i_26) ov_47 H locs ls (by omega) x_58 hP hD hS (lv_sub hl [0, 1, 2, 5, 6, 7, 8, 9, 10] rfl)
            exact loop79 ((j_8 + 1) - 0) (0) g2_24 (-1000000) (-1000000) _ _ ls (by omega) x_25 hP hD hS hl
          · skip
            refine lv_ldc hx hb hown wc67 dX6_sale_61 ?_
            have hP9 := hP.sub (ws' := [(md, .inr (6, [.int 0, vm_1, vm_2, vm_3, vm_4, .ref hs, vm_6, .ref tn, vm_8, vm_9, vm_10, vm_11, vm_12, vm_13, vm_14, vm_15, vm_16, vm_17, vm_18, vm_19, vm_20, vm_21, vm_22, vm_23])), (hs, .inl (cI, 45, .inl f)), (tn, .inl (cI, 45, .inl g))]) [0, 1, 2] rfl
            have hD9 := hD.sub (ws' := [(md, .inr (6, [.int 0, vm_1, vm_2, vm_3, vm_4, .ref hs, vm_6, .ref tn, vm_8, vm_9, vm_10, vm_11, vm_12, vm_13, vm_14, vm_15, vm_16, vm_17, vm_18, vm_19, vm_20, vm_21, vm_22, vm_23])), (hs, .inl (cI, 45, .inl f)), (tn, .inl (cI, 45, .inl g))]) [0, 1, 2] (by decide) rfl
            exact wt_iret hx hb hr hlocks hP9 hD9 hS ⟨g, rfl⟩ dX6_sale_63

set_option maxHeartbeats 4000000 in
set_option maxRecDepth 100000 in
theorem c_X6_tube (l : Launch) (D : va_G) (cI cZ cH : ClassId) (md hs : Nat) (R T : Nat) (f : Nat → Int32) (a1 a2 : Int32) (vm_0 vm_1 vm_2 vm_3 vm_4 vm_6 vm_7 vm_8 vm_9 vm_10 vm_11 vm_12 vm_13 vm_14 vm_15 vm_16 vm_17 vm_18 vm_19 vm_20 vm_21 vm_22 vm_23 : Value) (hR5 : R ≤ 5) (hT6 : T ≤ 6) (hrk : rk R T f) : wt_M l yX6_tube wsX6_tube ({ frames := 3, cells := 0, slots := 0, locals := 66 } : Room) D (wt_T cI cZ cH) [.ref md, .int a1, .int a2] [(md, .inr (6, [vm_0, vm_1, vm_2, vm_3, vm_4, .ref hs, vm_6, vm_7, vm_8, vm_9, vm_10, vm_11, vm_12, vm_13, vm_14, vm_15, vm_16, vm_17, vm_18, vm_19, vm_20, vm_21, vm_22, vm_23])), (hs, .inl (cI, 45, .inl f))] (wt_QI D (fun r w => w = [(md, .inr (6, [.int 0, vm_1, vm_2, vm_3, vm_4, .ref hs, vm_6, vm_7, vm_8, vm_9, vm_10, vm_11, vm_12, vm_13, vm_14, vm_15, vm_16, vm_17, vm_18, vm_19, vm_20, vm_21, vm_22, vm_23])), (hs, .inl (cI, 45, .inl f))])) := by
  refine wt_M.ofW (cc := cX6_tube) (maxL := 3) (ret := (some .int)) (by decide) rfl (Nat.le_of_ble_eq_true rfl) ?_
  intro p e s m below meth c A ls hx hb hr hts hown hlocks hml hnm hP hK hD hA hS hl
  have hP : va_P D vwCl [(md, .inr (6, [vm_0, vm_1, vm_2, vm_3, vm_4, .ref hs, vm_6, vm_7, vm_8, vm_9, vm_10, vm_11, vm_12, vm_13, vm_14, vm_15, vm_16, vm_17, vm_18, vm_19, vm_20, vm_21, vm_22, vm_23])), (hs, .inl (cI, 45, .inl f))] s.heap := hP
  have hown : s.vm.findClass RX6 = some m.cls := hown
  have hl : lv_has ls 3 [(0, .ref md), (1, .int a1), (2, .int a2)] := hl
  have hi6 : ∀ w ∈ u_ws RX6 TX6 24, w ∈ wsX6_tube := by decide +kernel
  have wc67 := hts (.constant RX6 67 (-1000001)) (by decide +kernel)
  have wf19 := hts (.fieldLink RX6 19 "WarmTubesModel" "house" "[I") (by decide +kernel)
  have wf47 := hts (.fieldLink RX6 47 "WarmTubesModel" "thrown" "I") (by decide +kernel)
  have wl218 := hts (.constantLong RX6 218 (4)) (by decide +kernel)
  refine lv_aload_n hx hb dX6_tube_0 rfl (lv_at hl 0 rfl) ?_
  refine lv_iconst (v := 0) hx hb dX6_tube_1 (by decide) ?_
  refine va_put (D := D) (ci := 6) (v := .int 0) (ty := .int) (C := RX6) (T := TX6) (N := 24) hx hb hts hi6 tyX6 tyX6_ok nmX6 hown hK.1 hP hD hS 0 rfl rfl 0 (by decide) wf47 (fun _ h9 => h9) rfl (by decide +kernel) rfl rfl (Nat.le_of_ble_eq_true rfl) dX6_tube_2 (fun H locs hP hD hS => ?_)
  have hP : va_P D vwCl [(md, .inr (6, [.int 0, vm_1, vm_2, vm_3, vm_4, .ref hs, vm_6, vm_7, vm_8, vm_9, vm_10, vm_11, vm_12, vm_13, vm_14, vm_15, vm_16, vm_17, vm_18, vm_19, vm_20, vm_21, vm_22, vm_23])), (hs, .inl (cI, 45, .inl f))] H := hP
  have hD : va_D A [(md, .inr (6, [.int 0, vm_1, vm_2, vm_3, vm_4, .ref hs, vm_6, vm_7, vm_8, vm_9, vm_10, vm_11, vm_12, vm_13, vm_14, vm_15, vm_16, vm_17, vm_18, vm_19, vm_20, vm_21, vm_22, vm_23])), (hs, .inl (cI, 45, .inl f))] := hD
  refine lv_aload_n hx hb dX6_tube_5 rfl (lv_at hl 0 rfl) ?_
  refine lv_iload_n hx hb dX6_tube_6 rfl (lv_at hl 1 rfl) ?_
  refine wt_rV (As := [.int a1]) (rest := []) ⟨hx, hb, hml, hown, hts⟩ (c_X6_isTube l D cI cZ cH md hs R T f a1 (.int 0) vm_1 vm_2 vm_3 vm_4 vm_6 vm_7 vm_8 vm_9 vm_10 vm_11 vm_12 vm_13 vm_14 vm_15 vm_16 vm_17 vm_18 vm_19 vm_20 vm_21 vm_22 vm_23 (by first | assumption | omega) (by first | assumption | omega) (by first | assumption | omega)) (cwV 1 hts gX6_tube_X6_isTube rfl rfl rfl (by decide +kernel) ⟨Nat.le_of_ble_eq_true rfl, Nat.le_of_ble_eq_true rfl⟩) hK hP [0, 1] rfl (va_recv hK.1 hP (ci := 6) (q0 := 0) rfl rfl) rfl hl.1 rfl (Nat.le_of_ble_eq_true rfl) dX6_tube_7 ⟨Nat.le_of_ble_eq_true rfl, Nat.le_of_ble_eq_true rfl⟩ (fun r_1 e_2 => ?_)
  subst e_2
  refine lv_if_eq (tgt := 25) hx hb dX6_tube_10 (by decide) (fun c_3 => ?_) (fun c_3 => ?_)
  · skip
    refine lv_ldc hx hb hown wc67 dX6_tube_25 ?_
    have hP9 := hP.sub (ws' := [(md, .inr (6, [.int 0, vm_1, vm_2, vm_3, vm_4, .ref hs, vm_6, vm_7, vm_8, vm_9, vm_10, vm_11, vm_12, vm_13, vm_14, vm_15, vm_16, vm_17, vm_18, vm_19, vm_20, vm_21, vm_22, vm_23])), (hs, .inl (cI, 45, .inl f))]) [0, 1] rfl
    have hD9 := hD.sub (ws' := [(md, .inr (6, [.int 0, vm_1, vm_2, vm_3, vm_4, .ref hs, vm_6, vm_7, vm_8, vm_9, vm_10, vm_11, vm_12, vm_13, vm_14, vm_15, vm_16, vm_17, vm_18, vm_19, vm_20, vm_21, vm_22, vm_23])), (hs, .inl (cI, 45, .inl f))]) [0, 1] (by decide) rfl
    exact wt_iret hx hb hr hlocks hP9 hD9 hS rfl dX6_tube_27
  · skip
    obtain ⟨j_4, hj_4, rfl⟩ := wI_natT (T := T) (by omega) c_3
    refine lv_iload_n hx hb dX6_tube_13 rfl (lv_at hl 2 rfl) ?_
    refine lv_i2l hx hb dX6_tube_14 rfl ?_
    refine lv_lconst (v := 0) hx hb dX6_tube_15 (by decide) ?_
    refine lv_ldc2 hx hb hown wl218 dX6_tube_16 ?_
    refine wt_rS (As := [.long a2.toInt64, .long 0, .long 4]) (rest := []) ⟨hx, hb, hml, hown, hts⟩ (c_X6_in l D cI cZ cH a2.toInt64 0 4) (va_cwS 3 hts gX6_tube_X6_in rfl rfl rfl (by decide +kernel) ⟨Nat.le_of_ble_eq_true rfl, Nat.le_of_ble_eq_true rfl⟩) hK hP [] rfl rfl hl.1 rfl (Nat.le_of_ble_eq_true rfl) dX6_tube_19 ⟨Nat.le_of_ble_eq_true rfl, Nat.le_of_ble_eq_true rfl⟩ (fun r_5 e_6 => ?_)
    subst e_6
    refine wt_top (z := wI a2 0 4) (wL_I' (by decide) (by decide)) ?_
    refine lv_if_ne (tgt := 28) hx hb dX6_tube_22 (by decide) (fun c_7 => ?_) (fun c_7 => ?_)
    · skip
      obtain ⟨j_8, hj_8, hj_8b, rfl⟩ := wI_nat (a := 0) (b := 4) (by omega) (by omega) c_7
      refine lv_iload_n hx hb dX6_tube_28 rfl (lv_at hl 2 rfl) ?_
      refine lv_iconst (v := 4) hx hb dX6_tube_29 (by decide) ?_
      refine lv_icmp_ge (tgt := 47) hx hb dX6_tube_30 (by decide) (fun c_9 => ?_) (fun c_9 => ?_)
      · skip
        have c_9 : 4 ≤ j_8 := (nI_leI (a := 4) (b := j_8) (by omega) (by omega)).mp c_9
        refine lv_aload_n hx hb dX6_tube_47 rfl (lv_at hl 0 rfl) ?_
        refine va_get (D := D) (ci := 6) (v := .ref hs) (C := RX6) (T := TX6) (N := 24) hx hb hts hi6 hown hK.1 hP 0 rfl rfl 5 (by decide) wf19 (fun _ h9 => h9) rfl dX6_tube_48 ?_
        refine lv_iload_n hx hb dX6_tube_51 rfl (lv_at hl 1 rfl) ?_
        refine wt_rS (As := [.ref hs, .int (nI j_4)]) (rest := []) ⟨hx, hb, hml, hown, hts⟩ (c_X6_wants l D cI cZ cH hs R T f j_4 (by first | assumption | omega) (by first | assumption | omega) (by first | assumption | omega) (by first | assumption | omega)) (va_cwS 2 hts gX6_tube_X6_wants rfl rfl rfl (by decide +kernel) ⟨Nat.le_of_ble_eq_true rfl, Nat.le_of_ble_eq_true rfl⟩) hK hP [1] rfl rfl hl.1 rfl (Nat.le_of_ble_eq_true rfl) dX6_tube_52 ⟨Nat.le_of_ble_eq_true rfl, Nat.le_of_ble_eq_true rfl⟩ (fun r_10 e_11 => ?_)
        have hP9 := hP.sub (ws' := [(md, .inr (6, [.int 0, vm_1, vm_2, vm_3, vm_4, .ref hs, vm_6, vm_7, vm_8, vm_9, vm_10, vm_11, vm_12, vm_13, vm_14, vm_15, vm_16, vm_17, vm_18, vm_19, vm_20, vm_21, vm_22, vm_23])), (hs, .inl (cI, 45, .inl f))]) [0, 1] rfl
        have hD9 := hD.sub (ws' := [(md, .inr (6, [.int 0, vm_1, vm_2, vm_3, vm_4, .ref hs, vm_6, vm_7, vm_8, vm_9, vm_10, vm_11, vm_12, vm_13, vm_14, vm_15, vm_16, vm_17, vm_18, vm_19, vm_20, vm_21, vm_22, vm_23])), (hs, .inl (cI, 45, .inl f))]) [0, 1] (by decide) rfl
        exact wt_iret hx hb hr hlocks hP9 hD9 hS rfl dX6_tube_55
      · skip
        have c_9 : ¬ (4 ≤ j_8) := fun h => c_9 ((nI_leI (a := 4) (b := j_8) (by omega) (by omega)).mpr h)
        refine lv_aload_n hx hb dX6_tube_33 rfl (lv_at hl 0 rfl) ?_
        refine va_get (D := D) (ci := 6) (v := .ref hs) (C := RX6) (T := TX6) (N := 24) hx hb hts hi6 hown hK.1 hP 0 rfl rfl 5 (by decide) wf19 (fun _ h9 => h9) rfl dX6_tube_34 ?_
        refine lv_iload_n hx hb dX6_tube_37 rfl (lv_at hl 1 rfl) ?_
        refine lv_iconst (v := 1) hx hb dX6_tube_38 (by decide) ?_
        refine lv_iload_n hx hb dX6_tube_39 rfl (lv_at hl 2 rfl) ?_
        refine lv_iadd hx hb dX6_tube_40 ?_
        refine wt_top (z := nI (1 + j_8)) (nI_add 1 j_8) ?_
        refine wt_rS (As := [.ref hs, .int (nI j_4), .int (nI (1 + j_8))]) (rest := []) ⟨hx, hb, hml, hown, hts⟩ (c_X6_of_w l D cI cZ cH hs R T f j_4 (1 + j_8) (by first | assumption | omega) (by first | assumption | omega) (by first | assumption | omega) (by first | assumption | omega) (by first | assumption | omega)) (va_cwS 3 hts gX6_tube_X6_of rfl rfl rfl (by decide +kernel) ⟨Nat.le_of_ble_eq_true rfl, Nat.le_of_ble_eq_true rfl⟩) hK hP [1] rfl rfl hl.1 rfl (Nat.le_of_ble_eq_true rfl) dX6_tube_41 ⟨Nat.le_of_ble_eq_true rfl, Nat.le_of_ble_eq_true rfl⟩ (fun r_12 e_13 => ?_)
        refine lv_goto (tgt := 55) hx hb dX6_tube_44 (by decide) ?_
        have hP9 := hP.sub (ws' := [(md, .inr (6, [.int 0, vm_1, vm_2, vm_3, vm_4, .ref hs, vm_6, vm_7, vm_8, vm_9, vm_10, vm_11, vm_12, vm_13, vm_14, vm_15, vm_16, vm_17, vm_18, vm_19, vm_20, vm_21, vm_22, vm_23])), (hs, .inl (cI, 45, .inl f))]) [0, 1] rfl
        have hD9 := hD.sub (ws' := [(md, .inr (6, [.int 0, vm_1, vm_2, vm_3, vm_4, .ref hs, vm_6, vm_7, vm_8, vm_9, vm_10, vm_11, vm_12, vm_13, vm_14, vm_15, vm_16, vm_17, vm_18, vm_19, vm_20, vm_21, vm_22, vm_23])), (hs, .inl (cI, 45, .inl f))]) [0, 1] (by decide) rfl
        exact wt_iret hx hb hr hlocks hP9 hD9 hS rfl dX6_tube_55
    · skip
      refine lv_ldc hx hb hown wc67 dX6_tube_25 ?_
      have hP9 := hP.sub (ws' := [(md, .inr (6, [.int 0, vm_1, vm_2, vm_3, vm_4, .ref hs, vm_6, vm_7, vm_8, vm_9, vm_10, vm_11, vm_12, vm_13, vm_14, vm_15, vm_16, vm_17, vm_18, vm_19, vm_20, vm_21, vm_22, vm_23])), (hs, .inl (cI, 45, .inl f))]) [0, 1] rfl
      have hD9 := hD.sub (ws' := [(md, .inr (6, [.int 0, vm_1, vm_2, vm_3, vm_4, .ref hs, vm_6, vm_7, vm_8, vm_9, vm_10, vm_11, vm_12, vm_13, vm_14, vm_15, vm_16, vm_17, vm_18, vm_19, vm_20, vm_21, vm_22, vm_23])), (hs, .inl (cI, 45, .inl f))]) [0, 1] (by decide) rfl
      exact wt_iret hx hb hr hlocks hP9 hD9 hS rfl dX6_tube_27
set_option maxHeartbeats 4000000 in
set_option maxRecDepth 100000 in
theorem c_X6_room (l : Launch) (D : va_G) (cI cZ cH : ClassId) (md hs : Nat) (R T : Nat) (f : Nat → Int32) (a1 a2 : Int32) (vm_0 vm_1 vm_2 vm_3 vm_4 vm_6 vm_7 vm_8 vm_9 vm_10 vm_11 vm_12 vm_13 vm_14 vm_15 vm_16 vm_17 vm_18 vm_19 vm_20 vm_21 vm_22 vm_23 : Value) (hR5 : R ≤ 5) (hT6 : T ≤ 6) (hrk : rk R T f) : wt_M l yX6_room wsX6_room ({ frames := 2, cells := 0, slots := 0, locals := 46 } : Room) D (wt_T cI cZ cH) [.ref md, .int a1, .int a2] [(md, .inr (6, [vm_0, vm_1, vm_2, vm_3, vm_4, .ref hs, vm_6, vm_7, vm_8, vm_9, vm_10, vm_11, vm_12, vm_13, vm_14, vm_15, vm_16, vm_17, vm_18, vm_19, vm_20, vm_21, vm_22, vm_23])), (hs, .inl (cI, 45, .inl f))] (wt_QI D (fun r w => w = [(md, .inr (6, [.int 0, vm_1, vm_2, vm_3, vm_4, .ref hs, vm_6, vm_7, vm_8, vm_9, vm_10, vm_11, vm_12, vm_13, vm_14, vm_15, vm_16, vm_17, vm_18, vm_19, vm_20, vm_21, vm_22, vm_23])), (hs, .inl (cI, 45, .inl f))])) := by
  refine wt_M.ofW (cc := cX6_room) (maxL := 3) (ret := (some .int)) (by decide) rfl (Nat.le_of_ble_eq_true rfl) ?_
  intro p e s m below meth c A ls hx hb hr hts hown hlocks hml hnm hP hK hD hA hS hl
  have hP : va_P D vwCl [(md, .inr (6, [vm_0, vm_1, vm_2, vm_3, vm_4, .ref hs, vm_6, vm_7, vm_8, vm_9, vm_10, vm_11, vm_12, vm_13, vm_14, vm_15, vm_16, vm_17, vm_18, vm_19, vm_20, vm_21, vm_22, vm_23])), (hs, .inl (cI, 45, .inl f))] s.heap := hP
  have hown : s.vm.findClass RX6 = some m.cls := hown
  have hl : lv_has ls 3 [(0, .ref md), (1, .int a1), (2, .int a2)] := hl
  have hi6 : ∀ w ∈ u_ws RX6 TX6 24, w ∈ wsX6_room := by decide +kernel
  have wc67 := hts (.constant RX6 67 (-1000001)) (by decide +kernel)
  have wf19 := hts (.fieldLink RX6 19 "WarmTubesModel" "house" "[I") (by decide +kernel)
  have wf47 := hts (.fieldLink RX6 47 "WarmTubesModel" "thrown" "I") (by decide +kernel)
  have wl220 := hts (.constantLong RX6 220 (3)) (by decide +kernel)
  refine lv_aload_n hx hb dX6_room_0 rfl (lv_at hl 0 rfl) ?_
  refine lv_iconst (v := 0) hx hb dX6_room_1 (by decide) ?_
  refine va_put (D := D) (ci := 6) (v := .int 0) (ty := .int) (C := RX6) (T := TX6) (N := 24) hx hb hts hi6 tyX6 tyX6_ok nmX6 hown hK.1 hP hD hS 0 rfl rfl 0 (by decide) wf47 (fun _ h9 => h9) rfl (by decide +kernel) rfl rfl (Nat.le_of_ble_eq_true rfl) dX6_room_2 (fun H locs hP hD hS => ?_)
  have hP : va_P D vwCl [(md, .inr (6, [.int 0, vm_1, vm_2, vm_3, vm_4, .ref hs, vm_6, vm_7, vm_8, vm_9, vm_10, vm_11, vm_12, vm_13, vm_14, vm_15, vm_16, vm_17, vm_18, vm_19, vm_20, vm_21, vm_22, vm_23])), (hs, .inl (cI, 45, .inl f))] H := hP
  have hD : va_D A [(md, .inr (6, [.int 0, vm_1, vm_2, vm_3, vm_4, .ref hs, vm_6, vm_7, vm_8, vm_9, vm_10, vm_11, vm_12, vm_13, vm_14, vm_15, vm_16, vm_17, vm_18, vm_19, vm_20, vm_21, vm_22, vm_23])), (hs, .inl (cI, 45, .inl f))] := hD
  refine lv_aload_n hx hb dX6_room_5 rfl (lv_at hl 0 rfl) ?_
  refine lv_iload_n hx hb dX6_room_6 rfl (lv_at hl 1 rfl) ?_
  refine wt_rV (As := [.int a1]) (rest := []) ⟨hx, hb, hml, hown, hts⟩ (c_X6_isPlace l D cI cZ cH md hs R T f a1 (.int 0) vm_1 vm_2 vm_3 vm_4 vm_6 vm_7 vm_8 vm_9 vm_10 vm_11 vm_12 vm_13 vm_14 vm_15 vm_16 vm_17 vm_18 vm_19 vm_20 vm_21 vm_22 vm_23 (by first | assumption | omega) (by first | assumption | omega) (by first | assumption | omega)) (cwV 1 hts gX6_room_X6_isPlace rfl rfl rfl (by decide +kernel) ⟨Nat.le_of_ble_eq_true rfl, Nat.le_of_ble_eq_true rfl⟩) hK hP [0, 1] rfl (va_recv hK.1 hP (ci := 6) (q0 := 0) rfl rfl) rfl hl.1 rfl (Nat.le_of_ble_eq_true rfl) dX6_room_7 ⟨Nat.le_of_ble_eq_true rfl, Nat.le_of_ble_eq_true rfl⟩ (fun r_1 e_2 => ?_)
  subst e_2
  refine lv_if_eq (tgt := 40) hx hb dX6_room_10 (by decide) (fun c_3 => ?_) (fun c_3 => ?_)
  · skip
    refine lv_ldc hx hb hown wc67 dX6_room_40 ?_
    have hP9 := hP.sub (ws' := [(md, .inr (6, [.int 0, vm_1, vm_2, vm_3, vm_4, .ref hs, vm_6, vm_7, vm_8, vm_9, vm_10, vm_11, vm_12, vm_13, vm_14, vm_15, vm_16, vm_17, vm_18, vm_19, vm_20, vm_21, vm_22, vm_23])), (hs, .inl (cI, 45, .inl f))]) [0, 1] rfl
    have hD9 := hD.sub (ws' := [(md, .inr (6, [.int 0, vm_1, vm_2, vm_3, vm_4, .ref hs, vm_6, vm_7, vm_8, vm_9, vm_10, vm_11, vm_12, vm_13, vm_14, vm_15, vm_16, vm_17, vm_18, vm_19, vm_20, vm_21, vm_22, vm_23])), (hs, .inl (cI, 45, .inl f))]) [0, 1] (by decide) rfl
    exact wt_iret hx hb hr hlocks hP9 hD9 hS rfl dX6_room_42
  · skip
    obtain ⟨h0j_4, j_4, hj_4, rfl⟩ := gP_nat (R := R) (by omega) c_3
    refine lv_iload_n hx hb dX6_room_13 rfl (lv_at hl 2 rfl) ?_
    refine lv_i2l hx hb dX6_room_14 rfl ?_
    refine lv_lconst (v := 0) hx hb dX6_room_15 (by decide) ?_
    refine lv_ldc2 hx hb hown wl220 dX6_room_16 ?_
    refine wt_rS (As := [.long a2.toInt64, .long 0, .long 3]) (rest := []) ⟨hx, hb, hml, hown, hts⟩ (c_X6_in l D cI cZ cH a2.toInt64 0 3) (va_cwS 3 hts gX6_room_X6_in rfl rfl rfl (by decide +kernel) ⟨Nat.le_of_ble_eq_true rfl, Nat.le_of_ble_eq_true rfl⟩) hK hP [] rfl rfl hl.1 rfl (Nat.le_of_ble_eq_true rfl) dX6_room_19 ⟨Nat.le_of_ble_eq_true rfl, Nat.le_of_ble_eq_true rfl⟩ (fun r_5 e_6 => ?_)
    subst e_6
    refine wt_top (z := wI a2 0 3) (wL_I' (by decide) (by decide)) ?_
    refine lv_if_eq (tgt := 40) hx hb dX6_room_22 (by decide) (fun c_7 => ?_) (fun c_7 => ?_)
    · skip
      refine lv_ldc hx hb hown wc67 dX6_room_40 ?_
      have hP9 := hP.sub (ws' := [(md, .inr (6, [.int 0, vm_1, vm_2, vm_3, vm_4, .ref hs, vm_6, vm_7, vm_8, vm_9, vm_10, vm_11, vm_12, vm_13, vm_14, vm_15, vm_16, vm_17, vm_18, vm_19, vm_20, vm_21, vm_22, vm_23])), (hs, .inl (cI, 45, .inl f))]) [0, 1] rfl
      have hD9 := hD.sub (ws' := [(md, .inr (6, [.int 0, vm_1, vm_2, vm_3, vm_4, .ref hs, vm_6, vm_7, vm_8, vm_9, vm_10, vm_11, vm_12, vm_13, vm_14, vm_15, vm_16, vm_17, vm_18, vm_19, vm_20, vm_21, vm_22, vm_23])), (hs, .inl (cI, 45, .inl f))]) [0, 1] (by decide) rfl
      exact wt_iret hx hb hr hlocks hP9 hD9 hS rfl dX6_room_42
    · skip
      obtain ⟨j_8, hj_8, hj_8b, rfl⟩ := wI_nat (a := 0) (b := 3) (by omega) (by omega) c_7
      refine lv_iload_n hx hb dX6_room_25 rfl (lv_at hl 1 rfl) ?_
      refine lv_aload_n hx hb dX6_room_26 rfl (lv_at hl 0 rfl) ?_
      refine va_get (D := D) (ci := 6) (v := .ref hs) (C := RX6) (T := TX6) (N := 24) hx hb hts hi6 hown hK.1 hP 0 rfl rfl 5 (by decide) wf19 (fun _ h9 => h9) rfl dX6_room_27 ?_
      refine lv_iconst (v := 0) hx hb dX6_room_30 (by decide) ?_
      refine va_iald hx hb hK.1 hP 1 0 rfl rfl (by rw [vp_in_iff]; decide) dX6_room_31 ?_
      refine wt_top (z := nI R) (hrk.1) ?_
      refine lv_icmp_ne (tgt := 43) hx hb dX6_room_32 (by decide) (fun c_9 => ?_) (fun c_9 => ?_)
      · skip
        have c_9 : ¬ (j_4 = R) := fun h => c_9 ((nI_eq (a := j_4) (b := R) (by omega) (by omega)).mpr h)
        refine lv_iload_n hx hb dX6_room_43 rfl (lv_at hl 2 rfl) ?_
        refine lv_iconst (v := 2) hx hb dX6_room_44 (by decide) ?_
        refine lv_icmp_ge (tgt := 63) hx hb dX6_room_45 (by decide) (fun c_10 => ?_) (fun c_10 => ?_)
        · skip
          have c_10 : 2 ≤ j_8 := (nI_leI (a := 2) (b := j_8) (by omega) (by omega)).mp c_10
          refine lv_iload_n hx hb dX6_room_63 rfl (lv_at hl 2 rfl) ?_
          refine lv_iconst (v := 2) hx hb dX6_room_64 (by decide) ?_
          refine lv_icmp_ne (tgt := 87) hx hb dX6_room_65 (by decide) (fun c_11 => ?_) (fun c_11 => ?_)
          · skip
            have c_11 : ¬ (j_8 = 2) := fun h => c_11 ((nI_eq (a := j_8) (b := 2) (by omega) (by omega)).mpr h)
            refine lv_aload_n hx hb dX6_room_87 rfl (lv_at hl 0 rfl) ?_
            refine va_get (D := D) (ci := 6) (v := .ref hs) (C := RX6) (T := TX6) (N := 24) hx hb hts hi6 hown hK.1 hP 0 rfl rfl 5 (by decide) wf19 (fun _ h9 => h9) rfl dX6_room_88 ?_
            refine lv_iload_n hx hb dX6_room_91 rfl (lv_at hl 1 rfl) ?_
            refine wt_rS (As := [.ref hs, .int (nI j_4)]) (rest := []) ⟨hx, hb, hml, hown, hts⟩ (c_X6_tubesIn l D cI cZ cH hs R T f (nI j_4) (by first | assumption | omega) (by first | assumption | omega) (by first | assumption | omega)) (va_cwS 2 hts gX6_room_X6_tubesIn rfl rfl rfl (by decide +kernel) ⟨Nat.le_of_ble_eq_true rfl, Nat.le_of_ble_eq_true rfl⟩) hK hP [1] rfl rfl hl.1 rfl (Nat.le_of_ble_eq_true rfl) dX6_room_92 ⟨Nat.le_of_ble_eq_true rfl, Nat.le_of_ble_eq_true rfl⟩ (fun r_12 e_13 => ?_)
            obtain ⟨b_14, e_13, rfl⟩ := e_13
            have hP9 := hP.sub (ws' := [(md, .inr (6, [.int 0, vm_1, vm_2, vm_3, vm_4, .ref hs, vm_6, vm_7, vm_8, vm_9, vm_10, vm_11, vm_12, vm_13, vm_14, vm_15, vm_16, vm_17, vm_18, vm_19, vm_20, vm_21, vm_22, vm_23])), (hs, .inl (cI, 45, .inl f))]) [0, 1] rfl
            have hD9 := hD.sub (ws' := [(md, .inr (6, [.int 0, vm_1, vm_2, vm_3, vm_4, .ref hs, vm_6, vm_7, vm_8, vm_9, vm_10, vm_11, vm_12, vm_13, vm_14, vm_15, vm_16, vm_17, vm_18, vm_19, vm_20, vm_21, vm_22, vm_23])), (hs, .inl (cI, 45, .inl f))]) [0, 1] (by decide) rfl
            exact wt_iret hx hb hr hlocks hP9 hD9 hS rfl dX6_room_95
          · skip
            have c_11 : j_8 = 2 := (nI_eq (a := j_8) (b := 2) (by omega) (by omega)).mp c_11
            refine lv_aload_n hx hb dX6_room_68 rfl (lv_at hl 0 rfl) ?_
            refine va_get (D := D) (ci := 6) (v := .ref hs) (C := RX6) (T := TX6) (N := 24) hx hb hts hi6 hown hK.1 hP 0 rfl rfl 5 (by decide) wf19 (fun _ h9 => h9) rfl dX6_room_69 ?_
            refine lv_iload_n hx hb dX6_room_72 rfl (lv_at hl 1 rfl) ?_
            refine wt_rS (As := [.ref hs, .int (nI j_4)]) (rest := []) ⟨hx, hb, hml, hown, hts⟩ (c_X6_isCold l D cI cZ cH hs R T f j_4 (by first | assumption | omega) (by first | assumption | omega) (by first | assumption | omega) (by first | assumption | omega)) (va_cwS 2 hts gX6_room_X6_isCold rfl rfl rfl (by decide +kernel) ⟨Nat.le_of_ble_eq_true rfl, Nat.le_of_ble_eq_true rfl⟩) hK hP [1] rfl rfl hl.1 rfl (Nat.le_of_ble_eq_true rfl) dX6_room_73 ⟨Nat.le_of_ble_eq_true rfl, Nat.le_of_ble_eq_true rfl⟩ (fun r_15 e_16 => ?_)
            refine lv_if_eq (tgt := 83) hx hb dX6_room_76 (by decide) (fun c_17 => ?_) (fun c_17 => ?_)
            · skip
              refine lv_iconst (v := 0) hx hb dX6_room_83 (by decide) ?_
              refine lv_goto (tgt := 95) hx hb dX6_room_84 (by decide) ?_
              have hP9 := hP.sub (ws' := [(md, .inr (6, [.int 0, vm_1, vm_2, vm_3, vm_4, .ref hs, vm_6, vm_7, vm_8, vm_9, vm_10, vm_11, vm_12, vm_13, vm_14, vm_15, vm_16, vm_17, vm_18, vm_19, vm_20, vm_21, vm_22, vm_23])), (hs, .inl (cI, 45, .inl f))]) [0, 1] rfl
              have hD9 := hD.sub (ws' := [(md, .inr (6, [.int 0, vm_1, vm_2, vm_3, vm_4, .ref hs, vm_6, vm_7, vm_8, vm_9, vm_10, vm_11, vm_12, vm_13, vm_14, vm_15, vm_16, vm_17, vm_18, vm_19, vm_20, vm_21, vm_22, vm_23])), (hs, .inl (cI, 45, .inl f))]) [0, 1] (by decide) rfl
              exact wt_iret hx hb hr hlocks hP9 hD9 hS rfl dX6_room_95
            · skip
              refine lv_iconst (v := 1) hx hb dX6_room_79 (by decide) ?_
              refine lv_goto (tgt := 95) hx hb dX6_room_80 (by decide) ?_
              have hP9 := hP.sub (ws' := [(md, .inr (6, [.int 0, vm_1, vm_2, vm_3, vm_4, .ref hs, vm_6, vm_7, vm_8, vm_9, vm_10, vm_11, vm_12, vm_13, vm_14, vm_15, vm_16, vm_17, vm_18, vm_19, vm_20, vm_21, vm_22, vm_23])), (hs, .inl (cI, 45, .inl f))]) [0, 1] rfl
              have hD9 := hD.sub (ws' := [(md, .inr (6, [.int 0, vm_1, vm_2, vm_3, vm_4, .ref hs, vm_6, vm_7, vm_8, vm_9, vm_10, vm_11, vm_12, vm_13, vm_14, vm_15, vm_16, vm_17, vm_18, vm_19, vm_20, vm_21, vm_22, vm_23])), (hs, .inl (cI, 45, .inl f))]) [0, 1] (by decide) rfl
              exact wt_iret hx hb hr hlocks hP9 hD9 hS rfl dX6_room_95
        · skip
          have c_10 : ¬ (2 ≤ j_8) := fun h => c_10 ((nI_leI (a := 2) (b := j_8) (by omega) (by omega)).mpr h)
          refine lv_aload_n hx hb dX6_room_48 rfl (lv_at hl 0 rfl) ?_
          refine va_get (D := D) (ci := 6) (v := .ref hs) (C := RX6) (T := TX6) (N := 24) hx hb hts hi6 hown hK.1 hP 0 rfl rfl 5 (by decide) wf19 (fun _ h9 => h9) rfl dX6_room_49 ?_
          refine lv_iconst (v := 5) hx hb dX6_room_52 (by decide) ?_
          refine lv_iconst (v := 2) hx hb dX6_room_53 (by decide) ?_
          refine lv_iload_n hx hb dX6_room_54 rfl (lv_at hl 1 rfl) ?_
          refine lv_imul hx hb dX6_room_55 ?_
          refine wt_top (z := nI (2 * j_4)) (pk_mul 2 j_4) ?_
          refine lv_iadd hx hb dX6_room_56 ?_
          refine wt_top (z := nI (5 + (2 * j_4))) (nI_add 5 (2 * j_4)) ?_
          refine lv_iload_n hx hb dX6_room_57 rfl (lv_at hl 2 rfl) ?_
          refine lv_iadd hx hb dX6_room_58 ?_
          refine wt_top (z := nI ((5 + (2 * j_4)) + j_8)) (nI_add (5 + (2 * j_4)) j_8) ?_
          refine va_iald hx hb hK.1 hP 1 0 rfl rfl (vp_in_nI (by omega) (by omega)) dX6_room_59 ?_
          refine lv_topi (fun ov_18 _ => ?_)
          refine lv_goto (tgt := 95) hx hb dX6_room_60 (by decide) ?_
          have hP9 := hP.sub (ws' := [(md, .inr (6, [.int 0, vm_1, vm_2, vm_3, vm_4, .ref hs, vm_6, vm_7, vm_8, vm_9, vm_10, vm_11, vm_12, vm_13, vm_14, vm_15, vm_16, vm_17, vm_18, vm_19, vm_20, vm_21, vm_22, vm_23])), (hs, .inl (cI, 45, .inl f))]) [0, 1] rfl
          have hD9 := hD.sub (ws' := [(md, .inr (6, [.int 0, vm_1, vm_2, vm_3, vm_4, .ref hs, vm_6, vm_7, vm_8, vm_9, vm_10, vm_11, vm_12, vm_13, vm_14, vm_15, vm_16, vm_17, vm_18, vm_19, vm_20, vm_21, vm_22, vm_23])), (hs, .inl (cI, 45, .inl f))]) [0, 1] (by decide) rfl
          exact wt_iret hx hb hr hlocks hP9 hD9 hS rfl dX6_room_95
      · skip
        have c_9 : j_4 = R := (nI_eq (a := j_4) (b := R) (by omega) (by omega)).mp c_9
        refine lv_iload_n hx hb dX6_room_35 rfl (lv_at hl 2 rfl) ?_
        refine lv_iconst (v := 3) hx hb dX6_room_36 (by decide) ?_
        refine lv_icmp_ge (tgt := 43) hx hb dX6_room_37 (by decide) (fun c_19 => ?_) (fun c_19 => ?_)
        · skip
          have c_19 : 3 ≤ j_8 := (nI_leI (a := 3) (b := j_8) (by omega) (by omega)).mp c_19
          refine lv_iload_n hx hb dX6_room_43 rfl (lv_at hl 2 rfl) ?_
          refine lv_iconst (v := 2) hx hb dX6_room_44 (by decide) ?_
          refine lv_icmp_ge (tgt := 63) hx hb dX6_room_45 (by decide) (fun c_20 => ?_) (fun c_20 => ?_)
          · skip
            have c_20 : 2 ≤ j_8 := (nI_leI (a := 2) (b := j_8) (by omega) (by omega)).mp c_20
            refine lv_iload_n hx hb dX6_room_63 rfl (lv_at hl 2 rfl) ?_
            refine lv_iconst (v := 2) hx hb dX6_room_64 (by decide) ?_
            refine lv_icmp_ne (tgt := 87) hx hb dX6_room_65 (by decide) (fun c_21 => ?_) (fun c_21 => ?_)
            · skip
              have c_21 : ¬ (j_8 = 2) := fun h => c_21 ((nI_eq (a := j_8) (b := 2) (by omega) (by omega)).mpr h)
              refine lv_aload_n hx hb dX6_room_87 rfl (lv_at hl 0 rfl) ?_
              refine va_get (D := D) (ci := 6) (v := .ref hs) (C := RX6) (T := TX6) (N := 24) hx hb hts hi6 hown hK.1 hP 0 rfl rfl 5 (by decide) wf19 (fun _ h9 => h9) rfl dX6_room_88 ?_
              refine lv_iload_n hx hb dX6_room_91 rfl (lv_at hl 1 rfl) ?_
              refine wt_rS (As := [.ref hs, .int (nI j_4)]) (rest := []) ⟨hx, hb, hml, hown, hts⟩ (c_X6_tubesIn l D cI cZ cH hs R T f (nI j_4) (by first | assumption | omega) (by first | assumption | omega) (by first | assumption | omega)) (va_cwS 2 hts gX6_room_X6_tubesIn rfl rfl rfl (by decide +kernel) ⟨Nat.le_of_ble_eq_true rfl, Nat.le_of_ble_eq_true rfl⟩) hK hP [1] rfl rfl hl.1 rfl (Nat.le_of_ble_eq_true rfl) dX6_room_92 ⟨Nat.le_of_ble_eq_true rfl, Nat.le_of_ble_eq_true rfl⟩ (fun r_22 e_23 => ?_)
              obtain ⟨b_24, e_23, rfl⟩ := e_23
              have hP9 := hP.sub (ws' := [(md, .inr (6, [.int 0, vm_1, vm_2, vm_3, vm_4, .ref hs, vm_6, vm_7, vm_8, vm_9, vm_10, vm_11, vm_12, vm_13, vm_14, vm_15, vm_16, vm_17, vm_18, vm_19, vm_20, vm_21, vm_22, vm_23])), (hs, .inl (cI, 45, .inl f))]) [0, 1] rfl
              have hD9 := hD.sub (ws' := [(md, .inr (6, [.int 0, vm_1, vm_2, vm_3, vm_4, .ref hs, vm_6, vm_7, vm_8, vm_9, vm_10, vm_11, vm_12, vm_13, vm_14, vm_15, vm_16, vm_17, vm_18, vm_19, vm_20, vm_21, vm_22, vm_23])), (hs, .inl (cI, 45, .inl f))]) [0, 1] (by decide) rfl
              exact wt_iret hx hb hr hlocks hP9 hD9 hS rfl dX6_room_95
            · skip
              have c_21 : j_8 = 2 := (nI_eq (a := j_8) (b := 2) (by omega) (by omega)).mp c_21
              refine lv_aload_n hx hb dX6_room_68 rfl (lv_at hl 0 rfl) ?_
              refine va_get (D := D) (ci := 6) (v := .ref hs) (C := RX6) (T := TX6) (N := 24) hx hb hts hi6 hown hK.1 hP 0 rfl rfl 5 (by decide) wf19 (fun _ h9 => h9) rfl dX6_room_69 ?_
              refine lv_iload_n hx hb dX6_room_72 rfl (lv_at hl 1 rfl) ?_
              refine wt_rS (As := [.ref hs, .int (nI j_4)]) (rest := []) ⟨hx, hb, hml, hown, hts⟩ (c_X6_isCold l D cI cZ cH hs R T f j_4 (by first | assumption | omega) (by first | assumption | omega) (by first | assumption | omega) (by first | assumption | omega)) (va_cwS 2 hts gX6_room_X6_isCold rfl rfl rfl (by decide +kernel) ⟨Nat.le_of_ble_eq_true rfl, Nat.le_of_ble_eq_true rfl⟩) hK hP [1] rfl rfl hl.1 rfl (Nat.le_of_ble_eq_true rfl) dX6_room_73 ⟨Nat.le_of_ble_eq_true rfl, Nat.le_of_ble_eq_true rfl⟩ (fun r_25 e_26 => ?_)
              refine lv_if_eq (tgt := 83) hx hb dX6_room_76 (by decide) (fun c_27 => ?_) (fun c_27 => ?_)
              · skip
                refine lv_iconst (v := 0) hx hb dX6_room_83 (by decide) ?_
                refine lv_goto (tgt := 95) hx hb dX6_room_84 (by decide) ?_
                have hP9 := hP.sub (ws' := [(md, .inr (6, [.int 0, vm_1, vm_2, vm_3, vm_4, .ref hs, vm_6, vm_7, vm_8, vm_9, vm_10, vm_11, vm_12, vm_13, vm_14, vm_15, vm_16, vm_17, vm_18, vm_19, vm_20, vm_21, vm_22, vm_23])), (hs, .inl (cI, 45, .inl f))]) [0, 1] rfl
                have hD9 := hD.sub (ws' := [(md, .inr (6, [.int 0, vm_1, vm_2, vm_3, vm_4, .ref hs, vm_6, vm_7, vm_8, vm_9, vm_10, vm_11, vm_12, vm_13, vm_14, vm_15, vm_16, vm_17, vm_18, vm_19, vm_20, vm_21, vm_22, vm_23])), (hs, .inl (cI, 45, .inl f))]) [0, 1] (by decide) rfl
                exact wt_iret hx hb hr hlocks hP9 hD9 hS rfl dX6_room_95
              · skip
                refine lv_iconst (v := 1) hx hb dX6_room_79 (by decide) ?_
                refine lv_goto (tgt := 95) hx hb dX6_room_80 (by decide) ?_
                have hP9 := hP.sub (ws' := [(md, .inr (6, [.int 0, vm_1, vm_2, vm_3, vm_4, .ref hs, vm_6, vm_7, vm_8, vm_9, vm_10, vm_11, vm_12, vm_13, vm_14, vm_15, vm_16, vm_17, vm_18, vm_19, vm_20, vm_21, vm_22, vm_23])), (hs, .inl (cI, 45, .inl f))]) [0, 1] rfl
                have hD9 := hD.sub (ws' := [(md, .inr (6, [.int 0, vm_1, vm_2, vm_3, vm_4, .ref hs, vm_6, vm_7, vm_8, vm_9, vm_10, vm_11, vm_12, vm_13, vm_14, vm_15, vm_16, vm_17, vm_18, vm_19, vm_20, vm_21, vm_22, vm_23])), (hs, .inl (cI, 45, .inl f))]) [0, 1] (by decide) rfl
                exact wt_iret hx hb hr hlocks hP9 hD9 hS rfl dX6_room_95
          · skip
            have c_20 : ¬ (2 ≤ j_8) := fun h => c_20 ((nI_leI (a := 2) (b := j_8) (by omega) (by omega)).mpr h)
            refine lv_aload_n hx hb dX6_room_48 rfl (lv_at hl 0 rfl) ?_
            refine va_get (D := D) (ci := 6) (v := .ref hs) (C := RX6) (T := TX6) (N := 24) hx hb hts hi6 hown hK.1 hP 0 rfl rfl 5 (by decide) wf19 (fun _ h9 => h9) rfl dX6_room_49 ?_
            refine lv_iconst (v := 5) hx hb dX6_room_52 (by decide) ?_
            refine lv_iconst (v := 2) hx hb dX6_room_53 (by decide) ?_
            refine lv_iload_n hx hb dX6_room_54 rfl (lv_at hl 1 rfl) ?_
            refine lv_imul hx hb dX6_room_55 ?_
            refine wt_top (z := nI (2 * j_4)) (pk_mul 2 j_4) ?_
            refine lv_iadd hx hb dX6_room_56 ?_
            refine wt_top (z := nI (5 + (2 * j_4))) (nI_add 5 (2 * j_4)) ?_
            refine lv_iload_n hx hb dX6_room_57 rfl (lv_at hl 2 rfl) ?_
            refine lv_iadd hx hb dX6_room_58 ?_
            refine wt_top (z := nI ((5 + (2 * j_4)) + j_8)) (nI_add (5 + (2 * j_4)) j_8) ?_
            refine va_iald hx hb hK.1 hP 1 0 rfl rfl (vp_in_nI (by omega) (by omega)) dX6_room_59 ?_
            refine lv_topi (fun ov_28 _ => ?_)
            refine lv_goto (tgt := 95) hx hb dX6_room_60 (by decide) ?_
            have hP9 := hP.sub (ws' := [(md, .inr (6, [.int 0, vm_1, vm_2, vm_3, vm_4, .ref hs, vm_6, vm_7, vm_8, vm_9, vm_10, vm_11, vm_12, vm_13, vm_14, vm_15, vm_16, vm_17, vm_18, vm_19, vm_20, vm_21, vm_22, vm_23])), (hs, .inl (cI, 45, .inl f))]) [0, 1] rfl
            have hD9 := hD.sub (ws' := [(md, .inr (6, [.int 0, vm_1, vm_2, vm_3, vm_4, .ref hs, vm_6, vm_7, vm_8, vm_9, vm_10, vm_11, vm_12, vm_13, vm_14, vm_15, vm_16, vm_17, vm_18, vm_19, vm_20, vm_21, vm_22, vm_23])), (hs, .inl (cI, 45, .inl f))]) [0, 1] (by decide) rfl
            exact wt_iret hx hb hr hlocks hP9 hD9 hS rfl dX6_room_95
        · skip
          have c_19 : ¬ (3 ≤ j_8) := fun h => c_19 ((nI_leI (a := 3) (b := j_8) (by omega) (by omega)).mpr h)
          refine lv_ldc hx hb hown wc67 dX6_room_40 ?_
          have hP9 := hP.sub (ws' := [(md, .inr (6, [.int 0, vm_1, vm_2, vm_3, vm_4, .ref hs, vm_6, vm_7, vm_8, vm_9, vm_10, vm_11, vm_12, vm_13, vm_14, vm_15, vm_16, vm_17, vm_18, vm_19, vm_20, vm_21, vm_22, vm_23])), (hs, .inl (cI, 45, .inl f))]) [0, 1] rfl
          have hD9 := hD.sub (ws' := [(md, .inr (6, [.int 0, vm_1, vm_2, vm_3, vm_4, .ref hs, vm_6, vm_7, vm_8, vm_9, vm_10, vm_11, vm_12, vm_13, vm_14, vm_15, vm_16, vm_17, vm_18, vm_19, vm_20, vm_21, vm_22, vm_23])), (hs, .inl (cI, 45, .inl f))]) [0, 1] (by decide) rfl
          exact wt_iret hx hb hr hlocks hP9 hD9 hS rfl dX6_room_42
set_option maxHeartbeats 4000000 in
set_option maxRecDepth 100000 in
theorem c_X6_degrees (l : Launch) (D : va_G) (cI cZ cH : ClassId) (md hs : Nat) (R T : Nat) (f : Nat → Int32) (vm_0 vm_1 vm_2 vm_3 vm_4 vm_6 vm_7 vm_8 vm_9 vm_10 vm_11 vm_12 vm_13 vm_14 vm_15 vm_16 vm_17 vm_18 vm_19 vm_20 vm_21 vm_22 vm_23 : Value) (hR5 : R ≤ 5) (hT6 : T ≤ 6) (hrk : rk R T f) : wt_M l yX6_degrees wsX6_degrees ({ frames := 3, cells := 0, slots := 0, locals := 66 } : Room) D (wt_T cI cZ cH) [.ref md] [(md, .inr (6, [vm_0, vm_1, vm_2, vm_3, vm_4, .ref hs, vm_6, vm_7, vm_8, vm_9, vm_10, vm_11, vm_12, vm_13, vm_14, vm_15, vm_16, vm_17, vm_18, vm_19, vm_20, vm_21, vm_22, vm_23])), (hs, .inl (cI, 45, .inl f))] (wt_QI D (fun r w => w = [(md, .inr (6, [.int 0, vm_1, vm_2, vm_3, vm_4, .ref hs, vm_6, vm_7, vm_8, vm_9, vm_10, vm_11, vm_12, vm_13, vm_14, vm_15, vm_16, vm_17, vm_18, vm_19, vm_20, vm_21, vm_22, vm_23])), (hs, .inl (cI, 45, .inl f))])) := by
  refine wt_M.ofW (cc := cX6_degrees) (maxL := 1) (ret := (some .int)) (by decide) rfl (Nat.le_of_ble_eq_true rfl) ?_
  intro p e s m below meth c A ls hx hb hr hts hown hlocks hml hnm hP hK hD hA hS hl
  have hP : va_P D vwCl [(md, .inr (6, [vm_0, vm_1, vm_2, vm_3, vm_4, .ref hs, vm_6, vm_7, vm_8, vm_9, vm_10, vm_11, vm_12, vm_13, vm_14, vm_15, vm_16, vm_17, vm_18, vm_19, vm_20, vm_21, vm_22, vm_23])), (hs, .inl (cI, 45, .inl f))] s.heap := hP
  have hown : s.vm.findClass RX6 = some m.cls := hown
  have hl : lv_has ls 1 [(0, .ref md)] := hl
  have hi6 : ∀ w ∈ u_ws RX6 TX6 24, w ∈ wsX6_degrees := by decide +kernel
  have wc189 := hts (.constant RX6 189 (-1000002)) (by decide +kernel)
  have wf19 := hts (.fieldLink RX6 19 "WarmTubesModel" "house" "[I") (by decide +kernel)
  have wf47 := hts (.fieldLink RX6 47 "WarmTubesModel" "thrown" "I") (by decide +kernel)
  refine lv_aload_n hx hb dX6_degrees_0 rfl (lv_at hl 0 rfl) ?_
  refine lv_iconst (v := 0) hx hb dX6_degrees_1 (by decide) ?_
  refine va_put (D := D) (ci := 6) (v := .int 0) (ty := .int) (C := RX6) (T := TX6) (N := 24) hx hb hts hi6 tyX6 tyX6_ok nmX6 hown hK.1 hP hD hS 0 rfl rfl 0 (by decide) wf47 (fun _ h9 => h9) rfl (by decide +kernel) rfl rfl (Nat.le_of_ble_eq_true rfl) dX6_degrees_2 (fun H locs hP hD hS => ?_)
  have hP : va_P D vwCl [(md, .inr (6, [.int 0, vm_1, vm_2, vm_3, vm_4, .ref hs, vm_6, vm_7, vm_8, vm_9, vm_10, vm_11, vm_12, vm_13, vm_14, vm_15, vm_16, vm_17, vm_18, vm_19, vm_20, vm_21, vm_22, vm_23])), (hs, .inl (cI, 45, .inl f))] H := hP
  have hD : va_D A [(md, .inr (6, [.int 0, vm_1, vm_2, vm_3, vm_4, .ref hs, vm_6, vm_7, vm_8, vm_9, vm_10, vm_11, vm_12, vm_13, vm_14, vm_15, vm_16, vm_17, vm_18, vm_19, vm_20, vm_21, vm_22, vm_23])), (hs, .inl (cI, 45, .inl f))] := hD
  refine lv_aload_n hx hb dX6_degrees_5 rfl (lv_at hl 0 rfl) ?_
  refine wt_rV (As := []) (rest := []) ⟨hx, hb, hml, hown, hts⟩ (c_X6_isThere l D cI cZ cH md hs R T f (.int 0) vm_1 vm_2 vm_3 vm_4 vm_6 vm_7 vm_8 vm_9 vm_10 vm_11 vm_12 vm_13 vm_14 vm_15 vm_16 vm_17 vm_18 vm_19 vm_20 vm_21 vm_22 vm_23 (by first | assumption | omega) (by first | assumption | omega) (by first | assumption | omega)) (cwV 0 hts gX6_degrees_X6_isThere rfl rfl rfl (by decide +kernel) ⟨Nat.le_of_ble_eq_true rfl, Nat.le_of_ble_eq_true rfl⟩) hK hP [0, 1] rfl (va_recv hK.1 hP (ci := 6) (q0 := 0) rfl rfl) rfl hl.1 rfl (Nat.le_of_ble_eq_true rfl) dX6_degrees_6 ⟨Nat.le_of_ble_eq_true rfl, Nat.le_of_ble_eq_true rfl⟩ (fun r_1 e_2 => ?_)
  subst e_2
  refine lv_if_eq (tgt := 22) hx hb dX6_degrees_9 (by decide) (fun c_3 => ?_) (fun c_3 => ?_)
  · skip
    refine lv_ldc hx hb hown wc189 dX6_degrees_22 ?_
    have hP9 := hP.sub (ws' := [(md, .inr (6, [.int 0, vm_1, vm_2, vm_3, vm_4, .ref hs, vm_6, vm_7, vm_8, vm_9, vm_10, vm_11, vm_12, vm_13, vm_14, vm_15, vm_16, vm_17, vm_18, vm_19, vm_20, vm_21, vm_22, vm_23])), (hs, .inl (cI, 45, .inl f))]) [0, 1] rfl
    have hD9 := hD.sub (ws' := [(md, .inr (6, [.int 0, vm_1, vm_2, vm_3, vm_4, .ref hs, vm_6, vm_7, vm_8, vm_9, vm_10, vm_11, vm_12, vm_13, vm_14, vm_15, vm_16, vm_17, vm_18, vm_19, vm_20, vm_21, vm_22, vm_23])), (hs, .inl (cI, 45, .inl f))]) [0, 1] (by decide) rfl
    exact wt_iret hx hb hr hlocks hP9 hD9 hS rfl dX6_degrees_24
  · skip
    have g_4 : 0 < R := wP_nat (by omega) c_3
    refine lv_aload_n hx hb dX6_degrees_12 rfl (lv_at hl 0 rfl) ?_
    refine va_get (D := D) (ci := 6) (v := .ref hs) (C := RX6) (T := TX6) (N := 24) hx hb hts hi6 hown hK.1 hP 0 rfl rfl 5 (by decide) wf19 (fun _ h9 => h9) rfl dX6_degrees_13 ?_
    refine wt_rS (As := [.ref hs]) (rest := []) ⟨hx, hb, hml, hown, hts⟩ (c_X6_degreesOf l D cI cZ cH hs R T f (by first | assumption | omega) (by first | assumption | omega) (by first | assumption | omega)) (va_cwS 1 hts gX6_degrees_X6_degreesOf rfl rfl rfl (by decide +kernel) ⟨Nat.le_of_ble_eq_true rfl, Nat.le_of_ble_eq_true rfl⟩) hK hP [1] rfl rfl hl.1 rfl (Nat.le_of_ble_eq_true rfl) dX6_degrees_16 ⟨Nat.le_of_ble_eq_true rfl, Nat.le_of_ble_eq_true rfl⟩ (fun r_5 e_6 => ?_)
    refine lv_goto (tgt := 24) hx hb dX6_degrees_19 (by decide) ?_
    have hP9 := hP.sub (ws' := [(md, .inr (6, [.int 0, vm_1, vm_2, vm_3, vm_4, .ref hs, vm_6, vm_7, vm_8, vm_9, vm_10, vm_11, vm_12, vm_13, vm_14, vm_15, vm_16, vm_17, vm_18, vm_19, vm_20, vm_21, vm_22, vm_23])), (hs, .inl (cI, 45, .inl f))]) [0, 1] rfl
    have hD9 := hD.sub (ws' := [(md, .inr (6, [.int 0, vm_1, vm_2, vm_3, vm_4, .ref hs, vm_6, vm_7, vm_8, vm_9, vm_10, vm_11, vm_12, vm_13, vm_14, vm_15, vm_16, vm_17, vm_18, vm_19, vm_20, vm_21, vm_22, vm_23])), (hs, .inl (cI, 45, .inl f))]) [0, 1] (by decide) rfl
    exact wt_iret hx hb hr hlocks hP9 hD9 hS rfl dX6_degrees_24

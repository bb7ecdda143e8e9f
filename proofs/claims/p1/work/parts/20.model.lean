set_option maxHeartbeats 4000000 in
set_option maxRecDepth 100000 in
theorem c_X6_isThere (l : Launch) (D : va_G) (cI cZ cH : ClassId) (md hs : Nat) (m_0 m_1 m_2 m_3 m_4 m_6 m_7 m_8 m_9 m_10 m_11 m_12 m_13 m_14 m_15 m_16 m_17 m_18 m_19 m_20 m_21 m_22 m_23 : Value) : wt_R l yX6_isThere wsX6_isThere ({ frames := 0, cells := 0, slots := 0, locals := 0 } : Room) D (wt_T cI cZ cH) [.ref md] [(md, .inr (6, [m_0, m_1, m_2, m_3, m_4, .ref hs, m_6, m_7, m_8, m_9, m_10, m_11, m_12, m_13, m_14, m_15, m_16, m_17, m_18, m_19, m_20, m_21, m_22, m_23])), (hs, .inl (cI, 45, .inl (fun _ => 0)))] (vp_Si (fun r => r = 0)) := by
  refine wt_R.ofW (cc := cX6_isThere) (maxL := 1) (ret := (some .boolean)) (by decide) rfl (Nat.le_of_ble_eq_true rfl) ?_
  intro p e s m below meth c ls hx hb hr hts hown hlocks hml hP hK hl
  have hown : s.vm.findClass RX6 = some m.cls := hown
  have hl : lv_has ls 1 [(0, .ref md)] := hl
  have hi6 : ∀ w ∈ u_ws RX6 TX6 24, w ∈ wsX6_isThere := by decide +kernel
  have wf19 := hts (.fieldLink RX6 19 "WarmTubesModel" "house" "[I") (by decide +kernel)
  refine lv_aload_n hx hb dX6_isThere_0 rfl (lv_at hl 0 rfl) ?_
  refine va_get (D := D) (ci := 6) (v := .ref hs) (C := RX6) (T := TX6) (N := 24) hx hb hts hi6 hown hK.1 hP 0 rfl rfl 5 (by decide) wf19 (fun _ h9 => h9) rfl dX6_isThere_1 ?_
  refine lv_iconst (v := 0) hx hb dX6_isThere_4 (by decide) ?_
  refine va_iald hx hb hK.1 hP 1 0 rfl rfl (by rw [vp_in_iff]; decide) dX6_isThere_5 ?_
  refine wt_top (z := 0) rfl ?_
  refine lv_if_le (tgt := 13) hx hb dX6_isThere_6 (by decide) (fun _ => ?_) (fun h => absurd h (by decide))
  refine lv_iconst (v := 0) hx hb dX6_isThere_13 (by decide) ?_
  exact wt_szret hx hb hr hlocks (by decide) (by rfl) dX6_isThere_14
set_option maxHeartbeats 4000000 in
set_option maxRecDepth 100000 in
theorem c_X6_isTube (l : Launch) (D : va_G) (cI cZ cH : ClassId) (md hs : Nat) (t : Int32) (m_0 m_1 m_2 m_3 m_4 m_6 m_7 m_8 m_9 m_10 m_11 m_12 m_13 m_14 m_15 m_16 m_17 m_18 m_19 m_20 m_21 m_22 m_23 : Value) : wt_R l yX6_isTube wsX6_isTube ({ frames := 1, cells := 0, slots := 0, locals := 25 } : Room) D (wt_T cI cZ cH) [.ref md, .int t] [(md, .inr (6, [m_0, m_1, m_2, m_3, m_4, .ref hs, m_6, m_7, m_8, m_9, m_10, m_11, m_12, m_13, m_14, m_15, m_16, m_17, m_18, m_19, m_20, m_21, m_22, m_23])), (hs, .inl (cI, 45, .inl (fun _ => 0)))] (vp_Si (fun r => r = 0)) := by
  refine wt_R.ofW (cc := cX6_isTube) (maxL := 2) (ret := (some .boolean)) (by decide) rfl (Nat.le_of_ble_eq_true rfl) ?_
  intro p e s m below meth c ls hx hb hr hts hown hlocks hml hP hK hl
  have hown : s.vm.findClass RX6 = some m.cls := hown
  have hl : lv_has ls 2 [(0, .ref md), (1, .int t)] := hl
  have hi6 : ∀ w ∈ u_ws RX6 TX6 24, w ∈ wsX6_isTube := by decide +kernel
  have wf19 := hts (.fieldLink RX6 19 "WarmTubesModel" "house" "[I") (by decide +kernel)
  refine lv_iload_n hx hb dX6_isTube_0 rfl (lv_at hl 1 rfl) ?_
  refine lv_i2l (v := t.toInt64) hx hb dX6_isTube_1 rfl ?_
  refine lv_lconst (v := 0) hx hb dX6_isTube_2 (by decide) ?_
  refine lv_aload_n hx hb dX6_isTube_3 rfl (lv_at hl 0 rfl) ?_
  refine va_get (D := D) (ci := 6) (v := .ref hs) (C := RX6) (T := TX6) (N := 24) hx hb hts hi6 hown hK.1 hP 0 rfl rfl 5 (by decide) wf19 (fun _ h9 => h9) rfl dX6_isTube_4 ?_
  refine lv_iconst (v := 1) hx hb dX6_isTube_7 (by decide) ?_
  refine va_iald hx hb hK.1 hP 1 0 rfl rfl (by rw [vp_in_iff]; decide) dX6_isTube_8 ?_
  refine wt_top (z := 0) rfl ?_
  refine lv_iconst (v := 1) hx hb dX6_isTube_9 (by decide) ?_
  refine lv_isub hx hb dX6_isTube_10 ?_
  refine wt_top (z := (-1)) (by decide) ?_
  refine lv_i2l (v := (-1)) hx hb dX6_isTube_11 (by decide) ?_
  refine wt_rS (As := [.long t.toInt64, .long 0, .long (-1)]) (rest := []) ⟨hx, hb, hml, hown, hts⟩ (c_X6_in l D cI cZ cH t.toInt64 0 (-1)) (va_cwS 3 hts gX6_isTube_X6_in rfl rfl rfl (by decide +kernel) ⟨Nat.le_of_ble_eq_true rfl, Nat.le_of_ble_eq_true rfl⟩) hK hP [] rfl rfl hl.1 rfl (Nat.le_of_ble_eq_true rfl) dX6_isTube_12 ⟨Nat.le_of_ble_eq_true rfl, Nat.le_of_ble_eq_true rfl⟩ (fun r_1 e_2 => ?_)
  subst e_2
  refine wt_top (z := wI t 0 (-1)) (wL_I' (by decide) (by decide)) ?_
  refine wt_top (z := 0) (wI_m1 _) ?_
  exact wt_szret hx hb hr hlocks (by decide) (by rfl) dX6_isTube_15
set_option maxHeartbeats 4000000 in
set_option maxRecDepth 100000 in
theorem c_X6_isRoom (l : Launch) (D : va_G) (cI cZ cH : ClassId) (md hs : Nat) (t : Int32) (m_0 m_1 m_2 m_3 m_4 m_6 m_7 m_8 m_9 m_10 m_11 m_12 m_13 m_14 m_15 m_16 m_17 m_18 m_19 m_20 m_21 m_22 m_23 : Value) : wt_R l yX6_isRoom wsX6_isRoom ({ frames := 1, cells := 0, slots := 0, locals := 25 } : Room) D (wt_T cI cZ cH) [.ref md, .int t] [(md, .inr (6, [m_0, m_1, m_2, m_3, m_4, .ref hs, m_6, m_7, m_8, m_9, m_10, m_11, m_12, m_13, m_14, m_15, m_16, m_17, m_18, m_19, m_20, m_21, m_22, m_23])), (hs, .inl (cI, 45, .inl (fun _ => 0)))] (vp_Si (fun r => r = 0)) := by
  refine wt_R.ofW (cc := cX6_isRoom) (maxL := 2) (ret := (some .boolean)) (by decide) rfl (Nat.le_of_ble_eq_true rfl) ?_
  intro p e s m below meth c ls hx hb hr hts hown hlocks hml hP hK hl
  have hown : s.vm.findClass RX6 = some m.cls := hown
  have hl : lv_has ls 2 [(0, .ref md), (1, .int t)] := hl
  have hi6 : ∀ w ∈ u_ws RX6 TX6 24, w ∈ wsX6_isRoom := by decide +kernel
  have wf19 := hts (.fieldLink RX6 19 "WarmTubesModel" "house" "[I") (by decide +kernel)
  refine lv_iload_n hx hb dX6_isRoom_0 rfl (lv_at hl 1 rfl) ?_
  refine lv_i2l (v := t.toInt64) hx hb dX6_isRoom_1 rfl ?_
  refine lv_lconst (v := 0) hx hb dX6_isRoom_2 (by decide) ?_
  refine lv_aload_n hx hb dX6_isRoom_3 rfl (lv_at hl 0 rfl) ?_
  refine va_get (D := D) (ci := 6) (v := .ref hs) (C := RX6) (T := TX6) (N := 24) hx hb hts hi6 hown hK.1 hP 0 rfl rfl 5 (by decide) wf19 (fun _ h9 => h9) rfl dX6_isRoom_4 ?_
  refine lv_iconst (v := 0) hx hb dX6_isRoom_7 (by decide) ?_
  refine va_iald hx hb hK.1 hP 1 0 rfl rfl (by rw [vp_in_iff]; decide) dX6_isRoom_8 ?_
  refine wt_top (z := 0) rfl ?_
  refine lv_iconst (v := 1) hx hb dX6_isRoom_9 (by decide) ?_
  refine lv_isub hx hb dX6_isRoom_10 ?_
  refine wt_top (z := (-1)) (by decide) ?_
  refine lv_i2l (v := (-1)) hx hb dX6_isRoom_11 (by decide) ?_
  refine wt_rS (As := [.long t.toInt64, .long 0, .long (-1)]) (rest := []) ⟨hx, hb, hml, hown, hts⟩ (c_X6_in l D cI cZ cH t.toInt64 0 (-1)) (va_cwS 3 hts gX6_isRoom_X6_in rfl rfl rfl (by decide +kernel) ⟨Nat.le_of_ble_eq_true rfl, Nat.le_of_ble_eq_true rfl⟩) hK hP [] rfl rfl hl.1 rfl (Nat.le_of_ble_eq_true rfl) dX6_isRoom_12 ⟨Nat.le_of_ble_eq_true rfl, Nat.le_of_ble_eq_true rfl⟩ (fun r_1 e_2 => ?_)
  subst e_2
  refine wt_top (z := wI t 0 (-1)) (wL_I' (by decide) (by decide)) ?_
  refine wt_top (z := 0) (wI_m1 _) ?_
  exact wt_szret hx hb hr hlocks (by decide) (by rfl) dX6_isRoom_15
set_option maxHeartbeats 4000000 in
set_option maxRecDepth 100000 in
theorem c_X6_isPlace (l : Launch) (D : va_G) (cI cZ cH : ClassId) (md hs : Nat) (t : Int32) (m_0 m_1 m_2 m_3 m_4 m_6 m_7 m_8 m_9 m_10 m_11 m_12 m_13 m_14 m_15 m_16 m_17 m_18 m_19 m_20 m_21 m_22 m_23 : Value) : wt_R l yX6_isPlace wsX6_isPlace ({ frames := 1, cells := 0, slots := 0, locals := 20 } : Room) D (wt_T cI cZ cH) [.ref md, .int t] [(md, .inr (6, [m_0, m_1, m_2, m_3, m_4, .ref hs, m_6, m_7, m_8, m_9, m_10, m_11, m_12, m_13, m_14, m_15, m_16, m_17, m_18, m_19, m_20, m_21, m_22, m_23])), (hs, .inl (cI, 45, .inl (fun _ => 0)))] (vp_Si (fun r => r = 0)) := by
  refine wt_R.ofW (cc := cX6_isPlace) (maxL := 2) (ret := (some .boolean)) (by decide) rfl (Nat.le_of_ble_eq_true rfl) ?_
  intro p e s m below meth c ls hx hb hr hts hown hlocks hml hP hK hl
  have hown : s.vm.findClass RX6 = some m.cls := hown
  have hl : lv_has ls 2 [(0, .ref md), (1, .int t)] := hl
  refine lv_aload_n hx hb dX6_isPlace_0 rfl (lv_at hl 0 rfl) ?_
  refine wt_rV (As := []) (rest := []) ⟨hx, hb, hml, hown, hts⟩ (c_X6_isThere l D cI cZ cH md hs m_0 m_1 m_2 m_3 m_4 m_6 m_7 m_8 m_9 m_10 m_11 m_12 m_13 m_14 m_15 m_16 m_17 m_18 m_19 m_20 m_21 m_22 m_23) (cwV 0 hts gX6_isPlace_X6_isThere rfl rfl rfl (by decide +kernel) ⟨Nat.le_of_ble_eq_true rfl, Nat.le_of_ble_eq_true rfl⟩) hK hP [0, 1] rfl (va_recv hK.1 hP (ci := 6) (q0 := 0) rfl rfl) rfl hl.1 rfl (Nat.le_of_ble_eq_true rfl) dX6_isPlace_1 ⟨Nat.le_of_ble_eq_true rfl, Nat.le_of_ble_eq_true rfl⟩ (fun r_1 e_2 => ?_)
  subst e_2
  refine lv_if_eq (tgt := 27) hx hb dX6_isPlace_4 (by decide) (fun _ => ?_) (fun h => absurd h (by decide))
  refine lv_iconst (v := 0) hx hb dX6_isPlace_27 (by decide) ?_
  exact wt_szret hx hb hr hlocks (by decide) (by rfl) dX6_isPlace_28
set_option maxHeartbeats 4000000 in
set_option maxRecDepth 100000 in
theorem c_X6_carry (l : Launch) (D : va_G) (cI cZ cH : ClassId) (md hs : Nat) (a1 a2 : Int32) (m_0 m_1 m_2 m_3 m_4 m_6 m_7 m_8 m_9 m_10 m_11 m_12 m_13 m_14 m_15 m_16 m_17 m_18 m_19 m_20 m_21 m_22 m_23 : Value) : wt_M l yX6_carry wsX6_carry ({ frames := 2, cells := 0, slots := 0, locals := 46 } : Room) D (wt_T cI cZ cH) [.ref md, .int a1, .int a2] [(md, .inr (6, [m_0, m_1, m_2, m_3, m_4, .ref hs, m_6, m_7, m_8, m_9, m_10, m_11, m_12, m_13, m_14, m_15, m_16, m_17, m_18, m_19, m_20, m_21, m_22, m_23])), (hs, .inl (cI, 45, .inl (fun _ => 0)))] (wt_QI D (fun r w => r = (-1000001))) := by
  refine wt_M.ofW (cc := cX6_carry) (maxL := 4) (ret := (some .int)) (by decide) rfl (Nat.le_of_ble_eq_true rfl) ?_
  intro p e s m below meth c A ls hx hb hr hts hown hlocks hml hnm hP hK hD hA hS hl
  have hP : va_P D vwCl [(md, .inr (6, [m_0, m_1, m_2, m_3, m_4, .ref hs, m_6, m_7, m_8, m_9, m_10, m_11, m_12, m_13, m_14, m_15, m_16, m_17, m_18, m_19, m_20, m_21, m_22, m_23])), (hs, .inl (cI, 45, .inl (fun _ => 0)))] s.heap := hP
  have hown : s.vm.findClass RX6 = some m.cls := hown
  have hl : lv_has ls 4 [(0, .ref md), (1, .int a1), (2, .int a2)] := hl
  have hi6 : ∀ w ∈ u_ws RX6 TX6 24, w ∈ wsX6_carry := by decide +kernel
  have wc67 := hts (.constant RX6 67 (-1000001)) (by decide +kernel)
  have wf47 := hts (.fieldLink RX6 47 "WarmTubesModel" "thrown" "I") (by decide +kernel)
  refine lv_aload_n hx hb dX6_carry_0 rfl (lv_at hl 0 rfl) ?_
  refine lv_iconst (v := 0) hx hb dX6_carry_1 (by decide) ?_
  refine va_put (D := D) (ci := 6) (v := .int 0) (ty := .int) (C := RX6) (T := TX6) (N := 24) hx hb hts hi6 tyX6 tyX6_ok nmX6 hown hK.1 hP hD hS 0 rfl rfl 0 (by decide) wf47 (fun _ h9 => h9) rfl (by decide +kernel) rfl rfl (Nat.le_of_ble_eq_true rfl) dX6_carry_2 (fun H locs hP hD hS => ?_)
  have hP : va_P D vwCl [(md, .inr (6, [.int 0, m_1, m_2, m_3, m_4, .ref hs, m_6, m_7, m_8, m_9, m_10, m_11, m_12, m_13, m_14, m_15, m_16, m_17, m_18, m_19, m_20, m_21, m_22, m_23])), (hs, .inl (cI, 45, .inl (fun _ => 0)))] H := hP
  have hD : va_D A [(md, .inr (6, [.int 0, m_1, m_2, m_3, m_4, .ref hs, m_6, m_7, m_8, m_9, m_10, m_11, m_12, m_13, m_14, m_15, m_16, m_17, m_18, m_19, m_20, m_21, m_22, m_23])), (hs, .inl (cI, 45, .inl (fun _ => 0)))] := hD
  refine lv_aload_n hx hb dX6_carry_5 rfl (lv_at hl 0 rfl) ?_
  refine lv_iload_n hx hb dX6_carry_6 rfl (lv_at hl 1 rfl) ?_
  refine wt_rV (As := [.int a1]) (rest := []) ⟨hx, hb, hml, hown, hts⟩ (c_X6_isTube l D cI cZ cH md hs a1 (.int 0) m_1 m_2 m_3 m_4 m_6 m_7 m_8 m_9 m_10 m_11 m_12 m_13 m_14 m_15 m_16 m_17 m_18 m_19 m_20 m_21 m_22 m_23) (cwV 1 hts gX6_carry_X6_isTube rfl rfl rfl (by decide +kernel) ⟨Nat.le_of_ble_eq_true rfl, Nat.le_of_ble_eq_true rfl⟩) hK hP [0, 1] rfl (va_recv hK.1 hP (ci := 6) (q0 := 0) rfl rfl) rfl hl.1 rfl (Nat.le_of_ble_eq_true rfl) dX6_carry_7 ⟨Nat.le_of_ble_eq_true rfl, Nat.le_of_ble_eq_true rfl⟩ (fun r_1 e_2 => ?_)
  subst e_2
  refine lv_if_eq (tgt := 21) hx hb dX6_carry_10 (by decide) (fun _ => ?_) (fun h => absurd h (by decide))
  refine lv_ldc hx hb hown wc67 dX6_carry_21 ?_
  exact wt_iret hx hb hr hlocks hP hD hS (by rfl) dX6_carry_23
set_option maxHeartbeats 4000000 in
set_option maxRecDepth 100000 in
theorem c_X6_shake (l : Launch) (D : va_G) (cI cZ cH : ClassId) (md hs : Nat) (a1 : Int32) (m_0 m_1 m_2 m_3 m_4 m_6 m_7 m_8 m_9 m_10 m_11 m_12 m_13 m_14 m_15 m_16 m_17 m_18 m_19 m_20 m_21 m_22 m_23 : Value) : wt_M l yX6_shake wsX6_shake ({ frames := 2, cells := 0, slots := 0, locals := 46 } : Room) D (wt_T cI cZ cH) [.ref md, .int a1] [(md, .inr (6, [m_0, m_1, m_2, m_3, m_4, .ref hs, m_6, m_7, m_8, m_9, m_10, m_11, m_12, m_13, m_14, m_15, m_16, m_17, m_18, m_19, m_20, m_21, m_22, m_23])), (hs, .inl (cI, 45, .inl (fun _ => 0)))] (wt_QI D (fun r w => r = (-1000001))) := by
  refine wt_M.ofW (cc := cX6_shake) (maxL := 2) (ret := (some .int)) (by decide) rfl (Nat.le_of_ble_eq_true rfl) ?_
  intro p e s m below meth c A ls hx hb hr hts hown hlocks hml hnm hP hK hD hA hS hl
  have hP : va_P D vwCl [(md, .inr (6, [m_0, m_1, m_2, m_3, m_4, .ref hs, m_6, m_7, m_8, m_9, m_10, m_11, m_12, m_13, m_14, m_15, m_16, m_17, m_18, m_19, m_20, m_21, m_22, m_23])), (hs, .inl (cI, 45, .inl (fun _ => 0)))] s.heap := hP
  have hown : s.vm.findClass RX6 = some m.cls := hown
  have hl : lv_has ls 2 [(0, .ref md), (1, .int a1)] := hl
  have hi6 : ∀ w ∈ u_ws RX6 TX6 24, w ∈ wsX6_shake := by decide +kernel
  have wc67 := hts (.constant RX6 67 (-1000001)) (by decide +kernel)
  have wf47 := hts (.fieldLink RX6 47 "WarmTubesModel" "thrown" "I") (by decide +kernel)
  refine lv_aload_n hx hb dX6_shake_0 rfl (lv_at hl 0 rfl) ?_
  refine lv_iconst (v := 0) hx hb dX6_shake_1 (by decide) ?_
  refine va_put (D := D) (ci := 6) (v := .int 0) (ty := .int) (C := RX6) (T := TX6) (N := 24) hx hb hts hi6 tyX6 tyX6_ok nmX6 hown hK.1 hP hD hS 0 rfl rfl 0 (by decide) wf47 (fun _ h9 => h9) rfl (by decide +kernel) rfl rfl (Nat.le_of_ble_eq_true rfl) dX6_shake_2 (fun H locs hP hD hS => ?_)
  have hP : va_P D vwCl [(md, .inr (6, [.int 0, m_1, m_2, m_3, m_4, .ref hs, m_6, m_7, m_8, m_9, m_10, m_11, m_12, m_13, m_14, m_15, m_16, m_17, m_18, m_19, m_20, m_21, m_22, m_23])), (hs, .inl (cI, 45, .inl (fun _ => 0)))] H := hP
  have hD : va_D A [(md, .inr (6, [.int 0, m_1, m_2, m_3, m_4, .ref hs, m_6, m_7, m_8, m_9, m_10, m_11, m_12, m_13, m_14, m_15, m_16, m_17, m_18, m_19, m_20, m_21, m_22, m_23])), (hs, .inl (cI, 45, .inl (fun _ => 0)))] := hD
  refine lv_aload_n hx hb dX6_shake_5 rfl (lv_at hl 0 rfl) ?_
  refine lv_iload_n hx hb dX6_shake_6 rfl (lv_at hl 1 rfl) ?_
  refine wt_rV (As := [.int a1]) (rest := []) ⟨hx, hb, hml, hown, hts⟩ (c_X6_isTube l D cI cZ cH md hs a1 (.int 0) m_1 m_2 m_3 m_4 m_6 m_7 m_8 m_9 m_10 m_11 m_12 m_13 m_14 m_15 m_16 m_17 m_18 m_19 m_20 m_21 m_22 m_23) (cwV 1 hts gX6_shake_X6_isTube rfl rfl rfl (by decide +kernel) ⟨Nat.le_of_ble_eq_true rfl, Nat.le_of_ble_eq_true rfl⟩) hK hP [0, 1] rfl (va_recv hK.1 hP (ci := 6) (q0 := 0) rfl rfl) rfl hl.1 rfl (Nat.le_of_ble_eq_true rfl) dX6_shake_7 ⟨Nat.le_of_ble_eq_true rfl, Nat.le_of_ble_eq_true rfl⟩ (fun r_1 e_2 => ?_)
  subst e_2
  refine lv_if_ne (tgt := 16) hx hb dX6_shake_10 (by decide) (fun h => absurd h (by decide)) (fun _ => ?_)
  refine lv_ldc hx hb hown wc67 dX6_shake_13 ?_
  exact wt_iret hx hb hr hlocks hP hD hS (by rfl) dX6_shake_15
set_option maxHeartbeats 4000000 in
set_option maxRecDepth 100000 in
theorem c_X6_pour (l : Launch) (D : va_G) (cI cZ cH : ClassId) (md hs : Nat) (a1 a2 : Int32) (m_0 m_1 m_2 m_3 m_4 m_6 m_7 m_8 m_9 m_10 m_11 m_12 m_13 m_14 m_15 m_16 m_17 m_18 m_19 m_20 m_21 m_22 m_23 : Value) : wt_M l yX6_pour wsX6_pour ({ frames := 2, cells := 0, slots := 0, locals := 46 } : Room) D (wt_T cI cZ cH) [.ref md, .int a1, .int a2] [(md, .inr (6, [m_0, m_1, m_2, m_3, m_4, .ref hs, m_6, m_7, m_8, m_9, m_10, m_11, m_12, m_13, m_14, m_15, m_16, m_17, m_18, m_19, m_20, m_21, m_22, m_23])), (hs, .inl (cI, 45, .inl (fun _ => 0)))] (wt_QI D (fun r w => r = (-1000001))) := by
  refine wt_M.ofW (cc := cX6_pour) (maxL := 3) (ret := (some .int)) (by decide) rfl (Nat.le_of_ble_eq_true rfl) ?_
  intro p e s m below meth c A ls hx hb hr hts hown hlocks hml hnm hP hK hD hA hS hl
  have hP : va_P D vwCl [(md, .inr (6, [m_0, m_1, m_2, m_3, m_4, .ref hs, m_6, m_7, m_8, m_9, m_10, m_11, m_12, m_13, m_14, m_15, m_16, m_17, m_18, m_19, m_20, m_21, m_22, m_23])), (hs, .inl (cI, 45, .inl (fun _ => 0)))] s.heap := hP
  have hown : s.vm.findClass RX6 = some m.cls := hown
  have hl : lv_has ls 3 [(0, .ref md), (1, .int a1), (2, .int a2)] := hl
  have hi6 : ∀ w ∈ u_ws RX6 TX6 24, w ∈ wsX6_pour := by decide +kernel
  have wc67 := hts (.constant RX6 67 (-1000001)) (by decide +kernel)
  have wf47 := hts (.fieldLink RX6 47 "WarmTubesModel" "thrown" "I") (by decide +kernel)
  refine lv_aload_n hx hb dX6_pour_0 rfl (lv_at hl 0 rfl) ?_
  refine lv_iconst (v := 0) hx hb dX6_pour_1 (by decide) ?_
  refine va_put (D := D) (ci := 6) (v := .int 0) (ty := .int) (C := RX6) (T := TX6) (N := 24) hx hb hts hi6 tyX6 tyX6_ok nmX6 hown hK.1 hP hD hS 0 rfl rfl 0 (by decide) wf47 (fun _ h9 => h9) rfl (by decide +kernel) rfl rfl (Nat.le_of_ble_eq_true rfl) dX6_pour_2 (fun H locs hP hD hS => ?_)
  have hP : va_P D vwCl [(md, .inr (6, [.int 0, m_1, m_2, m_3, m_4, .ref hs, m_6, m_7, m_8, m_9, m_10, m_11, m_12, m_13, m_14, m_15, m_16, m_17, m_18, m_19, m_20, m_21, m_22, m_23])), (hs, .inl (cI, 45, .inl (fun _ => 0)))] H := hP
  have hD : va_D A [(md, .inr (6, [.int 0, m_1, m_2, m_3, m_4, .ref hs, m_6, m_7, m_8, m_9, m_10, m_11, m_12, m_13, m_14, m_15, m_16, m_17, m_18, m_19, m_20, m_21, m_22, m_23])), (hs, .inl (cI, 45, .inl (fun _ => 0)))] := hD
  refine lv_aload_n hx hb dX6_pour_5 rfl (lv_at hl 0 rfl) ?_
  refine lv_iload_n hx hb dX6_pour_6 rfl (lv_at hl 1 rfl) ?_
  refine wt_rV (As := [.int a1]) (rest := []) ⟨hx, hb, hml, hown, hts⟩ (c_X6_isTube l D cI cZ cH md hs a1 (.int 0) m_1 m_2 m_3 m_4 m_6 m_7 m_8 m_9 m_10 m_11 m_12 m_13 m_14 m_15 m_16 m_17 m_18 m_19 m_20 m_21 m_22 m_23) (cwV 1 hts gX6_pour_X6_isTube rfl rfl rfl (by decide +kernel) ⟨Nat.le_of_ble_eq_true rfl, Nat.le_of_ble_eq_true rfl⟩) hK hP [0, 1] rfl (va_recv hK.1 hP (ci := 6) (q0 := 0) rfl rfl) rfl hl.1 rfl (Nat.le_of_ble_eq_true rfl) dX6_pour_7 ⟨Nat.le_of_ble_eq_true rfl, Nat.le_of_ble_eq_true rfl⟩ (fun r_1 e_2 => ?_)
  subst e_2
  refine lv_if_eq (tgt := 26) hx hb dX6_pour_10 (by decide) (fun _ => ?_) (fun h => absurd h (by decide))
  refine lv_ldc hx hb hown wc67 dX6_pour_26 ?_
  exact wt_iret hx hb hr hlocks hP hD hS (by rfl) dX6_pour_28
set_option maxHeartbeats 4000000 in
set_option maxRecDepth 100000 in
theorem c_X6_tube (l : Launch) (D : va_G) (cI cZ cH : ClassId) (md hs : Nat) (a1 a2 : Int32) (m_0 m_1 m_2 m_3 m_4 m_6 m_7 m_8 m_9 m_10 m_11 m_12 m_13 m_14 m_15 m_16 m_17 m_18 m_19 m_20 m_21 m_22 m_23 : Value) : wt_M l yX6_tube wsX6_tube ({ frames := 2, cells := 0, slots := 0, locals := 46 } : Room) D (wt_T cI cZ cH) [.ref md, .int a1, .int a2] [(md, .inr (6, [m_0, m_1, m_2, m_3, m_4, .ref hs, m_6, m_7, m_8, m_9, m_10, m_11, m_12, m_13, m_14, m_15, m_16, m_17, m_18, m_19, m_20, m_21, m_22, m_23])), (hs, .inl (cI, 45, .inl (fun _ => 0)))] (wt_QI D (fun r w => r = (-1000001))) := by
  refine wt_M.ofW (cc := cX6_tube) (maxL := 3) (ret := (some .int)) (by decide) rfl (Nat.le_of_ble_eq_true rfl) ?_
  intro p e s m below meth c A ls hx hb hr hts hown hlocks hml hnm hP hK hD hA hS hl
  have hP : va_P D vwCl [(md, .inr (6, [m_0, m_1, m_2, m_3, m_4, .ref hs, m_6, m_7, m_8, m_9, m_10, m_11, m_12, m_13, m_14, m_15, m_16, m_17, m_18, m_19, m_20, m_21, m_22, m_23])), (hs, .inl (cI, 45, .inl (fun _ => 0)))] s.heap := hP
  have hown : s.vm.findClass RX6 = some m.cls := hown
  have hl : lv_has ls 3 [(0, .ref md), (1, .int a1), (2, .int a2)] := hl
  have hi6 : ∀ w ∈ u_ws RX6 TX6 24, w ∈ wsX6_tube := by decide +kernel
  have wc67 := hts (.constant RX6 67 (-1000001)) (by decide +kernel)
  have wf47 := hts (.fieldLink RX6 47 "WarmTubesModel" "thrown" "I") (by decide +kernel)
  refine lv_aload_n hx hb dX6_tube_0 rfl (lv_at hl 0 rfl) ?_
  refine lv_iconst (v := 0) hx hb dX6_tube_1 (by decide) ?_
  refine va_put (D := D) (ci := 6) (v := .int 0) (ty := .int) (C := RX6) (T := TX6) (N := 24) hx hb hts hi6 tyX6 tyX6_ok nmX6 hown hK.1 hP hD hS 0 rfl rfl 0 (by decide) wf47 (fun _ h9 => h9) rfl (by decide +kernel) rfl rfl (Nat.le_of_ble_eq_true rfl) dX6_tube_2 (fun H locs hP hD hS => ?_)
  have hP : va_P D vwCl [(md, .inr (6, [.int 0, m_1, m_2, m_3, m_4, .ref hs, m_6, m_7, m_8, m_9, m_10, m_11, m_12, m_13, m_14, m_15, m_16, m_17, m_18, m_19, m_20, m_21, m_22, m_23])), (hs, .inl (cI, 45, .inl (fun _ => 0)))] H := hP
  have hD : va_D A [(md, .inr (6, [.int 0, m_1, m_2, m_3, m_4, .ref hs, m_6, m_7, m_8, m_9, m_10, m_11, m_12, m_13, m_14, m_15, m_16, m_17, m_18, m_19, m_20, m_21, m_22, m_23])), (hs, .inl (cI, 45, .inl (fun _ => 0)))] := hD
  refine lv_aload_n hx hb dX6_tube_5 rfl (lv_at hl 0 rfl) ?_
  refine lv_iload_n hx hb dX6_tube_6 rfl (lv_at hl 1 rfl) ?_
  refine wt_rV (As := [.int a1]) (rest := []) ⟨hx, hb, hml, hown, hts⟩ (c_X6_isTube l D cI cZ cH md hs a1 (.int 0) m_1 m_2 m_3 m_4 m_6 m_7 m_8 m_9 m_10 m_11 m_12 m_13 m_14 m_15 m_16 m_17 m_18 m_19 m_20 m_21 m_22 m_23) (cwV 1 hts gX6_tube_X6_isTube rfl rfl rfl (by decide +kernel) ⟨Nat.le_of_ble_eq_true rfl, Nat.le_of_ble_eq_true rfl⟩) hK hP [0, 1] rfl (va_recv hK.1 hP (ci := 6) (q0 := 0) rfl rfl) rfl hl.1 rfl (Nat.le_of_ble_eq_true rfl) dX6_tube_7 ⟨Nat.le_of_ble_eq_true rfl, Nat.le_of_ble_eq_true rfl⟩ (fun r_1 e_2 => ?_)
  subst e_2
  refine lv_if_eq (tgt := 25) hx hb dX6_tube_10 (by decide) (fun _ => ?_) (fun h => absurd h (by decide))
  refine lv_ldc hx hb hown wc67 dX6_tube_25 ?_
  exact wt_iret hx hb hr hlocks hP hD hS (by rfl) dX6_tube_27
set_option maxHeartbeats 4000000 in
set_option maxRecDepth 100000 in
theorem c_X6_upAhead (l : Launch) (D : va_G) (cI cZ cH : ClassId) (md hs : Nat) (a1 a2 : Int32) (m_0 m_1 m_2 m_3 m_4 m_6 m_7 m_8 m_9 m_10 m_11 m_12 m_13 m_14 m_15 m_16 m_17 m_18 m_19 m_20 m_21 m_22 m_23 : Value) : wt_M l yX6_upAhead wsX6_upAhead ({ frames := 2, cells := 0, slots := 0, locals := 46 } : Room) D (wt_T cI cZ cH) [.ref md, .int a1, .int a2] [(md, .inr (6, [m_0, m_1, m_2, m_3, m_4, .ref hs, m_6, m_7, m_8, m_9, m_10, m_11, m_12, m_13, m_14, m_15, m_16, m_17, m_18, m_19, m_20, m_21, m_22, m_23])), (hs, .inl (cI, 45, .inl (fun _ => 0)))] (wt_QI D (fun r w => r = (-1000001))) := by
  refine wt_M.ofW (cc := cX6_upAhead) (maxL := 3) (ret := (some .int)) (by decide) rfl (Nat.le_of_ble_eq_true rfl) ?_
  intro p e s m below meth c A ls hx hb hr hts hown hlocks hml hnm hP hK hD hA hS hl
  have hP : va_P D vwCl [(md, .inr (6, [m_0, m_1, m_2, m_3, m_4, .ref hs, m_6, m_7, m_8, m_9, m_10, m_11, m_12, m_13, m_14, m_15, m_16, m_17, m_18, m_19, m_20, m_21, m_22, m_23])), (hs, .inl (cI, 45, .inl (fun _ => 0)))] s.heap := hP
  have hown : s.vm.findClass RX6 = some m.cls := hown
  have hl : lv_has ls 3 [(0, .ref md), (1, .int a1), (2, .int a2)] := hl
  have hi6 : ∀ w ∈ u_ws RX6 TX6 24, w ∈ wsX6_upAhead := by decide +kernel
  have wc67 := hts (.constant RX6 67 (-1000001)) (by decide +kernel)
  have wf47 := hts (.fieldLink RX6 47 "WarmTubesModel" "thrown" "I") (by decide +kernel)
  refine lv_aload_n hx hb dX6_upAhead_0 rfl (lv_at hl 0 rfl) ?_
  refine lv_iconst (v := 0) hx hb dX6_upAhead_1 (by decide) ?_
  refine va_put (D := D) (ci := 6) (v := .int 0) (ty := .int) (C := RX6) (T := TX6) (N := 24) hx hb hts hi6 tyX6 tyX6_ok nmX6 hown hK.1 hP hD hS 0 rfl rfl 0 (by decide) wf47 (fun _ h9 => h9) rfl (by decide +kernel) rfl rfl (Nat.le_of_ble_eq_true rfl) dX6_upAhead_2 (fun H locs hP hD hS => ?_)
  have hP : va_P D vwCl [(md, .inr (6, [.int 0, m_1, m_2, m_3, m_4, .ref hs, m_6, m_7, m_8, m_9, m_10, m_11, m_12, m_13, m_14, m_15, m_16, m_17, m_18, m_19, m_20, m_21, m_22, m_23])), (hs, .inl (cI, 45, .inl (fun _ => 0)))] H := hP
  have hD : va_D A [(md, .inr (6, [.int 0, m_1, m_2, m_3, m_4, .ref hs, m_6, m_7, m_8, m_9, m_10, m_11, m_12, m_13, m_14, m_15, m_16, m_17, m_18, m_19, m_20, m_21, m_22, m_23])), (hs, .inl (cI, 45, .inl (fun _ => 0)))] := hD
  refine lv_aload_n hx hb dX6_upAhead_5 rfl (lv_at hl 0 rfl) ?_
  refine lv_iload_n hx hb dX6_upAhead_6 rfl (lv_at hl 1 rfl) ?_
  refine wt_rV (As := [.int a1]) (rest := []) ⟨hx, hb, hml, hown, hts⟩ (c_X6_isTube l D cI cZ cH md hs a1 (.int 0) m_1 m_2 m_3 m_4 m_6 m_7 m_8 m_9 m_10 m_11 m_12 m_13 m_14 m_15 m_16 m_17 m_18 m_19 m_20 m_21 m_22 m_23) (cwV 1 hts gX6_upAhead_X6_isTube rfl rfl rfl (by decide +kernel) ⟨Nat.le_of_ble_eq_true rfl, Nat.le_of_ble_eq_true rfl⟩) hK hP [0, 1] rfl (va_recv hK.1 hP (ci := 6) (q0 := 0) rfl rfl) rfl hl.1 rfl (Nat.le_of_ble_eq_true rfl) dX6_upAhead_7 ⟨Nat.le_of_ble_eq_true rfl, Nat.le_of_ble_eq_true rfl⟩ (fun r_1 e_2 => ?_)
  subst e_2
  refine lv_if_eq (tgt := 25) hx hb dX6_upAhead_10 (by decide) (fun _ => ?_) (fun h => absurd h (by decide))
  refine lv_ldc hx hb hown wc67 dX6_upAhead_25 ?_
  exact wt_iret hx hb hr hlocks hP hD hS (by rfl) dX6_upAhead_27
set_option maxHeartbeats 4000000 in
set_option maxRecDepth 100000 in
theorem c_X6_filled (l : Launch) (D : va_G) (cI cZ cH : ClassId) (md hs : Nat) (a1 : Int32) (m_0 m_1 m_2 m_3 m_4 m_6 m_7 m_8 m_9 m_10 m_11 m_12 m_13 m_14 m_15 m_16 m_17 m_18 m_19 m_20 m_21 m_22 m_23 : Value) : wt_M l yX6_filled wsX6_filled ({ frames := 2, cells := 0, slots := 0, locals := 46 } : Room) D (wt_T cI cZ cH) [.ref md, .int a1] [(md, .inr (6, [m_0, m_1, m_2, m_3, m_4, .ref hs, m_6, m_7, m_8, m_9, m_10, m_11, m_12, m_13, m_14, m_15, m_16, m_17, m_18, m_19, m_20, m_21, m_22, m_23])), (hs, .inl (cI, 45, .inl (fun _ => 0)))] (wt_QI D (fun r w => r = (-1000001))) := by
  refine wt_M.ofW (cc := cX6_filled) (maxL := 3) (ret := (some .int)) (by decide) rfl (Nat.le_of_ble_eq_true rfl) ?_
  intro p e s m below meth c A ls hx hb hr hts hown hlocks hml hnm hP hK hD hA hS hl
  have hP : va_P D vwCl [(md, .inr (6, [m_0, m_1, m_2, m_3, m_4, .ref hs, m_6, m_7, m_8, m_9, m_10, m_11, m_12, m_13, m_14, m_15, m_16, m_17, m_18, m_19, m_20, m_21, m_22, m_23])), (hs, .inl (cI, 45, .inl (fun _ => 0)))] s.heap := hP
  have hown : s.vm.findClass RX6 = some m.cls := hown
  have hl : lv_has ls 3 [(0, .ref md), (1, .int a1)] := hl
  have hi6 : ∀ w ∈ u_ws RX6 TX6 24, w ∈ wsX6_filled := by decide +kernel
  have wc67 := hts (.constant RX6 67 (-1000001)) (by decide +kernel)
  have wf47 := hts (.fieldLink RX6 47 "WarmTubesModel" "thrown" "I") (by decide +kernel)
  refine lv_aload_n hx hb dX6_filled_0 rfl (lv_at hl 0 rfl) ?_
  refine lv_iconst (v := 0) hx hb dX6_filled_1 (by decide) ?_
  refine va_put (D := D) (ci := 6) (v := .int 0) (ty := .int) (C := RX6) (T := TX6) (N := 24) hx hb hts hi6 tyX6 tyX6_ok nmX6 hown hK.1 hP hD hS 0 rfl rfl 0 (by decide) wf47 (fun _ h9 => h9) rfl (by decide +kernel) rfl rfl (Nat.le_of_ble_eq_true rfl) dX6_filled_2 (fun H locs hP hD hS => ?_)
  have hP : va_P D vwCl [(md, .inr (6, [.int 0, m_1, m_2, m_3, m_4, .ref hs, m_6, m_7, m_8, m_9, m_10, m_11, m_12, m_13, m_14, m_15, m_16, m_17, m_18, m_19, m_20, m_21, m_22, m_23])), (hs, .inl (cI, 45, .inl (fun _ => 0)))] H := hP
  have hD : va_D A [(md, .inr (6, [.int 0, m_1, m_2, m_3, m_4, .ref hs, m_6, m_7, m_8, m_9, m_10, m_11, m_12, m_13, m_14, m_15, m_16, m_17, m_18, m_19, m_20, m_21, m_22, m_23])), (hs, .inl (cI, 45, .inl (fun _ => 0)))] := hD
  refine lv_aload_n hx hb dX6_filled_5 rfl (lv_at hl 0 rfl) ?_
  refine lv_iload_n hx hb dX6_filled_6 rfl (lv_at hl 1 rfl) ?_
  refine wt_rV (As := [.int a1]) (rest := []) ⟨hx, hb, hml, hown, hts⟩ (c_X6_isTube l D cI cZ cH md hs a1 (.int 0) m_1 m_2 m_3 m_4 m_6 m_7 m_8 m_9 m_10 m_11 m_12 m_13 m_14 m_15 m_16 m_17 m_18 m_19 m_20 m_21 m_22 m_23) (cwV 1 hts gX6_filled_X6_isTube rfl rfl rfl (by decide +kernel) ⟨Nat.le_of_ble_eq_true rfl, Nat.le_of_ble_eq_true rfl⟩) hK hP [0, 1] rfl (va_recv hK.1 hP (ci := 6) (q0 := 0) rfl rfl) rfl hl.1 rfl (Nat.le_of_ble_eq_true rfl) dX6_filled_7 ⟨Nat.le_of_ble_eq_true rfl, Nat.le_of_ble_eq_true rfl⟩ (fun r_1 e_2 => ?_)
  subst e_2
  refine lv_if_ne (tgt := 16) hx hb dX6_filled_10 (by decide) (fun h => absurd h (by decide)) (fun _ => ?_)
  refine lv_ldc hx hb hown wc67 dX6_filled_13 ?_
  exact wt_iret hx hb hr hlocks hP hD hS (by rfl) dX6_filled_15
set_option maxHeartbeats 4000000 in
set_option maxRecDepth 100000 in
theorem c_X6_hang (l : Launch) (D : va_G) (cI cZ cH : ClassId) (md hs : Nat) (a1 a2 a3 : Int32) (m_0 m_1 m_2 m_3 m_4 m_6 m_7 m_8 m_9 m_10 m_11 m_12 m_13 m_14 m_15 m_16 m_17 m_18 m_19 m_20 m_21 m_22 m_23 : Value) : wt_M l yX6_hang wsX6_hang ({ frames := 2, cells := 0, slots := 0, locals := 46 } : Room) D (wt_T cI cZ cH) [.ref md, .int a1, .int a2, .int a3] [(md, .inr (6, [m_0, m_1, m_2, m_3, m_4, .ref hs, m_6, m_7, m_8, m_9, m_10, m_11, m_12, m_13, m_14, m_15, m_16, m_17, m_18, m_19, m_20, m_21, m_22, m_23])), (hs, .inl (cI, 45, .inl (fun _ => 0)))] (wt_QI D (fun r w => r = (-1000001))) := by
  refine wt_M.ofW (cc := cX6_hang) (maxL := 8) (ret := (some .int)) (by decide) rfl (Nat.le_of_ble_eq_true rfl) ?_
  intro p e s m below meth c A ls hx hb hr hts hown hlocks hml hnm hP hK hD hA hS hl
  have hP : va_P D vwCl [(md, .inr (6, [m_0, m_1, m_2, m_3, m_4, .ref hs, m_6, m_7, m_8, m_9, m_10, m_11, m_12, m_13, m_14, m_15, m_16, m_17, m_18, m_19, m_20, m_21, m_22, m_23])), (hs, .inl (cI, 45, .inl (fun _ => 0)))] s.heap := hP
  have hown : s.vm.findClass RX6 = some m.cls := hown
  have hl : lv_has ls 8 [(0, .ref md), (1, .int a1), (2, .int a2), (3, .int a3)] := hl
  have hi6 : ∀ w ∈ u_ws RX6 TX6 24, w ∈ wsX6_hang := by decide +kernel
  have wc67 := hts (.constant RX6 67 (-1000001)) (by decide +kernel)
  have wf47 := hts (.fieldLink RX6 47 "WarmTubesModel" "thrown" "I") (by decide +kernel)
  refine lv_aload_n hx hb dX6_hang_0 rfl (lv_at hl 0 rfl) ?_
  refine lv_iconst (v := 0) hx hb dX6_hang_1 (by decide) ?_
  refine va_put (D := D) (ci := 6) (v := .int 0) (ty := .int) (C := RX6) (T := TX6) (N := 24) hx hb hts hi6 tyX6 tyX6_ok nmX6 hown hK.1 hP hD hS 0 rfl rfl 0 (by decide) wf47 (fun _ h9 => h9) rfl (by decide +kernel) rfl rfl (Nat.le_of_ble_eq_true rfl) dX6_hang_2 (fun H locs hP hD hS => ?_)
  have hP : va_P D vwCl [(md, .inr (6, [.int 0, m_1, m_2, m_3, m_4, .ref hs, m_6, m_7, m_8, m_9, m_10, m_11, m_12, m_13, m_14, m_15, m_16, m_17, m_18, m_19, m_20, m_21, m_22, m_23])), (hs, .inl (cI, 45, .inl (fun _ => 0)))] H := hP
  have hD : va_D A [(md, .inr (6, [.int 0, m_1, m_2, m_3, m_4, .ref hs, m_6, m_7, m_8, m_9, m_10, m_11, m_12, m_13, m_14, m_15, m_16, m_17, m_18, m_19, m_20, m_21, m_22, m_23])), (hs, .inl (cI, 45, .inl (fun _ => 0)))] := hD
  refine lv_aload_n hx hb dX6_hang_5 rfl (lv_at hl 0 rfl) ?_
  refine lv_iload_n hx hb dX6_hang_6 rfl (lv_at hl 1 rfl) ?_
  refine wt_rV (As := [.int a1]) (rest := []) ⟨hx, hb, hml, hown, hts⟩ (c_X6_isTube l D cI cZ cH md hs a1 (.int 0) m_1 m_2 m_3 m_4 m_6 m_7 m_8 m_9 m_10 m_11 m_12 m_13 m_14 m_15 m_16 m_17 m_18 m_19 m_20 m_21 m_22 m_23) (cwV 1 hts gX6_hang_X6_isTube rfl rfl rfl (by decide +kernel) ⟨Nat.le_of_ble_eq_true rfl, Nat.le_of_ble_eq_true rfl⟩) hK hP [0, 1] rfl (va_recv hK.1 hP (ci := 6) (q0 := 0) rfl rfl) rfl hl.1 rfl (Nat.le_of_ble_eq_true rfl) dX6_hang_7 ⟨Nat.le_of_ble_eq_true rfl, Nat.le_of_ble_eq_true rfl⟩ (fun r_1 e_2 => ?_)
  subst e_2
  refine lv_if_eq (tgt := 35) hx hb dX6_hang_10 (by decide) (fun _ => ?_) (fun h => absurd h (by decide))
  refine lv_ldc hx hb hown wc67 dX6_hang_35 ?_
  exact wt_iret hx hb hr hlocks hP hD hS (by rfl) dX6_hang_37
set_option maxHeartbeats 4000000 in
set_option maxRecDepth 100000 in
theorem c_X6_pours (l : Launch) (D : va_G) (cI cZ cH : ClassId) (md hs : Nat) (a1 a2 a3 : Int32) (m_0 m_1 m_2 m_3 m_4 m_6 m_7 m_8 m_9 m_10 m_11 m_12 m_13 m_14 m_15 m_16 m_17 m_18 m_19 m_20 m_21 m_22 m_23 : Value) : wt_M l yX6_pours wsX6_pours ({ frames := 2, cells := 0, slots := 0, locals := 46 } : Room) D (wt_T cI cZ cH) [.ref md, .int a1, .int a2, .int a3] [(md, .inr (6, [m_0, m_1, m_2, m_3, m_4, .ref hs, m_6, m_7, m_8, m_9, m_10, m_11, m_12, m_13, m_14, m_15, m_16, m_17, m_18, m_19, m_20, m_21, m_22, m_23])), (hs, .inl (cI, 45, .inl (fun _ => 0)))] (wt_QI D (fun r w => r = (-1000001))) := by
  refine wt_M.ofW (cc := cX6_pours) (maxL := 9) (ret := (some .int)) (by decide) rfl (Nat.le_of_ble_eq_true rfl) ?_
  intro p e s m below meth c A ls hx hb hr hts hown hlocks hml hnm hP hK hD hA hS hl
  have hP : va_P D vwCl [(md, .inr (6, [m_0, m_1, m_2, m_3, m_4, .ref hs, m_6, m_7, m_8, m_9, m_10, m_11, m_12, m_13, m_14, m_15, m_16, m_17, m_18, m_19, m_20, m_21, m_22, m_23])), (hs, .inl (cI, 45, .inl (fun _ => 0)))] s.heap := hP
  have hown : s.vm.findClass RX6 = some m.cls := hown
  have hl : lv_has ls 9 [(0, .ref md), (1, .int a1), (2, .int a2), (3, .int a3)] := hl
  have hi6 : ∀ w ∈ u_ws RX6 TX6 24, w ∈ wsX6_pours := by decide +kernel
  have wc67 := hts (.constant RX6 67 (-1000001)) (by decide +kernel)
  have wf47 := hts (.fieldLink RX6 47 "WarmTubesModel" "thrown" "I") (by decide +kernel)
  refine lv_aload_n hx hb dX6_pours_0 rfl (lv_at hl 0 rfl) ?_
  refine lv_iconst (v := 0) hx hb dX6_pours_1 (by decide) ?_
  refine va_put (D := D) (ci := 6) (v := .int 0) (ty := .int) (C := RX6) (T := TX6) (N := 24) hx hb hts hi6 tyX6 tyX6_ok nmX6 hown hK.1 hP hD hS 0 rfl rfl 0 (by decide) wf47 (fun _ h9 => h9) rfl (by decide +kernel) rfl rfl (Nat.le_of_ble_eq_true rfl) dX6_pours_2 (fun H locs hP hD hS => ?_)
  have hP : va_P D vwCl [(md, .inr (6, [.int 0, m_1, m_2, m_3, m_4, .ref hs, m_6, m_7, m_8, m_9, m_10, m_11, m_12, m_13, m_14, m_15, m_16, m_17, m_18, m_19, m_20, m_21, m_22, m_23])), (hs, .inl (cI, 45, .inl (fun _ => 0)))] H := hP
  have hD : va_D A [(md, .inr (6, [.int 0, m_1, m_2, m_3, m_4, .ref hs, m_6, m_7, m_8, m_9, m_10, m_11, m_12, m_13, m_14, m_15, m_16, m_17, m_18, m_19, m_20, m_21, m_22, m_23])), (hs, .inl (cI, 45, .inl (fun _ => 0)))] := hD
  refine lv_aload_n hx hb dX6_pours_5 rfl (lv_at hl 0 rfl) ?_
  refine lv_iload_n hx hb dX6_pours_6 rfl (lv_at hl 1 rfl) ?_
  refine wt_rV (As := [.int a1]) (rest := []) ⟨hx, hb, hml, hown, hts⟩ (c_X6_isTube l D cI cZ cH md hs a1 (.int 0) m_1 m_2 m_3 m_4 m_6 m_7 m_8 m_9 m_10 m_11 m_12 m_13 m_14 m_15 m_16 m_17 m_18 m_19 m_20 m_21 m_22 m_23) (cwV 1 hts gX6_pours_X6_isTube rfl rfl rfl (by decide +kernel) ⟨Nat.le_of_ble_eq_true rfl, Nat.le_of_ble_eq_true rfl⟩) hK hP [0, 1] rfl (va_recv hK.1 hP (ci := 6) (q0 := 0) rfl rfl) rfl hl.1 rfl (Nat.le_of_ble_eq_true rfl) dX6_pours_7 ⟨Nat.le_of_ble_eq_true rfl, Nat.le_of_ble_eq_true rfl⟩ (fun r_1 e_2 => ?_)
  subst e_2
  refine lv_if_eq (tgt := 30) hx hb dX6_pours_10 (by decide) (fun _ => ?_) (fun h => absurd h (by decide))
  refine lv_ldc hx hb hown wc67 dX6_pours_30 ?_
  exact wt_iret hx hb hr hlocks hP hD hS (by rfl) dX6_pours_32
set_option maxHeartbeats 4000000 in
set_option maxRecDepth 100000 in
theorem c_X6_sale (l : Launch) (D : va_G) (cI cZ cH : ClassId) (md hs : Nat) (a1 a2 a3 a4 a5 : Int32) (m_0 m_1 m_2 m_3 m_4 m_6 m_7 m_8 m_9 m_10 m_11 m_12 m_13 m_14 m_15 m_16 m_17 m_18 m_19 m_20 m_21 m_22 m_23 : Value) : wt_M l yX6_sale wsX6_sale ({ frames := 2, cells := 0, slots := 0, locals := 46 } : Room) D (wt_T cI cZ cH) [.ref md, .int a1, .int a2, .int a3, .int a4, .int a5] [(md, .inr (6, [m_0, m_1, m_2, m_3, m_4, .ref hs, m_6, m_7, m_8, m_9, m_10, m_11, m_12, m_13, m_14, m_15, m_16, m_17, m_18, m_19, m_20, m_21, m_22, m_23])), (hs, .inl (cI, 45, .inl (fun _ => 0)))] (wt_QI D (fun r w => r = (-1000001))) := by
  refine wt_M.ofW (cc := cX6_sale) (maxL := 11) (ret := (some .int)) (by decide) rfl (Nat.le_of_ble_eq_true rfl) ?_
  intro p e s m below meth c A ls hx hb hr hts hown hlocks hml hnm hP hK hD hA hS hl
  have hP : va_P D vwCl [(md, .inr (6, [m_0, m_1, m_2, m_3, m_4, .ref hs, m_6, m_7, m_8, m_9, m_10, m_11, m_12, m_13, m_14, m_15, m_16, m_17, m_18, m_19, m_20, m_21, m_22, m_23])), (hs, .inl (cI, 45, .inl (fun _ => 0)))] s.heap := hP
  have hown : s.vm.findClass RX6 = some m.cls := hown
  have hl : lv_has ls 11 [(0, .ref md), (1, .int a1), (2, .int a2), (3, .int a3), (4, .int a4), (5, .int a5)] := hl
  have hi6 : ∀ w ∈ u_ws RX6 TX6 24, w ∈ wsX6_sale := by decide +kernel
  have wc67 := hts (.constant RX6 67 (-1000001)) (by decide +kernel)
  have wf47 := hts (.fieldLink RX6 47 "WarmTubesModel" "thrown" "I") (by decide +kernel)
  refine lv_aload_n hx hb dX6_sale_0 rfl (lv_at hl 0 rfl) ?_
  refine lv_iconst (v := 0) hx hb dX6_sale_1 (by decide) ?_
  refine va_put (D := D) (ci := 6) (v := .int 0) (ty := .int) (C := RX6) (T := TX6) (N := 24) hx hb hts hi6 tyX6 tyX6_ok nmX6 hown hK.1 hP hD hS 0 rfl rfl 0 (by decide) wf47 (fun _ h9 => h9) rfl (by decide +kernel) rfl rfl (Nat.le_of_ble_eq_true rfl) dX6_sale_2 (fun H locs hP hD hS => ?_)
  have hP : va_P D vwCl [(md, .inr (6, [.int 0, m_1, m_2, m_3, m_4, .ref hs, m_6, m_7, m_8, m_9, m_10, m_11, m_12, m_13, m_14, m_15, m_16, m_17, m_18, m_19, m_20, m_21, m_22, m_23])), (hs, .inl (cI, 45, .inl (fun _ => 0)))] H := hP
  have hD : va_D A [(md, .inr (6, [.int 0, m_1, m_2, m_3, m_4, .ref hs, m_6, m_7, m_8, m_9, m_10, m_11, m_12, m_13, m_14, m_15, m_16, m_17, m_18, m_19, m_20, m_21, m_22, m_23])), (hs, .inl (cI, 45, .inl (fun _ => 0)))] := hD
  refine lv_aload_n hx hb dX6_sale_5 rfl (lv_at hl 0 rfl) ?_
  refine lv_iload_n hx hb dX6_sale_6 rfl (lv_at hl 1 rfl) ?_
  refine wt_rV (As := [.int a1]) (rest := []) ⟨hx, hb, hml, hown, hts⟩ (c_X6_isTube l D cI cZ cH md hs a1 (.int 0) m_1 m_2 m_3 m_4 m_6 m_7 m_8 m_9 m_10 m_11 m_12 m_13 m_14 m_15 m_16 m_17 m_18 m_19 m_20 m_21 m_22 m_23) (cwV 1 hts gX6_sale_X6_isTube rfl rfl rfl (by decide +kernel) ⟨Nat.le_of_ble_eq_true rfl, Nat.le_of_ble_eq_true rfl⟩) hK hP [0, 1] rfl (va_recv hK.1 hP (ci := 6) (q0 := 0) rfl rfl) rfl hl.1 rfl (Nat.le_of_ble_eq_true rfl) dX6_sale_7 ⟨Nat.le_of_ble_eq_true rfl, Nat.le_of_ble_eq_true rfl⟩ (fun r_1 e_2 => ?_)
  subst e_2
  refine lv_if_eq (tgt := 61) hx hb dX6_sale_10 (by decide) (fun _ => ?_) (fun h => absurd h (by decide))
  refine lv_ldc hx hb hown wc67 dX6_sale_61 ?_
  exact wt_iret hx hb hr hlocks hP hD hS (by rfl) dX6_sale_63
set_option maxHeartbeats 4000000 in
set_option maxRecDepth 100000 in
theorem c_X6_who (l : Launch) (D : va_G) (cI cZ cH : ClassId) (md hs : Nat) (a1 a2 a3 a4 a5 a6 : Int32) (m_0 m_1 m_2 m_3 m_4 m_6 m_7 m_8 m_9 m_10 m_11 m_12 m_13 m_14 m_15 m_16 m_17 m_18 m_19 m_20 m_21 m_22 m_23 : Value) : wt_M l yX6_who wsX6_who ({ frames := 2, cells := 0, slots := 0, locals := 46 } : Room) D (wt_T cI cZ cH) [.ref md, .int a1, .int a2, .int a3, .int a4, .int a5, .int a6] [(md, .inr (6, [m_0, m_1, m_2, m_3, m_4, .ref hs, m_6, m_7, m_8, m_9, m_10, m_11, m_12, m_13, m_14, m_15, m_16, m_17, m_18, m_19, m_20, m_21, m_22, m_23])), (hs, .inl (cI, 45, .inl (fun _ => 0)))] (wt_QI D (fun r w => r = (-1000001))) := by
  refine wt_M.ofW (cc := cX6_who) (maxL := 11) (ret := (some .int)) (by decide) rfl (Nat.le_of_ble_eq_true rfl) ?_
  intro p e s m below meth c A ls hx hb hr hts hown hlocks hml hnm hP hK hD hA hS hl
  have hP : va_P D vwCl [(md, .inr (6, [m_0, m_1, m_2, m_3, m_4, .ref hs, m_6, m_7, m_8, m_9, m_10, m_11, m_12, m_13, m_14, m_15, m_16, m_17, m_18, m_19, m_20, m_21, m_22, m_23])), (hs, .inl (cI, 45, .inl (fun _ => 0)))] s.heap := hP
  have hown : s.vm.findClass RX6 = some m.cls := hown
  have hl : lv_has ls 11 [(0, .ref md), (1, .int a1), (2, .int a2), (3, .int a3), (4, .int a4), (5, .int a5), (6, .int a6)] := hl
  have hi6 : ∀ w ∈ u_ws RX6 TX6 24, w ∈ wsX6_who := by decide +kernel
  have wc67 := hts (.constant RX6 67 (-1000001)) (by decide +kernel)
  have wf47 := hts (.fieldLink RX6 47 "WarmTubesModel" "thrown" "I") (by decide +kernel)
  refine lv_aload_n hx hb dX6_who_0 rfl (lv_at hl 0 rfl) ?_
  refine lv_iconst (v := 0) hx hb dX6_who_1 (by decide) ?_
  refine va_put (D := D) (ci := 6) (v := .int 0) (ty := .int) (C := RX6) (T := TX6) (N := 24) hx hb hts hi6 tyX6 tyX6_ok nmX6 hown hK.1 hP hD hS 0 rfl rfl 0 (by decide) wf47 (fun _ h9 => h9) rfl (by decide +kernel) rfl rfl (Nat.le_of_ble_eq_true rfl) dX6_who_2 (fun H locs hP hD hS => ?_)
  have hP : va_P D vwCl [(md, .inr (6, [.int 0, m_1, m_2, m_3, m_4, .ref hs, m_6, m_7, m_8, m_9, m_10, m_11, m_12, m_13, m_14, m_15, m_16, m_17, m_18, m_19, m_20, m_21, m_22, m_23])), (hs, .inl (cI, 45, .inl (fun _ => 0)))] H := hP
  have hD : va_D A [(md, .inr (6, [.int 0, m_1, m_2, m_3, m_4, .ref hs, m_6, m_7, m_8, m_9, m_10, m_11, m_12, m_13, m_14, m_15, m_16, m_17, m_18, m_19, m_20, m_21, m_22, m_23])), (hs, .inl (cI, 45, .inl (fun _ => 0)))] := hD
  refine lv_aload_n hx hb dX6_who_5 rfl (lv_at hl 0 rfl) ?_
  refine lv_iload_n hx hb dX6_who_6 rfl (lv_at hl 1 rfl) ?_
  refine wt_rV (As := [.int a1]) (rest := []) ⟨hx, hb, hml, hown, hts⟩ (c_X6_isTube l D cI cZ cH md hs a1 (.int 0) m_1 m_2 m_3 m_4 m_6 m_7 m_8 m_9 m_10 m_11 m_12 m_13 m_14 m_15 m_16 m_17 m_18 m_19 m_20 m_21 m_22 m_23) (cwV 1 hts gX6_who_X6_isTube rfl rfl rfl (by decide +kernel) ⟨Nat.le_of_ble_eq_true rfl, Nat.le_of_ble_eq_true rfl⟩) hK hP [0, 1] rfl (va_recv hK.1 hP (ci := 6) (q0 := 0) rfl rfl) rfl hl.1 rfl (Nat.le_of_ble_eq_true rfl) dX6_who_7 ⟨Nat.le_of_ble_eq_true rfl, Nat.le_of_ble_eq_true rfl⟩ (fun r_1 e_2 => ?_)
  subst e_2
  refine lv_if_eq (tgt := 54) hx hb dX6_who_10 (by decide) (fun _ => ?_) (fun h => absurd h (by decide))
  refine lv_ldc hx hb hown wc67 dX6_who_54 ?_
  exact wt_iret hx hb hr hlocks hP hD hS (by rfl) dX6_who_56
set_option maxHeartbeats 4000000 in
set_option maxRecDepth 100000 in
theorem c_X6_kind (l : Launch) (D : va_G) (cI cZ cH : ClassId) (md hs : Nat) (a1 : Int32) (m_0 m_1 m_2 m_3 m_4 m_6 m_7 m_8 m_9 m_10 m_11 m_12 m_13 m_14 m_15 m_16 m_17 m_18 m_19 m_20 m_21 m_22 m_23 : Value) : wt_M l yX6_kind wsX6_kind ({ frames := 2, cells := 0, slots := 0, locals := 46 } : Room) D (wt_T cI cZ cH) [.ref md, .int a1] [(md, .inr (6, [m_0, m_1, m_2, m_3, m_4, .ref hs, m_6, m_7, m_8, m_9, m_10, m_11, m_12, m_13, m_14, m_15, m_16, m_17, m_18, m_19, m_20, m_21, m_22, m_23])), (hs, .inl (cI, 45, .inl (fun _ => 0)))] (wt_QI D (fun r w => r = (-1000001))) := by
  refine wt_M.ofW (cc := cX6_kind) (maxL := 2) (ret := (some .int)) (by decide) rfl (Nat.le_of_ble_eq_true rfl) ?_
  intro p e s m below meth c A ls hx hb hr hts hown hlocks hml hnm hP hK hD hA hS hl
  have hP : va_P D vwCl [(md, .inr (6, [m_0, m_1, m_2, m_3, m_4, .ref hs, m_6, m_7, m_8, m_9, m_10, m_11, m_12, m_13, m_14, m_15, m_16, m_17, m_18, m_19, m_20, m_21, m_22, m_23])), (hs, .inl (cI, 45, .inl (fun _ => 0)))] s.heap := hP
  have hown : s.vm.findClass RX6 = some m.cls := hown
  have hl : lv_has ls 2 [(0, .ref md), (1, .int a1)] := hl
  have hi6 : ∀ w ∈ u_ws RX6 TX6 24, w ∈ wsX6_kind := by decide +kernel
  have wc67 := hts (.constant RX6 67 (-1000001)) (by decide +kernel)
  have wf47 := hts (.fieldLink RX6 47 "WarmTubesModel" "thrown" "I") (by decide +kernel)
  refine lv_aload_n hx hb dX6_kind_0 rfl (lv_at hl 0 rfl) ?_
  refine lv_iconst (v := 0) hx hb dX6_kind_1 (by decide) ?_
  refine va_put (D := D) (ci := 6) (v := .int 0) (ty := .int) (C := RX6) (T := TX6) (N := 24) hx hb hts hi6 tyX6 tyX6_ok nmX6 hown hK.1 hP hD hS 0 rfl rfl 0 (by decide) wf47 (fun _ h9 => h9) rfl (by decide +kernel) rfl rfl (Nat.le_of_ble_eq_true rfl) dX6_kind_2 (fun H locs hP hD hS => ?_)
  have hP : va_P D vwCl [(md, .inr (6, [.int 0, m_1, m_2, m_3, m_4, .ref hs, m_6, m_7, m_8, m_9, m_10, m_11, m_12, m_13, m_14, m_15, m_16, m_17, m_18, m_19, m_20, m_21, m_22, m_23])), (hs, .inl (cI, 45, .inl (fun _ => 0)))] H := hP
  have hD : va_D A [(md, .inr (6, [.int 0, m_1, m_2, m_3, m_4, .ref hs, m_6, m_7, m_8, m_9, m_10, m_11, m_12, m_13, m_14, m_15, m_16, m_17, m_18, m_19, m_20, m_21, m_22, m_23])), (hs, .inl (cI, 45, .inl (fun _ => 0)))] := hD
  refine lv_aload_n hx hb dX6_kind_5 rfl (lv_at hl 0 rfl) ?_
  refine lv_iload_n hx hb dX6_kind_6 rfl (lv_at hl 1 rfl) ?_
  refine wt_rV (As := [.int a1]) (rest := []) ⟨hx, hb, hml, hown, hts⟩ (c_X6_isTube l D cI cZ cH md hs a1 (.int 0) m_1 m_2 m_3 m_4 m_6 m_7 m_8 m_9 m_10 m_11 m_12 m_13 m_14 m_15 m_16 m_17 m_18 m_19 m_20 m_21 m_22 m_23) (cwV 1 hts gX6_kind_X6_isTube rfl rfl rfl (by decide +kernel) ⟨Nat.le_of_ble_eq_true rfl, Nat.le_of_ble_eq_true rfl⟩) hK hP [0, 1] rfl (va_recv hK.1 hP (ci := 6) (q0 := 0) rfl rfl) rfl hl.1 rfl (Nat.le_of_ble_eq_true rfl) dX6_kind_7 ⟨Nat.le_of_ble_eq_true rfl, Nat.le_of_ble_eq_true rfl⟩ (fun r_1 e_2 => ?_)
  subst e_2
  refine lv_if_eq (tgt := 25) hx hb dX6_kind_10 (by decide) (fun _ => ?_) (fun h => absurd h (by decide))
  refine lv_ldc hx hb hown wc67 dX6_kind_25 ?_
  exact wt_iret hx hb hr hlocks hP hD hS (by rfl) dX6_kind_27
set_option maxHeartbeats 4000000 in
set_option maxRecDepth 100000 in
theorem c_X6_as (l : Launch) (D : va_G) (cI cZ cH : ClassId) (md hs : Nat) (a1 a2 : Int32) (m_0 m_1 m_2 m_3 m_4 m_6 m_7 m_8 m_9 m_10 m_11 m_12 m_13 m_14 m_15 m_16 m_17 m_18 m_19 m_20 m_21 m_22 m_23 : Value) : wt_M l yX6_as wsX6_as ({ frames := 2, cells := 0, slots := 0, locals := 46 } : Room) D (wt_T cI cZ cH) [.ref md, .int a1, .int a2] [(md, .inr (6, [m_0, m_1, m_2, m_3, m_4, .ref hs, m_6, m_7, m_8, m_9, m_10, m_11, m_12, m_13, m_14, m_15, m_16, m_17, m_18, m_19, m_20, m_21, m_22, m_23])), (hs, .inl (cI, 45, .inl (fun _ => 0)))] (wt_QI D (fun r w => r = (-1000001))) := by
  refine wt_M.ofW (cc := cX6_as) (maxL := 3) (ret := (some .int)) (by decide) rfl (Nat.le_of_ble_eq_true rfl) ?_
  intro p e s m below meth c A ls hx hb hr hts hown hlocks hml hnm hP hK hD hA hS hl
  have hP : va_P D vwCl [(md, .inr (6, [m_0, m_1, m_2, m_3, m_4, .ref hs, m_6, m_7, m_8, m_9, m_10, m_11, m_12, m_13, m_14, m_15, m_16, m_17, m_18, m_19, m_20, m_21, m_22, m_23])), (hs, .inl (cI, 45, .inl (fun _ => 0)))] s.heap := hP
  have hown : s.vm.findClass RX6 = some m.cls := hown
  have hl : lv_has ls 3 [(0, .ref md), (1, .int a1), (2, .int a2)] := hl
  have hi6 : ∀ w ∈ u_ws RX6 TX6 24, w ∈ wsX6_as := by decide +kernel
  have wc67 := hts (.constant RX6 67 (-1000001)) (by decide +kernel)
  have wf47 := hts (.fieldLink RX6 47 "WarmTubesModel" "thrown" "I") (by decide +kernel)
  refine lv_aload_n hx hb dX6_as_0 rfl (lv_at hl 0 rfl) ?_
  refine lv_iconst (v := 0) hx hb dX6_as_1 (by decide) ?_
  refine va_put (D := D) (ci := 6) (v := .int 0) (ty := .int) (C := RX6) (T := TX6) (N := 24) hx hb hts hi6 tyX6 tyX6_ok nmX6 hown hK.1 hP hD hS 0 rfl rfl 0 (by decide) wf47 (fun _ h9 => h9) rfl (by decide +kernel) rfl rfl (Nat.le_of_ble_eq_true rfl) dX6_as_2 (fun H locs hP hD hS => ?_)
  have hP : va_P D vwCl [(md, .inr (6, [.int 0, m_1, m_2, m_3, m_4, .ref hs, m_6, m_7, m_8, m_9, m_10, m_11, m_12, m_13, m_14, m_15, m_16, m_17, m_18, m_19, m_20, m_21, m_22, m_23])), (hs, .inl (cI, 45, .inl (fun _ => 0)))] H := hP
  have hD : va_D A [(md, .inr (6, [.int 0, m_1, m_2, m_3, m_4, .ref hs, m_6, m_7, m_8, m_9, m_10, m_11, m_12, m_13, m_14, m_15, m_16, m_17, m_18, m_19, m_20, m_21, m_22, m_23])), (hs, .inl (cI, 45, .inl (fun _ => 0)))] := hD
  refine lv_aload_n hx hb dX6_as_5 rfl (lv_at hl 0 rfl) ?_
  refine lv_iload_n hx hb dX6_as_6 rfl (lv_at hl 1 rfl) ?_
  refine wt_rV (As := [.int a1]) (rest := []) ⟨hx, hb, hml, hown, hts⟩ (c_X6_isTube l D cI cZ cH md hs a1 (.int 0) m_1 m_2 m_3 m_4 m_6 m_7 m_8 m_9 m_10 m_11 m_12 m_13 m_14 m_15 m_16 m_17 m_18 m_19 m_20 m_21 m_22 m_23) (cwV 1 hts gX6_as_X6_isTube rfl rfl rfl (by decide +kernel) ⟨Nat.le_of_ble_eq_true rfl, Nat.le_of_ble_eq_true rfl⟩) hK hP [0, 1] rfl (va_recv hK.1 hP (ci := 6) (q0 := 0) rfl rfl) rfl hl.1 rfl (Nat.le_of_ble_eq_true rfl) dX6_as_7 ⟨Nat.le_of_ble_eq_true rfl, Nat.le_of_ble_eq_true rfl⟩ (fun r_1 e_2 => ?_)
  subst e_2
  refine lv_if_eq (tgt := 25) hx hb dX6_as_10 (by decide) (fun _ => ?_) (fun h => absurd h (by decide))
  refine lv_ldc hx hb hown wc67 dX6_as_25 ?_
  exact wt_iret hx hb hr hlocks hP hD hS (by rfl) dX6_as_27
set_option maxHeartbeats 4000000 in
set_option maxRecDepth 100000 in
theorem c_X6_ask (l : Launch) (D : va_G) (cI cZ cH : ClassId) (md hs : Nat) (a1 a2 : Int32) (m_0 m_1 m_2 m_3 m_4 m_6 m_7 m_8 m_9 m_10 m_11 m_12 m_13 m_14 m_15 m_16 m_17 m_18 m_19 m_20 m_21 m_22 m_23 : Value) : wt_M l yX6_ask wsX6_ask ({ frames := 2, cells := 0, slots := 0, locals := 46 } : Room) D (wt_T cI cZ cH) [.ref md, .int a1, .int a2] [(md, .inr (6, [m_0, m_1, m_2, m_3, m_4, .ref hs, m_6, m_7, m_8, m_9, m_10, m_11, m_12, m_13, m_14, m_15, m_16, m_17, m_18, m_19, m_20, m_21, m_22, m_23])), (hs, .inl (cI, 45, .inl (fun _ => 0)))] (wt_QI D (fun r w => r = (-1000001))) := by
  refine wt_M.ofW (cc := cX6_ask) (maxL := 3) (ret := (some .int)) (by decide) rfl (Nat.le_of_ble_eq_true rfl) ?_
  intro p e s m below meth c A ls hx hb hr hts hown hlocks hml hnm hP hK hD hA hS hl
  have hP : va_P D vwCl [(md, .inr (6, [m_0, m_1, m_2, m_3, m_4, .ref hs, m_6, m_7, m_8, m_9, m_10, m_11, m_12, m_13, m_14, m_15, m_16, m_17, m_18, m_19, m_20, m_21, m_22, m_23])), (hs, .inl (cI, 45, .inl (fun _ => 0)))] s.heap := hP
  have hown : s.vm.findClass RX6 = some m.cls := hown
  have hl : lv_has ls 3 [(0, .ref md), (1, .int a1), (2, .int a2)] := hl
  have hi6 : ∀ w ∈ u_ws RX6 TX6 24, w ∈ wsX6_ask := by decide +kernel
  have wc67 := hts (.constant RX6 67 (-1000001)) (by decide +kernel)
  have wf47 := hts (.fieldLink RX6 47 "WarmTubesModel" "thrown" "I") (by decide +kernel)
  refine lv_aload_n hx hb dX6_ask_0 rfl (lv_at hl 0 rfl) ?_
  refine lv_iconst (v := 0) hx hb dX6_ask_1 (by decide) ?_
  refine va_put (D := D) (ci := 6) (v := .int 0) (ty := .int) (C := RX6) (T := TX6) (N := 24) hx hb hts hi6 tyX6 tyX6_ok nmX6 hown hK.1 hP hD hS 0 rfl rfl 0 (by decide) wf47 (fun _ h9 => h9) rfl (by decide +kernel) rfl rfl (Nat.le_of_ble_eq_true rfl) dX6_ask_2 (fun H locs hP hD hS => ?_)
  have hP : va_P D vwCl [(md, .inr (6, [.int 0, m_1, m_2, m_3, m_4, .ref hs, m_6, m_7, m_8, m_9, m_10, m_11, m_12, m_13, m_14, m_15, m_16, m_17, m_18, m_19, m_20, m_21, m_22, m_23])), (hs, .inl (cI, 45, .inl (fun _ => 0)))] H := hP
  have hD : va_D A [(md, .inr (6, [.int 0, m_1, m_2, m_3, m_4, .ref hs, m_6, m_7, m_8, m_9, m_10, m_11, m_12, m_13, m_14, m_15, m_16, m_17, m_18, m_19, m_20, m_21, m_22, m_23])), (hs, .inl (cI, 45, .inl (fun _ => 0)))] := hD
  refine lv_aload_n hx hb dX6_ask_5 rfl (lv_at hl 0 rfl) ?_
  refine lv_iload_n hx hb dX6_ask_6 rfl (lv_at hl 1 rfl) ?_
  refine wt_rV (As := [.int a1]) (rest := []) ⟨hx, hb, hml, hown, hts⟩ (c_X6_isTube l D cI cZ cH md hs a1 (.int 0) m_1 m_2 m_3 m_4 m_6 m_7 m_8 m_9 m_10 m_11 m_12 m_13 m_14 m_15 m_16 m_17 m_18 m_19 m_20 m_21 m_22 m_23) (cwV 1 hts gX6_ask_X6_isTube rfl rfl rfl (by decide +kernel) ⟨Nat.le_of_ble_eq_true rfl, Nat.le_of_ble_eq_true rfl⟩) hK hP [0, 1] rfl (va_recv hK.1 hP (ci := 6) (q0 := 0) rfl rfl) rfl hl.1 rfl (Nat.le_of_ble_eq_true rfl) dX6_ask_7 ⟨Nat.le_of_ble_eq_true rfl, Nat.le_of_ble_eq_true rfl⟩ (fun r_1 e_2 => ?_)
  subst e_2
  refine lv_if_eq (tgt := 23) hx hb dX6_ask_10 (by decide) (fun _ => ?_) (fun h => absurd h (by decide))
  refine lv_ldc hx hb hown wc67 dX6_ask_23 ?_
  exact wt_iret hx hb hr hlocks hP hD hS (by rfl) dX6_ask_25
set_option maxHeartbeats 4000000 in
set_option maxRecDepth 100000 in
theorem c_X6_stove (l : Launch) (D : va_G) (cI cZ cH : ClassId) (md hs : Nat) (a1 a2 : Int32) (m_0 m_1 m_2 m_3 m_4 m_6 m_7 m_8 m_9 m_10 m_11 m_12 m_13 m_14 m_15 m_16 m_17 m_18 m_19 m_20 m_21 m_22 m_23 : Value) : wt_M l yX6_stove wsX6_stove ({ frames := 2, cells := 0, slots := 0, locals := 46 } : Room) D (wt_T cI cZ cH) [.ref md, .int a1, .int a2] [(md, .inr (6, [m_0, m_1, m_2, m_3, m_4, .ref hs, m_6, m_7, m_8, m_9, m_10, m_11, m_12, m_13, m_14, m_15, m_16, m_17, m_18, m_19, m_20, m_21, m_22, m_23])), (hs, .inl (cI, 45, .inl (fun _ => 0)))] (wt_QI D (fun r w => r = (-1000001))) := by
  refine wt_M.ofW (cc := cX6_stove) (maxL := 4) (ret := (some .int)) (by decide) rfl (Nat.le_of_ble_eq_true rfl) ?_
  intro p e s m below meth c A ls hx hb hr hts hown hlocks hml hnm hP hK hD hA hS hl
  have hP : va_P D vwCl [(md, .inr (6, [m_0, m_1, m_2, m_3, m_4, .ref hs, m_6, m_7, m_8, m_9, m_10, m_11, m_12, m_13, m_14, m_15, m_16, m_17, m_18, m_19, m_20, m_21, m_22, m_23])), (hs, .inl (cI, 45, .inl (fun _ => 0)))] s.heap := hP
  have hown : s.vm.findClass RX6 = some m.cls := hown
  have hl : lv_has ls 4 [(0, .ref md), (1, .int a1), (2, .int a2)] := hl
  have hi6 : ∀ w ∈ u_ws RX6 TX6 24, w ∈ wsX6_stove := by decide +kernel
  have wc67 := hts (.constant RX6 67 (-1000001)) (by decide +kernel)
  have wf47 := hts (.fieldLink RX6 47 "WarmTubesModel" "thrown" "I") (by decide +kernel)
  refine lv_aload_n hx hb dX6_stove_0 rfl (lv_at hl 0 rfl) ?_
  refine lv_iconst (v := 0) hx hb dX6_stove_1 (by decide) ?_
  refine va_put (D := D) (ci := 6) (v := .int 0) (ty := .int) (C := RX6) (T := TX6) (N := 24) hx hb hts hi6 tyX6 tyX6_ok nmX6 hown hK.1 hP hD hS 0 rfl rfl 0 (by decide) wf47 (fun _ h9 => h9) rfl (by decide +kernel) rfl rfl (Nat.le_of_ble_eq_true rfl) dX6_stove_2 (fun H locs hP hD hS => ?_)
  have hP : va_P D vwCl [(md, .inr (6, [.int 0, m_1, m_2, m_3, m_4, .ref hs, m_6, m_7, m_8, m_9, m_10, m_11, m_12, m_13, m_14, m_15, m_16, m_17, m_18, m_19, m_20, m_21, m_22, m_23])), (hs, .inl (cI, 45, .inl (fun _ => 0)))] H := hP
  have hD : va_D A [(md, .inr (6, [.int 0, m_1, m_2, m_3, m_4, .ref hs, m_6, m_7, m_8, m_9, m_10, m_11, m_12, m_13, m_14, m_15, m_16, m_17, m_18, m_19, m_20, m_21, m_22, m_23])), (hs, .inl (cI, 45, .inl (fun _ => 0)))] := hD
  refine lv_aload_n hx hb dX6_stove_5 rfl (lv_at hl 0 rfl) ?_
  refine lv_iload_n hx hb dX6_stove_6 rfl (lv_at hl 1 rfl) ?_
  refine wt_rV (As := [.int a1]) (rest := []) ⟨hx, hb, hml, hown, hts⟩ (c_X6_isRoom l D cI cZ cH md hs a1 (.int 0) m_1 m_2 m_3 m_4 m_6 m_7 m_8 m_9 m_10 m_11 m_12 m_13 m_14 m_15 m_16 m_17 m_18 m_19 m_20 m_21 m_22 m_23) (cwV 1 hts gX6_stove_X6_isRoom rfl rfl rfl (by decide +kernel) ⟨Nat.le_of_ble_eq_true rfl, Nat.le_of_ble_eq_true rfl⟩) hK hP [0, 1] rfl (va_recv hK.1 hP (ci := 6) (q0 := 0) rfl rfl) rfl hl.1 rfl (Nat.le_of_ble_eq_true rfl) dX6_stove_7 ⟨Nat.le_of_ble_eq_true rfl, Nat.le_of_ble_eq_true rfl⟩ (fun r_1 e_2 => ?_)
  subst e_2
  refine lv_if_eq (tgt := 25) hx hb dX6_stove_10 (by decide) (fun _ => ?_) (fun h => absurd h (by decide))
  refine lv_ldc hx hb hown wc67 dX6_stove_25 ?_
  exact wt_iret hx hb hr hlocks hP hD hS (by rfl) dX6_stove_27
set_option maxHeartbeats 4000000 in
set_option maxRecDepth 100000 in
theorem c_X6_ahead (l : Launch) (D : va_G) (cI cZ cH : ClassId) (md hs : Nat) (a1 a2 : Int32) (m_0 m_1 m_2 m_3 m_4 m_6 m_7 m_8 m_9 m_10 m_11 m_12 m_13 m_14 m_15 m_16 m_17 m_18 m_19 m_20 m_21 m_22 m_23 : Value) : wt_M l yX6_ahead wsX6_ahead ({ frames := 2, cells := 0, slots := 0, locals := 46 } : Room) D (wt_T cI cZ cH) [.ref md, .int a1, .int a2] [(md, .inr (6, [m_0, m_1, m_2, m_3, m_4, .ref hs, m_6, m_7, m_8, m_9, m_10, m_11, m_12, m_13, m_14, m_15, m_16, m_17, m_18, m_19, m_20, m_21, m_22, m_23])), (hs, .inl (cI, 45, .inl (fun _ => 0)))] (wt_QI D (fun r w => r = (-1000001))) := by
  refine wt_M.ofW (cc := cX6_ahead) (maxL := 3) (ret := (some .int)) (by decide) rfl (Nat.le_of_ble_eq_true rfl) ?_
  intro p e s m below meth c A ls hx hb hr hts hown hlocks hml hnm hP hK hD hA hS hl
  have hP : va_P D vwCl [(md, .inr (6, [m_0, m_1, m_2, m_3, m_4, .ref hs, m_6, m_7, m_8, m_9, m_10, m_11, m_12, m_13, m_14, m_15, m_16, m_17, m_18, m_19, m_20, m_21, m_22, m_23])), (hs, .inl (cI, 45, .inl (fun _ => 0)))] s.heap := hP
  have hown : s.vm.findClass RX6 = some m.cls := hown
  have hl : lv_has ls 3 [(0, .ref md), (1, .int a1), (2, .int a2)] := hl
  have hi6 : ∀ w ∈ u_ws RX6 TX6 24, w ∈ wsX6_ahead := by decide +kernel
  have wc67 := hts (.constant RX6 67 (-1000001)) (by decide +kernel)
  have wf47 := hts (.fieldLink RX6 47 "WarmTubesModel" "thrown" "I") (by decide +kernel)
  refine lv_aload_n hx hb dX6_ahead_0 rfl (lv_at hl 0 rfl) ?_
  refine lv_iconst (v := 0) hx hb dX6_ahead_1 (by decide) ?_
  refine va_put (D := D) (ci := 6) (v := .int 0) (ty := .int) (C := RX6) (T := TX6) (N := 24) hx hb hts hi6 tyX6 tyX6_ok nmX6 hown hK.1 hP hD hS 0 rfl rfl 0 (by decide) wf47 (fun _ h9 => h9) rfl (by decide +kernel) rfl rfl (Nat.le_of_ble_eq_true rfl) dX6_ahead_2 (fun H locs hP hD hS => ?_)
  have hP : va_P D vwCl [(md, .inr (6, [.int 0, m_1, m_2, m_3, m_4, .ref hs, m_6, m_7, m_8, m_9, m_10, m_11, m_12, m_13, m_14, m_15, m_16, m_17, m_18, m_19, m_20, m_21, m_22, m_23])), (hs, .inl (cI, 45, .inl (fun _ => 0)))] H := hP
  have hD : va_D A [(md, .inr (6, [.int 0, m_1, m_2, m_3, m_4, .ref hs, m_6, m_7, m_8, m_9, m_10, m_11, m_12, m_13, m_14, m_15, m_16, m_17, m_18, m_19, m_20, m_21, m_22, m_23])), (hs, .inl (cI, 45, .inl (fun _ => 0)))] := hD
  refine lv_aload_n hx hb dX6_ahead_5 rfl (lv_at hl 0 rfl) ?_
  refine lv_iload_n hx hb dX6_ahead_6 rfl (lv_at hl 1 rfl) ?_
  refine wt_rV (As := [.int a1]) (rest := []) ⟨hx, hb, hml, hown, hts⟩ (c_X6_isRoom l D cI cZ cH md hs a1 (.int 0) m_1 m_2 m_3 m_4 m_6 m_7 m_8 m_9 m_10 m_11 m_12 m_13 m_14 m_15 m_16 m_17 m_18 m_19 m_20 m_21 m_22 m_23) (cwV 1 hts gX6_ahead_X6_isRoom rfl rfl rfl (by decide +kernel) ⟨Nat.le_of_ble_eq_true rfl, Nat.le_of_ble_eq_true rfl⟩) hK hP [0, 1] rfl (va_recv hK.1 hP (ci := 6) (q0 := 0) rfl rfl) rfl hl.1 rfl (Nat.le_of_ble_eq_true rfl) dX6_ahead_7 ⟨Nat.le_of_ble_eq_true rfl, Nat.le_of_ble_eq_true rfl⟩ (fun r_1 e_2 => ?_)
  subst e_2
  refine lv_if_eq (tgt := 25) hx hb dX6_ahead_10 (by decide) (fun _ => ?_) (fun h => absurd h (by decide))
  refine lv_ldc hx hb hown wc67 dX6_ahead_25 ?_
  exact wt_iret hx hb hr hlocks hP hD hS (by rfl) dX6_ahead_27
set_option maxHeartbeats 4000000 in
set_option maxRecDepth 100000 in
theorem c_X6_chill (l : Launch) (D : va_G) (cI cZ cH : ClassId) (md hs : Nat) (a1 : Int32) (m_0 m_1 m_2 m_3 m_4 m_6 m_7 m_8 m_9 m_10 m_11 m_12 m_13 m_14 m_15 m_16 m_17 m_18 m_19 m_20 m_21 m_22 m_23 : Value) : wt_M l yX6_chill wsX6_chill ({ frames := 2, cells := 0, slots := 0, locals := 46 } : Room) D (wt_T cI cZ cH) [.ref md, .int a1] [(md, .inr (6, [m_0, m_1, m_2, m_3, m_4, .ref hs, m_6, m_7, m_8, m_9, m_10, m_11, m_12, m_13, m_14, m_15, m_16, m_17, m_18, m_19, m_20, m_21, m_22, m_23])), (hs, .inl (cI, 45, .inl (fun _ => 0)))] (wt_QI D (fun r w => r = (-1000001))) := by
  refine wt_M.ofW (cc := cX6_chill) (maxL := 3) (ret := (some .int)) (by decide) rfl (Nat.le_of_ble_eq_true rfl) ?_
  intro p e s m below meth c A ls hx hb hr hts hown hlocks hml hnm hP hK hD hA hS hl
  have hP : va_P D vwCl [(md, .inr (6, [m_0, m_1, m_2, m_3, m_4, .ref hs, m_6, m_7, m_8, m_9, m_10, m_11, m_12, m_13, m_14, m_15, m_16, m_17, m_18, m_19, m_20, m_21, m_22, m_23])), (hs, .inl (cI, 45, .inl (fun _ => 0)))] s.heap := hP
  have hown : s.vm.findClass RX6 = some m.cls := hown
  have hl : lv_has ls 3 [(0, .ref md), (1, .int a1)] := hl
  have hi6 : ∀ w ∈ u_ws RX6 TX6 24, w ∈ wsX6_chill := by decide +kernel
  have wc67 := hts (.constant RX6 67 (-1000001)) (by decide +kernel)
  have wf47 := hts (.fieldLink RX6 47 "WarmTubesModel" "thrown" "I") (by decide +kernel)
  refine lv_aload_n hx hb dX6_chill_0 rfl (lv_at hl 0 rfl) ?_
  refine lv_iconst (v := 0) hx hb dX6_chill_1 (by decide) ?_
  refine va_put (D := D) (ci := 6) (v := .int 0) (ty := .int) (C := RX6) (T := TX6) (N := 24) hx hb hts hi6 tyX6 tyX6_ok nmX6 hown hK.1 hP hD hS 0 rfl rfl 0 (by decide) wf47 (fun _ h9 => h9) rfl (by decide +kernel) rfl rfl (Nat.le_of_ble_eq_true rfl) dX6_chill_2 (fun H locs hP hD hS => ?_)
  have hP : va_P D vwCl [(md, .inr (6, [.int 0, m_1, m_2, m_3, m_4, .ref hs, m_6, m_7, m_8, m_9, m_10, m_11, m_12, m_13, m_14, m_15, m_16, m_17, m_18, m_19, m_20, m_21, m_22, m_23])), (hs, .inl (cI, 45, .inl (fun _ => 0)))] H := hP
  have hD : va_D A [(md, .inr (6, [.int 0, m_1, m_2, m_3, m_4, .ref hs, m_6, m_7, m_8, m_9, m_10, m_11, m_12, m_13, m_14, m_15, m_16, m_17, m_18, m_19, m_20, m_21, m_22, m_23])), (hs, .inl (cI, 45, .inl (fun _ => 0)))] := hD
  refine lv_aload_n hx hb dX6_chill_5 rfl (lv_at hl 0 rfl) ?_
  refine lv_iload_n hx hb dX6_chill_6 rfl (lv_at hl 1 rfl) ?_
  refine wt_rV (As := [.int a1]) (rest := []) ⟨hx, hb, hml, hown, hts⟩ (c_X6_isRoom l D cI cZ cH md hs a1 (.int 0) m_1 m_2 m_3 m_4 m_6 m_7 m_8 m_9 m_10 m_11 m_12 m_13 m_14 m_15 m_16 m_17 m_18 m_19 m_20 m_21 m_22 m_23) (cwV 1 hts gX6_chill_X6_isRoom rfl rfl rfl (by decide +kernel) ⟨Nat.le_of_ble_eq_true rfl, Nat.le_of_ble_eq_true rfl⟩) hK hP [0, 1] rfl (va_recv hK.1 hP (ci := 6) (q0 := 0) rfl rfl) rfl hl.1 rfl (Nat.le_of_ble_eq_true rfl) dX6_chill_7 ⟨Nat.le_of_ble_eq_true rfl, Nat.le_of_ble_eq_true rfl⟩ (fun r_1 e_2 => ?_)
  subst e_2
  refine lv_if_ne (tgt := 16) hx hb dX6_chill_10 (by decide) (fun h => absurd h (by decide)) (fun _ => ?_)
  refine lv_ldc hx hb hown wc67 dX6_chill_13 ?_
  exact wt_iret hx hb hr hlocks hP hD hS (by rfl) dX6_chill_15
set_option maxHeartbeats 4000000 in
set_option maxRecDepth 100000 in
theorem c_X6_outs (l : Launch) (D : va_G) (cI cZ cH : ClassId) (md hs : Nat) (a1 a2 a3 : Int32) (m_0 m_1 m_2 m_3 m_4 m_6 m_7 m_8 m_9 m_10 m_11 m_12 m_13 m_14 m_15 m_16 m_17 m_18 m_19 m_20 m_21 m_22 m_23 : Value) : wt_M l yX6_outs wsX6_outs ({ frames := 2, cells := 0, slots := 0, locals := 46 } : Room) D (wt_T cI cZ cH) [.ref md, .int a1, .int a2, .int a3] [(md, .inr (6, [m_0, m_1, m_2, m_3, m_4, .ref hs, m_6, m_7, m_8, m_9, m_10, m_11, m_12, m_13, m_14, m_15, m_16, m_17, m_18, m_19, m_20, m_21, m_22, m_23])), (hs, .inl (cI, 45, .inl (fun _ => 0)))] (wt_QI D (fun r w => r = (-1000001))) := by
  refine wt_M.ofW (cc := cX6_outs) (maxL := 8) (ret := (some .int)) (by decide) rfl (Nat.le_of_ble_eq_true rfl) ?_
  intro p e s m below meth c A ls hx hb hr hts hown hlocks hml hnm hP hK hD hA hS hl
  have hP : va_P D vwCl [(md, .inr (6, [m_0, m_1, m_2, m_3, m_4, .ref hs, m_6, m_7, m_8, m_9, m_10, m_11, m_12, m_13, m_14, m_15, m_16, m_17, m_18, m_19, m_20, m_21, m_22, m_23])), (hs, .inl (cI, 45, .inl (fun _ => 0)))] s.heap := hP
  have hown : s.vm.findClass RX6 = some m.cls := hown
  have hl : lv_has ls 8 [(0, .ref md), (1, .int a1), (2, .int a2), (3, .int a3)] := hl
  have hi6 : ∀ w ∈ u_ws RX6 TX6 24, w ∈ wsX6_outs := by decide +kernel
  have wc67 := hts (.constant RX6 67 (-1000001)) (by decide +kernel)
  have wf47 := hts (.fieldLink RX6 47 "WarmTubesModel" "thrown" "I") (by decide +kernel)
  refine lv_aload_n hx hb dX6_outs_0 rfl (lv_at hl 0 rfl) ?_
  refine lv_iconst (v := 0) hx hb dX6_outs_1 (by decide) ?_
  refine va_put (D := D) (ci := 6) (v := .int 0) (ty := .int) (C := RX6) (T := TX6) (N := 24) hx hb hts hi6 tyX6 tyX6_ok nmX6 hown hK.1 hP hD hS 0 rfl rfl 0 (by decide) wf47 (fun _ h9 => h9) rfl (by decide +kernel) rfl rfl (Nat.le_of_ble_eq_true rfl) dX6_outs_2 (fun H locs hP hD hS => ?_)
  have hP : va_P D vwCl [(md, .inr (6, [.int 0, m_1, m_2, m_3, m_4, .ref hs, m_6, m_7, m_8, m_9, m_10, m_11, m_12, m_13, m_14, m_15, m_16, m_17, m_18, m_19, m_20, m_21, m_22, m_23])), (hs, .inl (cI, 45, .inl (fun _ => 0)))] H := hP
  have hD : va_D A [(md, .inr (6, [.int 0, m_1, m_2, m_3, m_4, .ref hs, m_6, m_7, m_8, m_9, m_10, m_11, m_12, m_13, m_14, m_15, m_16, m_17, m_18, m_19, m_20, m_21, m_22, m_23])), (hs, .inl (cI, 45, .inl (fun _ => 0)))] := hD
  refine lv_aload_n hx hb dX6_outs_5 rfl (lv_at hl 0 rfl) ?_
  refine lv_iload_n hx hb dX6_outs_6 rfl (lv_at hl 1 rfl) ?_
  refine wt_rV (As := [.int a1]) (rest := []) ⟨hx, hb, hml, hown, hts⟩ (c_X6_isRoom l D cI cZ cH md hs a1 (.int 0) m_1 m_2 m_3 m_4 m_6 m_7 m_8 m_9 m_10 m_11 m_12 m_13 m_14 m_15 m_16 m_17 m_18 m_19 m_20 m_21 m_22 m_23) (cwV 1 hts gX6_outs_X6_isRoom rfl rfl rfl (by decide +kernel) ⟨Nat.le_of_ble_eq_true rfl, Nat.le_of_ble_eq_true rfl⟩) hK hP [0, 1] rfl (va_recv hK.1 hP (ci := 6) (q0 := 0) rfl rfl) rfl hl.1 rfl (Nat.le_of_ble_eq_true rfl) dX6_outs_7 ⟨Nat.le_of_ble_eq_true rfl, Nat.le_of_ble_eq_true rfl⟩ (fun r_1 e_2 => ?_)
  subst e_2
  refine lv_if_eq (tgt := 35) hx hb dX6_outs_10 (by decide) (fun _ => ?_) (fun h => absurd h (by decide))
  refine lv_ldc hx hb hown wc67 dX6_outs_35 ?_
  exact wt_iret hx hb hr hlocks hP hD hS (by rfl) dX6_outs_37
set_option maxHeartbeats 4000000 in
set_option maxRecDepth 100000 in
theorem c_X6_shakes (l : Launch) (D : va_G) (cI cZ cH : ClassId) (md hs : Nat) (a1 a2 a3 : Int32) (m_0 m_1 m_2 m_3 m_4 m_6 m_7 m_8 m_9 m_10 m_11 m_12 m_13 m_14 m_15 m_16 m_17 m_18 m_19 m_20 m_21 m_22 m_23 : Value) : wt_M l yX6_shakes wsX6_shakes ({ frames := 2, cells := 0, slots := 0, locals := 46 } : Room) D (wt_T cI cZ cH) [.ref md, .int a1, .int a2, .int a3] [(md, .inr (6, [m_0, m_1, m_2, m_3, m_4, .ref hs, m_6, m_7, m_8, m_9, m_10, m_11, m_12, m_13, m_14, m_15, m_16, m_17, m_18, m_19, m_20, m_21, m_22, m_23])), (hs, .inl (cI, 45, .inl (fun _ => 0)))] (wt_QI D (fun r w => r = (-1000001))) := by
  refine wt_M.ofW (cc := cX6_shakes) (maxL := 7) (ret := (some .int)) (by decide) rfl (Nat.le_of_ble_eq_true rfl) ?_
  intro p e s m below meth c A ls hx hb hr hts hown hlocks hml hnm hP hK hD hA hS hl
  have hP : va_P D vwCl [(md, .inr (6, [m_0, m_1, m_2, m_3, m_4, .ref hs, m_6, m_7, m_8, m_9, m_10, m_11, m_12, m_13, m_14, m_15, m_16, m_17, m_18, m_19, m_20, m_21, m_22, m_23])), (hs, .inl (cI, 45, .inl (fun _ => 0)))] s.heap := hP
  have hown : s.vm.findClass RX6 = some m.cls := hown
  have hl : lv_has ls 7 [(0, .ref md), (1, .int a1), (2, .int a2), (3, .int a3)] := hl
  have hi6 : ∀ w ∈ u_ws RX6 TX6 24, w ∈ wsX6_shakes := by decide +kernel
  have wc67 := hts (.constant RX6 67 (-1000001)) (by decide +kernel)
  have wf47 := hts (.fieldLink RX6 47 "WarmTubesModel" "thrown" "I") (by decide +kernel)
  refine lv_aload_n hx hb dX6_shakes_0 rfl (lv_at hl 0 rfl) ?_
  refine lv_iconst (v := 0) hx hb dX6_shakes_1 (by decide) ?_
  refine va_put (D := D) (ci := 6) (v := .int 0) (ty := .int) (C := RX6) (T := TX6) (N := 24) hx hb hts hi6 tyX6 tyX6_ok nmX6 hown hK.1 hP hD hS 0 rfl rfl 0 (by decide) wf47 (fun _ h9 => h9) rfl (by decide +kernel) rfl rfl (Nat.le_of_ble_eq_true rfl) dX6_shakes_2 (fun H locs hP hD hS => ?_)
  have hP : va_P D vwCl [(md, .inr (6, [.int 0, m_1, m_2, m_3, m_4, .ref hs, m_6, m_7, m_8, m_9, m_10, m_11, m_12, m_13, m_14, m_15, m_16, m_17, m_18, m_19, m_20, m_21, m_22, m_23])), (hs, .inl (cI, 45, .inl (fun _ => 0)))] H := hP
  have hD : va_D A [(md, .inr (6, [.int 0, m_1, m_2, m_3, m_4, .ref hs, m_6, m_7, m_8, m_9, m_10, m_11, m_12, m_13, m_14, m_15, m_16, m_17, m_18, m_19, m_20, m_21, m_22, m_23])), (hs, .inl (cI, 45, .inl (fun _ => 0)))] := hD
  refine lv_aload_n hx hb dX6_shakes_5 rfl (lv_at hl 0 rfl) ?_
  refine lv_iload_n hx hb dX6_shakes_6 rfl (lv_at hl 1 rfl) ?_
  refine wt_rV (As := [.int a1]) (rest := []) ⟨hx, hb, hml, hown, hts⟩ (c_X6_isRoom l D cI cZ cH md hs a1 (.int 0) m_1 m_2 m_3 m_4 m_6 m_7 m_8 m_9 m_10 m_11 m_12 m_13 m_14 m_15 m_16 m_17 m_18 m_19 m_20 m_21 m_22 m_23) (cwV 1 hts gX6_shakes_X6_isRoom rfl rfl rfl (by decide +kernel) ⟨Nat.le_of_ble_eq_true rfl, Nat.le_of_ble_eq_true rfl⟩) hK hP [0, 1] rfl (va_recv hK.1 hP (ci := 6) (q0 := 0) rfl rfl) rfl hl.1 rfl (Nat.le_of_ble_eq_true rfl) dX6_shakes_7 ⟨Nat.le_of_ble_eq_true rfl, Nat.le_of_ble_eq_true rfl⟩ (fun r_1 e_2 => ?_)
  subst e_2
  refine lv_if_eq (tgt := 35) hx hb dX6_shakes_10 (by decide) (fun _ => ?_) (fun h => absurd h (by decide))
  refine lv_ldc hx hb hown wc67 dX6_shakes_35 ?_
  exact wt_iret hx hb hr hlocks hP hD hS (by rfl) dX6_shakes_37
set_option maxHeartbeats 4000000 in
set_option maxRecDepth 100000 in
theorem c_X6_fire (l : Launch) (D : va_G) (cI cZ cH : ClassId) (md hs : Nat) (a1 a2 : Int32) (m_0 m_1 m_2 m_3 m_4 m_6 m_7 m_8 m_9 m_10 m_11 m_12 m_13 m_14 m_15 m_16 m_17 m_18 m_19 m_20 m_21 m_22 m_23 : Value) : wt_M l yX6_fire wsX6_fire ({ frames := 2, cells := 0, slots := 0, locals := 46 } : Room) D (wt_T cI cZ cH) [.ref md, .int a1, .int a2] [(md, .inr (6, [m_0, m_1, m_2, m_3, m_4, .ref hs, m_6, m_7, m_8, m_9, m_10, m_11, m_12, m_13, m_14, m_15, m_16, m_17, m_18, m_19, m_20, m_21, m_22, m_23])), (hs, .inl (cI, 45, .inl (fun _ => 0)))] (wt_QI D (fun r w => r = (-1000001))) := by
  refine wt_M.ofW (cc := cX6_fire) (maxL := 4) (ret := (some .int)) (by decide) rfl (Nat.le_of_ble_eq_true rfl) ?_
  intro p e s m below meth c A ls hx hb hr hts hown hlocks hml hnm hP hK hD hA hS hl
  have hP : va_P D vwCl [(md, .inr (6, [m_0, m_1, m_2, m_3, m_4, .ref hs, m_6, m_7, m_8, m_9, m_10, m_11, m_12, m_13, m_14, m_15, m_16, m_17, m_18, m_19, m_20, m_21, m_22, m_23])), (hs, .inl (cI, 45, .inl (fun _ => 0)))] s.heap := hP
  have hown : s.vm.findClass RX6 = some m.cls := hown
  have hl : lv_has ls 4 [(0, .ref md), (1, .int a1), (2, .int a2)] := hl
  have hi6 : ∀ w ∈ u_ws RX6 TX6 24, w ∈ wsX6_fire := by decide +kernel
  have wc67 := hts (.constant RX6 67 (-1000001)) (by decide +kernel)
  have wf47 := hts (.fieldLink RX6 47 "WarmTubesModel" "thrown" "I") (by decide +kernel)
  refine lv_aload_n hx hb dX6_fire_0 rfl (lv_at hl 0 rfl) ?_
  refine lv_iconst (v := 0) hx hb dX6_fire_1 (by decide) ?_
  refine va_put (D := D) (ci := 6) (v := .int 0) (ty := .int) (C := RX6) (T := TX6) (N := 24) hx hb hts hi6 tyX6 tyX6_ok nmX6 hown hK.1 hP hD hS 0 rfl rfl 0 (by decide) wf47 (fun _ h9 => h9) rfl (by decide +kernel) rfl rfl (Nat.le_of_ble_eq_true rfl) dX6_fire_2 (fun H locs hP hD hS => ?_)
  have hP : va_P D vwCl [(md, .inr (6, [.int 0, m_1, m_2, m_3, m_4, .ref hs, m_6, m_7, m_8, m_9, m_10, m_11, m_12, m_13, m_14, m_15, m_16, m_17, m_18, m_19, m_20, m_21, m_22, m_23])), (hs, .inl (cI, 45, .inl (fun _ => 0)))] H := hP
  have hD : va_D A [(md, .inr (6, [.int 0, m_1, m_2, m_3, m_4, .ref hs, m_6, m_7, m_8, m_9, m_10, m_11, m_12, m_13, m_14, m_15, m_16, m_17, m_18, m_19, m_20, m_21, m_22, m_23])), (hs, .inl (cI, 45, .inl (fun _ => 0)))] := hD
  refine lv_aload_n hx hb dX6_fire_5 rfl (lv_at hl 0 rfl) ?_
  refine lv_iload_n hx hb dX6_fire_6 rfl (lv_at hl 1 rfl) ?_
  refine wt_rV (As := [.int a1]) (rest := []) ⟨hx, hb, hml, hown, hts⟩ (c_X6_isRoom l D cI cZ cH md hs a1 (.int 0) m_1 m_2 m_3 m_4 m_6 m_7 m_8 m_9 m_10 m_11 m_12 m_13 m_14 m_15 m_16 m_17 m_18 m_19 m_20 m_21 m_22 m_23) (cwV 1 hts gX6_fire_X6_isRoom rfl rfl rfl (by decide +kernel) ⟨Nat.le_of_ble_eq_true rfl, Nat.le_of_ble_eq_true rfl⟩) hK hP [0, 1] rfl (va_recv hK.1 hP (ci := 6) (q0 := 0) rfl rfl) rfl hl.1 rfl (Nat.le_of_ble_eq_true rfl) dX6_fire_7 ⟨Nat.le_of_ble_eq_true rfl, Nat.le_of_ble_eq_true rfl⟩ (fun r_1 e_2 => ?_)
  subst e_2
  refine lv_if_eq (tgt := 25) hx hb dX6_fire_10 (by decide) (fun _ => ?_) (fun h => absurd h (by decide))
  refine lv_ldc hx hb hown wc67 dX6_fire_25 ?_
  exact wt_iret hx hb hr hlocks hP hD hS (by rfl) dX6_fire_27
set_option maxHeartbeats 4000000 in
set_option maxRecDepth 100000 in
theorem c_X6_mix (l : Launch) (D : va_G) (cI cZ cH : ClassId) (md hs : Nat) (a1 a2 a3 : Int32) (m_0 m_1 m_2 m_3 m_4 m_6 m_7 m_8 m_9 m_10 m_11 m_12 m_13 m_14 m_15 m_16 m_17 m_18 m_19 m_20 m_21 m_22 m_23 : Value) : wt_M l yX6_mix wsX6_mix ({ frames := 2, cells := 0, slots := 0, locals := 46 } : Room) D (wt_T cI cZ cH) [.ref md, .int a1, .int a2, .int a3] [(md, .inr (6, [m_0, m_1, m_2, m_3, m_4, .ref hs, m_6, m_7, m_8, m_9, m_10, m_11, m_12, m_13, m_14, m_15, m_16, m_17, m_18, m_19, m_20, m_21, m_22, m_23])), (hs, .inl (cI, 45, .inl (fun _ => 0)))] (wt_QI D (fun r w => r = (-1000001))) := by
  refine wt_M.ofW (cc := cX6_mix) (maxL := 9) (ret := (some .int)) (by decide) rfl (Nat.le_of_ble_eq_true rfl) ?_
  intro p e s m below meth c A ls hx hb hr hts hown hlocks hml hnm hP hK hD hA hS hl
  have hP : va_P D vwCl [(md, .inr (6, [m_0, m_1, m_2, m_3, m_4, .ref hs, m_6, m_7, m_8, m_9, m_10, m_11, m_12, m_13, m_14, m_15, m_16, m_17, m_18, m_19, m_20, m_21, m_22, m_23])), (hs, .inl (cI, 45, .inl (fun _ => 0)))] s.heap := hP
  have hown : s.vm.findClass RX6 = some m.cls := hown
  have hl : lv_has ls 9 [(0, .ref md), (1, .int a1), (2, .int a2), (3, .int a3)] := hl
  have hi6 : ∀ w ∈ u_ws RX6 TX6 24, w ∈ wsX6_mix := by decide +kernel
  have wc67 := hts (.constant RX6 67 (-1000001)) (by decide +kernel)
  have wf47 := hts (.fieldLink RX6 47 "WarmTubesModel" "thrown" "I") (by decide +kernel)
  refine lv_aload_n hx hb dX6_mix_0 rfl (lv_at hl 0 rfl) ?_
  refine lv_iconst (v := 0) hx hb dX6_mix_1 (by decide) ?_
  refine va_put (D := D) (ci := 6) (v := .int 0) (ty := .int) (C := RX6) (T := TX6) (N := 24) hx hb hts hi6 tyX6 tyX6_ok nmX6 hown hK.1 hP hD hS 0 rfl rfl 0 (by decide) wf47 (fun _ h9 => h9) rfl (by decide +kernel) rfl rfl (Nat.le_of_ble_eq_true rfl) dX6_mix_2 (fun H locs hP hD hS => ?_)
  have hP : va_P D vwCl [(md, .inr (6, [.int 0, m_1, m_2, m_3, m_4, .ref hs, m_6, m_7, m_8, m_9, m_10, m_11, m_12, m_13, m_14, m_15, m_16, m_17, m_18, m_19, m_20, m_21, m_22, m_23])), (hs, .inl (cI, 45, .inl (fun _ => 0)))] H := hP
  have hD : va_D A [(md, .inr (6, [.int 0, m_1, m_2, m_3, m_4, .ref hs, m_6, m_7, m_8, m_9, m_10, m_11, m_12, m_13, m_14, m_15, m_16, m_17, m_18, m_19, m_20, m_21, m_22, m_23])), (hs, .inl (cI, 45, .inl (fun _ => 0)))] := hD
  refine lv_aload_n hx hb dX6_mix_5 rfl (lv_at hl 0 rfl) ?_
  refine lv_iload_n hx hb dX6_mix_6 rfl (lv_at hl 1 rfl) ?_
  refine wt_rV (As := [.int a1]) (rest := []) ⟨hx, hb, hml, hown, hts⟩ (c_X6_isRoom l D cI cZ cH md hs a1 (.int 0) m_1 m_2 m_3 m_4 m_6 m_7 m_8 m_9 m_10 m_11 m_12 m_13 m_14 m_15 m_16 m_17 m_18 m_19 m_20 m_21 m_22 m_23) (cwV 1 hts gX6_mix_X6_isRoom rfl rfl rfl (by decide +kernel) ⟨Nat.le_of_ble_eq_true rfl, Nat.le_of_ble_eq_true rfl⟩) hK hP [0, 1] rfl (va_recv hK.1 hP (ci := 6) (q0 := 0) rfl rfl) rfl hl.1 rfl (Nat.le_of_ble_eq_true rfl) dX6_mix_7 ⟨Nat.le_of_ble_eq_true rfl, Nat.le_of_ble_eq_true rfl⟩ (fun r_1 e_2 => ?_)
  subst e_2
  refine lv_if_eq (tgt := 35) hx hb dX6_mix_10 (by decide) (fun _ => ?_) (fun h => absurd h (by decide))
  refine lv_ldc hx hb hown wc67 dX6_mix_35 ?_
  exact wt_iret hx hb hr hlocks hP hD hS (by rfl) dX6_mix_37
set_option maxHeartbeats 4000000 in
set_option maxRecDepth 100000 in
theorem c_X6_frosts (l : Launch) (D : va_G) (cI cZ cH : ClassId) (md hs : Nat) (a1 a2 a3 a4 a5 : Int32) (m_0 m_1 m_2 m_3 m_4 m_6 m_7 m_8 m_9 m_10 m_11 m_12 m_13 m_14 m_15 m_16 m_17 m_18 m_19 m_20 m_21 m_22 m_23 : Value) : wt_M l yX6_frosts wsX6_frosts ({ frames := 2, cells := 0, slots := 0, locals := 46 } : Room) D (wt_T cI cZ cH) [.ref md, .int a1, .int a2, .int a3, .int a4, .int a5] [(md, .inr (6, [m_0, m_1, m_2, m_3, m_4, .ref hs, m_6, m_7, m_8, m_9, m_10, m_11, m_12, m_13, m_14, m_15, m_16, m_17, m_18, m_19, m_20, m_21, m_22, m_23])), (hs, .inl (cI, 45, .inl (fun _ => 0)))] (wt_QI D (fun r w => r = (-1000001))) := by
  refine wt_M.ofW (cc := cX6_frosts) (maxL := 9) (ret := (some .int)) (by decide) rfl (Nat.le_of_ble_eq_true rfl) ?_
  intro p e s m below meth c A ls hx hb hr hts hown hlocks hml hnm hP hK hD hA hS hl
  have hP : va_P D vwCl [(md, .inr (6, [m_0, m_1, m_2, m_3, m_4, .ref hs, m_6, m_7, m_8, m_9, m_10, m_11, m_12, m_13, m_14, m_15, m_16, m_17, m_18, m_19, m_20, m_21, m_22, m_23])), (hs, .inl (cI, 45, .inl (fun _ => 0)))] s.heap := hP
  have hown : s.vm.findClass RX6 = some m.cls := hown
  have hl : lv_has ls 9 [(0, .ref md), (1, .int a1), (2, .int a2), (3, .int a3), (4, .int a4), (5, .int a5)] := hl
  have hi6 : ∀ w ∈ u_ws RX6 TX6 24, w ∈ wsX6_frosts := by decide +kernel
  have wc67 := hts (.constant RX6 67 (-1000001)) (by decide +kernel)
  have wf47 := hts (.fieldLink RX6 47 "WarmTubesModel" "thrown" "I") (by decide +kernel)
  refine lv_aload_n hx hb dX6_frosts_0 rfl (lv_at hl 0 rfl) ?_
  refine lv_iconst (v := 0) hx hb dX6_frosts_1 (by decide) ?_
  refine va_put (D := D) (ci := 6) (v := .int 0) (ty := .int) (C := RX6) (T := TX6) (N := 24) hx hb hts hi6 tyX6 tyX6_ok nmX6 hown hK.1 hP hD hS 0 rfl rfl 0 (by decide) wf47 (fun _ h9 => h9) rfl (by decide +kernel) rfl rfl (Nat.le_of_ble_eq_true rfl) dX6_frosts_2 (fun H locs hP hD hS => ?_)
  have hP : va_P D vwCl [(md, .inr (6, [.int 0, m_1, m_2, m_3, m_4, .ref hs, m_6, m_7, m_8, m_9, m_10, m_11, m_12, m_13, m_14, m_15, m_16, m_17, m_18, m_19, m_20, m_21, m_22, m_23])), (hs, .inl (cI, 45, .inl (fun _ => 0)))] H := hP
  have hD : va_D A [(md, .inr (6, [.int 0, m_1, m_2, m_3, m_4, .ref hs, m_6, m_7, m_8, m_9, m_10, m_11, m_12, m_13, m_14, m_15, m_16, m_17, m_18, m_19, m_20, m_21, m_22, m_23])), (hs, .inl (cI, 45, .inl (fun _ => 0)))] := hD
  refine lv_aload_n hx hb dX6_frosts_5 rfl (lv_at hl 0 rfl) ?_
  refine lv_iload_n hx hb dX6_frosts_6 rfl (lv_at hl 1 rfl) ?_
  refine wt_rV (As := [.int a1]) (rest := []) ⟨hx, hb, hml, hown, hts⟩ (c_X6_isRoom l D cI cZ cH md hs a1 (.int 0) m_1 m_2 m_3 m_4 m_6 m_7 m_8 m_9 m_10 m_11 m_12 m_13 m_14 m_15 m_16 m_17 m_18 m_19 m_20 m_21 m_22 m_23) (cwV 1 hts gX6_frosts_X6_isRoom rfl rfl rfl (by decide +kernel) ⟨Nat.le_of_ble_eq_true rfl, Nat.le_of_ble_eq_true rfl⟩) hK hP [0, 1] rfl (va_recv hK.1 hP (ci := 6) (q0 := 0) rfl rfl) rfl hl.1 rfl (Nat.le_of_ble_eq_true rfl) dX6_frosts_7 ⟨Nat.le_of_ble_eq_true rfl, Nat.le_of_ble_eq_true rfl⟩ (fun r_1 e_2 => ?_)
  subst e_2
  refine lv_if_eq (tgt := 43) hx hb dX6_frosts_10 (by decide) (fun _ => ?_) (fun h => absurd h (by decide))
  refine lv_ldc hx hb hown wc67 dX6_frosts_43 ?_
  exact wt_iret hx hb hr hlocks hP hD hS (by rfl) dX6_frosts_45
set_option maxHeartbeats 4000000 in
set_option maxRecDepth 100000 in
theorem c_X6_forgotten (l : Launch) (D : va_G) (cI cZ cH : ClassId) (md hs : Nat) (a1 a2 a3 a4 : Int32) (m_0 m_1 m_2 m_3 m_4 m_6 m_7 m_8 m_9 m_10 m_11 m_12 m_13 m_14 m_15 m_16 m_17 m_18 m_19 m_20 m_21 m_22 m_23 : Value) : wt_M l yX6_forgotten wsX6_forgotten ({ frames := 2, cells := 0, slots := 0, locals := 46 } : Room) D (wt_T cI cZ cH) [.ref md, .int a1, .int a2, .int a3, .int a4] [(md, .inr (6, [m_0, m_1, m_2, m_3, m_4, .ref hs, m_6, m_7, m_8, m_9, m_10, m_11, m_12, m_13, m_14, m_15, m_16, m_17, m_18, m_19, m_20, m_21, m_22, m_23])), (hs, .inl (cI, 45, .inl (fun _ => 0)))] (wt_QL D (fun r w => r = (-1000001))) := by
  refine wt_M.ofW (cc := cX6_forgotten) (maxL := 16) (ret := (some .long)) (by decide) rfl (Nat.le_of_ble_eq_true rfl) ?_
  intro p e s m below meth c A ls hx hb hr hts hown hlocks hml hnm hP hK hD hA hS hl
  have hP : va_P D vwCl [(md, .inr (6, [m_0, m_1, m_2, m_3, m_4, .ref hs, m_6, m_7, m_8, m_9, m_10, m_11, m_12, m_13, m_14, m_15, m_16, m_17, m_18, m_19, m_20, m_21, m_22, m_23])), (hs, .inl (cI, 45, .inl (fun _ => 0)))] s.heap := hP
  have hown : s.vm.findClass RX6 = some m.cls := hown
  have hl : lv_has ls 16 [(0, .ref md), (1, .int a1), (2, .int a2), (3, .int a3), (4, .int a4)] := hl
  have hi6 : ∀ w ∈ u_ws RX6 TX6 24, w ∈ wsX6_forgotten := by decide +kernel
  have wf47 := hts (.fieldLink RX6 47 "WarmTubesModel" "thrown" "I") (by decide +kernel)
  have wl276 := hts (.constantLong RX6 276 (-1000001)) (by decide +kernel)
  refine lv_aload_n hx hb dX6_forgotten_0 rfl (lv_at hl 0 rfl) ?_
  refine lv_iconst (v := 0) hx hb dX6_forgotten_1 (by decide) ?_
  refine va_put (D := D) (ci := 6) (v := .int 0) (ty := .int) (C := RX6) (T := TX6) (N := 24) hx hb hts hi6 tyX6 tyX6_ok nmX6 hown hK.1 hP hD hS 0 rfl rfl 0 (by decide) wf47 (fun _ h9 => h9) rfl (by decide +kernel) rfl rfl (Nat.le_of_ble_eq_true rfl) dX6_forgotten_2 (fun H locs hP hD hS => ?_)
  have hP : va_P D vwCl [(md, .inr (6, [.int 0, m_1, m_2, m_3, m_4, .ref hs, m_6, m_7, m_8, m_9, m_10, m_11, m_12, m_13, m_14, m_15, m_16, m_17, m_18, m_19, m_20, m_21, m_22, m_23])), (hs, .inl (cI, 45, .inl (fun _ => 0)))] H := hP
  have hD : va_D A [(md, .inr (6, [.int 0, m_1, m_2, m_3, m_4, .ref hs, m_6, m_7, m_8, m_9, m_10, m_11, m_12, m_13, m_14, m_15, m_16, m_17, m_18, m_19, m_20, m_21, m_22, m_23])), (hs, .inl (cI, 45, .inl (fun _ => 0)))] := hD
  refine lv_aload_n hx hb dX6_forgotten_5 rfl (lv_at hl 0 rfl) ?_
  refine lv_iload_n hx hb dX6_forgotten_6 rfl (lv_at hl 1 rfl) ?_
  refine wt_rV (As := [.int a1]) (rest := []) ⟨hx, hb, hml, hown, hts⟩ (c_X6_isRoom l D cI cZ cH md hs a1 (.int 0) m_1 m_2 m_3 m_4 m_6 m_7 m_8 m_9 m_10 m_11 m_12 m_13 m_14 m_15 m_16 m_17 m_18 m_19 m_20 m_21 m_22 m_23) (cwV 1 hts gX6_forgotten_X6_isRoom rfl rfl rfl (by decide +kernel) ⟨Nat.le_of_ble_eq_true rfl, Nat.le_of_ble_eq_true rfl⟩) hK hP [0, 1] rfl (va_recv hK.1 hP (ci := 6) (q0 := 0) rfl rfl) rfl hl.1 rfl (Nat.le_of_ble_eq_true rfl) dX6_forgotten_7 ⟨Nat.le_of_ble_eq_true rfl, Nat.le_of_ble_eq_true rfl⟩ (fun r_1 e_2 => ?_)
  subst e_2
  refine lv_if_eq (tgt := 48) hx hb dX6_forgotten_10 (by decide) (fun _ => ?_) (fun h => absurd h (by decide))
  refine lv_ldc2 hx hb hown wl276 dX6_forgotten_48 ?_
  exact wt_lret hx hb hr hlocks hP hD hS (by rfl) dX6_forgotten_51
set_option maxHeartbeats 4000000 in
set_option maxRecDepth 100000 in
theorem c_X6_room (l : Launch) (D : va_G) (cI cZ cH : ClassId) (md hs : Nat) (a1 a2 : Int32) (m_0 m_1 m_2 m_3 m_4 m_6 m_7 m_8 m_9 m_10 m_11 m_12 m_13 m_14 m_15 m_16 m_17 m_18 m_19 m_20 m_21 m_22 m_23 : Value) : wt_M l yX6_room wsX6_room ({ frames := 2, cells := 0, slots := 0, locals := 41 } : Room) D (wt_T cI cZ cH) [.ref md, .int a1, .int a2] [(md, .inr (6, [m_0, m_1, m_2, m_3, m_4, .ref hs, m_6, m_7, m_8, m_9, m_10, m_11, m_12, m_13, m_14, m_15, m_16, m_17, m_18, m_19, m_20, m_21, m_22, m_23])), (hs, .inl (cI, 45, .inl (fun _ => 0)))] (wt_QI D (fun r w => r = (-1000001))) := by
  refine wt_M.ofW (cc := cX6_room) (maxL := 3) (ret := (some .int)) (by decide) rfl (Nat.le_of_ble_eq_true rfl) ?_
  intro p e s m below meth c A ls hx hb hr hts hown hlocks hml hnm hP hK hD hA hS hl
  have hP : va_P D vwCl [(md, .inr (6, [m_0, m_1, m_2, m_3, m_4, .ref hs, m_6, m_7, m_8, m_9, m_10, m_11, m_12, m_13, m_14, m_15, m_16, m_17, m_18, m_19, m_20, m_21, m_22, m_23])), (hs, .inl (cI, 45, .inl (fun _ => 0)))] s.heap := hP
  have hown : s.vm.findClass RX6 = some m.cls := hown
  have hl : lv_has ls 3 [(0, .ref md), (1, .int a1), (2, .int a2)] := hl
  have hi6 : ∀ w ∈ u_ws RX6 TX6 24, w ∈ wsX6_room := by decide +kernel
  have wc67 := hts (.constant RX6 67 (-1000001)) (by decide +kernel)
  have wf47 := hts (.fieldLink RX6 47 "WarmTubesModel" "thrown" "I") (by decide +kernel)
  refine lv_aload_n hx hb dX6_room_0 rfl (lv_at hl 0 rfl) ?_
  refine lv_iconst (v := 0) hx hb dX6_room_1 (by decide) ?_
  refine va_put (D := D) (ci := 6) (v := .int 0) (ty := .int) (C := RX6) (T := TX6) (N := 24) hx hb hts hi6 tyX6 tyX6_ok nmX6 hown hK.1 hP hD hS 0 rfl rfl 0 (by decide) wf47 (fun _ h9 => h9) rfl (by decide +kernel) rfl rfl (Nat.le_of_ble_eq_true rfl) dX6_room_2 (fun H locs hP hD hS => ?_)
  have hP : va_P D vwCl [(md, .inr (6, [.int 0, m_1, m_2, m_3, m_4, .ref hs, m_6, m_7, m_8, m_9, m_10, m_11, m_12, m_13, m_14, m_15, m_16, m_17, m_18, m_19, m_20, m_21, m_22, m_23])), (hs, .inl (cI, 45, .inl (fun _ => 0)))] H := hP
  have hD : va_D A [(md, .inr (6, [.int 0, m_1, m_2, m_3, m_4, .ref hs, m_6, m_7, m_8, m_9, m_10, m_11, m_12, m_13, m_14, m_15, m_16, m_17, m_18, m_19, m_20, m_21, m_22, m_23])), (hs, .inl (cI, 45, .inl (fun _ => 0)))] := hD
  refine lv_aload_n hx hb dX6_room_5 rfl (lv_at hl 0 rfl) ?_
  refine lv_iload_n hx hb dX6_room_6 rfl (lv_at hl 1 rfl) ?_
  refine wt_rV (As := [.int a1]) (rest := []) ⟨hx, hb, hml, hown, hts⟩ (c_X6_isPlace l D cI cZ cH md hs a1 (.int 0) m_1 m_2 m_3 m_4 m_6 m_7 m_8 m_9 m_10 m_11 m_12 m_13 m_14 m_15 m_16 m_17 m_18 m_19 m_20 m_21 m_22 m_23) (cwV 1 hts gX6_room_X6_isPlace rfl rfl rfl (by decide +kernel) ⟨Nat.le_of_ble_eq_true rfl, Nat.le_of_ble_eq_true rfl⟩) hK hP [0, 1] rfl (va_recv hK.1 hP (ci := 6) (q0 := 0) rfl rfl) rfl hl.1 rfl (Nat.le_of_ble_eq_true rfl) dX6_room_7 ⟨Nat.le_of_ble_eq_true rfl, Nat.le_of_ble_eq_true rfl⟩ (fun r_1 e_2 => ?_)
  subst e_2
  refine lv_if_eq (tgt := 40) hx hb dX6_room_10 (by decide) (fun _ => ?_) (fun h => absurd h (by decide))
  refine lv_ldc hx hb hown wc67 dX6_room_40 ?_
  exact wt_iret hx hb hr hlocks hP hD hS (by rfl) dX6_room_42
set_option maxHeartbeats 4000000 in
set_option maxRecDepth 100000 in
theorem c_X6_minutes (l : Launch) (D : va_G) (cI cZ cH : ClassId) (md hs : Nat) (a1 : Int32) (m_0 m_1 m_2 m_3 m_4 m_6 m_7 m_8 m_9 m_10 m_11 m_12 m_13 m_14 m_15 m_16 m_17 m_18 m_19 m_20 m_21 m_22 m_23 : Value) : wt_M l yX6_minutes wsX6_minutes ({ frames := 1, cells := 0, slots := 0, locals := 20 } : Room) D (wt_T cI cZ cH) [.ref md, .int a1] [(md, .inr (6, [m_0, m_1, m_2, m_3, m_4, .ref hs, m_6, m_7, m_8, m_9, m_10, m_11, m_12, m_13, m_14, m_15, m_16, m_17, m_18, m_19, m_20, m_21, m_22, m_23])), (hs, .inl (cI, 45, .inl (fun _ => 0)))] (wt_QI D (fun r w => r = (-1000002))) := by
  refine wt_M.ofW (cc := cX6_minutes) (maxL := 3) (ret := (some .int)) (by decide) rfl (Nat.le_of_ble_eq_true rfl) ?_
  intro p e s m below meth c A ls hx hb hr hts hown hlocks hml hnm hP hK hD hA hS hl
  have hP : va_P D vwCl [(md, .inr (6, [m_0, m_1, m_2, m_3, m_4, .ref hs, m_6, m_7, m_8, m_9, m_10, m_11, m_12, m_13, m_14, m_15, m_16, m_17, m_18, m_19, m_20, m_21, m_22, m_23])), (hs, .inl (cI, 45, .inl (fun _ => 0)))] s.heap := hP
  have hown : s.vm.findClass RX6 = some m.cls := hown
  have hl : lv_has ls 3 [(0, .ref md), (1, .int a1)] := hl
  have hi6 : ∀ w ∈ u_ws RX6 TX6 24, w ∈ wsX6_minutes := by decide +kernel
  have wc189 := hts (.constant RX6 189 (-1000002)) (by decide +kernel)
  have wf47 := hts (.fieldLink RX6 47 "WarmTubesModel" "thrown" "I") (by decide +kernel)
  refine lv_aload_n hx hb dX6_minutes_0 rfl (lv_at hl 0 rfl) ?_
  refine lv_iconst (v := 0) hx hb dX6_minutes_1 (by decide) ?_
  refine va_put (D := D) (ci := 6) (v := .int 0) (ty := .int) (C := RX6) (T := TX6) (N := 24) hx hb hts hi6 tyX6 tyX6_ok nmX6 hown hK.1 hP hD hS 0 rfl rfl 0 (by decide) wf47 (fun _ h9 => h9) rfl (by decide +kernel) rfl rfl (Nat.le_of_ble_eq_true rfl) dX6_minutes_2 (fun H locs hP hD hS => ?_)
  have hP : va_P D vwCl [(md, .inr (6, [.int 0, m_1, m_2, m_3, m_4, .ref hs, m_6, m_7, m_8, m_9, m_10, m_11, m_12, m_13, m_14, m_15, m_16, m_17, m_18, m_19, m_20, m_21, m_22, m_23])), (hs, .inl (cI, 45, .inl (fun _ => 0)))] H := hP
  have hD : va_D A [(md, .inr (6, [.int 0, m_1, m_2, m_3, m_4, .ref hs, m_6, m_7, m_8, m_9, m_10, m_11, m_12, m_13, m_14, m_15, m_16, m_17, m_18, m_19, m_20, m_21, m_22, m_23])), (hs, .inl (cI, 45, .inl (fun _ => 0)))] := hD
  refine lv_aload_n hx hb dX6_minutes_5 rfl (lv_at hl 0 rfl) ?_
  refine wt_rV (As := []) (rest := []) ⟨hx, hb, hml, hown, hts⟩ (c_X6_isThere l D cI cZ cH md hs (.int 0) m_1 m_2 m_3 m_4 m_6 m_7 m_8 m_9 m_10 m_11 m_12 m_13 m_14 m_15 m_16 m_17 m_18 m_19 m_20 m_21 m_22 m_23) (cwV 0 hts gX6_minutes_X6_isThere rfl rfl rfl (by decide +kernel) ⟨Nat.le_of_ble_eq_true rfl, Nat.le_of_ble_eq_true rfl⟩) hK hP [0, 1] rfl (va_recv hK.1 hP (ci := 6) (q0 := 0) rfl rfl) rfl hl.1 rfl (Nat.le_of_ble_eq_true rfl) dX6_minutes_6 ⟨Nat.le_of_ble_eq_true rfl, Nat.le_of_ble_eq_true rfl⟩ (fun r_1 e_2 => ?_)
  subst e_2
  refine lv_if_ne (tgt := 15) hx hb dX6_minutes_9 (by decide) (fun h => absurd h (by decide)) (fun _ => ?_)
  refine lv_ldc hx hb hown wc189 dX6_minutes_12 ?_
  exact wt_iret hx hb hr hlocks hP hD hS (by rfl) dX6_minutes_14
set_option maxHeartbeats 4000000 in
set_option maxRecDepth 100000 in
theorem c_X6_first (l : Launch) (D : va_G) (cI cZ cH : ClassId) (md hs : Nat) (a1 : Int32) (m_0 m_1 m_2 m_3 m_4 m_6 m_7 m_8 m_9 m_10 m_11 m_12 m_13 m_14 m_15 m_16 m_17 m_18 m_19 m_20 m_21 m_22 m_23 : Value) : wt_M l yX6_first wsX6_first ({ frames := 1, cells := 0, slots := 0, locals := 20 } : Room) D (wt_T cI cZ cH) [.ref md, .int a1] [(md, .inr (6, [m_0, m_1, m_2, m_3, m_4, .ref hs, m_6, m_7, m_8, m_9, m_10, m_11, m_12, m_13, m_14, m_15, m_16, m_17, m_18, m_19, m_20, m_21, m_22, m_23])), (hs, .inl (cI, 45, .inl (fun _ => 0)))] (wt_QI D (fun r w => r = (-1000002))) := by
  refine wt_M.ofW (cc := cX6_first) (maxL := 4) (ret := (some .int)) (by decide) rfl (Nat.le_of_ble_eq_true rfl) ?_
  intro p e s m below meth c A ls hx hb hr hts hown hlocks hml hnm hP hK hD hA hS hl
  have hP : va_P D vwCl [(md, .inr (6, [m_0, m_1, m_2, m_3, m_4, .ref hs, m_6, m_7, m_8, m_9, m_10, m_11, m_12, m_13, m_14, m_15, m_16, m_17, m_18, m_19, m_20, m_21, m_22, m_23])), (hs, .inl (cI, 45, .inl (fun _ => 0)))] s.heap := hP
  have hown : s.vm.findClass RX6 = some m.cls := hown
  have hl : lv_has ls 4 [(0, .ref md), (1, .int a1)] := hl
  have hi6 : ∀ w ∈ u_ws RX6 TX6 24, w ∈ wsX6_first := by decide +kernel
  have wc189 := hts (.constant RX6 189 (-1000002)) (by decide +kernel)
  have wf47 := hts (.fieldLink RX6 47 "WarmTubesModel" "thrown" "I") (by decide +kernel)
  refine lv_aload_n hx hb dX6_first_0 rfl (lv_at hl 0 rfl) ?_
  refine lv_iconst (v := 0) hx hb dX6_first_1 (by decide) ?_
  refine va_put (D := D) (ci := 6) (v := .int 0) (ty := .int) (C := RX6) (T := TX6) (N := 24) hx hb hts hi6 tyX6 tyX6_ok nmX6 hown hK.1 hP hD hS 0 rfl rfl 0 (by decide) wf47 (fun _ h9 => h9) rfl (by decide +kernel) rfl rfl (Nat.le_of_ble_eq_true rfl) dX6_first_2 (fun H locs hP hD hS => ?_)
  have hP : va_P D vwCl [(md, .inr (6, [.int 0, m_1, m_2, m_3, m_4, .ref hs, m_6, m_7, m_8, m_9, m_10, m_11, m_12, m_13, m_14, m_15, m_16, m_17, m_18, m_19, m_20, m_21, m_22, m_23])), (hs, .inl (cI, 45, .inl (fun _ => 0)))] H := hP
  have hD : va_D A [(md, .inr (6, [.int 0, m_1, m_2, m_3, m_4, .ref hs, m_6, m_7, m_8, m_9, m_10, m_11, m_12, m_13, m_14, m_15, m_16, m_17, m_18, m_19, m_20, m_21, m_22, m_23])), (hs, .inl (cI, 45, .inl (fun _ => 0)))] := hD
  refine lv_aload_n hx hb dX6_first_5 rfl (lv_at hl 0 rfl) ?_
  refine wt_rV (As := []) (rest := []) ⟨hx, hb, hml, hown, hts⟩ (c_X6_isThere l D cI cZ cH md hs (.int 0) m_1 m_2 m_3 m_4 m_6 m_7 m_8 m_9 m_10 m_11 m_12 m_13 m_14 m_15 m_16 m_17 m_18 m_19 m_20 m_21 m_22 m_23) (cwV 0 hts gX6_first_X6_isThere rfl rfl rfl (by decide +kernel) ⟨Nat.le_of_ble_eq_true rfl, Nat.le_of_ble_eq_true rfl⟩) hK hP [0, 1] rfl (va_recv hK.1 hP (ci := 6) (q0 := 0) rfl rfl) rfl hl.1 rfl (Nat.le_of_ble_eq_true rfl) dX6_first_6 ⟨Nat.le_of_ble_eq_true rfl, Nat.le_of_ble_eq_true rfl⟩ (fun r_1 e_2 => ?_)
  subst e_2
  refine lv_if_ne (tgt := 15) hx hb dX6_first_9 (by decide) (fun h => absurd h (by decide)) (fun _ => ?_)
  refine lv_ldc hx hb hown wc189 dX6_first_12 ?_
  exact wt_iret hx hb hr hlocks hP hD hS (by rfl) dX6_first_14
set_option maxHeartbeats 4000000 in
set_option maxRecDepth 100000 in
theorem c_X6_drawn (l : Launch) (D : va_G) (cI cZ cH : ClassId) (md hs : Nat) (a1 a2 a3 : Int32) (m_0 m_1 m_2 m_3 m_4 m_6 m_7 m_8 m_9 m_10 m_11 m_12 m_13 m_14 m_15 m_16 m_17 m_18 m_19 m_20 m_21 m_22 m_23 : Value) : wt_M l yX6_drawn wsX6_drawn ({ frames := 1, cells := 0, slots := 0, locals := 20 } : Room) D (wt_T cI cZ cH) [.ref md, .int a1, .int a2, .int a3] [(md, .inr (6, [m_0, m_1, m_2, m_3, m_4, .ref hs, m_6, m_7, m_8, m_9, m_10, m_11, m_12, m_13, m_14, m_15, m_16, m_17, m_18, m_19, m_20, m_21, m_22, m_23])), (hs, .inl (cI, 45, .inl (fun _ => 0)))] (wt_QI D (fun r w => r = (-1000002))) := by
  refine wt_M.ofW (cc := cX6_drawn) (maxL := 9) (ret := (some .int)) (by decide) rfl (Nat.le_of_ble_eq_true rfl) ?_
  intro p e s m below meth c A ls hx hb hr hts hown hlocks hml hnm hP hK hD hA hS hl
  have hP : va_P D vwCl [(md, .inr (6, [m_0, m_1, m_2, m_3, m_4, .ref hs, m_6, m_7, m_8, m_9, m_10, m_11, m_12, m_13, m_14, m_15, m_16, m_17, m_18, m_19, m_20, m_21, m_22, m_23])), (hs, .inl (cI, 45, .inl (fun _ => 0)))] s.heap := hP
  have hown : s.vm.findClass RX6 = some m.cls := hown
  have hl : lv_has ls 9 [(0, .ref md), (1, .int a1), (2, .int a2), (3, .int a3)] := hl
  have hi6 : ∀ w ∈ u_ws RX6 TX6 24, w ∈ wsX6_drawn := by decide +kernel
  have wc189 := hts (.constant RX6 189 (-1000002)) (by decide +kernel)
  have wf47 := hts (.fieldLink RX6 47 "WarmTubesModel" "thrown" "I") (by decide +kernel)
  refine lv_aload_n hx hb dX6_drawn_0 rfl (lv_at hl 0 rfl) ?_
  refine lv_iconst (v := 0) hx hb dX6_drawn_1 (by decide) ?_
  refine va_put (D := D) (ci := 6) (v := .int 0) (ty := .int) (C := RX6) (T := TX6) (N := 24) hx hb hts hi6 tyX6 tyX6_ok nmX6 hown hK.1 hP hD hS 0 rfl rfl 0 (by decide) wf47 (fun _ h9 => h9) rfl (by decide +kernel) rfl rfl (Nat.le_of_ble_eq_true rfl) dX6_drawn_2 (fun H locs hP hD hS => ?_)
  have hP : va_P D vwCl [(md, .inr (6, [.int 0, m_1, m_2, m_3, m_4, .ref hs, m_6, m_7, m_8, m_9, m_10, m_11, m_12, m_13, m_14, m_15, m_16, m_17, m_18, m_19, m_20, m_21, m_22, m_23])), (hs, .inl (cI, 45, .inl (fun _ => 0)))] H := hP
  have hD : va_D A [(md, .inr (6, [.int 0, m_1, m_2, m_3, m_4, .ref hs, m_6, m_7, m_8, m_9, m_10, m_11, m_12, m_13, m_14, m_15, m_16, m_17, m_18, m_19, m_20, m_21, m_22, m_23])), (hs, .inl (cI, 45, .inl (fun _ => 0)))] := hD
  refine lv_aload_n hx hb dX6_drawn_5 rfl (lv_at hl 0 rfl) ?_
  refine wt_rV (As := []) (rest := []) ⟨hx, hb, hml, hown, hts⟩ (c_X6_isThere l D cI cZ cH md hs (.int 0) m_1 m_2 m_3 m_4 m_6 m_7 m_8 m_9 m_10 m_11 m_12 m_13 m_14 m_15 m_16 m_17 m_18 m_19 m_20 m_21 m_22 m_23) (cwV 0 hts gX6_drawn_X6_isThere rfl rfl rfl (by decide +kernel) ⟨Nat.le_of_ble_eq_true rfl, Nat.le_of_ble_eq_true rfl⟩) hK hP [0, 1] rfl (va_recv hK.1 hP (ci := 6) (q0 := 0) rfl rfl) rfl hl.1 rfl (Nat.le_of_ble_eq_true rfl) dX6_drawn_6 ⟨Nat.le_of_ble_eq_true rfl, Nat.le_of_ble_eq_true rfl⟩ (fun r_1 e_2 => ?_)
  subst e_2
  refine lv_if_ne (tgt := 15) hx hb dX6_drawn_9 (by decide) (fun h => absurd h (by decide)) (fun _ => ?_)
  refine lv_ldc hx hb hown wc189 dX6_drawn_12 ?_
  exact wt_iret hx hb hr hlocks hP hD hS (by rfl) dX6_drawn_14
set_option maxHeartbeats 4000000 in
set_option maxRecDepth 100000 in
theorem c_X6_degrees (l : Launch) (D : va_G) (cI cZ cH : ClassId) (md hs : Nat) (m_0 m_1 m_2 m_3 m_4 m_6 m_7 m_8 m_9 m_10 m_11 m_12 m_13 m_14 m_15 m_16 m_17 m_18 m_19 m_20 m_21 m_22 m_23 : Value) : wt_M l yX6_degrees wsX6_degrees ({ frames := 1, cells := 0, slots := 0, locals := 20 } : Room) D (wt_T cI cZ cH) [.ref md] [(md, .inr (6, [m_0, m_1, m_2, m_3, m_4, .ref hs, m_6, m_7, m_8, m_9, m_10, m_11, m_12, m_13, m_14, m_15, m_16, m_17, m_18, m_19, m_20, m_21, m_22, m_23])), (hs, .inl (cI, 45, .inl (fun _ => 0)))] (wt_QI D (fun r w => r = (-1000002))) := by
  refine wt_M.ofW (cc := cX6_degrees) (maxL := 1) (ret := (some .int)) (by decide) rfl (Nat.le_of_ble_eq_true rfl) ?_
  intro p e s m below meth c A ls hx hb hr hts hown hlocks hml hnm hP hK hD hA hS hl
  have hP : va_P D vwCl [(md, .inr (6, [m_0, m_1, m_2, m_3, m_4, .ref hs, m_6, m_7, m_8, m_9, m_10, m_11, m_12, m_13, m_14, m_15, m_16, m_17, m_18, m_19, m_20, m_21, m_22, m_23])), (hs, .inl (cI, 45, .inl (fun _ => 0)))] s.heap := hP
  have hown : s.vm.findClass RX6 = some m.cls := hown
  have hl : lv_has ls 1 [(0, .ref md)] := hl
  have hi6 : ∀ w ∈ u_ws RX6 TX6 24, w ∈ wsX6_degrees := by decide +kernel
  have wc189 := hts (.constant RX6 189 (-1000002)) (by decide +kernel)
  have wf47 := hts (.fieldLink RX6 47 "WarmTubesModel" "thrown" "I") (by decide +kernel)
  refine lv_aload_n hx hb dX6_degrees_0 rfl (lv_at hl 0 rfl) ?_
  refine lv_iconst (v := 0) hx hb dX6_degrees_1 (by decide) ?_
  refine va_put (D := D) (ci := 6) (v := .int 0) (ty := .int) (C := RX6) (T := TX6) (N := 24) hx hb hts hi6 tyX6 tyX6_ok nmX6 hown hK.1 hP hD hS 0 rfl rfl 0 (by decide) wf47 (fun _ h9 => h9) rfl (by decide +kernel) rfl rfl (Nat.le_of_ble_eq_true rfl) dX6_degrees_2 (fun H locs hP hD hS => ?_)
  have hP : va_P D vwCl [(md, .inr (6, [.int 0, m_1, m_2, m_3, m_4, .ref hs, m_6, m_7, m_8, m_9, m_10, m_11, m_12, m_13, m_14, m_15, m_16, m_17, m_18, m_19, m_20, m_21, m_22, m_23])), (hs, .inl (cI, 45, .inl (fun _ => 0)))] H := hP
  have hD : va_D A [(md, .inr (6, [.int 0, m_1, m_2, m_3, m_4, .ref hs, m_6, m_7, m_8, m_9, m_10, m_11, m_12, m_13, m_14, m_15, m_16, m_17, m_18, m_19, m_20, m_21, m_22, m_23])), (hs, .inl (cI, 45, .inl (fun _ => 0)))] := hD
  refine lv_aload_n hx hb dX6_degrees_5 rfl (lv_at hl 0 rfl) ?_
  refine wt_rV (As := []) (rest := []) ⟨hx, hb, hml, hown, hts⟩ (c_X6_isThere l D cI cZ cH md hs (.int 0) m_1 m_2 m_3 m_4 m_6 m_7 m_8 m_9 m_10 m_11 m_12 m_13 m_14 m_15 m_16 m_17 m_18 m_19 m_20 m_21 m_22 m_23) (cwV 0 hts gX6_degrees_X6_isThere rfl rfl rfl (by decide +kernel) ⟨Nat.le_of_ble_eq_true rfl, Nat.le_of_ble_eq_true rfl⟩) hK hP [0, 1] rfl (va_recv hK.1 hP (ci := 6) (q0 := 0) rfl rfl) rfl hl.1 rfl (Nat.le_of_ble_eq_true rfl) dX6_degrees_6 ⟨Nat.le_of_ble_eq_true rfl, Nat.le_of_ble_eq_true rfl⟩ (fun r_1 e_2 => ?_)
  subst e_2
  refine lv_if_eq (tgt := 22) hx hb dX6_degrees_9 (by decide) (fun _ => ?_) (fun h => absurd h (by decide))
  refine lv_ldc hx hb hown wc189 dX6_degrees_22 ?_
  exact wt_iret hx hb hr hlocks hP hD hS (by rfl) dX6_degrees_24
set_option maxHeartbeats 4000000 in
set_option maxRecDepth 100000 in
theorem c_X6_image (l : Launch) (D : va_G) (cI cZ cH : ClassId) (md hs : Nat) (a1 : Int32) (m_0 m_1 m_2 m_3 m_4 m_6 m_7 m_8 m_9 m_10 m_11 m_12 m_13 m_14 m_15 m_16 m_17 m_18 m_19 m_20 m_21 m_22 m_23 : Value) : wt_M l yX6_image wsX6_image ({ frames := 1, cells := 0, slots := 0, locals := 25 } : Room) D (wt_T cI cZ cH) [.ref md, .int a1] [(md, .inr (6, [m_0, m_1, m_2, m_3, m_4, .ref hs, m_6, m_7, m_8, m_9, m_10, m_11, m_12, m_13, m_14, m_15, m_16, m_17, m_18, m_19, m_20, m_21, m_22, m_23])), (hs, .inl (cI, 45, .inl (fun _ => 0)))] (wt_QI D (fun r w => r = (if wI a1 0 1 = 0 then (-1000001) else (-1000002)))) := by
  refine wt_M.ofW (cc := cX6_image) (maxL := 3) (ret := (some .int)) (by decide) rfl (Nat.le_of_ble_eq_true rfl) ?_
  intro p e s m below meth c A ls hx hb hr hts hown hlocks hml hnm hP hK hD hA hS hl
  have hP : va_P D vwCl [(md, .inr (6, [m_0, m_1, m_2, m_3, m_4, .ref hs, m_6, m_7, m_8, m_9, m_10, m_11, m_12, m_13, m_14, m_15, m_16, m_17, m_18, m_19, m_20, m_21, m_22, m_23])), (hs, .inl (cI, 45, .inl (fun _ => 0)))] s.heap := hP
  have hown : s.vm.findClass RX6 = some m.cls := hown
  have hl : lv_has ls 3 [(0, .ref md), (1, .int a1)] := hl
  have hi6 : ∀ w ∈ u_ws RX6 TX6 24, w ∈ wsX6_image := by decide +kernel
  have wc189 := hts (.constant RX6 189 (-1000002)) (by decide +kernel)
  have wc67 := hts (.constant RX6 67 (-1000001)) (by decide +kernel)
  have wf47 := hts (.fieldLink RX6 47 "WarmTubesModel" "thrown" "I") (by decide +kernel)
  refine lv_aload_n hx hb dX6_image_0 rfl (lv_at hl 0 rfl) ?_
  refine lv_iconst (v := 0) hx hb dX6_image_1 (by decide) ?_
  refine va_put (D := D) (ci := 6) (v := .int 0) (ty := .int) (C := RX6) (T := TX6) (N := 24) hx hb hts hi6 tyX6 tyX6_ok nmX6 hown hK.1 hP hD hS 0 rfl rfl 0 (by decide) wf47 (fun _ h9 => h9) rfl (by decide +kernel) rfl rfl (Nat.le_of_ble_eq_true rfl) dX6_image_2 (fun H locs hP hD hS => ?_)
  have hP : va_P D vwCl [(md, .inr (6, [.int 0, m_1, m_2, m_3, m_4, .ref hs, m_6, m_7, m_8, m_9, m_10, m_11, m_12, m_13, m_14, m_15, m_16, m_17, m_18, m_19, m_20, m_21, m_22, m_23])), (hs, .inl (cI, 45, .inl (fun _ => 0)))] H := hP
  have hD : va_D A [(md, .inr (6, [.int 0, m_1, m_2, m_3, m_4, .ref hs, m_6, m_7, m_8, m_9, m_10, m_11, m_12, m_13, m_14, m_15, m_16, m_17, m_18, m_19, m_20, m_21, m_22, m_23])), (hs, .inl (cI, 45, .inl (fun _ => 0)))] := hD
  refine lv_iload_n hx hb dX6_image_5 rfl (lv_at hl 1 rfl) ?_
  refine lv_i2l (v := a1.toInt64) hx hb dX6_image_6 rfl ?_
  refine lv_lconst (v := 0) hx hb dX6_image_7 (by decide) ?_
  refine lv_lconst (v := 1) hx hb dX6_image_8 (by decide) ?_
  refine wt_rS (As := [.long a1.toInt64, .long 0, .long 1]) (rest := []) ⟨hx, hb, hml, hown, hts⟩ (c_X6_in l D cI cZ cH a1.toInt64 0 1) (va_cwS 3 hts gX6_image_X6_in rfl rfl rfl (by decide +kernel) ⟨Nat.le_of_ble_eq_true rfl, Nat.le_of_ble_eq_true rfl⟩) hK hP [] rfl rfl hl.1 rfl (Nat.le_of_ble_eq_true rfl) dX6_image_9 ⟨Nat.le_of_ble_eq_true rfl, Nat.le_of_ble_eq_true rfl⟩ (fun r_1 e_2 => ?_)
  subst e_2
  refine wt_top (z := wI a1 0 1) (wL_I' (by decide) (by decide)) ?_
  refine lv_if_ne (tgt := 18) hx hb dX6_image_12 (by decide) (fun c_3 => ?_) (fun c_3 => ?_)
  · skip
    refine lv_aload_n hx hb dX6_image_18 rfl (lv_at hl 0 rfl) ?_
    refine wt_rV (As := []) (rest := []) ⟨hx, hb, hml, hown, hts⟩ (c_X6_isThere l D cI cZ cH md hs (.int 0) m_1 m_2 m_3 m_4 m_6 m_7 m_8 m_9 m_10 m_11 m_12 m_13 m_14 m_15 m_16 m_17 m_18 m_19 m_20 m_21 m_22 m_23) (cwV 0 hts gX6_image_X6_isThere rfl rfl rfl (by decide +kernel) ⟨Nat.le_of_ble_eq_true rfl, Nat.le_of_ble_eq_true rfl⟩) hK hP [0, 1] rfl (va_recv hK.1 hP (ci := 6) (q0 := 0) rfl rfl) rfl hl.1 rfl (Nat.le_of_ble_eq_true rfl) dX6_image_19 ⟨Nat.le_of_ble_eq_true rfl, Nat.le_of_ble_eq_true rfl⟩ (fun r_4 e_5 => ?_)
    subst e_5
    refine lv_if_ne (tgt := 28) hx hb dX6_image_22 (by decide) (fun h => absurd h (by decide)) (fun _ => ?_)
    refine lv_ldc hx hb hown wc189 dX6_image_25 ?_
    exact wt_iret hx hb hr hlocks hP hD hS (by simp [c_3]) dX6_image_27
  · skip
    refine lv_ldc hx hb hown wc67 dX6_image_15 ?_
    exact wt_iret hx hb hr hlocks hP hD hS (by simp [c_3]) dX6_image_17
set_option maxHeartbeats 4000000 in
set_option maxRecDepth 100000 in
theorem c_X6_restore (l : Launch) (D : va_G) (cI cZ cH : ClassId) (md ik : Nat) (a1 : Int32) (m_0 m_1 m_2 m_3 m_4 m_5 m_6 m_7 m_8 m_9 m_10 m_11 m_12 m_13 m_14 m_15 m_16 m_17 m_18 m_19 m_21 m_22 m_23 : Value) : wt_M l yX6_restore wsX6_restore ({ frames := 1, cells := 0, slots := 0, locals := 25 } : Room) D (wt_T cI cZ cH) [.ref md, .int a1] [(md, .inr (6, [m_0, m_1, m_2, m_3, m_4, m_5, m_6, m_7, m_8, m_9, m_10, m_11, m_12, m_13, m_14, m_15, m_16, m_17, m_18, m_19, .ref ik, m_21, m_22, m_23])), (ik, .inl (cZ, 2, .inl (fun _ => 0)))] (wt_QI D (fun r w => r = (if wI a1 0 1 = 0 then (-1000001) else (-1000002)))) := by
  refine wt_M.ofW (cc := cX6_restore) (maxL := 3) (ret := (some .int)) (by decide) rfl (Nat.le_of_ble_eq_true rfl) ?_
  intro p e s m below meth c A ls hx hb hr hts hown hlocks hml hnm hP hK hD hA hS hl
  have hP : va_P D vwCl [(md, .inr (6, [m_0, m_1, m_2, m_3, m_4, m_5, m_6, m_7, m_8, m_9, m_10, m_11, m_12, m_13, m_14, m_15, m_16, m_17, m_18, m_19, .ref ik, m_21, m_22, m_23])), (ik, .inl (cZ, 2, .inl (fun _ => 0)))] s.heap := hP
  have hown : s.vm.findClass RX6 = some m.cls := hown
  have hl : lv_has ls 3 [(0, .ref md), (1, .int a1)] := hl
  have hi6 : ∀ w ∈ u_ws RX6 TX6 24, w ∈ wsX6_restore := by decide +kernel
  have wc189 := hts (.constant RX6 189 (-1000002)) (by decide +kernel)
  have wc67 := hts (.constant RX6 67 (-1000001)) (by decide +kernel)
  have wf37 := hts (.fieldLink RX6 37 "WarmTubesModel" "isKept" "[Z") (by decide +kernel)
  have wf47 := hts (.fieldLink RX6 47 "WarmTubesModel" "thrown" "I") (by decide +kernel)
  refine lv_aload_n hx hb dX6_restore_0 rfl (lv_at hl 0 rfl) ?_
  refine lv_iconst (v := 0) hx hb dX6_restore_1 (by decide) ?_
  refine va_put (D := D) (ci := 6) (v := .int 0) (ty := .int) (C := RX6) (T := TX6) (N := 24) hx hb hts hi6 tyX6 tyX6_ok nmX6 hown hK.1 hP hD hS 0 rfl rfl 0 (by decide) wf47 (fun _ h9 => h9) rfl (by decide +kernel) rfl rfl (Nat.le_of_ble_eq_true rfl) dX6_restore_2 (fun H locs hP hD hS => ?_)
  have hP : va_P D vwCl [(md, .inr (6, [.int 0, m_1, m_2, m_3, m_4, m_5, m_6, m_7, m_8, m_9, m_10, m_11, m_12, m_13, m_14, m_15, m_16, m_17, m_18, m_19, .ref ik, m_21, m_22, m_23])), (ik, .inl (cZ, 2, .inl (fun _ => 0)))] H := hP
  have hD : va_D A [(md, .inr (6, [.int 0, m_1, m_2, m_3, m_4, m_5, m_6, m_7, m_8, m_9, m_10, m_11, m_12, m_13, m_14, m_15, m_16, m_17, m_18, m_19, .ref ik, m_21, m_22, m_23])), (ik, .inl (cZ, 2, .inl (fun _ => 0)))] := hD
  refine lv_iload_n hx hb dX6_restore_5 rfl (lv_at hl 1 rfl) ?_
  refine lv_i2l (v := a1.toInt64) hx hb dX6_restore_6 rfl ?_
  refine lv_lconst (v := 0) hx hb dX6_restore_7 (by decide) ?_
  refine lv_lconst (v := 1) hx hb dX6_restore_8 (by decide) ?_
  refine wt_rS (As := [.long a1.toInt64, .long 0, .long 1]) (rest := []) ⟨hx, hb, hml, hown, hts⟩ (c_X6_in l D cI cZ cH a1.toInt64 0 1) (va_cwS 3 hts gX6_restore_X6_in rfl rfl rfl (by decide +kernel) ⟨Nat.le_of_ble_eq_true rfl, Nat.le_of_ble_eq_true rfl⟩) hK hP [] rfl rfl hl.1 rfl (Nat.le_of_ble_eq_true rfl) dX6_restore_9 ⟨Nat.le_of_ble_eq_true rfl, Nat.le_of_ble_eq_true rfl⟩ (fun r_1 e_2 => ?_)
  subst e_2
  refine wt_top (z := wI a1 0 1) (wL_I' (by decide) (by decide)) ?_
  refine lv_if_ne (tgt := 18) hx hb dX6_restore_12 (by decide) (fun c_3 => ?_) (fun c_3 => ?_)
  · skip
    refine lv_aload_n hx hb dX6_restore_18 rfl (lv_at hl 0 rfl) ?_
    refine va_get (D := D) (ci := 6) (v := .ref ik) (C := RX6) (T := TX6) (N := 24) hx hb hts hi6 hown hK.1 hP 0 rfl rfl 20 (by decide) wf37 (fun _ h9 => h9) rfl dX6_restore_19 ?_
    refine lv_iload_n hx hb dX6_restore_22 rfl (lv_at hl 1 rfl) ?_
    refine va_zald hx hb hK.1 hP 1 1 rfl rfl (wI_in (N := 2) rfl c_3) dX6_restore_23 ?_
    refine wt_top (z := 0) rfl ?_
    refine lv_if_ne (tgt := 30) hx hb dX6_restore_24 (by decide) (fun h => absurd h (by decide)) (fun _ => ?_)
    refine lv_ldc hx hb hown wc189 dX6_restore_27 ?_
    exact wt_iret hx hb hr hlocks hP hD hS (by simp [c_3]) dX6_restore_29
  · skip
    refine lv_ldc hx hb hown wc67 dX6_restore_15 ?_
    exact wt_iret hx hb hr hlocks hP hD hS (by simp [c_3]) dX6_restore_17
set_option maxHeartbeats 4000000 in
set_option maxRecDepth 100000 in
theorem c_X6_fault (l : Launch) (D : va_G) (cI cZ cH : ClassId) (md : Nat) (m_0 m_1 m_2 m_3 m_4 m_5 m_6 m_7 m_8 m_9 m_10 m_11 m_12 m_13 m_14 m_15 m_16 m_17 m_19 m_20 m_21 m_22 m_23 : Value) : wt_M l yX6_fault wsX6_fault ({ frames := 0, cells := 0, slots := 0, locals := 0 } : Room) D (wt_T cI cZ cH) [.ref md] [(md, .inr (6, [m_0, m_1, m_2, m_3, m_4, m_5, m_6, m_7, m_8, m_9, m_10, m_11, m_12, m_13, m_14, m_15, m_16, m_17, .int 0, m_19, m_20, m_21, m_22, m_23]))] (wt_QI D (fun r w => r = 0)) := by
  refine wt_M.ofW (cc := cX6_fault) (maxL := 1) (ret := (some .int)) (by decide) rfl (Nat.le_of_ble_eq_true rfl) ?_
  intro p e s m below meth c A ls hx hb hr hts hown hlocks hml hnm hP hK hD hA hS hl
  have hP : va_P D vwCl [(md, .inr (6, [m_0, m_1, m_2, m_3, m_4, m_5, m_6, m_7, m_8, m_9, m_10, m_11, m_12, m_13, m_14, m_15, m_16, m_17, .int 0, m_19, m_20, m_21, m_22, m_23]))] s.heap := hP
  have hown : s.vm.findClass RX6 = some m.cls := hown
  have hl : lv_has ls 1 [(0, .ref md)] := hl
  have hi6 : ∀ w ∈ u_ws RX6 TX6 24, w ∈ wsX6_fault := by decide +kernel
  have wf116 := hts (.fieldLink RX6 116 "WarmTubesModel" "latest" "I") (by decide +kernel)
  have wf47 := hts (.fieldLink RX6 47 "WarmTubesModel" "thrown" "I") (by decide +kernel)
  refine lv_aload_n hx hb dX6_fault_0 rfl (lv_at hl 0 rfl) ?_
  refine lv_iconst (v := 0) hx hb dX6_fault_1 (by decide) ?_
  refine va_put (D := D) (ci := 6) (v := .int 0) (ty := .int) (C := RX6) (T := TX6) (N := 24) hx hb hts hi6 tyX6 tyX6_ok nmX6 hown hK.1 hP hD hS 0 rfl rfl 0 (by decide) wf47 (fun _ h9 => h9) rfl (by decide +kernel) rfl rfl (Nat.le_of_ble_eq_true rfl) dX6_fault_2 (fun H locs hP hD hS => ?_)
  have hP : va_P D vwCl [(md, .inr (6, [.int 0, m_1, m_2, m_3, m_4, m_5, m_6, m_7, m_8, m_9, m_10, m_11, m_12, m_13, m_14, m_15, m_16, m_17, .int 0, m_19, m_20, m_21, m_22, m_23]))] H := hP
  have hD : va_D A [(md, .inr (6, [.int 0, m_1, m_2, m_3, m_4, m_5, m_6, m_7, m_8, m_9, m_10, m_11, m_12, m_13, m_14, m_15, m_16, m_17, .int 0, m_19, m_20, m_21, m_22, m_23]))] := hD
  refine lv_aload_n hx hb dX6_fault_5 rfl (lv_at hl 0 rfl) ?_
  refine va_get (D := D) (ci := 6) (v := .int 0) (C := RX6) (T := TX6) (N := 24) hx hb hts hi6 hown hK.1 hP 0 rfl rfl 18 (by decide) wf116 (fun _ h9 => h9) rfl dX6_fault_6 ?_
  exact wt_iret hx hb hr hlocks hP hD hS (by rfl) dX6_fault_9
set_option maxHeartbeats 4000000 in
set_option maxRecDepth 100000 in
theorem c_X6_status (l : Launch) (D : va_G) (cI cZ cH : ClassId) (md : Nat) (m_0 m_2 m_3 m_4 m_5 m_6 m_7 m_8 m_9 m_10 m_11 m_12 m_13 m_14 m_15 m_16 m_17 m_18 m_19 m_20 m_21 m_22 m_23 : Value) : wt_M l yX6_status wsX6_status ({ frames := 0, cells := 0, slots := 0, locals := 0 } : Room) D (wt_T cI cZ cH) [.ref md] [(md, .inr (6, [m_0, .int 0, m_2, m_3, m_4, m_5, m_6, m_7, m_8, m_9, m_10, m_11, m_12, m_13, m_14, m_15, m_16, m_17, m_18, m_19, m_20, m_21, m_22, m_23]))] (wt_QI D (fun r w => r = 0)) := by
  refine wt_M.ofW (cc := cX6_status) (maxL := 1) (ret := (some .int)) (by decide) rfl (Nat.le_of_ble_eq_true rfl) ?_
  intro p e s m below meth c A ls hx hb hr hts hown hlocks hml hnm hP hK hD hA hS hl
  have hP : va_P D vwCl [(md, .inr (6, [m_0, .int 0, m_2, m_3, m_4, m_5, m_6, m_7, m_8, m_9, m_10, m_11, m_12, m_13, m_14, m_15, m_16, m_17, m_18, m_19, m_20, m_21, m_22, m_23]))] s.heap := hP
  have hown : s.vm.findClass RX6 = some m.cls := hown
  have hl : lv_has ls 1 [(0, .ref md)] := hl
  have hi6 : ∀ w ∈ u_ws RX6 TX6 24, w ∈ wsX6_status := by decide +kernel
  have wf47 := hts (.fieldLink RX6 47 "WarmTubesModel" "thrown" "I") (by decide +kernel)
  have wf51 := hts (.fieldLink RX6 51 "WarmTubesModel" "status" "I") (by decide +kernel)
  refine lv_aload_n hx hb dX6_status_0 rfl (lv_at hl 0 rfl) ?_
  refine lv_iconst (v := 0) hx hb dX6_status_1 (by decide) ?_
  refine va_put (D := D) (ci := 6) (v := .int 0) (ty := .int) (C := RX6) (T := TX6) (N := 24) hx hb hts hi6 tyX6 tyX6_ok nmX6 hown hK.1 hP hD hS 0 rfl rfl 0 (by decide) wf47 (fun _ h9 => h9) rfl (by decide +kernel) rfl rfl (Nat.le_of_ble_eq_true rfl) dX6_status_2 (fun H locs hP hD hS => ?_)
  have hP : va_P D vwCl [(md, .inr (6, [.int 0, .int 0, m_2, m_3, m_4, m_5, m_6, m_7, m_8, m_9, m_10, m_11, m_12, m_13, m_14, m_15, m_16, m_17, m_18, m_19, m_20, m_21, m_22, m_23]))] H := hP
  have hD : va_D A [(md, .inr (6, [.int 0, .int 0, m_2, m_3, m_4, m_5, m_6, m_7, m_8, m_9, m_10, m_11, m_12, m_13, m_14, m_15, m_16, m_17, m_18, m_19, m_20, m_21, m_22, m_23]))] := hD
  refine lv_aload_n hx hb dX6_status_5 rfl (lv_at hl 0 rfl) ?_
  refine va_get (D := D) (ci := 6) (v := .int 0) (C := RX6) (T := TX6) (N := 24) hx hb hts hi6 hown hK.1 hP 0 rfl rfl 1 (by decide) wf51 (fun _ h9 => h9) rfl dX6_status_6 ?_
  exact wt_iret hx hb hr hlocks hP hD hS (by rfl) dX6_status_9
set_option maxHeartbeats 4000000 in
set_option maxRecDepth 100000 in
theorem c_X6_undo (l : Launch) (D : va_G) (cI cZ cH : ClassId) (md : Nat) (m_0 m_1 m_2 m_3 m_4 m_5 m_6 m_7 m_8 m_10 m_11 m_12 m_13 m_14 m_15 m_16 m_17 m_18 m_19 m_20 m_21 m_22 m_23 : Value) : wt_M l yX6_undo wsX6_undo ({ frames := 0, cells := 0, slots := 0, locals := 0 } : Room) D (wt_T cI cZ cH) [.ref md] [(md, .inr (6, [m_0, m_1, m_2, m_3, m_4, m_5, m_6, m_7, m_8, .int 0, m_10, m_11, m_12, m_13, m_14, m_15, m_16, m_17, m_18, m_19, m_20, m_21, m_22, m_23]))] (wt_QI D (fun r w => r = (-1000002))) := by
  refine wt_M.ofW (cc := cX6_undo) (maxL := 2) (ret := (some .int)) (by decide) rfl (Nat.le_of_ble_eq_true rfl) ?_
  intro p e s m below meth c A ls hx hb hr hts hown hlocks hml hnm hP hK hD hA hS hl
  have hP : va_P D vwCl [(md, .inr (6, [m_0, m_1, m_2, m_3, m_4, m_5, m_6, m_7, m_8, .int 0, m_10, m_11, m_12, m_13, m_14, m_15, m_16, m_17, m_18, m_19, m_20, m_21, m_22, m_23]))] s.heap := hP
  have hown : s.vm.findClass RX6 = some m.cls := hown
  have hl : lv_has ls 2 [(0, .ref md)] := hl
  have hi6 : ∀ w ∈ u_ws RX6 TX6 24, w ∈ wsX6_undo := by decide +kernel
  have wc189 := hts (.constant RX6 189 (-1000002)) (by decide +kernel)
  have wf149 := hts (.fieldLink RX6 149 "WarmTubesModel" "acts" "I") (by decide +kernel)
  have wf47 := hts (.fieldLink RX6 47 "WarmTubesModel" "thrown" "I") (by decide +kernel)
  refine lv_aload_n hx hb dX6_undo_0 rfl (lv_at hl 0 rfl) ?_
  refine lv_iconst (v := 0) hx hb dX6_undo_1 (by decide) ?_
  refine va_put (D := D) (ci := 6) (v := .int 0) (ty := .int) (C := RX6) (T := TX6) (N := 24) hx hb hts hi6 tyX6 tyX6_ok nmX6 hown hK.1 hP hD hS 0 rfl rfl 0 (by decide) wf47 (fun _ h9 => h9) rfl (by decide +kernel) rfl rfl (Nat.le_of_ble_eq_true rfl) dX6_undo_2 (fun H locs hP hD hS => ?_)
  have hP : va_P D vwCl [(md, .inr (6, [.int 0, m_1, m_2, m_3, m_4, m_5, m_6, m_7, m_8, .int 0, m_10, m_11, m_12, m_13, m_14, m_15, m_16, m_17, m_18, m_19, m_20, m_21, m_22, m_23]))] H := hP
  have hD : va_D A [(md, .inr (6, [.int 0, m_1, m_2, m_3, m_4, m_5, m_6, m_7, m_8, .int 0, m_10, m_11, m_12, m_13, m_14, m_15, m_16, m_17, m_18, m_19, m_20, m_21, m_22, m_23]))] := hD
  refine lv_aload_n hx hb dX6_undo_5 rfl (lv_at hl 0 rfl) ?_
  refine va_get (D := D) (ci := 6) (v := .int 0) (C := RX6) (T := TX6) (N := 24) hx hb hts hi6 hown hK.1 hP 0 rfl rfl 9 (by decide) wf149 (fun _ h9 => h9) rfl dX6_undo_6 ?_
  refine lv_if_ne (tgt := 15) hx hb dX6_undo_9 (by decide) (fun h => absurd h (by decide)) (fun _ => ?_)
  refine lv_ldc hx hb hown wc189 dX6_undo_12 ?_
  exact wt_iret hx hb hr hlocks hP hD hS (by rfl) dX6_undo_14
set_option maxHeartbeats 4000000 in
set_option maxRecDepth 100000 in
theorem c_X6_trace (l : Launch) (D : va_G) (cI cZ cH : ClassId) (md : Nat) (a1 : Int32) (m_0 m_1 m_2 m_3 m_4 m_5 m_6 m_7 m_8 m_9 m_10 m_11 m_12 m_13 m_14 m_15 m_16 m_17 m_18 m_19 m_20 m_21 m_22 : Value) : wt_M l yX6_trace wsX6_trace ({ frames := 1, cells := 0, slots := 0, locals := 25 } : Room) D (wt_T cI cZ cH) [.ref md, .int a1] [(md, .inr (6, [m_0, m_1, m_2, m_3, m_4, m_5, m_6, m_7, m_8, m_9, m_10, m_11, m_12, m_13, m_14, m_15, m_16, m_17, m_18, m_19, m_20, m_21, m_22, .int 0]))] (wt_QI D (fun r w => r = (-1000000))) := by
  refine wt_M.ofW (cc := cX6_trace) (maxL := 2) (ret := (some .int)) (by decide) rfl (Nat.le_of_ble_eq_true rfl) ?_
  intro p e s m below meth c A ls hx hb hr hts hown hlocks hml hnm hP hK hD hA hS hl
  have hP : va_P D vwCl [(md, .inr (6, [m_0, m_1, m_2, m_3, m_4, m_5, m_6, m_7, m_8, m_9, m_10, m_11, m_12, m_13, m_14, m_15, m_16, m_17, m_18, m_19, m_20, m_21, m_22, .int 0]))] s.heap := hP
  have hown : s.vm.findClass RX6 = some m.cls := hown
  have hl : lv_has ls 2 [(0, .ref md), (1, .int a1)] := hl
  have hi6 : ∀ w ∈ u_ws RX6 TX6 24, w ∈ wsX6_trace := by decide +kernel
  have wc90 := hts (.constant RX6 90 (-1000000)) (by decide +kernel)
  have wf289 := hts (.fieldLink RX6 289 "WarmTubesModel" "traced" "I") (by decide +kernel)
  have wf47 := hts (.fieldLink RX6 47 "WarmTubesModel" "thrown" "I") (by decide +kernel)
  refine lv_aload_n hx hb dX6_trace_0 rfl (lv_at hl 0 rfl) ?_
  refine lv_iconst (v := 0) hx hb dX6_trace_1 (by decide) ?_
  refine va_put (D := D) (ci := 6) (v := .int 0) (ty := .int) (C := RX6) (T := TX6) (N := 24) hx hb hts hi6 tyX6 tyX6_ok nmX6 hown hK.1 hP hD hS 0 rfl rfl 0 (by decide) wf47 (fun _ h9 => h9) rfl (by decide +kernel) rfl rfl (Nat.le_of_ble_eq_true rfl) dX6_trace_2 (fun H locs hP hD hS => ?_)
  have hP : va_P D vwCl [(md, .inr (6, [.int 0, m_1, m_2, m_3, m_4, m_5, m_6, m_7, m_8, m_9, m_10, m_11, m_12, m_13, m_14, m_15, m_16, m_17, m_18, m_19, m_20, m_21, m_22, .int 0]))] H := hP
  have hD : va_D A [(md, .inr (6, [.int 0, m_1, m_2, m_3, m_4, m_5, m_6, m_7, m_8, m_9, m_10, m_11, m_12, m_13, m_14, m_15, m_16, m_17, m_18, m_19, m_20, m_21, m_22, .int 0]))] := hD
  refine lv_iload_n hx hb dX6_trace_5 rfl (lv_at hl 1 rfl) ?_
  refine lv_i2l (v := a1.toInt64) hx hb dX6_trace_6 rfl ?_
  refine lv_lconst (v := 0) hx hb dX6_trace_7 (by decide) ?_
  refine lv_aload_n hx hb dX6_trace_8 rfl (lv_at hl 0 rfl) ?_
  refine va_get (D := D) (ci := 6) (v := .int 0) (C := RX6) (T := TX6) (N := 24) hx hb hts hi6 hown hK.1 hP 0 rfl rfl 23 (by decide) wf289 (fun _ h9 => h9) rfl dX6_trace_9 ?_
  refine lv_iconst (v := 1) hx hb dX6_trace_12 (by decide) ?_
  refine lv_isub hx hb dX6_trace_13 ?_
  refine wt_top (z := (-1)) (by decide) ?_
  refine lv_i2l (v := (-1)) hx hb dX6_trace_14 (by decide) ?_
  refine wt_rS (As := [.long a1.toInt64, .long 0, .long (-1)]) (rest := []) ⟨hx, hb, hml, hown, hts⟩ (c_X6_in l D cI cZ cH a1.toInt64 0 (-1)) (va_cwS 3 hts gX6_trace_X6_in rfl rfl rfl (by decide +kernel) ⟨Nat.le_of_ble_eq_true rfl, Nat.le_of_ble_eq_true rfl⟩) hK hP [] rfl rfl hl.1 rfl (Nat.le_of_ble_eq_true rfl) dX6_trace_15 ⟨Nat.le_of_ble_eq_true rfl, Nat.le_of_ble_eq_true rfl⟩ (fun r_1 e_2 => ?_)
  subst e_2
  refine wt_top (z := wI a1 0 (-1)) (wL_I' (by decide) (by decide)) ?_
  refine wt_top (z := 0) (wI_m1 _) ?_
  refine lv_if_eq (tgt := 30) hx hb dX6_trace_18 (by decide) (fun _ => ?_) (fun h => absurd h (by decide))
  refine lv_ldc hx hb hown wc90 dX6_trace_30 ?_
  exact wt_iret hx hb hr hlocks hP hD hS (by rfl) dX6_trace_32
set_option maxHeartbeats 4000000 in
set_option maxRecDepth 100000 in
theorem c_X6_colds (l : Launch) (D : va_G) (cI cZ cH : ClassId) (hs : Nat) : wt_R l yX6_colds wsX6_colds ({ frames := 0, cells := 0, slots := 0, locals := 0 } : Room) D (wt_T cI cZ cH) [.ref hs] [(hs, .inl (cI, 45, .inl (fun _ => 0)))] (vp_Si (fun r => r = 0)) := by
  refine wt_R.ofW (cc := cX6_colds) (maxL := 3) (ret := (some .int)) (by decide) rfl (Nat.le_of_ble_eq_true rfl) ?_
  intro p e s m below meth c ls hx hb hr hts hown hlocks hml hP hK hl
  have hown : s.vm.findClass RX6 = some m.cls := hown
  have hl : lv_has ls 3 [(0, .ref hs)] := hl
  refine lv_iconst (v := 0) hx hb dX6_colds_0 (by decide) ?_
  refine lv_istore_n (lv' := [(1, .int 0), (0, .ref hs)]) hx hb dX6_colds_1 rfl hl (by decide) rfl (fun ls hl => ?_)
  refine lv_iconst (v := 0) hx hb dX6_colds_2 (by decide) ?_
  refine lv_istore_n (lv' := [(2, .int 0), (1, .int 0), (0, .ref hs)]) hx hb dX6_colds_3 rfl hl (by decide) rfl (fun ls hl => ?_)
  refine lv_iload_n hx hb dX6_colds_4 rfl (lv_at hl 0 rfl) ?_
  refine lv_aload_n hx hb dX6_colds_5 rfl (lv_at hl 2 rfl) ?_
  refine lv_iconst (v := 0) hx hb dX6_colds_6 (by decide) ?_
  refine va_iald hx hb hK.1 hP 0 0 rfl rfl (by rw [vp_in_iff]; decide) dX6_colds_7 ?_
  refine wt_top (z := 0) rfl ?_
  refine lv_icmp_ge (tgt := 35) hx hb dX6_colds_8 (by decide) (fun _ => ?_) (fun h => absurd h (by decide))
  refine lv_iload_n hx hb dX6_colds_35 rfl (lv_at hl 1 rfl) ?_
  exact wt_siret hx hb hr hlocks (by rfl) dX6_colds_36
set_option maxHeartbeats 4000000 in
set_option maxRecDepth 100000 in
theorem c_X6_upOf (l : Launch) (D : va_G) (cI cZ cH : ClassId) (hs : Nat) : wt_R l yX6_upOf wsX6_upOf ({ frames := 0, cells := 0, slots := 0, locals := 0 } : Room) D (wt_T cI cZ cH) [.ref hs] [(hs, .inl (cI, 45, .inl (fun _ => 0)))] (vp_Si (fun r => r = 0)) := by
  refine wt_R.ofW (cc := cX6_upOf) (maxL := 3) (ret := (some .int)) (by decide) rfl (Nat.le_of_ble_eq_true rfl) ?_
  intro p e s m below meth c ls hx hb hr hts hown hlocks hml hP hK hl
  have hown : s.vm.findClass RX6 = some m.cls := hown
  have hl : lv_has ls 3 [(0, .ref hs)] := hl
  refine lv_iconst (v := 0) hx hb dX6_upOf_0 (by decide) ?_
  refine lv_istore_n (lv' := [(1, .int 0), (0, .ref hs)]) hx hb dX6_upOf_1 rfl hl (by decide) rfl (fun ls hl => ?_)
  refine lv_iconst (v := 0) hx hb dX6_upOf_2 (by decide) ?_
  refine lv_istore_n (lv' := [(2, .int 0), (1, .int 0), (0, .ref hs)]) hx hb dX6_upOf_3 rfl hl (by decide) rfl (fun ls hl => ?_)
  refine lv_iload_n hx hb dX6_upOf_4 rfl (lv_at hl 0 rfl) ?_
  refine lv_aload_n hx hb dX6_upOf_5 rfl (lv_at hl 2 rfl) ?_
  refine lv_iconst (v := 1) hx hb dX6_upOf_6 (by decide) ?_
  refine va_iald hx hb hK.1 hP 0 0 rfl rfl (by rw [vp_in_iff]; decide) dX6_upOf_7 ?_
  refine wt_top (z := 0) rfl ?_
  refine lv_icmp_ge (tgt := 26) hx hb dX6_upOf_8 (by decide) (fun _ => ?_) (fun h => absurd h (by decide))
  refine lv_iload_n hx hb dX6_upOf_26 rfl (lv_at hl 1 rfl) ?_
  exact wt_siret hx hb hr hlocks (by rfl) dX6_upOf_27
set_option maxHeartbeats 4000000 in
set_option maxRecDepth 100000 in
theorem c_X6_finding (l : Launch) (D : va_G) (cI cZ cH : ClassId) (md : Nat) (f : Int32) (m_0 m_1 m_2 m_3 m_4 m_5 m_6 m_7 m_8 m_9 m_10 m_11 m_12 m_13 m_14 m_15 m_16 m_17 m_18 m_19 m_20 m_21 m_22 m_23 : Value) : wt_M l yX6_finding wsX6_finding ({ frames := 0, cells := 0, slots := 0, locals := 0 } : Room) D (wt_T cI cZ cH) [.ref md, .int f] [(md, .inr (6, [m_0, m_1, m_2, m_3, m_4, m_5, m_6, m_7, m_8, m_9, m_10, m_11, m_12, m_13, m_14, m_15, m_16, m_17, m_18, m_19, m_20, m_21, m_22, m_23]))] (wt_QI D (fun r w => r = (-1000010) - f)) := by
  refine wt_M.ofW (cc := cX6_finding) (maxL := 2) (ret := (some .int)) (by decide) rfl (Nat.le_of_ble_eq_true rfl) ?_
  intro p e s m below meth c A ls hx hb hr hts hown hlocks hml hnm hP hK hD hA hS hl
  have hP : va_P D vwCl [(md, .inr (6, [m_0, m_1, m_2, m_3, m_4, m_5, m_6, m_7, m_8, m_9, m_10, m_11, m_12, m_13, m_14, m_15, m_16, m_17, m_18, m_19, m_20, m_21, m_22, m_23]))] s.heap := hP
  have hown : s.vm.findClass RX6 = some m.cls := hown
  have hl : lv_has ls 2 [(0, .ref md), (1, .int f)] := hl
  have hi6 : ∀ w ∈ u_ws RX6 TX6 24, w ∈ wsX6_finding := by decide +kernel
  have wc54 := hts (.constant RX6 54 (-1000010)) (by decide +kernel)
  have wf51 := hts (.fieldLink RX6 51 "WarmTubesModel" "status" "I") (by decide +kernel)
  refine lv_aload_n hx hb dX6_finding_0 rfl (lv_at hl 0 rfl) ?_
  refine lv_iload_n hx hb dX6_finding_1 rfl (lv_at hl 1 rfl) ?_
  refine va_put (D := D) (ci := 6) (v := .int f) (ty := .int) (C := RX6) (T := TX6) (N := 24) hx hb hts hi6 tyX6 tyX6_ok nmX6 hown hK.1 hP hD hS 0 rfl rfl 1 (by decide) wf51 (fun _ h9 => h9) rfl (by decide +kernel) rfl rfl (Nat.le_of_ble_eq_true rfl) dX6_finding_2 (fun H locs hP hD hS => ?_)
  have hP : va_P D vwCl [(md, .inr (6, [m_0, .int f, m_2, m_3, m_4, m_5, m_6, m_7, m_8, m_9, m_10, m_11, m_12, m_13, m_14, m_15, m_16, m_17, m_18, m_19, m_20, m_21, m_22, m_23]))] H := hP
  have hD : va_D A [(md, .inr (6, [m_0, .int f, m_2, m_3, m_4, m_5, m_6, m_7, m_8, m_9, m_10, m_11, m_12, m_13, m_14, m_15, m_16, m_17, m_18, m_19, m_20, m_21, m_22, m_23]))] := hD
  refine lv_ldc hx hb hown wc54 dX6_finding_5 ?_
  refine lv_iload_n hx hb dX6_finding_7 rfl (lv_at hl 1 rfl) ?_
  refine lv_isub hx hb dX6_finding_8 ?_
  exact wt_iret hx hb hr hlocks hP hD hS (by rfl) dX6_finding_9
set_option maxHeartbeats 4000000 in
set_option maxRecDepth 100000 in
theorem c_X6_row (l : Launch) (D : va_G) (cI cZ cH : ClassId) (md ln mn it : Nat) (lf sf tf : Nat → Int32) (a1 a2 a3 : Int32) (m_0 m_1 m_5 m_6 m_7 m_8 m_9 m_10 m_11 m_12 m_13 m_14 m_15 m_16 m_17 m_18 m_19 m_20 m_21 m_22 m_23 : Value) : wt_M l yX6_row wsX6_row ({ frames := 2, cells := 0, slots := 0, locals := 45 } : Room) D (wt_T cI cZ cH) [.ref md, .int a1, .int a2, .int a3] [(md, .inr (6, [m_0, m_1, .ref ln, .ref mn, .ref it, m_5, m_6, m_7, m_8, m_9, m_10, m_11, m_12, m_13, m_14, m_15, m_16, m_17, m_18, m_19, m_20, m_21, m_22, m_23])), (ln, .inl (cI, 8, .inl lf)), (mn, .inl (cI, 8, .inl sf)), (it, .inl (cI, 320, .inl tf))] (wt_QI D (fun r w => r = (if wI a1 0 7 = 0 then (-1000001) else if wI a2 0 2 = 0 then (-1000001) else if a3 ≤ 40 then (if 0 ≤ a3 then a3 else (-1000014)) else (-1000001)))) := by
  refine wt_M.ofW (cc := cX6_row) (maxL := 5) (ret := (some .int)) (by decide) rfl (Nat.le_of_ble_eq_true rfl) ?_
  intro p e s m below meth c A ls hx hb hr hts hown hlocks hml hnm hP hK hD hA hS hl
  have hP : va_P D vwCl [(md, .inr (6, [m_0, m_1, .ref ln, .ref mn, .ref it, m_5, m_6, m_7, m_8, m_9, m_10, m_11, m_12, m_13, m_14, m_15, m_16, m_17, m_18, m_19, m_20, m_21, m_22, m_23])), (ln, .inl (cI, 8, .inl lf)), (mn, .inl (cI, 8, .inl sf)), (it, .inl (cI, 320, .inl tf))] s.heap := hP
  have hown : s.vm.findClass RX6 = some m.cls := hown
  have hl : lv_has ls 5 [(0, .ref md), (1, .int a1), (2, .int a2), (3, .int a3)] := hl
  have hi6 : ∀ w ∈ u_ws RX6 TX6 24, w ∈ wsX6_row := by decide +kernel
  have wc67 := hts (.constant RX6 67 (-1000001)) (by decide +kernel)
  have wf13 := hts (.fieldLink RX6 13 "WarmTubesModel" "many" "[I") (by decide +kernel)
  have wf16 := hts (.fieldLink RX6 16 "WarmTubesModel" "item" "[I") (by decide +kernel)
  have wf47 := hts (.fieldLink RX6 47 "WarmTubesModel" "thrown" "I") (by decide +kernel)
  have wf51 := hts (.fieldLink RX6 51 "WarmTubesModel" "status" "I") (by decide +kernel)
  have wf7 := hts (.fieldLink RX6 7 "WarmTubesModel" "lane" "[I") (by decide +kernel)
  have wl65 := hts (.constantLong RX6 65 (2)) (by decide +kernel)
  refine lv_aload_n hx hb dX6_row_0 rfl (lv_at hl 0 rfl) ?_
  refine lv_iconst (v := 0) hx hb dX6_row_1 (by decide) ?_
  refine va_put (D := D) (ci := 6) (v := .int 0) (ty := .int) (C := RX6) (T := TX6) (N := 24) hx hb hts hi6 tyX6 tyX6_ok nmX6 hown hK.1 hP hD hS 0 rfl rfl 0 (by decide) wf47 (fun _ h9 => h9) rfl (by decide +kernel) rfl rfl (Nat.le_of_ble_eq_true rfl) dX6_row_2 (fun H locs hP hD hS => ?_)
  have hP : va_P D vwCl [(md, .inr (6, [.int 0, m_1, .ref ln, .ref mn, .ref it, m_5, m_6, m_7, m_8, m_9, m_10, m_11, m_12, m_13, m_14, m_15, m_16, m_17, m_18, m_19, m_20, m_21, m_22, m_23])), (ln, .inl (cI, 8, .inl lf)), (mn, .inl (cI, 8, .inl sf)), (it, .inl (cI, 320, .inl tf))] H := hP
  have hD : va_D A [(md, .inr (6, [.int 0, m_1, .ref ln, .ref mn, .ref it, m_5, m_6, m_7, m_8, m_9, m_10, m_11, m_12, m_13, m_14, m_15, m_16, m_17, m_18, m_19, m_20, m_21, m_22, m_23])), (ln, .inl (cI, 8, .inl lf)), (mn, .inl (cI, 8, .inl sf)), (it, .inl (cI, 320, .inl tf))] := hD
  refine lv_iload_n hx hb dX6_row_5 rfl (lv_at hl 1 rfl) ?_
  refine wt_rS (As := [.int a1]) (rest := []) ⟨hx, hb, hml, hown, hts⟩ (c_X6_isRow l D cI cZ cH a1) (va_cwS 1 hts gX6_row_X6_isRow rfl rfl rfl (by decide +kernel) ⟨Nat.le_of_ble_eq_true rfl, Nat.le_of_ble_eq_true rfl⟩) hK hP [] rfl rfl hl.1 rfl (Nat.le_of_ble_eq_true rfl) dX6_row_6 ⟨Nat.le_of_ble_eq_true rfl, Nat.le_of_ble_eq_true rfl⟩ (fun r_1 e_2 => ?_)
  subst e_2
  refine lv_if_eq (tgt := 30) hx hb dX6_row_9 (by decide) (fun c_3 => ?_) (fun c_3 => ?_)
  · skip
    refine lv_ldc hx hb hown wc67 dX6_row_30 ?_
    exact wt_iret hx hb hr hlocks hP hD hS (by simp [c_3]) dX6_row_32
  · skip
    refine lv_iload_n hx hb dX6_row_12 rfl (lv_at hl 2 rfl) ?_
    refine lv_i2l (v := a2.toInt64) hx hb dX6_row_13 rfl ?_
    refine lv_lconst (v := 0) hx hb dX6_row_14 (by decide) ?_
    refine lv_ldc2 hx hb hown wl65 dX6_row_15 ?_
    refine wt_rS (As := [.long a2.toInt64, .long 0, .long 2]) (rest := []) ⟨hx, hb, hml, hown, hts⟩ (c_X6_in l D cI cZ cH a2.toInt64 0 2) (va_cwS 3 hts gX6_row_X6_in rfl rfl rfl (by decide +kernel) ⟨Nat.le_of_ble_eq_true rfl, Nat.le_of_ble_eq_true rfl⟩) hK hP [] rfl rfl hl.1 rfl (Nat.le_of_ble_eq_true rfl) dX6_row_18 ⟨Nat.le_of_ble_eq_true rfl, Nat.le_of_ble_eq_true rfl⟩ (fun r_4 e_5 => ?_)
    subst e_5
    refine wt_top (z := wI a2 0 2) (wL_I' (by decide) (by decide)) ?_
    refine lv_if_eq (tgt := 30) hx hb dX6_row_21 (by decide) (fun c_6 => ?_) (fun c_6 => ?_)
    · skip
      refine lv_ldc hx hb hown wc67 dX6_row_30 ?_
      exact wt_iret hx hb hr hlocks hP hD hS (by simp [c_3, c_6]) dX6_row_32
    · skip
      refine lv_iload_n hx hb dX6_row_24 rfl (lv_at hl 3 rfl) ?_
      refine lv_bipush (v := 40) hx hb dX6_row_25 (by decide) ?_
      refine lv_icmp_le (tgt := 33) hx hb dX6_row_27 (by decide) (fun c_7 => ?_) (fun c_7 => ?_)
      · skip
        refine lv_aload_n hx hb dX6_row_33 rfl (lv_at hl 0 rfl) ?_
        refine lv_iconst (v := 0) hx hb dX6_row_34 (by decide) ?_
        refine va_put (D := D) (ci := 6) (v := .int 0) (ty := .int) (C := RX6) (T := TX6) (N := 24) hx hb hts hi6 tyX6 tyX6_ok nmX6 hown hK.1 hP hD hS 0 rfl rfl 1 (by decide) wf51 (fun _ h9 => h9) rfl (by decide +kernel) rfl rfl (Nat.le_of_ble_eq_true rfl) dX6_row_35 (fun H locs hP hD hS => ?_)
        have hP : va_P D vwCl [(md, .inr (6, [.int 0, .int 0, .ref ln, .ref mn, .ref it, m_5, m_6, m_7, m_8, m_9, m_10, m_11, m_12, m_13, m_14, m_15, m_16, m_17, m_18, m_19, m_20, m_21, m_22, m_23])), (ln, .inl (cI, 8, .inl lf)), (mn, .inl (cI, 8, .inl sf)), (it, .inl (cI, 320, .inl tf))] H := hP
        have hD : va_D A [(md, .inr (6, [.int 0, .int 0, .ref ln, .ref mn, .ref it, m_5, m_6, m_7, m_8, m_9, m_10, m_11, m_12, m_13, m_14, m_15, m_16, m_17, m_18, m_19, m_20, m_21, m_22, m_23])), (ln, .inl (cI, 8, .inl lf)), (mn, .inl (cI, 8, .inl sf)), (it, .inl (cI, 320, .inl tf))] := hD
        refine lv_iload_n hx hb dX6_row_38 rfl (lv_at hl 3 rfl) ?_
        refine lv_if_ge (tgt := 48) hx hb dX6_row_39 (by decide) (fun c_8 => ?_) (fun c_8 => ?_)
        · skip
          have hr8 := wI_in (N := 8) rfl c_3
          refine lv_aload_n hx hb dX6_row_48 rfl (lv_at hl 0 rfl) ?_
          refine va_get (D := D) (ci := 6) (v := .ref ln) (C := RX6) (T := TX6) (N := 24) hx hb hts hi6 hown hK.1 hP 0 rfl rfl 2 (by decide) wf7 (fun _ h9 => h9) rfl dX6_row_49 ?_
          refine lv_iload_n hx hb dX6_row_52 rfl (lv_at hl 1 rfl) ?_
          refine lv_iload_n hx hb dX6_row_53 rfl (lv_at hl 2 rfl) ?_
          refine va_iast hx hb hK.1 hP hD hS 1 0 rfl rfl hr8 dX6_row_54 (fun H locs hP hD hS => ?_)
          have hP : va_P D vwCl [(md, .inr (6, [.int 0, .int 0, .ref ln, .ref mn, .ref it, m_5, m_6, m_7, m_8, m_9, m_10, m_11, m_12, m_13, m_14, m_15, m_16, m_17, m_18, m_19, m_20, m_21, m_22, m_23])), (ln, .inl (cI, 8, .inl (upd lf (a1.toNatClampNeg) a2))), (mn, .inl (cI, 8, .inl sf)), (it, .inl (cI, 320, .inl tf))] H := hP
          have hD : va_D A [(md, .inr (6, [.int 0, .int 0, .ref ln, .ref mn, .ref it, m_5, m_6, m_7, m_8, m_9, m_10, m_11, m_12, m_13, m_14, m_15, m_16, m_17, m_18, m_19, m_20, m_21, m_22, m_23])), (ln, .inl (cI, 8, .inl (upd lf (a1.toNatClampNeg) a2))), (mn, .inl (cI, 8, .inl sf)), (it, .inl (cI, 320, .inl tf))] := hD
          refine lv_aload_n hx hb dX6_row_55 rfl (lv_at hl 0 rfl) ?_
          refine va_get (D := D) (ci := 6) (v := .ref mn) (C := RX6) (T := TX6) (N := 24) hx hb hts hi6 hown hK.1 hP 0 rfl rfl 3 (by decide) wf13 (fun _ h9 => h9) rfl dX6_row_56 ?_
          refine lv_iload_n hx hb dX6_row_59 rfl (lv_at hl 1 rfl) ?_
          refine lv_iload_n hx hb dX6_row_60 rfl (lv_at hl 3 rfl) ?_
          refine va_iast hx hb hK.1 hP hD hS 2 0 rfl rfl hr8 dX6_row_61 (fun H locs hP hD hS => ?_)
          have hP : va_P D vwCl [(md, .inr (6, [.int 0, .int 0, .ref ln, .ref mn, .ref it, m_5, m_6, m_7, m_8, m_9, m_10, m_11, m_12, m_13, m_14, m_15, m_16, m_17, m_18, m_19, m_20, m_21, m_22, m_23])), (ln, .inl (cI, 8, .inl (upd lf (a1.toNatClampNeg) a2))), (mn, .inl (cI, 8, .inl (upd sf (a1.toNatClampNeg) a3))), (it, .inl (cI, 320, .inl tf))] H := hP
          have hD : va_D A [(md, .inr (6, [.int 0, .int 0, .ref ln, .ref mn, .ref it, m_5, m_6, m_7, m_8, m_9, m_10, m_11, m_12, m_13, m_14, m_15, m_16, m_17, m_18, m_19, m_20, m_21, m_22, m_23])), (ln, .inl (cI, 8, .inl (upd lf (a1.toNatClampNeg) a2))), (mn, .inl (cI, 8, .inl (upd sf (a1.toNatClampNeg) a3))), (it, .inl (cI, 320, .inl tf))] := hD
          refine lv_iconst (v := 0) hx hb dX6_row_62 (by decide) ?_
          refine lv_istore (lv' := [(4, .int 0), (0, .ref md), (1, .int a1), (2, .int a2), (3, .int a3)]) hx hb dX6_row_63 hl (by decide) rfl (fun ls hl => ?_)
          have loop : ∀ (k : Nat) (i : Int32) (f0 : Nat → Int32) (H : Heap) (locs : List Loc) (ls : Array Slot), i.toInt = ((40 : Nat) : Int) - (k : Int) → k ≤ 40 → va_P D vwCl [(md, .inr (6, [.int 0, .int 0, .ref ln, .ref mn, .ref it, m_5, m_6, m_7, m_8, m_9, m_10, m_11, m_12, m_13, m_14, m_15, m_16, m_17, m_18, m_19, m_20, m_21, m_22, m_23])), (ln, .inl (cI, 8, .inl (upd lf (a1.toNatClampNeg) a2))), (mn, .inl (cI, 8, .inl (upd sf (a1.toNatClampNeg) a3))), (it, .inl (cI, 320, .inl f0))] H → va_D A [(md, .inr (6, [.int 0, .int 0, .ref ln, .ref mn, .ref it, m_5, m_6, m_7, m_8, m_9, m_10, m_11, m_12, m_13, m_14, m_15, m_16, m_17, m_18, m_19, m_20, m_21, m_22, m_23])), (ln, .inl (cI, 8, .inl (upd lf (a1.toNatClampNeg) a2))), (mn, .inl (cI, 8, .inl (upd sf (a1.toNatClampNeg) a3))), (it, .inl (cI, 320, .inl f0))] → va_S A s.heap H locs → lv_has ls 5 [(4, .int i), (0, .ref md), (1, .int a1), (2, .int a2), (3, .int a3)] → W p l e ({ frames := 2, cells := 0, slots := 0, locals := 45 } : Room) s m ([.ref md, .int a1, .int a2, .int a3] : List Value).toArray below meth c H locs 0 0 (MQ below (wt_QI D (fun r w => r = (if wI a1 0 7 = 0 then (-1000001) else if wI a2 0 2 = 0 then (-1000001) else if a3 ≤ 40 then (if 0 ≤ a3 then a3 else (-1000014)) else (-1000001))) A) ([.ref md, .int a1, .int a2, .int a3] : List Value).toArray s 0 0 A) (F0 m 65 ls []) := by
            intro k
            induction k with
            | zero =>
              intro i f0 H locs ls hi hk hP hD hS hl
              refine lv_iload hx hb dX6_row_65 (lv_at hl 0 rfl) ?_
              refine lv_bipush (v := 40) hx hb dX6_row_67 (by decide) ?_
              refine lv_icmp_ge (tgt := 91) hx hb dX6_row_69 (by decide) (fun _ => ?_) (fun h => absurd (wt_lp0 rfl hi) h)
              refine lv_iload_n hx hb dX6_row_91 rfl (lv_at hl 4 rfl) ?_
              exact wt_iret hx hb hr hlocks hP hD hS (by simp [c_3, c_6, c_7, c_8]) dX6_row_92
            | succ k ih =>
              intro i f0 H locs ls hi hk hP hD hS hl
              have hin := wt_lpi hi hk
              refine lv_iload hx hb dX6_row_65 (lv_at hl 0 rfl) ?_
              refine lv_bipush (v := 40) hx hb dX6_row_67 (by decide) ?_
              refine lv_icmp_ge (tgt := 91) hx hb dX6_row_69 (by decide) (fun h => absurd h (wt_lpS rfl hi)) (fun _ => ?_)
              refine lv_aload_n hx hb dX6_row_72 rfl (lv_at hl 1 rfl) ?_
              refine va_get (D := D) (ci := 6) (v := .ref it) (C := RX6) (T := TX6) (N := 24) hx hb hts hi6 hown hK.1 hP 0 rfl rfl 4 (by decide) wf16 (fun _ h9 => h9) rfl dX6_row_73 ?_
              refine lv_bipush (v := 40) hx hb dX6_row_76 (by decide) ?_
              refine lv_iload_n hx hb dX6_row_78 rfl (lv_at hl 2 rfl) ?_
              refine lv_imul hx hb dX6_row_79 ?_
              refine lv_iload hx hb dX6_row_80 (lv_at hl 0 rfl) ?_
              refine lv_iadd hx hb dX6_row_82 ?_
              refine lv_iconst (v := 0) hx hb dX6_row_83 (by decide) ?_
              refine va_iast hx hb hK.1 hP hD hS 3 0 rfl rfl (wt_ix2 hr8 hin) dX6_row_84 (fun H locs hP hD hS => ?_)
              have hP : va_P D vwCl [(md, .inr (6, [.int 0, .int 0, .ref ln, .ref mn, .ref it, m_5, m_6, m_7, m_8, m_9, m_10, m_11, m_12, m_13, m_14, m_15, m_16, m_17, m_18, m_19, m_20, m_21, m_22, m_23])), (ln, .inl (cI, 8, .inl (upd lf (a1.toNatClampNeg) a2))), (mn, .inl (cI, 8, .inl (upd sf (a1.toNatClampNeg) a3))), (it, .inl (cI, 320, .inl (upd f0 (((40 * a1) + i).toNatClampNeg) 0)))] H := hP
              have hD : va_D A [(md, .inr (6, [.int 0, .int 0, .ref ln, .ref mn, .ref it, m_5, m_6, m_7, m_8, m_9, m_10, m_11, m_12, m_13, m_14, m_15, m_16, m_17, m_18, m_19, m_20, m_21, m_22, m_23])), (ln, .inl (cI, 8, .inl (upd lf (a1.toNatClampNeg) a2))), (mn, .inl (cI, 8, .inl (upd sf (a1.toNatClampNeg) a3))), (it, .inl (cI, 320, .inl (upd f0 (((40 * a1) + i).toNatClampNeg) 0)))] := hD
              refine lv_iinc (v := i + 1) (lv' := [(4, .int (i + 1)), (0, .ref md), (1, .int a1), (2, .int a2), (3, .int a3)]) hx hb dX6_row_85 hl (k := 0) rfl rfl (by decide) rfl (fun ls hl => ?_)
              refine lv_goto (tgt := 65) hx hb dX6_row_88 (by decide) ?_
              exact ih (i + 1) (upd f0 (((40 * a1) + i).toNatClampNeg) 0) H locs ls (wt_lpn (by decide) hi hk) (Nat.le_of_succ_le hk) hP hD hS (lv_sub hl [0, 1, 2, 3, 4] rfl)
          exact loop 40 0 tf _ _ ls (by decide) (Nat.le_refl _) hP hD hS hl
        · skip
          refine lv_aload_n hx hb dX6_row_42 rfl (lv_at hl 0 rfl) ?_
          refine lv_iconst (v := 4) hx hb dX6_row_43 (by decide) ?_
          refine wt_goI (wr := [(ln, .inl (cI, 8, .inl lf)), (mn, .inl (cI, 8, .inl sf)), (it, .inl (cI, 320, .inl tf))]) (wt_runV (As := [.int 4]) (rest := []) ⟨hx, hb, hml, hown, hts⟩ (c_X6_finding l D cI cZ cH md 4 (.int 0) (.int 0) (.ref ln) (.ref mn) (.ref it) m_5 m_6 m_7 m_8 m_9 m_10 m_11 m_12 m_13 m_14 m_15 m_16 m_17 m_18 m_19 m_20 m_21 m_22 m_23) (cwV 1 hts gX6_row_X6_finding rfl rfl rfl (by decide +kernel) ⟨Nat.le_of_ble_eq_true rfl, Nat.le_of_ble_eq_true rfl⟩) hK hP hD [0] rfl (by decide) (va_recv hK.1 hP (ci := 6) (q0 := 0) rfl rfl) rfl hl.1 rfl (Nat.le_of_ble_eq_true rfl) dX6_row_44 ⟨Nat.le_of_ble_eq_true rfl, Nat.le_of_ble_eq_true rfl⟩) hP hD hS hA [0] [1, 2, 3] rfl rfl (by decide) (by decide) (fun r_9 w_10 H locs h_11 hP hD hS => ?_)
          obtain rfl := h_11
          have hP := hP.sub (ws' := [(ln, .inl (cI, 8, .inl lf)), (mn, .inl (cI, 8, .inl sf)), (it, .inl (cI, 320, .inl tf))]) [0, 1, 2] rfl
          have hD := hD.sub (ws' := [(ln, .inl (cI, 8, .inl lf)), (mn, .inl (cI, 8, .inl sf)), (it, .inl (cI, 320, .inl tf))]) [0, 1, 2] (by decide) rfl
          refine wt_top (z := (-1000014)) (by decide) ?_
          exact wt_iret hx hb hr hlocks hP hD hS (by simp [c_3, c_6, c_7, c_8]) dX6_row_47
      · skip
        refine lv_ldc hx hb hown wc67 dX6_row_30 ?_
        exact wt_iret hx hb hr hlocks hP hD hS (by simp [c_3, c_6, c_7]) dX6_row_32
set_option maxHeartbeats 4000000 in
set_option maxRecDepth 100000 in
theorem c_X6_set (l : Launch) (D : va_G) (cI cZ cH : ClassId) (md ln : Nat) (lf : Nat → Int32) (a1 a2 a3 : Int32) (m_0 m_1 m_3 m_4 m_5 m_6 m_7 m_8 m_9 m_10 m_11 m_12 m_13 m_14 m_15 m_16 m_17 m_18 m_19 m_20 m_21 m_22 m_23 : Value) (hl8 : ∀ j, j < 8 → lf j = -1) : wt_M l yX6_set wsX6_set ({ frames := 2, cells := 0, slots := 0, locals := 45 } : Room) D (wt_T cI cZ cH) [.ref md, .int a1, .int a2, .int a3] [(md, .inr (6, [m_0, m_1, .ref ln, m_3, m_4, m_5, m_6, m_7, m_8, m_9, m_10, m_11, m_12, m_13, m_14, m_15, m_16, m_17, m_18, m_19, m_20, m_21, m_22, m_23])), (ln, .inl (cI, 8, .inl lf))] (wt_QI D (fun r w => r = (if wI a1 0 7 = 0 then (-1000001) else (-1000011)))) := by
  refine wt_M.ofW (cc := cX6_set) (maxL := 4) (ret := (some .int)) (by decide) rfl (Nat.le_of_ble_eq_true rfl) ?_
  intro p e s m below meth c A ls hx hb hr hts hown hlocks hml hnm hP hK hD hA hS hl
  have hP : va_P D vwCl [(md, .inr (6, [m_0, m_1, .ref ln, m_3, m_4, m_5, m_6, m_7, m_8, m_9, m_10, m_11, m_12, m_13, m_14, m_15, m_16, m_17, m_18, m_19, m_20, m_21, m_22, m_23])), (ln, .inl (cI, 8, .inl lf))] s.heap := hP
  have hown : s.vm.findClass RX6 = some m.cls := hown
  have hl : lv_has ls 4 [(0, .ref md), (1, .int a1), (2, .int a2), (3, .int a3)] := hl
  have hi6 : ∀ w ∈ u_ws RX6 TX6 24, w ∈ wsX6_set := by decide +kernel
  have wc67 := hts (.constant RX6 67 (-1000001)) (by decide +kernel)
  have wf47 := hts (.fieldLink RX6 47 "WarmTubesModel" "thrown" "I") (by decide +kernel)
  have wf51 := hts (.fieldLink RX6 51 "WarmTubesModel" "status" "I") (by decide +kernel)
  have wf7 := hts (.fieldLink RX6 7 "WarmTubesModel" "lane" "[I") (by decide +kernel)
  refine lv_aload_n hx hb dX6_set_0 rfl (lv_at hl 0 rfl) ?_
  refine lv_iconst (v := 0) hx hb dX6_set_1 (by decide) ?_
  refine va_put (D := D) (ci := 6) (v := .int 0) (ty := .int) (C := RX6) (T := TX6) (N := 24) hx hb hts hi6 tyX6 tyX6_ok nmX6 hown hK.1 hP hD hS 0 rfl rfl 0 (by decide) wf47 (fun _ h9 => h9) rfl (by decide +kernel) rfl rfl (Nat.le_of_ble_eq_true rfl) dX6_set_2 (fun H locs hP hD hS => ?_)
  have hP : va_P D vwCl [(md, .inr (6, [.int 0, m_1, .ref ln, m_3, m_4, m_5, m_6, m_7, m_8, m_9, m_10, m_11, m_12, m_13, m_14, m_15, m_16, m_17, m_18, m_19, m_20, m_21, m_22, m_23])), (ln, .inl (cI, 8, .inl lf))] H := hP
  have hD : va_D A [(md, .inr (6, [.int 0, m_1, .ref ln, m_3, m_4, m_5, m_6, m_7, m_8, m_9, m_10, m_11, m_12, m_13, m_14, m_15, m_16, m_17, m_18, m_19, m_20, m_21, m_22, m_23])), (ln, .inl (cI, 8, .inl lf))] := hD
  refine lv_iload_n hx hb dX6_set_5 rfl (lv_at hl 1 rfl) ?_
  refine wt_rS (As := [.int a1]) (rest := []) ⟨hx, hb, hml, hown, hts⟩ (c_X6_isRow l D cI cZ cH a1) (va_cwS 1 hts gX6_set_X6_isRow rfl rfl rfl (by decide +kernel) ⟨Nat.le_of_ble_eq_true rfl, Nat.le_of_ble_eq_true rfl⟩) hK hP [] rfl rfl hl.1 rfl (Nat.le_of_ble_eq_true rfl) dX6_set_6 ⟨Nat.le_of_ble_eq_true rfl, Nat.le_of_ble_eq_true rfl⟩ (fun r_1 e_2 => ?_)
  subst e_2
  refine lv_if_ne (tgt := 15) hx hb dX6_set_9 (by decide) (fun c_3 => ?_) (fun c_3 => ?_)
  · skip
    refine lv_aload_n hx hb dX6_set_15 rfl (lv_at hl 0 rfl) ?_
    refine lv_iconst (v := 0) hx hb dX6_set_16 (by decide) ?_
    refine va_put (D := D) (ci := 6) (v := .int 0) (ty := .int) (C := RX6) (T := TX6) (N := 24) hx hb hts hi6 tyX6 tyX6_ok nmX6 hown hK.1 hP hD hS 0 rfl rfl 1 (by decide) wf51 (fun _ h9 => h9) rfl (by decide +kernel) rfl rfl (Nat.le_of_ble_eq_true rfl) dX6_set_17 (fun H locs hP hD hS => ?_)
    have hP : va_P D vwCl [(md, .inr (6, [.int 0, .int 0, .ref ln, m_3, m_4, m_5, m_6, m_7, m_8, m_9, m_10, m_11, m_12, m_13, m_14, m_15, m_16, m_17, m_18, m_19, m_20, m_21, m_22, m_23])), (ln, .inl (cI, 8, .inl lf))] H := hP
    have hD : va_D A [(md, .inr (6, [.int 0, .int 0, .ref ln, m_3, m_4, m_5, m_6, m_7, m_8, m_9, m_10, m_11, m_12, m_13, m_14, m_15, m_16, m_17, m_18, m_19, m_20, m_21, m_22, m_23])), (ln, .inl (cI, 8, .inl lf))] := hD
    refine lv_aload_n hx hb dX6_set_20 rfl (lv_at hl 0 rfl) ?_
    refine va_get (D := D) (ci := 6) (v := .ref ln) (C := RX6) (T := TX6) (N := 24) hx hb hts hi6 hown hK.1 hP 0 rfl rfl 2 (by decide) wf7 (fun _ h9 => h9) rfl dX6_set_21 ?_
    refine lv_iload_n hx hb dX6_set_24 rfl (lv_at hl 1 rfl) ?_
    refine va_iald hx hb hK.1 hP 1 0 rfl rfl (wI_in (N := 8) rfl c_3) dX6_set_25 ?_
    refine wt_top (z := (-1)) (wt_all (n := 8) (wI_in rfl c_3) hl8) ?_
    refine lv_if_ge (tgt := 35) hx hb dX6_set_26 (by decide) (fun h => absurd h (by decide)) (fun _ => ?_)
    refine lv_aload_n hx hb dX6_set_29 rfl (lv_at hl 0 rfl) ?_
    refine lv_iconst (v := 1) hx hb dX6_set_30 (by decide) ?_
    refine wt_goI (wr := [(ln, .inl (cI, 8, .inl lf))]) (wt_runV (As := [.int 1]) (rest := []) ⟨hx, hb, hml, hown, hts⟩ (c_X6_finding l D cI cZ cH md 1 (.int 0) (.int 0) (.ref ln) m_3 m_4 m_5 m_6 m_7 m_8 m_9 m_10 m_11 m_12 m_13 m_14 m_15 m_16 m_17 m_18 m_19 m_20 m_21 m_22 m_23) (cwV 1 hts gX6_set_X6_finding rfl rfl rfl (by decide +kernel) ⟨Nat.le_of_ble_eq_true rfl, Nat.le_of_ble_eq_true rfl⟩) hK hP hD [0] rfl (by decide) (va_recv hK.1 hP (ci := 6) (q0 := 0) rfl rfl) rfl hl.1 rfl (Nat.le_of_ble_eq_true rfl) dX6_set_31 ⟨Nat.le_of_ble_eq_true rfl, Nat.le_of_ble_eq_true rfl⟩) hP hD hS hA [0] [1] rfl rfl (by decide) (by decide) (fun r_4 w_5 H locs h_6 hP hD hS => ?_)
    obtain rfl := h_6
    have hP := hP.sub (ws' := [(ln, .inl (cI, 8, .inl lf))]) [0] rfl
    have hD := hD.sub (ws' := [(ln, .inl (cI, 8, .inl lf))]) [0] (by decide) rfl
    refine wt_top (z := (-1000011)) (by decide) ?_
    exact wt_iret hx hb hr hlocks hP hD hS (by simp [c_3]) dX6_set_34
  · skip
    refine lv_ldc hx hb hown wc67 dX6_set_12 ?_
    exact wt_iret hx hb hr hlocks hP hD hS (by simp [c_3]) dX6_set_14
set_option maxHeartbeats 4000000 in
set_option maxRecDepth 100000 in
theorem c_X6_copy (l : Launch) (D : va_G) (cI cZ cH : ClassId) (md ln : Nat) (lf : Nat → Int32) (a1 a2 a3 a4 a5 : Int32) (m_0 m_1 m_3 m_4 m_5 m_6 m_7 m_8 m_9 m_10 m_11 m_12 m_13 m_14 m_15 m_16 m_17 m_18 m_19 m_20 m_21 m_22 m_23 : Value) (hl8 : ∀ j, j < 8 → lf j = -1) : wt_M l yX6_copy wsX6_copy ({ frames := 2, cells := 0, slots := 0, locals := 45 } : Room) D (wt_T cI cZ cH) [.ref md, .int a1, .int a2, .int a3, .int a4, .int a5] [(md, .inr (6, [m_0, m_1, .ref ln, m_3, m_4, m_5, m_6, m_7, m_8, m_9, m_10, m_11, m_12, m_13, m_14, m_15, m_16, m_17, m_18, m_19, m_20, m_21, m_22, m_23])), (ln, .inl (cI, 8, .inl lf))] (wt_QI D (fun r w => r = (if wI a1 0 7 = 0 then (-1000001) else if wI a3 0 7 = 0 then (-1000001) else (-1000011)))) := by
  refine wt_M.ofW (cc := cX6_copy) (maxL := 9) (ret := (some .int)) (by decide) rfl (Nat.le_of_ble_eq_true rfl) ?_
  intro p e s m below meth c A ls hx hb hr hts hown hlocks hml hnm hP hK hD hA hS hl
  have hP : va_P D vwCl [(md, .inr (6, [m_0, m_1, .ref ln, m_3, m_4, m_5, m_6, m_7, m_8, m_9, m_10, m_11, m_12, m_13, m_14, m_15, m_16, m_17, m_18, m_19, m_20, m_21, m_22, m_23])), (ln, .inl (cI, 8, .inl lf))] s.heap := hP
  have hown : s.vm.findClass RX6 = some m.cls := hown
  have hl : lv_has ls 9 [(0, .ref md), (1, .int a1), (2, .int a2), (3, .int a3), (4, .int a4), (5, .int a5)] := hl
  have hi6 : ∀ w ∈ u_ws RX6 TX6 24, w ∈ wsX6_copy := by decide +kernel
  have wc67 := hts (.constant RX6 67 (-1000001)) (by decide +kernel)
  have wf47 := hts (.fieldLink RX6 47 "WarmTubesModel" "thrown" "I") (by decide +kernel)
  have wf51 := hts (.fieldLink RX6 51 "WarmTubesModel" "status" "I") (by decide +kernel)
  have wf7 := hts (.fieldLink RX6 7 "WarmTubesModel" "lane" "[I") (by decide +kernel)
  refine lv_aload_n hx hb dX6_copy_0 rfl (lv_at hl 0 rfl) ?_
  refine lv_iconst (v := 0) hx hb dX6_copy_1 (by decide) ?_
  refine va_put (D := D) (ci := 6) (v := .int 0) (ty := .int) (C := RX6) (T := TX6) (N := 24) hx hb hts hi6 tyX6 tyX6_ok nmX6 hown hK.1 hP hD hS 0 rfl rfl 0 (by decide) wf47 (fun _ h9 => h9) rfl (by decide +kernel) rfl rfl (Nat.le_of_ble_eq_true rfl) dX6_copy_2 (fun H locs hP hD hS => ?_)
  have hP : va_P D vwCl [(md, .inr (6, [.int 0, m_1, .ref ln, m_3, m_4, m_5, m_6, m_7, m_8, m_9, m_10, m_11, m_12, m_13, m_14, m_15, m_16, m_17, m_18, m_19, m_20, m_21, m_22, m_23])), (ln, .inl (cI, 8, .inl lf))] H := hP
  have hD : va_D A [(md, .inr (6, [.int 0, m_1, .ref ln, m_3, m_4, m_5, m_6, m_7, m_8, m_9, m_10, m_11, m_12, m_13, m_14, m_15, m_16, m_17, m_18, m_19, m_20, m_21, m_22, m_23])), (ln, .inl (cI, 8, .inl lf))] := hD
  refine lv_iload_n hx hb dX6_copy_5 rfl (lv_at hl 1 rfl) ?_
  refine wt_rS (As := [.int a1]) (rest := []) ⟨hx, hb, hml, hown, hts⟩ (c_X6_isRow l D cI cZ cH a1) (va_cwS 1 hts gX6_copy_X6_isRow rfl rfl rfl (by decide +kernel) ⟨Nat.le_of_ble_eq_true rfl, Nat.le_of_ble_eq_true rfl⟩) hK hP [] rfl rfl hl.1 rfl (Nat.le_of_ble_eq_true rfl) dX6_copy_6 ⟨Nat.le_of_ble_eq_true rfl, Nat.le_of_ble_eq_true rfl⟩ (fun r_1 e_2 => ?_)
  subst e_2
  refine lv_if_eq (tgt := 19) hx hb dX6_copy_9 (by decide) (fun c_3 => ?_) (fun c_3 => ?_)
  · skip
    refine lv_ldc hx hb hown wc67 dX6_copy_19 ?_
    exact wt_iret hx hb hr hlocks hP hD hS (by simp [c_3]) dX6_copy_21
  · skip
    refine lv_iload_n hx hb dX6_copy_12 rfl (lv_at hl 3 rfl) ?_
    refine wt_rS (As := [.int a3]) (rest := []) ⟨hx, hb, hml, hown, hts⟩ (c_X6_isRow l D cI cZ cH a3) (va_cwS 1 hts gX6_copy_X6_isRow rfl rfl rfl (by decide +kernel) ⟨Nat.le_of_ble_eq_true rfl, Nat.le_of_ble_eq_true rfl⟩) hK hP [] rfl rfl hl.1 rfl (Nat.le_of_ble_eq_true rfl) dX6_copy_13 ⟨Nat.le_of_ble_eq_true rfl, Nat.le_of_ble_eq_true rfl⟩ (fun r_4 e_5 => ?_)
    subst e_5
    refine lv_if_ne (tgt := 22) hx hb dX6_copy_16 (by decide) (fun c_6 => ?_) (fun c_6 => ?_)
    · skip
      refine lv_aload_n hx hb dX6_copy_22 rfl (lv_at hl 0 rfl) ?_
      refine lv_iconst (v := 0) hx hb dX6_copy_23 (by decide) ?_
      refine va_put (D := D) (ci := 6) (v := .int 0) (ty := .int) (C := RX6) (T := TX6) (N := 24) hx hb hts hi6 tyX6 tyX6_ok nmX6 hown hK.1 hP hD hS 0 rfl rfl 1 (by decide) wf51 (fun _ h9 => h9) rfl (by decide +kernel) rfl rfl (Nat.le_of_ble_eq_true rfl) dX6_copy_24 (fun H locs hP hD hS => ?_)
      have hP : va_P D vwCl [(md, .inr (6, [.int 0, .int 0, .ref ln, m_3, m_4, m_5, m_6, m_7, m_8, m_9, m_10, m_11, m_12, m_13, m_14, m_15, m_16, m_17, m_18, m_19, m_20, m_21, m_22, m_23])), (ln, .inl (cI, 8, .inl lf))] H := hP
      have hD : va_D A [(md, .inr (6, [.int 0, .int 0, .ref ln, m_3, m_4, m_5, m_6, m_7, m_8, m_9, m_10, m_11, m_12, m_13, m_14, m_15, m_16, m_17, m_18, m_19, m_20, m_21, m_22, m_23])), (ln, .inl (cI, 8, .inl lf))] := hD
      refine lv_aload_n hx hb dX6_copy_27 rfl (lv_at hl 0 rfl) ?_
      refine va_get (D := D) (ci := 6) (v := .ref ln) (C := RX6) (T := TX6) (N := 24) hx hb hts hi6 hown hK.1 hP 0 rfl rfl 2 (by decide) wf7 (fun _ h9 => h9) rfl dX6_copy_28 ?_
      refine lv_iload_n hx hb dX6_copy_31 rfl (lv_at hl 1 rfl) ?_
      refine va_iald hx hb hK.1 hP 1 0 rfl rfl (wI_in (N := 8) rfl c_3) dX6_copy_32 ?_
      refine wt_top (z := (-1)) (wt_all (n := 8) (wI_in rfl c_3) hl8) ?_
      refine lv_if_lt (tgt := 45) hx hb dX6_copy_33 (by decide) (fun _ => ?_) (fun h => absurd h (by decide))
      refine lv_aload_n hx hb dX6_copy_45 rfl (lv_at hl 0 rfl) ?_
      refine lv_iconst (v := 1) hx hb dX6_copy_46 (by decide) ?_
      refine wt_goI (wr := [(ln, .inl (cI, 8, .inl lf))]) (wt_runV (As := [.int 1]) (rest := []) ⟨hx, hb, hml, hown, hts⟩ (c_X6_finding l D cI cZ cH md 1 (.int 0) (.int 0) (.ref ln) m_3 m_4 m_5 m_6 m_7 m_8 m_9 m_10 m_11 m_12 m_13 m_14 m_15 m_16 m_17 m_18 m_19 m_20 m_21 m_22 m_23) (cwV 1 hts gX6_copy_X6_finding rfl rfl rfl (by decide +kernel) ⟨Nat.le_of_ble_eq_true rfl, Nat.le_of_ble_eq_true rfl⟩) hK hP hD [0] rfl (by decide) (va_recv hK.1 hP (ci := 6) (q0 := 0) rfl rfl) rfl hl.1 rfl (Nat.le_of_ble_eq_true rfl) dX6_copy_47 ⟨Nat.le_of_ble_eq_true rfl, Nat.le_of_ble_eq_true rfl⟩) hP hD hS hA [0] [1] rfl rfl (by decide) (by decide) (fun r_7 w_8 H locs h_9 hP hD hS => ?_)
      obtain rfl := h_9
      have hP := hP.sub (ws' := [(ln, .inl (cI, 8, .inl lf))]) [0] rfl
      have hD := hD.sub (ws' := [(ln, .inl (cI, 8, .inl lf))]) [0] (by decide) rfl
      refine wt_top (z := (-1000011)) (by decide) ?_
      exact wt_iret hx hb hr hlocks hP hD hS (by simp [c_3, c_6]) dX6_copy_50
    · skip
      refine lv_ldc hx hb hown wc67 dX6_copy_19 ?_
      exact wt_iret hx hb hr hlocks hP hD hS (by simp [c_3, c_6]) dX6_copy_21
set_option maxHeartbeats 4000000 in
set_option maxRecDepth 100000 in
theorem c_X6_drop (l : Launch) (D : va_G) (cI cZ cH : ClassId) (md ln : Nat) (lf : Nat → Int32) (a1 : Int32) (m_0 m_1 m_3 m_4 m_5 m_6 m_7 m_8 m_9 m_10 m_11 m_12 m_13 m_14 m_15 m_16 m_17 m_18 m_19 m_20 m_21 m_22 m_23 : Value) (hl8 : ∀ j, j < 8 → lf j = -1) : wt_M l yX6_drop wsX6_drop ({ frames := 2, cells := 0, slots := 0, locals := 45 } : Room) D (wt_T cI cZ cH) [.ref md, .int a1] [(md, .inr (6, [m_0, m_1, .ref ln, m_3, m_4, m_5, m_6, m_7, m_8, m_9, m_10, m_11, m_12, m_13, m_14, m_15, m_16, m_17, m_18, m_19, m_20, m_21, m_22, m_23])), (ln, .inl (cI, 8, .inl lf))] (wt_QI D (fun r w => r = (if wI a1 0 7 = 0 then (-1000001) else (-1000011)))) := by
  refine wt_M.ofW (cc := cX6_drop) (maxL := 2) (ret := (some .int)) (by decide) rfl (Nat.le_of_ble_eq_true rfl) ?_
  intro p e s m below meth c A ls hx hb hr hts hown hlocks hml hnm hP hK hD hA hS hl
  have hP : va_P D vwCl [(md, .inr (6, [m_0, m_1, .ref ln, m_3, m_4, m_5, m_6, m_7, m_8, m_9, m_10, m_11, m_12, m_13, m_14, m_15, m_16, m_17, m_18, m_19, m_20, m_21, m_22, m_23])), (ln, .inl (cI, 8, .inl lf))] s.heap := hP
  have hown : s.vm.findClass RX6 = some m.cls := hown
  have hl : lv_has ls 2 [(0, .ref md), (1, .int a1)] := hl
  have hi6 : ∀ w ∈ u_ws RX6 TX6 24, w ∈ wsX6_drop := by decide +kernel
  have wc67 := hts (.constant RX6 67 (-1000001)) (by decide +kernel)
  have wf47 := hts (.fieldLink RX6 47 "WarmTubesModel" "thrown" "I") (by decide +kernel)
  have wf51 := hts (.fieldLink RX6 51 "WarmTubesModel" "status" "I") (by decide +kernel)
  have wf7 := hts (.fieldLink RX6 7 "WarmTubesModel" "lane" "[I") (by decide +kernel)
  refine lv_aload_n hx hb dX6_drop_0 rfl (lv_at hl 0 rfl) ?_
  refine lv_iconst (v := 0) hx hb dX6_drop_1 (by decide) ?_
  refine va_put (D := D) (ci := 6) (v := .int 0) (ty := .int) (C := RX6) (T := TX6) (N := 24) hx hb hts hi6 tyX6 tyX6_ok nmX6 hown hK.1 hP hD hS 0 rfl rfl 0 (by decide) wf47 (fun _ h9 => h9) rfl (by decide +kernel) rfl rfl (Nat.le_of_ble_eq_true rfl) dX6_drop_2 (fun H locs hP hD hS => ?_)
  have hP : va_P D vwCl [(md, .inr (6, [.int 0, m_1, .ref ln, m_3, m_4, m_5, m_6, m_7, m_8, m_9, m_10, m_11, m_12, m_13, m_14, m_15, m_16, m_17, m_18, m_19, m_20, m_21, m_22, m_23])), (ln, .inl (cI, 8, .inl lf))] H := hP
  have hD : va_D A [(md, .inr (6, [.int 0, m_1, .ref ln, m_3, m_4, m_5, m_6, m_7, m_8, m_9, m_10, m_11, m_12, m_13, m_14, m_15, m_16, m_17, m_18, m_19, m_20, m_21, m_22, m_23])), (ln, .inl (cI, 8, .inl lf))] := hD
  refine lv_iload_n hx hb dX6_drop_5 rfl (lv_at hl 1 rfl) ?_
  refine wt_rS (As := [.int a1]) (rest := []) ⟨hx, hb, hml, hown, hts⟩ (c_X6_isRow l D cI cZ cH a1) (va_cwS 1 hts gX6_drop_X6_isRow rfl rfl rfl (by decide +kernel) ⟨Nat.le_of_ble_eq_true rfl, Nat.le_of_ble_eq_true rfl⟩) hK hP [] rfl rfl hl.1 rfl (Nat.le_of_ble_eq_true rfl) dX6_drop_6 ⟨Nat.le_of_ble_eq_true rfl, Nat.le_of_ble_eq_true rfl⟩ (fun r_1 e_2 => ?_)
  subst e_2
  refine lv_if_ne (tgt := 15) hx hb dX6_drop_9 (by decide) (fun c_3 => ?_) (fun c_3 => ?_)
  · skip
    refine lv_aload_n hx hb dX6_drop_15 rfl (lv_at hl 0 rfl) ?_
    refine lv_iconst (v := 0) hx hb dX6_drop_16 (by decide) ?_
    refine va_put (D := D) (ci := 6) (v := .int 0) (ty := .int) (C := RX6) (T := TX6) (N := 24) hx hb hts hi6 tyX6 tyX6_ok nmX6 hown hK.1 hP hD hS 0 rfl rfl 1 (by decide) wf51 (fun _ h9 => h9) rfl (by decide +kernel) rfl rfl (Nat.le_of_ble_eq_true rfl) dX6_drop_17 (fun H locs hP hD hS => ?_)
    have hP : va_P D vwCl [(md, .inr (6, [.int 0, .int 0, .ref ln, m_3, m_4, m_5, m_6, m_7, m_8, m_9, m_10, m_11, m_12, m_13, m_14, m_15, m_16, m_17, m_18, m_19, m_20, m_21, m_22, m_23])), (ln, .inl (cI, 8, .inl lf))] H := hP
    have hD : va_D A [(md, .inr (6, [.int 0, .int 0, .ref ln, m_3, m_4, m_5, m_6, m_7, m_8, m_9, m_10, m_11, m_12, m_13, m_14, m_15, m_16, m_17, m_18, m_19, m_20, m_21, m_22, m_23])), (ln, .inl (cI, 8, .inl lf))] := hD
    refine lv_aload_n hx hb dX6_drop_20 rfl (lv_at hl 0 rfl) ?_
    refine va_get (D := D) (ci := 6) (v := .ref ln) (C := RX6) (T := TX6) (N := 24) hx hb hts hi6 hown hK.1 hP 0 rfl rfl 2 (by decide) wf7 (fun _ h9 => h9) rfl dX6_drop_21 ?_
    refine lv_iload_n hx hb dX6_drop_24 rfl (lv_at hl 1 rfl) ?_
    refine va_iald hx hb hK.1 hP 1 0 rfl rfl (wI_in (N := 8) rfl c_3) dX6_drop_25 ?_
    refine wt_top (z := (-1)) (wt_all (n := 8) (wI_in rfl c_3) hl8) ?_
    refine lv_if_ge (tgt := 35) hx hb dX6_drop_26 (by decide) (fun h => absurd h (by decide)) (fun _ => ?_)
    refine lv_aload_n hx hb dX6_drop_29 rfl (lv_at hl 0 rfl) ?_
    refine lv_iconst (v := 1) hx hb dX6_drop_30 (by decide) ?_
    refine wt_goI (wr := [(ln, .inl (cI, 8, .inl lf))]) (wt_runV (As := [.int 1]) (rest := []) ⟨hx, hb, hml, hown, hts⟩ (c_X6_finding l D cI cZ cH md 1 (.int 0) (.int 0) (.ref ln) m_3 m_4 m_5 m_6 m_7 m_8 m_9 m_10 m_11 m_12 m_13 m_14 m_15 m_16 m_17 m_18 m_19 m_20 m_21 m_22 m_23) (cwV 1 hts gX6_drop_X6_finding rfl rfl rfl (by decide +kernel) ⟨Nat.le_of_ble_eq_true rfl, Nat.le_of_ble_eq_true rfl⟩) hK hP hD [0] rfl (by decide) (va_recv hK.1 hP (ci := 6) (q0 := 0) rfl rfl) rfl hl.1 rfl (Nat.le_of_ble_eq_true rfl) dX6_drop_31 ⟨Nat.le_of_ble_eq_true rfl, Nat.le_of_ble_eq_true rfl⟩) hP hD hS hA [0] [1] rfl rfl (by decide) (by decide) (fun r_4 w_5 H locs h_6 hP hD hS => ?_)
    obtain rfl := h_6
    have hP := hP.sub (ws' := [(ln, .inl (cI, 8, .inl lf))]) [0] rfl
    have hD := hD.sub (ws' := [(ln, .inl (cI, 8, .inl lf))]) [0] (by decide) rfl
    refine wt_top (z := (-1000011)) (by decide) ?_
    exact wt_iret hx hb hr hlocks hP hD hS (by simp [c_3]) dX6_drop_34
  · skip
    refine lv_ldc hx hb hown wc67 dX6_drop_12 ?_
    exact wt_iret hx hb hr hlocks hP hD hS (by simp [c_3]) dX6_drop_14
set_option maxHeartbeats 4000000 in
set_option maxRecDepth 100000 in
theorem c_X6_feed (l : Launch) (D : va_G) (cI cZ cH : ClassId) (md bt : Nat) (bf : Nat → Int32) (a1 : Int32) (m_0 m_1 m_2 m_3 m_4 m_5 m_6 m_7 m_8 m_9 m_12 m_13 m_14 m_15 m_16 m_17 m_18 m_19 m_20 m_21 m_22 m_23 : Value) : wt_M l yX6_feed wsX6_feed ({ frames := 1, cells := 0, slots := 0, locals := 25 } : Room) D (wt_T cI cZ cH) [.ref md, .int a1] [(md, .inr (6, [m_0, m_1, m_2, m_3, m_4, m_5, m_6, m_7, m_8, m_9, .ref bt, .int 0, m_12, m_13, m_14, m_15, m_16, m_17, m_18, m_19, m_20, m_21, m_22, m_23])), (bt, .inl (cI, 120, .inl bf))] (wt_QI D (fun r w => r = (if wI a1 0 255 = 0 then (-1000001) else 1))) := by
  refine wt_M.ofW (cc := cX6_feed) (maxL := 2) (ret := (some .int)) (by decide) rfl (Nat.le_of_ble_eq_true rfl) ?_
  intro p e s m below meth c A ls hx hb hr hts hown hlocks hml hnm hP hK hD hA hS hl
  have hP : va_P D vwCl [(md, .inr (6, [m_0, m_1, m_2, m_3, m_4, m_5, m_6, m_7, m_8, m_9, .ref bt, .int 0, m_12, m_13, m_14, m_15, m_16, m_17, m_18, m_19, m_20, m_21, m_22, m_23])), (bt, .inl (cI, 120, .inl bf))] s.heap := hP
  have hown : s.vm.findClass RX6 = some m.cls := hown
  have hl : lv_has ls 2 [(0, .ref md), (1, .int a1)] := hl
  have hi6 : ∀ w ∈ u_ws RX6 TX6 24, w ∈ wsX6_feed := by decide +kernel
  have wc67 := hts (.constant RX6 67 (-1000001)) (by decide +kernel)
  have wf31 := hts (.fieldLink RX6 31 "WarmTubesModel" "tape" "[I") (by decide +kernel)
  have wf47 := hts (.fieldLink RX6 47 "WarmTubesModel" "thrown" "I") (by decide +kernel)
  have wf74 := hts (.fieldLink RX6 74 "WarmTubesModel" "taped" "I") (by decide +kernel)
  have wl72 := hts (.constantLong RX6 72 (255)) (by decide +kernel)
  refine lv_aload_n hx hb dX6_feed_0 rfl (lv_at hl 0 rfl) ?_
  refine lv_iconst (v := 0) hx hb dX6_feed_1 (by decide) ?_
  refine va_put (D := D) (ci := 6) (v := .int 0) (ty := .int) (C := RX6) (T := TX6) (N := 24) hx hb hts hi6 tyX6 tyX6_ok nmX6 hown hK.1 hP hD hS 0 rfl rfl 0 (by decide) wf47 (fun _ h9 => h9) rfl (by decide +kernel) rfl rfl (Nat.le_of_ble_eq_true rfl) dX6_feed_2 (fun H locs hP hD hS => ?_)
  have hP : va_P D vwCl [(md, .inr (6, [.int 0, m_1, m_2, m_3, m_4, m_5, m_6, m_7, m_8, m_9, .ref bt, .int 0, m_12, m_13, m_14, m_15, m_16, m_17, m_18, m_19, m_20, m_21, m_22, m_23])), (bt, .inl (cI, 120, .inl bf))] H := hP
  have hD : va_D A [(md, .inr (6, [.int 0, m_1, m_2, m_3, m_4, m_5, m_6, m_7, m_8, m_9, .ref bt, .int 0, m_12, m_13, m_14, m_15, m_16, m_17, m_18, m_19, m_20, m_21, m_22, m_23])), (bt, .inl (cI, 120, .inl bf))] := hD
  refine lv_iload_n hx hb dX6_feed_5 rfl (lv_at hl 1 rfl) ?_
  refine lv_i2l (v := a1.toInt64) hx hb dX6_feed_6 rfl ?_
  refine lv_lconst (v := 0) hx hb dX6_feed_7 (by decide) ?_
  refine lv_ldc2 hx hb hown wl72 dX6_feed_8 ?_
  refine wt_rS (As := [.long a1.toInt64, .long 0, .long 255]) (rest := []) ⟨hx, hb, hml, hown, hts⟩ (c_X6_in l D cI cZ cH a1.toInt64 0 255) (va_cwS 3 hts gX6_feed_X6_in rfl rfl rfl (by decide +kernel) ⟨Nat.le_of_ble_eq_true rfl, Nat.le_of_ble_eq_true rfl⟩) hK hP [] rfl rfl hl.1 rfl (Nat.le_of_ble_eq_true rfl) dX6_feed_11 ⟨Nat.le_of_ble_eq_true rfl, Nat.le_of_ble_eq_true rfl⟩ (fun r_1 e_2 => ?_)
  subst e_2
  refine wt_top (z := wI a1 0 255) (wL_I' (by decide) (by decide)) ?_
  refine lv_if_ne (tgt := 20) hx hb dX6_feed_14 (by decide) (fun c_3 => ?_) (fun c_3 => ?_)
  · skip
    refine lv_aload_n hx hb dX6_feed_20 rfl (lv_at hl 0 rfl) ?_
    refine va_get (D := D) (ci := 6) (v := .int 0) (C := RX6) (T := TX6) (N := 24) hx hb hts hi6 hown hK.1 hP 0 rfl rfl 11 (by decide) wf74 (fun _ h9 => h9) rfl dX6_feed_21 ?_
    refine lv_bipush (v := 120) hx hb dX6_feed_24 (by decide) ?_
    refine lv_icmp_ne (tgt := 32) hx hb dX6_feed_26 (by decide) (fun _ => ?_) (fun h => absurd h (by decide))
    refine lv_aload_n hx hb dX6_feed_32 rfl (lv_at hl 0 rfl) ?_
    refine va_get (D := D) (ci := 6) (v := .ref bt) (C := RX6) (T := TX6) (N := 24) hx hb hts hi6 hown hK.1 hP 0 rfl rfl 10 (by decide) wf31 (fun _ h9 => h9) rfl dX6_feed_33 ?_
    refine lv_aload_n hx hb dX6_feed_36 rfl (lv_at hl 0 rfl) ?_
    refine va_get (D := D) (ci := 6) (v := .int 0) (C := RX6) (T := TX6) (N := 24) hx hb hts hi6 hown hK.1 hP 0 rfl rfl 11 (by decide) wf74 (fun _ h9 => h9) rfl dX6_feed_37 ?_
    refine lv_iload_n hx hb dX6_feed_40 rfl (lv_at hl 1 rfl) ?_
    refine va_iast hx hb hK.1 hP hD hS 1 0 rfl rfl (by rw [vp_in_iff]; decide) dX6_feed_41 (fun H locs hP hD hS => ?_)
    have hP : va_P D vwCl [(md, .inr (6, [.int 0, m_1, m_2, m_3, m_4, m_5, m_6, m_7, m_8, m_9, .ref bt, .int 0, m_12, m_13, m_14, m_15, m_16, m_17, m_18, m_19, m_20, m_21, m_22, m_23])), (bt, .inl (cI, 120, .inl (upd bf (Int32.toNatClampNeg 0) a1)))] H := hP
    have hD : va_D A [(md, .inr (6, [.int 0, m_1, m_2, m_3, m_4, m_5, m_6, m_7, m_8, m_9, .ref bt, .int 0, m_12, m_13, m_14, m_15, m_16, m_17, m_18, m_19, m_20, m_21, m_22, m_23])), (bt, .inl (cI, 120, .inl (upd bf (Int32.toNatClampNeg 0) a1)))] := hD
    refine lv_aload_n hx hb dX6_feed_42 rfl (lv_at hl 0 rfl) ?_
    refine lv_dup hx hb dX6_feed_43 rfl ?_
    refine va_get (D := D) (ci := 6) (v := .int 0) (C := RX6) (T := TX6) (N := 24) hx hb hts hi6 hown hK.1 hP 0 rfl rfl 11 (by decide) wf74 (fun _ h9 => h9) rfl dX6_feed_44 ?_
    refine lv_iconst (v := 1) hx hb dX6_feed_47 (by decide) ?_
    refine lv_iadd hx hb dX6_feed_48 ?_
    refine wt_top (z := 1) (by decide) ?_
    refine va_put (D := D) (ci := 6) (v := .int 1) (ty := .int) (C := RX6) (T := TX6) (N := 24) hx hb hts hi6 tyX6 tyX6_ok nmX6 hown hK.1 hP hD hS 0 rfl rfl 11 (by decide) wf74 (fun _ h9 => h9) rfl (by decide +kernel) rfl rfl (Nat.le_of_ble_eq_true rfl) dX6_feed_49 (fun H locs hP hD hS => ?_)
    have hP : va_P D vwCl [(md, .inr (6, [.int 0, m_1, m_2, m_3, m_4, m_5, m_6, m_7, m_8, m_9, .ref bt, .int 1, m_12, m_13, m_14, m_15, m_16, m_17, m_18, m_19, m_20, m_21, m_22, m_23])), (bt, .inl (cI, 120, .inl (upd bf (Int32.toNatClampNeg 0) a1)))] H := hP
    have hD : va_D A [(md, .inr (6, [.int 0, m_1, m_2, m_3, m_4, m_5, m_6, m_7, m_8, m_9, .ref bt, .int 1, m_12, m_13, m_14, m_15, m_16, m_17, m_18, m_19, m_20, m_21, m_22, m_23])), (bt, .inl (cI, 120, .inl (upd bf (Int32.toNatClampNeg 0) a1)))] := hD
    refine lv_aload_n hx hb dX6_feed_52 rfl (lv_at hl 0 rfl) ?_
    refine va_get (D := D) (ci := 6) (v := .int 1) (C := RX6) (T := TX6) (N := 24) hx hb hts hi6 hown hK.1 hP 0 rfl rfl 11 (by decide) wf74 (fun _ h9 => h9) rfl dX6_feed_53 ?_
    exact wt_iret hx hb hr hlocks hP hD hS (by simp [c_3]) dX6_feed_56
  · skip
    refine lv_ldc hx hb hown wc67 dX6_feed_17 ?_
    exact wt_iret hx hb hr hlocks hP hD hS (by simp [c_3]) dX6_feed_19
set_option maxHeartbeats 4000000 in
set_option maxRecDepth 100000 in
theorem c_X6_count (l : Launch) (D : va_G) (cI cZ cH : ClassId) (md ln hs : Nat) (lf : Nat → Int32) (a1 : Int32) (m_0 m_1 m_3 m_4 m_6 m_7 m_8 m_10 m_12 m_13 m_14 m_15 m_16 m_17 m_18 m_19 m_20 m_21 m_22 m_23 : Value) (hl8 : ∀ j, j < 8 → lf j = -1) : wt_M l yX6_count wsX6_count ({ frames := 1, cells := 0, slots := 0, locals := 22 } : Room) D (wt_T cI cZ cH) [.ref md, .int a1] [(md, .inr (6, [m_0, m_1, .ref ln, m_3, m_4, .ref hs, m_6, m_7, m_8, .int 0, m_10, .int 0, m_12, m_13, m_14, m_15, m_16, m_17, m_18, m_19, m_20, m_21, m_22, m_23])), (ln, .inl (cI, 8, .inl lf)), (hs, .inl (cI, 45, .inl (fun _ => 0)))] (wt_QI D (fun r w => r = (if wI a1 0 7 = 0 then (-1000001) else 0))) := by
  refine wt_M.ofW (cc := cX6_count) (maxL := 4) (ret := (some .int)) (by decide) rfl (Nat.le_of_ble_eq_true rfl) ?_
  intro p e s m below meth c A ls hx hb hr hts hown hlocks hml hnm hP hK hD hA hS hl
  have hP : va_P D vwCl [(md, .inr (6, [m_0, m_1, .ref ln, m_3, m_4, .ref hs, m_6, m_7, m_8, .int 0, m_10, .int 0, m_12, m_13, m_14, m_15, m_16, m_17, m_18, m_19, m_20, m_21, m_22, m_23])), (ln, .inl (cI, 8, .inl lf)), (hs, .inl (cI, 45, .inl (fun _ => 0)))] s.heap := hP
  have hown : s.vm.findClass RX6 = some m.cls := hown
  have hl : lv_has ls 4 [(0, .ref md), (1, .int a1)] := hl
  have hi6 : ∀ w ∈ u_ws RX6 TX6 24, w ∈ wsX6_count := by decide +kernel
  have wc67 := hts (.constant RX6 67 (-1000001)) (by decide +kernel)
  have wf149 := hts (.fieldLink RX6 149 "WarmTubesModel" "acts" "I") (by decide +kernel)
  have wf19 := hts (.fieldLink RX6 19 "WarmTubesModel" "house" "[I") (by decide +kernel)
  have wf47 := hts (.fieldLink RX6 47 "WarmTubesModel" "thrown" "I") (by decide +kernel)
  have wf7 := hts (.fieldLink RX6 7 "WarmTubesModel" "lane" "[I") (by decide +kernel)
  have wf74 := hts (.fieldLink RX6 74 "WarmTubesModel" "taped" "I") (by decide +kernel)
  refine lv_aload_n hx hb dX6_count_0 rfl (lv_at hl 0 rfl) ?_
  refine lv_iconst (v := 0) hx hb dX6_count_1 (by decide) ?_
  refine va_put (D := D) (ci := 6) (v := .int 0) (ty := .int) (C := RX6) (T := TX6) (N := 24) hx hb hts hi6 tyX6 tyX6_ok nmX6 hown hK.1 hP hD hS 0 rfl rfl 0 (by decide) wf47 (fun _ h9 => h9) rfl (by decide +kernel) rfl rfl (Nat.le_of_ble_eq_true rfl) dX6_count_2 (fun H locs hP hD hS => ?_)
  have hP : va_P D vwCl [(md, .inr (6, [.int 0, m_1, .ref ln, m_3, m_4, .ref hs, m_6, m_7, m_8, .int 0, m_10, .int 0, m_12, m_13, m_14, m_15, m_16, m_17, m_18, m_19, m_20, m_21, m_22, m_23])), (ln, .inl (cI, 8, .inl lf)), (hs, .inl (cI, 45, .inl (fun _ => 0)))] H := hP
  have hD : va_D A [(md, .inr (6, [.int 0, m_1, .ref ln, m_3, m_4, .ref hs, m_6, m_7, m_8, .int 0, m_10, .int 0, m_12, m_13, m_14, m_15, m_16, m_17, m_18, m_19, m_20, m_21, m_22, m_23])), (ln, .inl (cI, 8, .inl lf)), (hs, .inl (cI, 45, .inl (fun _ => 0)))] := hD
  refine lv_iconst (v := 0) hx hb dX6_count_5 (by decide) ?_
  refine lv_istore_n (lv' := [(2, .int 0), (0, .ref md), (1, .int a1)]) hx hb dX6_count_6 rfl hl (by decide) rfl (fun ls hl => ?_)
  refine lv_iload_n hx hb dX6_count_7 rfl (lv_at hl 2 rfl) ?_
  rcases wt_dec (a1) 0 with c_2 | c_2
  · subst c_2
    refine lv_tableIn (off := 48) (tgt := 56) hx hb dX6_count_8 (by decide) (by decide) rfl (by decide) ?_
    refine lv_iconst (v := 0) hx hb dX6_count_56 (by decide) ?_
    refine lv_istore_n (lv' := [(3, .int 0), (2, .int 0), (0, .ref md), (1, .int 0)]) hx hb dX6_count_57 rfl hl (by decide) rfl (fun ls hl => ?_)
    have loop : ∀ (k : Nat) (i : Int32) (H : Heap) (locs : List Loc) (ls : Array Slot), i.toInt = ((8 : Nat) : Int) - (k : Int) → k ≤ 8 → va_P D vwCl [(md, .inr (6, [.int 0, m_1, .ref ln, m_3, m_4, .ref hs, m_6, m_7, m_8, .int 0, m_10, .int 0, m_12, m_13, m_14, m_15, m_16, m_17, m_18, m_19, m_20, m_21, m_22, m_23])), (ln, .inl (cI, 8, .inl lf)), (hs, .inl (cI, 45, .inl (fun _ => 0)))] H → va_D A [(md, .inr (6, [.int 0, m_1, .ref ln, m_3, m_4, .ref hs, m_6, m_7, m_8, .int 0, m_10, .int 0, m_12, m_13, m_14, m_15, m_16, m_17, m_18, m_19, m_20, m_21, m_22, m_23])), (ln, .inl (cI, 8, .inl lf)), (hs, .inl (cI, 45, .inl (fun _ => 0)))] → va_S A s.heap H locs → lv_has ls 4 [(3, .int i), (2, .int 0), (0, .ref md), (1, .int 0)] → W p l e ({ frames := 1, cells := 0, slots := 0, locals := 22 } : Room) s m ([.ref md, .int 0] : List Value).toArray below meth c H locs 0 0 (MQ below (wt_QI D (fun r w => r = (if wI 0 0 7 = 0 then (-1000001) else 0)) A) ([.ref md, .int 0] : List Value).toArray s 0 0 A) (F0 m 58 ls []) := by
      intro k
      induction k with
      | zero =>
        intro i  H locs ls hi hk hP hD hS hl
        refine lv_iload_n hx hb dX6_count_58 rfl (lv_at hl 0 rfl) ?_
        refine lv_bipush (v := 8) hx hb dX6_count_59 (by decide) ?_
        refine lv_icmp_ge (tgt := 87) hx hb dX6_count_61 (by decide) (fun _ => ?_) (fun h => absurd (wt_lp0 rfl hi) h)
        refine lv_iload_n hx hb dX6_count_87 rfl (lv_at hl 1 rfl) ?_
        exact wt_iret hx hb hr hlocks hP hD hS (by decide) dX6_count_88
      | succ k ih =>
        intro i  H locs ls hi hk hP hD hS hl
        have hin := wt_lpi hi hk
        refine lv_iload_n hx hb dX6_count_58 rfl (lv_at hl 0 rfl) ?_
        refine lv_bipush (v := 8) hx hb dX6_count_59 (by decide) ?_
        refine lv_icmp_ge (tgt := 87) hx hb dX6_count_61 (by decide) (fun h => absurd h (wt_lpS rfl hi)) (fun _ => ?_)
        refine lv_iload_n hx hb dX6_count_64 rfl (lv_at hl 1 rfl) ?_
        refine lv_aload_n hx hb dX6_count_65 rfl (lv_at hl 2 rfl) ?_
        refine va_get (D := D) (ci := 6) (v := .ref ln) (C := RX6) (T := TX6) (N := 24) hx hb hts hi6 hown hK.1 hP 0 rfl rfl 2 (by decide) wf7 (fun _ h9 => h9) rfl dX6_count_66 ?_
        refine lv_iload_n hx hb dX6_count_69 rfl (lv_at hl 0 rfl) ?_
        refine va_iald hx hb hK.1 hP 1 0 rfl rfl hin dX6_count_70 ?_
        refine wt_top (z := (-1)) (wt_all hin hl8) ?_
        refine lv_if_lt (tgt := 78) hx hb dX6_count_71 (by decide) (fun _ => ?_) (fun h => absurd h (by decide))
        refine lv_iconst (v := 0) hx hb dX6_count_78 (by decide) ?_
        refine lv_iadd hx hb dX6_count_79 ?_
        refine wt_top (z := 0) (by decide) ?_
        refine lv_istore_n (lv' := [(2, .int 0), (3, .int i), (0, .ref md), (1, .int 0)]) hx hb dX6_count_80 rfl hl (by decide) rfl (fun ls hl => ?_)
        refine lv_iinc (v := i + 1) (lv' := [(3, .int (i + 1)), (2, .int 0), (0, .ref md), (1, .int 0)]) hx hb dX6_count_81 hl (k := 1) rfl rfl (by decide) rfl (fun ls hl => ?_)
        refine lv_goto (tgt := 58) hx hb dX6_count_84 (by decide) ?_
        exact ih (i + 1) H locs ls (wt_lpn (by decide) hi hk) (Nat.le_of_succ_le hk) hP hD hS (lv_sub hl [0, 1, 2, 3] rfl)
    exact loop 8 0  _ _ ls (by decide) (Nat.le_refl _) hP hD hS hl
  rcases wt_dec (a1) 1 with c_3 | c_3
  · subst c_3
    refine lv_tableIn (off := 81) (tgt := 89) hx hb dX6_count_8 (by decide) (by decide) rfl (by decide) ?_
    refine lv_aload_n hx hb dX6_count_89 rfl (lv_at hl 1 rfl) ?_
    refine va_get (D := D) (ci := 6) (v := .ref hs) (C := RX6) (T := TX6) (N := 24) hx hb hts hi6 hown hK.1 hP 0 rfl rfl 5 (by decide) wf19 (fun _ h9 => h9) rfl dX6_count_90 ?_
    refine lv_iconst (v := 0) hx hb dX6_count_93 (by decide) ?_
    refine va_iald hx hb hK.1 hP 2 0 rfl rfl (by rw [vp_in_iff]; decide) dX6_count_94 ?_
    refine wt_top (z := 0) rfl ?_
    exact wt_iret hx hb hr hlocks hP hD hS (by decide) dX6_count_95
  rcases wt_dec (a1) 2 with c_4 | c_4
  · subst c_4
    refine lv_tableIn (off := 88) (tgt := 96) hx hb dX6_count_8 (by decide) (by decide) rfl (by decide) ?_
    refine lv_aload_n hx hb dX6_count_96 rfl (lv_at hl 1 rfl) ?_
    refine va_get (D := D) (ci := 6) (v := .ref hs) (C := RX6) (T := TX6) (N := 24) hx hb hts hi6 hown hK.1 hP 0 rfl rfl 5 (by decide) wf19 (fun _ h9 => h9) rfl dX6_count_97 ?_
    refine lv_iconst (v := 1) hx hb dX6_count_100 (by decide) ?_
    refine va_iald hx hb hK.1 hP 2 0 rfl rfl (by rw [vp_in_iff]; decide) dX6_count_101 ?_
    refine wt_top (z := 0) rfl ?_
    exact wt_iret hx hb hr hlocks hP hD hS (by decide) dX6_count_102
  rcases wt_dec (a1) 3 with c_5 | c_5
  · subst c_5
    refine lv_tableIn (off := 95) (tgt := 103) hx hb dX6_count_8 (by decide) (by decide) rfl (by decide) ?_
    refine lv_aload_n hx hb dX6_count_103 rfl (lv_at hl 1 rfl) ?_
    refine va_get (D := D) (ci := 6) (v := .ref hs) (C := RX6) (T := TX6) (N := 24) hx hb hts hi6 hown hK.1 hP 0 rfl rfl 5 (by decide) wf19 (fun _ h9 => h9) rfl dX6_count_104 ?_
    refine lv_iconst (v := 4) hx hb dX6_count_107 (by decide) ?_
    refine va_iald hx hb hK.1 hP 2 0 rfl rfl (by rw [vp_in_iff]; decide) dX6_count_108 ?_
    refine wt_top (z := 0) rfl ?_
    exact wt_iret hx hb hr hlocks hP hD hS (by decide) dX6_count_109
  rcases wt_dec (a1) 4 with c_6 | c_6
  · subst c_6
    refine lv_tableIn (off := 102) (tgt := 110) hx hb dX6_count_8 (by decide) (by decide) rfl (by decide) ?_
    refine lv_aload_n hx hb dX6_count_110 rfl (lv_at hl 1 rfl) ?_
    refine va_get (D := D) (ci := 6) (v := .ref hs) (C := RX6) (T := TX6) (N := 24) hx hb hts hi6 hown hK.1 hP 0 rfl rfl 5 (by decide) wf19 (fun _ h9 => h9) rfl dX6_count_111 ?_
    refine wt_rS (As := [.ref hs]) (rest := []) ⟨hx, hb, hml, hown, hts⟩ (c_X6_colds l D cI cZ cH hs) (va_cwS 1 hts gX6_count_X6_colds rfl rfl rfl (by decide +kernel) ⟨Nat.le_of_ble_eq_true rfl, Nat.le_of_ble_eq_true rfl⟩) hK hP [2] rfl rfl hl.1 rfl (Nat.le_of_ble_eq_true rfl) dX6_count_114 ⟨Nat.le_of_ble_eq_true rfl, Nat.le_of_ble_eq_true rfl⟩ (fun r_7 e_8 => ?_)
    subst e_8
    exact wt_iret hx hb hr hlocks hP hD hS (by decide) dX6_count_117
  rcases wt_dec (a1) 5 with c_9 | c_9
  · subst c_9
    refine lv_tableIn (off := 110) (tgt := 118) hx hb dX6_count_8 (by decide) (by decide) rfl (by decide) ?_
    refine lv_aload_n hx hb dX6_count_118 rfl (lv_at hl 1 rfl) ?_
    refine va_get (D := D) (ci := 6) (v := .ref hs) (C := RX6) (T := TX6) (N := 24) hx hb hts hi6 hown hK.1 hP 0 rfl rfl 5 (by decide) wf19 (fun _ h9 => h9) rfl dX6_count_119 ?_
    refine wt_rS (As := [.ref hs]) (rest := []) ⟨hx, hb, hml, hown, hts⟩ (c_X6_upOf l D cI cZ cH hs) (va_cwS 1 hts gX6_count_X6_upOf rfl rfl rfl (by decide +kernel) ⟨Nat.le_of_ble_eq_true rfl, Nat.le_of_ble_eq_true rfl⟩) hK hP [2] rfl rfl hl.1 rfl (Nat.le_of_ble_eq_true rfl) dX6_count_122 ⟨Nat.le_of_ble_eq_true rfl, Nat.le_of_ble_eq_true rfl⟩ (fun r_10 e_11 => ?_)
    subst e_11
    exact wt_iret hx hb hr hlocks hP hD hS (by decide) dX6_count_125
  rcases wt_dec (a1) 6 with c_12 | c_12
  · subst c_12
    refine lv_tableIn (off := 118) (tgt := 126) hx hb dX6_count_8 (by decide) (by decide) rfl (by decide) ?_
    refine lv_aload_n hx hb dX6_count_126 rfl (lv_at hl 1 rfl) ?_
    refine va_get (D := D) (ci := 6) (v := .int 0) (C := RX6) (T := TX6) (N := 24) hx hb hts hi6 hown hK.1 hP 0 rfl rfl 9 (by decide) wf149 (fun _ h9 => h9) rfl dX6_count_127 ?_
    exact wt_iret hx hb hr hlocks hP hD hS (by decide) dX6_count_130
  rcases wt_dec (a1) 7 with c_13 | c_13
  · subst c_13
    refine lv_tableIn (off := 123) (tgt := 131) hx hb dX6_count_8 (by decide) (by decide) rfl (by decide) ?_
    refine lv_aload_n hx hb dX6_count_131 rfl (lv_at hl 1 rfl) ?_
    refine va_get (D := D) (ci := 6) (v := .int 0) (C := RX6) (T := TX6) (N := 24) hx hb hts hi6 hown hK.1 hP 0 rfl rfl 11 (by decide) wf74 (fun _ h9 => h9) rfl dX6_count_132 ?_
    exact wt_iret hx hb hr hlocks hP hD hS (by decide) dX6_count_135
  refine lv_tableOut (tgt := 136) hx hb dX6_count_8 (by have := lv_neT (a := 0) c_2 rfl; have := lv_neT (a := 1) c_3 rfl; have := lv_neT (a := 2) c_4 rfl; have := lv_neT (a := 3) c_5 rfl; have := lv_neT (a := 4) c_6 rfl; have := lv_neT (a := 5) c_9 rfl; have := lv_neT (a := 6) c_12 rfl; have := lv_neT (a := 7) c_13 rfl; omega) (by decide) ?_
  refine lv_ldc hx hb hown wc67 dX6_count_136 ?_
  exact wt_iret hx hb hr hlocks hP hD hS (by rw [wt_w07 c_2 c_3 c_4 c_5 c_6 c_9 c_12 c_13]; rfl) dX6_count_138
set_option maxHeartbeats 4000000 in
set_option maxRecDepth 100000 in
theorem c_X6_nextToken (l : Launch) (D : va_G) (cI cZ cH : ClassId) (md : Nat) (m_0 m_1 m_2 m_3 m_4 m_5 m_6 m_7 m_8 m_9 m_10 m_13 m_14 m_15 m_16 m_17 m_18 m_19 m_20 m_21 m_22 m_23 : Value) : wt_M l yX6_nextToken wsX6_nextToken ({ frames := 0, cells := 0, slots := 0, locals := 0 } : Room) D (wt_T cI cZ cH) [.ref md] [(md, .inr (6, [m_0, m_1, m_2, m_3, m_4, m_5, m_6, m_7, m_8, m_9, m_10, .int 0, .int 0, m_13, m_14, m_15, m_16, m_17, m_18, m_19, m_20, m_21, m_22, m_23]))] (wt_QV D (fun w => w = [(md, .inr (6, [m_0, m_1, m_2, m_3, m_4, m_5, m_6, m_7, m_8, m_9, m_10, .int 0, .int 0, .int 0, .int 1, .int (-1000000), m_16, m_17, m_18, m_19, m_20, m_21, m_22, m_23]))])) := by
  refine wt_M.ofW (cc := cX6_nextToken) (maxL := 1) (ret := none) (by decide) rfl (Nat.le_of_ble_eq_true rfl) ?_
  intro p e s m below meth c A ls hx hb hr hts hown hlocks hml hnm hP hK hD hA hS hl
  have hP : va_P D vwCl [(md, .inr (6, [m_0, m_1, m_2, m_3, m_4, m_5, m_6, m_7, m_8, m_9, m_10, .int 0, .int 0, m_13, m_14, m_15, m_16, m_17, m_18, m_19, m_20, m_21, m_22, m_23]))] s.heap := hP
  have hown : s.vm.findClass RX6 = some m.cls := hown
  have hl : lv_has ls 1 [(0, .ref md)] := hl
  have hi6 : ∀ w ∈ u_ws RX6 TX6 24, w ∈ wsX6_nextToken := by decide +kernel
  have wc90 := hts (.constant RX6 90 (-1000000)) (by decide +kernel)
  have wf102 := hts (.fieldLink RX6 102 "WarmTubesModel" "token" "I") (by decide +kernel)
  have wf74 := hts (.fieldLink RX6 74 "WarmTubesModel" "taped" "I") (by decide +kernel)
  have wf81 := hts (.fieldLink RX6 81 "WarmTubesModel" "start" "I") (by decide +kernel)
  have wf87 := hts (.fieldLink RX6 87 "WarmTubesModel" "cursor" "I") (by decide +kernel)
  have wf91 := hts (.fieldLink RX6 91 "WarmTubesModel" "value" "I") (by decide +kernel)
  refine lv_aload_n hx hb dX6_nextToken_0 rfl (lv_at hl 0 rfl) ?_
  refine lv_aload_n hx hb dX6_nextToken_1 rfl (lv_at hl 0 rfl) ?_
  refine va_get (D := D) (ci := 6) (v := .int 0) (C := RX6) (T := TX6) (N := 24) hx hb hts hi6 hown hK.1 hP 0 rfl rfl 12 (by decide) wf87 (fun _ h9 => h9) rfl dX6_nextToken_2 ?_
  refine va_put (D := D) (ci := 6) (v := .int 0) (ty := .int) (C := RX6) (T := TX6) (N := 24) hx hb hts hi6 tyX6 tyX6_ok nmX6 hown hK.1 hP hD hS 0 rfl rfl 13 (by decide) wf81 (fun _ h9 => h9) rfl (by decide +kernel) rfl rfl (Nat.le_of_ble_eq_true rfl) dX6_nextToken_5 (fun H locs hP hD hS => ?_)
  have hP : va_P D vwCl [(md, .inr (6, [m_0, m_1, m_2, m_3, m_4, m_5, m_6, m_7, m_8, m_9, m_10, .int 0, .int 0, .int 0, m_14, m_15, m_16, m_17, m_18, m_19, m_20, m_21, m_22, m_23]))] H := hP
  have hD : va_D A [(md, .inr (6, [m_0, m_1, m_2, m_3, m_4, m_5, m_6, m_7, m_8, m_9, m_10, .int 0, .int 0, .int 0, m_14, m_15, m_16, m_17, m_18, m_19, m_20, m_21, m_22, m_23]))] := hD
  refine lv_aload_n hx hb dX6_nextToken_8 rfl (lv_at hl 0 rfl) ?_
  refine lv_aload_n hx hb dX6_nextToken_9 rfl (lv_at hl 0 rfl) ?_
  refine va_get (D := D) (ci := 6) (v := .int 0) (C := RX6) (T := TX6) (N := 24) hx hb hts hi6 hown hK.1 hP 0 rfl rfl 12 (by decide) wf87 (fun _ h9 => h9) rfl dX6_nextToken_10 ?_
  refine lv_aload_n hx hb dX6_nextToken_13 rfl (lv_at hl 0 rfl) ?_
  refine va_get (D := D) (ci := 6) (v := .int 0) (C := RX6) (T := TX6) (N := 24) hx hb hts hi6 hown hK.1 hP 0 rfl rfl 11 (by decide) wf74 (fun _ h9 => h9) rfl dX6_nextToken_14 ?_
  refine lv_icmp_ge (tgt := 32) hx hb dX6_nextToken_17 (by decide) (fun _ => ?_) (fun h => absurd h (by decide))
  refine lv_ldc hx hb hown wc90 dX6_nextToken_32 ?_
  refine va_put (D := D) (ci := 6) (v := .int (-1000000)) (ty := .int) (C := RX6) (T := TX6) (N := 24) hx hb hts hi6 tyX6 tyX6_ok nmX6 hown hK.1 hP hD hS 0 rfl rfl 15 (by decide) wf91 (fun _ h9 => h9) rfl (by decide +kernel) rfl rfl (Nat.le_of_ble_eq_true rfl) dX6_nextToken_34 (fun H locs hP hD hS => ?_)
  have hP : va_P D vwCl [(md, .inr (6, [m_0, m_1, m_2, m_3, m_4, m_5, m_6, m_7, m_8, m_9, m_10, .int 0, .int 0, .int 0, m_14, .int (-1000000), m_16, m_17, m_18, m_19, m_20, m_21, m_22, m_23]))] H := hP
  have hD : va_D A [(md, .inr (6, [m_0, m_1, m_2, m_3, m_4, m_5, m_6, m_7, m_8, m_9, m_10, .int 0, .int 0, .int 0, m_14, .int (-1000000), m_16, m_17, m_18, m_19, m_20, m_21, m_22, m_23]))] := hD
  refine lv_aload_n hx hb dX6_nextToken_37 rfl (lv_at hl 0 rfl) ?_
  refine lv_aload_n hx hb dX6_nextToken_38 rfl (lv_at hl 0 rfl) ?_
  refine va_get (D := D) (ci := 6) (v := .int 0) (C := RX6) (T := TX6) (N := 24) hx hb hts hi6 hown hK.1 hP 0 rfl rfl 12 (by decide) wf87 (fun _ h9 => h9) rfl dX6_nextToken_39 ?_
  refine lv_aload_n hx hb dX6_nextToken_42 rfl (lv_at hl 0 rfl) ?_
  refine va_get (D := D) (ci := 6) (v := .int 0) (C := RX6) (T := TX6) (N := 24) hx hb hts hi6 hown hK.1 hP 0 rfl rfl 11 (by decide) wf74 (fun _ h9 => h9) rfl dX6_nextToken_43 ?_
  refine lv_icmp_ne (tgt := 53) hx hb dX6_nextToken_46 (by decide) (fun h => absurd h (by decide)) (fun _ => ?_)
  refine lv_iconst (v := 1) hx hb dX6_nextToken_49 (by decide) ?_
  refine lv_goto (tgt := 118) hx hb dX6_nextToken_50 (by decide) ?_
  refine va_put (D := D) (ci := 6) (v := .int 1) (ty := .int) (C := RX6) (T := TX6) (N := 24) hx hb hts hi6 tyX6 tyX6_ok nmX6 hown hK.1 hP hD hS 0 rfl rfl 14 (by decide) wf102 (fun _ h9 => h9) rfl (by decide +kernel) rfl rfl (Nat.le_of_ble_eq_true rfl) dX6_nextToken_118 (fun H locs hP hD hS => ?_)
  have hP : va_P D vwCl [(md, .inr (6, [m_0, m_1, m_2, m_3, m_4, m_5, m_6, m_7, m_8, m_9, m_10, .int 0, .int 0, .int 0, .int 1, .int (-1000000), m_16, m_17, m_18, m_19, m_20, m_21, m_22, m_23]))] H := hP
  have hD : va_D A [(md, .inr (6, [m_0, m_1, m_2, m_3, m_4, m_5, m_6, m_7, m_8, m_9, m_10, .int 0, .int 0, .int 0, .int 1, .int (-1000000), m_16, m_17, m_18, m_19, m_20, m_21, m_22, m_23]))] := hD
  refine lv_aload_n hx hb dX6_nextToken_121 rfl (lv_at hl 0 rfl) ?_
  refine lv_dup hx hb dX6_nextToken_122 rfl ?_
  refine va_get (D := D) (ci := 6) (v := .int 0) (C := RX6) (T := TX6) (N := 24) hx hb hts hi6 hown hK.1 hP 0 rfl rfl 12 (by decide) wf87 (fun _ h9 => h9) rfl dX6_nextToken_123 ?_
  refine lv_aload_n hx hb dX6_nextToken_126 rfl (lv_at hl 0 rfl) ?_
  refine va_get (D := D) (ci := 6) (v := .int 0) (C := RX6) (T := TX6) (N := 24) hx hb hts hi6 hown hK.1 hP 0 rfl rfl 12 (by decide) wf87 (fun _ h9 => h9) rfl dX6_nextToken_127 ?_
  refine lv_aload_n hx hb dX6_nextToken_130 rfl (lv_at hl 0 rfl) ?_
  refine va_get (D := D) (ci := 6) (v := .int 0) (C := RX6) (T := TX6) (N := 24) hx hb hts hi6 hown hK.1 hP 0 rfl rfl 11 (by decide) wf74 (fun _ h9 => h9) rfl dX6_nextToken_131 ?_
  refine lv_icmp_ge (tgt := 141) hx hb dX6_nextToken_134 (by decide) (fun _ => ?_) (fun h => absurd h (by decide))
  refine lv_iconst (v := 0) hx hb dX6_nextToken_141 (by decide) ?_
  refine lv_iadd hx hb dX6_nextToken_142 ?_
  refine wt_top (z := 0) (by decide) ?_
  refine va_put (D := D) (ci := 6) (v := .int 0) (ty := .int) (C := RX6) (T := TX6) (N := 24) hx hb hts hi6 tyX6 tyX6_ok nmX6 hown hK.1 hP hD hS 0 rfl rfl 12 (by decide) wf87 (fun _ h9 => h9) rfl (by decide +kernel) rfl rfl (Nat.le_of_ble_eq_true rfl) dX6_nextToken_143 (fun H locs hP hD hS => ?_)
  have hP : va_P D vwCl [(md, .inr (6, [m_0, m_1, m_2, m_3, m_4, m_5, m_6, m_7, m_8, m_9, m_10, .int 0, .int 0, .int 0, .int 1, .int (-1000000), m_16, m_17, m_18, m_19, m_20, m_21, m_22, m_23]))] H := hP
  have hD : va_D A [(md, .inr (6, [m_0, m_1, m_2, m_3, m_4, m_5, m_6, m_7, m_8, m_9, m_10, .int 0, .int 0, .int 0, .int 1, .int (-1000000), m_16, m_17, m_18, m_19, m_20, m_21, m_22, m_23]))] := hD
  refine lv_aload_n hx hb dX6_nextToken_146 rfl (lv_at hl 0 rfl) ?_
  refine va_get (D := D) (ci := 6) (v := .int 1) (C := RX6) (T := TX6) (N := 24) hx hb hts hi6 hown hK.1 hP 0 rfl rfl 14 (by decide) wf102 (fun _ h9 => h9) rfl dX6_nextToken_147 ?_
  refine lv_iconst (v := 3) hx hb dX6_nextToken_150 (by decide) ?_
  refine lv_icmp_ne (tgt := 277) hx hb dX6_nextToken_151 (by decide) (fun _ => ?_) (fun h => absurd h (by decide))
  have hP9 := hP.sub (ws' := [(md, .inr (6, [m_0, m_1, m_2, m_3, m_4, m_5, m_6, m_7, m_8, m_9, m_10, .int 0, .int 0, .int 0, .int 1, .int (-1000000), m_16, m_17, m_18, m_19, m_20, m_21, m_22, m_23]))]) [0] rfl
  have hD9 := hD.sub (ws' := [(md, .inr (6, [m_0, m_1, m_2, m_3, m_4, m_5, m_6, m_7, m_8, m_9, m_10, .int 0, .int 0, .int 0, .int 1, .int (-1000000), m_16, m_17, m_18, m_19, m_20, m_21, m_22, m_23]))]) [0] (by decide) rfl
  exact wt_vret hx hb hr hlocks hP9 hD9 hS rfl dX6_nextToken_277
set_option maxHeartbeats 4000000 in
set_option maxRecDepth 100000 in
theorem c_X6_begin (l : Launch) (D : va_G) (cI cZ cH : ClassId) (md : Nat) (m_0 m_1 m_2 m_3 m_4 m_5 m_6 m_7 m_8 m_9 m_10 m_12 m_13 m_14 m_15 m_16 m_17 m_18 m_19 m_20 m_21 m_22 m_23 : Value) : wt_M l yX6_begin wsX6_begin ({ frames := 1, cells := 0, slots := 0, locals := 20 } : Room) D (wt_T cI cZ cH) [.ref md] [(md, .inr (6, [m_0, m_1, m_2, m_3, m_4, m_5, m_6, m_7, m_8, m_9, m_10, .int 0, m_12, m_13, m_14, m_15, m_16, m_17, m_18, m_19, m_20, m_21, m_22, m_23]))] (wt_QV D (fun w => w = [(md, .inr (6, [m_0, m_1, m_2, m_3, m_4, m_5, m_6, m_7, m_8, m_9, m_10, .int 0, .int 0, .int 0, .int 1, .int (-1000000), .int 0, m_17, m_18, m_19, m_20, m_21, m_22, m_23]))])) := by
  refine wt_M.ofW (cc := cX6_begin) (maxL := 1) (ret := none) (by decide) rfl (Nat.le_of_ble_eq_true rfl) ?_
  intro p e s m below meth c A ls hx hb hr hts hown hlocks hml hnm hP hK hD hA hS hl
  have hP : va_P D vwCl [(md, .inr (6, [m_0, m_1, m_2, m_3, m_4, m_5, m_6, m_7, m_8, m_9, m_10, .int 0, m_12, m_13, m_14, m_15, m_16, m_17, m_18, m_19, m_20, m_21, m_22, m_23]))] s.heap := hP
  have hown : s.vm.findClass RX6 = some m.cls := hown
  have hl : lv_has ls 1 [(0, .ref md)] := hl
  have hi6 : ∀ w ∈ u_ws RX6 TX6 24, w ∈ wsX6_begin := by decide +kernel
  have wf78 := hts (.fieldLink RX6 78 "WarmTubesModel" "fault" "I") (by decide +kernel)
  have wf87 := hts (.fieldLink RX6 87 "WarmTubesModel" "cursor" "I") (by decide +kernel)
  refine lv_aload_n hx hb dX6_begin_0 rfl (lv_at hl 0 rfl) ?_
  refine lv_iconst (v := 0) hx hb dX6_begin_1 (by decide) ?_
  refine va_put (D := D) (ci := 6) (v := .int 0) (ty := .int) (C := RX6) (T := TX6) (N := 24) hx hb hts hi6 tyX6 tyX6_ok nmX6 hown hK.1 hP hD hS 0 rfl rfl 12 (by decide) wf87 (fun _ h9 => h9) rfl (by decide +kernel) rfl rfl (Nat.le_of_ble_eq_true rfl) dX6_begin_2 (fun H locs hP hD hS => ?_)
  have hP : va_P D vwCl [(md, .inr (6, [m_0, m_1, m_2, m_3, m_4, m_5, m_6, m_7, m_8, m_9, m_10, .int 0, .int 0, m_13, m_14, m_15, m_16, m_17, m_18, m_19, m_20, m_21, m_22, m_23]))] H := hP
  have hD : va_D A [(md, .inr (6, [m_0, m_1, m_2, m_3, m_4, m_5, m_6, m_7, m_8, m_9, m_10, .int 0, .int 0, m_13, m_14, m_15, m_16, m_17, m_18, m_19, m_20, m_21, m_22, m_23]))] := hD
  refine lv_aload_n hx hb dX6_begin_5 rfl (lv_at hl 0 rfl) ?_
  refine lv_iconst (v := 0) hx hb dX6_begin_6 (by decide) ?_
  refine va_put (D := D) (ci := 6) (v := .int 0) (ty := .int) (C := RX6) (T := TX6) (N := 24) hx hb hts hi6 tyX6 tyX6_ok nmX6 hown hK.1 hP hD hS 0 rfl rfl 16 (by decide) wf78 (fun _ h9 => h9) rfl (by decide +kernel) rfl rfl (Nat.le_of_ble_eq_true rfl) dX6_begin_7 (fun H locs hP hD hS => ?_)
  have hP : va_P D vwCl [(md, .inr (6, [m_0, m_1, m_2, m_3, m_4, m_5, m_6, m_7, m_8, m_9, m_10, .int 0, .int 0, m_13, m_14, m_15, .int 0, m_17, m_18, m_19, m_20, m_21, m_22, m_23]))] H := hP
  have hD : va_D A [(md, .inr (6, [m_0, m_1, m_2, m_3, m_4, m_5, m_6, m_7, m_8, m_9, m_10, .int 0, .int 0, m_13, m_14, m_15, .int 0, m_17, m_18, m_19, m_20, m_21, m_22, m_23]))] := hD
  refine lv_aload_n hx hb dX6_begin_10 rfl (lv_at hl 0 rfl) ?_
  refine wt_goV (wr := []) (wt_runV (As := []) (rest := []) ⟨hx, hb, hml, hown, hts⟩ (c_X6_nextToken l D cI cZ cH md m_0 m_1 m_2 m_3 m_4 m_5 m_6 m_7 m_8 m_9 m_10 m_13 m_14 m_15 (.int 0) m_17 m_18 m_19 m_20 m_21 m_22 m_23) (cwV 0 hts gX6_begin_X6_nextToken rfl rfl rfl (by decide +kernel) ⟨Nat.le_of_ble_eq_true rfl, Nat.le_of_ble_eq_true rfl⟩) hK hP hD [0] rfl (by decide) (va_recv hK.1 hP (ci := 6) (q0 := 0) rfl rfl) rfl hl.1 rfl (Nat.le_of_ble_eq_true rfl) dX6_begin_11 ⟨Nat.le_of_ble_eq_true rfl, Nat.le_of_ble_eq_true rfl⟩) hP hD hS hA [0] [] rfl rfl (by decide) (by decide) (fun w_2 H locs h_3 hP hD hS => ?_)
  obtain rfl := h_3
  have hP : va_P D vwCl [(md, .inr (6, [m_0, m_1, m_2, m_3, m_4, m_5, m_6, m_7, m_8, m_9, m_10, .int 0, .int 0, .int 0, .int 1, .int (-1000000), .int 0, m_17, m_18, m_19, m_20, m_21, m_22, m_23]))] H := hP
  have hD : va_D A [(md, .inr (6, [m_0, m_1, m_2, m_3, m_4, m_5, m_6, m_7, m_8, m_9, m_10, .int 0, .int 0, .int 0, .int 1, .int (-1000000), .int 0, m_17, m_18, m_19, m_20, m_21, m_22, m_23]))] := hD
  have hP9 := hP.sub (ws' := [(md, .inr (6, [m_0, m_1, m_2, m_3, m_4, m_5, m_6, m_7, m_8, m_9, m_10, .int 0, .int 0, .int 0, .int 1, .int (-1000000), .int 0, m_17, m_18, m_19, m_20, m_21, m_22, m_23]))]) [0] rfl
  have hD9 := hD.sub (ws' := [(md, .inr (6, [m_0, m_1, m_2, m_3, m_4, m_5, m_6, m_7, m_8, m_9, m_10, .int 0, .int 0, .int 0, .int 1, .int (-1000000), .int 0, m_17, m_18, m_19, m_20, m_21, m_22, m_23]))]) [0] (by decide) rfl
  exact wt_vret hx hb hr hlocks hP9 hD9 hS rfl dX6_begin_14
set_option maxHeartbeats 4000000 in
set_option maxRecDepth 100000 in
theorem c_X6_isLetter (l : Launch) (D : va_G) (cI cZ cH : ClassId) (md : Nat) (k : Int32) (m_0 m_1 m_2 m_3 m_4 m_5 m_6 m_7 m_8 m_9 m_10 m_11 m_12 m_13 m_15 m_17 m_18 m_19 m_20 m_21 m_22 m_23 : Value) : wt_R l yX6_isLetter wsX6_isLetter ({ frames := 0, cells := 0, slots := 0, locals := 0 } : Room) D (wt_T cI cZ cH) [.ref md, .int k] [(md, .inr (6, [m_0, m_1, m_2, m_3, m_4, m_5, m_6, m_7, m_8, m_9, m_10, m_11, m_12, m_13, .int 1, m_15, .int 0, m_17, m_18, m_19, m_20, m_21, m_22, m_23]))] (vp_Si (fun r => r = 0)) := by
  refine wt_R.ofW (cc := cX6_isLetter) (maxL := 2) (ret := (some .boolean)) (by decide) rfl (Nat.le_of_ble_eq_true rfl) ?_
  intro p e s m below meth c ls hx hb hr hts hown hlocks hml hP hK hl
  have hown : s.vm.findClass RX6 = some m.cls := hown
  have hl : lv_has ls 2 [(0, .ref md), (1, .int k)] := hl
  have hi6 : ∀ w ∈ u_ws RX6 TX6 24, w ∈ wsX6_isLetter := by decide +kernel
  have wf102 := hts (.fieldLink RX6 102 "WarmTubesModel" "token" "I") (by decide +kernel)
  have wf78 := hts (.fieldLink RX6 78 "WarmTubesModel" "fault" "I") (by decide +kernel)
  refine lv_aload_n hx hb dX6_isLetter_0 rfl (lv_at hl 0 rfl) ?_
  refine va_get (D := D) (ci := 6) (v := .int 0) (C := RX6) (T := TX6) (N := 24) hx hb hts hi6 hown hK.1 hP 0 rfl rfl 16 (by decide) wf78 (fun _ h9 => h9) rfl dX6_isLetter_1 ?_
  refine lv_if_ne (tgt := 27) hx hb dX6_isLetter_4 (by decide) (fun h => absurd h (by decide)) (fun _ => ?_)
  refine lv_aload_n hx hb dX6_isLetter_7 rfl (lv_at hl 0 rfl) ?_
  refine va_get (D := D) (ci := 6) (v := .int 1) (C := RX6) (T := TX6) (N := 24) hx hb hts hi6 hown hK.1 hP 0 rfl rfl 14 (by decide) wf102 (fun _ h9 => h9) rfl dX6_isLetter_8 ?_
  refine lv_iconst (v := 2) hx hb dX6_isLetter_11 (by decide) ?_
  refine lv_icmp_ne (tgt := 27) hx hb dX6_isLetter_12 (by decide) (fun _ => ?_) (fun h => absurd h (by decide))
  refine lv_iconst (v := 0) hx hb dX6_isLetter_27 (by decide) ?_
  exact wt_szret hx hb hr hlocks (by decide) (by rfl) dX6_isLetter_28
set_option maxHeartbeats 4000000 in
set_option maxRecDepth 100000 in
theorem c_X6_isLetter_f (l : Launch) (D : va_G) (cI cZ cH : ClassId) (md : Nat) (k : Int32) (m_0 m_1 m_2 m_3 m_4 m_5 m_6 m_7 m_8 m_9 m_10 m_11 m_12 m_13 m_14 m_15 m_17 m_18 m_19 m_20 m_21 m_22 m_23 : Value) : wt_R l yX6_isLetter wsX6_isLetter ({ frames := 0, cells := 0, slots := 0, locals := 0 } : Room) D (wt_T cI cZ cH) [.ref md, .int k] [(md, .inr (6, [m_0, m_1, m_2, m_3, m_4, m_5, m_6, m_7, m_8, m_9, m_10, m_11, m_12, m_13, m_14, m_15, .int 1, m_17, m_18, m_19, m_20, m_21, m_22, m_23]))] (vp_Si (fun r => r = 0)) := by
  refine wt_R.ofW (cc := cX6_isLetter) (maxL := 2) (ret := (some .boolean)) (by decide) rfl (Nat.le_of_ble_eq_true rfl) ?_
  intro p e s m below meth c ls hx hb hr hts hown hlocks hml hP hK hl
  have hown : s.vm.findClass RX6 = some m.cls := hown
  have hl : lv_has ls 2 [(0, .ref md), (1, .int k)] := hl
  have hi6 : ∀ w ∈ u_ws RX6 TX6 24, w ∈ wsX6_isLetter := by decide +kernel
  have wf78 := hts (.fieldLink RX6 78 "WarmTubesModel" "fault" "I") (by decide +kernel)
  refine lv_aload_n hx hb dX6_isLetter_0 rfl (lv_at hl 0 rfl) ?_
  refine va_get (D := D) (ci := 6) (v := .int 1) (C := RX6) (T := TX6) (N := 24) hx hb hts hi6 hown hK.1 hP 0 rfl rfl 16 (by decide) wf78 (fun _ h9 => h9) rfl dX6_isLetter_1 ?_
  refine lv_if_ne (tgt := 27) hx hb dX6_isLetter_4 (by decide) (fun _ => ?_) (fun h => absurd h (by decide))
  refine lv_iconst (v := 0) hx hb dX6_isLetter_27 (by decide) ?_
  exact wt_szret hx hb hr hlocks (by decide) (by rfl) dX6_isLetter_28
set_option maxHeartbeats 4000000 in
set_option maxRecDepth 100000 in
theorem c_X6_bad (l : Launch) (D : va_G) (cI cZ cH : ClassId) (md : Nat) (k pl : Int32) (m_0 m_1 m_2 m_3 m_4 m_5 m_6 m_7 m_8 m_9 m_10 m_11 m_12 m_14 m_15 m_17 m_18 m_19 m_20 m_21 m_22 m_23 : Value) : wt_M l yX6_bad wsX6_bad ({ frames := 0, cells := 0, slots := 0, locals := 0 } : Room) D (wt_T cI cZ cH) [.ref md, .int k] [(md, .inr (6, [m_0, m_1, m_2, m_3, m_4, m_5, m_6, m_7, m_8, m_9, m_10, m_11, m_12, .int pl, m_14, m_15, .int 0, m_17, m_18, m_19, m_20, m_21, m_22, m_23]))] (wt_QV D (fun w => w = [(md, .inr (6, [m_0, m_1, m_2, m_3, m_4, m_5, m_6, m_7, m_8, m_9, m_10, m_11, m_12, .int pl, m_14, m_15, .int k, .int pl, m_18, m_19, m_20, m_21, m_22, m_23]))])) := by
  refine wt_M.ofW (cc := cX6_bad) (maxL := 2) (ret := none) (by decide) rfl (Nat.le_of_ble_eq_true rfl) ?_
  intro p e s m below meth c A ls hx hb hr hts hown hlocks hml hnm hP hK hD hA hS hl
  have hP : va_P D vwCl [(md, .inr (6, [m_0, m_1, m_2, m_3, m_4, m_5, m_6, m_7, m_8, m_9, m_10, m_11, m_12, .int pl, m_14, m_15, .int 0, m_17, m_18, m_19, m_20, m_21, m_22, m_23]))] s.heap := hP
  have hown : s.vm.findClass RX6 = some m.cls := hown
  have hl : lv_has ls 2 [(0, .ref md), (1, .int k)] := hl
  have hi6 : ∀ w ∈ u_ws RX6 TX6 24, w ∈ wsX6_bad := by decide +kernel
  have wf78 := hts (.fieldLink RX6 78 "WarmTubesModel" "fault" "I") (by decide +kernel)
  have wf81 := hts (.fieldLink RX6 81 "WarmTubesModel" "start" "I") (by decide +kernel)
  have wf84 := hts (.fieldLink RX6 84 "WarmTubesModel" "faultAt" "I") (by decide +kernel)
  refine lv_aload_n hx hb dX6_bad_0 rfl (lv_at hl 0 rfl) ?_
  refine va_get (D := D) (ci := 6) (v := .int 0) (C := RX6) (T := TX6) (N := 24) hx hb hts hi6 hown hK.1 hP 0 rfl rfl 16 (by decide) wf78 (fun _ h9 => h9) rfl dX6_bad_1 ?_
  refine lv_if_ne (tgt := 20) hx hb dX6_bad_4 (by decide) (fun h => absurd h (by decide)) (fun _ => ?_)
  refine lv_aload_n hx hb dX6_bad_7 rfl (lv_at hl 0 rfl) ?_
  refine lv_iload_n hx hb dX6_bad_8 rfl (lv_at hl 1 rfl) ?_
  refine va_put (D := D) (ci := 6) (v := .int k) (ty := .int) (C := RX6) (T := TX6) (N := 24) hx hb hts hi6 tyX6 tyX6_ok nmX6 hown hK.1 hP hD hS 0 rfl rfl 16 (by decide) wf78 (fun _ h9 => h9) rfl (by decide +kernel) rfl rfl (Nat.le_of_ble_eq_true rfl) dX6_bad_9 (fun H locs hP hD hS => ?_)
  have hP : va_P D vwCl [(md, .inr (6, [m_0, m_1, m_2, m_3, m_4, m_5, m_6, m_7, m_8, m_9, m_10, m_11, m_12, .int pl, m_14, m_15, .int k, m_17, m_18, m_19, m_20, m_21, m_22, m_23]))] H := hP
  have hD : va_D A [(md, .inr (6, [m_0, m_1, m_2, m_3, m_4, m_5, m_6, m_7, m_8, m_9, m_10, m_11, m_12, .int pl, m_14, m_15, .int k, m_17, m_18, m_19, m_20, m_21, m_22, m_23]))] := hD
  refine lv_aload_n hx hb dX6_bad_12 rfl (lv_at hl 0 rfl) ?_
  refine lv_aload_n hx hb dX6_bad_13 rfl (lv_at hl 0 rfl) ?_
  refine va_get (D := D) (ci := 6) (v := .int pl) (C := RX6) (T := TX6) (N := 24) hx hb hts hi6 hown hK.1 hP 0 rfl rfl 13 (by decide) wf81 (fun _ h9 => h9) rfl dX6_bad_14 ?_
  refine va_put (D := D) (ci := 6) (v := .int pl) (ty := .int) (C := RX6) (T := TX6) (N := 24) hx hb hts hi6 tyX6 tyX6_ok nmX6 hown hK.1 hP hD hS 0 rfl rfl 17 (by decide) wf84 (fun _ h9 => h9) rfl (by decide +kernel) rfl rfl (Nat.le_of_ble_eq_true rfl) dX6_bad_17 (fun H locs hP hD hS => ?_)
  have hP : va_P D vwCl [(md, .inr (6, [m_0, m_1, m_2, m_3, m_4, m_5, m_6, m_7, m_8, m_9, m_10, m_11, m_12, .int pl, m_14, m_15, .int k, .int pl, m_18, m_19, m_20, m_21, m_22, m_23]))] H := hP
  have hD : va_D A [(md, .inr (6, [m_0, m_1, m_2, m_3, m_4, m_5, m_6, m_7, m_8, m_9, m_10, m_11, m_12, .int pl, m_14, m_15, .int k, .int pl, m_18, m_19, m_20, m_21, m_22, m_23]))] := hD
  have hP9 := hP.sub (ws' := [(md, .inr (6, [m_0, m_1, m_2, m_3, m_4, m_5, m_6, m_7, m_8, m_9, m_10, m_11, m_12, .int pl, m_14, m_15, .int k, .int pl, m_18, m_19, m_20, m_21, m_22, m_23]))]) [0] rfl
  have hD9 := hD.sub (ws' := [(md, .inr (6, [m_0, m_1, m_2, m_3, m_4, m_5, m_6, m_7, m_8, m_9, m_10, m_11, m_12, .int pl, m_14, m_15, .int k, .int pl, m_18, m_19, m_20, m_21, m_22, m_23]))]) [0] (by decide) rfl
  exact wt_vret hx hb hr hlocks hP9 hD9 hS rfl dX6_bad_20
set_option maxHeartbeats 4000000 in
set_option maxRecDepth 100000 in
theorem c_X6_bad_f (l : Launch) (D : va_G) (cI cZ cH : ClassId) (md : Nat) (k : Int32) (m_0 m_1 m_2 m_3 m_4 m_5 m_6 m_7 m_8 m_9 m_10 m_11 m_12 m_13 m_14 m_15 m_17 m_18 m_19 m_20 m_21 m_22 m_23 : Value) : wt_M l yX6_bad wsX6_bad ({ frames := 0, cells := 0, slots := 0, locals := 0 } : Room) D (wt_T cI cZ cH) [.ref md, .int k] [(md, .inr (6, [m_0, m_1, m_2, m_3, m_4, m_5, m_6, m_7, m_8, m_9, m_10, m_11, m_12, m_13, m_14, m_15, .int 1, m_17, m_18, m_19, m_20, m_21, m_22, m_23]))] (wt_QV D (fun w => w = [(md, .inr (6, [m_0, m_1, m_2, m_3, m_4, m_5, m_6, m_7, m_8, m_9, m_10, m_11, m_12, m_13, m_14, m_15, .int 1, m_17, m_18, m_19, m_20, m_21, m_22, m_23]))])) := by
  refine wt_M.ofW (cc := cX6_bad) (maxL := 2) (ret := none) (by decide) rfl (Nat.le_of_ble_eq_true rfl) ?_
  intro p e s m below meth c A ls hx hb hr hts hown hlocks hml hnm hP hK hD hA hS hl
  have hP : va_P D vwCl [(md, .inr (6, [m_0, m_1, m_2, m_3, m_4, m_5, m_6, m_7, m_8, m_9, m_10, m_11, m_12, m_13, m_14, m_15, .int 1, m_17, m_18, m_19, m_20, m_21, m_22, m_23]))] s.heap := hP
  have hown : s.vm.findClass RX6 = some m.cls := hown
  have hl : lv_has ls 2 [(0, .ref md), (1, .int k)] := hl
  have hi6 : ∀ w ∈ u_ws RX6 TX6 24, w ∈ wsX6_bad := by decide +kernel
  have wf78 := hts (.fieldLink RX6 78 "WarmTubesModel" "fault" "I") (by decide +kernel)
  refine lv_aload_n hx hb dX6_bad_0 rfl (lv_at hl 0 rfl) ?_
  refine va_get (D := D) (ci := 6) (v := .int 1) (C := RX6) (T := TX6) (N := 24) hx hb hts hi6 hown hK.1 hP 0 rfl rfl 16 (by decide) wf78 (fun _ h9 => h9) rfl dX6_bad_1 ?_
  refine lv_if_ne (tgt := 20) hx hb dX6_bad_4 (by decide) (fun _ => ?_) (fun h => absurd h (by decide))
  have hP9 := hP.sub (ws' := [(md, .inr (6, [m_0, m_1, m_2, m_3, m_4, m_5, m_6, m_7, m_8, m_9, m_10, m_11, m_12, m_13, m_14, m_15, .int 1, m_17, m_18, m_19, m_20, m_21, m_22, m_23]))]) [0] rfl
  have hD9 := hD.sub (ws' := [(md, .inr (6, [m_0, m_1, m_2, m_3, m_4, m_5, m_6, m_7, m_8, m_9, m_10, m_11, m_12, m_13, m_14, m_15, .int 1, m_17, m_18, m_19, m_20, m_21, m_22, m_23]))]) [0] (by decide) rfl
  exact wt_vret hx hb hr hlocks hP9 hD9 hS rfl dX6_bad_20
set_option maxHeartbeats 4000000 in
set_option maxRecDepth 100000 in
theorem c_X6_must (l : Launch) (D : va_G) (cI cZ cH : ClassId) (md : Nat) (pl : Int32) (m_0 m_1 m_2 m_3 m_4 m_5 m_6 m_7 m_8 m_9 m_10 m_11 m_12 m_14 m_15 m_17 m_18 m_19 m_20 m_21 m_22 m_23 : Value) : wt_M l yX6_must wsX6_must ({ frames := 1, cells := 0, slots := 0, locals := 21 } : Room) D (wt_T cI cZ cH) [.ref md, .int 0] [(md, .inr (6, [m_0, m_1, m_2, m_3, m_4, m_5, m_6, m_7, m_8, m_9, m_10, m_11, m_12, .int pl, m_14, m_15, .int 0, m_17, m_18, m_19, m_20, m_21, m_22, m_23]))] (wt_QV D (fun w => w = [(md, .inr (6, [m_0, m_1, m_2, m_3, m_4, m_5, m_6, m_7, m_8, m_9, m_10, m_11, m_12, .int pl, m_14, m_15, .int 1, .int pl, m_18, m_19, m_20, m_21, m_22, m_23]))])) := by
  refine wt_M.ofW (cc := cX6_must) (maxL := 2) (ret := none) (by decide) rfl (Nat.le_of_ble_eq_true rfl) ?_
  intro p e s m below meth c A ls hx hb hr hts hown hlocks hml hnm hP hK hD hA hS hl
  have hP : va_P D vwCl [(md, .inr (6, [m_0, m_1, m_2, m_3, m_4, m_5, m_6, m_7, m_8, m_9, m_10, m_11, m_12, .int pl, m_14, m_15, .int 0, m_17, m_18, m_19, m_20, m_21, m_22, m_23]))] s.heap := hP
  have hown : s.vm.findClass RX6 = some m.cls := hown
  have hl : lv_has ls 2 [(0, .ref md), (1, .int 0)] := hl
  have hi6 : ∀ w ∈ u_ws RX6 TX6 24, w ∈ wsX6_must := by decide +kernel
  have wf78 := hts (.fieldLink RX6 78 "WarmTubesModel" "fault" "I") (by decide +kernel)
  refine lv_iload_n hx hb dX6_must_0 rfl (lv_at hl 1 rfl) ?_
  refine lv_if_ne (tgt := 9) hx hb dX6_must_1 (by decide) (fun h => absurd h (by decide)) (fun _ => ?_)
  refine lv_aload_n hx hb dX6_must_4 rfl (lv_at hl 0 rfl) ?_
  refine lv_iconst (v := 1) hx hb dX6_must_5 (by decide) ?_
  refine wt_goV (wr := []) (wt_runV (As := [.int 1]) (rest := []) ⟨hx, hb, hml, hown, hts⟩ (c_X6_bad l D cI cZ cH md 1 pl m_0 m_1 m_2 m_3 m_4 m_5 m_6 m_7 m_8 m_9 m_10 m_11 m_12 m_14 m_15 m_17 m_18 m_19 m_20 m_21 m_22 m_23) (cwV 1 hts gX6_must_X6_bad rfl rfl rfl (by decide +kernel) ⟨Nat.le_of_ble_eq_true rfl, Nat.le_of_ble_eq_true rfl⟩) hK hP hD [0] rfl (by decide) (va_recv hK.1 hP (ci := 6) (q0 := 0) rfl rfl) rfl hl.1 rfl (Nat.le_of_ble_eq_true rfl) dX6_must_6 ⟨Nat.le_of_ble_eq_true rfl, Nat.le_of_ble_eq_true rfl⟩) hP hD hS hA [0] [] rfl rfl (by decide) (by decide) (fun w_2 H locs h_3 hP hD hS => ?_)
  obtain rfl := h_3
  have hP : va_P D vwCl [(md, .inr (6, [m_0, m_1, m_2, m_3, m_4, m_5, m_6, m_7, m_8, m_9, m_10, m_11, m_12, .int pl, m_14, m_15, .int 1, .int pl, m_18, m_19, m_20, m_21, m_22, m_23]))] H := hP
  have hD : va_D A [(md, .inr (6, [m_0, m_1, m_2, m_3, m_4, m_5, m_6, m_7, m_8, m_9, m_10, m_11, m_12, .int pl, m_14, m_15, .int 1, .int pl, m_18, m_19, m_20, m_21, m_22, m_23]))] := hD
  refine lv_aload_n hx hb dX6_must_9 rfl (lv_at hl 0 rfl) ?_
  refine va_get (D := D) (ci := 6) (v := .int 1) (C := RX6) (T := TX6) (N := 24) hx hb hts hi6 hown hK.1 hP 0 rfl rfl 16 (by decide) wf78 (fun _ h9 => h9) rfl dX6_must_10 ?_
  refine lv_if_ne (tgt := 20) hx hb dX6_must_13 (by decide) (fun _ => ?_) (fun h => absurd h (by decide))
  have hP9 := hP.sub (ws' := [(md, .inr (6, [m_0, m_1, m_2, m_3, m_4, m_5, m_6, m_7, m_8, m_9, m_10, m_11, m_12, .int pl, m_14, m_15, .int 1, .int pl, m_18, m_19, m_20, m_21, m_22, m_23]))]) [0] rfl
  have hD9 := hD.sub (ws' := [(md, .inr (6, [m_0, m_1, m_2, m_3, m_4, m_5, m_6, m_7, m_8, m_9, m_10, m_11, m_12, .int pl, m_14, m_15, .int 1, .int pl, m_18, m_19, m_20, m_21, m_22, m_23]))]) [0] (by decide) rfl
  exact wt_vret hx hb hr hlocks hP9 hD9 hS rfl dX6_must_20
set_option maxHeartbeats 4000000 in
set_option maxRecDepth 100000 in
theorem c_X6_must_f (l : Launch) (D : va_G) (cI cZ cH : ClassId) (md : Nat) (m_0 m_1 m_2 m_3 m_4 m_5 m_6 m_7 m_8 m_9 m_10 m_11 m_12 m_13 m_14 m_15 m_17 m_18 m_19 m_20 m_21 m_22 m_23 : Value) : wt_M l yX6_must wsX6_must ({ frames := 1, cells := 0, slots := 0, locals := 21 } : Room) D (wt_T cI cZ cH) [.ref md, .int 0] [(md, .inr (6, [m_0, m_1, m_2, m_3, m_4, m_5, m_6, m_7, m_8, m_9, m_10, m_11, m_12, m_13, m_14, m_15, .int 1, m_17, m_18, m_19, m_20, m_21, m_22, m_23]))] (wt_QV D (fun w => w = [(md, .inr (6, [m_0, m_1, m_2, m_3, m_4, m_5, m_6, m_7, m_8, m_9, m_10, m_11, m_12, m_13, m_14, m_15, .int 1, m_17, m_18, m_19, m_20, m_21, m_22, m_23]))])) := by
  refine wt_M.ofW (cc := cX6_must) (maxL := 2) (ret := none) (by decide) rfl (Nat.le_of_ble_eq_true rfl) ?_
  intro p e s m below meth c A ls hx hb hr hts hown hlocks hml hnm hP hK hD hA hS hl
  have hP : va_P D vwCl [(md, .inr (6, [m_0, m_1, m_2, m_3, m_4, m_5, m_6, m_7, m_8, m_9, m_10, m_11, m_12, m_13, m_14, m_15, .int 1, m_17, m_18, m_19, m_20, m_21, m_22, m_23]))] s.heap := hP
  have hown : s.vm.findClass RX6 = some m.cls := hown
  have hl : lv_has ls 2 [(0, .ref md), (1, .int 0)] := hl
  have hi6 : ∀ w ∈ u_ws RX6 TX6 24, w ∈ wsX6_must := by decide +kernel
  have wf78 := hts (.fieldLink RX6 78 "WarmTubesModel" "fault" "I") (by decide +kernel)
  refine lv_iload_n hx hb dX6_must_0 rfl (lv_at hl 1 rfl) ?_
  refine lv_if_ne (tgt := 9) hx hb dX6_must_1 (by decide) (fun h => absurd h (by decide)) (fun _ => ?_)
  refine lv_aload_n hx hb dX6_must_4 rfl (lv_at hl 0 rfl) ?_
  refine lv_iconst (v := 1) hx hb dX6_must_5 (by decide) ?_
  refine wt_goV (wr := []) (wt_runV (As := [.int 1]) (rest := []) ⟨hx, hb, hml, hown, hts⟩ (c_X6_bad_f l D cI cZ cH md 1 m_0 m_1 m_2 m_3 m_4 m_5 m_6 m_7 m_8 m_9 m_10 m_11 m_12 m_13 m_14 m_15 m_17 m_18 m_19 m_20 m_21 m_22 m_23) (cwV 1 hts gX6_must_X6_bad rfl rfl rfl (by decide +kernel) ⟨Nat.le_of_ble_eq_true rfl, Nat.le_of_ble_eq_true rfl⟩) hK hP hD [0] rfl (by decide) (va_recv hK.1 hP (ci := 6) (q0 := 0) rfl rfl) rfl hl.1 rfl (Nat.le_of_ble_eq_true rfl) dX6_must_6 ⟨Nat.le_of_ble_eq_true rfl, Nat.le_of_ble_eq_true rfl⟩) hP hD hS hA [0] [] rfl rfl (by decide) (by decide) (fun w_2 H locs h_3 hP hD hS => ?_)
  obtain rfl := h_3
  have hP : va_P D vwCl [(md, .inr (6, [m_0, m_1, m_2, m_3, m_4, m_5, m_6, m_7, m_8, m_9, m_10, m_11, m_12, m_13, m_14, m_15, .int 1, m_17, m_18, m_19, m_20, m_21, m_22, m_23]))] H := hP
  have hD : va_D A [(md, .inr (6, [m_0, m_1, m_2, m_3, m_4, m_5, m_6, m_7, m_8, m_9, m_10, m_11, m_12, m_13, m_14, m_15, .int 1, m_17, m_18, m_19, m_20, m_21, m_22, m_23]))] := hD
  refine lv_aload_n hx hb dX6_must_9 rfl (lv_at hl 0 rfl) ?_
  refine va_get (D := D) (ci := 6) (v := .int 1) (C := RX6) (T := TX6) (N := 24) hx hb hts hi6 hown hK.1 hP 0 rfl rfl 16 (by decide) wf78 (fun _ h9 => h9) rfl dX6_must_10 ?_
  refine lv_if_ne (tgt := 20) hx hb dX6_must_13 (by decide) (fun _ => ?_) (fun h => absurd h (by decide))
  have hP9 := hP.sub (ws' := [(md, .inr (6, [m_0, m_1, m_2, m_3, m_4, m_5, m_6, m_7, m_8, m_9, m_10, m_11, m_12, m_13, m_14, m_15, .int 1, m_17, m_18, m_19, m_20, m_21, m_22, m_23]))]) [0] rfl
  have hD9 := hD.sub (ws' := [(md, .inr (6, [m_0, m_1, m_2, m_3, m_4, m_5, m_6, m_7, m_8, m_9, m_10, m_11, m_12, m_13, m_14, m_15, .int 1, m_17, m_18, m_19, m_20, m_21, m_22, m_23]))]) [0] (by decide) rfl
  exact wt_vret hx hb hr hlocks hP9 hD9 hS rfl dX6_must_20
set_option maxHeartbeats 4000000 in
set_option maxRecDepth 100000 in
theorem c_X6_must_t (l : Launch) (D : va_G) (cI cZ cH : ClassId) (md : Nat) (m_0 m_1 m_2 m_3 m_4 m_5 m_6 m_7 m_8 m_9 m_10 m_11 m_12 m_13 m_14 m_15 m_17 m_18 m_19 m_20 m_21 m_22 m_23 : Value) : wt_M l yX6_must wsX6_must ({ frames := 0, cells := 0, slots := 0, locals := 0 } : Room) D (wt_T cI cZ cH) [.ref md, .int 1] [(md, .inr (6, [m_0, m_1, m_2, m_3, m_4, m_5, m_6, m_7, m_8, m_9, m_10, m_11, m_12, m_13, m_14, m_15, .int 1, m_17, m_18, m_19, m_20, m_21, m_22, m_23]))] (wt_QV D (fun w => w = [(md, .inr (6, [m_0, m_1, m_2, m_3, m_4, m_5, m_6, m_7, m_8, m_9, m_10, m_11, m_12, m_13, m_14, m_15, .int 1, m_17, m_18, m_19, m_20, m_21, m_22, m_23]))])) := by
  refine wt_M.ofW (cc := cX6_must) (maxL := 2) (ret := none) (by decide) rfl (Nat.le_of_ble_eq_true rfl) ?_
  intro p e s m below meth c A ls hx hb hr hts hown hlocks hml hnm hP hK hD hA hS hl
  have hP : va_P D vwCl [(md, .inr (6, [m_0, m_1, m_2, m_3, m_4, m_5, m_6, m_7, m_8, m_9, m_10, m_11, m_12, m_13, m_14, m_15, .int 1, m_17, m_18, m_19, m_20, m_21, m_22, m_23]))] s.heap := hP
  have hown : s.vm.findClass RX6 = some m.cls := hown
  have hl : lv_has ls 2 [(0, .ref md), (1, .int 1)] := hl
  have hi6 : ∀ w ∈ u_ws RX6 TX6 24, w ∈ wsX6_must := by decide +kernel
  have wf78 := hts (.fieldLink RX6 78 "WarmTubesModel" "fault" "I") (by decide +kernel)
  refine lv_iload_n hx hb dX6_must_0 rfl (lv_at hl 1 rfl) ?_
  refine lv_if_ne (tgt := 9) hx hb dX6_must_1 (by decide) (fun _ => ?_) (fun h => absurd h (by decide))
  refine lv_aload_n hx hb dX6_must_9 rfl (lv_at hl 0 rfl) ?_
  refine va_get (D := D) (ci := 6) (v := .int 1) (C := RX6) (T := TX6) (N := 24) hx hb hts hi6 hown hK.1 hP 0 rfl rfl 16 (by decide) wf78 (fun _ h9 => h9) rfl dX6_must_10 ?_
  refine lv_if_ne (tgt := 20) hx hb dX6_must_13 (by decide) (fun _ => ?_) (fun h => absurd h (by decide))
  have hP9 := hP.sub (ws' := [(md, .inr (6, [m_0, m_1, m_2, m_3, m_4, m_5, m_6, m_7, m_8, m_9, m_10, m_11, m_12, m_13, m_14, m_15, .int 1, m_17, m_18, m_19, m_20, m_21, m_22, m_23]))]) [0] rfl
  have hD9 := hD.sub (ws' := [(md, .inr (6, [m_0, m_1, m_2, m_3, m_4, m_5, m_6, m_7, m_8, m_9, m_10, m_11, m_12, m_13, m_14, m_15, .int 1, m_17, m_18, m_19, m_20, m_21, m_22, m_23]))]) [0] (by decide) rfl
  exact wt_vret hx hb hr hlocks hP9 hD9 hS rfl dX6_must_20
set_option maxHeartbeats 4000000 in
set_option maxRecDepth 100000 in
theorem c_X6_number (l : Launch) (D : va_G) (cI cZ cH : ClassId) (md : Nat) (lo hi : Int32) (m_0 m_1 m_2 m_3 m_4 m_5 m_6 m_7 m_8 m_9 m_10 m_11 m_12 m_13 m_14 m_15 m_17 m_18 m_19 m_20 m_21 m_22 m_23 : Value) : wt_M l yX6_number wsX6_number ({ frames := 1, cells := 0, slots := 0, locals := 21 } : Room) D (wt_T cI cZ cH) [.ref md, .int lo, .int hi] [(md, .inr (6, [m_0, m_1, m_2, m_3, m_4, m_5, m_6, m_7, m_8, m_9, m_10, m_11, m_12, m_13, m_14, m_15, .int 1, m_17, m_18, m_19, m_20, m_21, m_22, m_23]))] (wt_QI D (fun r w => w = [(md, .inr (6, [m_0, m_1, m_2, m_3, m_4, m_5, m_6, m_7, m_8, m_9, m_10, m_11, m_12, m_13, m_14, m_15, .int 1, m_17, m_18, m_19, m_20, m_21, m_22, m_23]))] ∧ r = lo)) := by
  refine wt_M.ofW (cc := cX6_number) (maxL := 4) (ret := (some .int)) (by decide) rfl (Nat.le_of_ble_eq_true rfl) ?_
  intro p e s m below meth c A ls hx hb hr hts hown hlocks hml hnm hP hK hD hA hS hl
  have hP : va_P D vwCl [(md, .inr (6, [m_0, m_1, m_2, m_3, m_4, m_5, m_6, m_7, m_8, m_9, m_10, m_11, m_12, m_13, m_14, m_15, .int 1, m_17, m_18, m_19, m_20, m_21, m_22, m_23]))] s.heap := hP
  have hown : s.vm.findClass RX6 = some m.cls := hown
  have hl : lv_has ls 4 [(0, .ref md), (1, .int lo), (2, .int hi)] := hl
  have hi6 : ∀ w ∈ u_ws RX6 TX6 24, w ∈ wsX6_number := by decide +kernel
  have wf78 := hts (.fieldLink RX6 78 "WarmTubesModel" "fault" "I") (by decide +kernel)
  refine lv_aload_n hx hb dX6_number_0 rfl (lv_at hl 0 rfl) ?_
  refine va_get (D := D) (ci := 6) (v := .int 1) (C := RX6) (T := TX6) (N := 24) hx hb hts hi6 hown hK.1 hP 0 rfl rfl 16 (by decide) wf78 (fun _ h9 => h9) rfl dX6_number_1 ?_
  refine lv_if_ne (tgt := 20) hx hb dX6_number_4 (by decide) (fun _ => ?_) (fun h => absurd h (by decide))
  refine lv_aload_n hx hb dX6_number_20 rfl (lv_at hl 0 rfl) ?_
  refine va_get (D := D) (ci := 6) (v := .int 1) (C := RX6) (T := TX6) (N := 24) hx hb hts hi6 hown hK.1 hP 0 rfl rfl 16 (by decide) wf78 (fun _ h9 => h9) rfl dX6_number_21 ?_
  refine lv_if_ne (tgt := 47) hx hb dX6_number_24 (by decide) (fun _ => ?_) (fun h => absurd h (by decide))
  refine lv_aload_n hx hb dX6_number_47 rfl (lv_at hl 0 rfl) ?_
  refine va_get (D := D) (ci := 6) (v := .int 1) (C := RX6) (T := TX6) (N := 24) hx hb hts hi6 hown hK.1 hP 0 rfl rfl 16 (by decide) wf78 (fun _ h9 => h9) rfl dX6_number_48 ?_
  refine lv_if_ne (tgt := 61) hx hb dX6_number_51 (by decide) (fun _ => ?_) (fun h => absurd h (by decide))
  refine lv_iload_n hx hb dX6_number_61 rfl (lv_at hl 1 rfl) ?_
  refine lv_istore_n (lv' := [(3, .int lo), (0, .ref md), (1, .int lo), (2, .int hi)]) hx hb dX6_number_62 rfl hl (by decide) rfl (fun ls hl => ?_)
  refine lv_aload_n hx hb dX6_number_63 rfl (lv_at hl 1 rfl) ?_
  refine lv_iconst (v := 1) hx hb dX6_number_64 (by decide) ?_
  refine wt_goV (wr := []) (wt_runV (As := [.int 1]) (rest := []) ⟨hx, hb, hml, hown, hts⟩ (c_X6_must_t l D cI cZ cH md m_0 m_1 m_2 m_3 m_4 m_5 m_6 m_7 m_8 m_9 m_10 m_11 m_12 m_13 m_14 m_15 m_17 m_18 m_19 m_20 m_21 m_22 m_23) (cwV 1 hts gX6_number_X6_must rfl rfl rfl (by decide +kernel) ⟨Nat.le_of_ble_eq_true rfl, Nat.le_of_ble_eq_true rfl⟩) hK hP hD [0] rfl (by decide) (va_recv hK.1 hP (ci := 6) (q0 := 0) rfl rfl) rfl hl.1 rfl (Nat.le_of_ble_eq_true rfl) dX6_number_65 ⟨Nat.le_of_ble_eq_true rfl, Nat.le_of_ble_eq_true rfl⟩) hP hD hS hA [0] [] rfl rfl (by decide) (by decide) (fun w_2 H locs h_3 hP hD hS => ?_)
  obtain rfl := h_3
  have hP : va_P D vwCl [(md, .inr (6, [m_0, m_1, m_2, m_3, m_4, m_5, m_6, m_7, m_8, m_9, m_10, m_11, m_12, m_13, m_14, m_15, .int 1, m_17, m_18, m_19, m_20, m_21, m_22, m_23]))] H := hP
  have hD : va_D A [(md, .inr (6, [m_0, m_1, m_2, m_3, m_4, m_5, m_6, m_7, m_8, m_9, m_10, m_11, m_12, m_13, m_14, m_15, .int 1, m_17, m_18, m_19, m_20, m_21, m_22, m_23]))] := hD
  refine lv_iload_n hx hb dX6_number_68 rfl (lv_at hl 0 rfl) ?_
  have hP9 := hP.sub (ws' := [(md, .inr (6, [m_0, m_1, m_2, m_3, m_4, m_5, m_6, m_7, m_8, m_9, m_10, m_11, m_12, m_13, m_14, m_15, .int 1, m_17, m_18, m_19, m_20, m_21, m_22, m_23]))]) [0] rfl
  have hD9 := hD.sub (ws' := [(md, .inr (6, [m_0, m_1, m_2, m_3, m_4, m_5, m_6, m_7, m_8, m_9, m_10, m_11, m_12, m_13, m_14, m_15, .int 1, m_17, m_18, m_19, m_20, m_21, m_22, m_23]))]) [0] (by decide) rfl
  exact wt_iret hx hb hr hlocks hP9 hD9 hS ⟨rfl, (by rfl)⟩ dX6_number_69
set_option maxHeartbeats 4000000 in
set_option maxRecDepth 100000 in
theorem c_X6_mustSign (l : Launch) (D : va_G) (cI cZ cH : ClassId) (md : Nat) (k : Int32) (m_0 m_1 m_2 m_3 m_4 m_5 m_6 m_7 m_8 m_9 m_10 m_11 m_12 m_13 m_15 m_17 m_18 m_19 m_20 m_21 m_22 m_23 : Value) : wt_M l yX6_mustSign wsX6_mustSign ({ frames := 2, cells := 0, slots := 0, locals := 42 } : Room) D (wt_T cI cZ cH) [.ref md, .int k] [(md, .inr (6, [m_0, m_1, m_2, m_3, m_4, m_5, m_6, m_7, m_8, m_9, m_10, m_11, m_12, m_13, .int 1, m_15, .int 1, m_17, m_18, m_19, m_20, m_21, m_22, m_23]))] (wt_QV D (fun w => w = [(md, .inr (6, [m_0, m_1, m_2, m_3, m_4, m_5, m_6, m_7, m_8, m_9, m_10, m_11, m_12, m_13, .int 1, m_15, .int 1, m_17, m_18, m_19, m_20, m_21, m_22, m_23]))])) := by
  refine wt_M.ofW (cc := cX6_mustSign) (maxL := 2) (ret := none) (by decide) rfl (Nat.le_of_ble_eq_true rfl) ?_
  intro p e s m below meth c A ls hx hb hr hts hown hlocks hml hnm hP hK hD hA hS hl
  have hP : va_P D vwCl [(md, .inr (6, [m_0, m_1, m_2, m_3, m_4, m_5, m_6, m_7, m_8, m_9, m_10, m_11, m_12, m_13, .int 1, m_15, .int 1, m_17, m_18, m_19, m_20, m_21, m_22, m_23]))] s.heap := hP
  have hown : s.vm.findClass RX6 = some m.cls := hown
  have hl : lv_has ls 2 [(0, .ref md), (1, .int k)] := hl
  have hi6 : ∀ w ∈ u_ws RX6 TX6 24, w ∈ wsX6_mustSign := by decide +kernel
  have wf102 := hts (.fieldLink RX6 102 "WarmTubesModel" "token" "I") (by decide +kernel)
  refine lv_aload_n hx hb dX6_mustSign_0 rfl (lv_at hl 0 rfl) ?_
  refine lv_aload_n hx hb dX6_mustSign_1 rfl (lv_at hl 0 rfl) ?_
  refine va_get (D := D) (ci := 6) (v := .int 1) (C := RX6) (T := TX6) (N := 24) hx hb hts hi6 hown hK.1 hP 0 rfl rfl 14 (by decide) wf102 (fun _ h9 => h9) rfl dX6_mustSign_2 ?_
  refine lv_iconst (v := 4) hx hb dX6_mustSign_5 (by decide) ?_
  refine lv_icmp_ne (tgt := 21) hx hb dX6_mustSign_6 (by decide) (fun _ => ?_) (fun h => absurd h (by decide))
  refine lv_iconst (v := 0) hx hb dX6_mustSign_21 (by decide) ?_
  refine wt_goV (wr := []) (wt_runV (As := [.int 0]) (rest := []) ⟨hx, hb, hml, hown, hts⟩ (c_X6_must_f l D cI cZ cH md m_0 m_1 m_2 m_3 m_4 m_5 m_6 m_7 m_8 m_9 m_10 m_11 m_12 m_13 (.int 1) m_15 m_17 m_18 m_19 m_20 m_21 m_22 m_23) (cwV 1 hts gX6_mustSign_X6_must rfl rfl rfl (by decide +kernel) ⟨Nat.le_of_ble_eq_true rfl, Nat.le_of_ble_eq_true rfl⟩) hK hP hD [0] rfl (by decide) (va_recv hK.1 hP (ci := 6) (q0 := 0) rfl rfl) rfl hl.1 rfl (Nat.le_of_ble_eq_true rfl) dX6_mustSign_22 ⟨Nat.le_of_ble_eq_true rfl, Nat.le_of_ble_eq_true rfl⟩) hP hD hS hA [0] [] rfl rfl (by decide) (by decide) (fun w_2 H locs h_3 hP hD hS => ?_)
  obtain rfl := h_3
  have hP : va_P D vwCl [(md, .inr (6, [m_0, m_1, m_2, m_3, m_4, m_5, m_6, m_7, m_8, m_9, m_10, m_11, m_12, m_13, .int 1, m_15, .int 1, m_17, m_18, m_19, m_20, m_21, m_22, m_23]))] H := hP
  have hD : va_D A [(md, .inr (6, [m_0, m_1, m_2, m_3, m_4, m_5, m_6, m_7, m_8, m_9, m_10, m_11, m_12, m_13, .int 1, m_15, .int 1, m_17, m_18, m_19, m_20, m_21, m_22, m_23]))] := hD
  have hP9 := hP.sub (ws' := [(md, .inr (6, [m_0, m_1, m_2, m_3, m_4, m_5, m_6, m_7, m_8, m_9, m_10, m_11, m_12, m_13, .int 1, m_15, .int 1, m_17, m_18, m_19, m_20, m_21, m_22, m_23]))]) [0] rfl
  have hD9 := hD.sub (ws' := [(md, .inr (6, [m_0, m_1, m_2, m_3, m_4, m_5, m_6, m_7, m_8, m_9, m_10, m_11, m_12, m_13, .int 1, m_15, .int 1, m_17, m_18, m_19, m_20, m_21, m_22, m_23]))]) [0] (by decide) rfl
  exact wt_vret hx hb hr hlocks hP9 hD9 hS rfl dX6_mustSign_25
set_option maxHeartbeats 4000000 in
set_option maxRecDepth 100000 in
theorem c_X6_isSort (l : Launch) (D : va_G) (cI cZ cH : ClassId) (md : Nat) (m_0 m_1 m_2 m_3 m_4 m_5 m_6 m_7 m_8 m_9 m_10 m_11 m_12 m_13 m_14 m_15 m_17 m_18 m_19 m_20 m_21 m_22 m_23 : Value) : wt_R l yX6_isSort wsX6_isSort ({ frames := 0, cells := 0, slots := 0, locals := 0 } : Room) D (wt_T cI cZ cH) [.ref md] [(md, .inr (6, [m_0, m_1, m_2, m_3, m_4, m_5, m_6, m_7, m_8, m_9, m_10, m_11, m_12, m_13, m_14, m_15, .int 1, m_17, m_18, m_19, m_20, m_21, m_22, m_23]))] (vp_Si (fun r => r = 0)) := by
  refine wt_R.ofW (cc := cX6_isSort) (maxL := 1) (ret := (some .boolean)) (by decide) rfl (Nat.le_of_ble_eq_true rfl) ?_
  intro p e s m below meth c ls hx hb hr hts hown hlocks hml hP hK hl
  have hown : s.vm.findClass RX6 = some m.cls := hown
  have hl : lv_has ls 1 [(0, .ref md)] := hl
  have hi6 : ∀ w ∈ u_ws RX6 TX6 24, w ∈ wsX6_isSort := by decide +kernel
  have wf78 := hts (.fieldLink RX6 78 "WarmTubesModel" "fault" "I") (by decide +kernel)
  refine lv_aload_n hx hb dX6_isSort_0 rfl (lv_at hl 0 rfl) ?_
  refine va_get (D := D) (ci := 6) (v := .int 1) (C := RX6) (T := TX6) (N := 24) hx hb hts hi6 hown hK.1 hP 0 rfl rfl 16 (by decide) wf78 (fun _ h9 => h9) rfl dX6_isSort_1 ?_
  refine lv_if_ne (tgt := 31) hx hb dX6_isSort_4 (by decide) (fun _ => ?_) (fun h => absurd h (by decide))
  refine lv_iconst (v := 0) hx hb dX6_isSort_31 (by decide) ?_
  exact wt_szret hx hb hr hlocks (by decide) (by rfl) dX6_isSort_32
set_option maxHeartbeats 4000000 in
set_option maxRecDepth 100000 in
theorem c_X6_failed (l : Launch) (D : va_G) (cI cZ cH : ClassId) (md : Nat) (m_0 m_1 m_2 m_3 m_4 m_5 m_6 m_7 m_8 m_9 m_10 m_11 m_12 m_13 m_14 m_15 m_17 m_18 m_19 m_20 m_21 m_22 m_23 : Value) : wt_M l yX6_failed wsX6_failed ({ frames := 0, cells := 0, slots := 0, locals := 0 } : Room) D (wt_T cI cZ cH) [.ref md] [(md, .inr (6, [m_0, m_1, m_2, m_3, m_4, m_5, m_6, m_7, m_8, m_9, m_10, m_11, m_12, m_13, m_14, m_15, .int 1, m_17, m_18, m_19, m_20, m_21, m_22, m_23]))] (wt_QI D (fun r w => w = [(md, .inr (6, [m_0, m_1, m_2, m_3, m_4, m_5, m_6, m_7, m_8, m_9, m_10, .int 0, m_12, m_13, m_14, m_15, .int 1, m_17, .int 1, m_19, m_20, m_21, m_22, m_23]))] ∧ r = 1)) := by
  refine wt_M.ofW (cc := cX6_failed) (maxL := 1) (ret := (some .boolean)) (by decide) rfl (Nat.le_of_ble_eq_true rfl) ?_
  intro p e s m below meth c A ls hx hb hr hts hown hlocks hml hnm hP hK hD hA hS hl
  have hP : va_P D vwCl [(md, .inr (6, [m_0, m_1, m_2, m_3, m_4, m_5, m_6, m_7, m_8, m_9, m_10, m_11, m_12, m_13, m_14, m_15, .int 1, m_17, m_18, m_19, m_20, m_21, m_22, m_23]))] s.heap := hP
  have hown : s.vm.findClass RX6 = some m.cls := hown
  have hl : lv_has ls 1 [(0, .ref md)] := hl
  have hi6 : ∀ w ∈ u_ws RX6 TX6 24, w ∈ wsX6_failed := by decide +kernel
  have wf116 := hts (.fieldLink RX6 116 "WarmTubesModel" "latest" "I") (by decide +kernel)
  have wf74 := hts (.fieldLink RX6 74 "WarmTubesModel" "taped" "I") (by decide +kernel)
  have wf78 := hts (.fieldLink RX6 78 "WarmTubesModel" "fault" "I") (by decide +kernel)
  refine lv_aload_n hx hb dX6_failed_0 rfl (lv_at hl 0 rfl) ?_
  refine va_get (D := D) (ci := 6) (v := .int 1) (C := RX6) (T := TX6) (N := 24) hx hb hts hi6 hown hK.1 hP 0 rfl rfl 16 (by decide) wf78 (fun _ h9 => h9) rfl dX6_failed_1 ?_
  refine lv_if_ne (tgt := 20) hx hb dX6_failed_4 (by decide) (fun _ => ?_) (fun h => absurd h (by decide))
  refine lv_aload_n hx hb dX6_failed_20 rfl (lv_at hl 0 rfl) ?_
  refine lv_iconst (v := 0) hx hb dX6_failed_21 (by decide) ?_
  refine va_put (D := D) (ci := 6) (v := .int 0) (ty := .int) (C := RX6) (T := TX6) (N := 24) hx hb hts hi6 tyX6 tyX6_ok nmX6 hown hK.1 hP hD hS 0 rfl rfl 11 (by decide) wf74 (fun _ h9 => h9) rfl (by decide +kernel) rfl rfl (Nat.le_of_ble_eq_true rfl) dX6_failed_22 (fun H locs hP hD hS => ?_)
  have hP : va_P D vwCl [(md, .inr (6, [m_0, m_1, m_2, m_3, m_4, m_5, m_6, m_7, m_8, m_9, m_10, .int 0, m_12, m_13, m_14, m_15, .int 1, m_17, m_18, m_19, m_20, m_21, m_22, m_23]))] H := hP
  have hD : va_D A [(md, .inr (6, [m_0, m_1, m_2, m_3, m_4, m_5, m_6, m_7, m_8, m_9, m_10, .int 0, m_12, m_13, m_14, m_15, .int 1, m_17, m_18, m_19, m_20, m_21, m_22, m_23]))] := hD
  refine lv_aload_n hx hb dX6_failed_25 rfl (lv_at hl 0 rfl) ?_
  refine lv_aload_n hx hb dX6_failed_26 rfl (lv_at hl 0 rfl) ?_
  refine va_get (D := D) (ci := 6) (v := .int 1) (C := RX6) (T := TX6) (N := 24) hx hb hts hi6 hown hK.1 hP 0 rfl rfl 16 (by decide) wf78 (fun _ h9 => h9) rfl dX6_failed_27 ?_
  refine lv_if_le (tgt := 40) hx hb dX6_failed_30 (by decide) (fun h => absurd h (by decide)) (fun _ => ?_)
  refine lv_aload_n hx hb dX6_failed_33 rfl (lv_at hl 0 rfl) ?_
  refine va_get (D := D) (ci := 6) (v := .int 1) (C := RX6) (T := TX6) (N := 24) hx hb hts hi6 hown hK.1 hP 0 rfl rfl 16 (by decide) wf78 (fun _ h9 => h9) rfl dX6_failed_34 ?_
  refine lv_goto (tgt := 44) hx hb dX6_failed_37 (by decide) ?_
  refine va_put (D := D) (ci := 6) (v := .int 1) (ty := .int) (C := RX6) (T := TX6) (N := 24) hx hb hts hi6 tyX6 tyX6_ok nmX6 hown hK.1 hP hD hS 0 rfl rfl 18 (by decide) wf116 (fun _ h9 => h9) rfl (by decide +kernel) rfl rfl (Nat.le_of_ble_eq_true rfl) dX6_failed_44 (fun H locs hP hD hS => ?_)
  have hP : va_P D vwCl [(md, .inr (6, [m_0, m_1, m_2, m_3, m_4, m_5, m_6, m_7, m_8, m_9, m_10, .int 0, m_12, m_13, m_14, m_15, .int 1, m_17, .int 1, m_19, m_20, m_21, m_22, m_23]))] H := hP
  have hD : va_D A [(md, .inr (6, [m_0, m_1, m_2, m_3, m_4, m_5, m_6, m_7, m_8, m_9, m_10, .int 0, m_12, m_13, m_14, m_15, .int 1, m_17, .int 1, m_19, m_20, m_21, m_22, m_23]))] := hD
  refine lv_aload_n hx hb dX6_failed_47 rfl (lv_at hl 0 rfl) ?_
  refine va_get (D := D) (ci := 6) (v := .int 1) (C := RX6) (T := TX6) (N := 24) hx hb hts hi6 hown hK.1 hP 0 rfl rfl 16 (by decide) wf78 (fun _ h9 => h9) rfl dX6_failed_48 ?_
  refine lv_if_le (tgt := 58) hx hb dX6_failed_51 (by decide) (fun h => absurd h (by decide)) (fun _ => ?_)
  refine lv_iconst (v := 1) hx hb dX6_failed_54 (by decide) ?_
  refine lv_goto (tgt := 59) hx hb dX6_failed_55 (by decide) ?_
  have hP9 := hP.sub (ws' := [(md, .inr (6, [m_0, m_1, m_2, m_3, m_4, m_5, m_6, m_7, m_8, m_9, m_10, .int 0, m_12, m_13, m_14, m_15, .int 1, m_17, .int 1, m_19, m_20, m_21, m_22, m_23]))]) [0] rfl
  have hD9 := hD.sub (ws' := [(md, .inr (6, [m_0, m_1, m_2, m_3, m_4, m_5, m_6, m_7, m_8, m_9, m_10, .int 0, m_12, m_13, m_14, m_15, .int 1, m_17, .int 1, m_19, m_20, m_21, m_22, m_23]))]) [0] (by decide) rfl
  exact wt_zret hx hb hr hlocks (by decide) hP9 hD9 hS ⟨rfl, (by rfl)⟩ dX6_failed_59
set_option maxHeartbeats 4000000 in
set_option maxRecDepth 100000 in
theorem c_X6_house (l : Launch) (D : va_G) (cI cZ cH : ClassId) (md fr : Nat) (ff : Nat → Int32) (m_0 m_1 m_2 m_3 m_4 m_5 m_7 m_8 m_9 m_10 m_12 m_13 m_14 m_15 m_16 m_17 m_18 m_19 m_20 m_21 m_22 m_23 : Value) : wt_M l yX6_house wsX6_house ({ frames := 3, cells := 0, slots := 0, locals := 63 } : Room) D (wt_T cI cZ cH) [.ref md] [(md, .inr (6, [m_0, m_1, m_2, m_3, m_4, m_5, .ref fr, m_7, m_8, m_9, m_10, .int 0, m_12, m_13, m_14, m_15, m_16, m_17, m_18, m_19, m_20, m_21, m_22, m_23])), (fr, .inl (cI, 45, .inl ff))] (wt_QI D (fun r w => r = (-1000100))) := by
  refine wt_M.ofW (cc := cX6_house) (maxL := 2) (ret := (some .int)) (by decide) rfl (Nat.le_of_ble_eq_true rfl) ?_
  intro p e s m below meth c A ls hx hb hr hts hown hlocks hml hnm hP hK hD hA hS hl
  have hP : va_P D vwCl [(md, .inr (6, [m_0, m_1, m_2, m_3, m_4, m_5, .ref fr, m_7, m_8, m_9, m_10, .int 0, m_12, m_13, m_14, m_15, m_16, m_17, m_18, m_19, m_20, m_21, m_22, m_23])), (fr, .inl (cI, 45, .inl ff))] s.heap := hP
  have hown : s.vm.findClass RX6 = some m.cls := hown
  have hl : lv_has ls 2 [(0, .ref md)] := hl
  have hi6 : ∀ w ∈ u_ws RX6 TX6 24, w ∈ wsX6_house := by decide +kernel
  have wc148 := hts (.constant RX6 148 (-1000100)) (by decide +kernel)
  have wf22 := hts (.fieldLink RX6 22 "WarmTubesModel" "fresh" "[I") (by decide +kernel)
  have wf47 := hts (.fieldLink RX6 47 "WarmTubesModel" "thrown" "I") (by decide +kernel)
  have wf84 := hts (.fieldLink RX6 84 "WarmTubesModel" "faultAt" "I") (by decide +kernel)
  refine lv_aload_n hx hb dX6_house_0 rfl (lv_at hl 0 rfl) ?_
  refine lv_iconst (v := 0) hx hb dX6_house_1 (by decide) ?_
  refine va_put (D := D) (ci := 6) (v := .int 0) (ty := .int) (C := RX6) (T := TX6) (N := 24) hx hb hts hi6 tyX6 tyX6_ok nmX6 hown hK.1 hP hD hS 0 rfl rfl 0 (by decide) wf47 (fun _ h9 => h9) rfl (by decide +kernel) rfl rfl (Nat.le_of_ble_eq_true rfl) dX6_house_2 (fun H locs hP hD hS => ?_)
  have hP : va_P D vwCl [(md, .inr (6, [.int 0, m_1, m_2, m_3, m_4, m_5, .ref fr, m_7, m_8, m_9, m_10, .int 0, m_12, m_13, m_14, m_15, m_16, m_17, m_18, m_19, m_20, m_21, m_22, m_23])), (fr, .inl (cI, 45, .inl ff))] H := hP
  have hD : va_D A [(md, .inr (6, [.int 0, m_1, m_2, m_3, m_4, m_5, .ref fr, m_7, m_8, m_9, m_10, .int 0, m_12, m_13, m_14, m_15, m_16, m_17, m_18, m_19, m_20, m_21, m_22, m_23])), (fr, .inl (cI, 45, .inl ff))] := hD
  refine lv_aload_n hx hb dX6_house_5 rfl (lv_at hl 0 rfl) ?_
  refine wt_goV (wr := [(fr, .inl (cI, 45, .inl ff))]) (wt_runV (As := []) (rest := []) ⟨hx, hb, hml, hown, hts⟩ (c_X6_begin l D cI cZ cH md (.int 0) m_1 m_2 m_3 m_4 m_5 (.ref fr) m_7 m_8 m_9 m_10 m_12 m_13 m_14 m_15 m_16 m_17 m_18 m_19 m_20 m_21 m_22 m_23) (cwV 0 hts gX6_house_X6_begin rfl rfl rfl (by decide +kernel) ⟨Nat.le_of_ble_eq_true rfl, Nat.le_of_ble_eq_true rfl⟩) hK hP hD [0] rfl (by decide) (va_recv hK.1 hP (ci := 6) (q0 := 0) rfl rfl) rfl hl.1 rfl (Nat.le_of_ble_eq_true rfl) dX6_house_6 ⟨Nat.le_of_ble_eq_true rfl, Nat.le_of_ble_eq_true rfl⟩) hP hD hS hA [0] [1] rfl rfl (by decide) (by decide) (fun w_2 H locs h_3 hP hD hS => ?_)
  obtain rfl := h_3
  have hP : va_P D vwCl [(fr, .inl (cI, 45, .inl ff)), (md, .inr (6, [.int 0, m_1, m_2, m_3, m_4, m_5, .ref fr, m_7, m_8, m_9, m_10, .int 0, .int 0, .int 0, .int 1, .int (-1000000), .int 0, m_17, m_18, m_19, m_20, m_21, m_22, m_23]))] H := hP
  have hD : va_D A [(fr, .inl (cI, 45, .inl ff)), (md, .inr (6, [.int 0, m_1, m_2, m_3, m_4, m_5, .ref fr, m_7, m_8, m_9, m_10, .int 0, .int 0, .int 0, .int 1, .int (-1000000), .int 0, m_17, m_18, m_19, m_20, m_21, m_22, m_23]))] := hD
  refine lv_iconst (v := 0) hx hb dX6_house_9 (by decide) ?_
  refine lv_istore_n (lv' := [(1, .int 0), (0, .ref md)]) hx hb dX6_house_10 rfl hl (by decide) rfl (fun ls hl => ?_)
  have loop : ∀ (k : Nat) (i : Int32) (f0 : Nat → Int32) (H : Heap) (locs : List Loc) (ls : Array Slot), i.toInt = ((45 : Nat) : Int) - (k : Int) → k ≤ 45 → va_P D vwCl [(fr, .inl (cI, 45, .inl f0)), (md, .inr (6, [.int 0, m_1, m_2, m_3, m_4, m_5, .ref fr, m_7, m_8, m_9, m_10, .int 0, .int 0, .int 0, .int 1, .int (-1000000), .int 0, m_17, m_18, m_19, m_20, m_21, m_22, m_23]))] H → va_D A [(fr, .inl (cI, 45, .inl f0)), (md, .inr (6, [.int 0, m_1, m_2, m_3, m_4, m_5, .ref fr, m_7, m_8, m_9, m_10, .int 0, .int 0, .int 0, .int 1, .int (-1000000), .int 0, m_17, m_18, m_19, m_20, m_21, m_22, m_23]))] → va_S A s.heap H locs → lv_has ls 2 [(1, .int i), (0, .ref md)] → W p l e ({ frames := 3, cells := 0, slots := 0, locals := 63 } : Room) s m ([.ref md] : List Value).toArray below meth c H locs 0 0 (MQ below (wt_QI D (fun r w => r = (-1000100)) A) ([.ref md] : List Value).toArray s 0 0 A) (F0 m 11 ls []) := by
    intro k
    induction k with
    | zero =>
      intro i f0 H locs ls hi hk hP hD hS hl
      refine lv_iload_n hx hb dX6_house_11 rfl (lv_at hl 0 rfl) ?_
      refine lv_bipush (v := 45) hx hb dX6_house_12 (by decide) ?_
      refine lv_icmp_ge (tgt := 30) hx hb dX6_house_14 (by decide) (fun _ => ?_) (fun h => absurd (wt_lp0 rfl hi) h)
      refine lv_aload_n hx hb dX6_house_30 rfl (lv_at hl 1 rfl) ?_
      refine lv_aload_n hx hb dX6_house_31 rfl (lv_at hl 1 rfl) ?_
      refine lv_bipush (v := 104) hx hb dX6_house_32 (by decide) ?_
      refine wt_rV (As := [.int 104]) (rest := [.ref md]) ⟨hx, hb, hml, hown, hts⟩ (c_X6_isLetter l D cI cZ cH md 104 (.int 0) m_1 m_2 m_3 m_4 m_5 (.ref fr) m_7 m_8 m_9 m_10 (.int 0) (.int 0) (.int 0) (.int (-1000000)) m_17 m_18 m_19 m_20 m_21 m_22 m_23) (cwV 1 hts gX6_house_X6_isLetter rfl rfl rfl (by decide +kernel) ⟨Nat.le_of_ble_eq_true rfl, Nat.le_of_ble_eq_true rfl⟩) hK hP [1] rfl (va_recv hK.1 hP (ci := 6) (q0 := 1) rfl rfl) rfl hl.1 rfl (Nat.le_of_ble_eq_true rfl) dX6_house_34 ⟨Nat.le_of_ble_eq_true rfl, Nat.le_of_ble_eq_true rfl⟩ (fun r_4 e_5 => ?_)
      subst e_5
      refine wt_goV (wr := [(fr, .inl (cI, 45, .inl f0))]) (wt_runV (As := [.int 0]) (rest := []) ⟨hx, hb, hml, hown, hts⟩ (c_X6_must l D cI cZ cH md 0 (.int 0) m_1 m_2 m_3 m_4 m_5 (.ref fr) m_7 m_8 m_9 m_10 (.int 0) (.int 0) (.int 1) (.int (-1000000)) m_17 m_18 m_19 m_20 m_21 m_22 m_23) (cwV 1 hts gX6_house_X6_must rfl rfl rfl (by decide +kernel) ⟨Nat.le_of_ble_eq_true rfl, Nat.le_of_ble_eq_true rfl⟩) hK hP hD [1] rfl (by decide) (va_recv hK.1 hP (ci := 6) (q0 := 1) rfl rfl) rfl hl.1 rfl (Nat.le_of_ble_eq_true rfl) dX6_house_37 ⟨Nat.le_of_ble_eq_true rfl, Nat.le_of_ble_eq_true rfl⟩) hP hD hS hA [1] [0] rfl rfl (by decide) (by decide) (fun w_7 H locs h_8 hP hD hS => ?_)
      obtain rfl := h_8
      have hP : va_P D vwCl [(fr, .inl (cI, 45, .inl f0)), (md, .inr (6, [.int 0, m_1, m_2, m_3, m_4, m_5, .ref fr, m_7, m_8, m_9, m_10, .int 0, .int 0, .int 0, .int 1, .int (-1000000), .int 1, .int 0, m_18, m_19, m_20, m_21, m_22, m_23]))] H := hP
      have hD : va_D A [(fr, .inl (cI, 45, .inl f0)), (md, .inr (6, [.int 0, m_1, m_2, m_3, m_4, m_5, .ref fr, m_7, m_8, m_9, m_10, .int 0, .int 0, .int 0, .int 1, .int (-1000000), .int 1, .int 0, m_18, m_19, m_20, m_21, m_22, m_23]))] := hD
      refine lv_aload_n hx hb dX6_house_40 rfl (lv_at hl 1 rfl) ?_
      refine va_get (D := D) (ci := 6) (v := .ref fr) (C := RX6) (T := TX6) (N := 24) hx hb hts hi6 hown hK.1 hP 1 rfl rfl 6 (by decide) wf22 (fun _ h9 => h9) rfl dX6_house_41 ?_
      refine lv_iconst (v := 2) hx hb dX6_house_44 (by decide) ?_
      refine lv_aload_n hx hb dX6_house_45 rfl (lv_at hl 1 rfl) ?_
      refine lv_iconst (v := 0) hx hb dX6_house_46 (by decide) ?_
      refine lv_bipush (v := 9) hx hb dX6_house_47 (by decide) ?_
      refine wt_goI (wr := [(fr, .inl (cI, 45, .inl f0))]) (wt_runV (As := [.int 0, .int 9]) (rest := [.int 2, .ref fr]) ⟨hx, hb, hml, hown, hts⟩ (c_X6_number l D cI cZ cH md 0 9 (.int 0) m_1 m_2 m_3 m_4 m_5 (.ref fr) m_7 m_8 m_9 m_10 (.int 0) (.int 0) (.int 0) (.int 1) (.int (-1000000)) (.int 0) m_18 m_19 m_20 m_21 m_22 m_23) (cwV 2 hts gX6_house_X6_number rfl rfl rfl (by decide +kernel) ⟨Nat.le_of_ble_eq_true rfl, Nat.le_of_ble_eq_true rfl⟩) hK hP hD [1] rfl (by decide) (va_recv hK.1 hP (ci := 6) (q0 := 1) rfl rfl) rfl hl.1 rfl (Nat.le_of_ble_eq_true rfl) dX6_house_49 ⟨Nat.le_of_ble_eq_true rfl, Nat.le_of_ble_eq_true rfl⟩) hP hD hS hA [1] [0] rfl rfl (by decide) (by decide) (fun r_9 w_10 H locs h_11 hP hD hS => ?_)
      obtain ⟨rfl, rfl⟩ := h_11
      have hP : va_P D vwCl [(fr, .inl (cI, 45, .inl f0)), (md, .inr (6, [.int 0, m_1, m_2, m_3, m_4, m_5, .ref fr, m_7, m_8, m_9, m_10, .int 0, .int 0, .int 0, .int 1, .int (-1000000), .int 1, .int 0, m_18, m_19, m_20, m_21, m_22, m_23]))] H := hP
      have hD : va_D A [(fr, .inl (cI, 45, .inl f0)), (md, .inr (6, [.int 0, m_1, m_2, m_3, m_4, m_5, .ref fr, m_7, m_8, m_9, m_10, .int 0, .int 0, .int 0, .int 1, .int (-1000000), .int 1, .int 0, m_18, m_19, m_20, m_21, m_22, m_23]))] := hD
      refine va_iast hx hb hK.1 hP hD hS 0 0 rfl rfl (by rw [vp_in_iff]; decide) dX6_house_52 (fun H locs hP hD hS => ?_)
      have hP : va_P D vwCl [(fr, .inl (cI, 45, .inl (upd f0 (Int32.toNatClampNeg 2) 0))), (md, .inr (6, [.int 0, m_1, m_2, m_3, m_4, m_5, .ref fr, m_7, m_8, m_9, m_10, .int 0, .int 0, .int 0, .int 1, .int (-1000000), .int 1, .int 0, m_18, m_19, m_20, m_21, m_22, m_23]))] H := hP
      have hD : va_D A [(fr, .inl (cI, 45, .inl (upd f0 (Int32.toNatClampNeg 2) 0))), (md, .inr (6, [.int 0, m_1, m_2, m_3, m_4, m_5, .ref fr, m_7, m_8, m_9, m_10, .int 0, .int 0, .int 0, .int 1, .int (-1000000), .int 1, .int 0, m_18, m_19, m_20, m_21, m_22, m_23]))] := hD
      refine lv_aload_n hx hb dX6_house_53 rfl (lv_at hl 1 rfl) ?_
      refine lv_bipush (v := 44) hx hb dX6_house_54 (by decide) ?_
      refine wt_goV (wr := [(fr, .inl (cI, 45, .inl (upd f0 (Int32.toNatClampNeg 2) 0)))]) (wt_runV (As := [.int 44]) (rest := []) ⟨hx, hb, hml, hown, hts⟩ (c_X6_mustSign l D cI cZ cH md 44 (.int 0) m_1 m_2 m_3 m_4 m_5 (.ref fr) m_7 m_8 m_9 m_10 (.int 0) (.int 0) (.int 0) (.int (-1000000)) (.int 0) m_18 m_19 m_20 m_21 m_22 m_23) (cwV 1 hts gX6_house_X6_mustSign rfl rfl rfl (by decide +kernel) ⟨Nat.le_of_ble_eq_true rfl, Nat.le_of_ble_eq_true rfl⟩) hK hP hD [1] rfl (by decide) (va_recv hK.1 hP (ci := 6) (q0 := 1) rfl rfl) rfl hl.1 rfl (Nat.le_of_ble_eq_true rfl) dX6_house_56 ⟨Nat.le_of_ble_eq_true rfl, Nat.le_of_ble_eq_true rfl⟩) hP hD hS hA [1] [0] rfl rfl (by decide) (by decide) (fun w_13 H locs h_14 hP hD hS => ?_)
      obtain rfl := h_14
      have hP : va_P D vwCl [(fr, .inl (cI, 45, .inl (upd f0 (Int32.toNatClampNeg 2) 0))), (md, .inr (6, [.int 0, m_1, m_2, m_3, m_4, m_5, .ref fr, m_7, m_8, m_9, m_10, .int 0, .int 0, .int 0, .int 1, .int (-1000000), .int 1, .int 0, m_18, m_19, m_20, m_21, m_22, m_23]))] H := hP
      have hD : va_D A [(fr, .inl (cI, 45, .inl (upd f0 (Int32.toNatClampNeg 2) 0))), (md, .inr (6, [.int 0, m_1, m_2, m_3, m_4, m_5, .ref fr, m_7, m_8, m_9, m_10, .int 0, .int 0, .int 0, .int 1, .int (-1000000), .int 1, .int 0, m_18, m_19, m_20, m_21, m_22, m_23]))] := hD
      refine lv_aload_n hx hb dX6_house_59 rfl (lv_at hl 1 rfl) ?_
      refine va_get (D := D) (ci := 6) (v := .ref fr) (C := RX6) (T := TX6) (N := 24) hx hb hts hi6 hown hK.1 hP 1 rfl rfl 6 (by decide) wf22 (fun _ h9 => h9) rfl dX6_house_60 ?_
      refine lv_iconst (v := 3) hx hb dX6_house_63 (by decide) ?_
      refine lv_aload_n hx hb dX6_house_64 rfl (lv_at hl 1 rfl) ?_
      refine lv_iconst (v := 0) hx hb dX6_house_65 (by decide) ?_
      refine lv_bipush (v := 60) hx hb dX6_house_66 (by decide) ?_
      refine wt_goI (wr := [(fr, .inl (cI, 45, .inl (upd f0 (Int32.toNatClampNeg 2) 0)))]) (wt_runV (As := [.int 0, .int 60]) (rest := [.int 3, .ref fr]) ⟨hx, hb, hml, hown, hts⟩ (c_X6_number l D cI cZ cH md 0 60 (.int 0) m_1 m_2 m_3 m_4 m_5 (.ref fr) m_7 m_8 m_9 m_10 (.int 0) (.int 0) (.int 0) (.int 1) (.int (-1000000)) (.int 0) m_18 m_19 m_20 m_21 m_22 m_23) (cwV 2 hts gX6_house_X6_number rfl rfl rfl (by decide +kernel) ⟨Nat.le_of_ble_eq_true rfl, Nat.le_of_ble_eq_true rfl⟩) hK hP hD [1] rfl (by decide) (va_recv hK.1 hP (ci := 6) (q0 := 1) rfl rfl) rfl hl.1 rfl (Nat.le_of_ble_eq_true rfl) dX6_house_68 ⟨Nat.le_of_ble_eq_true rfl, Nat.le_of_ble_eq_true rfl⟩) hP hD hS hA [1] [0] rfl rfl (by decide) (by decide) (fun r_15 w_16 H locs h_17 hP hD hS => ?_)
      obtain ⟨rfl, rfl⟩ := h_17
      have hP : va_P D vwCl [(fr, .inl (cI, 45, .inl (upd f0 (Int32.toNatClampNeg 2) 0))), (md, .inr (6, [.int 0, m_1, m_2, m_3, m_4, m_5, .ref fr, m_7, m_8, m_9, m_10, .int 0, .int 0, .int 0, .int 1, .int (-1000000), .int 1, .int 0, m_18, m_19, m_20, m_21, m_22, m_23]))] H := hP
      have hD : va_D A [(fr, .inl (cI, 45, .inl (upd f0 (Int32.toNatClampNeg 2) 0))), (md, .inr (6, [.int 0, m_1, m_2, m_3, m_4, m_5, .ref fr, m_7, m_8, m_9, m_10, .int 0, .int 0, .int 0, .int 1, .int (-1000000), .int 1, .int 0, m_18, m_19, m_20, m_21, m_22, m_23]))] := hD
      refine va_iast hx hb hK.1 hP hD hS 0 0 rfl rfl (by rw [vp_in_iff]; decide) dX6_house_71 (fun H locs hP hD hS => ?_)
      have hP : va_P D vwCl [(fr, .inl (cI, 45, .inl (upd (upd f0 (Int32.toNatClampNeg 2) 0) (Int32.toNatClampNeg 3) 0))), (md, .inr (6, [.int 0, m_1, m_2, m_3, m_4, m_5, .ref fr, m_7, m_8, m_9, m_10, .int 0, .int 0, .int 0, .int 1, .int (-1000000), .int 1, .int 0, m_18, m_19, m_20, m_21, m_22, m_23]))] H := hP
      have hD : va_D A [(fr, .inl (cI, 45, .inl (upd (upd f0 (Int32.toNatClampNeg 2) 0) (Int32.toNatClampNeg 3) 0))), (md, .inr (6, [.int 0, m_1, m_2, m_3, m_4, m_5, .ref fr, m_7, m_8, m_9, m_10, .int 0, .int 0, .int 0, .int 1, .int (-1000000), .int 1, .int 0, m_18, m_19, m_20, m_21, m_22, m_23]))] := hD
      refine lv_aload_n hx hb dX6_house_72 rfl (lv_at hl 1 rfl) ?_
      refine lv_bipush (v := 59) hx hb dX6_house_73 (by decide) ?_
      refine wt_goV (wr := [(fr, .inl (cI, 45, .inl (upd (upd f0 (Int32.toNatClampNeg 2) 0) (Int32.toNatClampNeg 3) 0)))]) (wt_runV (As := [.int 59]) (rest := []) ⟨hx, hb, hml, hown, hts⟩ (c_X6_mustSign l D cI cZ cH md 59 (.int 0) m_1 m_2 m_3 m_4 m_5 (.ref fr) m_7 m_8 m_9 m_10 (.int 0) (.int 0) (.int 0) (.int (-1000000)) (.int 0) m_18 m_19 m_20 m_21 m_22 m_23) (cwV 1 hts gX6_house_X6_mustSign rfl rfl rfl (by decide +kernel) ⟨Nat.le_of_ble_eq_true rfl, Nat.le_of_ble_eq_true rfl⟩) hK hP hD [1] rfl (by decide) (va_recv hK.1 hP (ci := 6) (q0 := 1) rfl rfl) rfl hl.1 rfl (Nat.le_of_ble_eq_true rfl) dX6_house_75 ⟨Nat.le_of_ble_eq_true rfl, Nat.le_of_ble_eq_true rfl⟩) hP hD hS hA [1] [0] rfl rfl (by decide) (by decide) (fun w_19 H locs h_20 hP hD hS => ?_)
      obtain rfl := h_20
      have hP : va_P D vwCl [(fr, .inl (cI, 45, .inl (upd (upd f0 (Int32.toNatClampNeg 2) 0) (Int32.toNatClampNeg 3) 0))), (md, .inr (6, [.int 0, m_1, m_2, m_3, m_4, m_5, .ref fr, m_7, m_8, m_9, m_10, .int 0, .int 0, .int 0, .int 1, .int (-1000000), .int 1, .int 0, m_18, m_19, m_20, m_21, m_22, m_23]))] H := hP
      have hD : va_D A [(fr, .inl (cI, 45, .inl (upd (upd f0 (Int32.toNatClampNeg 2) 0) (Int32.toNatClampNeg 3) 0))), (md, .inr (6, [.int 0, m_1, m_2, m_3, m_4, m_5, .ref fr, m_7, m_8, m_9, m_10, .int 0, .int 0, .int 0, .int 1, .int (-1000000), .int 1, .int 0, m_18, m_19, m_20, m_21, m_22, m_23]))] := hD
      refine lv_aload_n hx hb dX6_house_78 rfl (lv_at hl 1 rfl) ?_
      refine lv_bipush (v := 109) hx hb dX6_house_79 (by decide) ?_
      refine wt_rV (As := [.int 109]) (rest := []) ⟨hx, hb, hml, hown, hts⟩ (c_X6_isLetter_f l D cI cZ cH md 109 (.int 0) m_1 m_2 m_3 m_4 m_5 (.ref fr) m_7 m_8 m_9 m_10 (.int 0) (.int 0) (.int 0) (.int 1) (.int (-1000000)) (.int 0) m_18 m_19 m_20 m_21 m_22 m_23) (cwV 1 hts gX6_house_X6_isLetter rfl rfl rfl (by decide +kernel) ⟨Nat.le_of_ble_eq_true rfl, Nat.le_of_ble_eq_true rfl⟩) hK hP [1] rfl (va_recv hK.1 hP (ci := 6) (q0 := 1) rfl rfl) rfl hl.1 rfl (Nat.le_of_ble_eq_true rfl) dX6_house_81 ⟨Nat.le_of_ble_eq_true rfl, Nat.le_of_ble_eq_true rfl⟩ (fun r_21 e_22 => ?_)
      subst e_22
      refine lv_if_ne (tgt := 92) hx hb dX6_house_84 (by decide) (fun h => absurd h (by decide)) (fun _ => ?_)
      refine lv_aload_n hx hb dX6_house_87 rfl (lv_at hl 1 rfl) ?_
      refine lv_iconst (v := 1) hx hb dX6_house_88 (by decide) ?_
      refine wt_goV (wr := [(fr, .inl (cI, 45, .inl (upd (upd f0 (Int32.toNatClampNeg 2) 0) (Int32.toNatClampNeg 3) 0)))]) (wt_runV (As := [.int 1]) (rest := []) ⟨hx, hb, hml, hown, hts⟩ (c_X6_bad_f l D cI cZ cH md 1 (.int 0) m_1 m_2 m_3 m_4 m_5 (.ref fr) m_7 m_8 m_9 m_10 (.int 0) (.int 0) (.int 0) (.int 1) (.int (-1000000)) (.int 0) m_18 m_19 m_20 m_21 m_22 m_23) (cwV 1 hts gX6_house_X6_bad rfl rfl rfl (by decide +kernel) ⟨Nat.le_of_ble_eq_true rfl, Nat.le_of_ble_eq_true rfl⟩) hK hP hD [1] rfl (by decide) (va_recv hK.1 hP (ci := 6) (q0 := 1) rfl rfl) rfl hl.1 rfl (Nat.le_of_ble_eq_true rfl) dX6_house_89 ⟨Nat.le_of_ble_eq_true rfl, Nat.le_of_ble_eq_true rfl⟩) hP hD hS hA [1] [0] rfl rfl (by decide) (by decide) (fun w_24 H locs h_25 hP hD hS => ?_)
      obtain rfl := h_25
      have hP : va_P D vwCl [(fr, .inl (cI, 45, .inl (upd (upd f0 (Int32.toNatClampNeg 2) 0) (Int32.toNatClampNeg 3) 0))), (md, .inr (6, [.int 0, m_1, m_2, m_3, m_4, m_5, .ref fr, m_7, m_8, m_9, m_10, .int 0, .int 0, .int 0, .int 1, .int (-1000000), .int 1, .int 0, m_18, m_19, m_20, m_21, m_22, m_23]))] H := hP
      have hD : va_D A [(fr, .inl (cI, 45, .inl (upd (upd f0 (Int32.toNatClampNeg 2) 0) (Int32.toNatClampNeg 3) 0))), (md, .inr (6, [.int 0, m_1, m_2, m_3, m_4, m_5, .ref fr, m_7, m_8, m_9, m_10, .int 0, .int 0, .int 0, .int 1, .int (-1000000), .int 1, .int 0, m_18, m_19, m_20, m_21, m_22, m_23]))] := hD
      refine lv_aload_n hx hb dX6_house_92 rfl (lv_at hl 1 rfl) ?_
      refine lv_bipush (v := 109) hx hb dX6_house_93 (by decide) ?_
      refine wt_rV (As := [.int 109]) (rest := []) ⟨hx, hb, hml, hown, hts⟩ (c_X6_isLetter_f l D cI cZ cH md 109 (.int 0) m_1 m_2 m_3 m_4 m_5 (.ref fr) m_7 m_8 m_9 m_10 (.int 0) (.int 0) (.int 0) (.int 1) (.int (-1000000)) (.int 0) m_18 m_19 m_20 m_21 m_22 m_23) (cwV 1 hts gX6_house_X6_isLetter rfl rfl rfl (by decide +kernel) ⟨Nat.le_of_ble_eq_true rfl, Nat.le_of_ble_eq_true rfl⟩) hK hP [1] rfl (va_recv hK.1 hP (ci := 6) (q0 := 1) rfl rfl) rfl hl.1 rfl (Nat.le_of_ble_eq_true rfl) dX6_house_95 ⟨Nat.le_of_ble_eq_true rfl, Nat.le_of_ble_eq_true rfl⟩ (fun r_26 e_27 => ?_)
      subst e_27
      refine lv_if_eq (tgt := 108) hx hb dX6_house_98 (by decide) (fun _ => ?_) (fun h => absurd h (by decide))
      refine lv_aload_n hx hb dX6_house_108 rfl (lv_at hl 1 rfl) ?_
      refine wt_rV (As := []) (rest := []) ⟨hx, hb, hml, hown, hts⟩ (c_X6_isSort l D cI cZ cH md (.int 0) m_1 m_2 m_3 m_4 m_5 (.ref fr) m_7 m_8 m_9 m_10 (.int 0) (.int 0) (.int 0) (.int 1) (.int (-1000000)) (.int 0) m_18 m_19 m_20 m_21 m_22 m_23) (cwV 0 hts gX6_house_X6_isSort rfl rfl rfl (by decide +kernel) ⟨Nat.le_of_ble_eq_true rfl, Nat.le_of_ble_eq_true rfl⟩) hK hP [1] rfl (va_recv hK.1 hP (ci := 6) (q0 := 1) rfl rfl) rfl hl.1 rfl (Nat.le_of_ble_eq_true rfl) dX6_house_109 ⟨Nat.le_of_ble_eq_true rfl, Nat.le_of_ble_eq_true rfl⟩ (fun r_28 e_29 => ?_)
      subst e_29
      refine lv_if_ne (tgt := 120) hx hb dX6_house_112 (by decide) (fun h => absurd h (by decide)) (fun _ => ?_)
      refine lv_aload_n hx hb dX6_house_115 rfl (lv_at hl 1 rfl) ?_
      refine lv_iconst (v := 1) hx hb dX6_house_116 (by decide) ?_
      refine wt_goV (wr := [(fr, .inl (cI, 45, .inl (upd (upd f0 (Int32.toNatClampNeg 2) 0) (Int32.toNatClampNeg 3) 0)))]) (wt_runV (As := [.int 1]) (rest := []) ⟨hx, hb, hml, hown, hts⟩ (c_X6_bad_f l D cI cZ cH md 1 (.int 0) m_1 m_2 m_3 m_4 m_5 (.ref fr) m_7 m_8 m_9 m_10 (.int 0) (.int 0) (.int 0) (.int 1) (.int (-1000000)) (.int 0) m_18 m_19 m_20 m_21 m_22 m_23) (cwV 1 hts gX6_house_X6_bad rfl rfl rfl (by decide +kernel) ⟨Nat.le_of_ble_eq_true rfl, Nat.le_of_ble_eq_true rfl⟩) hK hP hD [1] rfl (by decide) (va_recv hK.1 hP (ci := 6) (q0 := 1) rfl rfl) rfl hl.1 rfl (Nat.le_of_ble_eq_true rfl) dX6_house_117 ⟨Nat.le_of_ble_eq_true rfl, Nat.le_of_ble_eq_true rfl⟩) hP hD hS hA [1] [0] rfl rfl (by decide) (by decide) (fun w_31 H locs h_32 hP hD hS => ?_)
      obtain rfl := h_32
      have hP : va_P D vwCl [(fr, .inl (cI, 45, .inl (upd (upd f0 (Int32.toNatClampNeg 2) 0) (Int32.toNatClampNeg 3) 0))), (md, .inr (6, [.int 0, m_1, m_2, m_3, m_4, m_5, .ref fr, m_7, m_8, m_9, m_10, .int 0, .int 0, .int 0, .int 1, .int (-1000000), .int 1, .int 0, m_18, m_19, m_20, m_21, m_22, m_23]))] H := hP
      have hD : va_D A [(fr, .inl (cI, 45, .inl (upd (upd f0 (Int32.toNatClampNeg 2) 0) (Int32.toNatClampNeg 3) 0))), (md, .inr (6, [.int 0, m_1, m_2, m_3, m_4, m_5, .ref fr, m_7, m_8, m_9, m_10, .int 0, .int 0, .int 0, .int 1, .int (-1000000), .int 1, .int 0, m_18, m_19, m_20, m_21, m_22, m_23]))] := hD
      refine lv_aload_n hx hb dX6_house_120 rfl (lv_at hl 1 rfl) ?_
      refine wt_rV (As := []) (rest := []) ⟨hx, hb, hml, hown, hts⟩ (c_X6_isSort l D cI cZ cH md (.int 0) m_1 m_2 m_3 m_4 m_5 (.ref fr) m_7 m_8 m_9 m_10 (.int 0) (.int 0) (.int 0) (.int 1) (.int (-1000000)) (.int 0) m_18 m_19 m_20 m_21 m_22 m_23) (cwV 0 hts gX6_house_X6_isSort rfl rfl rfl (by decide +kernel) ⟨Nat.le_of_ble_eq_true rfl, Nat.le_of_ble_eq_true rfl⟩) hK hP [1] rfl (va_recv hK.1 hP (ci := 6) (q0 := 1) rfl rfl) rfl hl.1 rfl (Nat.le_of_ble_eq_true rfl) dX6_house_121 ⟨Nat.le_of_ble_eq_true rfl, Nat.le_of_ble_eq_true rfl⟩ (fun r_33 e_34 => ?_)
      subst e_34
      refine lv_if_eq (tgt := 134) hx hb dX6_house_124 (by decide) (fun _ => ?_) (fun h => absurd h (by decide))
      refine lv_aload_n hx hb dX6_house_134 rfl (lv_at hl 1 rfl) ?_
      refine wt_goI (wr := [(fr, .inl (cI, 45, .inl (upd (upd f0 (Int32.toNatClampNeg 2) 0) (Int32.toNatClampNeg 3) 0)))]) (wt_runV (As := []) (rest := []) ⟨hx, hb, hml, hown, hts⟩ (c_X6_failed l D cI cZ cH md (.int 0) m_1 m_2 m_3 m_4 m_5 (.ref fr) m_7 m_8 m_9 m_10 (.int 0) (.int 0) (.int 0) (.int 1) (.int (-1000000)) (.int 0) m_18 m_19 m_20 m_21 m_22 m_23) (cwV 0 hts gX6_house_X6_failed rfl rfl rfl (by decide +kernel) ⟨Nat.le_of_ble_eq_true rfl, Nat.le_of_ble_eq_true rfl⟩) hK hP hD [1] rfl (by decide) (va_recv hK.1 hP (ci := 6) (q0 := 1) rfl rfl) rfl hl.1 rfl (Nat.le_of_ble_eq_true rfl) dX6_house_135 ⟨Nat.le_of_ble_eq_true rfl, Nat.le_of_ble_eq_true rfl⟩) hP hD hS hA [1] [0] rfl rfl (by decide) (by decide) (fun r_35 w_36 H locs h_37 hP hD hS => ?_)
      obtain ⟨rfl, rfl⟩ := h_37
      have hP : va_P D vwCl [(fr, .inl (cI, 45, .inl (upd (upd f0 (Int32.toNatClampNeg 2) 0) (Int32.toNatClampNeg 3) 0))), (md, .inr (6, [.int 0, m_1, m_2, m_3, m_4, m_5, .ref fr, m_7, m_8, m_9, m_10, .int 0, .int 0, .int 0, .int 1, .int (-1000000), .int 1, .int 0, .int 1, m_19, m_20, m_21, m_22, m_23]))] H := hP
      have hD : va_D A [(fr, .inl (cI, 45, .inl (upd (upd f0 (Int32.toNatClampNeg 2) 0) (Int32.toNatClampNeg 3) 0))), (md, .inr (6, [.int 0, m_1, m_2, m_3, m_4, m_5, .ref fr, m_7, m_8, m_9, m_10, .int 0, .int 0, .int 0, .int 1, .int (-1000000), .int 1, .int 0, .int 1, m_19, m_20, m_21, m_22, m_23]))] := hD
      refine lv_if_eq (tgt := 149) hx hb dX6_house_138 (by decide) (fun h => absurd h (by decide)) (fun _ => ?_)
      refine lv_ldc hx hb hown wc148 dX6_house_141 ?_
      refine lv_aload_n hx hb dX6_house_143 rfl (lv_at hl 1 rfl) ?_
      refine va_get (D := D) (ci := 6) (v := .int 0) (C := RX6) (T := TX6) (N := 24) hx hb hts hi6 hown hK.1 hP 1 rfl rfl 17 (by decide) wf84 (fun _ h9 => h9) rfl dX6_house_144 ?_
      refine lv_isub hx hb dX6_house_147 ?_
      refine wt_top (z := (-1000100)) (by decide) ?_
      exact wt_iret hx hb hr hlocks hP hD hS (by rfl) dX6_house_148
    | succ k ih =>
      intro i f0 H locs ls hi hk hP hD hS hl
      have hin := wt_lpi hi hk
      refine lv_iload_n hx hb dX6_house_11 rfl (lv_at hl 0 rfl) ?_
      refine lv_bipush (v := 45) hx hb dX6_house_12 (by decide) ?_
      refine lv_icmp_ge (tgt := 30) hx hb dX6_house_14 (by decide) (fun h => absurd h (wt_lpS rfl hi)) (fun _ => ?_)
      refine lv_aload_n hx hb dX6_house_17 rfl (lv_at hl 1 rfl) ?_
      refine va_get (D := D) (ci := 6) (v := .ref fr) (C := RX6) (T := TX6) (N := 24) hx hb hts hi6 hown hK.1 hP 1 rfl rfl 6 (by decide) wf22 (fun _ h9 => h9) rfl dX6_house_18 ?_
      refine lv_iload_n hx hb dX6_house_21 rfl (lv_at hl 0 rfl) ?_
      refine lv_iconst (v := 0) hx hb dX6_house_22 (by decide) ?_
      refine va_iast hx hb hK.1 hP hD hS 0 0 rfl rfl hin dX6_house_23 (fun H locs hP hD hS => ?_)
      have hP : va_P D vwCl [(fr, .inl (cI, 45, .inl (upd f0 (i.toNatClampNeg) 0))), (md, .inr (6, [.int 0, m_1, m_2, m_3, m_4, m_5, .ref fr, m_7, m_8, m_9, m_10, .int 0, .int 0, .int 0, .int 1, .int (-1000000), .int 0, m_17, m_18, m_19, m_20, m_21, m_22, m_23]))] H := hP
      have hD : va_D A [(fr, .inl (cI, 45, .inl (upd f0 (i.toNatClampNeg) 0))), (md, .inr (6, [.int 0, m_1, m_2, m_3, m_4, m_5, .ref fr, m_7, m_8, m_9, m_10, .int 0, .int 0, .int 0, .int 1, .int (-1000000), .int 0, m_17, m_18, m_19, m_20, m_21, m_22, m_23]))] := hD
      refine lv_iinc (v := i + 1) (lv' := [(1, .int (i + 1)), (0, .ref md)]) hx hb dX6_house_24 hl (k := 0) rfl rfl (by decide) rfl (fun ls hl => ?_)
      refine lv_goto (tgt := 11) hx hb dX6_house_27 (by decide) ?_
      exact ih (i + 1) (upd f0 (i.toNatClampNeg) 0) H locs ls (wt_lpn (by decide) hi hk) (Nat.le_of_succ_le hk) hP hD hS (lv_sub hl [0, 1] rfl)
  exact loop 45 0 ff _ _ ls (by decide) (Nat.le_refl _) hP hD hS hl

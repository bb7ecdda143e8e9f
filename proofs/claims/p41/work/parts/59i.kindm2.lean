set_option maxHeartbeats 4000000 in
set_option maxRecDepth 100000 in
theorem c_X6_of_0x (l : Launch) (D : va_G) (cI cZ cH : ClassId) (rw : Nat) (R T : Nat) (f : Nat → Int32) (j : Nat) (hR5 : R ≤ 5) (hT6 : T ≤ 6) (hrk : rk R T f) (hj6 : j < 6) : wt_R l yX6_of wsX6_of ({ frames := 0, cells := 0, slots := 0, locals := 0 } : Room) D (wt_T cI cZ cH) [.ref rw, .int (nI j), .int 0] [(rw, .inl (cI, 45, .inl f))] (vp_Si (fun r => r = f (15 + 5 * j))) := by
  refine wt_R.ofW (cc := cX6_of) (maxL := 3) (ret := (some .int)) (by decide) rfl (Nat.le_of_ble_eq_true rfl) ?_
  intro p e s m below meth c ls hx hb hr hts hown hlocks hml hP hK hl
  have hown : s.vm.findClass RX6 = some m.cls := hown
  have hl : lv_has ls 3 [(0, .ref rw), (1, .int (nI j)), (2, .int 0)] := hl
  refine lv_aload_n hx hb dX6_of_0 rfl (lv_at hl 0 rfl) ?_
  refine lv_bipush (v := 15) hx hb dX6_of_1 (by decide) ?_
  refine lv_iconst (v := 5) hx hb dX6_of_3 (by decide) ?_
  refine lv_iload_n hx hb dX6_of_4 rfl (lv_at hl 1 rfl) ?_
  refine lv_imul hx hb dX6_of_5 ?_
  refine wt_top (z := nI (5 * j)) (pk_mul 5 j) ?_
  refine lv_iadd hx hb dX6_of_6 ?_
  refine wt_top (z := nI (15 + (5 * j))) (nI_add 15 (5 * j)) ?_
  refine lv_iload_n hx hb dX6_of_7 rfl (lv_at hl 2 rfl) ?_
  refine lv_iadd hx hb dX6_of_8 ?_
  refine wt_top (z := nI ((15 + (5 * j)) + 0)) (nI_add (15 + (5 * j)) 0) ?_
  refine va_iald hx hb hK.1 hP 0 0 rfl rfl (vp_in_nI (by omega) (by omega)) dX6_of_9 ?_
  refine wt_top (z := f (15 + 5 * j)) (by rw [nI_clamp (by omega)]; rfl) ?_
  exact wt_siret hx hb hr hlocks (by rfl) dX6_of_10
set_option maxHeartbeats 4000000 in
set_option maxRecDepth 100000 in
theorem c_X6_of_k1 (l : Launch) (D : va_G) (cI cZ cH : ClassId) (rw : Nat) (R T : Nat) (f : Nat → Int32) (j : Nat) (hR5 : R ≤ 5) (hT6 : T ≤ 6) (hrk : rk R T f) (hj6 : j < 6) (hks : f (15 + 5 * j) = 1) : wt_R l yX6_of wsX6_of ({ frames := 0, cells := 0, slots := 0, locals := 0 } : Room) D (wt_T cI cZ cH) [.ref rw, .int (nI j), .int 0] [(rw, .inl (cI, 45, .inl f))] (vp_Si (fun r => r = 1)) := by
  refine wt_R.ofW (cc := cX6_of) (maxL := 3) (ret := (some .int)) (by decide) rfl (Nat.le_of_ble_eq_true rfl) ?_
  intro p e s m below meth c ls hx hb hr hts hown hlocks hml hP hK hl
  have hown : s.vm.findClass RX6 = some m.cls := hown
  have hl : lv_has ls 3 [(0, .ref rw), (1, .int (nI j)), (2, .int 0)] := hl
  refine lv_aload_n hx hb dX6_of_0 rfl (lv_at hl 0 rfl) ?_
  refine lv_bipush (v := 15) hx hb dX6_of_1 (by decide) ?_
  refine lv_iconst (v := 5) hx hb dX6_of_3 (by decide) ?_
  refine lv_iload_n hx hb dX6_of_4 rfl (lv_at hl 1 rfl) ?_
  refine lv_imul hx hb dX6_of_5 ?_
  refine wt_top (z := nI (5 * j)) (pk_mul 5 j) ?_
  refine lv_iadd hx hb dX6_of_6 ?_
  refine wt_top (z := nI (15 + (5 * j))) (nI_add 15 (5 * j)) ?_
  refine lv_iload_n hx hb dX6_of_7 rfl (lv_at hl 2 rfl) ?_
  refine lv_iadd hx hb dX6_of_8 ?_
  refine wt_top (z := nI ((15 + (5 * j)) + 0)) (nI_add (15 + (5 * j)) 0) ?_
  refine va_iald hx hb hK.1 hP 0 0 rfl rfl (vp_in_nI (by omega) (by omega)) dX6_of_9 ?_
  refine wt_top (z := 1) (by rw [nI_clamp (by omega)]; exact hks) ?_
  exact wt_siret hx hb hr hlocks (by rfl) dX6_of_10
set_option maxHeartbeats 4000000 in
set_option maxRecDepth 100000 in
theorem c_X6_of_k2 (l : Launch) (D : va_G) (cI cZ cH : ClassId) (rw : Nat) (R T : Nat) (f : Nat → Int32) (j : Nat) (hR5 : R ≤ 5) (hT6 : T ≤ 6) (hrk : rk R T f) (hj6 : j < 6) (hks : f (15 + 5 * j) = 2) : wt_R l yX6_of wsX6_of ({ frames := 0, cells := 0, slots := 0, locals := 0 } : Room) D (wt_T cI cZ cH) [.ref rw, .int (nI j), .int 0] [(rw, .inl (cI, 45, .inl f))] (vp_Si (fun r => r = 2)) := by
  refine wt_R.ofW (cc := cX6_of) (maxL := 3) (ret := (some .int)) (by decide) rfl (Nat.le_of_ble_eq_true rfl) ?_
  intro p e s m below meth c ls hx hb hr hts hown hlocks hml hP hK hl
  have hown : s.vm.findClass RX6 = some m.cls := hown
  have hl : lv_has ls 3 [(0, .ref rw), (1, .int (nI j)), (2, .int 0)] := hl
  refine lv_aload_n hx hb dX6_of_0 rfl (lv_at hl 0 rfl) ?_
  refine lv_bipush (v := 15) hx hb dX6_of_1 (by decide) ?_
  refine lv_iconst (v := 5) hx hb dX6_of_3 (by decide) ?_
  refine lv_iload_n hx hb dX6_of_4 rfl (lv_at hl 1 rfl) ?_
  refine lv_imul hx hb dX6_of_5 ?_
  refine wt_top (z := nI (5 * j)) (pk_mul 5 j) ?_
  refine lv_iadd hx hb dX6_of_6 ?_
  refine wt_top (z := nI (15 + (5 * j))) (nI_add 15 (5 * j)) ?_
  refine lv_iload_n hx hb dX6_of_7 rfl (lv_at hl 2 rfl) ?_
  refine lv_iadd hx hb dX6_of_8 ?_
  refine wt_top (z := nI ((15 + (5 * j)) + 0)) (nI_add (15 + (5 * j)) 0) ?_
  refine va_iald hx hb hK.1 hP 0 0 rfl rfl (vp_in_nI (by omega) (by omega)) dX6_of_9 ?_
  refine wt_top (z := 2) (by rw [nI_clamp (by omega)]; exact hks) ?_
  exact wt_siret hx hb hr hlocks (by rfl) dX6_of_10
set_option maxHeartbeats 4000000 in
set_option maxRecDepth 100000 in
theorem c_X6_of_k3 (l : Launch) (D : va_G) (cI cZ cH : ClassId) (rw : Nat) (R T : Nat) (f : Nat → Int32) (j : Nat) (hR5 : R ≤ 5) (hT6 : T ≤ 6) (hrk : rk R T f) (hj6 : j < 6) (hks : f (15 + 5 * j) = 3) : wt_R l yX6_of wsX6_of ({ frames := 0, cells := 0, slots := 0, locals := 0 } : Room) D (wt_T cI cZ cH) [.ref rw, .int (nI j), .int 0] [(rw, .inl (cI, 45, .inl f))] (vp_Si (fun r => r = 3)) := by
  refine wt_R.ofW (cc := cX6_of) (maxL := 3) (ret := (some .int)) (by decide) rfl (Nat.le_of_ble_eq_true rfl) ?_
  intro p e s m below meth c ls hx hb hr hts hown hlocks hml hP hK hl
  have hown : s.vm.findClass RX6 = some m.cls := hown
  have hl : lv_has ls 3 [(0, .ref rw), (1, .int (nI j)), (2, .int 0)] := hl
  refine lv_aload_n hx hb dX6_of_0 rfl (lv_at hl 0 rfl) ?_
  refine lv_bipush (v := 15) hx hb dX6_of_1 (by decide) ?_
  refine lv_iconst (v := 5) hx hb dX6_of_3 (by decide) ?_
  refine lv_iload_n hx hb dX6_of_4 rfl (lv_at hl 1 rfl) ?_
  refine lv_imul hx hb dX6_of_5 ?_
  refine wt_top (z := nI (5 * j)) (pk_mul 5 j) ?_
  refine lv_iadd hx hb dX6_of_6 ?_
  refine wt_top (z := nI (15 + (5 * j))) (nI_add 15 (5 * j)) ?_
  refine lv_iload_n hx hb dX6_of_7 rfl (lv_at hl 2 rfl) ?_
  refine lv_iadd hx hb dX6_of_8 ?_
  refine wt_top (z := nI ((15 + (5 * j)) + 0)) (nI_add (15 + (5 * j)) 0) ?_
  refine va_iald hx hb hK.1 hP 0 0 rfl rfl (vp_in_nI (by omega) (by omega)) dX6_of_9 ?_
  refine wt_top (z := 3) (by rw [nI_clamp (by omega)]; exact hks) ?_
  exact wt_siret hx hb hr hlocks (by rfl) dX6_of_10
set_option maxHeartbeats 4000000 in
set_option maxRecDepth 100000 in
theorem c_X6_of_k4 (l : Launch) (D : va_G) (cI cZ cH : ClassId) (rw : Nat) (R T : Nat) (f : Nat → Int32) (j : Nat) (hR5 : R ≤ 5) (hT6 : T ≤ 6) (hrk : rk R T f) (hj6 : j < 6) (hks : f (15 + 5 * j) = 4) : wt_R l yX6_of wsX6_of ({ frames := 0, cells := 0, slots := 0, locals := 0 } : Room) D (wt_T cI cZ cH) [.ref rw, .int (nI j), .int 0] [(rw, .inl (cI, 45, .inl f))] (vp_Si (fun r => r = 4)) := by
  refine wt_R.ofW (cc := cX6_of) (maxL := 3) (ret := (some .int)) (by decide) rfl (Nat.le_of_ble_eq_true rfl) ?_
  intro p e s m below meth c ls hx hb hr hts hown hlocks hml hP hK hl
  have hown : s.vm.findClass RX6 = some m.cls := hown
  have hl : lv_has ls 3 [(0, .ref rw), (1, .int (nI j)), (2, .int 0)] := hl
  refine lv_aload_n hx hb dX6_of_0 rfl (lv_at hl 0 rfl) ?_
  refine lv_bipush (v := 15) hx hb dX6_of_1 (by decide) ?_
  refine lv_iconst (v := 5) hx hb dX6_of_3 (by decide) ?_
  refine lv_iload_n hx hb dX6_of_4 rfl (lv_at hl 1 rfl) ?_
  refine lv_imul hx hb dX6_of_5 ?_
  refine wt_top (z := nI (5 * j)) (pk_mul 5 j) ?_
  refine lv_iadd hx hb dX6_of_6 ?_
  refine wt_top (z := nI (15 + (5 * j))) (nI_add 15 (5 * j)) ?_
  refine lv_iload_n hx hb dX6_of_7 rfl (lv_at hl 2 rfl) ?_
  refine lv_iadd hx hb dX6_of_8 ?_
  refine wt_top (z := nI ((15 + (5 * j)) + 0)) (nI_add (15 + (5 * j)) 0) ?_
  refine va_iald hx hb hK.1 hP 0 0 rfl rfl (vp_in_nI (by omega) (by omega)) dX6_of_9 ?_
  refine wt_top (z := 4) (by rw [nI_clamp (by omega)]; exact hks) ?_
  exact wt_siret hx hb hr hlocks (by rfl) dX6_of_10
set_option maxHeartbeats 4000000 in
set_option maxRecDepth 100000 in
theorem c_X6_of_k5 (l : Launch) (D : va_G) (cI cZ cH : ClassId) (rw : Nat) (R T : Nat) (f : Nat → Int32) (j : Nat) (hR5 : R ≤ 5) (hT6 : T ≤ 6) (hrk : rk R T f) (hj6 : j < 6) (hks : f (15 + 5 * j) = 5) : wt_R l yX6_of wsX6_of ({ frames := 0, cells := 0, slots := 0, locals := 0 } : Room) D (wt_T cI cZ cH) [.ref rw, .int (nI j), .int 0] [(rw, .inl (cI, 45, .inl f))] (vp_Si (fun r => r = 5)) := by
  refine wt_R.ofW (cc := cX6_of) (maxL := 3) (ret := (some .int)) (by decide) rfl (Nat.le_of_ble_eq_true rfl) ?_
  intro p e s m below meth c ls hx hb hr hts hown hlocks hml hP hK hl
  have hown : s.vm.findClass RX6 = some m.cls := hown
  have hl : lv_has ls 3 [(0, .ref rw), (1, .int (nI j)), (2, .int 0)] := hl
  refine lv_aload_n hx hb dX6_of_0 rfl (lv_at hl 0 rfl) ?_
  refine lv_bipush (v := 15) hx hb dX6_of_1 (by decide) ?_
  refine lv_iconst (v := 5) hx hb dX6_of_3 (by decide) ?_
  refine lv_iload_n hx hb dX6_of_4 rfl (lv_at hl 1 rfl) ?_
  refine lv_imul hx hb dX6_of_5 ?_
  refine wt_top (z := nI (5 * j)) (pk_mul 5 j) ?_
  refine lv_iadd hx hb dX6_of_6 ?_
  refine wt_top (z := nI (15 + (5 * j))) (nI_add 15 (5 * j)) ?_
  refine lv_iload_n hx hb dX6_of_7 rfl (lv_at hl 2 rfl) ?_
  refine lv_iadd hx hb dX6_of_8 ?_
  refine wt_top (z := nI ((15 + (5 * j)) + 0)) (nI_add (15 + (5 * j)) 0) ?_
  refine va_iald hx hb hK.1 hP 0 0 rfl rfl (vp_in_nI (by omega) (by omega)) dX6_of_9 ?_
  refine wt_top (z := 5) (by rw [nI_clamp (by omega)]; exact hks) ?_
  exact wt_siret hx hb hr hlocks (by rfl) dX6_of_10
set_option maxHeartbeats 4000000 in
set_option maxRecDepth 100000 in
theorem c_X6_kind_x (l : Launch) (D : va_G) (cI cZ cH : ClassId) (md hs : Nat) (R T : Nat) (f : Nat → Int32) (a1 : Int32) (vm_0 vm_1 vm_2 vm_3 vm_4 vm_6 vm_7 vm_8 vm_9 vm_10 vm_11 vm_12 vm_13 vm_14 vm_15 vm_16 vm_17 vm_18 vm_19 vm_20 vm_21 vm_22 vm_23 : Value) (hR5 : R ≤ 5) (hT6 : T ≤ 6) (hrk : rk R T f) : wt_M l yX6_kind wsX6_kind ({ frames := 2, cells := 0, slots := 0, locals := 46 } : Room) D (wt_T cI cZ cH) [.ref md, .int a1] [(md, .inr (6, [vm_0, vm_1, vm_2, vm_3, vm_4, .ref hs, vm_6, vm_7, vm_8, vm_9, vm_10, vm_11, vm_12, vm_13, vm_14, vm_15, vm_16, vm_17, vm_18, vm_19, vm_20, vm_21, vm_22, vm_23])), (hs, .inl (cI, 45, .inl f))] (wt_QI D (fun r w => w = [(md, .inr (6, [.int 0, vm_1, vm_2, vm_3, vm_4, .ref hs, vm_6, vm_7, vm_8, vm_9, vm_10, vm_11, vm_12, vm_13, vm_14, vm_15, vm_16, vm_17, vm_18, vm_19, vm_20, vm_21, vm_22, vm_23])), (hs, .inl (cI, 45, .inl f))] ∧ r = kdA a1 T (fun t => f (15 + 5 * t)))) := by
  refine wt_M.ofW (cc := cX6_kind) (maxL := 2) (ret := (some .int)) (by decide) rfl (Nat.le_of_ble_eq_true rfl) ?_
  intro p e s m below meth c A ls hx hb hr hts hown hlocks hml hnm hP hK hD hA hS hl
  have hP : va_P D vwCl [(md, .inr (6, [vm_0, vm_1, vm_2, vm_3, vm_4, .ref hs, vm_6, vm_7, vm_8, vm_9, vm_10, vm_11, vm_12, vm_13, vm_14, vm_15, vm_16, vm_17, vm_18, vm_19, vm_20, vm_21, vm_22, vm_23])), (hs, .inl (cI, 45, .inl f))] s.heap := hP
  have hown : s.vm.findClass RX6 = some m.cls := hown
  have hl : lv_has ls 2 [(0, .ref md), (1, .int a1)] := hl
  have hi6 : ∀ w ∈ u_ws RX6 TX6 24, w ∈ wsX6_kind := by decide +kernel
  have wc67 := hts (.constant RX6 67 (-1000001)) (by decide +kernel)
  have wf19 := hts (.fieldLink RX6 19 "WarmTubesModel" "house" "[I") (by decide +kernel)
  have wf47 := hts (.fieldLink RX6 47 "WarmTubesModel" "thrown" "I") (by decide +kernel)
  refine lv_aload_n hx hb dX6_kind_0 rfl (lv_at hl 0 rfl) ?_
  refine lv_iconst (v := 0) hx hb dX6_kind_1 (by decide) ?_
  refine va_put (D := D) (ci := 6) (v := .int 0) (ty := .int) (C := RX6) (T := TX6) (N := 24) hx hb hts hi6 tyX6 tyX6_ok nmX6 hown hK.1 hP hD hS 0 rfl rfl 0 (by decide) wf47 (fun _ h9 => h9) rfl (by decide +kernel) rfl rfl (Nat.le_of_ble_eq_true rfl) dX6_kind_2 (fun H locs hP hD hS => ?_)
  have hP : va_P D vwCl [(md, .inr (6, [.int 0, vm_1, vm_2, vm_3, vm_4, .ref hs, vm_6, vm_7, vm_8, vm_9, vm_10, vm_11, vm_12, vm_13, vm_14, vm_15, vm_16, vm_17, vm_18, vm_19, vm_20, vm_21, vm_22, vm_23])), (hs, .inl (cI, 45, .inl f))] H := hP
  have hD : va_D A [(md, .inr (6, [.int 0, vm_1, vm_2, vm_3, vm_4, .ref hs, vm_6, vm_7, vm_8, vm_9, vm_10, vm_11, vm_12, vm_13, vm_14, vm_15, vm_16, vm_17, vm_18, vm_19, vm_20, vm_21, vm_22, vm_23])), (hs, .inl (cI, 45, .inl f))] := hD
  refine lv_aload_n hx hb dX6_kind_5 rfl (lv_at hl 0 rfl) ?_
  refine lv_iload_n hx hb dX6_kind_6 rfl (lv_at hl 1 rfl) ?_
  refine wt_rV (As := [.int a1]) (rest := []) ⟨hx, hb, hml, hown, hts⟩ (c_X6_isTube l D cI cZ cH md hs R T f a1 (.int 0) vm_1 vm_2 vm_3 vm_4 vm_6 vm_7 vm_8 vm_9 vm_10 vm_11 vm_12 vm_13 vm_14 vm_15 vm_16 vm_17 vm_18 vm_19 vm_20 vm_21 vm_22 vm_23 (by first | assumption | omega) (by first | assumption | omega) (by first | assumption | omega)) (cwV 1 hts gX6_kind_X6_isTube rfl rfl rfl (by decide +kernel) ⟨Nat.le_of_ble_eq_true rfl, Nat.le_of_ble_eq_true rfl⟩) hK hP [0, 1] rfl (va_recv hK.1 hP (ci := 6) (q0 := 0) rfl rfl) rfl hl.1 rfl (Nat.le_of_ble_eq_true rfl) dX6_kind_7 ⟨Nat.le_of_ble_eq_true rfl, Nat.le_of_ble_eq_true rfl⟩ (fun r_1 e_2 => ?_)
  subst e_2
  refine lv_if_eq (tgt := 25) hx hb dX6_kind_10 (by decide) (fun c_3 => ?_) (fun c_3 => ?_)
  · skip
    refine lv_ldc hx hb hown wc67 dX6_kind_25 ?_
    have hP9 := hP.sub (ws' := [(md, .inr (6, [.int 0, vm_1, vm_2, vm_3, vm_4, .ref hs, vm_6, vm_7, vm_8, vm_9, vm_10, vm_11, vm_12, vm_13, vm_14, vm_15, vm_16, vm_17, vm_18, vm_19, vm_20, vm_21, vm_22, vm_23])), (hs, .inl (cI, 45, .inl f))]) [0, 1] rfl
    have hD9 := hD.sub (ws' := [(md, .inr (6, [.int 0, vm_1, vm_2, vm_3, vm_4, .ref hs, vm_6, vm_7, vm_8, vm_9, vm_10, vm_11, vm_12, vm_13, vm_14, vm_15, vm_16, vm_17, vm_18, vm_19, vm_20, vm_21, vm_22, vm_23])), (hs, .inl (cI, 45, .inl f))]) [0, 1] (by decide) rfl
    exact wt_iret hx hb hr hlocks hP9 hD9 hS ⟨rfl, (by exact (kdA_b c_3).symm)⟩ dX6_kind_27
  · skip
    obtain ⟨j_4, hj_4, rfl⟩ := wI_natT (T := T) (by omega) c_3
    refine lv_aload_n hx hb dX6_kind_13 rfl (lv_at hl 0 rfl) ?_
    refine va_get (D := D) (ci := 6) (v := .ref hs) (C := RX6) (T := TX6) (N := 24) hx hb hts hi6 hown hK.1 hP 0 rfl rfl 5 (by decide) wf19 (fun _ h9 => h9) rfl dX6_kind_14 ?_
    refine lv_iload_n hx hb dX6_kind_17 rfl (lv_at hl 1 rfl) ?_
    refine lv_iconst (v := 0) hx hb dX6_kind_18 (by decide) ?_
    refine wt_rS (As := [.ref hs, .int (nI j_4), .int 0]) (rest := []) ⟨hx, hb, hml, hown, hts⟩ (c_X6_of_0x l D cI cZ cH hs R T f j_4 (by first | assumption | omega) (by first | assumption | omega) (by first | assumption | omega) (by first | assumption | omega)) (va_cwS 3 hts gX6_kind_X6_of rfl rfl rfl (by decide +kernel) ⟨Nat.le_of_ble_eq_true rfl, Nat.le_of_ble_eq_true rfl⟩) hK hP [1] rfl rfl hl.1 rfl (Nat.le_of_ble_eq_true rfl) dX6_kind_19 ⟨Nat.le_of_ble_eq_true rfl, Nat.le_of_ble_eq_true rfl⟩ (fun r_5 e_6 => ?_)
    subst e_6
    refine lv_goto (tgt := 27) hx hb dX6_kind_22 (by decide) ?_
    have hP9 := hP.sub (ws' := [(md, .inr (6, [.int 0, vm_1, vm_2, vm_3, vm_4, .ref hs, vm_6, vm_7, vm_8, vm_9, vm_10, vm_11, vm_12, vm_13, vm_14, vm_15, vm_16, vm_17, vm_18, vm_19, vm_20, vm_21, vm_22, vm_23])), (hs, .inl (cI, 45, .inl f))]) [0, 1] rfl
    have hD9 := hD.sub (ws' := [(md, .inr (6, [.int 0, vm_1, vm_2, vm_3, vm_4, .ref hs, vm_6, vm_7, vm_8, vm_9, vm_10, vm_11, vm_12, vm_13, vm_14, vm_15, vm_16, vm_17, vm_18, vm_19, vm_20, vm_21, vm_22, vm_23])), (hs, .inl (cI, 45, .inl f))]) [0, 1] (by decide) rfl
    exact wt_iret hx hb hr hlocks hP9 hD9 hS ⟨rfl, (by exact (kdA_y (f := (fun t => f (15 + 5 * t))) c_3 (by omega)).symm)⟩ dX6_kind_27
set_option maxHeartbeats 4000000 in
set_option maxRecDepth 100000 in
theorem c_X6_isOf_x (l : Launch) (D : va_G) (cI cZ cH : ClassId) (a1 a2 : Int32) : wt_R l yX6_isOf wsX6_isOf ({ frames := 0, cells := 0, slots := 0, locals := 0 } : Room) D (wt_T cI cZ cH) [.int a1, .int a2] [] (vp_Si (fun r => r = oB a1 a2)) := by
  refine wt_R.ofW (cc := cX6_isOf) (maxL := 2) (ret := (some .boolean)) (by decide) rfl (Nat.le_of_ble_eq_true rfl) ?_
  intro p e s m below meth c ls hx hb hr hts hown hlocks hml hP hK hl
  have hown : s.vm.findClass RX6 = some m.cls := hown
  have hl : lv_has ls 2 [(0, .int a1), (1, .int a2)] := hl
  refine lv_iload_n hx hb dX6_isOf_0 rfl (lv_at hl 1 rfl) ?_
  refine lv_if_eq (tgt := 29) hx hb dX6_isOf_1 (by decide) (fun c_1 => ?_) (fun c_1 => ?_)
  · skip
    refine lv_iconst (v := 1) hx hb dX6_isOf_29 (by decide) ?_
    refine lv_goto (tgt := 34) hx hb dX6_isOf_30 (by decide) ?_
    exact wt_szret hx hb hr hlocks (by decide) (by first | exact oB_0 c_1) dX6_isOf_34
  · skip
    refine lv_iload_n hx hb dX6_isOf_4 rfl (lv_at hl 0 rfl) ?_
    refine lv_iload_n hx hb dX6_isOf_5 rfl (lv_at hl 1 rfl) ?_
    refine lv_icmp_eq (tgt := 29) hx hb dX6_isOf_6 (by decide) (fun c_2 => ?_) (fun c_2 => ?_)
    · skip
      refine lv_iconst (v := 1) hx hb dX6_isOf_29 (by decide) ?_
      refine lv_goto (tgt := 34) hx hb dX6_isOf_30 (by decide) ?_
      exact wt_szret hx hb hr hlocks (by decide) (by first | exact oB_1 c_1 c_2) dX6_isOf_34
    · skip
      refine lv_iload_n hx hb dX6_isOf_9 rfl (lv_at hl 1 rfl) ?_
      refine lv_iconst (v := 1) hx hb dX6_isOf_10 (by decide) ?_
      refine lv_icmp_ne (tgt := 19) hx hb dX6_isOf_11 (by decide) (fun c_3 => ?_) (fun c_3 => ?_)
      · skip
        refine lv_iload_n hx hb dX6_isOf_19 rfl (lv_at hl 1 rfl) ?_
        refine lv_iconst (v := 4) hx hb dX6_isOf_20 (by decide) ?_
        refine lv_icmp_ne (tgt := 33) hx hb dX6_isOf_21 (by decide) (fun c_4 => ?_) (fun c_4 => ?_)
        · skip
          refine lv_iconst (v := 0) hx hb dX6_isOf_33 (by decide) ?_
          exact wt_szret hx hb hr hlocks (by decide) (by first | exact oB_2 c_1 c_2 c_3 c_4 | exact oB_5 c_1 c_2 c_3 c_4) dX6_isOf_34
        · skip
          refine lv_iload_n hx hb dX6_isOf_24 rfl (lv_at hl 0 rfl) ?_
          refine lv_iconst (v := 5) hx hb dX6_isOf_25 (by decide) ?_
          refine lv_icmp_ne (tgt := 33) hx hb dX6_isOf_26 (by decide) (fun c_5 => ?_) (fun c_5 => ?_)
          · skip
            refine lv_iconst (v := 0) hx hb dX6_isOf_33 (by decide) ?_
            exact wt_szret hx hb hr hlocks (by decide) (by first | exact oB_3 c_1 c_2 c_3 c_4 c_5 | exact oB_4 c_1 c_2 c_3 c_4 c_5 | exact oB_6 c_1 c_2 c_3 c_4 c_5) dX6_isOf_34
          · skip
            refine lv_iconst (v := 1) hx hb dX6_isOf_29 (by decide) ?_
            refine lv_goto (tgt := 34) hx hb dX6_isOf_30 (by decide) ?_
            exact wt_szret hx hb hr hlocks (by decide) (by first | exact oB_3 c_1 c_2 c_3 c_4 c_5 | exact oB_4 c_1 c_2 c_3 c_4 c_5 | exact oB_6 c_1 c_2 c_3 c_4 c_5) dX6_isOf_34
      · skip
        refine lv_iload_n hx hb dX6_isOf_14 rfl (lv_at hl 0 rfl) ?_
        refine lv_iconst (v := 4) hx hb dX6_isOf_15 (by decide) ?_
        refine lv_icmp_lt (tgt := 29) hx hb dX6_isOf_16 (by decide) (fun c_6 => ?_) (fun c_6 => ?_)
        · skip
          refine lv_iconst (v := 1) hx hb dX6_isOf_29 (by decide) ?_
          refine lv_goto (tgt := 34) hx hb dX6_isOf_30 (by decide) ?_
          exact wt_szret hx hb hr hlocks (by decide) (by first | exact oB_2 c_1 c_2 c_3 c_6 | exact oB_5 c_1 c_2 c_3 c_6) dX6_isOf_34
        · skip
          refine lv_iload_n hx hb dX6_isOf_19 rfl (lv_at hl 1 rfl) ?_
          refine lv_iconst (v := 4) hx hb dX6_isOf_20 (by decide) ?_
          refine lv_icmp_ne (tgt := 33) hx hb dX6_isOf_21 (by decide) (fun c_7 => ?_) (fun c_7 => ?_)
          · skip
            refine lv_iconst (v := 0) hx hb dX6_isOf_33 (by decide) ?_
            exact wt_szret hx hb hr hlocks (by decide) (by first | exact oB_3 c_1 c_2 c_3 c_6 c_7 | exact oB_4 c_1 c_2 c_3 c_6 c_7 | exact oB_6 c_1 c_2 c_3 c_6 c_7) dX6_isOf_34
          · skip
            refine lv_iload_n hx hb dX6_isOf_24 rfl (lv_at hl 0 rfl) ?_
            refine lv_iconst (v := 5) hx hb dX6_isOf_25 (by decide) ?_
            refine lv_icmp_ne (tgt := 33) hx hb dX6_isOf_26 (by decide) (fun c_8 => ?_) (fun c_8 => ?_)
            · skip
              refine lv_iconst (v := 0) hx hb dX6_isOf_33 (by decide) ?_
              exact wt_szret hx hb hr hlocks (by decide) (by exact absurd (c_3.symm.trans c_7) (by decide)) dX6_isOf_34
            · skip
              refine lv_iconst (v := 1) hx hb dX6_isOf_29 (by decide) ?_
              refine lv_goto (tgt := 34) hx hb dX6_isOf_30 (by decide) ?_
              exact wt_szret hx hb hr hlocks (by decide) (by exact absurd (c_3.symm.trans c_7) (by decide)) dX6_isOf_34
set_option maxHeartbeats 4000000 in
set_option maxRecDepth 100000 in
theorem c_X6_as_x (l : Launch) (D : va_G) (cI cZ cH : ClassId) (md hs : Nat) (R T : Nat) (f : Nat → Int32) (sv : Int32) (a1 a2 : Int32) (vm_0 vm_2 vm_3 vm_4 vm_6 vm_7 vm_8 vm_9 vm_10 vm_11 vm_12 vm_13 vm_14 vm_15 vm_16 vm_17 vm_18 vm_19 vm_20 vm_21 vm_22 vm_23 : Value) (hR5 : R ≤ 5) (hT6 : T ≤ 6) (hrk : rk R T f) : wt_M l yX6_as wsX6_as ({ frames := 2, cells := 0, slots := 0, locals := 46 } : Room) D (wt_T cI cZ cH) [.ref md, .int a1, .int a2] [(md, .inr (6, [vm_0, .int sv, vm_2, vm_3, vm_4, .ref hs, vm_6, vm_7, vm_8, vm_9, vm_10, vm_11, vm_12, vm_13, vm_14, vm_15, vm_16, vm_17, vm_18, vm_19, vm_20, vm_21, vm_22, vm_23])), (hs, .inl (cI, 45, .inl f))] (wt_QI D (fun r w => ∃ (md_f1 : Int32), w = [(md, .inr (6, [.int 0, .int md_f1, vm_2, vm_3, vm_4, .ref hs, vm_6, vm_7, vm_8, vm_9, vm_10, vm_11, vm_12, vm_13, vm_14, vm_15, vm_16, vm_17, vm_18, vm_19, vm_20, vm_21, vm_22, vm_23])), (hs, .inl (cI, 45, .inl f))] ∧ r = fA (asF T (fun t => f (15 + 5 * t)) a1 a2) a1 ∧ md_f1 = fQ (asF T (fun t => f (15 + 5 * t)) a1 a2) sv)) := by
  refine wt_M.ofW (cc := cX6_as) (maxL := 3) (ret := (some .int)) (by decide) rfl (Nat.le_of_ble_eq_true rfl) ?_
  intro p e s m below meth c A ls hx hb hr hts hown hlocks hml hnm hP hK hD hA hS hl
  have hP : va_P D vwCl [(md, .inr (6, [vm_0, .int sv, vm_2, vm_3, vm_4, .ref hs, vm_6, vm_7, vm_8, vm_9, vm_10, vm_11, vm_12, vm_13, vm_14, vm_15, vm_16, vm_17, vm_18, vm_19, vm_20, vm_21, vm_22, vm_23])), (hs, .inl (cI, 45, .inl f))] s.heap := hP
  have hown : s.vm.findClass RX6 = some m.cls := hown
  have hl : lv_has ls 3 [(0, .ref md), (1, .int a1), (2, .int a2)] := hl
  have hi6 : ∀ w ∈ u_ws RX6 TX6 24, w ∈ wsX6_as := by decide +kernel
  have wc67 := hts (.constant RX6 67 (-1000001)) (by decide +kernel)
  have wf19 := hts (.fieldLink RX6 19 "WarmTubesModel" "house" "[I") (by decide +kernel)
  have wf47 := hts (.fieldLink RX6 47 "WarmTubesModel" "thrown" "I") (by decide +kernel)
  have wf51 := hts (.fieldLink RX6 51 "WarmTubesModel" "status" "I") (by decide +kernel)
  have wl284 := hts (.constantLong RX6 284 (5)) (by decide +kernel)
  refine lv_aload_n hx hb dX6_as_0 rfl (lv_at hl 0 rfl) ?_
  refine lv_iconst (v := 0) hx hb dX6_as_1 (by decide) ?_
  refine va_put (D := D) (ci := 6) (v := .int 0) (ty := .int) (C := RX6) (T := TX6) (N := 24) hx hb hts hi6 tyX6 tyX6_ok nmX6 hown hK.1 hP hD hS 0 rfl rfl 0 (by decide) wf47 (fun _ h9 => h9) rfl (by decide +kernel) rfl rfl (Nat.le_of_ble_eq_true rfl) dX6_as_2 (fun H locs hP hD hS => ?_)
  have hP : va_P D vwCl [(md, .inr (6, [.int 0, .int sv, vm_2, vm_3, vm_4, .ref hs, vm_6, vm_7, vm_8, vm_9, vm_10, vm_11, vm_12, vm_13, vm_14, vm_15, vm_16, vm_17, vm_18, vm_19, vm_20, vm_21, vm_22, vm_23])), (hs, .inl (cI, 45, .inl f))] H := hP
  have hD : va_D A [(md, .inr (6, [.int 0, .int sv, vm_2, vm_3, vm_4, .ref hs, vm_6, vm_7, vm_8, vm_9, vm_10, vm_11, vm_12, vm_13, vm_14, vm_15, vm_16, vm_17, vm_18, vm_19, vm_20, vm_21, vm_22, vm_23])), (hs, .inl (cI, 45, .inl f))] := hD
  refine lv_aload_n hx hb dX6_as_5 rfl (lv_at hl 0 rfl) ?_
  refine lv_iload_n hx hb dX6_as_6 rfl (lv_at hl 1 rfl) ?_
  refine wt_rV (As := [.int a1]) (rest := []) ⟨hx, hb, hml, hown, hts⟩ (c_X6_isTube l D cI cZ cH md hs R T f a1 (.int 0) (.int sv) vm_2 vm_3 vm_4 vm_6 vm_7 vm_8 vm_9 vm_10 vm_11 vm_12 vm_13 vm_14 vm_15 vm_16 vm_17 vm_18 vm_19 vm_20 vm_21 vm_22 vm_23 (by first | assumption | omega) (by first | assumption | omega) (by first | assumption | omega)) (cwV 1 hts gX6_as_X6_isTube rfl rfl rfl (by decide +kernel) ⟨Nat.le_of_ble_eq_true rfl, Nat.le_of_ble_eq_true rfl⟩) hK hP [0, 1] rfl (va_recv hK.1 hP (ci := 6) (q0 := 0) rfl rfl) rfl hl.1 rfl (Nat.le_of_ble_eq_true rfl) dX6_as_7 ⟨Nat.le_of_ble_eq_true rfl, Nat.le_of_ble_eq_true rfl⟩ (fun r_1 e_2 => ?_)
  subst e_2
  refine lv_if_eq (tgt := 25) hx hb dX6_as_10 (by decide) (fun c_3 => ?_) (fun c_3 => ?_)
  · skip
    refine lv_ldc hx hb hown wc67 dX6_as_25 ?_
    have hP9 := hP.sub (ws' := [(md, .inr (6, [.int 0, .int sv, vm_2, vm_3, vm_4, .ref hs, vm_6, vm_7, vm_8, vm_9, vm_10, vm_11, vm_12, vm_13, vm_14, vm_15, vm_16, vm_17, vm_18, vm_19, vm_20, vm_21, vm_22, vm_23])), (hs, .inl (cI, 45, .inl f))]) [0, 1] rfl
    have hD9 := hD.sub (ws' := [(md, .inr (6, [.int 0, .int sv, vm_2, vm_3, vm_4, .ref hs, vm_6, vm_7, vm_8, vm_9, vm_10, vm_11, vm_12, vm_13, vm_14, vm_15, vm_16, vm_17, vm_18, vm_19, vm_20, vm_21, vm_22, vm_23])), (hs, .inl (cI, 45, .inl f))]) [0, 1] (by decide) rfl
    exact wt_iret hx hb hr hlocks hP9 hD9 hS ⟨sv, rfl, (by exact (fA_b (asF_a c_3) _).symm), (fQ_b (asF_a c_3) sv).symm⟩ dX6_as_27
  · skip
    obtain ⟨j_4, hj_4, rfl⟩ := wI_natT (T := T) (by omega) c_3
    refine lv_iload_n hx hb dX6_as_13 rfl (lv_at hl 2 rfl) ?_
    refine lv_i2l hx hb dX6_as_14 rfl ?_
    refine lv_lconst (v := 0) hx hb dX6_as_15 (by decide) ?_
    refine lv_ldc2 hx hb hown wl284 dX6_as_16 ?_
    refine wt_rS (As := [.long a2.toInt64, .long 0, .long 5]) (rest := []) ⟨hx, hb, hml, hown, hts⟩ (c_X6_in l D cI cZ cH a2.toInt64 0 5) (va_cwS 3 hts gX6_as_X6_in rfl rfl rfl (by decide +kernel) ⟨Nat.le_of_ble_eq_true rfl, Nat.le_of_ble_eq_true rfl⟩) hK hP [] rfl rfl hl.1 rfl (Nat.le_of_ble_eq_true rfl) dX6_as_19 ⟨Nat.le_of_ble_eq_true rfl, Nat.le_of_ble_eq_true rfl⟩ (fun r_5 e_6 => ?_)
    subst e_6
    refine wt_top (z := wI a2 0 5) (wL_I' (by decide) (by decide)) ?_
    refine lv_if_ne (tgt := 28) hx hb dX6_as_22 (by decide) (fun c_7 => ?_) (fun c_7 => ?_)
    · skip
      obtain ⟨j_8, hj_8, hj_8b, rfl⟩ := wI_nat (a := 0) (b := 5) (by omega) (by omega) c_7
      refine lv_aload_n hx hb dX6_as_28 rfl (lv_at hl 0 rfl) ?_
      refine lv_iconst (v := 0) hx hb dX6_as_29 (by decide) ?_
      refine va_put (D := D) (ci := 6) (v := .int 0) (ty := .int) (C := RX6) (T := TX6) (N := 24) hx hb hts hi6 tyX6 tyX6_ok nmX6 hown hK.1 hP hD hS 0 rfl rfl 1 (by decide) wf51 (fun _ h9 => h9) rfl (by decide +kernel) rfl rfl (Nat.le_of_ble_eq_true rfl) dX6_as_30 (fun H locs hP hD hS => ?_)
      have hP : va_P D vwCl [(md, .inr (6, [.int 0, .int 0, vm_2, vm_3, vm_4, .ref hs, vm_6, vm_7, vm_8, vm_9, vm_10, vm_11, vm_12, vm_13, vm_14, vm_15, vm_16, vm_17, vm_18, vm_19, vm_20, vm_21, vm_22, vm_23])), (hs, .inl (cI, 45, .inl f))] H := hP
      have hD : va_D A [(md, .inr (6, [.int 0, .int 0, vm_2, vm_3, vm_4, .ref hs, vm_6, vm_7, vm_8, vm_9, vm_10, vm_11, vm_12, vm_13, vm_14, vm_15, vm_16, vm_17, vm_18, vm_19, vm_20, vm_21, vm_22, vm_23])), (hs, .inl (cI, 45, .inl f))] := hD
      refine lv_aload_n hx hb dX6_as_33 rfl (lv_at hl 0 rfl) ?_
      refine va_get (D := D) (ci := 6) (v := .ref hs) (C := RX6) (T := TX6) (N := 24) hx hb hts hi6 hown hK.1 hP 0 rfl rfl 5 (by decide) wf19 (fun _ h9 => h9) rfl dX6_as_34 ?_
      refine lv_iload_n hx hb dX6_as_37 rfl (lv_at hl 1 rfl) ?_
      refine lv_iconst (v := 0) hx hb dX6_as_38 (by decide) ?_
      refine wt_rS (As := [.ref hs, .int (nI j_4), .int 0]) (rest := []) ⟨hx, hb, hml, hown, hts⟩ (c_X6_of_0x l D cI cZ cH hs R T f j_4 (by first | assumption | omega) (by first | assumption | omega) (by first | assumption | omega) (by first | assumption | omega)) (va_cwS 3 hts gX6_as_X6_of rfl rfl rfl (by decide +kernel) ⟨Nat.le_of_ble_eq_true rfl, Nat.le_of_ble_eq_true rfl⟩) hK hP [1] rfl rfl hl.1 rfl (Nat.le_of_ble_eq_true rfl) dX6_as_39 ⟨Nat.le_of_ble_eq_true rfl, Nat.le_of_ble_eq_true rfl⟩ (fun r_9 e_10 => ?_)
      subst e_10
      refine lv_iload_n hx hb dX6_as_42 rfl (lv_at hl 2 rfl) ?_
      refine wt_rS (As := [.int (f (15 + 5 * j_4)), .int (nI j_8)]) (rest := []) ⟨hx, hb, hml, hown, hts⟩ (c_X6_isOf_x l D cI cZ cH (f (15 + 5 * j_4)) (nI j_8)) (va_cwS 2 hts gX6_as_X6_isOf rfl rfl rfl (by decide +kernel) ⟨Nat.le_of_ble_eq_true rfl, Nat.le_of_ble_eq_true rfl⟩) hK hP [] rfl rfl hl.1 rfl (Nat.le_of_ble_eq_true rfl) dX6_as_43 ⟨Nat.le_of_ble_eq_true rfl, Nat.le_of_ble_eq_true rfl⟩ (fun r_11 e_12 => ?_)
      subst e_12
      refine lv_if_eq (tgt := 53) hx hb dX6_as_46 (by decide) (fun c_13 => ?_) (fun c_13 => ?_)
      · skip
        refine lv_aload_n hx hb dX6_as_53 rfl (lv_at hl 0 rfl) ?_
        refine lv_iconst (v := 3) hx hb dX6_as_54 (by decide) ?_
        refine wt_goI (wr := [(hs, .inl (cI, 45, .inl f))]) (wt_runV (As := [.int 3]) (rest := []) ⟨hx, hb, hml, hown, hts⟩ (c_X6_finding l D cI cZ cH md 3 (.int 0) (.int 0) vm_2 vm_3 vm_4 (.ref hs) vm_6 vm_7 vm_8 vm_9 vm_10 vm_11 vm_12 vm_13 vm_14 vm_15 vm_16 vm_17 vm_18 vm_19 vm_20 vm_21 vm_22 vm_23) (cwV 1 hts gX6_as_X6_finding rfl rfl rfl (by decide +kernel) ⟨Nat.le_of_ble_eq_true rfl, Nat.le_of_ble_eq_true rfl⟩) hK hP hD [0] rfl (by decide) (va_recv hK.1 hP (ci := 6) (q0 := 0) rfl rfl) rfl hl.1 rfl (Nat.le_of_ble_eq_true rfl) dX6_as_55 ⟨Nat.le_of_ble_eq_true rfl, Nat.le_of_ble_eq_true rfl⟩) hP hD hS hA [0] [1] rfl rfl (by decide) (by decide) (fun r_14 w_15 H locs h_16 hP hD hS => ?_)
        obtain ⟨rfl, rfl⟩ := h_16
        have hP : va_P D vwCl [(hs, .inl (cI, 45, .inl f)), (md, .inr (6, [.int 0, .int 3, vm_2, vm_3, vm_4, .ref hs, vm_6, vm_7, vm_8, vm_9, vm_10, vm_11, vm_12, vm_13, vm_14, vm_15, vm_16, vm_17, vm_18, vm_19, vm_20, vm_21, vm_22, vm_23]))] H := hP
        have hD : va_D A [(hs, .inl (cI, 45, .inl f)), (md, .inr (6, [.int 0, .int 3, vm_2, vm_3, vm_4, .ref hs, vm_6, vm_7, vm_8, vm_9, vm_10, vm_11, vm_12, vm_13, vm_14, vm_15, vm_16, vm_17, vm_18, vm_19, vm_20, vm_21, vm_22, vm_23]))] := hD
        refine wt_top (z := (-1000013)) (by decide) ?_
        have hP9 := hP.sub (ws' := [(md, .inr (6, [.int 0, .int 3, vm_2, vm_3, vm_4, .ref hs, vm_6, vm_7, vm_8, vm_9, vm_10, vm_11, vm_12, vm_13, vm_14, vm_15, vm_16, vm_17, vm_18, vm_19, vm_20, vm_21, vm_22, vm_23])), (hs, .inl (cI, 45, .inl f))]) [1, 0] rfl
        have hD9 := hD.sub (ws' := [(md, .inr (6, [.int 0, .int 3, vm_2, vm_3, vm_4, .ref hs, vm_6, vm_7, vm_8, vm_9, vm_10, vm_11, vm_12, vm_13, vm_14, vm_15, vm_16, vm_17, vm_18, vm_19, vm_20, vm_21, vm_22, vm_23])), (hs, .inl (cI, 45, .inl f))]) [1, 0] (by decide) rfl
        exact wt_iret hx hb hr hlocks hP9 hD9 hS ⟨3, rfl, (by exact (fA_3 (asF_3 (by omega) c_3 c_7 c_13) _).symm), (fQ_k (asF_3 (by omega) c_3 c_7 c_13) (by decide) sv).symm⟩ dX6_as_58
      · skip
        refine lv_iload_n hx hb dX6_as_49 rfl (lv_at hl 1 rfl) ?_
        refine lv_goto (tgt := 58) hx hb dX6_as_50 (by decide) ?_
        have hP9 := hP.sub (ws' := [(md, .inr (6, [.int 0, .int 0, vm_2, vm_3, vm_4, .ref hs, vm_6, vm_7, vm_8, vm_9, vm_10, vm_11, vm_12, vm_13, vm_14, vm_15, vm_16, vm_17, vm_18, vm_19, vm_20, vm_21, vm_22, vm_23])), (hs, .inl (cI, 45, .inl f))]) [0, 1] rfl
        have hD9 := hD.sub (ws' := [(md, .inr (6, [.int 0, .int 0, vm_2, vm_3, vm_4, .ref hs, vm_6, vm_7, vm_8, vm_9, vm_10, vm_11, vm_12, vm_13, vm_14, vm_15, vm_16, vm_17, vm_18, vm_19, vm_20, vm_21, vm_22, vm_23])), (hs, .inl (cI, 45, .inl f))]) [0, 1] (by decide) rfl
        exact wt_iret hx hb hr hlocks hP9 hD9 hS ⟨0, rfl, (by exact (fA_0 (asF_0 (by omega) c_3 c_7 c_13) _).symm), (fQ_k (asF_0 (by omega) c_3 c_7 c_13) (by decide) sv).symm⟩ dX6_as_58
    · skip
      refine lv_ldc hx hb hown wc67 dX6_as_25 ?_
      have hP9 := hP.sub (ws' := [(md, .inr (6, [.int 0, .int sv, vm_2, vm_3, vm_4, .ref hs, vm_6, vm_7, vm_8, vm_9, vm_10, vm_11, vm_12, vm_13, vm_14, vm_15, vm_16, vm_17, vm_18, vm_19, vm_20, vm_21, vm_22, vm_23])), (hs, .inl (cI, 45, .inl f))]) [0, 1] rfl
      have hD9 := hD.sub (ws' := [(md, .inr (6, [.int 0, .int sv, vm_2, vm_3, vm_4, .ref hs, vm_6, vm_7, vm_8, vm_9, vm_10, vm_11, vm_12, vm_13, vm_14, vm_15, vm_16, vm_17, vm_18, vm_19, vm_20, vm_21, vm_22, vm_23])), (hs, .inl (cI, 45, .inl f))]) [0, 1] (by decide) rfl
      exact wt_iret hx hb hr hlocks hP9 hD9 hS ⟨sv, rfl, (by exact (fA_b (asF_b c_3 c_7) _).symm), (fQ_b (asF_b c_3 c_7) sv).symm⟩ dX6_as_27
set_option maxHeartbeats 4000000 in
set_option maxRecDepth 100000 in
theorem c_X6_began_x (l : Launch) (D : va_G) (cI cZ cH : ClassId) (md tc kn : Nat) (cf : Nat → Int32) (a1 : Int32) (vm_0 vm_1 vm_2 vm_3 vm_4 vm_5 vm_6 vm_7 vm_8 vm_9 vm_10 vm_11 vm_12 vm_13 vm_14 vm_15 vm_16 vm_17 vm_18 vm_19 vm_20 vm_21 : Value) (hkn : kn < 16) : wt_M l yX6_began wsX6_began ({ frames := 0, cells := 0, slots := 0, locals := 0 } : Room) D (wt_T cI cZ cH) [.ref md, .int a1] [(md, .inr (6, [vm_0, vm_1, vm_2, vm_3, vm_4, vm_5, vm_6, vm_7, vm_8, vm_9, vm_10, vm_11, vm_12, vm_13, vm_14, vm_15, vm_16, vm_17, vm_18, vm_19, vm_20, vm_21, .ref tc, .int (nI kn)])), (tc, .inl (cI, 16, .inl cf))] (wt_QV D (fun w => w = [(md, .inr (6, [vm_0, vm_1, vm_2, vm_3, vm_4, vm_5, vm_6, vm_7, vm_8, vm_9, vm_10, vm_11, vm_12, vm_13, vm_14, vm_15, vm_16, vm_17, vm_18, vm_19, vm_20, vm_21, .ref tc, .int (nI (kn + 1))])), (tc, .inl (cI, 16, .inl (upd cf kn a1)))])) := by
  refine wt_M.ofW (cc := cX6_began) (maxL := 2) (ret := none) (by decide) rfl (Nat.le_of_ble_eq_true rfl) ?_
  intro p e s m below meth c A ls hx hb hr hts hown hlocks hml hnm hP hK hD hA hS hl
  have hP : va_P D vwCl [(md, .inr (6, [vm_0, vm_1, vm_2, vm_3, vm_4, vm_5, vm_6, vm_7, vm_8, vm_9, vm_10, vm_11, vm_12, vm_13, vm_14, vm_15, vm_16, vm_17, vm_18, vm_19, vm_20, vm_21, .ref tc, .int (nI kn)])), (tc, .inl (cI, 16, .inl cf))] s.heap := hP
  have hown : s.vm.findClass RX6 = some m.cls := hown
  have hl : lv_has ls 2 [(0, .ref md), (1, .int a1)] := hl
  have hi6 : ∀ w ∈ u_ws RX6 TX6 24, w ∈ wsX6_began := by decide +kernel
  have wf289 := hts (.fieldLink RX6 289 "WarmTubesModel" "traced" "I") (by decide +kernel)
  have wf44 := hts (.fieldLink RX6 44 "WarmTubesModel" "trace" "[I") (by decide +kernel)
  refine lv_aload_n hx hb dX6_began_0 rfl (lv_at hl 0 rfl) ?_
  refine va_get (D := D) (ci := 6) (v := .int (nI kn)) (C := RX6) (T := TX6) (N := 24) hx hb hts hi6 hown hK.1 hP 0 rfl rfl 23 (by decide) wf289 (fun _ h9 => h9) rfl dX6_began_1 ?_
  refine lv_bipush (v := 16) hx hb dX6_began_4 (by decide) ?_
  refine lv_icmp_ge (tgt := 29) hx hb dX6_began_6 (by decide) (fun h => absurd h (nI_ge (a := kn) (b := 16) (by omega) (by omega))) (fun _ => ?_)
  refine lv_aload_n hx hb dX6_began_9 rfl (lv_at hl 0 rfl) ?_
  refine va_get (D := D) (ci := 6) (v := .ref tc) (C := RX6) (T := TX6) (N := 24) hx hb hts hi6 hown hK.1 hP 0 rfl rfl 22 (by decide) wf44 (fun _ h9 => h9) rfl dX6_began_10 ?_
  refine lv_aload_n hx hb dX6_began_13 rfl (lv_at hl 0 rfl) ?_
  refine va_get (D := D) (ci := 6) (v := .int (nI kn)) (C := RX6) (T := TX6) (N := 24) hx hb hts hi6 hown hK.1 hP 0 rfl rfl 23 (by decide) wf289 (fun _ h9 => h9) rfl dX6_began_14 ?_
  refine lv_iload_n hx hb dX6_began_17 rfl (lv_at hl 1 rfl) ?_
  refine va_iast hx hb hK.1 hP hD hS 1 0 rfl rfl (vp_in_nI (by omega) (by omega)) dX6_began_18 (fun H locs hP hD hS => ?_)
  have hP : va_P D vwCl [(md, .inr (6, [vm_0, vm_1, vm_2, vm_3, vm_4, vm_5, vm_6, vm_7, vm_8, vm_9, vm_10, vm_11, vm_12, vm_13, vm_14, vm_15, vm_16, vm_17, vm_18, vm_19, vm_20, vm_21, .ref tc, .int (nI kn)])), (tc, .inl (cI, 16, .inl (upd cf ((nI kn).toNatClampNeg) a1)))] H := hP
  have hD : va_D A [(md, .inr (6, [vm_0, vm_1, vm_2, vm_3, vm_4, vm_5, vm_6, vm_7, vm_8, vm_9, vm_10, vm_11, vm_12, vm_13, vm_14, vm_15, vm_16, vm_17, vm_18, vm_19, vm_20, vm_21, .ref tc, .int (nI kn)])), (tc, .inl (cI, 16, .inl (upd cf ((nI kn).toNatClampNeg) a1)))] := hD
  rw [nI_clamp (n := kn) (by omega)] at hP hD
  have hP : va_P D vwCl [(md, .inr (6, [vm_0, vm_1, vm_2, vm_3, vm_4, vm_5, vm_6, vm_7, vm_8, vm_9, vm_10, vm_11, vm_12, vm_13, vm_14, vm_15, vm_16, vm_17, vm_18, vm_19, vm_20, vm_21, .ref tc, .int (nI kn)])), (tc, .inl (cI, 16, .inl (upd cf kn a1)))] H := hP
  have hD : va_D A [(md, .inr (6, [vm_0, vm_1, vm_2, vm_3, vm_4, vm_5, vm_6, vm_7, vm_8, vm_9, vm_10, vm_11, vm_12, vm_13, vm_14, vm_15, vm_16, vm_17, vm_18, vm_19, vm_20, vm_21, .ref tc, .int (nI kn)])), (tc, .inl (cI, 16, .inl (upd cf kn a1)))] := hD
  refine lv_aload_n hx hb dX6_began_19 rfl (lv_at hl 0 rfl) ?_
  refine lv_dup hx hb dX6_began_20 rfl ?_
  refine va_get (D := D) (ci := 6) (v := .int (nI kn)) (C := RX6) (T := TX6) (N := 24) hx hb hts hi6 hown hK.1 hP 0 rfl rfl 23 (by decide) wf289 (fun _ h9 => h9) rfl dX6_began_21 ?_
  refine lv_iconst (v := 1) hx hb dX6_began_24 (by decide) ?_
  refine lv_iadd hx hb dX6_began_25 ?_
  refine wt_top (z := nI (kn + 1)) (nI_add kn 1) ?_
  refine va_put (D := D) (ci := 6) (v := .int (nI (kn + 1))) (ty := .int) (C := RX6) (T := TX6) (N := 24) hx hb hts hi6 tyX6 tyX6_ok nmX6 hown hK.1 hP hD hS 0 rfl rfl 23 (by decide) wf289 (fun _ h9 => h9) rfl (by decide +kernel) rfl rfl (Nat.le_of_ble_eq_true rfl) dX6_began_26 (fun H locs hP hD hS => ?_)
  have hP : va_P D vwCl [(md, .inr (6, [vm_0, vm_1, vm_2, vm_3, vm_4, vm_5, vm_6, vm_7, vm_8, vm_9, vm_10, vm_11, vm_12, vm_13, vm_14, vm_15, vm_16, vm_17, vm_18, vm_19, vm_20, vm_21, .ref tc, .int (nI (kn + 1))])), (tc, .inl (cI, 16, .inl (upd cf kn a1)))] H := hP
  have hD : va_D A [(md, .inr (6, [vm_0, vm_1, vm_2, vm_3, vm_4, vm_5, vm_6, vm_7, vm_8, vm_9, vm_10, vm_11, vm_12, vm_13, vm_14, vm_15, vm_16, vm_17, vm_18, vm_19, vm_20, vm_21, .ref tc, .int (nI (kn + 1))])), (tc, .inl (cI, 16, .inl (upd cf kn a1)))] := hD
  have hP9 := hP.sub (ws' := [(md, .inr (6, [vm_0, vm_1, vm_2, vm_3, vm_4, vm_5, vm_6, vm_7, vm_8, vm_9, vm_10, vm_11, vm_12, vm_13, vm_14, vm_15, vm_16, vm_17, vm_18, vm_19, vm_20, vm_21, .ref tc, .int (nI (kn + 1))])), (tc, .inl (cI, 16, .inl (upd cf kn a1)))]) [0, 1] rfl
  have hD9 := hD.sub (ws' := [(md, .inr (6, [vm_0, vm_1, vm_2, vm_3, vm_4, vm_5, vm_6, vm_7, vm_8, vm_9, vm_10, vm_11, vm_12, vm_13, vm_14, vm_15, vm_16, vm_17, vm_18, vm_19, vm_20, vm_21, .ref tc, .int (nI (kn + 1))])), (tc, .inl (cI, 16, .inl (upd cf kn a1)))]) [0, 1] (by decide) rfl
  exact wt_vret hx hb hr hlocks hP9 hD9 hS rfl dX6_began_29
set_option maxHeartbeats 4000000 in
set_option maxRecDepth 100000 in
theorem c_X6_plainSize_s0 (l : Launch) (D : va_G) (cI cZ cH : ClassId) (md hs : Nat) (R T : Nat) (f : Nat → Int32) (tc kn : Nat) (cf : Nat → Int32) (j : Nat) (vm_0 vm_1 vm_2 vm_3 vm_4 vm_6 vm_7 vm_8 vm_9 vm_10 vm_11 vm_12 vm_13 vm_14 vm_15 vm_16 vm_17 vm_18 vm_19 vm_20 vm_21 : Value) (hR5 : R ≤ 5) (hT6 : T ≤ 6) (hrk : rk R T f) (hj6 : j < 6) (hkn : kn + 1 ≤ 16) : wt_M l yX6_plainSize wsX6_plainSize ({ frames := 1, cells := 0, slots := 0, locals := 22 } : Room) D (wt_T cI cZ cH) [.ref md, .int (nI j)] [(md, .inr (6, [vm_0, vm_1, vm_2, vm_3, vm_4, .ref hs, vm_6, vm_7, vm_8, vm_9, vm_10, vm_11, vm_12, vm_13, vm_14, vm_15, vm_16, vm_17, vm_18, vm_19, vm_20, vm_21, .ref tc, .int (nI kn)])), (hs, .inl (cI, 45, .inl f)), (tc, .inl (cI, 16, .inl cf))] (wt_QI D (fun r w => w = [(md, .inr (6, [vm_0, vm_1, vm_2, vm_3, vm_4, .ref hs, vm_6, vm_7, vm_8, vm_9, vm_10, vm_11, vm_12, vm_13, vm_14, vm_15, vm_16, vm_17, vm_18, vm_19, vm_20, vm_21, .ref tc, .int (nI (kn + 1))])), (hs, .inl (cI, 45, .inl f)), (tc, .inl (cI, 16, .inl (apL [10] kn cf)))])) := by
  refine wt_M.ofW (cc := cX6_plainSize) (maxL := 2) (ret := (some .int)) (by decide) rfl (Nat.le_of_ble_eq_true rfl) ?_
  intro p e s m below meth c A ls hx hb hr hts hown hlocks hml hnm hP hK hD hA hS hl
  have hP : va_P D vwCl [(md, .inr (6, [vm_0, vm_1, vm_2, vm_3, vm_4, .ref hs, vm_6, vm_7, vm_8, vm_9, vm_10, vm_11, vm_12, vm_13, vm_14, vm_15, vm_16, vm_17, vm_18, vm_19, vm_20, vm_21, .ref tc, .int (nI kn)])), (hs, .inl (cI, 45, .inl f)), (tc, .inl (cI, 16, .inl cf))] s.heap := hP
  have hown : s.vm.findClass RX6 = some m.cls := hown
  have hl : lv_has ls 2 [(0, .ref md), (1, .int (nI j))] := hl
  have hi6 : ∀ w ∈ u_ws RX6 TX6 24, w ∈ wsX6_plainSize := by decide +kernel
  have wf19 := hts (.fieldLink RX6 19 "WarmTubesModel" "house" "[I") (by decide +kernel)
  refine lv_aload_n hx hb dX6_plainSize_0 rfl (lv_at hl 0 rfl) ?_
  refine lv_bipush (v := 10) hx hb dX6_plainSize_1 (by decide) ?_
  refine wt_goV (wr := [(hs, .inl (cI, 45, .inl f))]) (wt_runV (As := [.int 10]) (rest := []) ⟨hx, hb, hml, hown, hts⟩ (c_X6_began_x l D cI cZ cH md tc kn cf 10 vm_0 vm_1 vm_2 vm_3 vm_4 (.ref hs) vm_6 vm_7 vm_8 vm_9 vm_10 vm_11 vm_12 vm_13 vm_14 vm_15 vm_16 vm_17 vm_18 vm_19 vm_20 vm_21 (by first | assumption | omega)) (cwV 1 hts gX6_plainSize_X6_began rfl rfl rfl (by decide +kernel) ⟨Nat.le_of_ble_eq_true rfl, Nat.le_of_ble_eq_true rfl⟩) hK hP hD [0, 2] rfl (by decide) (va_recv hK.1 hP (ci := 6) (q0 := 0) rfl rfl) rfl hl.1 rfl (Nat.le_of_ble_eq_true rfl) dX6_plainSize_3 ⟨Nat.le_of_ble_eq_true rfl, Nat.le_of_ble_eq_true rfl⟩) hP hD hS hA [0, 2] [1] rfl rfl (by decide) (by decide) (fun w_2 H locs h_3 hP hD hS => ?_)
  obtain rfl := h_3
  have hP : va_P D vwCl [(hs, .inl (cI, 45, .inl f)), (md, .inr (6, [vm_0, vm_1, vm_2, vm_3, vm_4, .ref hs, vm_6, vm_7, vm_8, vm_9, vm_10, vm_11, vm_12, vm_13, vm_14, vm_15, vm_16, vm_17, vm_18, vm_19, vm_20, vm_21, .ref tc, .int (nI (kn + 1))])), (tc, .inl (cI, 16, .inl (upd cf kn 10)))] H := hP
  have hD : va_D A [(hs, .inl (cI, 45, .inl f)), (md, .inr (6, [vm_0, vm_1, vm_2, vm_3, vm_4, .ref hs, vm_6, vm_7, vm_8, vm_9, vm_10, vm_11, vm_12, vm_13, vm_14, vm_15, vm_16, vm_17, vm_18, vm_19, vm_20, vm_21, .ref tc, .int (nI (kn + 1))])), (tc, .inl (cI, 16, .inl (upd cf kn 10)))] := hD
  refine lv_aload_n hx hb dX6_plainSize_6 rfl (lv_at hl 0 rfl) ?_
  refine va_get (D := D) (ci := 6) (v := .ref hs) (C := RX6) (T := TX6) (N := 24) hx hb hts hi6 hown hK.1 hP 1 rfl rfl 5 (by decide) wf19 (fun _ h9 => h9) rfl dX6_plainSize_7 ?_
  refine lv_iload_n hx hb dX6_plainSize_10 rfl (lv_at hl 1 rfl) ?_
  refine lv_iconst (v := 3) hx hb dX6_plainSize_11 (by decide) ?_
  refine wt_rS (As := [.ref hs, .int (nI j), .int 3]) (rest := []) ⟨hx, hb, hml, hown, hts⟩ (c_X6_of_w l D cI cZ cH hs R T f j 3 (by first | assumption | omega) (by first | assumption | omega) (by first | assumption | omega) (by first | assumption | omega) (by first | assumption | omega)) (va_cwS 3 hts gX6_plainSize_X6_of rfl rfl rfl (by decide +kernel) ⟨Nat.le_of_ble_eq_true rfl, Nat.le_of_ble_eq_true rfl⟩) hK hP [0] rfl rfl hl.1 rfl (Nat.le_of_ble_eq_true rfl) dX6_plainSize_12 ⟨Nat.le_of_ble_eq_true rfl, Nat.le_of_ble_eq_true rfl⟩ (fun r_4 e_5 => ?_)
  have hP9 := hP.sub (ws' := [(md, .inr (6, [vm_0, vm_1, vm_2, vm_3, vm_4, .ref hs, vm_6, vm_7, vm_8, vm_9, vm_10, vm_11, vm_12, vm_13, vm_14, vm_15, vm_16, vm_17, vm_18, vm_19, vm_20, vm_21, .ref tc, .int (nI (kn + 1))])), (hs, .inl (cI, 45, .inl f)), (tc, .inl (cI, 16, .inl (upd cf kn 10)))]) [1, 0, 2] rfl
  have hD9 := hD.sub (ws' := [(md, .inr (6, [vm_0, vm_1, vm_2, vm_3, vm_4, .ref hs, vm_6, vm_7, vm_8, vm_9, vm_10, vm_11, vm_12, vm_13, vm_14, vm_15, vm_16, vm_17, vm_18, vm_19, vm_20, vm_21, .ref tc, .int (nI (kn + 1))])), (hs, .inl (cI, 45, .inl f)), (tc, .inl (cI, 16, .inl (upd cf kn 10)))]) [1, 0, 2] (by decide) rfl
  exact wt_iret hx hb hr hlocks hP9 hD9 hS rfl dX6_plainSize_15
set_option maxHeartbeats 4000000 in
set_option maxRecDepth 100000 in
theorem c_X6_woolSize_s4 (l : Launch) (D : va_G) (cI cZ cH : ClassId) (md hs : Nat) (R T : Nat) (f : Nat → Int32) (tc kn : Nat) (cf : Nat → Int32) (j : Nat) (vm_0 vm_1 vm_2 vm_3 vm_4 vm_6 vm_7 vm_8 vm_9 vm_10 vm_11 vm_12 vm_13 vm_14 vm_15 vm_16 vm_17 vm_18 vm_19 vm_20 vm_21 : Value) (hR5 : R ≤ 5) (hT6 : T ≤ 6) (hrk : rk R T f) (hj6 : j < 6) (hkn : kn + 2 ≤ 16) (hks : f (15 + 5 * j) = 4) : wt_M l yX6_woolSize wsX6_woolSize ({ frames := 2, cells := 0, slots := 0, locals := 43 } : Room) D (wt_T cI cZ cH) [.ref md, .int (nI j)] [(md, .inr (6, [vm_0, vm_1, vm_2, vm_3, vm_4, .ref hs, vm_6, vm_7, vm_8, vm_9, vm_10, vm_11, vm_12, vm_13, vm_14, vm_15, vm_16, vm_17, vm_18, vm_19, vm_20, vm_21, .ref tc, .int (nI kn)])), (hs, .inl (cI, 45, .inl f)), (tc, .inl (cI, 16, .inl cf))] (wt_QI D (fun r w => w = [(md, .inr (6, [vm_0, vm_1, vm_2, vm_3, vm_4, .ref hs, vm_6, vm_7, vm_8, vm_9, vm_10, vm_11, vm_12, vm_13, vm_14, vm_15, vm_16, vm_17, vm_18, vm_19, vm_20, vm_21, .ref tc, .int (nI (kn + 2))])), (hs, .inl (cI, 45, .inl f)), (tc, .inl (cI, 16, .inl (apL [13, 10] kn cf)))])) := by
  refine wt_M.ofW (cc := cX6_woolSize) (maxL := 4) (ret := (some .int)) (by decide) rfl (Nat.le_of_ble_eq_true rfl) ?_
  intro p e s m below meth c A ls hx hb hr hts hown hlocks hml hnm hP hK hD hA hS hl
  have hP : va_P D vwCl [(md, .inr (6, [vm_0, vm_1, vm_2, vm_3, vm_4, .ref hs, vm_6, vm_7, vm_8, vm_9, vm_10, vm_11, vm_12, vm_13, vm_14, vm_15, vm_16, vm_17, vm_18, vm_19, vm_20, vm_21, .ref tc, .int (nI kn)])), (hs, .inl (cI, 45, .inl f)), (tc, .inl (cI, 16, .inl cf))] s.heap := hP
  have hown : s.vm.findClass RX6 = some m.cls := hown
  have hl : lv_has ls 4 [(0, .ref md), (1, .int (nI j))] := hl
  have hi6 : ∀ w ∈ u_ws RX6 TX6 24, w ∈ wsX6_woolSize := by decide +kernel
  have wf19 := hts (.fieldLink RX6 19 "WarmTubesModel" "house" "[I") (by decide +kernel)
  refine lv_aload_n hx hb dX6_woolSize_0 rfl (lv_at hl 0 rfl) ?_
  refine va_get (D := D) (ci := 6) (v := .ref hs) (C := RX6) (T := TX6) (N := 24) hx hb hts hi6 hown hK.1 hP 0 rfl rfl 5 (by decide) wf19 (fun _ h9 => h9) rfl dX6_woolSize_1 ?_
  refine lv_iload_n hx hb dX6_woolSize_4 rfl (lv_at hl 1 rfl) ?_
  refine lv_iconst (v := 0) hx hb dX6_woolSize_5 (by decide) ?_
  refine wt_rS (As := [.ref hs, .int (nI j), .int 0]) (rest := []) ⟨hx, hb, hml, hown, hts⟩ (c_X6_of_k4 l D cI cZ cH hs R T f j (by first | assumption | omega) (by first | assumption | omega) (by first | assumption | omega) (by first | assumption | omega) (by first | assumption | omega)) (va_cwS 3 hts gX6_woolSize_X6_of rfl rfl rfl (by decide +kernel) ⟨Nat.le_of_ble_eq_true rfl, Nat.le_of_ble_eq_true rfl⟩) hK hP [1] rfl rfl hl.1 rfl (Nat.le_of_ble_eq_true rfl) dX6_woolSize_6 ⟨Nat.le_of_ble_eq_true rfl, Nat.le_of_ble_eq_true rfl⟩ (fun r_1 e_2 => ?_)
  subst e_2
  refine lv_iconst (v := 5) hx hb dX6_woolSize_9 (by decide) ?_
  refine lv_icmp_ne (tgt := 17) hx hb dX6_woolSize_10 (by decide) (fun _ => ?_) (fun h => absurd h (by decide))
  refine lv_iconst (v := 0) hx hb dX6_woolSize_17 (by decide) ?_
  refine lv_istore_n (lv' := [(2, .int 0), (0, .ref md), (1, .int (nI j))]) hx hb dX6_woolSize_18 rfl hl (by decide) rfl (fun ls hl => ?_)
  refine lv_iload_n hx hb dX6_woolSize_19 rfl (lv_at hl 0 rfl) ?_
  refine lv_if_eq (tgt := 29) hx hb dX6_woolSize_20 (by decide) (fun _ => ?_) (fun h => absurd h (by decide))
  refine lv_aload_n hx hb dX6_woolSize_29 rfl (lv_at hl 1 rfl) ?_
  refine lv_bipush (v := 13) hx hb dX6_woolSize_30 (by decide) ?_
  refine wt_goV (wr := [(hs, .inl (cI, 45, .inl f))]) (wt_runV (As := [.int 13]) (rest := []) ⟨hx, hb, hml, hown, hts⟩ (c_X6_began_x l D cI cZ cH md tc kn cf 13 vm_0 vm_1 vm_2 vm_3 vm_4 (.ref hs) vm_6 vm_7 vm_8 vm_9 vm_10 vm_11 vm_12 vm_13 vm_14 vm_15 vm_16 vm_17 vm_18 vm_19 vm_20 vm_21 (by first | assumption | omega)) (cwV 1 hts gX6_woolSize_X6_began rfl rfl rfl (by decide +kernel) ⟨Nat.le_of_ble_eq_true rfl, Nat.le_of_ble_eq_true rfl⟩) hK hP hD [0, 2] rfl (by decide) (va_recv hK.1 hP (ci := 6) (q0 := 0) rfl rfl) rfl hl.1 rfl (Nat.le_of_ble_eq_true rfl) dX6_woolSize_32 ⟨Nat.le_of_ble_eq_true rfl, Nat.le_of_ble_eq_true rfl⟩) hP hD hS hA [0, 2] [1] rfl rfl (by decide) (by decide) (fun w_4 H locs h_5 hP hD hS => ?_)
  obtain rfl := h_5
  have hP : va_P D vwCl [(hs, .inl (cI, 45, .inl f)), (md, .inr (6, [vm_0, vm_1, vm_2, vm_3, vm_4, .ref hs, vm_6, vm_7, vm_8, vm_9, vm_10, vm_11, vm_12, vm_13, vm_14, vm_15, vm_16, vm_17, vm_18, vm_19, vm_20, vm_21, .ref tc, .int (nI (kn + 1))])), (tc, .inl (cI, 16, .inl (upd cf kn 13)))] H := hP
  have hD : va_D A [(hs, .inl (cI, 45, .inl f)), (md, .inr (6, [vm_0, vm_1, vm_2, vm_3, vm_4, .ref hs, vm_6, vm_7, vm_8, vm_9, vm_10, vm_11, vm_12, vm_13, vm_14, vm_15, vm_16, vm_17, vm_18, vm_19, vm_20, vm_21, .ref tc, .int (nI (kn + 1))])), (tc, .inl (cI, 16, .inl (upd cf kn 13)))] := hD
  refine lv_aload_n hx hb dX6_woolSize_35 rfl (lv_at hl 1 rfl) ?_
  refine lv_iload_n hx hb dX6_woolSize_36 rfl (lv_at hl 2 rfl) ?_
  refine wt_goI (wr := []) (wt_runV (As := [.int (nI j)]) (rest := []) ⟨hx, hb, hml, hown, hts⟩ (c_X6_plainSize_s0 l D cI cZ cH md hs R T f tc (kn + 1) (upd cf kn 13) j vm_0 vm_1 vm_2 vm_3 vm_4 vm_6 vm_7 vm_8 vm_9 vm_10 vm_11 vm_12 vm_13 vm_14 vm_15 vm_16 vm_17 vm_18 vm_19 vm_20 vm_21 (by first | assumption | omega) (by first | assumption | omega) (by first | assumption | omega) (by first | assumption | omega) (by first | assumption | omega)) (cwV 1 hts gX6_woolSize_X6_plainSize rfl rfl rfl (by decide +kernel) ⟨Nat.le_of_ble_eq_true rfl, Nat.le_of_ble_eq_true rfl⟩) hK hP hD [1, 0, 2] rfl (by decide) (va_recv hK.1 hP (ci := 6) (q0 := 1) rfl rfl) rfl hl.1 rfl (Nat.le_of_ble_eq_true rfl) dX6_woolSize_37 ⟨Nat.le_of_ble_eq_true rfl, Nat.le_of_ble_eq_true rfl⟩) hP hD hS hA [1, 0, 2] [] rfl rfl (by decide) (by decide) (fun r_6 w_7 H locs h_8 hP hD hS => ?_)
  obtain rfl := h_8
  have hP : va_P D vwCl [(md, .inr (6, [vm_0, vm_1, vm_2, vm_3, vm_4, .ref hs, vm_6, vm_7, vm_8, vm_9, vm_10, vm_11, vm_12, vm_13, vm_14, vm_15, vm_16, vm_17, vm_18, vm_19, vm_20, vm_21, .ref tc, .int (nI ((kn + 1) + 1))])), (hs, .inl (cI, 45, .inl f)), (tc, .inl (cI, 16, .inl (apL [10] (kn + 1) (upd cf kn 13))))] H := hP
  have hD : va_D A [(md, .inr (6, [vm_0, vm_1, vm_2, vm_3, vm_4, .ref hs, vm_6, vm_7, vm_8, vm_9, vm_10, vm_11, vm_12, vm_13, vm_14, vm_15, vm_16, vm_17, vm_18, vm_19, vm_20, vm_21, .ref tc, .int (nI ((kn + 1) + 1))])), (hs, .inl (cI, 45, .inl f)), (tc, .inl (cI, 16, .inl (apL [10] (kn + 1) (upd cf kn 13))))] := hD
  refine lv_bipush (v := 100) hx hb dX6_woolSize_40 (by decide) ?_
  refine lv_isub hx hb dX6_woolSize_42 ?_
  refine lv_topi (fun ov_9 _ => ?_)
  refine lv_istore_n (lv' := [(3, .int ov_9), (2, .int 0), (0, .ref md), (1, .int (nI j))]) hx hb dX6_woolSize_43 rfl hl (by decide) rfl (fun ls hl => ?_)
  refine lv_iload_n hx hb dX6_woolSize_44 rfl (lv_at hl 1 rfl) ?_
  refine lv_if_eq (tgt := 54) hx hb dX6_woolSize_45 (by decide) (fun _ => ?_) (fun h => absurd h (by decide))
  refine lv_iload_n hx hb dX6_woolSize_54 rfl (lv_at hl 0 rfl) ?_
  have hP9 := hP.sub (ws' := [(md, .inr (6, [vm_0, vm_1, vm_2, vm_3, vm_4, .ref hs, vm_6, vm_7, vm_8, vm_9, vm_10, vm_11, vm_12, vm_13, vm_14, vm_15, vm_16, vm_17, vm_18, vm_19, vm_20, vm_21, .ref tc, .int (nI ((kn + 1) + 1))])), (hs, .inl (cI, 45, .inl f)), (tc, .inl (cI, 16, .inl (apL [10] (kn + 1) (upd cf kn 13))))]) [0, 1, 2] rfl
  have hD9 := hD.sub (ws' := [(md, .inr (6, [vm_0, vm_1, vm_2, vm_3, vm_4, .ref hs, vm_6, vm_7, vm_8, vm_9, vm_10, vm_11, vm_12, vm_13, vm_14, vm_15, vm_16, vm_17, vm_18, vm_19, vm_20, vm_21, .ref tc, .int (nI ((kn + 1) + 1))])), (hs, .inl (cI, 45, .inl f)), (tc, .inl (cI, 16, .inl (apL [10] (kn + 1) (upd cf kn 13))))]) [0, 1, 2] (by decide) rfl
  exact wt_iret hx hb hr hlocks hP9 hD9 hS rfl dX6_woolSize_55
set_option maxHeartbeats 4000000 in
set_option maxRecDepth 100000 in
theorem c_X6_woolSize_s5 (l : Launch) (D : va_G) (cI cZ cH : ClassId) (md hs : Nat) (R T : Nat) (f : Nat → Int32) (tc kn : Nat) (cf : Nat → Int32) (j : Nat) (vm_0 vm_1 vm_2 vm_3 vm_4 vm_6 vm_7 vm_8 vm_9 vm_10 vm_11 vm_12 vm_13 vm_14 vm_15 vm_16 vm_17 vm_18 vm_19 vm_20 vm_21 : Value) (hR5 : R ≤ 5) (hT6 : T ≤ 6) (hrk : rk R T f) (hj6 : j < 6) (hkn : kn + 3 ≤ 16) (hks : f (15 + 5 * j) = 5) : wt_M l yX6_woolSize wsX6_woolSize ({ frames := 2, cells := 0, slots := 0, locals := 43 } : Room) D (wt_T cI cZ cH) [.ref md, .int (nI j)] [(md, .inr (6, [vm_0, vm_1, vm_2, vm_3, vm_4, .ref hs, vm_6, vm_7, vm_8, vm_9, vm_10, vm_11, vm_12, vm_13, vm_14, vm_15, vm_16, vm_17, vm_18, vm_19, vm_20, vm_21, .ref tc, .int (nI kn)])), (hs, .inl (cI, 45, .inl f)), (tc, .inl (cI, 16, .inl cf))] (wt_QI D (fun r w => w = [(md, .inr (6, [vm_0, vm_1, vm_2, vm_3, vm_4, .ref hs, vm_6, vm_7, vm_8, vm_9, vm_10, vm_11, vm_12, vm_13, vm_14, vm_15, vm_16, vm_17, vm_18, vm_19, vm_20, vm_21, .ref tc, .int (nI (kn + 3))])), (hs, .inl (cI, 45, .inl f)), (tc, .inl (cI, 16, .inl (apL [14, 13, 10] kn cf)))])) := by
  refine wt_M.ofW (cc := cX6_woolSize) (maxL := 4) (ret := (some .int)) (by decide) rfl (Nat.le_of_ble_eq_true rfl) ?_
  intro p e s m below meth c A ls hx hb hr hts hown hlocks hml hnm hP hK hD hA hS hl
  have hP : va_P D vwCl [(md, .inr (6, [vm_0, vm_1, vm_2, vm_3, vm_4, .ref hs, vm_6, vm_7, vm_8, vm_9, vm_10, vm_11, vm_12, vm_13, vm_14, vm_15, vm_16, vm_17, vm_18, vm_19, vm_20, vm_21, .ref tc, .int (nI kn)])), (hs, .inl (cI, 45, .inl f)), (tc, .inl (cI, 16, .inl cf))] s.heap := hP
  have hown : s.vm.findClass RX6 = some m.cls := hown
  have hl : lv_has ls 4 [(0, .ref md), (1, .int (nI j))] := hl
  have hi6 : ∀ w ∈ u_ws RX6 TX6 24, w ∈ wsX6_woolSize := by decide +kernel
  have wf19 := hts (.fieldLink RX6 19 "WarmTubesModel" "house" "[I") (by decide +kernel)
  refine lv_aload_n hx hb dX6_woolSize_0 rfl (lv_at hl 0 rfl) ?_
  refine va_get (D := D) (ci := 6) (v := .ref hs) (C := RX6) (T := TX6) (N := 24) hx hb hts hi6 hown hK.1 hP 0 rfl rfl 5 (by decide) wf19 (fun _ h9 => h9) rfl dX6_woolSize_1 ?_
  refine lv_iload_n hx hb dX6_woolSize_4 rfl (lv_at hl 1 rfl) ?_
  refine lv_iconst (v := 0) hx hb dX6_woolSize_5 (by decide) ?_
  refine wt_rS (As := [.ref hs, .int (nI j), .int 0]) (rest := []) ⟨hx, hb, hml, hown, hts⟩ (c_X6_of_k5 l D cI cZ cH hs R T f j (by first | assumption | omega) (by first | assumption | omega) (by first | assumption | omega) (by first | assumption | omega) (by first | assumption | omega)) (va_cwS 3 hts gX6_woolSize_X6_of rfl rfl rfl (by decide +kernel) ⟨Nat.le_of_ble_eq_true rfl, Nat.le_of_ble_eq_true rfl⟩) hK hP [1] rfl rfl hl.1 rfl (Nat.le_of_ble_eq_true rfl) dX6_woolSize_6 ⟨Nat.le_of_ble_eq_true rfl, Nat.le_of_ble_eq_true rfl⟩ (fun r_1 e_2 => ?_)
  subst e_2
  refine lv_iconst (v := 5) hx hb dX6_woolSize_9 (by decide) ?_
  refine lv_icmp_ne (tgt := 17) hx hb dX6_woolSize_10 (by decide) (fun h => absurd h (by decide)) (fun _ => ?_)
  refine lv_iconst (v := 1) hx hb dX6_woolSize_13 (by decide) ?_
  refine lv_goto (tgt := 18) hx hb dX6_woolSize_14 (by decide) ?_
  refine lv_istore_n (lv' := [(2, .int 1), (0, .ref md), (1, .int (nI j))]) hx hb dX6_woolSize_18 rfl hl (by decide) rfl (fun ls hl => ?_)
  refine lv_iload_n hx hb dX6_woolSize_19 rfl (lv_at hl 0 rfl) ?_
  refine lv_if_eq (tgt := 29) hx hb dX6_woolSize_20 (by decide) (fun h => absurd h (by decide)) (fun _ => ?_)
  refine lv_aload_n hx hb dX6_woolSize_23 rfl (lv_at hl 1 rfl) ?_
  refine lv_bipush (v := 14) hx hb dX6_woolSize_24 (by decide) ?_
  refine wt_goV (wr := [(hs, .inl (cI, 45, .inl f))]) (wt_runV (As := [.int 14]) (rest := []) ⟨hx, hb, hml, hown, hts⟩ (c_X6_began_x l D cI cZ cH md tc kn cf 14 vm_0 vm_1 vm_2 vm_3 vm_4 (.ref hs) vm_6 vm_7 vm_8 vm_9 vm_10 vm_11 vm_12 vm_13 vm_14 vm_15 vm_16 vm_17 vm_18 vm_19 vm_20 vm_21 (by first | assumption | omega)) (cwV 1 hts gX6_woolSize_X6_began rfl rfl rfl (by decide +kernel) ⟨Nat.le_of_ble_eq_true rfl, Nat.le_of_ble_eq_true rfl⟩) hK hP hD [0, 2] rfl (by decide) (va_recv hK.1 hP (ci := 6) (q0 := 0) rfl rfl) rfl hl.1 rfl (Nat.le_of_ble_eq_true rfl) dX6_woolSize_26 ⟨Nat.le_of_ble_eq_true rfl, Nat.le_of_ble_eq_true rfl⟩) hP hD hS hA [0, 2] [1] rfl rfl (by decide) (by decide) (fun w_4 H locs h_5 hP hD hS => ?_)
  obtain rfl := h_5
  have hP : va_P D vwCl [(hs, .inl (cI, 45, .inl f)), (md, .inr (6, [vm_0, vm_1, vm_2, vm_3, vm_4, .ref hs, vm_6, vm_7, vm_8, vm_9, vm_10, vm_11, vm_12, vm_13, vm_14, vm_15, vm_16, vm_17, vm_18, vm_19, vm_20, vm_21, .ref tc, .int (nI (kn + 1))])), (tc, .inl (cI, 16, .inl (upd cf kn 14)))] H := hP
  have hD : va_D A [(hs, .inl (cI, 45, .inl f)), (md, .inr (6, [vm_0, vm_1, vm_2, vm_3, vm_4, .ref hs, vm_6, vm_7, vm_8, vm_9, vm_10, vm_11, vm_12, vm_13, vm_14, vm_15, vm_16, vm_17, vm_18, vm_19, vm_20, vm_21, .ref tc, .int (nI (kn + 1))])), (tc, .inl (cI, 16, .inl (upd cf kn 14)))] := hD
  refine lv_aload_n hx hb dX6_woolSize_29 rfl (lv_at hl 1 rfl) ?_
  refine lv_bipush (v := 13) hx hb dX6_woolSize_30 (by decide) ?_
  refine wt_goV (wr := [(hs, .inl (cI, 45, .inl f))]) (wt_runV (As := [.int 13]) (rest := []) ⟨hx, hb, hml, hown, hts⟩ (c_X6_began_x l D cI cZ cH md tc (kn + 1) (upd cf kn 14) 13 vm_0 vm_1 vm_2 vm_3 vm_4 (.ref hs) vm_6 vm_7 vm_8 vm_9 vm_10 vm_11 vm_12 vm_13 vm_14 vm_15 vm_16 vm_17 vm_18 vm_19 vm_20 vm_21 (by first | assumption | omega)) (cwV 1 hts gX6_woolSize_X6_began rfl rfl rfl (by decide +kernel) ⟨Nat.le_of_ble_eq_true rfl, Nat.le_of_ble_eq_true rfl⟩) hK hP hD [1, 2] rfl (by decide) (va_recv hK.1 hP (ci := 6) (q0 := 1) rfl rfl) rfl hl.1 rfl (Nat.le_of_ble_eq_true rfl) dX6_woolSize_32 ⟨Nat.le_of_ble_eq_true rfl, Nat.le_of_ble_eq_true rfl⟩) hP hD hS hA [1, 2] [0] rfl rfl (by decide) (by decide) (fun w_7 H locs h_8 hP hD hS => ?_)
  obtain rfl := h_8
  have hP : va_P D vwCl [(hs, .inl (cI, 45, .inl f)), (md, .inr (6, [vm_0, vm_1, vm_2, vm_3, vm_4, .ref hs, vm_6, vm_7, vm_8, vm_9, vm_10, vm_11, vm_12, vm_13, vm_14, vm_15, vm_16, vm_17, vm_18, vm_19, vm_20, vm_21, .ref tc, .int (nI ((kn + 1) + 1))])), (tc, .inl (cI, 16, .inl (upd (upd cf kn 14) (kn + 1) 13)))] H := hP
  have hD : va_D A [(hs, .inl (cI, 45, .inl f)), (md, .inr (6, [vm_0, vm_1, vm_2, vm_3, vm_4, .ref hs, vm_6, vm_7, vm_8, vm_9, vm_10, vm_11, vm_12, vm_13, vm_14, vm_15, vm_16, vm_17, vm_18, vm_19, vm_20, vm_21, .ref tc, .int (nI ((kn + 1) + 1))])), (tc, .inl (cI, 16, .inl (upd (upd cf kn 14) (kn + 1) 13)))] := hD
  refine lv_aload_n hx hb dX6_woolSize_35 rfl (lv_at hl 1 rfl) ?_
  refine lv_iload_n hx hb dX6_woolSize_36 rfl (lv_at hl 2 rfl) ?_
  refine wt_goI (wr := []) (wt_runV (As := [.int (nI j)]) (rest := []) ⟨hx, hb, hml, hown, hts⟩ (c_X6_plainSize_s0 l D cI cZ cH md hs R T f tc ((kn + 1) + 1) (upd (upd cf kn 14) (kn + 1) 13) j vm_0 vm_1 vm_2 vm_3 vm_4 vm_6 vm_7 vm_8 vm_9 vm_10 vm_11 vm_12 vm_13 vm_14 vm_15 vm_16 vm_17 vm_18 vm_19 vm_20 vm_21 (by first | assumption | omega) (by first | assumption | omega) (by first | assumption | omega) (by first | assumption | omega) (by first | assumption | omega)) (cwV 1 hts gX6_woolSize_X6_plainSize rfl rfl rfl (by decide +kernel) ⟨Nat.le_of_ble_eq_true rfl, Nat.le_of_ble_eq_true rfl⟩) hK hP hD [1, 0, 2] rfl (by decide) (va_recv hK.1 hP (ci := 6) (q0 := 1) rfl rfl) rfl hl.1 rfl (Nat.le_of_ble_eq_true rfl) dX6_woolSize_37 ⟨Nat.le_of_ble_eq_true rfl, Nat.le_of_ble_eq_true rfl⟩) hP hD hS hA [1, 0, 2] [] rfl rfl (by decide) (by decide) (fun r_9 w_10 H locs h_11 hP hD hS => ?_)
  obtain rfl := h_11
  have hP : va_P D vwCl [(md, .inr (6, [vm_0, vm_1, vm_2, vm_3, vm_4, .ref hs, vm_6, vm_7, vm_8, vm_9, vm_10, vm_11, vm_12, vm_13, vm_14, vm_15, vm_16, vm_17, vm_18, vm_19, vm_20, vm_21, .ref tc, .int (nI (((kn + 1) + 1) + 1))])), (hs, .inl (cI, 45, .inl f)), (tc, .inl (cI, 16, .inl (apL [10] ((kn + 1) + 1) (upd (upd cf kn 14) (kn + 1) 13))))] H := hP
  have hD : va_D A [(md, .inr (6, [vm_0, vm_1, vm_2, vm_3, vm_4, .ref hs, vm_6, vm_7, vm_8, vm_9, vm_10, vm_11, vm_12, vm_13, vm_14, vm_15, vm_16, vm_17, vm_18, vm_19, vm_20, vm_21, .ref tc, .int (nI (((kn + 1) + 1) + 1))])), (hs, .inl (cI, 45, .inl f)), (tc, .inl (cI, 16, .inl (apL [10] ((kn + 1) + 1) (upd (upd cf kn 14) (kn + 1) 13))))] := hD
  refine lv_bipush (v := 100) hx hb dX6_woolSize_40 (by decide) ?_
  refine lv_isub hx hb dX6_woolSize_42 ?_
  refine lv_topi (fun ov_12 _ => ?_)
  refine lv_istore_n (lv' := [(3, .int ov_12), (2, .int 1), (0, .ref md), (1, .int (nI j))]) hx hb dX6_woolSize_43 rfl hl (by decide) rfl (fun ls hl => ?_)
  refine lv_iload_n hx hb dX6_woolSize_44 rfl (lv_at hl 1 rfl) ?_
  refine lv_if_eq (tgt := 54) hx hb dX6_woolSize_45 (by decide) (fun h => absurd h (by decide)) (fun _ => ?_)
  refine lv_iconst (v := 2) hx hb dX6_woolSize_48 (by decide) ?_
  refine lv_iload_n hx hb dX6_woolSize_49 rfl (lv_at hl 0 rfl) ?_
  refine lv_imul hx hb dX6_woolSize_50 ?_
  refine lv_topi (fun ov_13 _ => ?_)
  refine lv_goto (tgt := 55) hx hb dX6_woolSize_51 (by decide) ?_
  have hP9 := hP.sub (ws' := [(md, .inr (6, [vm_0, vm_1, vm_2, vm_3, vm_4, .ref hs, vm_6, vm_7, vm_8, vm_9, vm_10, vm_11, vm_12, vm_13, vm_14, vm_15, vm_16, vm_17, vm_18, vm_19, vm_20, vm_21, .ref tc, .int (nI (((kn + 1) + 1) + 1))])), (hs, .inl (cI, 45, .inl f)), (tc, .inl (cI, 16, .inl (apL [10] ((kn + 1) + 1) (upd (upd cf kn 14) (kn + 1) 13))))]) [0, 1, 2] rfl
  have hD9 := hD.sub (ws' := [(md, .inr (6, [vm_0, vm_1, vm_2, vm_3, vm_4, .ref hs, vm_6, vm_7, vm_8, vm_9, vm_10, vm_11, vm_12, vm_13, vm_14, vm_15, vm_16, vm_17, vm_18, vm_19, vm_20, vm_21, .ref tc, .int (nI (((kn + 1) + 1) + 1))])), (hs, .inl (cI, 45, .inl f)), (tc, .inl (cI, 16, .inl (apL [10] ((kn + 1) + 1) (upd (upd cf kn 14) (kn + 1) 13))))]) [0, 1, 2] (by decide) rfl
  exact wt_iret hx hb hr hlocks hP9 hD9 hS rfl dX6_woolSize_55
set_option maxHeartbeats 4000000 in
set_option maxRecDepth 100000 in
theorem c_X6_markOf_s1 (l : Launch) (D : va_G) (cI cZ cH : ClassId) (md hs : Nat) (R T : Nat) (f : Nat → Int32) (tc kn : Nat) (cf : Nat → Int32) (j : Nat) (vm_0 vm_1 vm_2 vm_3 vm_4 vm_6 vm_7 vm_8 vm_9 vm_10 vm_11 vm_12 vm_13 vm_14 vm_15 vm_16 vm_17 vm_18 vm_19 vm_20 vm_21 : Value) (hR5 : R ≤ 5) (hT6 : T ≤ 6) (hrk : rk R T f) (hj6 : j < 6) (hkn : kn + 2 ≤ 16) (hks : f (15 + 5 * j) = 1) : wt_M l yX6_markOf wsX6_markOf ({ frames := 1, cells := 0, slots := 0, locals := 22 } : Room) D (wt_T cI cZ cH) [.ref md, .int (nI j)] [(md, .inr (6, [vm_0, vm_1, vm_2, vm_3, vm_4, .ref hs, vm_6, vm_7, vm_8, vm_9, vm_10, vm_11, vm_12, vm_13, vm_14, vm_15, vm_16, vm_17, vm_18, vm_19, vm_20, vm_21, .ref tc, .int (nI kn)])), (hs, .inl (cI, 45, .inl f)), (tc, .inl (cI, 16, .inl cf))] (wt_QI D (fun r w => w = [(md, .inr (6, [vm_0, vm_1, vm_2, vm_3, vm_4, .ref hs, vm_6, vm_7, vm_8, vm_9, vm_10, vm_11, vm_12, vm_13, vm_14, vm_15, vm_16, vm_17, vm_18, vm_19, vm_20, vm_21, .ref tc, .int (nI (kn + 2))])), (hs, .inl (cI, 45, .inl f)), (tc, .inl (cI, 16, .inl (apL [21, 20] kn cf)))])) := by
  refine wt_M.ofW (cc := cX6_markOf) (maxL := 4) (ret := (some .int)) (by decide) rfl (Nat.le_of_ble_eq_true rfl) ?_
  intro p e s m below meth c A ls hx hb hr hts hown hlocks hml hnm hP hK hD hA hS hl
  have hP : va_P D vwCl [(md, .inr (6, [vm_0, vm_1, vm_2, vm_3, vm_4, .ref hs, vm_6, vm_7, vm_8, vm_9, vm_10, vm_11, vm_12, vm_13, vm_14, vm_15, vm_16, vm_17, vm_18, vm_19, vm_20, vm_21, .ref tc, .int (nI kn)])), (hs, .inl (cI, 45, .inl f)), (tc, .inl (cI, 16, .inl cf))] s.heap := hP
  have hown : s.vm.findClass RX6 = some m.cls := hown
  have hl : lv_has ls 4 [(0, .ref md), (1, .int (nI j))] := hl
  have hi6 : ∀ w ∈ u_ws RX6 TX6 24, w ∈ wsX6_markOf := by decide +kernel
  have wf19 := hts (.fieldLink RX6 19 "WarmTubesModel" "house" "[I") (by decide +kernel)
  refine lv_aload_n hx hb dX6_markOf_0 rfl (lv_at hl 0 rfl) ?_
  refine va_get (D := D) (ci := 6) (v := .ref hs) (C := RX6) (T := TX6) (N := 24) hx hb hts hi6 hown hK.1 hP 0 rfl rfl 5 (by decide) wf19 (fun _ h9 => h9) rfl dX6_markOf_1 ?_
  refine lv_iload_n hx hb dX6_markOf_4 rfl (lv_at hl 1 rfl) ?_
  refine lv_iconst (v := 0) hx hb dX6_markOf_5 (by decide) ?_
  refine wt_rS (As := [.ref hs, .int (nI j), .int 0]) (rest := []) ⟨hx, hb, hml, hown, hts⟩ (c_X6_of_k1 l D cI cZ cH hs R T f j (by first | assumption | omega) (by first | assumption | omega) (by first | assumption | omega) (by first | assumption | omega) (by first | assumption | omega)) (va_cwS 3 hts gX6_markOf_X6_of rfl rfl rfl (by decide +kernel) ⟨Nat.le_of_ble_eq_true rfl, Nat.le_of_ble_eq_true rfl⟩) hK hP [1] rfl rfl hl.1 rfl (Nat.le_of_ble_eq_true rfl) dX6_markOf_6 ⟨Nat.le_of_ble_eq_true rfl, Nat.le_of_ble_eq_true rfl⟩ (fun r_1 e_2 => ?_)
  subst e_2
  refine lv_istore_n (lv' := [(2, .int 1), (0, .ref md), (1, .int (nI j))]) hx hb dX6_markOf_9 rfl hl (by decide) rfl (fun ls hl => ?_)
  refine lv_iload_n hx hb dX6_markOf_10 rfl (lv_at hl 0 rfl) ?_
  refine lv_iconst (v := 4) hx hb dX6_markOf_11 (by decide) ?_
  refine lv_icmp_lt (tgt := 35) hx hb dX6_markOf_12 (by decide) (fun _ => ?_) (fun h => absurd h (by decide))
  refine lv_iload_n hx hb dX6_markOf_35 rfl (lv_at hl 0 rfl) ?_
  refine lv_iconst (v := 1) hx hb dX6_markOf_36 (by decide) ?_
  refine lv_icmp_eq (tgt := 56) hx hb dX6_markOf_37 (by decide) (fun _ => ?_) (fun h => absurd h (by decide))
  refine lv_aload_n hx hb dX6_markOf_56 rfl (lv_at hl 1 rfl) ?_
  refine lv_bipush (v := 21) hx hb dX6_markOf_57 (by decide) ?_
  refine wt_goV (wr := [(hs, .inl (cI, 45, .inl f))]) (wt_runV (As := [.int 21]) (rest := []) ⟨hx, hb, hml, hown, hts⟩ (c_X6_began_x l D cI cZ cH md tc kn cf 21 vm_0 vm_1 vm_2 vm_3 vm_4 (.ref hs) vm_6 vm_7 vm_8 vm_9 vm_10 vm_11 vm_12 vm_13 vm_14 vm_15 vm_16 vm_17 vm_18 vm_19 vm_20 vm_21 (by first | assumption | omega)) (cwV 1 hts gX6_markOf_X6_began rfl rfl rfl (by decide +kernel) ⟨Nat.le_of_ble_eq_true rfl, Nat.le_of_ble_eq_true rfl⟩) hK hP hD [0, 2] rfl (by decide) (va_recv hK.1 hP (ci := 6) (q0 := 0) rfl rfl) rfl hl.1 rfl (Nat.le_of_ble_eq_true rfl) dX6_markOf_59 ⟨Nat.le_of_ble_eq_true rfl, Nat.le_of_ble_eq_true rfl⟩) hP hD hS hA [0, 2] [1] rfl rfl (by decide) (by decide) (fun w_4 H locs h_5 hP hD hS => ?_)
  obtain rfl := h_5
  have hP : va_P D vwCl [(hs, .inl (cI, 45, .inl f)), (md, .inr (6, [vm_0, vm_1, vm_2, vm_3, vm_4, .ref hs, vm_6, vm_7, vm_8, vm_9, vm_10, vm_11, vm_12, vm_13, vm_14, vm_15, vm_16, vm_17, vm_18, vm_19, vm_20, vm_21, .ref tc, .int (nI (kn + 1))])), (tc, .inl (cI, 16, .inl (upd cf kn 21)))] H := hP
  have hD : va_D A [(hs, .inl (cI, 45, .inl f)), (md, .inr (6, [vm_0, vm_1, vm_2, vm_3, vm_4, .ref hs, vm_6, vm_7, vm_8, vm_9, vm_10, vm_11, vm_12, vm_13, vm_14, vm_15, vm_16, vm_17, vm_18, vm_19, vm_20, vm_21, .ref tc, .int (nI (kn + 1))])), (tc, .inl (cI, 16, .inl (upd cf kn 21)))] := hD
  refine lv_aload_n hx hb dX6_markOf_62 rfl (lv_at hl 1 rfl) ?_
  refine lv_bipush (v := 20) hx hb dX6_markOf_63 (by decide) ?_
  refine wt_goV (wr := [(hs, .inl (cI, 45, .inl f))]) (wt_runV (As := [.int 20]) (rest := []) ⟨hx, hb, hml, hown, hts⟩ (c_X6_began_x l D cI cZ cH md tc (kn + 1) (upd cf kn 21) 20 vm_0 vm_1 vm_2 vm_3 vm_4 (.ref hs) vm_6 vm_7 vm_8 vm_9 vm_10 vm_11 vm_12 vm_13 vm_14 vm_15 vm_16 vm_17 vm_18 vm_19 vm_20 vm_21 (by first | assumption | omega)) (cwV 1 hts gX6_markOf_X6_began rfl rfl rfl (by decide +kernel) ⟨Nat.le_of_ble_eq_true rfl, Nat.le_of_ble_eq_true rfl⟩) hK hP hD [1, 2] rfl (by decide) (va_recv hK.1 hP (ci := 6) (q0 := 1) rfl rfl) rfl hl.1 rfl (Nat.le_of_ble_eq_true rfl) dX6_markOf_65 ⟨Nat.le_of_ble_eq_true rfl, Nat.le_of_ble_eq_true rfl⟩) hP hD hS hA [1, 2] [0] rfl rfl (by decide) (by decide) (fun w_7 H locs h_8 hP hD hS => ?_)
  obtain rfl := h_8
  have hP : va_P D vwCl [(hs, .inl (cI, 45, .inl f)), (md, .inr (6, [vm_0, vm_1, vm_2, vm_3, vm_4, .ref hs, vm_6, vm_7, vm_8, vm_9, vm_10, vm_11, vm_12, vm_13, vm_14, vm_15, vm_16, vm_17, vm_18, vm_19, vm_20, vm_21, .ref tc, .int (nI ((kn + 1) + 1))])), (tc, .inl (cI, 16, .inl (upd (upd cf kn 21) (kn + 1) 20)))] H := hP
  have hD : va_D A [(hs, .inl (cI, 45, .inl f)), (md, .inr (6, [vm_0, vm_1, vm_2, vm_3, vm_4, .ref hs, vm_6, vm_7, vm_8, vm_9, vm_10, vm_11, vm_12, vm_13, vm_14, vm_15, vm_16, vm_17, vm_18, vm_19, vm_20, vm_21, .ref tc, .int (nI ((kn + 1) + 1))])), (tc, .inl (cI, 16, .inl (upd (upd cf kn 21) (kn + 1) 20)))] := hD
  refine lv_iload_n hx hb dX6_markOf_68 rfl (lv_at hl 2 rfl) ?_
  refine lv_aload_n hx hb dX6_markOf_69 rfl (lv_at hl 1 rfl) ?_
  refine va_get (D := D) (ci := 6) (v := .ref hs) (C := RX6) (T := TX6) (N := 24) hx hb hts hi6 hown hK.1 hP 1 rfl rfl 5 (by decide) wf19 (fun _ h9 => h9) rfl dX6_markOf_70 ?_
  refine lv_iload_n hx hb dX6_markOf_73 rfl (lv_at hl 2 rfl) ?_
  refine lv_iconst (v := 4) hx hb dX6_markOf_74 (by decide) ?_
  refine wt_rS (As := [.ref hs, .int (nI j), .int 4]) (rest := [.int (nI j)]) ⟨hx, hb, hml, hown, hts⟩ (c_X6_of_w l D cI cZ cH hs R T f j 4 (by first | assumption | omega) (by first | assumption | omega) (by first | assumption | omega) (by first | assumption | omega) (by first | assumption | omega)) (va_cwS 3 hts gX6_markOf_X6_of rfl rfl rfl (by decide +kernel) ⟨Nat.le_of_ble_eq_true rfl, Nat.le_of_ble_eq_true rfl⟩) hK hP [0] rfl rfl hl.1 rfl (Nat.le_of_ble_eq_true rfl) dX6_markOf_75 ⟨Nat.le_of_ble_eq_true rfl, Nat.le_of_ble_eq_true rfl⟩ (fun r_9 e_10 => ?_)
  refine lv_iadd hx hb dX6_markOf_78 ?_
  refine lv_topi (fun ov_11 _ => ?_)
  refine lv_istore_n (lv' := [(3, .int ov_11), (2, .int 1), (0, .ref md), (1, .int (nI j))]) hx hb dX6_markOf_79 rfl hl (by decide) rfl (fun ls hl => ?_)
  refine lv_iload_n hx hb dX6_markOf_80 rfl (lv_at hl 1 rfl) ?_
  refine lv_iconst (v := 1) hx hb dX6_markOf_81 (by decide) ?_
  refine lv_icmp_ne (tgt := 89) hx hb dX6_markOf_82 (by decide) (fun h => absurd h (by decide)) (fun _ => ?_)
  refine lv_iload_n hx hb dX6_markOf_85 rfl (lv_at hl 0 rfl) ?_
  refine lv_goto (tgt := 105) hx hb dX6_markOf_86 (by decide) ?_
  have hP9 := hP.sub (ws' := [(md, .inr (6, [vm_0, vm_1, vm_2, vm_3, vm_4, .ref hs, vm_6, vm_7, vm_8, vm_9, vm_10, vm_11, vm_12, vm_13, vm_14, vm_15, vm_16, vm_17, vm_18, vm_19, vm_20, vm_21, .ref tc, .int (nI ((kn + 1) + 1))])), (hs, .inl (cI, 45, .inl f)), (tc, .inl (cI, 16, .inl (upd (upd cf kn 21) (kn + 1) 20)))]) [1, 0, 2] rfl
  have hD9 := hD.sub (ws' := [(md, .inr (6, [vm_0, vm_1, vm_2, vm_3, vm_4, .ref hs, vm_6, vm_7, vm_8, vm_9, vm_10, vm_11, vm_12, vm_13, vm_14, vm_15, vm_16, vm_17, vm_18, vm_19, vm_20, vm_21, .ref tc, .int (nI ((kn + 1) + 1))])), (hs, .inl (cI, 45, .inl f)), (tc, .inl (cI, 16, .inl (upd (upd cf kn 21) (kn + 1) 20)))]) [1, 0, 2] (by decide) rfl
  exact wt_iret hx hb hr hlocks hP9 hD9 hS rfl dX6_markOf_105
set_option maxHeartbeats 4000000 in
set_option maxRecDepth 100000 in
theorem c_X6_markOf_s2 (l : Launch) (D : va_G) (cI cZ cH : ClassId) (md hs : Nat) (R T : Nat) (f : Nat → Int32) (tc kn : Nat) (cf : Nat → Int32) (j : Nat) (vm_0 vm_1 vm_2 vm_3 vm_4 vm_6 vm_7 vm_8 vm_9 vm_10 vm_11 vm_12 vm_13 vm_14 vm_15 vm_16 vm_17 vm_18 vm_19 vm_20 vm_21 : Value) (hR5 : R ≤ 5) (hT6 : T ≤ 6) (hrk : rk R T f) (hj6 : j < 6) (hkn : kn + 3 ≤ 16) (hks : f (15 + 5 * j) = 2) : wt_M l yX6_markOf wsX6_markOf ({ frames := 1, cells := 0, slots := 0, locals := 22 } : Room) D (wt_T cI cZ cH) [.ref md, .int (nI j)] [(md, .inr (6, [vm_0, vm_1, vm_2, vm_3, vm_4, .ref hs, vm_6, vm_7, vm_8, vm_9, vm_10, vm_11, vm_12, vm_13, vm_14, vm_15, vm_16, vm_17, vm_18, vm_19, vm_20, vm_21, .ref tc, .int (nI kn)])), (hs, .inl (cI, 45, .inl f)), (tc, .inl (cI, 16, .inl cf))] (wt_QI D (fun r w => w = [(md, .inr (6, [vm_0, vm_1, vm_2, vm_3, vm_4, .ref hs, vm_6, vm_7, vm_8, vm_9, vm_10, vm_11, vm_12, vm_13, vm_14, vm_15, vm_16, vm_17, vm_18, vm_19, vm_20, vm_21, .ref tc, .int (nI (kn + 3))])), (hs, .inl (cI, 45, .inl f)), (tc, .inl (cI, 16, .inl (apL [24, 21, 20] kn cf)))])) := by
  refine wt_M.ofW (cc := cX6_markOf) (maxL := 4) (ret := (some .int)) (by decide) rfl (Nat.le_of_ble_eq_true rfl) ?_
  intro p e s m below meth c A ls hx hb hr hts hown hlocks hml hnm hP hK hD hA hS hl
  have hP : va_P D vwCl [(md, .inr (6, [vm_0, vm_1, vm_2, vm_3, vm_4, .ref hs, vm_6, vm_7, vm_8, vm_9, vm_10, vm_11, vm_12, vm_13, vm_14, vm_15, vm_16, vm_17, vm_18, vm_19, vm_20, vm_21, .ref tc, .int (nI kn)])), (hs, .inl (cI, 45, .inl f)), (tc, .inl (cI, 16, .inl cf))] s.heap := hP
  have hown : s.vm.findClass RX6 = some m.cls := hown
  have hl : lv_has ls 4 [(0, .ref md), (1, .int (nI j))] := hl
  have hi6 : ∀ w ∈ u_ws RX6 TX6 24, w ∈ wsX6_markOf := by decide +kernel
  have wf19 := hts (.fieldLink RX6 19 "WarmTubesModel" "house" "[I") (by decide +kernel)
  refine lv_aload_n hx hb dX6_markOf_0 rfl (lv_at hl 0 rfl) ?_
  refine va_get (D := D) (ci := 6) (v := .ref hs) (C := RX6) (T := TX6) (N := 24) hx hb hts hi6 hown hK.1 hP 0 rfl rfl 5 (by decide) wf19 (fun _ h9 => h9) rfl dX6_markOf_1 ?_
  refine lv_iload_n hx hb dX6_markOf_4 rfl (lv_at hl 1 rfl) ?_
  refine lv_iconst (v := 0) hx hb dX6_markOf_5 (by decide) ?_
  refine wt_rS (As := [.ref hs, .int (nI j), .int 0]) (rest := []) ⟨hx, hb, hml, hown, hts⟩ (c_X6_of_k2 l D cI cZ cH hs R T f j (by first | assumption | omega) (by first | assumption | omega) (by first | assumption | omega) (by first | assumption | omega) (by first | assumption | omega)) (va_cwS 3 hts gX6_markOf_X6_of rfl rfl rfl (by decide +kernel) ⟨Nat.le_of_ble_eq_true rfl, Nat.le_of_ble_eq_true rfl⟩) hK hP [1] rfl rfl hl.1 rfl (Nat.le_of_ble_eq_true rfl) dX6_markOf_6 ⟨Nat.le_of_ble_eq_true rfl, Nat.le_of_ble_eq_true rfl⟩ (fun r_1 e_2 => ?_)
  subst e_2
  refine lv_istore_n (lv' := [(2, .int 2), (0, .ref md), (1, .int (nI j))]) hx hb dX6_markOf_9 rfl hl (by decide) rfl (fun ls hl => ?_)
  refine lv_iload_n hx hb dX6_markOf_10 rfl (lv_at hl 0 rfl) ?_
  refine lv_iconst (v := 4) hx hb dX6_markOf_11 (by decide) ?_
  refine lv_icmp_lt (tgt := 35) hx hb dX6_markOf_12 (by decide) (fun _ => ?_) (fun h => absurd h (by decide))
  refine lv_iload_n hx hb dX6_markOf_35 rfl (lv_at hl 0 rfl) ?_
  refine lv_iconst (v := 1) hx hb dX6_markOf_36 (by decide) ?_
  refine lv_icmp_eq (tgt := 56) hx hb dX6_markOf_37 (by decide) (fun h => absurd h (by decide)) (fun _ => ?_)
  refine lv_aload_n hx hb dX6_markOf_40 rfl (lv_at hl 1 rfl) ?_
  refine lv_iload_n hx hb dX6_markOf_41 rfl (lv_at hl 0 rfl) ?_
  refine lv_iconst (v := 3) hx hb dX6_markOf_42 (by decide) ?_
  refine lv_icmp_ne (tgt := 51) hx hb dX6_markOf_43 (by decide) (fun _ => ?_) (fun h => absurd h (by decide))
  refine lv_bipush (v := 24) hx hb dX6_markOf_51 (by decide) ?_
  refine wt_goV (wr := [(hs, .inl (cI, 45, .inl f))]) (wt_runV (As := [.int 24]) (rest := []) ⟨hx, hb, hml, hown, hts⟩ (c_X6_began_x l D cI cZ cH md tc kn cf 24 vm_0 vm_1 vm_2 vm_3 vm_4 (.ref hs) vm_6 vm_7 vm_8 vm_9 vm_10 vm_11 vm_12 vm_13 vm_14 vm_15 vm_16 vm_17 vm_18 vm_19 vm_20 vm_21 (by first | assumption | omega)) (cwV 1 hts gX6_markOf_X6_began rfl rfl rfl (by decide +kernel) ⟨Nat.le_of_ble_eq_true rfl, Nat.le_of_ble_eq_true rfl⟩) hK hP hD [0, 2] rfl (by decide) (va_recv hK.1 hP (ci := 6) (q0 := 0) rfl rfl) rfl hl.1 rfl (Nat.le_of_ble_eq_true rfl) dX6_markOf_53 ⟨Nat.le_of_ble_eq_true rfl, Nat.le_of_ble_eq_true rfl⟩) hP hD hS hA [0, 2] [1] rfl rfl (by decide) (by decide) (fun w_4 H locs h_5 hP hD hS => ?_)
  obtain rfl := h_5
  have hP : va_P D vwCl [(hs, .inl (cI, 45, .inl f)), (md, .inr (6, [vm_0, vm_1, vm_2, vm_3, vm_4, .ref hs, vm_6, vm_7, vm_8, vm_9, vm_10, vm_11, vm_12, vm_13, vm_14, vm_15, vm_16, vm_17, vm_18, vm_19, vm_20, vm_21, .ref tc, .int (nI (kn + 1))])), (tc, .inl (cI, 16, .inl (upd cf kn 24)))] H := hP
  have hD : va_D A [(hs, .inl (cI, 45, .inl f)), (md, .inr (6, [vm_0, vm_1, vm_2, vm_3, vm_4, .ref hs, vm_6, vm_7, vm_8, vm_9, vm_10, vm_11, vm_12, vm_13, vm_14, vm_15, vm_16, vm_17, vm_18, vm_19, vm_20, vm_21, .ref tc, .int (nI (kn + 1))])), (tc, .inl (cI, 16, .inl (upd cf kn 24)))] := hD
  refine lv_aload_n hx hb dX6_markOf_56 rfl (lv_at hl 1 rfl) ?_
  refine lv_bipush (v := 21) hx hb dX6_markOf_57 (by decide) ?_
  refine wt_goV (wr := [(hs, .inl (cI, 45, .inl f))]) (wt_runV (As := [.int 21]) (rest := []) ⟨hx, hb, hml, hown, hts⟩ (c_X6_began_x l D cI cZ cH md tc (kn + 1) (upd cf kn 24) 21 vm_0 vm_1 vm_2 vm_3 vm_4 (.ref hs) vm_6 vm_7 vm_8 vm_9 vm_10 vm_11 vm_12 vm_13 vm_14 vm_15 vm_16 vm_17 vm_18 vm_19 vm_20 vm_21 (by first | assumption | omega)) (cwV 1 hts gX6_markOf_X6_began rfl rfl rfl (by decide +kernel) ⟨Nat.le_of_ble_eq_true rfl, Nat.le_of_ble_eq_true rfl⟩) hK hP hD [1, 2] rfl (by decide) (va_recv hK.1 hP (ci := 6) (q0 := 1) rfl rfl) rfl hl.1 rfl (Nat.le_of_ble_eq_true rfl) dX6_markOf_59 ⟨Nat.le_of_ble_eq_true rfl, Nat.le_of_ble_eq_true rfl⟩) hP hD hS hA [1, 2] [0] rfl rfl (by decide) (by decide) (fun w_7 H locs h_8 hP hD hS => ?_)
  obtain rfl := h_8
  have hP : va_P D vwCl [(hs, .inl (cI, 45, .inl f)), (md, .inr (6, [vm_0, vm_1, vm_2, vm_3, vm_4, .ref hs, vm_6, vm_7, vm_8, vm_9, vm_10, vm_11, vm_12, vm_13, vm_14, vm_15, vm_16, vm_17, vm_18, vm_19, vm_20, vm_21, .ref tc, .int (nI ((kn + 1) + 1))])), (tc, .inl (cI, 16, .inl (upd (upd cf kn 24) (kn + 1) 21)))] H := hP
  have hD : va_D A [(hs, .inl (cI, 45, .inl f)), (md, .inr (6, [vm_0, vm_1, vm_2, vm_3, vm_4, .ref hs, vm_6, vm_7, vm_8, vm_9, vm_10, vm_11, vm_12, vm_13, vm_14, vm_15, vm_16, vm_17, vm_18, vm_19, vm_20, vm_21, .ref tc, .int (nI ((kn + 1) + 1))])), (tc, .inl (cI, 16, .inl (upd (upd cf kn 24) (kn + 1) 21)))] := hD
  refine lv_aload_n hx hb dX6_markOf_62 rfl (lv_at hl 1 rfl) ?_
  refine lv_bipush (v := 20) hx hb dX6_markOf_63 (by decide) ?_
  refine wt_goV (wr := [(hs, .inl (cI, 45, .inl f))]) (wt_runV (As := [.int 20]) (rest := []) ⟨hx, hb, hml, hown, hts⟩ (c_X6_began_x l D cI cZ cH md tc ((kn + 1) + 1) (upd (upd cf kn 24) (kn + 1) 21) 20 vm_0 vm_1 vm_2 vm_3 vm_4 (.ref hs) vm_6 vm_7 vm_8 vm_9 vm_10 vm_11 vm_12 vm_13 vm_14 vm_15 vm_16 vm_17 vm_18 vm_19 vm_20 vm_21 (by first | assumption | omega)) (cwV 1 hts gX6_markOf_X6_began rfl rfl rfl (by decide +kernel) ⟨Nat.le_of_ble_eq_true rfl, Nat.le_of_ble_eq_true rfl⟩) hK hP hD [1, 2] rfl (by decide) (va_recv hK.1 hP (ci := 6) (q0 := 1) rfl rfl) rfl hl.1 rfl (Nat.le_of_ble_eq_true rfl) dX6_markOf_65 ⟨Nat.le_of_ble_eq_true rfl, Nat.le_of_ble_eq_true rfl⟩) hP hD hS hA [1, 2] [0] rfl rfl (by decide) (by decide) (fun w_10 H locs h_11 hP hD hS => ?_)
  obtain rfl := h_11
  have hP : va_P D vwCl [(hs, .inl (cI, 45, .inl f)), (md, .inr (6, [vm_0, vm_1, vm_2, vm_3, vm_4, .ref hs, vm_6, vm_7, vm_8, vm_9, vm_10, vm_11, vm_12, vm_13, vm_14, vm_15, vm_16, vm_17, vm_18, vm_19, vm_20, vm_21, .ref tc, .int (nI (((kn + 1) + 1) + 1))])), (tc, .inl (cI, 16, .inl (upd (upd (upd cf kn 24) (kn + 1) 21) ((kn + 1) + 1) 20)))] H := hP
  have hD : va_D A [(hs, .inl (cI, 45, .inl f)), (md, .inr (6, [vm_0, vm_1, vm_2, vm_3, vm_4, .ref hs, vm_6, vm_7, vm_8, vm_9, vm_10, vm_11, vm_12, vm_13, vm_14, vm_15, vm_16, vm_17, vm_18, vm_19, vm_20, vm_21, .ref tc, .int (nI (((kn + 1) + 1) + 1))])), (tc, .inl (cI, 16, .inl (upd (upd (upd cf kn 24) (kn + 1) 21) ((kn + 1) + 1) 20)))] := hD
  refine lv_iload_n hx hb dX6_markOf_68 rfl (lv_at hl 2 rfl) ?_
  refine lv_aload_n hx hb dX6_markOf_69 rfl (lv_at hl 1 rfl) ?_
  refine va_get (D := D) (ci := 6) (v := .ref hs) (C := RX6) (T := TX6) (N := 24) hx hb hts hi6 hown hK.1 hP 1 rfl rfl 5 (by decide) wf19 (fun _ h9 => h9) rfl dX6_markOf_70 ?_
  refine lv_iload_n hx hb dX6_markOf_73 rfl (lv_at hl 2 rfl) ?_
  refine lv_iconst (v := 4) hx hb dX6_markOf_74 (by decide) ?_
  refine wt_rS (As := [.ref hs, .int (nI j), .int 4]) (rest := [.int (nI j)]) ⟨hx, hb, hml, hown, hts⟩ (c_X6_of_w l D cI cZ cH hs R T f j 4 (by first | assumption | omega) (by first | assumption | omega) (by first | assumption | omega) (by first | assumption | omega) (by first | assumption | omega)) (va_cwS 3 hts gX6_markOf_X6_of rfl rfl rfl (by decide +kernel) ⟨Nat.le_of_ble_eq_true rfl, Nat.le_of_ble_eq_true rfl⟩) hK hP [0] rfl rfl hl.1 rfl (Nat.le_of_ble_eq_true rfl) dX6_markOf_75 ⟨Nat.le_of_ble_eq_true rfl, Nat.le_of_ble_eq_true rfl⟩ (fun r_12 e_13 => ?_)
  refine lv_iadd hx hb dX6_markOf_78 ?_
  refine lv_topi (fun ov_14 _ => ?_)
  refine lv_istore_n (lv' := [(3, .int ov_14), (2, .int 2), (0, .ref md), (1, .int (nI j))]) hx hb dX6_markOf_79 rfl hl (by decide) rfl (fun ls hl => ?_)
  refine lv_iload_n hx hb dX6_markOf_80 rfl (lv_at hl 1 rfl) ?_
  refine lv_iconst (v := 1) hx hb dX6_markOf_81 (by decide) ?_
  refine lv_icmp_ne (tgt := 89) hx hb dX6_markOf_82 (by decide) (fun _ => ?_) (fun h => absurd h (by decide))
  refine lv_iload_n hx hb dX6_markOf_89 rfl (lv_at hl 1 rfl) ?_
  refine lv_iconst (v := 3) hx hb dX6_markOf_90 (by decide) ?_
  refine lv_icmp_ne (tgt := 102) hx hb dX6_markOf_91 (by decide) (fun _ => ?_) (fun h => absurd h (by decide))
  refine lv_iconst (v := 2) hx hb dX6_markOf_102 (by decide) ?_
  refine lv_iload_n hx hb dX6_markOf_103 rfl (lv_at hl 0 rfl) ?_
  refine lv_imul hx hb dX6_markOf_104 ?_
  refine lv_topi (fun ov_15 _ => ?_)
  have hP9 := hP.sub (ws' := [(md, .inr (6, [vm_0, vm_1, vm_2, vm_3, vm_4, .ref hs, vm_6, vm_7, vm_8, vm_9, vm_10, vm_11, vm_12, vm_13, vm_14, vm_15, vm_16, vm_17, vm_18, vm_19, vm_20, vm_21, .ref tc, .int (nI (((kn + 1) + 1) + 1))])), (hs, .inl (cI, 45, .inl f)), (tc, .inl (cI, 16, .inl (upd (upd (upd cf kn 24) (kn + 1) 21) ((kn + 1) + 1) 20)))]) [1, 0, 2] rfl
  have hD9 := hD.sub (ws' := [(md, .inr (6, [vm_0, vm_1, vm_2, vm_3, vm_4, .ref hs, vm_6, vm_7, vm_8, vm_9, vm_10, vm_11, vm_12, vm_13, vm_14, vm_15, vm_16, vm_17, vm_18, vm_19, vm_20, vm_21, .ref tc, .int (nI (((kn + 1) + 1) + 1))])), (hs, .inl (cI, 45, .inl f)), (tc, .inl (cI, 16, .inl (upd (upd (upd cf kn 24) (kn + 1) 21) ((kn + 1) + 1) 20)))]) [1, 0, 2] (by decide) rfl
  exact wt_iret hx hb hr hlocks hP9 hD9 hS rfl dX6_markOf_105
set_option maxHeartbeats 4000000 in
set_option maxRecDepth 100000 in
theorem c_X6_markOf_s3 (l : Launch) (D : va_G) (cI cZ cH : ClassId) (md hs : Nat) (R T : Nat) (f : Nat → Int32) (tc kn : Nat) (cf : Nat → Int32) (j : Nat) (vm_0 vm_1 vm_2 vm_3 vm_4 vm_6 vm_7 vm_8 vm_9 vm_10 vm_11 vm_12 vm_13 vm_14 vm_15 vm_16 vm_17 vm_18 vm_19 vm_20 vm_21 : Value) (hR5 : R ≤ 5) (hT6 : T ≤ 6) (hrk : rk R T f) (hj6 : j < 6) (hkn : kn + 3 ≤ 16) (hks : f (15 + 5 * j) = 3) : wt_M l yX6_markOf wsX6_markOf ({ frames := 1, cells := 0, slots := 0, locals := 22 } : Room) D (wt_T cI cZ cH) [.ref md, .int (nI j)] [(md, .inr (6, [vm_0, vm_1, vm_2, vm_3, vm_4, .ref hs, vm_6, vm_7, vm_8, vm_9, vm_10, vm_11, vm_12, vm_13, vm_14, vm_15, vm_16, vm_17, vm_18, vm_19, vm_20, vm_21, .ref tc, .int (nI kn)])), (hs, .inl (cI, 45, .inl f)), (tc, .inl (cI, 16, .inl cf))] (wt_QI D (fun r w => w = [(md, .inr (6, [vm_0, vm_1, vm_2, vm_3, vm_4, .ref hs, vm_6, vm_7, vm_8, vm_9, vm_10, vm_11, vm_12, vm_13, vm_14, vm_15, vm_16, vm_17, vm_18, vm_19, vm_20, vm_21, .ref tc, .int (nI (kn + 3))])), (hs, .inl (cI, 45, .inl f)), (tc, .inl (cI, 16, .inl (apL [22, 21, 20] kn cf)))])) := by
  refine wt_M.ofW (cc := cX6_markOf) (maxL := 4) (ret := (some .int)) (by decide) rfl (Nat.le_of_ble_eq_true rfl) ?_
  intro p e s m below meth c A ls hx hb hr hts hown hlocks hml hnm hP hK hD hA hS hl
  have hP : va_P D vwCl [(md, .inr (6, [vm_0, vm_1, vm_2, vm_3, vm_4, .ref hs, vm_6, vm_7, vm_8, vm_9, vm_10, vm_11, vm_12, vm_13, vm_14, vm_15, vm_16, vm_17, vm_18, vm_19, vm_20, vm_21, .ref tc, .int (nI kn)])), (hs, .inl (cI, 45, .inl f)), (tc, .inl (cI, 16, .inl cf))] s.heap := hP
  have hown : s.vm.findClass RX6 = some m.cls := hown
  have hl : lv_has ls 4 [(0, .ref md), (1, .int (nI j))] := hl
  have hi6 : ∀ w ∈ u_ws RX6 TX6 24, w ∈ wsX6_markOf := by decide +kernel
  have wf19 := hts (.fieldLink RX6 19 "WarmTubesModel" "house" "[I") (by decide +kernel)
  refine lv_aload_n hx hb dX6_markOf_0 rfl (lv_at hl 0 rfl) ?_
  refine va_get (D := D) (ci := 6) (v := .ref hs) (C := RX6) (T := TX6) (N := 24) hx hb hts hi6 hown hK.1 hP 0 rfl rfl 5 (by decide) wf19 (fun _ h9 => h9) rfl dX6_markOf_1 ?_
  refine lv_iload_n hx hb dX6_markOf_4 rfl (lv_at hl 1 rfl) ?_
  refine lv_iconst (v := 0) hx hb dX6_markOf_5 (by decide) ?_
  refine wt_rS (As := [.ref hs, .int (nI j), .int 0]) (rest := []) ⟨hx, hb, hml, hown, hts⟩ (c_X6_of_k3 l D cI cZ cH hs R T f j (by first | assumption | omega) (by first | assumption | omega) (by first | assumption | omega) (by first | assumption | omega) (by first | assumption | omega)) (va_cwS 3 hts gX6_markOf_X6_of rfl rfl rfl (by decide +kernel) ⟨Nat.le_of_ble_eq_true rfl, Nat.le_of_ble_eq_true rfl⟩) hK hP [1] rfl rfl hl.1 rfl (Nat.le_of_ble_eq_true rfl) dX6_markOf_6 ⟨Nat.le_of_ble_eq_true rfl, Nat.le_of_ble_eq_true rfl⟩ (fun r_1 e_2 => ?_)
  subst e_2
  refine lv_istore_n (lv' := [(2, .int 3), (0, .ref md), (1, .int (nI j))]) hx hb dX6_markOf_9 rfl hl (by decide) rfl (fun ls hl => ?_)
  refine lv_iload_n hx hb dX6_markOf_10 rfl (lv_at hl 0 rfl) ?_
  refine lv_iconst (v := 4) hx hb dX6_markOf_11 (by decide) ?_
  refine lv_icmp_lt (tgt := 35) hx hb dX6_markOf_12 (by decide) (fun _ => ?_) (fun h => absurd h (by decide))
  refine lv_iload_n hx hb dX6_markOf_35 rfl (lv_at hl 0 rfl) ?_
  refine lv_iconst (v := 1) hx hb dX6_markOf_36 (by decide) ?_
  refine lv_icmp_eq (tgt := 56) hx hb dX6_markOf_37 (by decide) (fun h => absurd h (by decide)) (fun _ => ?_)
  refine lv_aload_n hx hb dX6_markOf_40 rfl (lv_at hl 1 rfl) ?_
  refine lv_iload_n hx hb dX6_markOf_41 rfl (lv_at hl 0 rfl) ?_
  refine lv_iconst (v := 3) hx hb dX6_markOf_42 (by decide) ?_
  refine lv_icmp_ne (tgt := 51) hx hb dX6_markOf_43 (by decide) (fun h => absurd h (by decide)) (fun _ => ?_)
  refine lv_bipush (v := 22) hx hb dX6_markOf_46 (by decide) ?_
  refine lv_goto (tgt := 53) hx hb dX6_markOf_48 (by decide) ?_
  refine wt_goV (wr := [(hs, .inl (cI, 45, .inl f))]) (wt_runV (As := [.int 22]) (rest := []) ⟨hx, hb, hml, hown, hts⟩ (c_X6_began_x l D cI cZ cH md tc kn cf 22 vm_0 vm_1 vm_2 vm_3 vm_4 (.ref hs) vm_6 vm_7 vm_8 vm_9 vm_10 vm_11 vm_12 vm_13 vm_14 vm_15 vm_16 vm_17 vm_18 vm_19 vm_20 vm_21 (by first | assumption | omega)) (cwV 1 hts gX6_markOf_X6_began rfl rfl rfl (by decide +kernel) ⟨Nat.le_of_ble_eq_true rfl, Nat.le_of_ble_eq_true rfl⟩) hK hP hD [0, 2] rfl (by decide) (va_recv hK.1 hP (ci := 6) (q0 := 0) rfl rfl) rfl hl.1 rfl (Nat.le_of_ble_eq_true rfl) dX6_markOf_53 ⟨Nat.le_of_ble_eq_true rfl, Nat.le_of_ble_eq_true rfl⟩) hP hD hS hA [0, 2] [1] rfl rfl (by decide) (by decide) (fun w_4 H locs h_5 hP hD hS => ?_)
  obtain rfl := h_5
  have hP : va_P D vwCl [(hs, .inl (cI, 45, .inl f)), (md, .inr (6, [vm_0, vm_1, vm_2, vm_3, vm_4, .ref hs, vm_6, vm_7, vm_8, vm_9, vm_10, vm_11, vm_12, vm_13, vm_14, vm_15, vm_16, vm_17, vm_18, vm_19, vm_20, vm_21, .ref tc, .int (nI (kn + 1))])), (tc, .inl (cI, 16, .inl (upd cf kn 22)))] H := hP
  have hD : va_D A [(hs, .inl (cI, 45, .inl f)), (md, .inr (6, [vm_0, vm_1, vm_2, vm_3, vm_4, .ref hs, vm_6, vm_7, vm_8, vm_9, vm_10, vm_11, vm_12, vm_13, vm_14, vm_15, vm_16, vm_17, vm_18, vm_19, vm_20, vm_21, .ref tc, .int (nI (kn + 1))])), (tc, .inl (cI, 16, .inl (upd cf kn 22)))] := hD
  refine lv_aload_n hx hb dX6_markOf_56 rfl (lv_at hl 1 rfl) ?_
  refine lv_bipush (v := 21) hx hb dX6_markOf_57 (by decide) ?_
  refine wt_goV (wr := [(hs, .inl (cI, 45, .inl f))]) (wt_runV (As := [.int 21]) (rest := []) ⟨hx, hb, hml, hown, hts⟩ (c_X6_began_x l D cI cZ cH md tc (kn + 1) (upd cf kn 22) 21 vm_0 vm_1 vm_2 vm_3 vm_4 (.ref hs) vm_6 vm_7 vm_8 vm_9 vm_10 vm_11 vm_12 vm_13 vm_14 vm_15 vm_16 vm_17 vm_18 vm_19 vm_20 vm_21 (by first | assumption | omega)) (cwV 1 hts gX6_markOf_X6_began rfl rfl rfl (by decide +kernel) ⟨Nat.le_of_ble_eq_true rfl, Nat.le_of_ble_eq_true rfl⟩) hK hP hD [1, 2] rfl (by decide) (va_recv hK.1 hP (ci := 6) (q0 := 1) rfl rfl) rfl hl.1 rfl (Nat.le_of_ble_eq_true rfl) dX6_markOf_59 ⟨Nat.le_of_ble_eq_true rfl, Nat.le_of_ble_eq_true rfl⟩) hP hD hS hA [1, 2] [0] rfl rfl (by decide) (by decide) (fun w_7 H locs h_8 hP hD hS => ?_)
  obtain rfl := h_8
  have hP : va_P D vwCl [(hs, .inl (cI, 45, .inl f)), (md, .inr (6, [vm_0, vm_1, vm_2, vm_3, vm_4, .ref hs, vm_6, vm_7, vm_8, vm_9, vm_10, vm_11, vm_12, vm_13, vm_14, vm_15, vm_16, vm_17, vm_18, vm_19, vm_20, vm_21, .ref tc, .int (nI ((kn + 1) + 1))])), (tc, .inl (cI, 16, .inl (upd (upd cf kn 22) (kn + 1) 21)))] H := hP
  have hD : va_D A [(hs, .inl (cI, 45, .inl f)), (md, .inr (6, [vm_0, vm_1, vm_2, vm_3, vm_4, .ref hs, vm_6, vm_7, vm_8, vm_9, vm_10, vm_11, vm_12, vm_13, vm_14, vm_15, vm_16, vm_17, vm_18, vm_19, vm_20, vm_21, .ref tc, .int (nI ((kn + 1) + 1))])), (tc, .inl (cI, 16, .inl (upd (upd cf kn 22) (kn + 1) 21)))] := hD
  refine lv_aload_n hx hb dX6_markOf_62 rfl (lv_at hl 1 rfl) ?_
  refine lv_bipush (v := 20) hx hb dX6_markOf_63 (by decide) ?_
  refine wt_goV (wr := [(hs, .inl (cI, 45, .inl f))]) (wt_runV (As := [.int 20]) (rest := []) ⟨hx, hb, hml, hown, hts⟩ (c_X6_began_x l D cI cZ cH md tc ((kn + 1) + 1) (upd (upd cf kn 22) (kn + 1) 21) 20 vm_0 vm_1 vm_2 vm_3 vm_4 (.ref hs) vm_6 vm_7 vm_8 vm_9 vm_10 vm_11 vm_12 vm_13 vm_14 vm_15 vm_16 vm_17 vm_18 vm_19 vm_20 vm_21 (by first | assumption | omega)) (cwV 1 hts gX6_markOf_X6_began rfl rfl rfl (by decide +kernel) ⟨Nat.le_of_ble_eq_true rfl, Nat.le_of_ble_eq_true rfl⟩) hK hP hD [1, 2] rfl (by decide) (va_recv hK.1 hP (ci := 6) (q0 := 1) rfl rfl) rfl hl.1 rfl (Nat.le_of_ble_eq_true rfl) dX6_markOf_65 ⟨Nat.le_of_ble_eq_true rfl, Nat.le_of_ble_eq_true rfl⟩) hP hD hS hA [1, 2] [0] rfl rfl (by decide) (by decide) (fun w_10 H locs h_11 hP hD hS => ?_)
  obtain rfl := h_11
  have hP : va_P D vwCl [(hs, .inl (cI, 45, .inl f)), (md, .inr (6, [vm_0, vm_1, vm_2, vm_3, vm_4, .ref hs, vm_6, vm_7, vm_8, vm_9, vm_10, vm_11, vm_12, vm_13, vm_14, vm_15, vm_16, vm_17, vm_18, vm_19, vm_20, vm_21, .ref tc, .int (nI (((kn + 1) + 1) + 1))])), (tc, .inl (cI, 16, .inl (upd (upd (upd cf kn 22) (kn + 1) 21) ((kn + 1) + 1) 20)))] H := hP
  have hD : va_D A [(hs, .inl (cI, 45, .inl f)), (md, .inr (6, [vm_0, vm_1, vm_2, vm_3, vm_4, .ref hs, vm_6, vm_7, vm_8, vm_9, vm_10, vm_11, vm_12, vm_13, vm_14, vm_15, vm_16, vm_17, vm_18, vm_19, vm_20, vm_21, .ref tc, .int (nI (((kn + 1) + 1) + 1))])), (tc, .inl (cI, 16, .inl (upd (upd (upd cf kn 22) (kn + 1) 21) ((kn + 1) + 1) 20)))] := hD
  refine lv_iload_n hx hb dX6_markOf_68 rfl (lv_at hl 2 rfl) ?_
  refine lv_aload_n hx hb dX6_markOf_69 rfl (lv_at hl 1 rfl) ?_
  refine va_get (D := D) (ci := 6) (v := .ref hs) (C := RX6) (T := TX6) (N := 24) hx hb hts hi6 hown hK.1 hP 1 rfl rfl 5 (by decide) wf19 (fun _ h9 => h9) rfl dX6_markOf_70 ?_
  refine lv_iload_n hx hb dX6_markOf_73 rfl (lv_at hl 2 rfl) ?_
  refine lv_iconst (v := 4) hx hb dX6_markOf_74 (by decide) ?_
  refine wt_rS (As := [.ref hs, .int (nI j), .int 4]) (rest := [.int (nI j)]) ⟨hx, hb, hml, hown, hts⟩ (c_X6_of_w l D cI cZ cH hs R T f j 4 (by first | assumption | omega) (by first | assumption | omega) (by first | assumption | omega) (by first | assumption | omega) (by first | assumption | omega)) (va_cwS 3 hts gX6_markOf_X6_of rfl rfl rfl (by decide +kernel) ⟨Nat.le_of_ble_eq_true rfl, Nat.le_of_ble_eq_true rfl⟩) hK hP [0] rfl rfl hl.1 rfl (Nat.le_of_ble_eq_true rfl) dX6_markOf_75 ⟨Nat.le_of_ble_eq_true rfl, Nat.le_of_ble_eq_true rfl⟩ (fun r_12 e_13 => ?_)
  refine lv_iadd hx hb dX6_markOf_78 ?_
  refine lv_topi (fun ov_14 _ => ?_)
  refine lv_istore_n (lv' := [(3, .int ov_14), (2, .int 3), (0, .ref md), (1, .int (nI j))]) hx hb dX6_markOf_79 rfl hl (by decide) rfl (fun ls hl => ?_)
  refine lv_iload_n hx hb dX6_markOf_80 rfl (lv_at hl 1 rfl) ?_
  refine lv_iconst (v := 1) hx hb dX6_markOf_81 (by decide) ?_
  refine lv_icmp_ne (tgt := 89) hx hb dX6_markOf_82 (by decide) (fun _ => ?_) (fun h => absurd h (by decide))
  refine lv_iload_n hx hb dX6_markOf_89 rfl (lv_at hl 1 rfl) ?_
  refine lv_iconst (v := 3) hx hb dX6_markOf_90 (by decide) ?_
  refine lv_icmp_ne (tgt := 102) hx hb dX6_markOf_91 (by decide) (fun h => absurd h (by decide)) (fun _ => ?_)
  refine lv_iload_n hx hb dX6_markOf_94 rfl (lv_at hl 0 rfl) ?_
  refine lv_sipush (v := 1000) hx hb dX6_markOf_95 (by decide) ?_
  refine lv_isub hx hb dX6_markOf_98 ?_
  refine lv_topi (fun ov_15 _ => ?_)
  refine lv_goto (tgt := 105) hx hb dX6_markOf_99 (by decide) ?_
  have hP9 := hP.sub (ws' := [(md, .inr (6, [vm_0, vm_1, vm_2, vm_3, vm_4, .ref hs, vm_6, vm_7, vm_8, vm_9, vm_10, vm_11, vm_12, vm_13, vm_14, vm_15, vm_16, vm_17, vm_18, vm_19, vm_20, vm_21, .ref tc, .int (nI (((kn + 1) + 1) + 1))])), (hs, .inl (cI, 45, .inl f)), (tc, .inl (cI, 16, .inl (upd (upd (upd cf kn 22) (kn + 1) 21) ((kn + 1) + 1) 20)))]) [1, 0, 2] rfl
  have hD9 := hD.sub (ws' := [(md, .inr (6, [vm_0, vm_1, vm_2, vm_3, vm_4, .ref hs, vm_6, vm_7, vm_8, vm_9, vm_10, vm_11, vm_12, vm_13, vm_14, vm_15, vm_16, vm_17, vm_18, vm_19, vm_20, vm_21, .ref tc, .int (nI (((kn + 1) + 1) + 1))])), (hs, .inl (cI, 45, .inl f)), (tc, .inl (cI, 16, .inl (upd (upd (upd cf kn 22) (kn + 1) 21) ((kn + 1) + 1) 20)))]) [1, 0, 2] (by decide) rfl
  exact wt_iret hx hb hr hlocks hP9 hD9 hS rfl dX6_markOf_105
set_option maxHeartbeats 4000000 in
set_option maxRecDepth 100000 in
theorem c_X6_markOf_s4 (l : Launch) (D : va_G) (cI cZ cH : ClassId) (md hs : Nat) (R T : Nat) (f : Nat → Int32) (tc kn : Nat) (cf : Nat → Int32) (j : Nat) (vm_0 vm_1 vm_2 vm_3 vm_4 vm_6 vm_7 vm_8 vm_9 vm_10 vm_11 vm_12 vm_13 vm_14 vm_15 vm_16 vm_17 vm_18 vm_19 vm_20 vm_21 : Value) (hR5 : R ≤ 5) (hT6 : T ≤ 6) (hrk : rk R T f) (hj6 : j < 6) (hkn : kn + 4 ≤ 16) (hks : f (15 + 5 * j) = 4) : wt_M l yX6_markOf wsX6_markOf ({ frames := 3, cells := 0, slots := 0, locals := 66 } : Room) D (wt_T cI cZ cH) [.ref md, .int (nI j)] [(md, .inr (6, [vm_0, vm_1, vm_2, vm_3, vm_4, .ref hs, vm_6, vm_7, vm_8, vm_9, vm_10, vm_11, vm_12, vm_13, vm_14, vm_15, vm_16, vm_17, vm_18, vm_19, vm_20, vm_21, .ref tc, .int (nI kn)])), (hs, .inl (cI, 45, .inl f)), (tc, .inl (cI, 16, .inl cf))] (wt_QI D (fun r w => w = [(md, .inr (6, [vm_0, vm_1, vm_2, vm_3, vm_4, .ref hs, vm_6, vm_7, vm_8, vm_9, vm_10, vm_11, vm_12, vm_13, vm_14, vm_15, vm_16, vm_17, vm_18, vm_19, vm_20, vm_21, .ref tc, .int (nI (kn + 4))])), (hs, .inl (cI, 45, .inl f)), (tc, .inl (cI, 16, .inl (apL [23, 20, 13, 10] kn cf)))])) := by
  refine wt_M.ofW (cc := cX6_markOf) (maxL := 4) (ret := (some .int)) (by decide) rfl (Nat.le_of_ble_eq_true rfl) ?_
  intro p e s m below meth c A ls hx hb hr hts hown hlocks hml hnm hP hK hD hA hS hl
  have hP : va_P D vwCl [(md, .inr (6, [vm_0, vm_1, vm_2, vm_3, vm_4, .ref hs, vm_6, vm_7, vm_8, vm_9, vm_10, vm_11, vm_12, vm_13, vm_14, vm_15, vm_16, vm_17, vm_18, vm_19, vm_20, vm_21, .ref tc, .int (nI kn)])), (hs, .inl (cI, 45, .inl f)), (tc, .inl (cI, 16, .inl cf))] s.heap := hP
  have hown : s.vm.findClass RX6 = some m.cls := hown
  have hl : lv_has ls 4 [(0, .ref md), (1, .int (nI j))] := hl
  have hi6 : ∀ w ∈ u_ws RX6 TX6 24, w ∈ wsX6_markOf := by decide +kernel
  have wf19 := hts (.fieldLink RX6 19 "WarmTubesModel" "house" "[I") (by decide +kernel)
  refine lv_aload_n hx hb dX6_markOf_0 rfl (lv_at hl 0 rfl) ?_
  refine va_get (D := D) (ci := 6) (v := .ref hs) (C := RX6) (T := TX6) (N := 24) hx hb hts hi6 hown hK.1 hP 0 rfl rfl 5 (by decide) wf19 (fun _ h9 => h9) rfl dX6_markOf_1 ?_
  refine lv_iload_n hx hb dX6_markOf_4 rfl (lv_at hl 1 rfl) ?_
  refine lv_iconst (v := 0) hx hb dX6_markOf_5 (by decide) ?_
  refine wt_rS (As := [.ref hs, .int (nI j), .int 0]) (rest := []) ⟨hx, hb, hml, hown, hts⟩ (c_X6_of_k4 l D cI cZ cH hs R T f j (by first | assumption | omega) (by first | assumption | omega) (by first | assumption | omega) (by first | assumption | omega) (by first | assumption | omega)) (va_cwS 3 hts gX6_markOf_X6_of rfl rfl rfl (by decide +kernel) ⟨Nat.le_of_ble_eq_true rfl, Nat.le_of_ble_eq_true rfl⟩) hK hP [1] rfl rfl hl.1 rfl (Nat.le_of_ble_eq_true rfl) dX6_markOf_6 ⟨Nat.le_of_ble_eq_true rfl, Nat.le_of_ble_eq_true rfl⟩ (fun r_1 e_2 => ?_)
  subst e_2
  refine lv_istore_n (lv' := [(2, .int 4), (0, .ref md), (1, .int (nI j))]) hx hb dX6_markOf_9 rfl hl (by decide) rfl (fun ls hl => ?_)
  refine lv_iload_n hx hb dX6_markOf_10 rfl (lv_at hl 0 rfl) ?_
  refine lv_iconst (v := 4) hx hb dX6_markOf_11 (by decide) ?_
  refine lv_icmp_lt (tgt := 35) hx hb dX6_markOf_12 (by decide) (fun h => absurd h (by decide)) (fun _ => ?_)
  refine lv_aload_n hx hb dX6_markOf_15 rfl (lv_at hl 1 rfl) ?_
  refine lv_bipush (v := 23) hx hb dX6_markOf_16 (by decide) ?_
  refine wt_goV (wr := [(hs, .inl (cI, 45, .inl f))]) (wt_runV (As := [.int 23]) (rest := []) ⟨hx, hb, hml, hown, hts⟩ (c_X6_began_x l D cI cZ cH md tc kn cf 23 vm_0 vm_1 vm_2 vm_3 vm_4 (.ref hs) vm_6 vm_7 vm_8 vm_9 vm_10 vm_11 vm_12 vm_13 vm_14 vm_15 vm_16 vm_17 vm_18 vm_19 vm_20 vm_21 (by first | assumption | omega)) (cwV 1 hts gX6_markOf_X6_began rfl rfl rfl (by decide +kernel) ⟨Nat.le_of_ble_eq_true rfl, Nat.le_of_ble_eq_true rfl⟩) hK hP hD [0, 2] rfl (by decide) (va_recv hK.1 hP (ci := 6) (q0 := 0) rfl rfl) rfl hl.1 rfl (Nat.le_of_ble_eq_true rfl) dX6_markOf_18 ⟨Nat.le_of_ble_eq_true rfl, Nat.le_of_ble_eq_true rfl⟩) hP hD hS hA [0, 2] [1] rfl rfl (by decide) (by decide) (fun w_4 H locs h_5 hP hD hS => ?_)
  obtain rfl := h_5
  have hP : va_P D vwCl [(hs, .inl (cI, 45, .inl f)), (md, .inr (6, [vm_0, vm_1, vm_2, vm_3, vm_4, .ref hs, vm_6, vm_7, vm_8, vm_9, vm_10, vm_11, vm_12, vm_13, vm_14, vm_15, vm_16, vm_17, vm_18, vm_19, vm_20, vm_21, .ref tc, .int (nI (kn + 1))])), (tc, .inl (cI, 16, .inl (upd cf kn 23)))] H := hP
  have hD : va_D A [(hs, .inl (cI, 45, .inl f)), (md, .inr (6, [vm_0, vm_1, vm_2, vm_3, vm_4, .ref hs, vm_6, vm_7, vm_8, vm_9, vm_10, vm_11, vm_12, vm_13, vm_14, vm_15, vm_16, vm_17, vm_18, vm_19, vm_20, vm_21, .ref tc, .int (nI (kn + 1))])), (tc, .inl (cI, 16, .inl (upd cf kn 23)))] := hD
  refine lv_aload_n hx hb dX6_markOf_21 rfl (lv_at hl 1 rfl) ?_
  refine lv_bipush (v := 20) hx hb dX6_markOf_22 (by decide) ?_
  refine wt_goV (wr := [(hs, .inl (cI, 45, .inl f))]) (wt_runV (As := [.int 20]) (rest := []) ⟨hx, hb, hml, hown, hts⟩ (c_X6_began_x l D cI cZ cH md tc (kn + 1) (upd cf kn 23) 20 vm_0 vm_1 vm_2 vm_3 vm_4 (.ref hs) vm_6 vm_7 vm_8 vm_9 vm_10 vm_11 vm_12 vm_13 vm_14 vm_15 vm_16 vm_17 vm_18 vm_19 vm_20 vm_21 (by first | assumption | omega)) (cwV 1 hts gX6_markOf_X6_began rfl rfl rfl (by decide +kernel) ⟨Nat.le_of_ble_eq_true rfl, Nat.le_of_ble_eq_true rfl⟩) hK hP hD [1, 2] rfl (by decide) (va_recv hK.1 hP (ci := 6) (q0 := 1) rfl rfl) rfl hl.1 rfl (Nat.le_of_ble_eq_true rfl) dX6_markOf_24 ⟨Nat.le_of_ble_eq_true rfl, Nat.le_of_ble_eq_true rfl⟩) hP hD hS hA [1, 2] [0] rfl rfl (by decide) (by decide) (fun w_7 H locs h_8 hP hD hS => ?_)
  obtain rfl := h_8
  have hP : va_P D vwCl [(hs, .inl (cI, 45, .inl f)), (md, .inr (6, [vm_0, vm_1, vm_2, vm_3, vm_4, .ref hs, vm_6, vm_7, vm_8, vm_9, vm_10, vm_11, vm_12, vm_13, vm_14, vm_15, vm_16, vm_17, vm_18, vm_19, vm_20, vm_21, .ref tc, .int (nI ((kn + 1) + 1))])), (tc, .inl (cI, 16, .inl (upd (upd cf kn 23) (kn + 1) 20)))] H := hP
  have hD : va_D A [(hs, .inl (cI, 45, .inl f)), (md, .inr (6, [vm_0, vm_1, vm_2, vm_3, vm_4, .ref hs, vm_6, vm_7, vm_8, vm_9, vm_10, vm_11, vm_12, vm_13, vm_14, vm_15, vm_16, vm_17, vm_18, vm_19, vm_20, vm_21, .ref tc, .int (nI ((kn + 1) + 1))])), (tc, .inl (cI, 16, .inl (upd (upd cf kn 23) (kn + 1) 20)))] := hD
  refine lv_iload_n hx hb dX6_markOf_27 rfl (lv_at hl 2 rfl) ?_
  refine lv_aload_n hx hb dX6_markOf_28 rfl (lv_at hl 1 rfl) ?_
  refine lv_iload_n hx hb dX6_markOf_29 rfl (lv_at hl 2 rfl) ?_
  refine wt_goI (wr := []) (wt_runV (As := [.int (nI j)]) (rest := [.int (nI j)]) ⟨hx, hb, hml, hown, hts⟩ (c_X6_woolSize_s4 l D cI cZ cH md hs R T f tc ((kn + 1) + 1) (upd (upd cf kn 23) (kn + 1) 20) j vm_0 vm_1 vm_2 vm_3 vm_4 vm_6 vm_7 vm_8 vm_9 vm_10 vm_11 vm_12 vm_13 vm_14 vm_15 vm_16 vm_17 vm_18 vm_19 vm_20 vm_21 (by first | assumption | omega) (by first | assumption | omega) (by first | assumption | omega) (by first | assumption | omega) (by first | assumption | omega) (by first | assumption | omega)) (cwV 1 hts gX6_markOf_X6_woolSize rfl rfl rfl (by decide +kernel) ⟨Nat.le_of_ble_eq_true rfl, Nat.le_of_ble_eq_true rfl⟩) hK hP hD [1, 0, 2] rfl (by decide) (va_recv hK.1 hP (ci := 6) (q0 := 1) rfl rfl) rfl hl.1 rfl (Nat.le_of_ble_eq_true rfl) dX6_markOf_30 ⟨Nat.le_of_ble_eq_true rfl, Nat.le_of_ble_eq_true rfl⟩) hP hD hS hA [1, 0, 2] [] rfl rfl (by decide) (by decide) (fun r_9 w_10 H locs h_11 hP hD hS => ?_)
  obtain rfl := h_11
  have hP : va_P D vwCl [(md, .inr (6, [vm_0, vm_1, vm_2, vm_3, vm_4, .ref hs, vm_6, vm_7, vm_8, vm_9, vm_10, vm_11, vm_12, vm_13, vm_14, vm_15, vm_16, vm_17, vm_18, vm_19, vm_20, vm_21, .ref tc, .int (nI (((kn + 1) + 1) + 2))])), (hs, .inl (cI, 45, .inl f)), (tc, .inl (cI, 16, .inl (apL [13, 10] ((kn + 1) + 1) (upd (upd cf kn 23) (kn + 1) 20))))] H := hP
  have hD : va_D A [(md, .inr (6, [vm_0, vm_1, vm_2, vm_3, vm_4, .ref hs, vm_6, vm_7, vm_8, vm_9, vm_10, vm_11, vm_12, vm_13, vm_14, vm_15, vm_16, vm_17, vm_18, vm_19, vm_20, vm_21, .ref tc, .int (nI (((kn + 1) + 1) + 2))])), (hs, .inl (cI, 45, .inl f)), (tc, .inl (cI, 16, .inl (apL [13, 10] ((kn + 1) + 1) (upd (upd cf kn 23) (kn + 1) 20))))] := hD
  refine lv_isub hx hb dX6_markOf_33 ?_
  refine lv_topi (fun ov_12 _ => ?_)
  have hP9 := hP.sub (ws' := [(md, .inr (6, [vm_0, vm_1, vm_2, vm_3, vm_4, .ref hs, vm_6, vm_7, vm_8, vm_9, vm_10, vm_11, vm_12, vm_13, vm_14, vm_15, vm_16, vm_17, vm_18, vm_19, vm_20, vm_21, .ref tc, .int (nI (((kn + 1) + 1) + 2))])), (hs, .inl (cI, 45, .inl f)), (tc, .inl (cI, 16, .inl (apL [13, 10] ((kn + 1) + 1) (upd (upd cf kn 23) (kn + 1) 20))))]) [0, 1, 2] rfl
  have hD9 := hD.sub (ws' := [(md, .inr (6, [vm_0, vm_1, vm_2, vm_3, vm_4, .ref hs, vm_6, vm_7, vm_8, vm_9, vm_10, vm_11, vm_12, vm_13, vm_14, vm_15, vm_16, vm_17, vm_18, vm_19, vm_20, vm_21, .ref tc, .int (nI (((kn + 1) + 1) + 2))])), (hs, .inl (cI, 45, .inl f)), (tc, .inl (cI, 16, .inl (apL [13, 10] ((kn + 1) + 1) (upd (upd cf kn 23) (kn + 1) 20))))]) [0, 1, 2] (by decide) rfl
  exact wt_iret hx hb hr hlocks hP9 hD9 hS rfl dX6_markOf_34
set_option maxHeartbeats 4000000 in
set_option maxRecDepth 100000 in
theorem c_X6_markOf_s5 (l : Launch) (D : va_G) (cI cZ cH : ClassId) (md hs : Nat) (R T : Nat) (f : Nat → Int32) (tc kn : Nat) (cf : Nat → Int32) (j : Nat) (vm_0 vm_1 vm_2 vm_3 vm_4 vm_6 vm_7 vm_8 vm_9 vm_10 vm_11 vm_12 vm_13 vm_14 vm_15 vm_16 vm_17 vm_18 vm_19 vm_20 vm_21 : Value) (hR5 : R ≤ 5) (hT6 : T ≤ 6) (hrk : rk R T f) (hj6 : j < 6) (hkn : kn + 5 ≤ 16) (hks : f (15 + 5 * j) = 5) : wt_M l yX6_markOf wsX6_markOf ({ frames := 3, cells := 0, slots := 0, locals := 66 } : Room) D (wt_T cI cZ cH) [.ref md, .int (nI j)] [(md, .inr (6, [vm_0, vm_1, vm_2, vm_3, vm_4, .ref hs, vm_6, vm_7, vm_8, vm_9, vm_10, vm_11, vm_12, vm_13, vm_14, vm_15, vm_16, vm_17, vm_18, vm_19, vm_20, vm_21, .ref tc, .int (nI kn)])), (hs, .inl (cI, 45, .inl f)), (tc, .inl (cI, 16, .inl cf))] (wt_QI D (fun r w => w = [(md, .inr (6, [vm_0, vm_1, vm_2, vm_3, vm_4, .ref hs, vm_6, vm_7, vm_8, vm_9, vm_10, vm_11, vm_12, vm_13, vm_14, vm_15, vm_16, vm_17, vm_18, vm_19, vm_20, vm_21, .ref tc, .int (nI (kn + 5))])), (hs, .inl (cI, 45, .inl f)), (tc, .inl (cI, 16, .inl (apL [23, 20, 14, 13, 10] kn cf)))])) := by
  refine wt_M.ofW (cc := cX6_markOf) (maxL := 4) (ret := (some .int)) (by decide) rfl (Nat.le_of_ble_eq_true rfl) ?_
  intro p e s m below meth c A ls hx hb hr hts hown hlocks hml hnm hP hK hD hA hS hl
  have hP : va_P D vwCl [(md, .inr (6, [vm_0, vm_1, vm_2, vm_3, vm_4, .ref hs, vm_6, vm_7, vm_8, vm_9, vm_10, vm_11, vm_12, vm_13, vm_14, vm_15, vm_16, vm_17, vm_18, vm_19, vm_20, vm_21, .ref tc, .int (nI kn)])), (hs, .inl (cI, 45, .inl f)), (tc, .inl (cI, 16, .inl cf))] s.heap := hP
  have hown : s.vm.findClass RX6 = some m.cls := hown
  have hl : lv_has ls 4 [(0, .ref md), (1, .int (nI j))] := hl
  have hi6 : ∀ w ∈ u_ws RX6 TX6 24, w ∈ wsX6_markOf := by decide +kernel
  have wf19 := hts (.fieldLink RX6 19 "WarmTubesModel" "house" "[I") (by decide +kernel)
  refine lv_aload_n hx hb dX6_markOf_0 rfl (lv_at hl 0 rfl) ?_
  refine va_get (D := D) (ci := 6) (v := .ref hs) (C := RX6) (T := TX6) (N := 24) hx hb hts hi6 hown hK.1 hP 0 rfl rfl 5 (by decide) wf19 (fun _ h9 => h9) rfl dX6_markOf_1 ?_
  refine lv_iload_n hx hb dX6_markOf_4 rfl (lv_at hl 1 rfl) ?_
  refine lv_iconst (v := 0) hx hb dX6_markOf_5 (by decide) ?_
  refine wt_rS (As := [.ref hs, .int (nI j), .int 0]) (rest := []) ⟨hx, hb, hml, hown, hts⟩ (c_X6_of_k5 l D cI cZ cH hs R T f j (by first | assumption | omega) (by first | assumption | omega) (by first | assumption | omega) (by first | assumption | omega) (by first | assumption | omega)) (va_cwS 3 hts gX6_markOf_X6_of rfl rfl rfl (by decide +kernel) ⟨Nat.le_of_ble_eq_true rfl, Nat.le_of_ble_eq_true rfl⟩) hK hP [1] rfl rfl hl.1 rfl (Nat.le_of_ble_eq_true rfl) dX6_markOf_6 ⟨Nat.le_of_ble_eq_true rfl, Nat.le_of_ble_eq_true rfl⟩ (fun r_1 e_2 => ?_)
  subst e_2
  refine lv_istore_n (lv' := [(2, .int 5), (0, .ref md), (1, .int (nI j))]) hx hb dX6_markOf_9 rfl hl (by decide) rfl (fun ls hl => ?_)
  refine lv_iload_n hx hb dX6_markOf_10 rfl (lv_at hl 0 rfl) ?_
  refine lv_iconst (v := 4) hx hb dX6_markOf_11 (by decide) ?_
  refine lv_icmp_lt (tgt := 35) hx hb dX6_markOf_12 (by decide) (fun h => absurd h (by decide)) (fun _ => ?_)
  refine lv_aload_n hx hb dX6_markOf_15 rfl (lv_at hl 1 rfl) ?_
  refine lv_bipush (v := 23) hx hb dX6_markOf_16 (by decide) ?_
  refine wt_goV (wr := [(hs, .inl (cI, 45, .inl f))]) (wt_runV (As := [.int 23]) (rest := []) ⟨hx, hb, hml, hown, hts⟩ (c_X6_began_x l D cI cZ cH md tc kn cf 23 vm_0 vm_1 vm_2 vm_3 vm_4 (.ref hs) vm_6 vm_7 vm_8 vm_9 vm_10 vm_11 vm_12 vm_13 vm_14 vm_15 vm_16 vm_17 vm_18 vm_19 vm_20 vm_21 (by first | assumption | omega)) (cwV 1 hts gX6_markOf_X6_began rfl rfl rfl (by decide +kernel) ⟨Nat.le_of_ble_eq_true rfl, Nat.le_of_ble_eq_true rfl⟩) hK hP hD [0, 2] rfl (by decide) (va_recv hK.1 hP (ci := 6) (q0 := 0) rfl rfl) rfl hl.1 rfl (Nat.le_of_ble_eq_true rfl) dX6_markOf_18 ⟨Nat.le_of_ble_eq_true rfl, Nat.le_of_ble_eq_true rfl⟩) hP hD hS hA [0, 2] [1] rfl rfl (by decide) (by decide) (fun w_4 H locs h_5 hP hD hS => ?_)
  obtain rfl := h_5
  have hP : va_P D vwCl [(hs, .inl (cI, 45, .inl f)), (md, .inr (6, [vm_0, vm_1, vm_2, vm_3, vm_4, .ref hs, vm_6, vm_7, vm_8, vm_9, vm_10, vm_11, vm_12, vm_13, vm_14, vm_15, vm_16, vm_17, vm_18, vm_19, vm_20, vm_21, .ref tc, .int (nI (kn + 1))])), (tc, .inl (cI, 16, .inl (upd cf kn 23)))] H := hP
  have hD : va_D A [(hs, .inl (cI, 45, .inl f)), (md, .inr (6, [vm_0, vm_1, vm_2, vm_3, vm_4, .ref hs, vm_6, vm_7, vm_8, vm_9, vm_10, vm_11, vm_12, vm_13, vm_14, vm_15, vm_16, vm_17, vm_18, vm_19, vm_20, vm_21, .ref tc, .int (nI (kn + 1))])), (tc, .inl (cI, 16, .inl (upd cf kn 23)))] := hD
  refine lv_aload_n hx hb dX6_markOf_21 rfl (lv_at hl 1 rfl) ?_
  refine lv_bipush (v := 20) hx hb dX6_markOf_22 (by decide) ?_
  refine wt_goV (wr := [(hs, .inl (cI, 45, .inl f))]) (wt_runV (As := [.int 20]) (rest := []) ⟨hx, hb, hml, hown, hts⟩ (c_X6_began_x l D cI cZ cH md tc (kn + 1) (upd cf kn 23) 20 vm_0 vm_1 vm_2 vm_3 vm_4 (.ref hs) vm_6 vm_7 vm_8 vm_9 vm_10 vm_11 vm_12 vm_13 vm_14 vm_15 vm_16 vm_17 vm_18 vm_19 vm_20 vm_21 (by first | assumption | omega)) (cwV 1 hts gX6_markOf_X6_began rfl rfl rfl (by decide +kernel) ⟨Nat.le_of_ble_eq_true rfl, Nat.le_of_ble_eq_true rfl⟩) hK hP hD [1, 2] rfl (by decide) (va_recv hK.1 hP (ci := 6) (q0 := 1) rfl rfl) rfl hl.1 rfl (Nat.le_of_ble_eq_true rfl) dX6_markOf_24 ⟨Nat.le_of_ble_eq_true rfl, Nat.le_of_ble_eq_true rfl⟩) hP hD hS hA [1, 2] [0] rfl rfl (by decide) (by decide) (fun w_7 H locs h_8 hP hD hS => ?_)
  obtain rfl := h_8
  have hP : va_P D vwCl [(hs, .inl (cI, 45, .inl f)), (md, .inr (6, [vm_0, vm_1, vm_2, vm_3, vm_4, .ref hs, vm_6, vm_7, vm_8, vm_9, vm_10, vm_11, vm_12, vm_13, vm_14, vm_15, vm_16, vm_17, vm_18, vm_19, vm_20, vm_21, .ref tc, .int (nI ((kn + 1) + 1))])), (tc, .inl (cI, 16, .inl (upd (upd cf kn 23) (kn + 1) 20)))] H := hP
  have hD : va_D A [(hs, .inl (cI, 45, .inl f)), (md, .inr (6, [vm_0, vm_1, vm_2, vm_3, vm_4, .ref hs, vm_6, vm_7, vm_8, vm_9, vm_10, vm_11, vm_12, vm_13, vm_14, vm_15, vm_16, vm_17, vm_18, vm_19, vm_20, vm_21, .ref tc, .int (nI ((kn + 1) + 1))])), (tc, .inl (cI, 16, .inl (upd (upd cf kn 23) (kn + 1) 20)))] := hD
  refine lv_iload_n hx hb dX6_markOf_27 rfl (lv_at hl 2 rfl) ?_
  refine lv_aload_n hx hb dX6_markOf_28 rfl (lv_at hl 1 rfl) ?_
  refine lv_iload_n hx hb dX6_markOf_29 rfl (lv_at hl 2 rfl) ?_
  refine wt_goI (wr := []) (wt_runV (As := [.int (nI j)]) (rest := [.int (nI j)]) ⟨hx, hb, hml, hown, hts⟩ (c_X6_woolSize_s5 l D cI cZ cH md hs R T f tc ((kn + 1) + 1) (upd (upd cf kn 23) (kn + 1) 20) j vm_0 vm_1 vm_2 vm_3 vm_4 vm_6 vm_7 vm_8 vm_9 vm_10 vm_11 vm_12 vm_13 vm_14 vm_15 vm_16 vm_17 vm_18 vm_19 vm_20 vm_21 (by first | assumption | omega) (by first | assumption | omega) (by first | assumption | omega) (by first | assumption | omega) (by first | assumption | omega) (by first | assumption | omega)) (cwV 1 hts gX6_markOf_X6_woolSize rfl rfl rfl (by decide +kernel) ⟨Nat.le_of_ble_eq_true rfl, Nat.le_of_ble_eq_true rfl⟩) hK hP hD [1, 0, 2] rfl (by decide) (va_recv hK.1 hP (ci := 6) (q0 := 1) rfl rfl) rfl hl.1 rfl (Nat.le_of_ble_eq_true rfl) dX6_markOf_30 ⟨Nat.le_of_ble_eq_true rfl, Nat.le_of_ble_eq_true rfl⟩) hP hD hS hA [1, 0, 2] [] rfl rfl (by decide) (by decide) (fun r_9 w_10 H locs h_11 hP hD hS => ?_)
  obtain rfl := h_11
  have hP : va_P D vwCl [(md, .inr (6, [vm_0, vm_1, vm_2, vm_3, vm_4, .ref hs, vm_6, vm_7, vm_8, vm_9, vm_10, vm_11, vm_12, vm_13, vm_14, vm_15, vm_16, vm_17, vm_18, vm_19, vm_20, vm_21, .ref tc, .int (nI (((kn + 1) + 1) + 3))])), (hs, .inl (cI, 45, .inl f)), (tc, .inl (cI, 16, .inl (apL [14, 13, 10] ((kn + 1) + 1) (upd (upd cf kn 23) (kn + 1) 20))))] H := hP
  have hD : va_D A [(md, .inr (6, [vm_0, vm_1, vm_2, vm_3, vm_4, .ref hs, vm_6, vm_7, vm_8, vm_9, vm_10, vm_11, vm_12, vm_13, vm_14, vm_15, vm_16, vm_17, vm_18, vm_19, vm_20, vm_21, .ref tc, .int (nI (((kn + 1) + 1) + 3))])), (hs, .inl (cI, 45, .inl f)), (tc, .inl (cI, 16, .inl (apL [14, 13, 10] ((kn + 1) + 1) (upd (upd cf kn 23) (kn + 1) 20))))] := hD
  refine lv_isub hx hb dX6_markOf_33 ?_
  refine lv_topi (fun ov_12 _ => ?_)
  have hP9 := hP.sub (ws' := [(md, .inr (6, [vm_0, vm_1, vm_2, vm_3, vm_4, .ref hs, vm_6, vm_7, vm_8, vm_9, vm_10, vm_11, vm_12, vm_13, vm_14, vm_15, vm_16, vm_17, vm_18, vm_19, vm_20, vm_21, .ref tc, .int (nI (((kn + 1) + 1) + 3))])), (hs, .inl (cI, 45, .inl f)), (tc, .inl (cI, 16, .inl (apL [14, 13, 10] ((kn + 1) + 1) (upd (upd cf kn 23) (kn + 1) 20))))]) [0, 1, 2] rfl
  have hD9 := hD.sub (ws' := [(md, .inr (6, [vm_0, vm_1, vm_2, vm_3, vm_4, .ref hs, vm_6, vm_7, vm_8, vm_9, vm_10, vm_11, vm_12, vm_13, vm_14, vm_15, vm_16, vm_17, vm_18, vm_19, vm_20, vm_21, .ref tc, .int (nI (((kn + 1) + 1) + 3))])), (hs, .inl (cI, 45, .inl f)), (tc, .inl (cI, 16, .inl (apL [14, 13, 10] ((kn + 1) + 1) (upd (upd cf kn 23) (kn + 1) 20))))]) [0, 1, 2] (by decide) rfl
  exact wt_iret hx hb hr hlocks hP9 hD9 hS rfl dX6_markOf_34
set_option maxHeartbeats 4000000 in
set_option maxRecDepth 100000 in
theorem c_X6_sizeOf_s1 (l : Launch) (D : va_G) (cI cZ cH : ClassId) (md hs : Nat) (R T : Nat) (f : Nat → Int32) (tc kn : Nat) (cf : Nat → Int32) (j : Nat) (vm_0 vm_1 vm_2 vm_3 vm_4 vm_6 vm_7 vm_8 vm_9 vm_10 vm_11 vm_12 vm_13 vm_14 vm_15 vm_16 vm_17 vm_18 vm_19 vm_20 vm_21 : Value) (hR5 : R ≤ 5) (hT6 : T ≤ 6) (hrk : rk R T f) (hj6 : j < 6) (hkn : kn + 4 ≤ 16) (hks : f (15 + 5 * j) = 1) : wt_M l yX6_sizeOf wsX6_sizeOf ({ frames := 2, cells := 0, slots := 0, locals := 45 } : Room) D (wt_T cI cZ cH) [.ref md, .int (nI j)] [(md, .inr (6, [vm_0, vm_1, vm_2, vm_3, vm_4, .ref hs, vm_6, vm_7, vm_8, vm_9, vm_10, vm_11, vm_12, vm_13, vm_14, vm_15, vm_16, vm_17, vm_18, vm_19, vm_20, vm_21, .ref tc, .int (nI kn)])), (hs, .inl (cI, 45, .inl f)), (tc, .inl (cI, 16, .inl cf))] (wt_QI D (fun r w => w = [(md, .inr (6, [vm_0, vm_1, vm_2, vm_3, vm_4, .ref hs, vm_6, vm_7, vm_8, vm_9, vm_10, vm_11, vm_12, vm_13, vm_14, vm_15, vm_16, vm_17, vm_18, vm_19, vm_20, vm_21, .ref tc, .int (nI (kn + 4))])), (hs, .inl (cI, 45, .inl f)), (tc, .inl (cI, 16, .inl (apL [11, 10, 21, 20] kn cf)))])) := by
  refine wt_M.ofW (cc := cX6_sizeOf) (maxL := 4) (ret := (some .int)) (by decide) rfl (Nat.le_of_ble_eq_true rfl) ?_
  intro p e s m below meth c A ls hx hb hr hts hown hlocks hml hnm hP hK hD hA hS hl
  have hP : va_P D vwCl [(md, .inr (6, [vm_0, vm_1, vm_2, vm_3, vm_4, .ref hs, vm_6, vm_7, vm_8, vm_9, vm_10, vm_11, vm_12, vm_13, vm_14, vm_15, vm_16, vm_17, vm_18, vm_19, vm_20, vm_21, .ref tc, .int (nI kn)])), (hs, .inl (cI, 45, .inl f)), (tc, .inl (cI, 16, .inl cf))] s.heap := hP
  have hown : s.vm.findClass RX6 = some m.cls := hown
  have hl : lv_has ls 4 [(0, .ref md), (1, .int (nI j))] := hl
  have hi6 : ∀ w ∈ u_ws RX6 TX6 24, w ∈ wsX6_sizeOf := by decide +kernel
  have wf19 := hts (.fieldLink RX6 19 "WarmTubesModel" "house" "[I") (by decide +kernel)
  refine lv_aload_n hx hb dX6_sizeOf_0 rfl (lv_at hl 0 rfl) ?_
  refine va_get (D := D) (ci := 6) (v := .ref hs) (C := RX6) (T := TX6) (N := 24) hx hb hts hi6 hown hK.1 hP 0 rfl rfl 5 (by decide) wf19 (fun _ h9 => h9) rfl dX6_sizeOf_1 ?_
  refine lv_iload_n hx hb dX6_sizeOf_4 rfl (lv_at hl 1 rfl) ?_
  refine lv_iconst (v := 0) hx hb dX6_sizeOf_5 (by decide) ?_
  refine wt_rS (As := [.ref hs, .int (nI j), .int 0]) (rest := []) ⟨hx, hb, hml, hown, hts⟩ (c_X6_of_k1 l D cI cZ cH hs R T f j (by first | assumption | omega) (by first | assumption | omega) (by first | assumption | omega) (by first | assumption | omega) (by first | assumption | omega)) (va_cwS 3 hts gX6_sizeOf_X6_of rfl rfl rfl (by decide +kernel) ⟨Nat.le_of_ble_eq_true rfl, Nat.le_of_ble_eq_true rfl⟩) hK hP [1] rfl rfl hl.1 rfl (Nat.le_of_ble_eq_true rfl) dX6_sizeOf_6 ⟨Nat.le_of_ble_eq_true rfl, Nat.le_of_ble_eq_true rfl⟩ (fun r_1 e_2 => ?_)
  subst e_2
  refine lv_istore_n (lv' := [(2, .int 1), (0, .ref md), (1, .int (nI j))]) hx hb dX6_sizeOf_9 rfl hl (by decide) rfl (fun ls hl => ?_)
  refine lv_iload_n hx hb dX6_sizeOf_10 rfl (lv_at hl 0 rfl) ?_
  refine lv_iconst (v := 4) hx hb dX6_sizeOf_11 (by decide) ?_
  refine lv_icmp_lt (tgt := 21) hx hb dX6_sizeOf_12 (by decide) (fun _ => ?_) (fun h => absurd h (by decide))
  refine lv_iload_n hx hb dX6_sizeOf_21 rfl (lv_at hl 0 rfl) ?_
  refine lv_iconst (v := 2) hx hb dX6_sizeOf_22 (by decide) ?_
  refine lv_icmp_ne (tgt := 32) hx hb dX6_sizeOf_23 (by decide) (fun _ => ?_) (fun h => absurd h (by decide))
  refine lv_aload_n hx hb dX6_sizeOf_32 rfl (lv_at hl 1 rfl) ?_
  refine lv_bipush (v := 11) hx hb dX6_sizeOf_33 (by decide) ?_
  refine wt_goV (wr := [(hs, .inl (cI, 45, .inl f))]) (wt_runV (As := [.int 11]) (rest := []) ⟨hx, hb, hml, hown, hts⟩ (c_X6_began_x l D cI cZ cH md tc kn cf 11 vm_0 vm_1 vm_2 vm_3 vm_4 (.ref hs) vm_6 vm_7 vm_8 vm_9 vm_10 vm_11 vm_12 vm_13 vm_14 vm_15 vm_16 vm_17 vm_18 vm_19 vm_20 vm_21 (by first | assumption | omega)) (cwV 1 hts gX6_sizeOf_X6_began rfl rfl rfl (by decide +kernel) ⟨Nat.le_of_ble_eq_true rfl, Nat.le_of_ble_eq_true rfl⟩) hK hP hD [0, 2] rfl (by decide) (va_recv hK.1 hP (ci := 6) (q0 := 0) rfl rfl) rfl hl.1 rfl (Nat.le_of_ble_eq_true rfl) dX6_sizeOf_35 ⟨Nat.le_of_ble_eq_true rfl, Nat.le_of_ble_eq_true rfl⟩) hP hD hS hA [0, 2] [1] rfl rfl (by decide) (by decide) (fun w_4 H locs h_5 hP hD hS => ?_)
  obtain rfl := h_5
  have hP : va_P D vwCl [(hs, .inl (cI, 45, .inl f)), (md, .inr (6, [vm_0, vm_1, vm_2, vm_3, vm_4, .ref hs, vm_6, vm_7, vm_8, vm_9, vm_10, vm_11, vm_12, vm_13, vm_14, vm_15, vm_16, vm_17, vm_18, vm_19, vm_20, vm_21, .ref tc, .int (nI (kn + 1))])), (tc, .inl (cI, 16, .inl (upd cf kn 11)))] H := hP
  have hD : va_D A [(hs, .inl (cI, 45, .inl f)), (md, .inr (6, [vm_0, vm_1, vm_2, vm_3, vm_4, .ref hs, vm_6, vm_7, vm_8, vm_9, vm_10, vm_11, vm_12, vm_13, vm_14, vm_15, vm_16, vm_17, vm_18, vm_19, vm_20, vm_21, .ref tc, .int (nI (kn + 1))])), (tc, .inl (cI, 16, .inl (upd cf kn 11)))] := hD
  refine lv_aload_n hx hb dX6_sizeOf_38 rfl (lv_at hl 1 rfl) ?_
  refine lv_iload_n hx hb dX6_sizeOf_39 rfl (lv_at hl 2 rfl) ?_
  refine wt_goI (wr := []) (wt_runV (As := [.int (nI j)]) (rest := []) ⟨hx, hb, hml, hown, hts⟩ (c_X6_plainSize_s0 l D cI cZ cH md hs R T f tc (kn + 1) (upd cf kn 11) j vm_0 vm_1 vm_2 vm_3 vm_4 vm_6 vm_7 vm_8 vm_9 vm_10 vm_11 vm_12 vm_13 vm_14 vm_15 vm_16 vm_17 vm_18 vm_19 vm_20 vm_21 (by first | assumption | omega) (by first | assumption | omega) (by first | assumption | omega) (by first | assumption | omega) (by first | assumption | omega)) (cwV 1 hts gX6_sizeOf_X6_plainSize rfl rfl rfl (by decide +kernel) ⟨Nat.le_of_ble_eq_true rfl, Nat.le_of_ble_eq_true rfl⟩) hK hP hD [1, 0, 2] rfl (by decide) (va_recv hK.1 hP (ci := 6) (q0 := 1) rfl rfl) rfl hl.1 rfl (Nat.le_of_ble_eq_true rfl) dX6_sizeOf_40 ⟨Nat.le_of_ble_eq_true rfl, Nat.le_of_ble_eq_true rfl⟩) hP hD hS hA [1, 0, 2] [] rfl rfl (by decide) (by decide) (fun r_6 w_7 H locs h_8 hP hD hS => ?_)
  obtain rfl := h_8
  have hP : va_P D vwCl [(md, .inr (6, [vm_0, vm_1, vm_2, vm_3, vm_4, .ref hs, vm_6, vm_7, vm_8, vm_9, vm_10, vm_11, vm_12, vm_13, vm_14, vm_15, vm_16, vm_17, vm_18, vm_19, vm_20, vm_21, .ref tc, .int (nI ((kn + 1) + 1))])), (hs, .inl (cI, 45, .inl f)), (tc, .inl (cI, 16, .inl (apL [10] (kn + 1) (upd cf kn 11))))] H := hP
  have hD : va_D A [(md, .inr (6, [vm_0, vm_1, vm_2, vm_3, vm_4, .ref hs, vm_6, vm_7, vm_8, vm_9, vm_10, vm_11, vm_12, vm_13, vm_14, vm_15, vm_16, vm_17, vm_18, vm_19, vm_20, vm_21, .ref tc, .int (nI ((kn + 1) + 1))])), (hs, .inl (cI, 45, .inl f)), (tc, .inl (cI, 16, .inl (apL [10] (kn + 1) (upd cf kn 11))))] := hD
  refine lv_istore_n (lv' := [(3, .int r_6), (2, .int 1), (0, .ref md), (1, .int (nI j))]) hx hb dX6_sizeOf_43 rfl hl (by decide) rfl (fun ls hl => ?_)
  refine lv_iload_n hx hb dX6_sizeOf_44 rfl (lv_at hl 0 rfl) ?_
  refine lv_aload_n hx hb dX6_sizeOf_45 rfl (lv_at hl 2 rfl) ?_
  refine lv_iload_n hx hb dX6_sizeOf_46 rfl (lv_at hl 3 rfl) ?_
  refine wt_goI (wr := []) (wt_runV (As := [.int (nI j)]) (rest := [.int r_6]) ⟨hx, hb, hml, hown, hts⟩ (c_X6_markOf_s1 l D cI cZ cH md hs R T f tc ((kn + 1) + 1) (apL [10] (kn + 1) (upd cf kn 11)) j vm_0 vm_1 vm_2 vm_3 vm_4 vm_6 vm_7 vm_8 vm_9 vm_10 vm_11 vm_12 vm_13 vm_14 vm_15 vm_16 vm_17 vm_18 vm_19 vm_20 vm_21 (by first | assumption | omega) (by first | assumption | omega) (by first | assumption | omega) (by first | assumption | omega) (by first | assumption | omega) (by first | assumption | omega)) (cwV 1 hts gX6_sizeOf_X6_markOf rfl rfl rfl (by decide +kernel) ⟨Nat.le_of_ble_eq_true rfl, Nat.le_of_ble_eq_true rfl⟩) hK hP hD [0, 1, 2] rfl (by decide) (va_recv hK.1 hP (ci := 6) (q0 := 0) rfl rfl) rfl hl.1 rfl (Nat.le_of_ble_eq_true rfl) dX6_sizeOf_47 ⟨Nat.le_of_ble_eq_true rfl, Nat.le_of_ble_eq_true rfl⟩) hP hD hS hA [0, 1, 2] [] rfl rfl (by decide) (by decide) (fun r_9 w_10 H locs h_11 hP hD hS => ?_)
  obtain rfl := h_11
  have hP : va_P D vwCl [(md, .inr (6, [vm_0, vm_1, vm_2, vm_3, vm_4, .ref hs, vm_6, vm_7, vm_8, vm_9, vm_10, vm_11, vm_12, vm_13, vm_14, vm_15, vm_16, vm_17, vm_18, vm_19, vm_20, vm_21, .ref tc, .int (nI (((kn + 1) + 1) + 2))])), (hs, .inl (cI, 45, .inl f)), (tc, .inl (cI, 16, .inl (apL [21, 20] ((kn + 1) + 1) (apL [10] (kn + 1) (upd cf kn 11)))))] H := hP
  have hD : va_D A [(md, .inr (6, [vm_0, vm_1, vm_2, vm_3, vm_4, .ref hs, vm_6, vm_7, vm_8, vm_9, vm_10, vm_11, vm_12, vm_13, vm_14, vm_15, vm_16, vm_17, vm_18, vm_19, vm_20, vm_21, .ref tc, .int (nI (((kn + 1) + 1) + 2))])), (hs, .inl (cI, 45, .inl f)), (tc, .inl (cI, 16, .inl (apL [21, 20] ((kn + 1) + 1) (apL [10] (kn + 1) (upd cf kn 11)))))] := hD
  refine lv_iadd hx hb dX6_sizeOf_50 ?_
  refine lv_topi (fun ov_12 _ => ?_)
  refine lv_istore_n (lv' := [(3, .int ov_12), (2, .int 1), (0, .ref md), (1, .int (nI j))]) hx hb dX6_sizeOf_51 rfl hl (by decide) rfl (fun ls hl => ?_)
  refine lv_iload_n hx hb dX6_sizeOf_52 rfl (lv_at hl 1 rfl) ?_
  refine lv_iconst (v := 2) hx hb dX6_sizeOf_53 (by decide) ?_
  refine lv_icmp_ne (tgt := 62) hx hb dX6_sizeOf_54 (by decide) (fun _ => ?_) (fun h => absurd h (by decide))
  refine lv_iload_n hx hb dX6_sizeOf_62 rfl (lv_at hl 0 rfl) ?_
  have hP9 := hP.sub (ws' := [(md, .inr (6, [vm_0, vm_1, vm_2, vm_3, vm_4, .ref hs, vm_6, vm_7, vm_8, vm_9, vm_10, vm_11, vm_12, vm_13, vm_14, vm_15, vm_16, vm_17, vm_18, vm_19, vm_20, vm_21, .ref tc, .int (nI (((kn + 1) + 1) + 2))])), (hs, .inl (cI, 45, .inl f)), (tc, .inl (cI, 16, .inl (apL [21, 20] ((kn + 1) + 1) (apL [10] (kn + 1) (upd cf kn 11)))))]) [0, 1, 2] rfl
  have hD9 := hD.sub (ws' := [(md, .inr (6, [vm_0, vm_1, vm_2, vm_3, vm_4, .ref hs, vm_6, vm_7, vm_8, vm_9, vm_10, vm_11, vm_12, vm_13, vm_14, vm_15, vm_16, vm_17, vm_18, vm_19, vm_20, vm_21, .ref tc, .int (nI (((kn + 1) + 1) + 2))])), (hs, .inl (cI, 45, .inl f)), (tc, .inl (cI, 16, .inl (apL [21, 20] ((kn + 1) + 1) (apL [10] (kn + 1) (upd cf kn 11)))))]) [0, 1, 2] (by decide) rfl
  exact wt_iret hx hb hr hlocks hP9 hD9 hS rfl dX6_sizeOf_63
set_option maxHeartbeats 4000000 in
set_option maxRecDepth 100000 in
theorem c_X6_sizeOf_s2 (l : Launch) (D : va_G) (cI cZ cH : ClassId) (md hs : Nat) (R T : Nat) (f : Nat → Int32) (tc kn : Nat) (cf : Nat → Int32) (j : Nat) (vm_0 vm_1 vm_2 vm_3 vm_4 vm_6 vm_7 vm_8 vm_9 vm_10 vm_11 vm_12 vm_13 vm_14 vm_15 vm_16 vm_17 vm_18 vm_19 vm_20 vm_21 : Value) (hR5 : R ≤ 5) (hT6 : T ≤ 6) (hrk : rk R T f) (hj6 : j < 6) (hkn : kn + 6 ≤ 16) (hks : f (15 + 5 * j) = 2) : wt_M l yX6_sizeOf wsX6_sizeOf ({ frames := 2, cells := 0, slots := 0, locals := 45 } : Room) D (wt_T cI cZ cH) [.ref md, .int (nI j)] [(md, .inr (6, [vm_0, vm_1, vm_2, vm_3, vm_4, .ref hs, vm_6, vm_7, vm_8, vm_9, vm_10, vm_11, vm_12, vm_13, vm_14, vm_15, vm_16, vm_17, vm_18, vm_19, vm_20, vm_21, .ref tc, .int (nI kn)])), (hs, .inl (cI, 45, .inl f)), (tc, .inl (cI, 16, .inl cf))] (wt_QI D (fun r w => w = [(md, .inr (6, [vm_0, vm_1, vm_2, vm_3, vm_4, .ref hs, vm_6, vm_7, vm_8, vm_9, vm_10, vm_11, vm_12, vm_13, vm_14, vm_15, vm_16, vm_17, vm_18, vm_19, vm_20, vm_21, .ref tc, .int (nI (kn + 6))])), (hs, .inl (cI, 45, .inl f)), (tc, .inl (cI, 16, .inl (apL [12, 11, 10, 24, 21, 20] kn cf)))])) := by
  refine wt_M.ofW (cc := cX6_sizeOf) (maxL := 4) (ret := (some .int)) (by decide) rfl (Nat.le_of_ble_eq_true rfl) ?_
  intro p e s m below meth c A ls hx hb hr hts hown hlocks hml hnm hP hK hD hA hS hl
  have hP : va_P D vwCl [(md, .inr (6, [vm_0, vm_1, vm_2, vm_3, vm_4, .ref hs, vm_6, vm_7, vm_8, vm_9, vm_10, vm_11, vm_12, vm_13, vm_14, vm_15, vm_16, vm_17, vm_18, vm_19, vm_20, vm_21, .ref tc, .int (nI kn)])), (hs, .inl (cI, 45, .inl f)), (tc, .inl (cI, 16, .inl cf))] s.heap := hP
  have hown : s.vm.findClass RX6 = some m.cls := hown
  have hl : lv_has ls 4 [(0, .ref md), (1, .int (nI j))] := hl
  have hi6 : ∀ w ∈ u_ws RX6 TX6 24, w ∈ wsX6_sizeOf := by decide +kernel
  have wf19 := hts (.fieldLink RX6 19 "WarmTubesModel" "house" "[I") (by decide +kernel)
  refine lv_aload_n hx hb dX6_sizeOf_0 rfl (lv_at hl 0 rfl) ?_
  refine va_get (D := D) (ci := 6) (v := .ref hs) (C := RX6) (T := TX6) (N := 24) hx hb hts hi6 hown hK.1 hP 0 rfl rfl 5 (by decide) wf19 (fun _ h9 => h9) rfl dX6_sizeOf_1 ?_
  refine lv_iload_n hx hb dX6_sizeOf_4 rfl (lv_at hl 1 rfl) ?_
  refine lv_iconst (v := 0) hx hb dX6_sizeOf_5 (by decide) ?_
  refine wt_rS (As := [.ref hs, .int (nI j), .int 0]) (rest := []) ⟨hx, hb, hml, hown, hts⟩ (c_X6_of_k2 l D cI cZ cH hs R T f j (by first | assumption | omega) (by first | assumption | omega) (by first | assumption | omega) (by first | assumption | omega) (by first | assumption | omega)) (va_cwS 3 hts gX6_sizeOf_X6_of rfl rfl rfl (by decide +kernel) ⟨Nat.le_of_ble_eq_true rfl, Nat.le_of_ble_eq_true rfl⟩) hK hP [1] rfl rfl hl.1 rfl (Nat.le_of_ble_eq_true rfl) dX6_sizeOf_6 ⟨Nat.le_of_ble_eq_true rfl, Nat.le_of_ble_eq_true rfl⟩ (fun r_1 e_2 => ?_)
  subst e_2
  refine lv_istore_n (lv' := [(2, .int 2), (0, .ref md), (1, .int (nI j))]) hx hb dX6_sizeOf_9 rfl hl (by decide) rfl (fun ls hl => ?_)
  refine lv_iload_n hx hb dX6_sizeOf_10 rfl (lv_at hl 0 rfl) ?_
  refine lv_iconst (v := 4) hx hb dX6_sizeOf_11 (by decide) ?_
  refine lv_icmp_lt (tgt := 21) hx hb dX6_sizeOf_12 (by decide) (fun _ => ?_) (fun h => absurd h (by decide))
  refine lv_iload_n hx hb dX6_sizeOf_21 rfl (lv_at hl 0 rfl) ?_
  refine lv_iconst (v := 2) hx hb dX6_sizeOf_22 (by decide) ?_
  refine lv_icmp_ne (tgt := 32) hx hb dX6_sizeOf_23 (by decide) (fun h => absurd h (by decide)) (fun _ => ?_)
  refine lv_aload_n hx hb dX6_sizeOf_26 rfl (lv_at hl 1 rfl) ?_
  refine lv_bipush (v := 12) hx hb dX6_sizeOf_27 (by decide) ?_
  refine wt_goV (wr := [(hs, .inl (cI, 45, .inl f))]) (wt_runV (As := [.int 12]) (rest := []) ⟨hx, hb, hml, hown, hts⟩ (c_X6_began_x l D cI cZ cH md tc kn cf 12 vm_0 vm_1 vm_2 vm_3 vm_4 (.ref hs) vm_6 vm_7 vm_8 vm_9 vm_10 vm_11 vm_12 vm_13 vm_14 vm_15 vm_16 vm_17 vm_18 vm_19 vm_20 vm_21 (by first | assumption | omega)) (cwV 1 hts gX6_sizeOf_X6_began rfl rfl rfl (by decide +kernel) ⟨Nat.le_of_ble_eq_true rfl, Nat.le_of_ble_eq_true rfl⟩) hK hP hD [0, 2] rfl (by decide) (va_recv hK.1 hP (ci := 6) (q0 := 0) rfl rfl) rfl hl.1 rfl (Nat.le_of_ble_eq_true rfl) dX6_sizeOf_29 ⟨Nat.le_of_ble_eq_true rfl, Nat.le_of_ble_eq_true rfl⟩) hP hD hS hA [0, 2] [1] rfl rfl (by decide) (by decide) (fun w_4 H locs h_5 hP hD hS => ?_)
  obtain rfl := h_5
  have hP : va_P D vwCl [(hs, .inl (cI, 45, .inl f)), (md, .inr (6, [vm_0, vm_1, vm_2, vm_3, vm_4, .ref hs, vm_6, vm_7, vm_8, vm_9, vm_10, vm_11, vm_12, vm_13, vm_14, vm_15, vm_16, vm_17, vm_18, vm_19, vm_20, vm_21, .ref tc, .int (nI (kn + 1))])), (tc, .inl (cI, 16, .inl (upd cf kn 12)))] H := hP
  have hD : va_D A [(hs, .inl (cI, 45, .inl f)), (md, .inr (6, [vm_0, vm_1, vm_2, vm_3, vm_4, .ref hs, vm_6, vm_7, vm_8, vm_9, vm_10, vm_11, vm_12, vm_13, vm_14, vm_15, vm_16, vm_17, vm_18, vm_19, vm_20, vm_21, .ref tc, .int (nI (kn + 1))])), (tc, .inl (cI, 16, .inl (upd cf kn 12)))] := hD
  refine lv_aload_n hx hb dX6_sizeOf_32 rfl (lv_at hl 1 rfl) ?_
  refine lv_bipush (v := 11) hx hb dX6_sizeOf_33 (by decide) ?_
  refine wt_goV (wr := [(hs, .inl (cI, 45, .inl f))]) (wt_runV (As := [.int 11]) (rest := []) ⟨hx, hb, hml, hown, hts⟩ (c_X6_began_x l D cI cZ cH md tc (kn + 1) (upd cf kn 12) 11 vm_0 vm_1 vm_2 vm_3 vm_4 (.ref hs) vm_6 vm_7 vm_8 vm_9 vm_10 vm_11 vm_12 vm_13 vm_14 vm_15 vm_16 vm_17 vm_18 vm_19 vm_20 vm_21 (by first | assumption | omega)) (cwV 1 hts gX6_sizeOf_X6_began rfl rfl rfl (by decide +kernel) ⟨Nat.le_of_ble_eq_true rfl, Nat.le_of_ble_eq_true rfl⟩) hK hP hD [1, 2] rfl (by decide) (va_recv hK.1 hP (ci := 6) (q0 := 1) rfl rfl) rfl hl.1 rfl (Nat.le_of_ble_eq_true rfl) dX6_sizeOf_35 ⟨Nat.le_of_ble_eq_true rfl, Nat.le_of_ble_eq_true rfl⟩) hP hD hS hA [1, 2] [0] rfl rfl (by decide) (by decide) (fun w_7 H locs h_8 hP hD hS => ?_)
  obtain rfl := h_8
  have hP : va_P D vwCl [(hs, .inl (cI, 45, .inl f)), (md, .inr (6, [vm_0, vm_1, vm_2, vm_3, vm_4, .ref hs, vm_6, vm_7, vm_8, vm_9, vm_10, vm_11, vm_12, vm_13, vm_14, vm_15, vm_16, vm_17, vm_18, vm_19, vm_20, vm_21, .ref tc, .int (nI ((kn + 1) + 1))])), (tc, .inl (cI, 16, .inl (upd (upd cf kn 12) (kn + 1) 11)))] H := hP
  have hD : va_D A [(hs, .inl (cI, 45, .inl f)), (md, .inr (6, [vm_0, vm_1, vm_2, vm_3, vm_4, .ref hs, vm_6, vm_7, vm_8, vm_9, vm_10, vm_11, vm_12, vm_13, vm_14, vm_15, vm_16, vm_17, vm_18, vm_19, vm_20, vm_21, .ref tc, .int (nI ((kn + 1) + 1))])), (tc, .inl (cI, 16, .inl (upd (upd cf kn 12) (kn + 1) 11)))] := hD
  refine lv_aload_n hx hb dX6_sizeOf_38 rfl (lv_at hl 1 rfl) ?_
  refine lv_iload_n hx hb dX6_sizeOf_39 rfl (lv_at hl 2 rfl) ?_
  refine wt_goI (wr := []) (wt_runV (As := [.int (nI j)]) (rest := []) ⟨hx, hb, hml, hown, hts⟩ (c_X6_plainSize_s0 l D cI cZ cH md hs R T f tc ((kn + 1) + 1) (upd (upd cf kn 12) (kn + 1) 11) j vm_0 vm_1 vm_2 vm_3 vm_4 vm_6 vm_7 vm_8 vm_9 vm_10 vm_11 vm_12 vm_13 vm_14 vm_15 vm_16 vm_17 vm_18 vm_19 vm_20 vm_21 (by first | assumption | omega) (by first | assumption | omega) (by first | assumption | omega) (by first | assumption | omega) (by first | assumption | omega)) (cwV 1 hts gX6_sizeOf_X6_plainSize rfl rfl rfl (by decide +kernel) ⟨Nat.le_of_ble_eq_true rfl, Nat.le_of_ble_eq_true rfl⟩) hK hP hD [1, 0, 2] rfl (by decide) (va_recv hK.1 hP (ci := 6) (q0 := 1) rfl rfl) rfl hl.1 rfl (Nat.le_of_ble_eq_true rfl) dX6_sizeOf_40 ⟨Nat.le_of_ble_eq_true rfl, Nat.le_of_ble_eq_true rfl⟩) hP hD hS hA [1, 0, 2] [] rfl rfl (by decide) (by decide) (fun r_9 w_10 H locs h_11 hP hD hS => ?_)
  obtain rfl := h_11
  have hP : va_P D vwCl [(md, .inr (6, [vm_0, vm_1, vm_2, vm_3, vm_4, .ref hs, vm_6, vm_7, vm_8, vm_9, vm_10, vm_11, vm_12, vm_13, vm_14, vm_15, vm_16, vm_17, vm_18, vm_19, vm_20, vm_21, .ref tc, .int (nI (((kn + 1) + 1) + 1))])), (hs, .inl (cI, 45, .inl f)), (tc, .inl (cI, 16, .inl (apL [10] ((kn + 1) + 1) (upd (upd cf kn 12) (kn + 1) 11))))] H := hP
  have hD : va_D A [(md, .inr (6, [vm_0, vm_1, vm_2, vm_3, vm_4, .ref hs, vm_6, vm_7, vm_8, vm_9, vm_10, vm_11, vm_12, vm_13, vm_14, vm_15, vm_16, vm_17, vm_18, vm_19, vm_20, vm_21, .ref tc, .int (nI (((kn + 1) + 1) + 1))])), (hs, .inl (cI, 45, .inl f)), (tc, .inl (cI, 16, .inl (apL [10] ((kn + 1) + 1) (upd (upd cf kn 12) (kn + 1) 11))))] := hD
  refine lv_istore_n (lv' := [(3, .int r_9), (2, .int 2), (0, .ref md), (1, .int (nI j))]) hx hb dX6_sizeOf_43 rfl hl (by decide) rfl (fun ls hl => ?_)
  refine lv_iload_n hx hb dX6_sizeOf_44 rfl (lv_at hl 0 rfl) ?_
  refine lv_aload_n hx hb dX6_sizeOf_45 rfl (lv_at hl 2 rfl) ?_
  refine lv_iload_n hx hb dX6_sizeOf_46 rfl (lv_at hl 3 rfl) ?_
  refine wt_goI (wr := []) (wt_runV (As := [.int (nI j)]) (rest := [.int r_9]) ⟨hx, hb, hml, hown, hts⟩ (c_X6_markOf_s2 l D cI cZ cH md hs R T f tc (((kn + 1) + 1) + 1) (apL [10] ((kn + 1) + 1) (upd (upd cf kn 12) (kn + 1) 11)) j vm_0 vm_1 vm_2 vm_3 vm_4 vm_6 vm_7 vm_8 vm_9 vm_10 vm_11 vm_12 vm_13 vm_14 vm_15 vm_16 vm_17 vm_18 vm_19 vm_20 vm_21 (by first | assumption | omega) (by first | assumption | omega) (by first | assumption | omega) (by first | assumption | omega) (by first | assumption | omega) (by first | assumption | omega)) (cwV 1 hts gX6_sizeOf_X6_markOf rfl rfl rfl (by decide +kernel) ⟨Nat.le_of_ble_eq_true rfl, Nat.le_of_ble_eq_true rfl⟩) hK hP hD [0, 1, 2] rfl (by decide) (va_recv hK.1 hP (ci := 6) (q0 := 0) rfl rfl) rfl hl.1 rfl (Nat.le_of_ble_eq_true rfl) dX6_sizeOf_47 ⟨Nat.le_of_ble_eq_true rfl, Nat.le_of_ble_eq_true rfl⟩) hP hD hS hA [0, 1, 2] [] rfl rfl (by decide) (by decide) (fun r_12 w_13 H locs h_14 hP hD hS => ?_)
  obtain rfl := h_14
  have hP : va_P D vwCl [(md, .inr (6, [vm_0, vm_1, vm_2, vm_3, vm_4, .ref hs, vm_6, vm_7, vm_8, vm_9, vm_10, vm_11, vm_12, vm_13, vm_14, vm_15, vm_16, vm_17, vm_18, vm_19, vm_20, vm_21, .ref tc, .int (nI ((((kn + 1) + 1) + 1) + 3))])), (hs, .inl (cI, 45, .inl f)), (tc, .inl (cI, 16, .inl (apL [24, 21, 20] (((kn + 1) + 1) + 1) (apL [10] ((kn + 1) + 1) (upd (upd cf kn 12) (kn + 1) 11)))))] H := hP
  have hD : va_D A [(md, .inr (6, [vm_0, vm_1, vm_2, vm_3, vm_4, .ref hs, vm_6, vm_7, vm_8, vm_9, vm_10, vm_11, vm_12, vm_13, vm_14, vm_15, vm_16, vm_17, vm_18, vm_19, vm_20, vm_21, .ref tc, .int (nI ((((kn + 1) + 1) + 1) + 3))])), (hs, .inl (cI, 45, .inl f)), (tc, .inl (cI, 16, .inl (apL [24, 21, 20] (((kn + 1) + 1) + 1) (apL [10] ((kn + 1) + 1) (upd (upd cf kn 12) (kn + 1) 11)))))] := hD
  refine lv_iadd hx hb dX6_sizeOf_50 ?_
  refine lv_topi (fun ov_15 _ => ?_)
  refine lv_istore_n (lv' := [(3, .int ov_15), (2, .int 2), (0, .ref md), (1, .int (nI j))]) hx hb dX6_sizeOf_51 rfl hl (by decide) rfl (fun ls hl => ?_)
  refine lv_iload_n hx hb dX6_sizeOf_52 rfl (lv_at hl 1 rfl) ?_
  refine lv_iconst (v := 2) hx hb dX6_sizeOf_53 (by decide) ?_
  refine lv_icmp_ne (tgt := 62) hx hb dX6_sizeOf_54 (by decide) (fun h => absurd h (by decide)) (fun _ => ?_)
  refine lv_iload_n hx hb dX6_sizeOf_57 rfl (lv_at hl 0 rfl) ?_
  refine lv_ineg hx hb dX6_sizeOf_58 ?_
  refine lv_topi (fun ov_16 _ => ?_)
  refine lv_goto (tgt := 63) hx hb dX6_sizeOf_59 (by decide) ?_
  have hP9 := hP.sub (ws' := [(md, .inr (6, [vm_0, vm_1, vm_2, vm_3, vm_4, .ref hs, vm_6, vm_7, vm_8, vm_9, vm_10, vm_11, vm_12, vm_13, vm_14, vm_15, vm_16, vm_17, vm_18, vm_19, vm_20, vm_21, .ref tc, .int (nI ((((kn + 1) + 1) + 1) + 3))])), (hs, .inl (cI, 45, .inl f)), (tc, .inl (cI, 16, .inl (apL [24, 21, 20] (((kn + 1) + 1) + 1) (apL [10] ((kn + 1) + 1) (upd (upd cf kn 12) (kn + 1) 11)))))]) [0, 1, 2] rfl
  have hD9 := hD.sub (ws' := [(md, .inr (6, [vm_0, vm_1, vm_2, vm_3, vm_4, .ref hs, vm_6, vm_7, vm_8, vm_9, vm_10, vm_11, vm_12, vm_13, vm_14, vm_15, vm_16, vm_17, vm_18, vm_19, vm_20, vm_21, .ref tc, .int (nI ((((kn + 1) + 1) + 1) + 3))])), (hs, .inl (cI, 45, .inl f)), (tc, .inl (cI, 16, .inl (apL [24, 21, 20] (((kn + 1) + 1) + 1) (apL [10] ((kn + 1) + 1) (upd (upd cf kn 12) (kn + 1) 11)))))]) [0, 1, 2] (by decide) rfl
  exact wt_iret hx hb hr hlocks hP9 hD9 hS rfl dX6_sizeOf_63
set_option maxHeartbeats 4000000 in
set_option maxRecDepth 100000 in
theorem c_X6_sizeOf_s3 (l : Launch) (D : va_G) (cI cZ cH : ClassId) (md hs : Nat) (R T : Nat) (f : Nat → Int32) (tc kn : Nat) (cf : Nat → Int32) (j : Nat) (vm_0 vm_1 vm_2 vm_3 vm_4 vm_6 vm_7 vm_8 vm_9 vm_10 vm_11 vm_12 vm_13 vm_14 vm_15 vm_16 vm_17 vm_18 vm_19 vm_20 vm_21 : Value) (hR5 : R ≤ 5) (hT6 : T ≤ 6) (hrk : rk R T f) (hj6 : j < 6) (hkn : kn + 5 ≤ 16) (hks : f (15 + 5 * j) = 3) : wt_M l yX6_sizeOf wsX6_sizeOf ({ frames := 2, cells := 0, slots := 0, locals := 45 } : Room) D (wt_T cI cZ cH) [.ref md, .int (nI j)] [(md, .inr (6, [vm_0, vm_1, vm_2, vm_3, vm_4, .ref hs, vm_6, vm_7, vm_8, vm_9, vm_10, vm_11, vm_12, vm_13, vm_14, vm_15, vm_16, vm_17, vm_18, vm_19, vm_20, vm_21, .ref tc, .int (nI kn)])), (hs, .inl (cI, 45, .inl f)), (tc, .inl (cI, 16, .inl cf))] (wt_QI D (fun r w => w = [(md, .inr (6, [vm_0, vm_1, vm_2, vm_3, vm_4, .ref hs, vm_6, vm_7, vm_8, vm_9, vm_10, vm_11, vm_12, vm_13, vm_14, vm_15, vm_16, vm_17, vm_18, vm_19, vm_20, vm_21, .ref tc, .int (nI (kn + 5))])), (hs, .inl (cI, 45, .inl f)), (tc, .inl (cI, 16, .inl (apL [11, 10, 22, 21, 20] kn cf)))])) := by
  refine wt_M.ofW (cc := cX6_sizeOf) (maxL := 4) (ret := (some .int)) (by decide) rfl (Nat.le_of_ble_eq_true rfl) ?_
  intro p e s m below meth c A ls hx hb hr hts hown hlocks hml hnm hP hK hD hA hS hl
  have hP : va_P D vwCl [(md, .inr (6, [vm_0, vm_1, vm_2, vm_3, vm_4, .ref hs, vm_6, vm_7, vm_8, vm_9, vm_10, vm_11, vm_12, vm_13, vm_14, vm_15, vm_16, vm_17, vm_18, vm_19, vm_20, vm_21, .ref tc, .int (nI kn)])), (hs, .inl (cI, 45, .inl f)), (tc, .inl (cI, 16, .inl cf))] s.heap := hP
  have hown : s.vm.findClass RX6 = some m.cls := hown
  have hl : lv_has ls 4 [(0, .ref md), (1, .int (nI j))] := hl
  have hi6 : ∀ w ∈ u_ws RX6 TX6 24, w ∈ wsX6_sizeOf := by decide +kernel
  have wf19 := hts (.fieldLink RX6 19 "WarmTubesModel" "house" "[I") (by decide +kernel)
  refine lv_aload_n hx hb dX6_sizeOf_0 rfl (lv_at hl 0 rfl) ?_
  refine va_get (D := D) (ci := 6) (v := .ref hs) (C := RX6) (T := TX6) (N := 24) hx hb hts hi6 hown hK.1 hP 0 rfl rfl 5 (by decide) wf19 (fun _ h9 => h9) rfl dX6_sizeOf_1 ?_
  refine lv_iload_n hx hb dX6_sizeOf_4 rfl (lv_at hl 1 rfl) ?_
  refine lv_iconst (v := 0) hx hb dX6_sizeOf_5 (by decide) ?_
  refine wt_rS (As := [.ref hs, .int (nI j), .int 0]) (rest := []) ⟨hx, hb, hml, hown, hts⟩ (c_X6_of_k3 l D cI cZ cH hs R T f j (by first | assumption | omega) (by first | assumption | omega) (by first | assumption | omega) (by first | assumption | omega) (by first | assumption | omega)) (va_cwS 3 hts gX6_sizeOf_X6_of rfl rfl rfl (by decide +kernel) ⟨Nat.le_of_ble_eq_true rfl, Nat.le_of_ble_eq_true rfl⟩) hK hP [1] rfl rfl hl.1 rfl (Nat.le_of_ble_eq_true rfl) dX6_sizeOf_6 ⟨Nat.le_of_ble_eq_true rfl, Nat.le_of_ble_eq_true rfl⟩ (fun r_1 e_2 => ?_)
  subst e_2
  refine lv_istore_n (lv' := [(2, .int 3), (0, .ref md), (1, .int (nI j))]) hx hb dX6_sizeOf_9 rfl hl (by decide) rfl (fun ls hl => ?_)
  refine lv_iload_n hx hb dX6_sizeOf_10 rfl (lv_at hl 0 rfl) ?_
  refine lv_iconst (v := 4) hx hb dX6_sizeOf_11 (by decide) ?_
  refine lv_icmp_lt (tgt := 21) hx hb dX6_sizeOf_12 (by decide) (fun _ => ?_) (fun h => absurd h (by decide))
  refine lv_iload_n hx hb dX6_sizeOf_21 rfl (lv_at hl 0 rfl) ?_
  refine lv_iconst (v := 2) hx hb dX6_sizeOf_22 (by decide) ?_
  refine lv_icmp_ne (tgt := 32) hx hb dX6_sizeOf_23 (by decide) (fun _ => ?_) (fun h => absurd h (by decide))
  refine lv_aload_n hx hb dX6_sizeOf_32 rfl (lv_at hl 1 rfl) ?_
  refine lv_bipush (v := 11) hx hb dX6_sizeOf_33 (by decide) ?_
  refine wt_goV (wr := [(hs, .inl (cI, 45, .inl f))]) (wt_runV (As := [.int 11]) (rest := []) ⟨hx, hb, hml, hown, hts⟩ (c_X6_began_x l D cI cZ cH md tc kn cf 11 vm_0 vm_1 vm_2 vm_3 vm_4 (.ref hs) vm_6 vm_7 vm_8 vm_9 vm_10 vm_11 vm_12 vm_13 vm_14 vm_15 vm_16 vm_17 vm_18 vm_19 vm_20 vm_21 (by first | assumption | omega)) (cwV 1 hts gX6_sizeOf_X6_began rfl rfl rfl (by decide +kernel) ⟨Nat.le_of_ble_eq_true rfl, Nat.le_of_ble_eq_true rfl⟩) hK hP hD [0, 2] rfl (by decide) (va_recv hK.1 hP (ci := 6) (q0 := 0) rfl rfl) rfl hl.1 rfl (Nat.le_of_ble_eq_true rfl) dX6_sizeOf_35 ⟨Nat.le_of_ble_eq_true rfl, Nat.le_of_ble_eq_true rfl⟩) hP hD hS hA [0, 2] [1] rfl rfl (by decide) (by decide) (fun w_4 H locs h_5 hP hD hS => ?_)
  obtain rfl := h_5
  have hP : va_P D vwCl [(hs, .inl (cI, 45, .inl f)), (md, .inr (6, [vm_0, vm_1, vm_2, vm_3, vm_4, .ref hs, vm_6, vm_7, vm_8, vm_9, vm_10, vm_11, vm_12, vm_13, vm_14, vm_15, vm_16, vm_17, vm_18, vm_19, vm_20, vm_21, .ref tc, .int (nI (kn + 1))])), (tc, .inl (cI, 16, .inl (upd cf kn 11)))] H := hP
  have hD : va_D A [(hs, .inl (cI, 45, .inl f)), (md, .inr (6, [vm_0, vm_1, vm_2, vm_3, vm_4, .ref hs, vm_6, vm_7, vm_8, vm_9, vm_10, vm_11, vm_12, vm_13, vm_14, vm_15, vm_16, vm_17, vm_18, vm_19, vm_20, vm_21, .ref tc, .int (nI (kn + 1))])), (tc, .inl (cI, 16, .inl (upd cf kn 11)))] := hD
  refine lv_aload_n hx hb dX6_sizeOf_38 rfl (lv_at hl 1 rfl) ?_
  refine lv_iload_n hx hb dX6_sizeOf_39 rfl (lv_at hl 2 rfl) ?_
  refine wt_goI (wr := []) (wt_runV (As := [.int (nI j)]) (rest := []) ⟨hx, hb, hml, hown, hts⟩ (c_X6_plainSize_s0 l D cI cZ cH md hs R T f tc (kn + 1) (upd cf kn 11) j vm_0 vm_1 vm_2 vm_3 vm_4 vm_6 vm_7 vm_8 vm_9 vm_10 vm_11 vm_12 vm_13 vm_14 vm_15 vm_16 vm_17 vm_18 vm_19 vm_20 vm_21 (by first | assumption | omega) (by first | assumption | omega) (by first | assumption | omega) (by first | assumption | omega) (by first | assumption | omega)) (cwV 1 hts gX6_sizeOf_X6_plainSize rfl rfl rfl (by decide +kernel) ⟨Nat.le_of_ble_eq_true rfl, Nat.le_of_ble_eq_true rfl⟩) hK hP hD [1, 0, 2] rfl (by decide) (va_recv hK.1 hP (ci := 6) (q0 := 1) rfl rfl) rfl hl.1 rfl (Nat.le_of_ble_eq_true rfl) dX6_sizeOf_40 ⟨Nat.le_of_ble_eq_true rfl, Nat.le_of_ble_eq_true rfl⟩) hP hD hS hA [1, 0, 2] [] rfl rfl (by decide) (by decide) (fun r_6 w_7 H locs h_8 hP hD hS => ?_)
  obtain rfl := h_8
  have hP : va_P D vwCl [(md, .inr (6, [vm_0, vm_1, vm_2, vm_3, vm_4, .ref hs, vm_6, vm_7, vm_8, vm_9, vm_10, vm_11, vm_12, vm_13, vm_14, vm_15, vm_16, vm_17, vm_18, vm_19, vm_20, vm_21, .ref tc, .int (nI ((kn + 1) + 1))])), (hs, .inl (cI, 45, .inl f)), (tc, .inl (cI, 16, .inl (apL [10] (kn + 1) (upd cf kn 11))))] H := hP
  have hD : va_D A [(md, .inr (6, [vm_0, vm_1, vm_2, vm_3, vm_4, .ref hs, vm_6, vm_7, vm_8, vm_9, vm_10, vm_11, vm_12, vm_13, vm_14, vm_15, vm_16, vm_17, vm_18, vm_19, vm_20, vm_21, .ref tc, .int (nI ((kn + 1) + 1))])), (hs, .inl (cI, 45, .inl f)), (tc, .inl (cI, 16, .inl (apL [10] (kn + 1) (upd cf kn 11))))] := hD
  refine lv_istore_n (lv' := [(3, .int r_6), (2, .int 3), (0, .ref md), (1, .int (nI j))]) hx hb dX6_sizeOf_43 rfl hl (by decide) rfl (fun ls hl => ?_)
  refine lv_iload_n hx hb dX6_sizeOf_44 rfl (lv_at hl 0 rfl) ?_
  refine lv_aload_n hx hb dX6_sizeOf_45 rfl (lv_at hl 2 rfl) ?_
  refine lv_iload_n hx hb dX6_sizeOf_46 rfl (lv_at hl 3 rfl) ?_
  refine wt_goI (wr := []) (wt_runV (As := [.int (nI j)]) (rest := [.int r_6]) ⟨hx, hb, hml, hown, hts⟩ (c_X6_markOf_s3 l D cI cZ cH md hs R T f tc ((kn + 1) + 1) (apL [10] (kn + 1) (upd cf kn 11)) j vm_0 vm_1 vm_2 vm_3 vm_4 vm_6 vm_7 vm_8 vm_9 vm_10 vm_11 vm_12 vm_13 vm_14 vm_15 vm_16 vm_17 vm_18 vm_19 vm_20 vm_21 (by first | assumption | omega) (by first | assumption | omega) (by first | assumption | omega) (by first | assumption | omega) (by first | assumption | omega) (by first | assumption | omega)) (cwV 1 hts gX6_sizeOf_X6_markOf rfl rfl rfl (by decide +kernel) ⟨Nat.le_of_ble_eq_true rfl, Nat.le_of_ble_eq_true rfl⟩) hK hP hD [0, 1, 2] rfl (by decide) (va_recv hK.1 hP (ci := 6) (q0 := 0) rfl rfl) rfl hl.1 rfl (Nat.le_of_ble_eq_true rfl) dX6_sizeOf_47 ⟨Nat.le_of_ble_eq_true rfl, Nat.le_of_ble_eq_true rfl⟩) hP hD hS hA [0, 1, 2] [] rfl rfl (by decide) (by decide) (fun r_9 w_10 H locs h_11 hP hD hS => ?_)
  obtain rfl := h_11
  have hP : va_P D vwCl [(md, .inr (6, [vm_0, vm_1, vm_2, vm_3, vm_4, .ref hs, vm_6, vm_7, vm_8, vm_9, vm_10, vm_11, vm_12, vm_13, vm_14, vm_15, vm_16, vm_17, vm_18, vm_19, vm_20, vm_21, .ref tc, .int (nI (((kn + 1) + 1) + 3))])), (hs, .inl (cI, 45, .inl f)), (tc, .inl (cI, 16, .inl (apL [22, 21, 20] ((kn + 1) + 1) (apL [10] (kn + 1) (upd cf kn 11)))))] H := hP
  have hD : va_D A [(md, .inr (6, [vm_0, vm_1, vm_2, vm_3, vm_4, .ref hs, vm_6, vm_7, vm_8, vm_9, vm_10, vm_11, vm_12, vm_13, vm_14, vm_15, vm_16, vm_17, vm_18, vm_19, vm_20, vm_21, .ref tc, .int (nI (((kn + 1) + 1) + 3))])), (hs, .inl (cI, 45, .inl f)), (tc, .inl (cI, 16, .inl (apL [22, 21, 20] ((kn + 1) + 1) (apL [10] (kn + 1) (upd cf kn 11)))))] := hD
  refine lv_iadd hx hb dX6_sizeOf_50 ?_
  refine lv_topi (fun ov_12 _ => ?_)
  refine lv_istore_n (lv' := [(3, .int ov_12), (2, .int 3), (0, .ref md), (1, .int (nI j))]) hx hb dX6_sizeOf_51 rfl hl (by decide) rfl (fun ls hl => ?_)
  refine lv_iload_n hx hb dX6_sizeOf_52 rfl (lv_at hl 1 rfl) ?_
  refine lv_iconst (v := 2) hx hb dX6_sizeOf_53 (by decide) ?_
  refine lv_icmp_ne (tgt := 62) hx hb dX6_sizeOf_54 (by decide) (fun _ => ?_) (fun h => absurd h (by decide))
  refine lv_iload_n hx hb dX6_sizeOf_62 rfl (lv_at hl 0 rfl) ?_
  have hP9 := hP.sub (ws' := [(md, .inr (6, [vm_0, vm_1, vm_2, vm_3, vm_4, .ref hs, vm_6, vm_7, vm_8, vm_9, vm_10, vm_11, vm_12, vm_13, vm_14, vm_15, vm_16, vm_17, vm_18, vm_19, vm_20, vm_21, .ref tc, .int (nI (((kn + 1) + 1) + 3))])), (hs, .inl (cI, 45, .inl f)), (tc, .inl (cI, 16, .inl (apL [22, 21, 20] ((kn + 1) + 1) (apL [10] (kn + 1) (upd cf kn 11)))))]) [0, 1, 2] rfl
  have hD9 := hD.sub (ws' := [(md, .inr (6, [vm_0, vm_1, vm_2, vm_3, vm_4, .ref hs, vm_6, vm_7, vm_8, vm_9, vm_10, vm_11, vm_12, vm_13, vm_14, vm_15, vm_16, vm_17, vm_18, vm_19, vm_20, vm_21, .ref tc, .int (nI (((kn + 1) + 1) + 3))])), (hs, .inl (cI, 45, .inl f)), (tc, .inl (cI, 16, .inl (apL [22, 21, 20] ((kn + 1) + 1) (apL [10] (kn + 1) (upd cf kn 11)))))]) [0, 1, 2] (by decide) rfl
  exact wt_iret hx hb hr hlocks hP9 hD9 hS rfl dX6_sizeOf_63
set_option maxHeartbeats 4000000 in
set_option maxRecDepth 100000 in
theorem c_X6_sizeOf_s4 (l : Launch) (D : va_G) (cI cZ cH : ClassId) (md hs : Nat) (R T : Nat) (f : Nat → Int32) (tc kn : Nat) (cf : Nat → Int32) (j : Nat) (vm_0 vm_1 vm_2 vm_3 vm_4 vm_6 vm_7 vm_8 vm_9 vm_10 vm_11 vm_12 vm_13 vm_14 vm_15 vm_16 vm_17 vm_18 vm_19 vm_20 vm_21 : Value) (hR5 : R ≤ 5) (hT6 : T ≤ 6) (hrk : rk R T f) (hj6 : j < 6) (hkn : kn + 2 ≤ 16) (hks : f (15 + 5 * j) = 4) : wt_M l yX6_sizeOf wsX6_sizeOf ({ frames := 3, cells := 0, slots := 0, locals := 66 } : Room) D (wt_T cI cZ cH) [.ref md, .int (nI j)] [(md, .inr (6, [vm_0, vm_1, vm_2, vm_3, vm_4, .ref hs, vm_6, vm_7, vm_8, vm_9, vm_10, vm_11, vm_12, vm_13, vm_14, vm_15, vm_16, vm_17, vm_18, vm_19, vm_20, vm_21, .ref tc, .int (nI kn)])), (hs, .inl (cI, 45, .inl f)), (tc, .inl (cI, 16, .inl cf))] (wt_QI D (fun r w => w = [(md, .inr (6, [vm_0, vm_1, vm_2, vm_3, vm_4, .ref hs, vm_6, vm_7, vm_8, vm_9, vm_10, vm_11, vm_12, vm_13, vm_14, vm_15, vm_16, vm_17, vm_18, vm_19, vm_20, vm_21, .ref tc, .int (nI (kn + 2))])), (hs, .inl (cI, 45, .inl f)), (tc, .inl (cI, 16, .inl (apL [13, 10] kn cf)))])) := by
  refine wt_M.ofW (cc := cX6_sizeOf) (maxL := 4) (ret := (some .int)) (by decide) rfl (Nat.le_of_ble_eq_true rfl) ?_
  intro p e s m below meth c A ls hx hb hr hts hown hlocks hml hnm hP hK hD hA hS hl
  have hP : va_P D vwCl [(md, .inr (6, [vm_0, vm_1, vm_2, vm_3, vm_4, .ref hs, vm_6, vm_7, vm_8, vm_9, vm_10, vm_11, vm_12, vm_13, vm_14, vm_15, vm_16, vm_17, vm_18, vm_19, vm_20, vm_21, .ref tc, .int (nI kn)])), (hs, .inl (cI, 45, .inl f)), (tc, .inl (cI, 16, .inl cf))] s.heap := hP
  have hown : s.vm.findClass RX6 = some m.cls := hown
  have hl : lv_has ls 4 [(0, .ref md), (1, .int (nI j))] := hl
  have hi6 : ∀ w ∈ u_ws RX6 TX6 24, w ∈ wsX6_sizeOf := by decide +kernel
  have wf19 := hts (.fieldLink RX6 19 "WarmTubesModel" "house" "[I") (by decide +kernel)
  refine lv_aload_n hx hb dX6_sizeOf_0 rfl (lv_at hl 0 rfl) ?_
  refine va_get (D := D) (ci := 6) (v := .ref hs) (C := RX6) (T := TX6) (N := 24) hx hb hts hi6 hown hK.1 hP 0 rfl rfl 5 (by decide) wf19 (fun _ h9 => h9) rfl dX6_sizeOf_1 ?_
  refine lv_iload_n hx hb dX6_sizeOf_4 rfl (lv_at hl 1 rfl) ?_
  refine lv_iconst (v := 0) hx hb dX6_sizeOf_5 (by decide) ?_
  refine wt_rS (As := [.ref hs, .int (nI j), .int 0]) (rest := []) ⟨hx, hb, hml, hown, hts⟩ (c_X6_of_k4 l D cI cZ cH hs R T f j (by first | assumption | omega) (by first | assumption | omega) (by first | assumption | omega) (by first | assumption | omega) (by first | assumption | omega)) (va_cwS 3 hts gX6_sizeOf_X6_of rfl rfl rfl (by decide +kernel) ⟨Nat.le_of_ble_eq_true rfl, Nat.le_of_ble_eq_true rfl⟩) hK hP [1] rfl rfl hl.1 rfl (Nat.le_of_ble_eq_true rfl) dX6_sizeOf_6 ⟨Nat.le_of_ble_eq_true rfl, Nat.le_of_ble_eq_true rfl⟩ (fun r_1 e_2 => ?_)
  subst e_2
  refine lv_istore_n (lv' := [(2, .int 4), (0, .ref md), (1, .int (nI j))]) hx hb dX6_sizeOf_9 rfl hl (by decide) rfl (fun ls hl => ?_)
  refine lv_iload_n hx hb dX6_sizeOf_10 rfl (lv_at hl 0 rfl) ?_
  refine lv_iconst (v := 4) hx hb dX6_sizeOf_11 (by decide) ?_
  refine lv_icmp_lt (tgt := 21) hx hb dX6_sizeOf_12 (by decide) (fun h => absurd h (by decide)) (fun _ => ?_)
  refine lv_aload_n hx hb dX6_sizeOf_15 rfl (lv_at hl 1 rfl) ?_
  refine lv_iload_n hx hb dX6_sizeOf_16 rfl (lv_at hl 2 rfl) ?_
  refine wt_goI (wr := []) (wt_runV (As := [.int (nI j)]) (rest := []) ⟨hx, hb, hml, hown, hts⟩ (c_X6_woolSize_s4 l D cI cZ cH md hs R T f tc kn cf j vm_0 vm_1 vm_2 vm_3 vm_4 vm_6 vm_7 vm_8 vm_9 vm_10 vm_11 vm_12 vm_13 vm_14 vm_15 vm_16 vm_17 vm_18 vm_19 vm_20 vm_21 (by first | assumption | omega) (by first | assumption | omega) (by first | assumption | omega) (by first | assumption | omega) (by first | assumption | omega) (by first | assumption | omega)) (cwV 1 hts gX6_sizeOf_X6_woolSize rfl rfl rfl (by decide +kernel) ⟨Nat.le_of_ble_eq_true rfl, Nat.le_of_ble_eq_true rfl⟩) hK hP hD [0, 1, 2] rfl (by decide) (va_recv hK.1 hP (ci := 6) (q0 := 0) rfl rfl) rfl hl.1 rfl (Nat.le_of_ble_eq_true rfl) dX6_sizeOf_17 ⟨Nat.le_of_ble_eq_true rfl, Nat.le_of_ble_eq_true rfl⟩) hP hD hS hA [0, 1, 2] [] rfl rfl (by decide) (by decide) (fun r_3 w_4 H locs h_5 hP hD hS => ?_)
  obtain rfl := h_5
  have hP : va_P D vwCl [(md, .inr (6, [vm_0, vm_1, vm_2, vm_3, vm_4, .ref hs, vm_6, vm_7, vm_8, vm_9, vm_10, vm_11, vm_12, vm_13, vm_14, vm_15, vm_16, vm_17, vm_18, vm_19, vm_20, vm_21, .ref tc, .int (nI (kn + 2))])), (hs, .inl (cI, 45, .inl f)), (tc, .inl (cI, 16, .inl (apL [13, 10] kn cf)))] H := hP
  have hD : va_D A [(md, .inr (6, [vm_0, vm_1, vm_2, vm_3, vm_4, .ref hs, vm_6, vm_7, vm_8, vm_9, vm_10, vm_11, vm_12, vm_13, vm_14, vm_15, vm_16, vm_17, vm_18, vm_19, vm_20, vm_21, .ref tc, .int (nI (kn + 2))])), (hs, .inl (cI, 45, .inl f)), (tc, .inl (cI, 16, .inl (apL [13, 10] kn cf)))] := hD
  have hP9 := hP.sub (ws' := [(md, .inr (6, [vm_0, vm_1, vm_2, vm_3, vm_4, .ref hs, vm_6, vm_7, vm_8, vm_9, vm_10, vm_11, vm_12, vm_13, vm_14, vm_15, vm_16, vm_17, vm_18, vm_19, vm_20, vm_21, .ref tc, .int (nI (kn + 2))])), (hs, .inl (cI, 45, .inl f)), (tc, .inl (cI, 16, .inl (apL [13, 10] kn cf)))]) [0, 1, 2] rfl
  have hD9 := hD.sub (ws' := [(md, .inr (6, [vm_0, vm_1, vm_2, vm_3, vm_4, .ref hs, vm_6, vm_7, vm_8, vm_9, vm_10, vm_11, vm_12, vm_13, vm_14, vm_15, vm_16, vm_17, vm_18, vm_19, vm_20, vm_21, .ref tc, .int (nI (kn + 2))])), (hs, .inl (cI, 45, .inl f)), (tc, .inl (cI, 16, .inl (apL [13, 10] kn cf)))]) [0, 1, 2] (by decide) rfl
  exact wt_iret hx hb hr hlocks hP9 hD9 hS rfl dX6_sizeOf_20
set_option maxHeartbeats 4000000 in
set_option maxRecDepth 100000 in
theorem c_X6_sizeOf_s5 (l : Launch) (D : va_G) (cI cZ cH : ClassId) (md hs : Nat) (R T : Nat) (f : Nat → Int32) (tc kn : Nat) (cf : Nat → Int32) (j : Nat) (vm_0 vm_1 vm_2 vm_3 vm_4 vm_6 vm_7 vm_8 vm_9 vm_10 vm_11 vm_12 vm_13 vm_14 vm_15 vm_16 vm_17 vm_18 vm_19 vm_20 vm_21 : Value) (hR5 : R ≤ 5) (hT6 : T ≤ 6) (hrk : rk R T f) (hj6 : j < 6) (hkn : kn + 3 ≤ 16) (hks : f (15 + 5 * j) = 5) : wt_M l yX6_sizeOf wsX6_sizeOf ({ frames := 3, cells := 0, slots := 0, locals := 66 } : Room) D (wt_T cI cZ cH) [.ref md, .int (nI j)] [(md, .inr (6, [vm_0, vm_1, vm_2, vm_3, vm_4, .ref hs, vm_6, vm_7, vm_8, vm_9, vm_10, vm_11, vm_12, vm_13, vm_14, vm_15, vm_16, vm_17, vm_18, vm_19, vm_20, vm_21, .ref tc, .int (nI kn)])), (hs, .inl (cI, 45, .inl f)), (tc, .inl (cI, 16, .inl cf))] (wt_QI D (fun r w => w = [(md, .inr (6, [vm_0, vm_1, vm_2, vm_3, vm_4, .ref hs, vm_6, vm_7, vm_8, vm_9, vm_10, vm_11, vm_12, vm_13, vm_14, vm_15, vm_16, vm_17, vm_18, vm_19, vm_20, vm_21, .ref tc, .int (nI (kn + 3))])), (hs, .inl (cI, 45, .inl f)), (tc, .inl (cI, 16, .inl (apL [14, 13, 10] kn cf)))])) := by
  refine wt_M.ofW (cc := cX6_sizeOf) (maxL := 4) (ret := (some .int)) (by decide) rfl (Nat.le_of_ble_eq_true rfl) ?_
  intro p e s m below meth c A ls hx hb hr hts hown hlocks hml hnm hP hK hD hA hS hl
  have hP : va_P D vwCl [(md, .inr (6, [vm_0, vm_1, vm_2, vm_3, vm_4, .ref hs, vm_6, vm_7, vm_8, vm_9, vm_10, vm_11, vm_12, vm_13, vm_14, vm_15, vm_16, vm_17, vm_18, vm_19, vm_20, vm_21, .ref tc, .int (nI kn)])), (hs, .inl (cI, 45, .inl f)), (tc, .inl (cI, 16, .inl cf))] s.heap := hP
  have hown : s.vm.findClass RX6 = some m.cls := hown
  have hl : lv_has ls 4 [(0, .ref md), (1, .int (nI j))] := hl
  have hi6 : ∀ w ∈ u_ws RX6 TX6 24, w ∈ wsX6_sizeOf := by decide +kernel
  have wf19 := hts (.fieldLink RX6 19 "WarmTubesModel" "house" "[I") (by decide +kernel)
  refine lv_aload_n hx hb dX6_sizeOf_0 rfl (lv_at hl 0 rfl) ?_
  refine va_get (D := D) (ci := 6) (v := .ref hs) (C := RX6) (T := TX6) (N := 24) hx hb hts hi6 hown hK.1 hP 0 rfl rfl 5 (by decide) wf19 (fun _ h9 => h9) rfl dX6_sizeOf_1 ?_
  refine lv_iload_n hx hb dX6_sizeOf_4 rfl (lv_at hl 1 rfl) ?_
  refine lv_iconst (v := 0) hx hb dX6_sizeOf_5 (by decide) ?_
  refine wt_rS (As := [.ref hs, .int (nI j), .int 0]) (rest := []) ⟨hx, hb, hml, hown, hts⟩ (c_X6_of_k5 l D cI cZ cH hs R T f j (by first | assumption | omega) (by first | assumption | omega) (by first | assumption | omega) (by first | assumption | omega) (by first | assumption | omega)) (va_cwS 3 hts gX6_sizeOf_X6_of rfl rfl rfl (by decide +kernel) ⟨Nat.le_of_ble_eq_true rfl, Nat.le_of_ble_eq_true rfl⟩) hK hP [1] rfl rfl hl.1 rfl (Nat.le_of_ble_eq_true rfl) dX6_sizeOf_6 ⟨Nat.le_of_ble_eq_true rfl, Nat.le_of_ble_eq_true rfl⟩ (fun r_1 e_2 => ?_)
  subst e_2
  refine lv_istore_n (lv' := [(2, .int 5), (0, .ref md), (1, .int (nI j))]) hx hb dX6_sizeOf_9 rfl hl (by decide) rfl (fun ls hl => ?_)
  refine lv_iload_n hx hb dX6_sizeOf_10 rfl (lv_at hl 0 rfl) ?_
  refine lv_iconst (v := 4) hx hb dX6_sizeOf_11 (by decide) ?_
  refine lv_icmp_lt (tgt := 21) hx hb dX6_sizeOf_12 (by decide) (fun h => absurd h (by decide)) (fun _ => ?_)
  refine lv_aload_n hx hb dX6_sizeOf_15 rfl (lv_at hl 1 rfl) ?_
  refine lv_iload_n hx hb dX6_sizeOf_16 rfl (lv_at hl 2 rfl) ?_
  refine wt_goI (wr := []) (wt_runV (As := [.int (nI j)]) (rest := []) ⟨hx, hb, hml, hown, hts⟩ (c_X6_woolSize_s5 l D cI cZ cH md hs R T f tc kn cf j vm_0 vm_1 vm_2 vm_3 vm_4 vm_6 vm_7 vm_8 vm_9 vm_10 vm_11 vm_12 vm_13 vm_14 vm_15 vm_16 vm_17 vm_18 vm_19 vm_20 vm_21 (by first | assumption | omega) (by first | assumption | omega) (by first | assumption | omega) (by first | assumption | omega) (by first | assumption | omega) (by first | assumption | omega)) (cwV 1 hts gX6_sizeOf_X6_woolSize rfl rfl rfl (by decide +kernel) ⟨Nat.le_of_ble_eq_true rfl, Nat.le_of_ble_eq_true rfl⟩) hK hP hD [0, 1, 2] rfl (by decide) (va_recv hK.1 hP (ci := 6) (q0 := 0) rfl rfl) rfl hl.1 rfl (Nat.le_of_ble_eq_true rfl) dX6_sizeOf_17 ⟨Nat.le_of_ble_eq_true rfl, Nat.le_of_ble_eq_true rfl⟩) hP hD hS hA [0, 1, 2] [] rfl rfl (by decide) (by decide) (fun r_3 w_4 H locs h_5 hP hD hS => ?_)
  obtain rfl := h_5
  have hP : va_P D vwCl [(md, .inr (6, [vm_0, vm_1, vm_2, vm_3, vm_4, .ref hs, vm_6, vm_7, vm_8, vm_9, vm_10, vm_11, vm_12, vm_13, vm_14, vm_15, vm_16, vm_17, vm_18, vm_19, vm_20, vm_21, .ref tc, .int (nI (kn + 3))])), (hs, .inl (cI, 45, .inl f)), (tc, .inl (cI, 16, .inl (apL [14, 13, 10] kn cf)))] H := hP
  have hD : va_D A [(md, .inr (6, [vm_0, vm_1, vm_2, vm_3, vm_4, .ref hs, vm_6, vm_7, vm_8, vm_9, vm_10, vm_11, vm_12, vm_13, vm_14, vm_15, vm_16, vm_17, vm_18, vm_19, vm_20, vm_21, .ref tc, .int (nI (kn + 3))])), (hs, .inl (cI, 45, .inl f)), (tc, .inl (cI, 16, .inl (apL [14, 13, 10] kn cf)))] := hD
  have hP9 := hP.sub (ws' := [(md, .inr (6, [vm_0, vm_1, vm_2, vm_3, vm_4, .ref hs, vm_6, vm_7, vm_8, vm_9, vm_10, vm_11, vm_12, vm_13, vm_14, vm_15, vm_16, vm_17, vm_18, vm_19, vm_20, vm_21, .ref tc, .int (nI (kn + 3))])), (hs, .inl (cI, 45, .inl f)), (tc, .inl (cI, 16, .inl (apL [14, 13, 10] kn cf)))]) [0, 1, 2] rfl
  have hD9 := hD.sub (ws' := [(md, .inr (6, [vm_0, vm_1, vm_2, vm_3, vm_4, .ref hs, vm_6, vm_7, vm_8, vm_9, vm_10, vm_11, vm_12, vm_13, vm_14, vm_15, vm_16, vm_17, vm_18, vm_19, vm_20, vm_21, .ref tc, .int (nI (kn + 3))])), (hs, .inl (cI, 45, .inl f)), (tc, .inl (cI, 16, .inl (apL [14, 13, 10] kn cf)))]) [0, 1, 2] (by decide) rfl
  exact wt_iret hx hb hr hlocks hP9 hD9 hS rfl dX6_sizeOf_20
set_option maxHeartbeats 4000000 in
set_option maxRecDepth 100000 in
theorem c_X6_ask_x (l : Launch) (D : va_G) (cI cZ cH : ClassId) (md hs : Nat) (R T : Nat) (f : Nat → Int32) (tc kn : Nat) (cf : Nat → Int32) (a1 a2 : Int32) (vm_0 vm_1 vm_2 vm_3 vm_4 vm_6 vm_7 vm_8 vm_9 vm_10 vm_11 vm_12 vm_13 vm_14 vm_15 vm_16 vm_17 vm_18 vm_19 vm_20 vm_21 : Value) (hR5 : R ≤ 5) (hT6 : T ≤ 6) (hrk : rk R T f) (hkn : kn ≤ 16) (hkv : kV T (fun t => f (15 + 5 * t))) : wt_M l yX6_ask wsX6_ask ({ frames := 4, cells := 0, slots := 0, locals := 89 } : Room) D (wt_T cI cZ cH) [.ref md, .int a1, .int a2] [(md, .inr (6, [vm_0, vm_1, vm_2, vm_3, vm_4, .ref hs, vm_6, vm_7, vm_8, vm_9, vm_10, vm_11, vm_12, vm_13, vm_14, vm_15, vm_16, vm_17, vm_18, vm_19, vm_20, vm_21, .ref tc, .int (nI kn)])), (hs, .inl (cI, 45, .inl f)), (tc, .inl (cI, 16, .inl cf))] (wt_QI D (fun r w => ∃ (cf2 : Nat → Int32) (kn2 : Nat), w = [(md, .inr (6, [.int 0, vm_1, vm_2, vm_3, vm_4, .ref hs, vm_6, vm_7, vm_8, vm_9, vm_10, vm_11, vm_12, vm_13, vm_14, vm_15, vm_16, vm_17, vm_18, vm_19, vm_20, vm_21, .ref tc, .int (nI kn2)])), (hs, .inl (cI, 45, .inl f)), (tc, .inl (cI, 16, .inl cf2))] ∧ kn2 = akN T (fun t => f (15 + 5 * t)) a1 a2 kn ∧ cf2 = akG T (fun t => f (15 + 5 * t)) a1 a2 cf ∧ kn2 ≤ 16)) := by
  refine wt_M.ofW (cc := cX6_ask) (maxL := 3) (ret := (some .int)) (by decide) rfl (Nat.le_of_ble_eq_true rfl) ?_
  intro p e s m below meth c A ls hx hb hr hts hown hlocks hml hnm hP hK hD hA hS hl
  have hP : va_P D vwCl [(md, .inr (6, [vm_0, vm_1, vm_2, vm_3, vm_4, .ref hs, vm_6, vm_7, vm_8, vm_9, vm_10, vm_11, vm_12, vm_13, vm_14, vm_15, vm_16, vm_17, vm_18, vm_19, vm_20, vm_21, .ref tc, .int (nI kn)])), (hs, .inl (cI, 45, .inl f)), (tc, .inl (cI, 16, .inl cf))] s.heap := hP
  have hown : s.vm.findClass RX6 = some m.cls := hown
  have hl : lv_has ls 3 [(0, .ref md), (1, .int a1), (2, .int a2)] := hl
  have hi6 : ∀ w ∈ u_ws RX6 TX6 24, w ∈ wsX6_ask := by decide +kernel
  have wc67 := hts (.constant RX6 67 (-1000001)) (by decide +kernel)
  have wf289 := hts (.fieldLink RX6 289 "WarmTubesModel" "traced" "I") (by decide +kernel)
  have wf47 := hts (.fieldLink RX6 47 "WarmTubesModel" "thrown" "I") (by decide +kernel)
  refine lv_aload_n hx hb dX6_ask_0 rfl (lv_at hl 0 rfl) ?_
  refine lv_iconst (v := 0) hx hb dX6_ask_1 (by decide) ?_
  refine va_put (D := D) (ci := 6) (v := .int 0) (ty := .int) (C := RX6) (T := TX6) (N := 24) hx hb hts hi6 tyX6 tyX6_ok nmX6 hown hK.1 hP hD hS 0 rfl rfl 0 (by decide) wf47 (fun _ h9 => h9) rfl (by decide +kernel) rfl rfl (Nat.le_of_ble_eq_true rfl) dX6_ask_2 (fun H locs hP hD hS => ?_)
  have hP : va_P D vwCl [(md, .inr (6, [.int 0, vm_1, vm_2, vm_3, vm_4, .ref hs, vm_6, vm_7, vm_8, vm_9, vm_10, vm_11, vm_12, vm_13, vm_14, vm_15, vm_16, vm_17, vm_18, vm_19, vm_20, vm_21, .ref tc, .int (nI kn)])), (hs, .inl (cI, 45, .inl f)), (tc, .inl (cI, 16, .inl cf))] H := hP
  have hD : va_D A [(md, .inr (6, [.int 0, vm_1, vm_2, vm_3, vm_4, .ref hs, vm_6, vm_7, vm_8, vm_9, vm_10, vm_11, vm_12, vm_13, vm_14, vm_15, vm_16, vm_17, vm_18, vm_19, vm_20, vm_21, .ref tc, .int (nI kn)])), (hs, .inl (cI, 45, .inl f)), (tc, .inl (cI, 16, .inl cf))] := hD
  refine lv_aload_n hx hb dX6_ask_5 rfl (lv_at hl 0 rfl) ?_
  refine lv_iload_n hx hb dX6_ask_6 rfl (lv_at hl 1 rfl) ?_
  refine wt_rV (As := [.int a1]) (rest := []) ⟨hx, hb, hml, hown, hts⟩ (c_X6_isTube l D cI cZ cH md hs R T f a1 (.int 0) vm_1 vm_2 vm_3 vm_4 vm_6 vm_7 vm_8 vm_9 vm_10 vm_11 vm_12 vm_13 vm_14 vm_15 vm_16 vm_17 vm_18 vm_19 vm_20 vm_21 (.ref tc) (.int (nI kn)) (by first | assumption | omega) (by first | assumption | omega) (by first | assumption | omega)) (cwV 1 hts gX6_ask_X6_isTube rfl rfl rfl (by decide +kernel) ⟨Nat.le_of_ble_eq_true rfl, Nat.le_of_ble_eq_true rfl⟩) hK hP [0, 1] rfl (va_recv hK.1 hP (ci := 6) (q0 := 0) rfl rfl) rfl hl.1 rfl (Nat.le_of_ble_eq_true rfl) dX6_ask_7 ⟨Nat.le_of_ble_eq_true rfl, Nat.le_of_ble_eq_true rfl⟩ (fun r_1 e_2 => ?_)
  subst e_2
  refine lv_if_eq (tgt := 23) hx hb dX6_ask_10 (by decide) (fun c_3 => ?_) (fun c_3 => ?_)
  · skip
    refine lv_ldc hx hb hown wc67 dX6_ask_23 ?_
    have hP9 := hP.sub (ws' := [(md, .inr (6, [.int 0, vm_1, vm_2, vm_3, vm_4, .ref hs, vm_6, vm_7, vm_8, vm_9, vm_10, vm_11, vm_12, vm_13, vm_14, vm_15, vm_16, vm_17, vm_18, vm_19, vm_20, vm_21, .ref tc, .int (nI kn)])), (hs, .inl (cI, 45, .inl f)), (tc, .inl (cI, 16, .inl cf))]) [0, 1, 2] rfl
    have hD9 := hD.sub (ws' := [(md, .inr (6, [.int 0, vm_1, vm_2, vm_3, vm_4, .ref hs, vm_6, vm_7, vm_8, vm_9, vm_10, vm_11, vm_12, vm_13, vm_14, vm_15, vm_16, vm_17, vm_18, vm_19, vm_20, vm_21, .ref tc, .int (nI kn)])), (hs, .inl (cI, 45, .inl f)), (tc, .inl (cI, 16, .inl cf))]) [0, 1, 2] (by decide) rfl
    exact wt_iret hx hb hr hlocks hP9 hD9 hS ⟨cf, kn, rfl, ⟨(ak_a (n := kn) (g := cf) c_3).1, (ak_a (n := kn) (g := cf) c_3).2, by omega⟩⟩ dX6_ask_25
  · skip
    obtain ⟨j_4, hj_4, rfl⟩ := wI_natT (T := T) (by omega) c_3
    refine lv_iload_n hx hb dX6_ask_13 rfl (lv_at hl 2 rfl) ?_
    refine lv_i2l hx hb dX6_ask_14 rfl ?_
    refine lv_lconst (v := 0) hx hb dX6_ask_15 (by decide) ?_
    refine lv_lconst (v := 1) hx hb dX6_ask_16 (by decide) ?_
    refine wt_rS (As := [.long a2.toInt64, .long 0, .long 1]) (rest := []) ⟨hx, hb, hml, hown, hts⟩ (c_X6_in l D cI cZ cH a2.toInt64 0 1) (va_cwS 3 hts gX6_ask_X6_in rfl rfl rfl (by decide +kernel) ⟨Nat.le_of_ble_eq_true rfl, Nat.le_of_ble_eq_true rfl⟩) hK hP [] rfl rfl hl.1 rfl (Nat.le_of_ble_eq_true rfl) dX6_ask_17 ⟨Nat.le_of_ble_eq_true rfl, Nat.le_of_ble_eq_true rfl⟩ (fun r_5 e_6 => ?_)
    subst e_6
    refine wt_top (z := wI a2 0 1) (wL_I' (by decide) (by decide)) ?_
    refine lv_if_ne (tgt := 26) hx hb dX6_ask_20 (by decide) (fun c_7 => ?_) (fun c_7 => ?_)
    · skip
      obtain ⟨j_8, hj_8, hj_8b, rfl⟩ := wI_nat (a := 0) (b := 1) (by omega) (by omega) c_7
      obtain ⟨ks, hk1, hk5, hke⟩ := hkv j_4 (by omega)
      rcases (show ks = 1 ∨ ks = 2 ∨ ks = 3 ∨ ks = 4 ∨ ks = 5 by omega) with hs9 | hs9 | hs9 | hs9 | hs9
      · skip
        subst hs9
        refine lv_aload_n hx hb dX6_ask_26 rfl (lv_at hl 0 rfl) ?_
        refine lv_iconst (v := 0) hx hb dX6_ask_27 (by decide) ?_
        refine va_put (D := D) (ci := 6) (v := .int 0) (ty := .int) (C := RX6) (T := TX6) (N := 24) hx hb hts hi6 tyX6 tyX6_ok nmX6 hown hK.1 hP hD hS 0 rfl rfl 23 (by decide) wf289 (fun _ h9 => h9) rfl (by decide +kernel) rfl rfl (Nat.le_of_ble_eq_true rfl) dX6_ask_28 (fun H locs hP hD hS => ?_)
        have hP : va_P D vwCl [(md, .inr (6, [.int 0, vm_1, vm_2, vm_3, vm_4, .ref hs, vm_6, vm_7, vm_8, vm_9, vm_10, vm_11, vm_12, vm_13, vm_14, vm_15, vm_16, vm_17, vm_18, vm_19, vm_20, vm_21, .ref tc, .int 0])), (hs, .inl (cI, 45, .inl f)), (tc, .inl (cI, 16, .inl cf))] H := hP
        have hD : va_D A [(md, .inr (6, [.int 0, vm_1, vm_2, vm_3, vm_4, .ref hs, vm_6, vm_7, vm_8, vm_9, vm_10, vm_11, vm_12, vm_13, vm_14, vm_15, vm_16, vm_17, vm_18, vm_19, vm_20, vm_21, .ref tc, .int 0])), (hs, .inl (cI, 45, .inl f)), (tc, .inl (cI, 16, .inl cf))] := hD
        refine lv_iload_n hx hb dX6_ask_31 rfl (lv_at hl 2 rfl) ?_
        refine lv_if_ne (tgt := 43) hx hb dX6_ask_32 (by decide) (fun c_9 => ?_) (fun c_9 => ?_)
        · skip
          have c_9 : ¬ (j_8 = 0) := fun h => c_9 ((nI_eq (a := j_8) (b := 0) (by omega) (by omega)).mpr h)
          refine lv_aload_n hx hb dX6_ask_43 rfl (lv_at hl 0 rfl) ?_
          refine lv_iload_n hx hb dX6_ask_44 rfl (lv_at hl 1 rfl) ?_
          refine wt_goI (wr := []) (wt_runV (As := [.int (nI j_4)]) (rest := []) ⟨hx, hb, hml, hown, hts⟩ (c_X6_markOf_s1 l D cI cZ cH md hs R T f tc 0 cf j_4 (.int 0) vm_1 vm_2 vm_3 vm_4 vm_6 vm_7 vm_8 vm_9 vm_10 vm_11 vm_12 vm_13 vm_14 vm_15 vm_16 vm_17 vm_18 vm_19 vm_20 vm_21 (by first | assumption | omega) (by first | assumption | omega) (by first | assumption | omega) (by first | assumption | omega) (by first | assumption | omega) hke) (cwV 1 hts gX6_ask_X6_markOf rfl rfl rfl (by decide +kernel) ⟨Nat.le_of_ble_eq_true rfl, Nat.le_of_ble_eq_true rfl⟩) hK hP hD [0, 1, 2] rfl (by decide) (va_recv hK.1 hP (ci := 6) (q0 := 0) rfl rfl) rfl hl.1 rfl (Nat.le_of_ble_eq_true rfl) dX6_ask_45 ⟨Nat.le_of_ble_eq_true rfl, Nat.le_of_ble_eq_true rfl⟩) hP hD hS hA [0, 1, 2] [] rfl rfl (by decide) (by decide) (fun r_10 w_11 H locs h_12 hP hD hS => ?_)
          obtain rfl := h_12
          have hP : va_P D vwCl [(md, .inr (6, [.int 0, vm_1, vm_2, vm_3, vm_4, .ref hs, vm_6, vm_7, vm_8, vm_9, vm_10, vm_11, vm_12, vm_13, vm_14, vm_15, vm_16, vm_17, vm_18, vm_19, vm_20, vm_21, .ref tc, .int (nI (0 + 2))])), (hs, .inl (cI, 45, .inl f)), (tc, .inl (cI, 16, .inl (apL [21, 20] 0 cf)))] H := hP
          have hD : va_D A [(md, .inr (6, [.int 0, vm_1, vm_2, vm_3, vm_4, .ref hs, vm_6, vm_7, vm_8, vm_9, vm_10, vm_11, vm_12, vm_13, vm_14, vm_15, vm_16, vm_17, vm_18, vm_19, vm_20, vm_21, .ref tc, .int (nI (0 + 2))])), (hs, .inl (cI, 45, .inl f)), (tc, .inl (cI, 16, .inl (apL [21, 20] 0 cf)))] := hD
          have hP9 := hP.sub (ws' := [(md, .inr (6, [.int 0, vm_1, vm_2, vm_3, vm_4, .ref hs, vm_6, vm_7, vm_8, vm_9, vm_10, vm_11, vm_12, vm_13, vm_14, vm_15, vm_16, vm_17, vm_18, vm_19, vm_20, vm_21, .ref tc, .int (nI (0 + 2))])), (hs, .inl (cI, 45, .inl f)), (tc, .inl (cI, 16, .inl (apL [21, 20] 0 cf)))]) [0, 1, 2] rfl
          have hD9 := hD.sub (ws' := [(md, .inr (6, [.int 0, vm_1, vm_2, vm_3, vm_4, .ref hs, vm_6, vm_7, vm_8, vm_9, vm_10, vm_11, vm_12, vm_13, vm_14, vm_15, vm_16, vm_17, vm_18, vm_19, vm_20, vm_21, .ref tc, .int (nI (0 + 2))])), (hs, .inl (cI, 45, .inl f)), (tc, .inl (cI, 16, .inl (apL [21, 20] 0 cf)))]) [0, 1, 2] (by decide) rfl
          exact wt_iret hx hb hr hlocks hP9 hD9 hS ⟨(apL [21, 20] 0 cf), (0 + 2), rfl, ⟨(ak_y (n := kn) (g := cf) (f := (fun t => f (15 + 5 * t))) (l := [21, 20]) (by omega) c_3 c_7 hke (by rw [show j_8 = 1 by omega]; rfl) rfl).1, (ak_y (n := kn) (g := cf) (f := (fun t => f (15 + 5 * t))) (l := [21, 20]) (by omega) c_3 c_7 hke (by rw [show j_8 = 1 by omega]; rfl) rfl).2, by omega⟩⟩ dX6_ask_48
        · skip
          have c_9 : j_8 = 0 := (nI_eq (a := j_8) (b := 0) (by omega) (by omega)).mp c_9
          refine lv_aload_n hx hb dX6_ask_35 rfl (lv_at hl 0 rfl) ?_
          refine lv_iload_n hx hb dX6_ask_36 rfl (lv_at hl 1 rfl) ?_
          refine wt_goI (wr := []) (wt_runV (As := [.int (nI j_4)]) (rest := []) ⟨hx, hb, hml, hown, hts⟩ (c_X6_sizeOf_s1 l D cI cZ cH md hs R T f tc 0 cf j_4 (.int 0) vm_1 vm_2 vm_3 vm_4 vm_6 vm_7 vm_8 vm_9 vm_10 vm_11 vm_12 vm_13 vm_14 vm_15 vm_16 vm_17 vm_18 vm_19 vm_20 vm_21 (by first | assumption | omega) (by first | assumption | omega) (by first | assumption | omega) (by first | assumption | omega) (by first | assumption | omega) hke) (cwV 1 hts gX6_ask_X6_sizeOf rfl rfl rfl (by decide +kernel) ⟨Nat.le_of_ble_eq_true rfl, Nat.le_of_ble_eq_true rfl⟩) hK hP hD [0, 1, 2] rfl (by decide) (va_recv hK.1 hP (ci := 6) (q0 := 0) rfl rfl) rfl hl.1 rfl (Nat.le_of_ble_eq_true rfl) dX6_ask_37 ⟨Nat.le_of_ble_eq_true rfl, Nat.le_of_ble_eq_true rfl⟩) hP hD hS hA [0, 1, 2] [] rfl rfl (by decide) (by decide) (fun r_13 w_14 H locs h_15 hP hD hS => ?_)
          obtain rfl := h_15
          have hP : va_P D vwCl [(md, .inr (6, [.int 0, vm_1, vm_2, vm_3, vm_4, .ref hs, vm_6, vm_7, vm_8, vm_9, vm_10, vm_11, vm_12, vm_13, vm_14, vm_15, vm_16, vm_17, vm_18, vm_19, vm_20, vm_21, .ref tc, .int (nI (0 + 4))])), (hs, .inl (cI, 45, .inl f)), (tc, .inl (cI, 16, .inl (apL [11, 10, 21, 20] 0 cf)))] H := hP
          have hD : va_D A [(md, .inr (6, [.int 0, vm_1, vm_2, vm_3, vm_4, .ref hs, vm_6, vm_7, vm_8, vm_9, vm_10, vm_11, vm_12, vm_13, vm_14, vm_15, vm_16, vm_17, vm_18, vm_19, vm_20, vm_21, .ref tc, .int (nI (0 + 4))])), (hs, .inl (cI, 45, .inl f)), (tc, .inl (cI, 16, .inl (apL [11, 10, 21, 20] 0 cf)))] := hD
          refine lv_goto (tgt := 48) hx hb dX6_ask_40 (by decide) ?_
          have hP9 := hP.sub (ws' := [(md, .inr (6, [.int 0, vm_1, vm_2, vm_3, vm_4, .ref hs, vm_6, vm_7, vm_8, vm_9, vm_10, vm_11, vm_12, vm_13, vm_14, vm_15, vm_16, vm_17, vm_18, vm_19, vm_20, vm_21, .ref tc, .int (nI (0 + 4))])), (hs, .inl (cI, 45, .inl f)), (tc, .inl (cI, 16, .inl (apL [11, 10, 21, 20] 0 cf)))]) [0, 1, 2] rfl
          have hD9 := hD.sub (ws' := [(md, .inr (6, [.int 0, vm_1, vm_2, vm_3, vm_4, .ref hs, vm_6, vm_7, vm_8, vm_9, vm_10, vm_11, vm_12, vm_13, vm_14, vm_15, vm_16, vm_17, vm_18, vm_19, vm_20, vm_21, .ref tc, .int (nI (0 + 4))])), (hs, .inl (cI, 45, .inl f)), (tc, .inl (cI, 16, .inl (apL [11, 10, 21, 20] 0 cf)))]) [0, 1, 2] (by decide) rfl
          exact wt_iret hx hb hr hlocks hP9 hD9 hS ⟨(apL [11, 10, 21, 20] 0 cf), (0 + 4), rfl, ⟨(ak_y (n := kn) (g := cf) (f := (fun t => f (15 + 5 * t))) (l := [11, 10, 21, 20]) (by omega) c_3 c_7 hke (by rw [show j_8 = 0 by omega]; rfl) rfl).1, (ak_y (n := kn) (g := cf) (f := (fun t => f (15 + 5 * t))) (l := [11, 10, 21, 20]) (by omega) c_3 c_7 hke (by rw [show j_8 = 0 by omega]; rfl) rfl).2, by omega⟩⟩ dX6_ask_48
      · skip
        subst hs9
        refine lv_aload_n hx hb dX6_ask_26 rfl (lv_at hl 0 rfl) ?_
        refine lv_iconst (v := 0) hx hb dX6_ask_27 (by decide) ?_
        refine va_put (D := D) (ci := 6) (v := .int 0) (ty := .int) (C := RX6) (T := TX6) (N := 24) hx hb hts hi6 tyX6 tyX6_ok nmX6 hown hK.1 hP hD hS 0 rfl rfl 23 (by decide) wf289 (fun _ h9 => h9) rfl (by decide +kernel) rfl rfl (Nat.le_of_ble_eq_true rfl) dX6_ask_28 (fun H locs hP hD hS => ?_)
        have hP : va_P D vwCl [(md, .inr (6, [.int 0, vm_1, vm_2, vm_3, vm_4, .ref hs, vm_6, vm_7, vm_8, vm_9, vm_10, vm_11, vm_12, vm_13, vm_14, vm_15, vm_16, vm_17, vm_18, vm_19, vm_20, vm_21, .ref tc, .int 0])), (hs, .inl (cI, 45, .inl f)), (tc, .inl (cI, 16, .inl cf))] H := hP
        have hD : va_D A [(md, .inr (6, [.int 0, vm_1, vm_2, vm_3, vm_4, .ref hs, vm_6, vm_7, vm_8, vm_9, vm_10, vm_11, vm_12, vm_13, vm_14, vm_15, vm_16, vm_17, vm_18, vm_19, vm_20, vm_21, .ref tc, .int 0])), (hs, .inl (cI, 45, .inl f)), (tc, .inl (cI, 16, .inl cf))] := hD
        refine lv_iload_n hx hb dX6_ask_31 rfl (lv_at hl 2 rfl) ?_
        refine lv_if_ne (tgt := 43) hx hb dX6_ask_32 (by decide) (fun c_16 => ?_) (fun c_16 => ?_)
        · skip
          have c_16 : ¬ (j_8 = 0) := fun h => c_16 ((nI_eq (a := j_8) (b := 0) (by omega) (by omega)).mpr h)
          refine lv_aload_n hx hb dX6_ask_43 rfl (lv_at hl 0 rfl) ?_
          refine lv_iload_n hx hb dX6_ask_44 rfl (lv_at hl 1 rfl) ?_
          refine wt_goI (wr := []) (wt_runV (As := [.int (nI j_4)]) (rest := []) ⟨hx, hb, hml, hown, hts⟩ (c_X6_markOf_s2 l D cI cZ cH md hs R T f tc 0 cf j_4 (.int 0) vm_1 vm_2 vm_3 vm_4 vm_6 vm_7 vm_8 vm_9 vm_10 vm_11 vm_12 vm_13 vm_14 vm_15 vm_16 vm_17 vm_18 vm_19 vm_20 vm_21 (by first | assumption | omega) (by first | assumption | omega) (by first | assumption | omega) (by first | assumption | omega) (by first | assumption | omega) hke) (cwV 1 hts gX6_ask_X6_markOf rfl rfl rfl (by decide +kernel) ⟨Nat.le_of_ble_eq_true rfl, Nat.le_of_ble_eq_true rfl⟩) hK hP hD [0, 1, 2] rfl (by decide) (va_recv hK.1 hP (ci := 6) (q0 := 0) rfl rfl) rfl hl.1 rfl (Nat.le_of_ble_eq_true rfl) dX6_ask_45 ⟨Nat.le_of_ble_eq_true rfl, Nat.le_of_ble_eq_true rfl⟩) hP hD hS hA [0, 1, 2] [] rfl rfl (by decide) (by decide) (fun r_17 w_18 H locs h_19 hP hD hS => ?_)
          obtain rfl := h_19
          have hP : va_P D vwCl [(md, .inr (6, [.int 0, vm_1, vm_2, vm_3, vm_4, .ref hs, vm_6, vm_7, vm_8, vm_9, vm_10, vm_11, vm_12, vm_13, vm_14, vm_15, vm_16, vm_17, vm_18, vm_19, vm_20, vm_21, .ref tc, .int (nI (0 + 3))])), (hs, .inl (cI, 45, .inl f)), (tc, .inl (cI, 16, .inl (apL [24, 21, 20] 0 cf)))] H := hP
          have hD : va_D A [(md, .inr (6, [.int 0, vm_1, vm_2, vm_3, vm_4, .ref hs, vm_6, vm_7, vm_8, vm_9, vm_10, vm_11, vm_12, vm_13, vm_14, vm_15, vm_16, vm_17, vm_18, vm_19, vm_20, vm_21, .ref tc, .int (nI (0 + 3))])), (hs, .inl (cI, 45, .inl f)), (tc, .inl (cI, 16, .inl (apL [24, 21, 20] 0 cf)))] := hD
          have hP9 := hP.sub (ws' := [(md, .inr (6, [.int 0, vm_1, vm_2, vm_3, vm_4, .ref hs, vm_6, vm_7, vm_8, vm_9, vm_10, vm_11, vm_12, vm_13, vm_14, vm_15, vm_16, vm_17, vm_18, vm_19, vm_20, vm_21, .ref tc, .int (nI (0 + 3))])), (hs, .inl (cI, 45, .inl f)), (tc, .inl (cI, 16, .inl (apL [24, 21, 20] 0 cf)))]) [0, 1, 2] rfl
          have hD9 := hD.sub (ws' := [(md, .inr (6, [.int 0, vm_1, vm_2, vm_3, vm_4, .ref hs, vm_6, vm_7, vm_8, vm_9, vm_10, vm_11, vm_12, vm_13, vm_14, vm_15, vm_16, vm_17, vm_18, vm_19, vm_20, vm_21, .ref tc, .int (nI (0 + 3))])), (hs, .inl (cI, 45, .inl f)), (tc, .inl (cI, 16, .inl (apL [24, 21, 20] 0 cf)))]) [0, 1, 2] (by decide) rfl
          exact wt_iret hx hb hr hlocks hP9 hD9 hS ⟨(apL [24, 21, 20] 0 cf), (0 + 3), rfl, ⟨(ak_y (n := kn) (g := cf) (f := (fun t => f (15 + 5 * t))) (l := [24, 21, 20]) (by omega) c_3 c_7 hke (by rw [show j_8 = 1 by omega]; rfl) rfl).1, (ak_y (n := kn) (g := cf) (f := (fun t => f (15 + 5 * t))) (l := [24, 21, 20]) (by omega) c_3 c_7 hke (by rw [show j_8 = 1 by omega]; rfl) rfl).2, by omega⟩⟩ dX6_ask_48
        · skip
          have c_16 : j_8 = 0 := (nI_eq (a := j_8) (b := 0) (by omega) (by omega)).mp c_16
          refine lv_aload_n hx hb dX6_ask_35 rfl (lv_at hl 0 rfl) ?_
          refine lv_iload_n hx hb dX6_ask_36 rfl (lv_at hl 1 rfl) ?_
          refine wt_goI (wr := []) (wt_runV (As := [.int (nI j_4)]) (rest := []) ⟨hx, hb, hml, hown, hts⟩ (c_X6_sizeOf_s2 l D cI cZ cH md hs R T f tc 0 cf j_4 (.int 0) vm_1 vm_2 vm_3 vm_4 vm_6 vm_7 vm_8 vm_9 vm_10 vm_11 vm_12 vm_13 vm_14 vm_15 vm_16 vm_17 vm_18 vm_19 vm_20 vm_21 (by first | assumption | omega) (by first | assumption | omega) (by first | assumption | omega) (by first | assumption | omega) (by first | assumption | omega) hke) (cwV 1 hts gX6_ask_X6_sizeOf rfl rfl rfl (by decide +kernel) ⟨Nat.le_of_ble_eq_true rfl, Nat.le_of_ble_eq_true rfl⟩) hK hP hD [0, 1, 2] rfl (by decide) (va_recv hK.1 hP (ci := 6) (q0 := 0) rfl rfl) rfl hl.1 rfl (Nat.le_of_ble_eq_true rfl) dX6_ask_37 ⟨Nat.le_of_ble_eq_true rfl, Nat.le_of_ble_eq_true rfl⟩) hP hD hS hA [0, 1, 2] [] rfl rfl (by decide) (by decide) (fun r_20 w_21 H locs h_22 hP hD hS => ?_)
          obtain rfl := h_22
          have hP : va_P D vwCl [(md, .inr (6, [.int 0, vm_1, vm_2, vm_3, vm_4, .ref hs, vm_6, vm_7, vm_8, vm_9, vm_10, vm_11, vm_12, vm_13, vm_14, vm_15, vm_16, vm_17, vm_18, vm_19, vm_20, vm_21, .ref tc, .int (nI (0 + 6))])), (hs, .inl (cI, 45, .inl f)), (tc, .inl (cI, 16, .inl (apL [12, 11, 10, 24, 21, 20] 0 cf)))] H := hP
          have hD : va_D A [(md, .inr (6, [.int 0, vm_1, vm_2, vm_3, vm_4, .ref hs, vm_6, vm_7, vm_8, vm_9, vm_10, vm_11, vm_12, vm_13, vm_14, vm_15, vm_16, vm_17, vm_18, vm_19, vm_20, vm_21, .ref tc, .int (nI (0 + 6))])), (hs, .inl (cI, 45, .inl f)), (tc, .inl (cI, 16, .inl (apL [12, 11, 10, 24, 21, 20] 0 cf)))] := hD
          refine lv_goto (tgt := 48) hx hb dX6_ask_40 (by decide) ?_
          have hP9 := hP.sub (ws' := [(md, .inr (6, [.int 0, vm_1, vm_2, vm_3, vm_4, .ref hs, vm_6, vm_7, vm_8, vm_9, vm_10, vm_11, vm_12, vm_13, vm_14, vm_15, vm_16, vm_17, vm_18, vm_19, vm_20, vm_21, .ref tc, .int (nI (0 + 6))])), (hs, .inl (cI, 45, .inl f)), (tc, .inl (cI, 16, .inl (apL [12, 11, 10, 24, 21, 20] 0 cf)))]) [0, 1, 2] rfl
          have hD9 := hD.sub (ws' := [(md, .inr (6, [.int 0, vm_1, vm_2, vm_3, vm_4, .ref hs, vm_6, vm_7, vm_8, vm_9, vm_10, vm_11, vm_12, vm_13, vm_14, vm_15, vm_16, vm_17, vm_18, vm_19, vm_20, vm_21, .ref tc, .int (nI (0 + 6))])), (hs, .inl (cI, 45, .inl f)), (tc, .inl (cI, 16, .inl (apL [12, 11, 10, 24, 21, 20] 0 cf)))]) [0, 1, 2] (by decide) rfl
          exact wt_iret hx hb hr hlocks hP9 hD9 hS ⟨(apL [12, 11, 10, 24, 21, 20] 0 cf), (0 + 6), rfl, ⟨(ak_y (n := kn) (g := cf) (f := (fun t => f (15 + 5 * t))) (l := [12, 11, 10, 24, 21, 20]) (by omega) c_3 c_7 hke (by rw [show j_8 = 0 by omega]; rfl) rfl).1, (ak_y (n := kn) (g := cf) (f := (fun t => f (15 + 5 * t))) (l := [12, 11, 10, 24, 21, 20]) (by omega) c_3 c_7 hke (by rw [show j_8 = 0 by omega]; rfl) rfl).2, by omega⟩⟩ dX6_ask_48
      · skip
        subst hs9
        refine lv_aload_n hx hb dX6_ask_26 rfl (lv_at hl 0 rfl) ?_
        refine lv_iconst (v := 0) hx hb dX6_ask_27 (by decide) ?_
        refine va_put (D := D) (ci := 6) (v := .int 0) (ty := .int) (C := RX6) (T := TX6) (N := 24) hx hb hts hi6 tyX6 tyX6_ok nmX6 hown hK.1 hP hD hS 0 rfl rfl 23 (by decide) wf289 (fun _ h9 => h9) rfl (by decide +kernel) rfl rfl (Nat.le_of_ble_eq_true rfl) dX6_ask_28 (fun H locs hP hD hS => ?_)
        have hP : va_P D vwCl [(md, .inr (6, [.int 0, vm_1, vm_2, vm_3, vm_4, .ref hs, vm_6, vm_7, vm_8, vm_9, vm_10, vm_11, vm_12, vm_13, vm_14, vm_15, vm_16, vm_17, vm_18, vm_19, vm_20, vm_21, .ref tc, .int 0])), (hs, .inl (cI, 45, .inl f)), (tc, .inl (cI, 16, .inl cf))] H := hP
        have hD : va_D A [(md, .inr (6, [.int 0, vm_1, vm_2, vm_3, vm_4, .ref hs, vm_6, vm_7, vm_8, vm_9, vm_10, vm_11, vm_12, vm_13, vm_14, vm_15, vm_16, vm_17, vm_18, vm_19, vm_20, vm_21, .ref tc, .int 0])), (hs, .inl (cI, 45, .inl f)), (tc, .inl (cI, 16, .inl cf))] := hD
        refine lv_iload_n hx hb dX6_ask_31 rfl (lv_at hl 2 rfl) ?_
        refine lv_if_ne (tgt := 43) hx hb dX6_ask_32 (by decide) (fun c_23 => ?_) (fun c_23 => ?_)
        · skip
          have c_23 : ¬ (j_8 = 0) := fun h => c_23 ((nI_eq (a := j_8) (b := 0) (by omega) (by omega)).mpr h)
          refine lv_aload_n hx hb dX6_ask_43 rfl (lv_at hl 0 rfl) ?_
          refine lv_iload_n hx hb dX6_ask_44 rfl (lv_at hl 1 rfl) ?_
          refine wt_goI (wr := []) (wt_runV (As := [.int (nI j_4)]) (rest := []) ⟨hx, hb, hml, hown, hts⟩ (c_X6_markOf_s3 l D cI cZ cH md hs R T f tc 0 cf j_4 (.int 0) vm_1 vm_2 vm_3 vm_4 vm_6 vm_7 vm_8 vm_9 vm_10 vm_11 vm_12 vm_13 vm_14 vm_15 vm_16 vm_17 vm_18 vm_19 vm_20 vm_21 (by first | assumption | omega) (by first | assumption | omega) (by first | assumption | omega) (by first | assumption | omega) (by first | assumption | omega) hke) (cwV 1 hts gX6_ask_X6_markOf rfl rfl rfl (by decide +kernel) ⟨Nat.le_of_ble_eq_true rfl, Nat.le_of_ble_eq_true rfl⟩) hK hP hD [0, 1, 2] rfl (by decide) (va_recv hK.1 hP (ci := 6) (q0 := 0) rfl rfl) rfl hl.1 rfl (Nat.le_of_ble_eq_true rfl) dX6_ask_45 ⟨Nat.le_of_ble_eq_true rfl, Nat.le_of_ble_eq_true rfl⟩) hP hD hS hA [0, 1, 2] [] rfl rfl (by decide) (by decide) (fun r_24 w_25 H locs h_26 hP hD hS => ?_)
          obtain rfl := h_26
          have hP : va_P D vwCl [(md, .inr (6, [.int 0, vm_1, vm_2, vm_3, vm_4, .ref hs, vm_6, vm_7, vm_8, vm_9, vm_10, vm_11, vm_12, vm_13, vm_14, vm_15, vm_16, vm_17, vm_18, vm_19, vm_20, vm_21, .ref tc, .int (nI (0 + 3))])), (hs, .inl (cI, 45, .inl f)), (tc, .inl (cI, 16, .inl (apL [22, 21, 20] 0 cf)))] H := hP
          have hD : va_D A [(md, .inr (6, [.int 0, vm_1, vm_2, vm_3, vm_4, .ref hs, vm_6, vm_7, vm_8, vm_9, vm_10, vm_11, vm_12, vm_13, vm_14, vm_15, vm_16, vm_17, vm_18, vm_19, vm_20, vm_21, .ref tc, .int (nI (0 + 3))])), (hs, .inl (cI, 45, .inl f)), (tc, .inl (cI, 16, .inl (apL [22, 21, 20] 0 cf)))] := hD
          have hP9 := hP.sub (ws' := [(md, .inr (6, [.int 0, vm_1, vm_2, vm_3, vm_4, .ref hs, vm_6, vm_7, vm_8, vm_9, vm_10, vm_11, vm_12, vm_13, vm_14, vm_15, vm_16, vm_17, vm_18, vm_19, vm_20, vm_21, .ref tc, .int (nI (0 + 3))])), (hs, .inl (cI, 45, .inl f)), (tc, .inl (cI, 16, .inl (apL [22, 21, 20] 0 cf)))]) [0, 1, 2] rfl
          have hD9 := hD.sub (ws' := [(md, .inr (6, [.int 0, vm_1, vm_2, vm_3, vm_4, .ref hs, vm_6, vm_7, vm_8, vm_9, vm_10, vm_11, vm_12, vm_13, vm_14, vm_15, vm_16, vm_17, vm_18, vm_19, vm_20, vm_21, .ref tc, .int (nI (0 + 3))])), (hs, .inl (cI, 45, .inl f)), (tc, .inl (cI, 16, .inl (apL [22, 21, 20] 0 cf)))]) [0, 1, 2] (by decide) rfl
          exact wt_iret hx hb hr hlocks hP9 hD9 hS ⟨(apL [22, 21, 20] 0 cf), (0 + 3), rfl, ⟨(ak_y (n := kn) (g := cf) (f := (fun t => f (15 + 5 * t))) (l := [22, 21, 20]) (by omega) c_3 c_7 hke (by rw [show j_8 = 1 by omega]; rfl) rfl).1, (ak_y (n := kn) (g := cf) (f := (fun t => f (15 + 5 * t))) (l := [22, 21, 20]) (by omega) c_3 c_7 hke (by rw [show j_8 = 1 by omega]; rfl) rfl).2, by omega⟩⟩ dX6_ask_48
        · skip
          have c_23 : j_8 = 0 := (nI_eq (a := j_8) (b := 0) (by omega) (by omega)).mp c_23
          refine lv_aload_n hx hb dX6_ask_35 rfl (lv_at hl 0 rfl) ?_
          refine lv_iload_n hx hb dX6_ask_36 rfl (lv_at hl 1 rfl) ?_
          refine wt_goI (wr := []) (wt_runV (As := [.int (nI j_4)]) (rest := []) ⟨hx, hb, hml, hown, hts⟩ (c_X6_sizeOf_s3 l D cI cZ cH md hs R T f tc 0 cf j_4 (.int 0) vm_1 vm_2 vm_3 vm_4 vm_6 vm_7 vm_8 vm_9 vm_10 vm_11 vm_12 vm_13 vm_14 vm_15 vm_16 vm_17 vm_18 vm_19 vm_20 vm_21 (by first | assumption | omega) (by first | assumption | omega) (by first | assumption | omega) (by first | assumption | omega) (by first | assumption | omega) hke) (cwV 1 hts gX6_ask_X6_sizeOf rfl rfl rfl (by decide +kernel) ⟨Nat.le_of_ble_eq_true rfl, Nat.le_of_ble_eq_true rfl⟩) hK hP hD [0, 1, 2] rfl (by decide) (va_recv hK.1 hP (ci := 6) (q0 := 0) rfl rfl) rfl hl.1 rfl (Nat.le_of_ble_eq_true rfl) dX6_ask_37 ⟨Nat.le_of_ble_eq_true rfl, Nat.le_of_ble_eq_true rfl⟩) hP hD hS hA [0, 1, 2] [] rfl rfl (by decide) (by decide) (fun r_27 w_28 H locs h_29 hP hD hS => ?_)
          obtain rfl := h_29
          have hP : va_P D vwCl [(md, .inr (6, [.int 0, vm_1, vm_2, vm_3, vm_4, .ref hs, vm_6, vm_7, vm_8, vm_9, vm_10, vm_11, vm_12, vm_13, vm_14, vm_15, vm_16, vm_17, vm_18, vm_19, vm_20, vm_21, .ref tc, .int (nI (0 + 5))])), (hs, .inl (cI, 45, .inl f)), (tc, .inl (cI, 16, .inl (apL [11, 10, 22, 21, 20] 0 cf)))] H := hP
          have hD : va_D A [(md, .inr (6, [.int 0, vm_1, vm_2, vm_3, vm_4, .ref hs, vm_6, vm_7, vm_8, vm_9, vm_10, vm_11, vm_12, vm_13, vm_14, vm_15, vm_16, vm_17, vm_18, vm_19, vm_20, vm_21, .ref tc, .int (nI (0 + 5))])), (hs, .inl (cI, 45, .inl f)), (tc, .inl (cI, 16, .inl (apL [11, 10, 22, 21, 20] 0 cf)))] := hD
          refine lv_goto (tgt := 48) hx hb dX6_ask_40 (by decide) ?_
          have hP9 := hP.sub (ws' := [(md, .inr (6, [.int 0, vm_1, vm_2, vm_3, vm_4, .ref hs, vm_6, vm_7, vm_8, vm_9, vm_10, vm_11, vm_12, vm_13, vm_14, vm_15, vm_16, vm_17, vm_18, vm_19, vm_20, vm_21, .ref tc, .int (nI (0 + 5))])), (hs, .inl (cI, 45, .inl f)), (tc, .inl (cI, 16, .inl (apL [11, 10, 22, 21, 20] 0 cf)))]) [0, 1, 2] rfl
          have hD9 := hD.sub (ws' := [(md, .inr (6, [.int 0, vm_1, vm_2, vm_3, vm_4, .ref hs, vm_6, vm_7, vm_8, vm_9, vm_10, vm_11, vm_12, vm_13, vm_14, vm_15, vm_16, vm_17, vm_18, vm_19, vm_20, vm_21, .ref tc, .int (nI (0 + 5))])), (hs, .inl (cI, 45, .inl f)), (tc, .inl (cI, 16, .inl (apL [11, 10, 22, 21, 20] 0 cf)))]) [0, 1, 2] (by decide) rfl
          exact wt_iret hx hb hr hlocks hP9 hD9 hS ⟨(apL [11, 10, 22, 21, 20] 0 cf), (0 + 5), rfl, ⟨(ak_y (n := kn) (g := cf) (f := (fun t => f (15 + 5 * t))) (l := [11, 10, 22, 21, 20]) (by omega) c_3 c_7 hke (by rw [show j_8 = 0 by omega]; rfl) rfl).1, (ak_y (n := kn) (g := cf) (f := (fun t => f (15 + 5 * t))) (l := [11, 10, 22, 21, 20]) (by omega) c_3 c_7 hke (by rw [show j_8 = 0 by omega]; rfl) rfl).2, by omega⟩⟩ dX6_ask_48
      · skip
        subst hs9
        refine lv_aload_n hx hb dX6_ask_26 rfl (lv_at hl 0 rfl) ?_
        refine lv_iconst (v := 0) hx hb dX6_ask_27 (by decide) ?_
        refine va_put (D := D) (ci := 6) (v := .int 0) (ty := .int) (C := RX6) (T := TX6) (N := 24) hx hb hts hi6 tyX6 tyX6_ok nmX6 hown hK.1 hP hD hS 0 rfl rfl 23 (by decide) wf289 (fun _ h9 => h9) rfl (by decide +kernel) rfl rfl (Nat.le_of_ble_eq_true rfl) dX6_ask_28 (fun H locs hP hD hS => ?_)
        have hP : va_P D vwCl [(md, .inr (6, [.int 0, vm_1, vm_2, vm_3, vm_4, .ref hs, vm_6, vm_7, vm_8, vm_9, vm_10, vm_11, vm_12, vm_13, vm_14, vm_15, vm_16, vm_17, vm_18, vm_19, vm_20, vm_21, .ref tc, .int 0])), (hs, .inl (cI, 45, .inl f)), (tc, .inl (cI, 16, .inl cf))] H := hP
        have hD : va_D A [(md, .inr (6, [.int 0, vm_1, vm_2, vm_3, vm_4, .ref hs, vm_6, vm_7, vm_8, vm_9, vm_10, vm_11, vm_12, vm_13, vm_14, vm_15, vm_16, vm_17, vm_18, vm_19, vm_20, vm_21, .ref tc, .int 0])), (hs, .inl (cI, 45, .inl f)), (tc, .inl (cI, 16, .inl cf))] := hD
        refine lv_iload_n hx hb dX6_ask_31 rfl (lv_at hl 2 rfl) ?_
        refine lv_if_ne (tgt := 43) hx hb dX6_ask_32 (by decide) (fun c_30 => ?_) (fun c_30 => ?_)
        · skip
          have c_30 : ¬ (j_8 = 0) := fun h => c_30 ((nI_eq (a := j_8) (b := 0) (by omega) (by omega)).mpr h)
          refine lv_aload_n hx hb dX6_ask_43 rfl (lv_at hl 0 rfl) ?_
          refine lv_iload_n hx hb dX6_ask_44 rfl (lv_at hl 1 rfl) ?_
          refine wt_goI (wr := []) (wt_runV (As := [.int (nI j_4)]) (rest := []) ⟨hx, hb, hml, hown, hts⟩ (c_X6_markOf_s4 l D cI cZ cH md hs R T f tc 0 cf j_4 (.int 0) vm_1 vm_2 vm_3 vm_4 vm_6 vm_7 vm_8 vm_9 vm_10 vm_11 vm_12 vm_13 vm_14 vm_15 vm_16 vm_17 vm_18 vm_19 vm_20 vm_21 (by first | assumption | omega) (by first | assumption | omega) (by first | assumption | omega) (by first | assumption | omega) (by first | assumption | omega) hke) (cwV 1 hts gX6_ask_X6_markOf rfl rfl rfl (by decide +kernel) ⟨Nat.le_of_ble_eq_true rfl, Nat.le_of_ble_eq_true rfl⟩) hK hP hD [0, 1, 2] rfl (by decide) (va_recv hK.1 hP (ci := 6) (q0 := 0) rfl rfl) rfl hl.1 rfl (Nat.le_of_ble_eq_true rfl) dX6_ask_45 ⟨Nat.le_of_ble_eq_true rfl, Nat.le_of_ble_eq_true rfl⟩) hP hD hS hA [0, 1, 2] [] rfl rfl (by decide) (by decide) (fun r_31 w_32 H locs h_33 hP hD hS => ?_)
          obtain rfl := h_33
          have hP : va_P D vwCl [(md, .inr (6, [.int 0, vm_1, vm_2, vm_3, vm_4, .ref hs, vm_6, vm_7, vm_8, vm_9, vm_10, vm_11, vm_12, vm_13, vm_14, vm_15, vm_16, vm_17, vm_18, vm_19, vm_20, vm_21, .ref tc, .int (nI (0 + 4))])), (hs, .inl (cI, 45, .inl f)), (tc, .inl (cI, 16, .inl (apL [23, 20, 13, 10] 0 cf)))] H := hP
          have hD : va_D A [(md, .inr (6, [.int 0, vm_1, vm_2, vm_3, vm_4, .ref hs, vm_6, vm_7, vm_8, vm_9, vm_10, vm_11, vm_12, vm_13, vm_14, vm_15, vm_16, vm_17, vm_18, vm_19, vm_20, vm_21, .ref tc, .int (nI (0 + 4))])), (hs, .inl (cI, 45, .inl f)), (tc, .inl (cI, 16, .inl (apL [23, 20, 13, 10] 0 cf)))] := hD
          have hP9 := hP.sub (ws' := [(md, .inr (6, [.int 0, vm_1, vm_2, vm_3, vm_4, .ref hs, vm_6, vm_7, vm_8, vm_9, vm_10, vm_11, vm_12, vm_13, vm_14, vm_15, vm_16, vm_17, vm_18, vm_19, vm_20, vm_21, .ref tc, .int (nI (0 + 4))])), (hs, .inl (cI, 45, .inl f)), (tc, .inl (cI, 16, .inl (apL [23, 20, 13, 10] 0 cf)))]) [0, 1, 2] rfl
          have hD9 := hD.sub (ws' := [(md, .inr (6, [.int 0, vm_1, vm_2, vm_3, vm_4, .ref hs, vm_6, vm_7, vm_8, vm_9, vm_10, vm_11, vm_12, vm_13, vm_14, vm_15, vm_16, vm_17, vm_18, vm_19, vm_20, vm_21, .ref tc, .int (nI (0 + 4))])), (hs, .inl (cI, 45, .inl f)), (tc, .inl (cI, 16, .inl (apL [23, 20, 13, 10] 0 cf)))]) [0, 1, 2] (by decide) rfl
          exact wt_iret hx hb hr hlocks hP9 hD9 hS ⟨(apL [23, 20, 13, 10] 0 cf), (0 + 4), rfl, ⟨(ak_y (n := kn) (g := cf) (f := (fun t => f (15 + 5 * t))) (l := [23, 20, 13, 10]) (by omega) c_3 c_7 hke (by rw [show j_8 = 1 by omega]; rfl) rfl).1, (ak_y (n := kn) (g := cf) (f := (fun t => f (15 + 5 * t))) (l := [23, 20, 13, 10]) (by omega) c_3 c_7 hke (by rw [show j_8 = 1 by omega]; rfl) rfl).2, by omega⟩⟩ dX6_ask_48
        · skip
          have c_30 : j_8 = 0 := (nI_eq (a := j_8) (b := 0) (by omega) (by omega)).mp c_30
          refine lv_aload_n hx hb dX6_ask_35 rfl (lv_at hl 0 rfl) ?_
          refine lv_iload_n hx hb dX6_ask_36 rfl (lv_at hl 1 rfl) ?_
          refine wt_goI (wr := []) (wt_runV (As := [.int (nI j_4)]) (rest := []) ⟨hx, hb, hml, hown, hts⟩ (c_X6_sizeOf_s4 l D cI cZ cH md hs R T f tc 0 cf j_4 (.int 0) vm_1 vm_2 vm_3 vm_4 vm_6 vm_7 vm_8 vm_9 vm_10 vm_11 vm_12 vm_13 vm_14 vm_15 vm_16 vm_17 vm_18 vm_19 vm_20 vm_21 (by first | assumption | omega) (by first | assumption | omega) (by first | assumption | omega) (by first | assumption | omega) (by first | assumption | omega) hke) (cwV 1 hts gX6_ask_X6_sizeOf rfl rfl rfl (by decide +kernel) ⟨Nat.le_of_ble_eq_true rfl, Nat.le_of_ble_eq_true rfl⟩) hK hP hD [0, 1, 2] rfl (by decide) (va_recv hK.1 hP (ci := 6) (q0 := 0) rfl rfl) rfl hl.1 rfl (Nat.le_of_ble_eq_true rfl) dX6_ask_37 ⟨Nat.le_of_ble_eq_true rfl, Nat.le_of_ble_eq_true rfl⟩) hP hD hS hA [0, 1, 2] [] rfl rfl (by decide) (by decide) (fun r_34 w_35 H locs h_36 hP hD hS => ?_)
          obtain rfl := h_36
          have hP : va_P D vwCl [(md, .inr (6, [.int 0, vm_1, vm_2, vm_3, vm_4, .ref hs, vm_6, vm_7, vm_8, vm_9, vm_10, vm_11, vm_12, vm_13, vm_14, vm_15, vm_16, vm_17, vm_18, vm_19, vm_20, vm_21, .ref tc, .int (nI (0 + 2))])), (hs, .inl (cI, 45, .inl f)), (tc, .inl (cI, 16, .inl (apL [13, 10] 0 cf)))] H := hP
          have hD : va_D A [(md, .inr (6, [.int 0, vm_1, vm_2, vm_3, vm_4, .ref hs, vm_6, vm_7, vm_8, vm_9, vm_10, vm_11, vm_12, vm_13, vm_14, vm_15, vm_16, vm_17, vm_18, vm_19, vm_20, vm_21, .ref tc, .int (nI (0 + 2))])), (hs, .inl (cI, 45, .inl f)), (tc, .inl (cI, 16, .inl (apL [13, 10] 0 cf)))] := hD
          refine lv_goto (tgt := 48) hx hb dX6_ask_40 (by decide) ?_
          have hP9 := hP.sub (ws' := [(md, .inr (6, [.int 0, vm_1, vm_2, vm_3, vm_4, .ref hs, vm_6, vm_7, vm_8, vm_9, vm_10, vm_11, vm_12, vm_13, vm_14, vm_15, vm_16, vm_17, vm_18, vm_19, vm_20, vm_21, .ref tc, .int (nI (0 + 2))])), (hs, .inl (cI, 45, .inl f)), (tc, .inl (cI, 16, .inl (apL [13, 10] 0 cf)))]) [0, 1, 2] rfl
          have hD9 := hD.sub (ws' := [(md, .inr (6, [.int 0, vm_1, vm_2, vm_3, vm_4, .ref hs, vm_6, vm_7, vm_8, vm_9, vm_10, vm_11, vm_12, vm_13, vm_14, vm_15, vm_16, vm_17, vm_18, vm_19, vm_20, vm_21, .ref tc, .int (nI (0 + 2))])), (hs, .inl (cI, 45, .inl f)), (tc, .inl (cI, 16, .inl (apL [13, 10] 0 cf)))]) [0, 1, 2] (by decide) rfl
          exact wt_iret hx hb hr hlocks hP9 hD9 hS ⟨(apL [13, 10] 0 cf), (0 + 2), rfl, ⟨(ak_y (n := kn) (g := cf) (f := (fun t => f (15 + 5 * t))) (l := [13, 10]) (by omega) c_3 c_7 hke (by rw [show j_8 = 0 by omega]; rfl) rfl).1, (ak_y (n := kn) (g := cf) (f := (fun t => f (15 + 5 * t))) (l := [13, 10]) (by omega) c_3 c_7 hke (by rw [show j_8 = 0 by omega]; rfl) rfl).2, by omega⟩⟩ dX6_ask_48
      · skip
        subst hs9
        refine lv_aload_n hx hb dX6_ask_26 rfl (lv_at hl 0 rfl) ?_
        refine lv_iconst (v := 0) hx hb dX6_ask_27 (by decide) ?_
        refine va_put (D := D) (ci := 6) (v := .int 0) (ty := .int) (C := RX6) (T := TX6) (N := 24) hx hb hts hi6 tyX6 tyX6_ok nmX6 hown hK.1 hP hD hS 0 rfl rfl 23 (by decide) wf289 (fun _ h9 => h9) rfl (by decide +kernel) rfl rfl (Nat.le_of_ble_eq_true rfl) dX6_ask_28 (fun H locs hP hD hS => ?_)
        have hP : va_P D vwCl [(md, .inr (6, [.int 0, vm_1, vm_2, vm_3, vm_4, .ref hs, vm_6, vm_7, vm_8, vm_9, vm_10, vm_11, vm_12, vm_13, vm_14, vm_15, vm_16, vm_17, vm_18, vm_19, vm_20, vm_21, .ref tc, .int 0])), (hs, .inl (cI, 45, .inl f)), (tc, .inl (cI, 16, .inl cf))] H := hP
        have hD : va_D A [(md, .inr (6, [.int 0, vm_1, vm_2, vm_3, vm_4, .ref hs, vm_6, vm_7, vm_8, vm_9, vm_10, vm_11, vm_12, vm_13, vm_14, vm_15, vm_16, vm_17, vm_18, vm_19, vm_20, vm_21, .ref tc, .int 0])), (hs, .inl (cI, 45, .inl f)), (tc, .inl (cI, 16, .inl cf))] := hD
        refine lv_iload_n hx hb dX6_ask_31 rfl (lv_at hl 2 rfl) ?_
        refine lv_if_ne (tgt := 43) hx hb dX6_ask_32 (by decide) (fun c_37 => ?_) (fun c_37 => ?_)
        · skip
          have c_37 : ¬ (j_8 = 0) := fun h => c_37 ((nI_eq (a := j_8) (b := 0) (by omega) (by omega)).mpr h)
          refine lv_aload_n hx hb dX6_ask_43 rfl (lv_at hl 0 rfl) ?_
          refine lv_iload_n hx hb dX6_ask_44 rfl (lv_at hl 1 rfl) ?_
          refine wt_goI (wr := []) (wt_runV (As := [.int (nI j_4)]) (rest := []) ⟨hx, hb, hml, hown, hts⟩ (c_X6_markOf_s5 l D cI cZ cH md hs R T f tc 0 cf j_4 (.int 0) vm_1 vm_2 vm_3 vm_4 vm_6 vm_7 vm_8 vm_9 vm_10 vm_11 vm_12 vm_13 vm_14 vm_15 vm_16 vm_17 vm_18 vm_19 vm_20 vm_21 (by first | assumption | omega) (by first | assumption | omega) (by first | assumption | omega) (by first | assumption | omega) (by first | assumption | omega) hke) (cwV 1 hts gX6_ask_X6_markOf rfl rfl rfl (by decide +kernel) ⟨Nat.le_of_ble_eq_true rfl, Nat.le_of_ble_eq_true rfl⟩) hK hP hD [0, 1, 2] rfl (by decide) (va_recv hK.1 hP (ci := 6) (q0 := 0) rfl rfl) rfl hl.1 rfl (Nat.le_of_ble_eq_true rfl) dX6_ask_45 ⟨Nat.le_of_ble_eq_true rfl, Nat.le_of_ble_eq_true rfl⟩) hP hD hS hA [0, 1, 2] [] rfl rfl (by decide) (by decide) (fun r_38 w_39 H locs h_40 hP hD hS => ?_)
          obtain rfl := h_40
          have hP : va_P D vwCl [(md, .inr (6, [.int 0, vm_1, vm_2, vm_3, vm_4, .ref hs, vm_6, vm_7, vm_8, vm_9, vm_10, vm_11, vm_12, vm_13, vm_14, vm_15, vm_16, vm_17, vm_18, vm_19, vm_20, vm_21, .ref tc, .int (nI (0 + 5))])), (hs, .inl (cI, 45, .inl f)), (tc, .inl (cI, 16, .inl (apL [23, 20, 14, 13, 10] 0 cf)))] H := hP
          have hD : va_D A [(md, .inr (6, [.int 0, vm_1, vm_2, vm_3, vm_4, .ref hs, vm_6, vm_7, vm_8, vm_9, vm_10, vm_11, vm_12, vm_13, vm_14, vm_15, vm_16, vm_17, vm_18, vm_19, vm_20, vm_21, .ref tc, .int (nI (0 + 5))])), (hs, .inl (cI, 45, .inl f)), (tc, .inl (cI, 16, .inl (apL [23, 20, 14, 13, 10] 0 cf)))] := hD
          have hP9 := hP.sub (ws' := [(md, .inr (6, [.int 0, vm_1, vm_2, vm_3, vm_4, .ref hs, vm_6, vm_7, vm_8, vm_9, vm_10, vm_11, vm_12, vm_13, vm_14, vm_15, vm_16, vm_17, vm_18, vm_19, vm_20, vm_21, .ref tc, .int (nI (0 + 5))])), (hs, .inl (cI, 45, .inl f)), (tc, .inl (cI, 16, .inl (apL [23, 20, 14, 13, 10] 0 cf)))]) [0, 1, 2] rfl
          have hD9 := hD.sub (ws' := [(md, .inr (6, [.int 0, vm_1, vm_2, vm_3, vm_4, .ref hs, vm_6, vm_7, vm_8, vm_9, vm_10, vm_11, vm_12, vm_13, vm_14, vm_15, vm_16, vm_17, vm_18, vm_19, vm_20, vm_21, .ref tc, .int (nI (0 + 5))])), (hs, .inl (cI, 45, .inl f)), (tc, .inl (cI, 16, .inl (apL [23, 20, 14, 13, 10] 0 cf)))]) [0, 1, 2] (by decide) rfl
          exact wt_iret hx hb hr hlocks hP9 hD9 hS ⟨(apL [23, 20, 14, 13, 10] 0 cf), (0 + 5), rfl, ⟨(ak_y (n := kn) (g := cf) (f := (fun t => f (15 + 5 * t))) (l := [23, 20, 14, 13, 10]) (by omega) c_3 c_7 hke (by rw [show j_8 = 1 by omega]; rfl) rfl).1, (ak_y (n := kn) (g := cf) (f := (fun t => f (15 + 5 * t))) (l := [23, 20, 14, 13, 10]) (by omega) c_3 c_7 hke (by rw [show j_8 = 1 by omega]; rfl) rfl).2, by omega⟩⟩ dX6_ask_48
        · skip
          have c_37 : j_8 = 0 := (nI_eq (a := j_8) (b := 0) (by omega) (by omega)).mp c_37
          refine lv_aload_n hx hb dX6_ask_35 rfl (lv_at hl 0 rfl) ?_
          refine lv_iload_n hx hb dX6_ask_36 rfl (lv_at hl 1 rfl) ?_
          refine wt_goI (wr := []) (wt_runV (As := [.int (nI j_4)]) (rest := []) ⟨hx, hb, hml, hown, hts⟩ (c_X6_sizeOf_s5 l D cI cZ cH md hs R T f tc 0 cf j_4 (.int 0) vm_1 vm_2 vm_3 vm_4 vm_6 vm_7 vm_8 vm_9 vm_10 vm_11 vm_12 vm_13 vm_14 vm_15 vm_16 vm_17 vm_18 vm_19 vm_20 vm_21 (by first | assumption | omega) (by first | assumption | omega) (by first | assumption | omega) (by first | assumption | omega) (by first | assumption | omega) hke) (cwV 1 hts gX6_ask_X6_sizeOf rfl rfl rfl (by decide +kernel) ⟨Nat.le_of_ble_eq_true rfl, Nat.le_of_ble_eq_true rfl⟩) hK hP hD [0, 1, 2] rfl (by decide) (va_recv hK.1 hP (ci := 6) (q0 := 0) rfl rfl) rfl hl.1 rfl (Nat.le_of_ble_eq_true rfl) dX6_ask_37 ⟨Nat.le_of_ble_eq_true rfl, Nat.le_of_ble_eq_true rfl⟩) hP hD hS hA [0, 1, 2] [] rfl rfl (by decide) (by decide) (fun r_41 w_42 H locs h_43 hP hD hS => ?_)
          obtain rfl := h_43
          have hP : va_P D vwCl [(md, .inr (6, [.int 0, vm_1, vm_2, vm_3, vm_4, .ref hs, vm_6, vm_7, vm_8, vm_9, vm_10, vm_11, vm_12, vm_13, vm_14, vm_15, vm_16, vm_17, vm_18, vm_19, vm_20, vm_21, .ref tc, .int (nI (0 + 3))])), (hs, .inl (cI, 45, .inl f)), (tc, .inl (cI, 16, .inl (apL [14, 13, 10] 0 cf)))] H := hP
          have hD : va_D A [(md, .inr (6, [.int 0, vm_1, vm_2, vm_3, vm_4, .ref hs, vm_6, vm_7, vm_8, vm_9, vm_10, vm_11, vm_12, vm_13, vm_14, vm_15, vm_16, vm_17, vm_18, vm_19, vm_20, vm_21, .ref tc, .int (nI (0 + 3))])), (hs, .inl (cI, 45, .inl f)), (tc, .inl (cI, 16, .inl (apL [14, 13, 10] 0 cf)))] := hD
          refine lv_goto (tgt := 48) hx hb dX6_ask_40 (by decide) ?_
          have hP9 := hP.sub (ws' := [(md, .inr (6, [.int 0, vm_1, vm_2, vm_3, vm_4, .ref hs, vm_6, vm_7, vm_8, vm_9, vm_10, vm_11, vm_12, vm_13, vm_14, vm_15, vm_16, vm_17, vm_18, vm_19, vm_20, vm_21, .ref tc, .int (nI (0 + 3))])), (hs, .inl (cI, 45, .inl f)), (tc, .inl (cI, 16, .inl (apL [14, 13, 10] 0 cf)))]) [0, 1, 2] rfl
          have hD9 := hD.sub (ws' := [(md, .inr (6, [.int 0, vm_1, vm_2, vm_3, vm_4, .ref hs, vm_6, vm_7, vm_8, vm_9, vm_10, vm_11, vm_12, vm_13, vm_14, vm_15, vm_16, vm_17, vm_18, vm_19, vm_20, vm_21, .ref tc, .int (nI (0 + 3))])), (hs, .inl (cI, 45, .inl f)), (tc, .inl (cI, 16, .inl (apL [14, 13, 10] 0 cf)))]) [0, 1, 2] (by decide) rfl
          exact wt_iret hx hb hr hlocks hP9 hD9 hS ⟨(apL [14, 13, 10] 0 cf), (0 + 3), rfl, ⟨(ak_y (n := kn) (g := cf) (f := (fun t => f (15 + 5 * t))) (l := [14, 13, 10]) (by omega) c_3 c_7 hke (by rw [show j_8 = 0 by omega]; rfl) rfl).1, (ak_y (n := kn) (g := cf) (f := (fun t => f (15 + 5 * t))) (l := [14, 13, 10]) (by omega) c_3 c_7 hke (by rw [show j_8 = 0 by omega]; rfl) rfl).2, by omega⟩⟩ dX6_ask_48
    · skip
      refine lv_ldc hx hb hown wc67 dX6_ask_23 ?_
      have hP9 := hP.sub (ws' := [(md, .inr (6, [.int 0, vm_1, vm_2, vm_3, vm_4, .ref hs, vm_6, vm_7, vm_8, vm_9, vm_10, vm_11, vm_12, vm_13, vm_14, vm_15, vm_16, vm_17, vm_18, vm_19, vm_20, vm_21, .ref tc, .int (nI kn)])), (hs, .inl (cI, 45, .inl f)), (tc, .inl (cI, 16, .inl cf))]) [0, 1, 2] rfl
      have hD9 := hD.sub (ws' := [(md, .inr (6, [.int 0, vm_1, vm_2, vm_3, vm_4, .ref hs, vm_6, vm_7, vm_8, vm_9, vm_10, vm_11, vm_12, vm_13, vm_14, vm_15, vm_16, vm_17, vm_18, vm_19, vm_20, vm_21, .ref tc, .int (nI kn)])), (hs, .inl (cI, 45, .inl f)), (tc, .inl (cI, 16, .inl cf))]) [0, 1, 2] (by decide) rfl
      exact wt_iret hx hb hr hlocks hP9 hD9 hS ⟨cf, kn, rfl, ⟨(ak_b (n := kn) (g := cf) c_3 c_7).1, (ak_b (n := kn) (g := cf) c_3 c_7).2, by omega⟩⟩ dX6_ask_25
set_option maxHeartbeats 4000000 in
set_option maxRecDepth 100000 in
theorem c_X6_trace_x (l : Launch) (D : va_G) (cI cZ cH : ClassId) (md tc kn : Nat) (cf : Nat → Int32) (a1 : Int32) (vm_0 vm_1 vm_2 vm_3 vm_4 vm_5 vm_6 vm_7 vm_8 vm_9 vm_10 vm_11 vm_12 vm_13 vm_14 vm_15 vm_16 vm_17 vm_18 vm_19 vm_20 vm_21 : Value) (hkn : kn ≤ 16) : wt_M l yX6_trace wsX6_trace ({ frames := 1, cells := 0, slots := 0, locals := 25 } : Room) D (wt_T cI cZ cH) [.ref md, .int a1] [(md, .inr (6, [vm_0, vm_1, vm_2, vm_3, vm_4, vm_5, vm_6, vm_7, vm_8, vm_9, vm_10, vm_11, vm_12, vm_13, vm_14, vm_15, vm_16, vm_17, vm_18, vm_19, vm_20, vm_21, .ref tc, .int (nI kn)])), (tc, .inl (cI, 16, .inl cf))] (wt_QI D (fun r w => w = [(md, .inr (6, [.int 0, vm_1, vm_2, vm_3, vm_4, vm_5, vm_6, vm_7, vm_8, vm_9, vm_10, vm_11, vm_12, vm_13, vm_14, vm_15, vm_16, vm_17, vm_18, vm_19, vm_20, vm_21, .ref tc, .int (nI kn)])), (tc, .inl (cI, 16, .inl cf))] ∧ r = trA a1 kn cf)) := by
  refine wt_M.ofW (cc := cX6_trace) (maxL := 2) (ret := (some .int)) (by decide) rfl (Nat.le_of_ble_eq_true rfl) ?_
  intro p e s m below meth c A ls hx hb hr hts hown hlocks hml hnm hP hK hD hA hS hl
  have hP : va_P D vwCl [(md, .inr (6, [vm_0, vm_1, vm_2, vm_3, vm_4, vm_5, vm_6, vm_7, vm_8, vm_9, vm_10, vm_11, vm_12, vm_13, vm_14, vm_15, vm_16, vm_17, vm_18, vm_19, vm_20, vm_21, .ref tc, .int (nI kn)])), (tc, .inl (cI, 16, .inl cf))] s.heap := hP
  have hown : s.vm.findClass RX6 = some m.cls := hown
  have hl : lv_has ls 2 [(0, .ref md), (1, .int a1)] := hl
  have hi6 : ∀ w ∈ u_ws RX6 TX6 24, w ∈ wsX6_trace := by decide +kernel
  have wc90 := hts (.constant RX6 90 (-1000000)) (by decide +kernel)
  have wf289 := hts (.fieldLink RX6 289 "WarmTubesModel" "traced" "I") (by decide +kernel)
  have wf44 := hts (.fieldLink RX6 44 "WarmTubesModel" "trace" "[I") (by decide +kernel)
  have wf47 := hts (.fieldLink RX6 47 "WarmTubesModel" "thrown" "I") (by decide +kernel)
  refine lv_aload_n hx hb dX6_trace_0 rfl (lv_at hl 0 rfl) ?_
  refine lv_iconst (v := 0) hx hb dX6_trace_1 (by decide) ?_
  refine va_put (D := D) (ci := 6) (v := .int 0) (ty := .int) (C := RX6) (T := TX6) (N := 24) hx hb hts hi6 tyX6 tyX6_ok nmX6 hown hK.1 hP hD hS 0 rfl rfl 0 (by decide) wf47 (fun _ h9 => h9) rfl (by decide +kernel) rfl rfl (Nat.le_of_ble_eq_true rfl) dX6_trace_2 (fun H locs hP hD hS => ?_)
  have hP : va_P D vwCl [(md, .inr (6, [.int 0, vm_1, vm_2, vm_3, vm_4, vm_5, vm_6, vm_7, vm_8, vm_9, vm_10, vm_11, vm_12, vm_13, vm_14, vm_15, vm_16, vm_17, vm_18, vm_19, vm_20, vm_21, .ref tc, .int (nI kn)])), (tc, .inl (cI, 16, .inl cf))] H := hP
  have hD : va_D A [(md, .inr (6, [.int 0, vm_1, vm_2, vm_3, vm_4, vm_5, vm_6, vm_7, vm_8, vm_9, vm_10, vm_11, vm_12, vm_13, vm_14, vm_15, vm_16, vm_17, vm_18, vm_19, vm_20, vm_21, .ref tc, .int (nI kn)])), (tc, .inl (cI, 16, .inl cf))] := hD
  refine lv_iload_n hx hb dX6_trace_5 rfl (lv_at hl 1 rfl) ?_
  refine lv_i2l hx hb dX6_trace_6 rfl ?_
  refine lv_lconst (v := 0) hx hb dX6_trace_7 (by decide) ?_
  refine lv_aload_n hx hb dX6_trace_8 rfl (lv_at hl 0 rfl) ?_
  refine va_get (D := D) (ci := 6) (v := .int (nI kn)) (C := RX6) (T := TX6) (N := 24) hx hb hts hi6 hown hK.1 hP 0 rfl rfl 23 (by decide) wf289 (fun _ h9 => h9) rfl dX6_trace_9 ?_
  refine lv_iconst (v := 1) hx hb dX6_trace_12 (by decide) ?_
  refine lv_isub hx hb dX6_trace_13 ?_
  refine lv_i2l hx hb dX6_trace_14 rfl ?_
  refine wt_rS (As := [.long a1.toInt64, .long 0, .long (((nI kn) - 1).toInt64)]) (rest := []) ⟨hx, hb, hml, hown, hts⟩ (c_X6_in l D cI cZ cH a1.toInt64 0 (((nI kn) - 1).toInt64)) (va_cwS 3 hts gX6_trace_X6_in rfl rfl rfl (by decide +kernel) ⟨Nat.le_of_ble_eq_true rfl, Nat.le_of_ble_eq_true rfl⟩) hK hP [] rfl rfl hl.1 rfl (Nat.le_of_ble_eq_true rfl) dX6_trace_15 ⟨Nat.le_of_ble_eq_true rfl, Nat.le_of_ble_eq_true rfl⟩ (fun r_1 e_2 => ?_)
  subst e_2
  refine wt_top (z := wI a1 0 ((nI kn) - 1)) (wL_I' (by decide) rfl) ?_
  refine lv_if_eq (tgt := 30) hx hb dX6_trace_18 (by decide) (fun c_3 => ?_) (fun c_3 => ?_)
  · skip
    refine lv_ldc hx hb hown wc90 dX6_trace_30 ?_
    have hP9 := hP.sub (ws' := [(md, .inr (6, [.int 0, vm_1, vm_2, vm_3, vm_4, vm_5, vm_6, vm_7, vm_8, vm_9, vm_10, vm_11, vm_12, vm_13, vm_14, vm_15, vm_16, vm_17, vm_18, vm_19, vm_20, vm_21, .ref tc, .int (nI kn)])), (tc, .inl (cI, 16, .inl cf))]) [0, 1] rfl
    have hD9 := hD.sub (ws' := [(md, .inr (6, [.int 0, vm_1, vm_2, vm_3, vm_4, vm_5, vm_6, vm_7, vm_8, vm_9, vm_10, vm_11, vm_12, vm_13, vm_14, vm_15, vm_16, vm_17, vm_18, vm_19, vm_20, vm_21, .ref tc, .int (nI kn)])), (tc, .inl (cI, 16, .inl cf))]) [0, 1] (by decide) rfl
    exact wt_iret hx hb hr hlocks hP9 hD9 hS ⟨rfl, (by exact (trA_b c_3).symm)⟩ dX6_trace_32
  · skip
    obtain ⟨j_4, hj_4, rfl⟩ := wI_natT (T := kn) (by omega) c_3
    refine lv_aload_n hx hb dX6_trace_21 rfl (lv_at hl 0 rfl) ?_
    refine va_get (D := D) (ci := 6) (v := .ref tc) (C := RX6) (T := TX6) (N := 24) hx hb hts hi6 hown hK.1 hP 0 rfl rfl 22 (by decide) wf44 (fun _ h9 => h9) rfl dX6_trace_22 ?_
    refine lv_iload_n hx hb dX6_trace_25 rfl (lv_at hl 1 rfl) ?_
    refine va_iald hx hb hK.1 hP 1 0 rfl rfl (vp_in_nI (by omega) (by omega)) dX6_trace_26 ?_
    refine wt_top (z := cf j_4) (by rw [nI_clamp (by omega)]) ?_
    refine lv_goto (tgt := 32) hx hb dX6_trace_27 (by decide) ?_
    have hP9 := hP.sub (ws' := [(md, .inr (6, [.int 0, vm_1, vm_2, vm_3, vm_4, vm_5, vm_6, vm_7, vm_8, vm_9, vm_10, vm_11, vm_12, vm_13, vm_14, vm_15, vm_16, vm_17, vm_18, vm_19, vm_20, vm_21, .ref tc, .int (nI kn)])), (tc, .inl (cI, 16, .inl cf))]) [0, 1] rfl
    have hD9 := hD.sub (ws' := [(md, .inr (6, [.int 0, vm_1, vm_2, vm_3, vm_4, vm_5, vm_6, vm_7, vm_8, vm_9, vm_10, vm_11, vm_12, vm_13, vm_14, vm_15, vm_16, vm_17, vm_18, vm_19, vm_20, vm_21, .ref tc, .int (nI kn)])), (tc, .inl (cI, 16, .inl cf))]) [0, 1] (by decide) rfl
    exact wt_iret hx hb hr hlocks hP9 hD9 hS ⟨rfl, (by exact (trA_y c_3 (by omega)).symm)⟩ dX6_trace_32
set_option maxHeartbeats 4000000 in
set_option maxRecDepth 100000 in
theorem c_X6_rowFound_x (l : Launch) (D : va_G) (cI cZ cH : ClassId) (md : Nat) (ln mn it : Nat) (lf sf tf : Nat → Int32) (ro n : Nat) (sv i : Int32) (vm_0 vm_5 vm_6 vm_7 vm_8 vm_9 vm_10 vm_11 vm_12 vm_13 vm_14 vm_15 vm_16 vm_17 vm_18 vm_19 vm_20 vm_21 vm_22 vm_23 : Value) (hs8 : hw 40 8 sf) (hr8 : ro < 8) (hn12 : n ≤ 12) (hlq : lq lf) : wt_M l yX6_rowFound wsX6_rowFound ({ frames := 1, cells := 0, slots := 0, locals := 21 } : Room) D (wt_T cI cZ cH) [.ref md, .int (nI ro), .int i, .int (nI n)] [(md, .inr (6, [vm_0, .int sv, .ref ln, .ref mn, .ref it, vm_5, vm_6, vm_7, vm_8, vm_9, vm_10, vm_11, vm_12, vm_13, vm_14, vm_15, vm_16, vm_17, vm_18, vm_19, vm_20, vm_21, vm_22, vm_23])), (ln, .inl (cI, 8, .inl lf)), (mn, .inl (cI, 8, .inl sf)), (it, .inl (cI, 320, .inl tf))] (wt_QI D (fun r w => ∃ (md_f1 : Int32), w = [(md, .inr (6, [vm_0, .int md_f1, .ref ln, .ref mn, .ref it, vm_5, vm_6, vm_7, vm_8, vm_9, vm_10, vm_11, vm_12, vm_13, vm_14, vm_15, vm_16, vm_17, vm_18, vm_19, vm_20, vm_21, vm_22, vm_23])), (ln, .inl (cI, 8, .inl lf)), (mn, .inl (cI, 8, .inl sf)), (it, .inl (cI, 320, .inl tf))] ∧ md_f1 = rs (lf ro) (sf ro) i (nI n) ∧ (r = 0 → ∃ a : Nat, i = nI a ∧ a + n ≤ 40))) := by
  refine wt_M.ofW (cc := cX6_rowFound) (maxL := 4) (ret := (some .int)) (by decide) rfl (Nat.le_of_ble_eq_true rfl) ?_
  intro p e s m below meth c A ls hx hb hr hts hown hlocks hml hnm hP hK hD hA hS hl
  have hP : va_P D vwCl [(md, .inr (6, [vm_0, .int sv, .ref ln, .ref mn, .ref it, vm_5, vm_6, vm_7, vm_8, vm_9, vm_10, vm_11, vm_12, vm_13, vm_14, vm_15, vm_16, vm_17, vm_18, vm_19, vm_20, vm_21, vm_22, vm_23])), (ln, .inl (cI, 8, .inl lf)), (mn, .inl (cI, 8, .inl sf)), (it, .inl (cI, 320, .inl tf))] s.heap := hP
  have hown : s.vm.findClass RX6 = some m.cls := hown
  have hl : lv_has ls 4 [(0, .ref md), (1, .int (nI ro)), (2, .int i), (3, .int (nI n))] := hl
  have hi6 : ∀ w ∈ u_ws RX6 TX6 24, w ∈ wsX6_rowFound := by decide +kernel
  have wf13 := hts (.fieldLink RX6 13 "WarmTubesModel" "many" "[I") (by decide +kernel)
  have wf51 := hts (.fieldLink RX6 51 "WarmTubesModel" "status" "I") (by decide +kernel)
  have wf7 := hts (.fieldLink RX6 7 "WarmTubesModel" "lane" "[I") (by decide +kernel)
  refine lv_aload_n hx hb dX6_rowFound_0 rfl (lv_at hl 0 rfl) ?_
  refine va_get (D := D) (ci := 6) (v := .ref ln) (C := RX6) (T := TX6) (N := 24) hx hb hts hi6 hown hK.1 hP 0 rfl rfl 2 (by decide) wf7 (fun _ h9 => h9) rfl dX6_rowFound_1 ?_
  refine lv_iload_n hx hb dX6_rowFound_4 rfl (lv_at hl 1 rfl) ?_
  refine va_iald hx hb hK.1 hP 1 0 rfl rfl (vp_in_nI (by omega) (by omega)) dX6_rowFound_5 ?_
  refine wt_top (z := lf ro) (by rw [nI_clamp (by omega)]) ?_
  refine lv_if_ge (tgt := 15) hx hb dX6_rowFound_6 (by decide) (fun c_1 => ?_) (fun c_1 => ?_)
  · skip
    refine lv_iload_n hx hb dX6_rowFound_15 rfl (lv_at hl 2 rfl) ?_
    refine lv_if_lt (tgt := 35) hx hb dX6_rowFound_16 (by decide) (fun c_2 => ?_) (fun c_2 => ?_)
    · skip
      refine lv_aload_n hx hb dX6_rowFound_35 rfl (lv_at hl 0 rfl) ?_
      refine lv_iconst (v := 2) hx hb dX6_rowFound_36 (by decide) ?_
      refine wt_goI (wr := [(ln, .inl (cI, 8, .inl lf)), (mn, .inl (cI, 8, .inl sf)), (it, .inl (cI, 320, .inl tf))]) (wt_runV (As := [.int 2]) (rest := []) ⟨hx, hb, hml, hown, hts⟩ (c_X6_finding l D cI cZ cH md 2 vm_0 (.int sv) (.ref ln) (.ref mn) (.ref it) vm_5 vm_6 vm_7 vm_8 vm_9 vm_10 vm_11 vm_12 vm_13 vm_14 vm_15 vm_16 vm_17 vm_18 vm_19 vm_20 vm_21 vm_22 vm_23) (cwV 1 hts gX6_rowFound_X6_finding rfl rfl rfl (by decide +kernel) ⟨Nat.le_of_ble_eq_true rfl, Nat.le_of_ble_eq_true rfl⟩) hK hP hD [0] rfl (by decide) (va_recv hK.1 hP (ci := 6) (q0 := 0) rfl rfl) rfl hl.1 rfl (Nat.le_of_ble_eq_true rfl) dX6_rowFound_37 ⟨Nat.le_of_ble_eq_true rfl, Nat.le_of_ble_eq_true rfl⟩) hP hD hS hA [0] [1, 2, 3] rfl rfl (by decide) (by decide) (fun r_3 w_4 H locs h_5 hP hD hS => ?_)
      obtain ⟨rfl, rfl⟩ := h_5
      have hP : va_P D vwCl [(ln, .inl (cI, 8, .inl lf)), (mn, .inl (cI, 8, .inl sf)), (it, .inl (cI, 320, .inl tf)), (md, .inr (6, [vm_0, .int 2, .ref ln, .ref mn, .ref it, vm_5, vm_6, vm_7, vm_8, vm_9, vm_10, vm_11, vm_12, vm_13, vm_14, vm_15, vm_16, vm_17, vm_18, vm_19, vm_20, vm_21, vm_22, vm_23]))] H := hP
      have hD : va_D A [(ln, .inl (cI, 8, .inl lf)), (mn, .inl (cI, 8, .inl sf)), (it, .inl (cI, 320, .inl tf)), (md, .inr (6, [vm_0, .int 2, .ref ln, .ref mn, .ref it, vm_5, vm_6, vm_7, vm_8, vm_9, vm_10, vm_11, vm_12, vm_13, vm_14, vm_15, vm_16, vm_17, vm_18, vm_19, vm_20, vm_21, vm_22, vm_23]))] := hD
      refine wt_top (z := (-1000012)) (by decide) ?_
      have hP9 := hP.sub (ws' := [(md, .inr (6, [vm_0, .int 2, .ref ln, .ref mn, .ref it, vm_5, vm_6, vm_7, vm_8, vm_9, vm_10, vm_11, vm_12, vm_13, vm_14, vm_15, vm_16, vm_17, vm_18, vm_19, vm_20, vm_21, vm_22, vm_23])), (ln, .inl (cI, 8, .inl lf)), (mn, .inl (cI, 8, .inl sf)), (it, .inl (cI, 320, .inl tf))]) [3, 0, 1, 2] rfl
      have hD9 := hD.sub (ws' := [(md, .inr (6, [vm_0, .int 2, .ref ln, .ref mn, .ref it, vm_5, vm_6, vm_7, vm_8, vm_9, vm_10, vm_11, vm_12, vm_13, vm_14, vm_15, vm_16, vm_17, vm_18, vm_19, vm_20, vm_21, vm_22, vm_23])), (ln, .inl (cI, 8, .inl lf)), (mn, .inl (cI, 8, .inl sf)), (it, .inl (cI, 320, .inl tf))]) [3, 0, 1, 2] (by decide) rfl
      exact wt_iret hx hb hr hlocks hP9 hD9 hS ⟨2, rfl, ⟨(rs_i (nl_m1 (wt_nlt c_1)) c_2).symm, (fun h => absurd h (by decide))⟩⟩ dX6_rowFound_40
    · skip
      obtain ⟨z_6, hz_6, rfl⟩ := nI_of c_2
      refine lv_iload_n hx hb dX6_rowFound_19 rfl (lv_at hl 2 rfl) ?_
      refine lv_i2l hx hb dX6_rowFound_20 rfl ?_
      refine wt_topl (z := lN z_6) (nI_l (by omega)) ?_
      refine lv_iload_n hx hb dX6_rowFound_21 rfl (lv_at hl 3 rfl) ?_
      refine lv_i2l hx hb dX6_rowFound_22 rfl ?_
      refine wt_topl (z := lN n) (nI_l (by omega)) ?_
      refine lv_ladd hx hb dX6_rowFound_23 ?_
      refine wt_topl (z := lN (z_6 + n)) (lN_add z_6 n) ?_
      refine lv_aload_n hx hb dX6_rowFound_24 rfl (lv_at hl 0 rfl) ?_
      refine va_get (D := D) (ci := 6) (v := .ref mn) (C := RX6) (T := TX6) (N := 24) hx hb hts hi6 hown hK.1 hP 0 rfl rfl 3 (by decide) wf13 (fun _ h9 => h9) rfl dX6_rowFound_25 ?_
      refine lv_iload_n hx hb dX6_rowFound_28 rfl (lv_at hl 1 rfl) ?_
      refine va_iald hx hb hK.1 hP 2 0 rfl rfl (vp_in_nI (by omega) (by omega)) dX6_rowFound_29 ?_
      obtain ⟨q_7, hq_7, eq_7⟩ := hs8 ro (by omega)
      refine wt_top (z := nI q_7) (by rw [nI_clamp (by omega)]; exact eq_7) ?_
      refine lv_i2l hx hb dX6_rowFound_30 rfl ?_
      refine wt_topl (z := lN q_7) (nI_l (by omega)) ?_
      refine W.lcmp hx hb dX6_rowFound_31 ?_
      refine lv_if_le (tgt := 41) hx hb dX6_rowFound_32 (by decide) (fun c_8 => ?_) (fun c_8 => ?_)
      · skip
        have le_9 := wt_lcle (by omega) (by omega) (wt_ngt c_8)
        refine lv_aload_n hx hb dX6_rowFound_41 rfl (lv_at hl 0 rfl) ?_
        refine lv_iconst (v := 0) hx hb dX6_rowFound_42 (by decide) ?_
        refine va_put (D := D) (ci := 6) (v := .int 0) (ty := .int) (C := RX6) (T := TX6) (N := 24) hx hb hts hi6 tyX6 tyX6_ok nmX6 hown hK.1 hP hD hS 0 rfl rfl 1 (by decide) wf51 (fun _ h9 => h9) rfl (by decide +kernel) rfl rfl (Nat.le_of_ble_eq_true rfl) dX6_rowFound_43 (fun H locs hP hD hS => ?_)
        have hP : va_P D vwCl [(md, .inr (6, [vm_0, .int 0, .ref ln, .ref mn, .ref it, vm_5, vm_6, vm_7, vm_8, vm_9, vm_10, vm_11, vm_12, vm_13, vm_14, vm_15, vm_16, vm_17, vm_18, vm_19, vm_20, vm_21, vm_22, vm_23])), (ln, .inl (cI, 8, .inl lf)), (mn, .inl (cI, 8, .inl sf)), (it, .inl (cI, 320, .inl tf))] H := hP
        have hD : va_D A [(md, .inr (6, [vm_0, .int 0, .ref ln, .ref mn, .ref it, vm_5, vm_6, vm_7, vm_8, vm_9, vm_10, vm_11, vm_12, vm_13, vm_14, vm_15, vm_16, vm_17, vm_18, vm_19, vm_20, vm_21, vm_22, vm_23])), (ln, .inl (cI, 8, .inl lf)), (mn, .inl (cI, 8, .inl sf)), (it, .inl (cI, 320, .inl tf))] := hD
        refine lv_iconst (v := 0) hx hb dX6_rowFound_46 (by decide) ?_
        have hP9 := hP.sub (ws' := [(md, .inr (6, [vm_0, .int 0, .ref ln, .ref mn, .ref it, vm_5, vm_6, vm_7, vm_8, vm_9, vm_10, vm_11, vm_12, vm_13, vm_14, vm_15, vm_16, vm_17, vm_18, vm_19, vm_20, vm_21, vm_22, vm_23])), (ln, .inl (cI, 8, .inl lf)), (mn, .inl (cI, 8, .inl sf)), (it, .inl (cI, 320, .inl tf))]) [0, 1, 2, 3] rfl
        have hD9 := hD.sub (ws' := [(md, .inr (6, [vm_0, .int 0, .ref ln, .ref mn, .ref it, vm_5, vm_6, vm_7, vm_8, vm_9, vm_10, vm_11, vm_12, vm_13, vm_14, vm_15, vm_16, vm_17, vm_18, vm_19, vm_20, vm_21, vm_22, vm_23])), (ln, .inl (cI, 8, .inl lf)), (mn, .inl (cI, 8, .inl sf)), (it, .inl (cI, 320, .inl tf))]) [0, 1, 2, 3] (by decide) rfl
        exact wt_iret hx hb hr hlocks hP9 hD9 hS ⟨0, rfl, ⟨(rs_l (nl_m1 (wt_nlt c_1)) eq_7 (by omega) (by omega) (by omega) (by omega)).symm, (fun _ => ⟨_, rfl, by omega⟩)⟩⟩ dX6_rowFound_47
      · skip
        refine lv_aload_n hx hb dX6_rowFound_35 rfl (lv_at hl 0 rfl) ?_
        refine lv_iconst (v := 2) hx hb dX6_rowFound_36 (by decide) ?_
        refine wt_goI (wr := [(ln, .inl (cI, 8, .inl lf)), (mn, .inl (cI, 8, .inl sf)), (it, .inl (cI, 320, .inl tf))]) (wt_runV (As := [.int 2]) (rest := []) ⟨hx, hb, hml, hown, hts⟩ (c_X6_finding l D cI cZ cH md 2 vm_0 (.int sv) (.ref ln) (.ref mn) (.ref it) vm_5 vm_6 vm_7 vm_8 vm_9 vm_10 vm_11 vm_12 vm_13 vm_14 vm_15 vm_16 vm_17 vm_18 vm_19 vm_20 vm_21 vm_22 vm_23) (cwV 1 hts gX6_rowFound_X6_finding rfl rfl rfl (by decide +kernel) ⟨Nat.le_of_ble_eq_true rfl, Nat.le_of_ble_eq_true rfl⟩) hK hP hD [0] rfl (by decide) (va_recv hK.1 hP (ci := 6) (q0 := 0) rfl rfl) rfl hl.1 rfl (Nat.le_of_ble_eq_true rfl) dX6_rowFound_37 ⟨Nat.le_of_ble_eq_true rfl, Nat.le_of_ble_eq_true rfl⟩) hP hD hS hA [0] [1, 2, 3] rfl rfl (by decide) (by decide) (fun r_10 w_11 H locs h_12 hP hD hS => ?_)
        obtain ⟨rfl, rfl⟩ := h_12
        have hP : va_P D vwCl [(ln, .inl (cI, 8, .inl lf)), (mn, .inl (cI, 8, .inl sf)), (it, .inl (cI, 320, .inl tf)), (md, .inr (6, [vm_0, .int 2, .ref ln, .ref mn, .ref it, vm_5, vm_6, vm_7, vm_8, vm_9, vm_10, vm_11, vm_12, vm_13, vm_14, vm_15, vm_16, vm_17, vm_18, vm_19, vm_20, vm_21, vm_22, vm_23]))] H := hP
        have hD : va_D A [(ln, .inl (cI, 8, .inl lf)), (mn, .inl (cI, 8, .inl sf)), (it, .inl (cI, 320, .inl tf)), (md, .inr (6, [vm_0, .int 2, .ref ln, .ref mn, .ref it, vm_5, vm_6, vm_7, vm_8, vm_9, vm_10, vm_11, vm_12, vm_13, vm_14, vm_15, vm_16, vm_17, vm_18, vm_19, vm_20, vm_21, vm_22, vm_23]))] := hD
        refine wt_top (z := (-1000012)) (by decide) ?_
        have hP9 := hP.sub (ws' := [(md, .inr (6, [vm_0, .int 2, .ref ln, .ref mn, .ref it, vm_5, vm_6, vm_7, vm_8, vm_9, vm_10, vm_11, vm_12, vm_13, vm_14, vm_15, vm_16, vm_17, vm_18, vm_19, vm_20, vm_21, vm_22, vm_23])), (ln, .inl (cI, 8, .inl lf)), (mn, .inl (cI, 8, .inl sf)), (it, .inl (cI, 320, .inl tf))]) [3, 0, 1, 2] rfl
        have hD9 := hD.sub (ws' := [(md, .inr (6, [vm_0, .int 2, .ref ln, .ref mn, .ref it, vm_5, vm_6, vm_7, vm_8, vm_9, vm_10, vm_11, vm_12, vm_13, vm_14, vm_15, vm_16, vm_17, vm_18, vm_19, vm_20, vm_21, vm_22, vm_23])), (ln, .inl (cI, 8, .inl lf)), (mn, .inl (cI, 8, .inl sf)), (it, .inl (cI, 320, .inl tf))]) [3, 0, 1, 2] (by decide) rfl
        exact wt_iret hx hb hr hlocks hP9 hD9 hS ⟨2, rfl, ⟨(rs_g (nl_m1 (wt_nlt c_1)) eq_7 (by omega) (by omega) (by omega) (ng_gt c_8)).symm, (fun h => absurd h (by decide))⟩⟩ dX6_rowFound_40
  · skip
    refine lv_aload_n hx hb dX6_rowFound_9 rfl (lv_at hl 0 rfl) ?_
    refine lv_iconst (v := 1) hx hb dX6_rowFound_10 (by decide) ?_
    refine wt_goI (wr := [(ln, .inl (cI, 8, .inl lf)), (mn, .inl (cI, 8, .inl sf)), (it, .inl (cI, 320, .inl tf))]) (wt_runV (As := [.int 1]) (rest := []) ⟨hx, hb, hml, hown, hts⟩ (c_X6_finding l D cI cZ cH md 1 vm_0 (.int sv) (.ref ln) (.ref mn) (.ref it) vm_5 vm_6 vm_7 vm_8 vm_9 vm_10 vm_11 vm_12 vm_13 vm_14 vm_15 vm_16 vm_17 vm_18 vm_19 vm_20 vm_21 vm_22 vm_23) (cwV 1 hts gX6_rowFound_X6_finding rfl rfl rfl (by decide +kernel) ⟨Nat.le_of_ble_eq_true rfl, Nat.le_of_ble_eq_true rfl⟩) hK hP hD [0] rfl (by decide) (va_recv hK.1 hP (ci := 6) (q0 := 0) rfl rfl) rfl hl.1 rfl (Nat.le_of_ble_eq_true rfl) dX6_rowFound_11 ⟨Nat.le_of_ble_eq_true rfl, Nat.le_of_ble_eq_true rfl⟩) hP hD hS hA [0] [1, 2, 3] rfl rfl (by decide) (by decide) (fun r_13 w_14 H locs h_15 hP hD hS => ?_)
    obtain ⟨rfl, rfl⟩ := h_15
    have hP : va_P D vwCl [(ln, .inl (cI, 8, .inl lf)), (mn, .inl (cI, 8, .inl sf)), (it, .inl (cI, 320, .inl tf)), (md, .inr (6, [vm_0, .int 1, .ref ln, .ref mn, .ref it, vm_5, vm_6, vm_7, vm_8, vm_9, vm_10, vm_11, vm_12, vm_13, vm_14, vm_15, vm_16, vm_17, vm_18, vm_19, vm_20, vm_21, vm_22, vm_23]))] H := hP
    have hD : va_D A [(ln, .inl (cI, 8, .inl lf)), (mn, .inl (cI, 8, .inl sf)), (it, .inl (cI, 320, .inl tf)), (md, .inr (6, [vm_0, .int 1, .ref ln, .ref mn, .ref it, vm_5, vm_6, vm_7, vm_8, vm_9, vm_10, vm_11, vm_12, vm_13, vm_14, vm_15, vm_16, vm_17, vm_18, vm_19, vm_20, vm_21, vm_22, vm_23]))] := hD
    refine wt_top (z := (-1000011)) (by decide) ?_
    have hP9 := hP.sub (ws' := [(md, .inr (6, [vm_0, .int 1, .ref ln, .ref mn, .ref it, vm_5, vm_6, vm_7, vm_8, vm_9, vm_10, vm_11, vm_12, vm_13, vm_14, vm_15, vm_16, vm_17, vm_18, vm_19, vm_20, vm_21, vm_22, vm_23])), (ln, .inl (cI, 8, .inl lf)), (mn, .inl (cI, 8, .inl sf)), (it, .inl (cI, 320, .inl tf))]) [3, 0, 1, 2] rfl
    have hD9 := hD.sub (ws' := [(md, .inr (6, [vm_0, .int 1, .ref ln, .ref mn, .ref it, vm_5, vm_6, vm_7, vm_8, vm_9, vm_10, vm_11, vm_12, vm_13, vm_14, vm_15, vm_16, vm_17, vm_18, vm_19, vm_20, vm_21, vm_22, vm_23])), (ln, .inl (cI, 8, .inl lf)), (mn, .inl (cI, 8, .inl sf)), (it, .inl (cI, 320, .inl tf))]) [3, 0, 1, 2] (by decide) rfl
    exact wt_iret hx hb hr hlocks hP9 hD9 hS ⟨1, rfl, ⟨(rs_1 (lq_neg hlq (by omega) (ng_lt c_1))).symm, (fun h => absurd h (by decide))⟩⟩ dX6_rowFound_14
set_option maxHeartbeats 4000000 in
set_option maxRecDepth 100000 in
theorem c_X6_who_x (l : Launch) (D : va_G) (cI cZ cH : ClassId) (md hs : Nat) (R T : Nat) (f : Nat → Int32) (tn : Nat) (g : Nat → Int32) (ln mn it : Nat) (lf sf tf : Nat → Int32) (sv : Int32) (a1 a2 a3 a4 a5 a6 : Int32) (vm_0 vm_6 vm_8 vm_9 vm_10 vm_11 vm_12 vm_13 vm_14 vm_15 vm_16 vm_17 vm_18 vm_19 vm_20 vm_21 vm_22 vm_23 : Value) (hR5 : R ≤ 5) (hT6 : T ≤ 6) (hrk : rk R T f) (hs8 : hw 40 8 sf) (hlq : lq lf) : wt_M l yX6_who wsX6_who ({ frames := 5, cells := 0, slots := 0, locals := 116 } : Room) D (wt_T cI cZ cH) [.ref md, .int a1, .int a2, .int a3, .int a4, .int a5, .int a6] [(md, .inr (6, [vm_0, .int sv, .ref ln, .ref mn, .ref it, .ref hs, vm_6, .ref tn, vm_8, vm_9, vm_10, vm_11, vm_12, vm_13, vm_14, vm_15, vm_16, vm_17, vm_18, vm_19, vm_20, vm_21, vm_22, vm_23])), (hs, .inl (cI, 45, .inl f)), (tn, .inl (cI, 45, .inl g)), (ln, .inl (cI, 8, .inl lf)), (mn, .inl (cI, 8, .inl sf)), (it, .inl (cI, 320, .inl tf))] (wt_QI D (fun r w => ∃ (g2 : Nat → Int32) (md_f1 : Int32), w = [(md, .inr (6, [.int 0, .int md_f1, .ref ln, .ref mn, .ref it, .ref hs, vm_6, .ref tn, vm_8, vm_9, vm_10, vm_11, vm_12, vm_13, vm_14, vm_15, vm_16, vm_17, vm_18, vm_19, vm_20, vm_21, vm_22, vm_23])), (hs, .inl (cI, 45, .inl f)), (tn, .inl (cI, 45, .inl g2)), (ln, .inl (cI, 8, .inl lf)), (mn, .inl (cI, 8, .inl sf)), (it, .inl (cI, 320, .inl tf))] ∧ md_f1 = fQ (whF T R lf sf a1 a2 a3 a4 a5 a6) sv)) := by
  refine wt_M.ofW (cc := cX6_who) (maxL := 11) (ret := (some .int)) (by decide) rfl (Nat.le_of_ble_eq_true rfl) ?_
  intro p e s m below meth c A ls hx hb hr hts hown hlocks hml hnm hP hK hD hA hS hl
  have hP : va_P D vwCl [(md, .inr (6, [vm_0, .int sv, .ref ln, .ref mn, .ref it, .ref hs, vm_6, .ref tn, vm_8, vm_9, vm_10, vm_11, vm_12, vm_13, vm_14, vm_15, vm_16, vm_17, vm_18, vm_19, vm_20, vm_21, vm_22, vm_23])), (hs, .inl (cI, 45, .inl f)), (tn, .inl (cI, 45, .inl g)), (ln, .inl (cI, 8, .inl lf)), (mn, .inl (cI, 8, .inl sf)), (it, .inl (cI, 320, .inl tf))] s.heap := hP
  have hown : s.vm.findClass RX6 = some m.cls := hown
  have hl : lv_has ls 11 [(0, .ref md), (1, .int a1), (2, .int a2), (3, .int a3), (4, .int a4), (5, .int a5), (6, .int a6)] := hl
  have hi6 : ∀ w ∈ u_ws RX6 TX6 24, w ∈ wsX6_who := by decide +kernel
  have wc67 := hts (.constant RX6 67 (-1000001)) (by decide +kernel)
  have wf19 := hts (.fieldLink RX6 19 "WarmTubesModel" "house" "[I") (by decide +kernel)
  have wf25 := hts (.fieldLink RX6 25 "WarmTubesModel" "then" "[I") (by decide +kernel)
  have wf47 := hts (.fieldLink RX6 47 "WarmTubesModel" "thrown" "I") (by decide +kernel)
  have wl265 := hts (.constantLong RX6 265 (12)) (by decide +kernel)
  have wl65 := hts (.constantLong RX6 65 (2)) (by decide +kernel)
  refine lv_aload_n hx hb dX6_who_0 rfl (lv_at hl 0 rfl) ?_
  refine lv_iconst (v := 0) hx hb dX6_who_1 (by decide) ?_
  refine va_put (D := D) (ci := 6) (v := .int 0) (ty := .int) (C := RX6) (T := TX6) (N := 24) hx hb hts hi6 tyX6 tyX6_ok nmX6 hown hK.1 hP hD hS 0 rfl rfl 0 (by decide) wf47 (fun _ h9 => h9) rfl (by decide +kernel) rfl rfl (Nat.le_of_ble_eq_true rfl) dX6_who_2 (fun H locs hP hD hS => ?_)
  have hP : va_P D vwCl [(md, .inr (6, [.int 0, .int sv, .ref ln, .ref mn, .ref it, .ref hs, vm_6, .ref tn, vm_8, vm_9, vm_10, vm_11, vm_12, vm_13, vm_14, vm_15, vm_16, vm_17, vm_18, vm_19, vm_20, vm_21, vm_22, vm_23])), (hs, .inl (cI, 45, .inl f)), (tn, .inl (cI, 45, .inl g)), (ln, .inl (cI, 8, .inl lf)), (mn, .inl (cI, 8, .inl sf)), (it, .inl (cI, 320, .inl tf))] H := hP
  have hD : va_D A [(md, .inr (6, [.int 0, .int sv, .ref ln, .ref mn, .ref it, .ref hs, vm_6, .ref tn, vm_8, vm_9, vm_10, vm_11, vm_12, vm_13, vm_14, vm_15, vm_16, vm_17, vm_18, vm_19, vm_20, vm_21, vm_22, vm_23])), (hs, .inl (cI, 45, .inl f)), (tn, .inl (cI, 45, .inl g)), (ln, .inl (cI, 8, .inl lf)), (mn, .inl (cI, 8, .inl sf)), (it, .inl (cI, 320, .inl tf))] := hD
  refine lv_aload_n hx hb dX6_who_5 rfl (lv_at hl 0 rfl) ?_
  refine lv_iload_n hx hb dX6_who_6 rfl (lv_at hl 1 rfl) ?_
  refine wt_rV (As := [.int a1]) (rest := []) ⟨hx, hb, hml, hown, hts⟩ (c_X6_isTube l D cI cZ cH md hs R T f a1 (.int 0) (.int sv) (.ref ln) (.ref mn) (.ref it) vm_6 (.ref tn) vm_8 vm_9 vm_10 vm_11 vm_12 vm_13 vm_14 vm_15 vm_16 vm_17 vm_18 vm_19 vm_20 vm_21 vm_22 vm_23 (by first | assumption | omega) (by first | assumption | omega) (by first | assumption | omega)) (cwV 1 hts gX6_who_X6_isTube rfl rfl rfl (by decide +kernel) ⟨Nat.le_of_ble_eq_true rfl, Nat.le_of_ble_eq_true rfl⟩) hK hP [0, 1] rfl (va_recv hK.1 hP (ci := 6) (q0 := 0) rfl rfl) rfl hl.1 rfl (Nat.le_of_ble_eq_true rfl) dX6_who_7 ⟨Nat.le_of_ble_eq_true rfl, Nat.le_of_ble_eq_true rfl⟩ (fun r_1 e_2 => ?_)
  subst e_2
  refine lv_if_eq (tgt := 54) hx hb dX6_who_10 (by decide) (fun c_3 => ?_) (fun c_3 => ?_)
  · skip
    refine lv_ldc hx hb hown wc67 dX6_who_54 ?_
    have hP9 := hP.sub (ws' := [(md, .inr (6, [.int 0, .int sv, .ref ln, .ref mn, .ref it, .ref hs, vm_6, .ref tn, vm_8, vm_9, vm_10, vm_11, vm_12, vm_13, vm_14, vm_15, vm_16, vm_17, vm_18, vm_19, vm_20, vm_21, vm_22, vm_23])), (hs, .inl (cI, 45, .inl f)), (tn, .inl (cI, 45, .inl g)), (ln, .inl (cI, 8, .inl lf)), (mn, .inl (cI, 8, .inl sf)), (it, .inl (cI, 320, .inl tf))]) [0, 1, 2, 3, 4, 5] rfl
    have hD9 := hD.sub (ws' := [(md, .inr (6, [.int 0, .int sv, .ref ln, .ref mn, .ref it, .ref hs, vm_6, .ref tn, vm_8, vm_9, vm_10, vm_11, vm_12, vm_13, vm_14, vm_15, vm_16, vm_17, vm_18, vm_19, vm_20, vm_21, vm_22, vm_23])), (hs, .inl (cI, 45, .inl f)), (tn, .inl (cI, 45, .inl g)), (ln, .inl (cI, 8, .inl lf)), (mn, .inl (cI, 8, .inl sf)), (it, .inl (cI, 320, .inl tf))]) [0, 1, 2, 3, 4, 5] (by decide) rfl
    exact wt_iret hx hb hr hlocks hP9 hD9 hS ⟨g, sv, rfl, (fQ_b (whF_1 c_3) sv).symm⟩ dX6_who_56
  · skip
    obtain ⟨j_4, hj_4, rfl⟩ := wI_natT (T := T) (by omega) c_3
    refine lv_iload_n hx hb dX6_who_13 rfl (lv_at hl 2 rfl) ?_
    refine lv_i2l hx hb dX6_who_14 rfl ?_
    refine lv_lconst (v := 0) hx hb dX6_who_15 (by decide) ?_
    refine lv_ldc2 hx hb hown wl65 dX6_who_16 ?_
    refine wt_rS (As := [.long a2.toInt64, .long 0, .long 2]) (rest := []) ⟨hx, hb, hml, hown, hts⟩ (c_X6_in l D cI cZ cH a2.toInt64 0 2) (va_cwS 3 hts gX6_who_X6_in rfl rfl rfl (by decide +kernel) ⟨Nat.le_of_ble_eq_true rfl, Nat.le_of_ble_eq_true rfl⟩) hK hP [] rfl rfl hl.1 rfl (Nat.le_of_ble_eq_true rfl) dX6_who_19 ⟨Nat.le_of_ble_eq_true rfl, Nat.le_of_ble_eq_true rfl⟩ (fun r_5 e_6 => ?_)
    subst e_6
    refine wt_top (z := wI a2 0 2) (wL_I' (by decide) (by decide)) ?_
    refine lv_if_eq (tgt := 54) hx hb dX6_who_22 (by decide) (fun c_7 => ?_) (fun c_7 => ?_)
    · skip
      refine lv_ldc hx hb hown wc67 dX6_who_54 ?_
      have hP9 := hP.sub (ws' := [(md, .inr (6, [.int 0, .int sv, .ref ln, .ref mn, .ref it, .ref hs, vm_6, .ref tn, vm_8, vm_9, vm_10, vm_11, vm_12, vm_13, vm_14, vm_15, vm_16, vm_17, vm_18, vm_19, vm_20, vm_21, vm_22, vm_23])), (hs, .inl (cI, 45, .inl f)), (tn, .inl (cI, 45, .inl g)), (ln, .inl (cI, 8, .inl lf)), (mn, .inl (cI, 8, .inl sf)), (it, .inl (cI, 320, .inl tf))]) [0, 1, 2, 3, 4, 5] rfl
      have hD9 := hD.sub (ws' := [(md, .inr (6, [.int 0, .int sv, .ref ln, .ref mn, .ref it, .ref hs, vm_6, .ref tn, vm_8, vm_9, vm_10, vm_11, vm_12, vm_13, vm_14, vm_15, vm_16, vm_17, vm_18, vm_19, vm_20, vm_21, vm_22, vm_23])), (hs, .inl (cI, 45, .inl f)), (tn, .inl (cI, 45, .inl g)), (ln, .inl (cI, 8, .inl lf)), (mn, .inl (cI, 8, .inl sf)), (it, .inl (cI, 320, .inl tf))]) [0, 1, 2, 3, 4, 5] (by decide) rfl
      exact wt_iret hx hb hr hlocks hP9 hD9 hS ⟨g, sv, rfl, (fQ_b (whF_2 c_3 c_7) sv).symm⟩ dX6_who_56
    · skip
      obtain ⟨j_8, hj_8, hj_8b, rfl⟩ := wI_nat (a := 0) (b := 2) (by omega) (by omega) c_7
      refine lv_aload_n hx hb dX6_who_25 rfl (lv_at hl 0 rfl) ?_
      refine lv_iload_n hx hb dX6_who_26 rfl (lv_at hl 3 rfl) ?_
      refine wt_rV (As := [.int a3]) (rest := []) ⟨hx, hb, hml, hown, hts⟩ (c_X6_isRoom l D cI cZ cH md hs R T f a3 (.int 0) (.int sv) (.ref ln) (.ref mn) (.ref it) vm_6 (.ref tn) vm_8 vm_9 vm_10 vm_11 vm_12 vm_13 vm_14 vm_15 vm_16 vm_17 vm_18 vm_19 vm_20 vm_21 vm_22 vm_23 (by first | assumption | omega) (by first | assumption | omega) (by first | assumption | omega)) (cwV 1 hts gX6_who_X6_isRoom rfl rfl rfl (by decide +kernel) ⟨Nat.le_of_ble_eq_true rfl, Nat.le_of_ble_eq_true rfl⟩) hK hP [0, 1] rfl (va_recv hK.1 hP (ci := 6) (q0 := 0) rfl rfl) rfl hl.1 rfl (Nat.le_of_ble_eq_true rfl) dX6_who_27 ⟨Nat.le_of_ble_eq_true rfl, Nat.le_of_ble_eq_true rfl⟩ (fun r_9 e_10 => ?_)
      subst e_10
      refine lv_if_eq (tgt := 54) hx hb dX6_who_30 (by decide) (fun c_11 => ?_) (fun c_11 => ?_)
      · skip
        refine lv_ldc hx hb hown wc67 dX6_who_54 ?_
        have hP9 := hP.sub (ws' := [(md, .inr (6, [.int 0, .int sv, .ref ln, .ref mn, .ref it, .ref hs, vm_6, .ref tn, vm_8, vm_9, vm_10, vm_11, vm_12, vm_13, vm_14, vm_15, vm_16, vm_17, vm_18, vm_19, vm_20, vm_21, vm_22, vm_23])), (hs, .inl (cI, 45, .inl f)), (tn, .inl (cI, 45, .inl g)), (ln, .inl (cI, 8, .inl lf)), (mn, .inl (cI, 8, .inl sf)), (it, .inl (cI, 320, .inl tf))]) [0, 1, 2, 3, 4, 5] rfl
        have hD9 := hD.sub (ws' := [(md, .inr (6, [.int 0, .int sv, .ref ln, .ref mn, .ref it, .ref hs, vm_6, .ref tn, vm_8, vm_9, vm_10, vm_11, vm_12, vm_13, vm_14, vm_15, vm_16, vm_17, vm_18, vm_19, vm_20, vm_21, vm_22, vm_23])), (hs, .inl (cI, 45, .inl f)), (tn, .inl (cI, 45, .inl g)), (ln, .inl (cI, 8, .inl lf)), (mn, .inl (cI, 8, .inl sf)), (it, .inl (cI, 320, .inl tf))]) [0, 1, 2, 3, 4, 5] (by decide) rfl
        exact wt_iret hx hb hr hlocks hP9 hD9 hS ⟨g, sv, rfl, (fQ_b (whF_3 c_3 c_7 c_11) sv).symm⟩ dX6_who_56
      · skip
        obtain ⟨j_12, hj_12, rfl⟩ := wI_natT (T := R) (by omega) c_11
        refine lv_iload hx hb dX6_who_33 (lv_at hl 4 rfl) ?_
        refine wt_rS (As := [.int a4]) (rest := []) ⟨hx, hb, hml, hown, hts⟩ (c_X6_isRow l D cI cZ cH a4) (va_cwS 1 hts gX6_who_X6_isRow rfl rfl rfl (by decide +kernel) ⟨Nat.le_of_ble_eq_true rfl, Nat.le_of_ble_eq_true rfl⟩) hK hP [] rfl rfl hl.1 rfl (Nat.le_of_ble_eq_true rfl) dX6_who_35 ⟨Nat.le_of_ble_eq_true rfl, Nat.le_of_ble_eq_true rfl⟩ (fun r_13 e_14 => ?_)
        subst e_14
        refine lv_if_eq (tgt := 54) hx hb dX6_who_38 (by decide) (fun c_15 => ?_) (fun c_15 => ?_)
        · skip
          refine lv_ldc hx hb hown wc67 dX6_who_54 ?_
          have hP9 := hP.sub (ws' := [(md, .inr (6, [.int 0, .int sv, .ref ln, .ref mn, .ref it, .ref hs, vm_6, .ref tn, vm_8, vm_9, vm_10, vm_11, vm_12, vm_13, vm_14, vm_15, vm_16, vm_17, vm_18, vm_19, vm_20, vm_21, vm_22, vm_23])), (hs, .inl (cI, 45, .inl f)), (tn, .inl (cI, 45, .inl g)), (ln, .inl (cI, 8, .inl lf)), (mn, .inl (cI, 8, .inl sf)), (it, .inl (cI, 320, .inl tf))]) [0, 1, 2, 3, 4, 5] rfl
          have hD9 := hD.sub (ws' := [(md, .inr (6, [.int 0, .int sv, .ref ln, .ref mn, .ref it, .ref hs, vm_6, .ref tn, vm_8, vm_9, vm_10, vm_11, vm_12, vm_13, vm_14, vm_15, vm_16, vm_17, vm_18, vm_19, vm_20, vm_21, vm_22, vm_23])), (hs, .inl (cI, 45, .inl f)), (tn, .inl (cI, 45, .inl g)), (ln, .inl (cI, 8, .inl lf)), (mn, .inl (cI, 8, .inl sf)), (it, .inl (cI, 320, .inl tf))]) [0, 1, 2, 3, 4, 5] (by decide) rfl
          exact wt_iret hx hb hr hlocks hP9 hD9 hS ⟨g, sv, rfl, (fQ_b (whF_4 c_3 c_7 c_11 c_15) sv).symm⟩ dX6_who_56
        · skip
          obtain ⟨j_16, hj_16, hj_16b, rfl⟩ := wI_nat (a := 0) (b := 7) (by omega) (by omega) c_15
          refine lv_iload hx hb dX6_who_41 (lv_at hl 6 rfl) ?_
          refine lv_i2l hx hb dX6_who_43 rfl ?_
          refine lv_lconst (v := 1) hx hb dX6_who_44 (by decide) ?_
          refine lv_ldc2 hx hb hown wl265 dX6_who_45 ?_
          refine wt_rS (As := [.long a6.toInt64, .long 1, .long 12]) (rest := []) ⟨hx, hb, hml, hown, hts⟩ (c_X6_in l D cI cZ cH a6.toInt64 1 12) (va_cwS 3 hts gX6_who_X6_in rfl rfl rfl (by decide +kernel) ⟨Nat.le_of_ble_eq_true rfl, Nat.le_of_ble_eq_true rfl⟩) hK hP [] rfl rfl hl.1 rfl (Nat.le_of_ble_eq_true rfl) dX6_who_48 ⟨Nat.le_of_ble_eq_true rfl, Nat.le_of_ble_eq_true rfl⟩ (fun r_17 e_18 => ?_)
          subst e_18
          refine wt_top (z := wI a6 1 12) (wL_I' (by decide) (by decide)) ?_
          refine lv_if_ne (tgt := 57) hx hb dX6_who_51 (by decide) (fun c_19 => ?_) (fun c_19 => ?_)
          · skip
            obtain ⟨j_20, hj_20, hj_20b, rfl⟩ := wI_nat (a := 1) (b := 12) (by omega) (by omega) c_19
            refine lv_aload_n hx hb dX6_who_57 rfl (lv_at hl 0 rfl) ?_
            refine lv_iload hx hb dX6_who_58 (lv_at hl 4 rfl) ?_
            refine lv_iload hx hb dX6_who_60 (lv_at hl 5 rfl) ?_
            refine lv_iload hx hb dX6_who_62 (lv_at hl 6 rfl) ?_
            refine wt_goI (wr := [(hs, .inl (cI, 45, .inl f)), (tn, .inl (cI, 45, .inl g))]) (wt_runV (As := [.int (nI j_16), .int a5, .int (nI j_20)]) (rest := []) ⟨hx, hb, hml, hown, hts⟩ (c_X6_rowFound_x l D cI cZ cH md ln mn it lf sf tf j_16 j_20 sv a5 (.int 0) (.ref hs) vm_6 (.ref tn) vm_8 vm_9 vm_10 vm_11 vm_12 vm_13 vm_14 vm_15 vm_16 vm_17 vm_18 vm_19 vm_20 vm_21 vm_22 vm_23 (by first | assumption | omega) (by first | assumption | omega) (by first | assumption | omega) (by first | assumption | omega)) (cwV 3 hts gX6_who_X6_rowFound rfl rfl rfl (by decide +kernel) ⟨Nat.le_of_ble_eq_true rfl, Nat.le_of_ble_eq_true rfl⟩) hK hP hD [0, 3, 4, 5] rfl (by decide) (va_recv hK.1 hP (ci := 6) (q0 := 0) rfl rfl) rfl hl.1 rfl (Nat.le_of_ble_eq_true rfl) dX6_who_64 ⟨Nat.le_of_ble_eq_true rfl, Nat.le_of_ble_eq_true rfl⟩) hP hD hS hA [0, 3, 4, 5] [1, 2] rfl rfl (by decide) (by decide) (fun r_21 w_22 H locs h_23 hP hD hS => ?_)
            obtain ⟨md_f1_24, rfl, x_25⟩ := h_23
            have hP : va_P D vwCl [(hs, .inl (cI, 45, .inl f)), (tn, .inl (cI, 45, .inl g)), (md, .inr (6, [.int 0, .int md_f1_24, .ref ln, .ref mn, .ref it, .ref hs, vm_6, .ref tn, vm_8, vm_9, vm_10, vm_11, vm_12, vm_13, vm_14, vm_15, vm_16, vm_17, vm_18, vm_19, vm_20, vm_21, vm_22, vm_23])), (ln, .inl (cI, 8, .inl lf)), (mn, .inl (cI, 8, .inl sf)), (it, .inl (cI, 320, .inl tf))] H := hP
            have hD : va_D A [(hs, .inl (cI, 45, .inl f)), (tn, .inl (cI, 45, .inl g)), (md, .inr (6, [.int 0, .int md_f1_24, .ref ln, .ref mn, .ref it, .ref hs, vm_6, .ref tn, vm_8, vm_9, vm_10, vm_11, vm_12, vm_13, vm_14, vm_15, vm_16, vm_17, vm_18, vm_19, vm_20, vm_21, vm_22, vm_23])), (ln, .inl (cI, 8, .inl lf)), (mn, .inl (cI, 8, .inl sf)), (it, .inl (cI, 320, .inl tf))] := hD
            obtain ⟨hst_26, hz_27⟩ := x_25
            refine lv_istore (lv' := [(7, .int r_21), (0, .ref md), (1, .int (nI j_4)), (2, .int (nI j_8)), (3, .int (nI j_12)), (4, .int (nI j_16)), (5, .int a5), (6, .int (nI j_20))]) hx hb dX6_who_67 hl (by decide) rfl (fun ls hl => ?_)
            refine lv_iload hx hb dX6_who_69 (lv_at hl 0 rfl) ?_
            refine lv_if_eq (tgt := 77) hx hb dX6_who_71 (by decide) (fun c_28 => ?_) (fun c_28 => ?_)
            · skip
              obtain ⟨i_29, e_30, h_31⟩ := hz_27 c_28
              subst e_30
              rcases (show j_8 = 0 ∨ j_8 = 1 ∨ j_8 = 2 by omega) with hw0 | hw0 | hw0
              · skip
                subst hw0
                have hl : lv_has ls 11 [(7, .int r_21), (0, .ref md), (1, .int (nI j_4)), (2, .int 0), (3, .int (nI j_12)), (4, .int (nI j_16)), (5, .int (nI i_29)), (6, .int (nI j_20))] := hl
                refine lv_iconst (v := 0) hx hb dX6_who_77 (by decide) ?_
                refine lv_istore (lv' := [(8, .int 0), (7, .int r_21), (0, .ref md), (1, .int (nI j_4)), (2, .int 0), (3, .int (nI j_12)), (4, .int (nI j_16)), (5, .int (nI i_29)), (6, .int (nI j_20))]) hx hb dX6_who_78 hl (by decide) rfl (fun ls hl => ?_)
                refine lv_iload_n hx hb dX6_who_80 rfl (lv_at hl 4 rfl) ?_
                refine lv_if_ne (tgt := 88) hx hb dX6_who_81 (by decide) (fun h => absurd h (by decide)) (fun _ => ?_)
                refine lv_iconst (v := 0) hx hb dX6_who_84 (by decide) ?_
                refine lv_goto (tgt := 98) hx hb dX6_who_85 (by decide) ?_
                refine lv_istore (lv' := [(9, .int 0), (8, .int 0), (7, .int r_21), (0, .ref md), (1, .int (nI j_4)), (2, .int 0), (3, .int (nI j_12)), (4, .int (nI j_16)), (5, .int (nI i_29)), (6, .int (nI j_20))]) hx hb dX6_who_98 hl (by decide) rfl (fun ls hl => ?_)
                refine lv_iload_n hx hb dX6_who_100 rfl (lv_at hl 5 rfl) ?_
                refine lv_iconst (v := 2) hx hb dX6_who_101 (by decide) ?_
                refine lv_icmp_ne (tgt := 109) hx hb dX6_who_102 (by decide) (fun _ => ?_) (fun h => absurd h (by decide))
                refine lv_iconst (v := 1) hx hb dX6_who_109 (by decide) ?_
                refine lv_istore (lv' := [(10, .int 1), (9, .int 0), (8, .int 0), (7, .int r_21), (0, .ref md), (1, .int (nI j_4)), (2, .int 0), (3, .int (nI j_12)), (4, .int (nI j_16)), (5, .int (nI i_29)), (6, .int (nI j_20))]) hx hb dX6_who_110 hl (by decide) rfl (fun ls hl => ?_)
                have loop112 : ∀ (k i_32 : Nat) (g_33 : Nat → Int32) (y_34 : Int32) (H : Heap) (locs : List Loc) (ls : Array Slot), i_32 + k = 5 + 1 → va_P D vwCl [(hs, .inl (cI, 45, .inl f)), (tn, .inl (cI, 45, .inl g_33)), (md, .inr (6, [.int 0, .int md_f1_24, .ref ln, .ref mn, .ref it, .ref hs, vm_6, .ref tn, vm_8, vm_9, vm_10, vm_11, vm_12, vm_13, vm_14, vm_15, vm_16, vm_17, vm_18, vm_19, vm_20, vm_21, vm_22, vm_23])), (ln, .inl (cI, 8, .inl lf)), (mn, .inl (cI, 8, .inl sf)), (it, .inl (cI, 320, .inl tf))] H → va_D A [(hs, .inl (cI, 45, .inl f)), (tn, .inl (cI, 45, .inl g_33)), (md, .inr (6, [.int 0, .int md_f1_24, .ref ln, .ref mn, .ref it, .ref hs, vm_6, .ref tn, vm_8, vm_9, vm_10, vm_11, vm_12, vm_13, vm_14, vm_15, vm_16, vm_17, vm_18, vm_19, vm_20, vm_21, vm_22, vm_23])), (ln, .inl (cI, 8, .inl lf)), (mn, .inl (cI, 8, .inl sf)), (it, .inl (cI, 320, .inl tf))] → va_S A s.heap H locs → lv_has ls 11 [(10, .int (nI i_32)), (9, .int 0), (8, .int y_34), (7, .int r_21), (0, .ref md), (1, .int (nI j_4)), (2, .int 0), (3, .int (nI j_12)), (4, .int (nI j_16)), (5, .int (nI i_29)), (6, .int (nI j_20))] → W p l e ({ frames := 5, cells := 0, slots := 0, locals := 116 } : Room) s m ([.ref md, .int (nI j_4), .int (nI 0), .int (nI j_12), .int (nI j_16), .int (nI i_29), .int (nI j_20)] : List Value).toArray below meth c H locs 0 0 (MQ below (wt_QI D (fun r w => ∃ (g2 : Nat → Int32) (md_f1 : Int32), w = [(md, .inr (6, [.int 0, .int md_f1, .ref ln, .ref mn, .ref it, .ref hs, vm_6, .ref tn, vm_8, vm_9, vm_10, vm_11, vm_12, vm_13, vm_14, vm_15, vm_16, vm_17, vm_18, vm_19, vm_20, vm_21, vm_22, vm_23])), (hs, .inl (cI, 45, .inl f)), (tn, .inl (cI, 45, .inl g2)), (ln, .inl (cI, 8, .inl lf)), (mn, .inl (cI, 8, .inl sf)), (it, .inl (cI, 320, .inl tf))] ∧ md_f1 = fQ (whF T R lf sf (nI j_4) (nI 0) (nI j_12) (nI j_16) (nI i_29) (nI j_20)) sv) A) ([.ref md, .int (nI j_4), .int (nI 0), .int (nI j_12), .int (nI j_16), .int (nI i_29), .int (nI j_20)] : List Value).toArray s 0 0 A) (F0 m 112 ls []) := by
                  intro k
                  induction k with
                  | zero =>
                    intro i_32 g_33 y_34 H locs ls hik  hP hD hS hl
                    refine lv_iload hx hb dX6_who_112 (lv_at hl 0 rfl) ?_
                    refine lv_iload_n hx hb dX6_who_114 rfl (lv_at hl 6 rfl) ?_
                    refine lv_if_ne (tgt := 122) hx hb dX6_who_115 (by decide) (fun h => absurd h (by decide)) (fun _ => ?_)
                    refine lv_iconst (v := 5) hx hb dX6_who_118 (by decide) ?_
                    refine lv_goto (tgt := 138) hx hb dX6_who_119 (by decide) ?_
                    refine lv_icmp_gt (tgt := 194) hx hb dX6_who_138 (by decide) (fun _ => ?_) (fun h => absurd (nI_lt (a := 5) (b := i_32) (by omega) (by omega)) h)
                    refine lv_iload hx hb dX6_who_194 (lv_at hl 2 rfl) ?_
                    have hP9 := hP.sub (ws' := [(md, .inr (6, [.int 0, .int md_f1_24, .ref ln, .ref mn, .ref it, .ref hs, vm_6, .ref tn, vm_8, vm_9, vm_10, vm_11, vm_12, vm_13, vm_14, vm_15, vm_16, vm_17, vm_18, vm_19, vm_20, vm_21, vm_22, vm_23])), (hs, .inl (cI, 45, .inl f)), (tn, .inl (cI, 45, .inl g_33)), (ln, .inl (cI, 8, .inl lf)), (mn, .inl (cI, 8, .inl sf)), (it, .inl (cI, 320, .inl tf))]) [2, 0, 1, 3, 4, 5] rfl
                    have hD9 := hD.sub (ws' := [(md, .inr (6, [.int 0, .int md_f1_24, .ref ln, .ref mn, .ref it, .ref hs, vm_6, .ref tn, vm_8, vm_9, vm_10, vm_11, vm_12, vm_13, vm_14, vm_15, vm_16, vm_17, vm_18, vm_19, vm_20, vm_21, vm_22, vm_23])), (hs, .inl (cI, 45, .inl f)), (tn, .inl (cI, 45, .inl g_33)), (ln, .inl (cI, 8, .inl lf)), (mn, .inl (cI, 8, .inl sf)), (it, .inl (cI, 320, .inl tf))]) [2, 0, 1, 3, 4, 5] (by decide) rfl
                    exact wt_iret hx hb hr hlocks hP9 hD9 hS ⟨g_33, md_f1_24, rfl, (hst_26.trans (fQ_k (whF_6 (by omega) c_3 c_7 c_11 c_15 c_19) (rs_m _ _ _ _) sv).symm)⟩ dX6_who_196
                  | succ k ih112 =>
                    intro i_32 g_33 y_34 H locs ls hik  hP hD hS hl
                    refine lv_iload hx hb dX6_who_112 (lv_at hl 0 rfl) ?_
                    refine lv_iload_n hx hb dX6_who_114 rfl (lv_at hl 6 rfl) ?_
                    refine lv_if_ne (tgt := 122) hx hb dX6_who_115 (by decide) (fun h => absurd h (by decide)) (fun _ => ?_)
                    refine lv_iconst (v := 5) hx hb dX6_who_118 (by decide) ?_
                    refine lv_goto (tgt := 138) hx hb dX6_who_119 (by decide) ?_
                    refine lv_icmp_gt (tgt := 194) hx hb dX6_who_138 (by decide) (fun h => absurd h (nI_nlt (a := 5) (b := i_32) (by omega) (by omega))) (fun _ => ?_)
                    refine lv_aload_n hx hb dX6_who_141 rfl (lv_at hl 4 rfl) ?_
                    refine wt_goV (wr := [(ln, .inl (cI, 8, .inl lf)), (mn, .inl (cI, 8, .inl sf)), (it, .inl (cI, 320, .inl tf))]) (wt_runV (As := []) (rest := []) ⟨hx, hb, hml, hown, hts⟩ (c_X6_layThen l D cI cZ cH md hs R T f tn g_33 (.int 0) (.int md_f1_24) (.ref ln) (.ref mn) (.ref it) vm_6 vm_8 vm_9 vm_10 vm_11 vm_12 vm_13 vm_14 vm_15 vm_16 vm_17 vm_18 vm_19 vm_20 vm_21 vm_22 vm_23 (by first | assumption | omega) (by first | assumption | omega) (by first | assumption | omega)) (cwV 0 hts gX6_who_X6_layThen rfl rfl rfl (by decide +kernel) ⟨Nat.le_of_ble_eq_true rfl, Nat.le_of_ble_eq_true rfl⟩) hK hP hD [2, 0, 1] rfl (by decide) (va_recv hK.1 hP (ci := 6) (q0 := 2) rfl rfl) rfl hl.1 rfl (Nat.le_of_ble_eq_true rfl) dX6_who_142 ⟨Nat.le_of_ble_eq_true rfl, Nat.le_of_ble_eq_true rfl⟩) hP hD hS hA [2, 0, 1] [3, 4, 5] rfl rfl (by decide) (by decide) (fun w_36 H locs h_37 hP hD hS => ?_)
                    obtain ⟨g2_38, rfl, x_39⟩ := h_37
                    have hP : va_P D vwCl [(ln, .inl (cI, 8, .inl lf)), (mn, .inl (cI, 8, .inl sf)), (it, .inl (cI, 320, .inl tf)), (md, .inr (6, [.int 0, .int md_f1_24, .ref ln, .ref mn, .ref it, .ref hs, vm_6, .ref tn, vm_8, vm_9, vm_10, vm_11, vm_12, vm_13, vm_14, vm_15, vm_16, vm_17, vm_18, vm_19, vm_20, vm_21, vm_22, vm_23])), (hs, .inl (cI, 45, .inl f)), (tn, .inl (cI, 45, .inl g2_38))] H := hP
                    have hD : va_D A [(ln, .inl (cI, 8, .inl lf)), (mn, .inl (cI, 8, .inl sf)), (it, .inl (cI, 320, .inl tf)), (md, .inr (6, [.int 0, .int md_f1_24, .ref ln, .ref mn, .ref it, .ref hs, vm_6, .ref tn, vm_8, vm_9, vm_10, vm_11, vm_12, vm_13, vm_14, vm_15, vm_16, vm_17, vm_18, vm_19, vm_20, vm_21, vm_22, vm_23])), (hs, .inl (cI, 45, .inl f)), (tn, .inl (cI, 45, .inl g2_38))] := hD
                    refine lv_aload_n hx hb dX6_who_145 rfl (lv_at hl 4 rfl) ?_
                    refine va_get (D := D) (ci := 6) (v := .ref tn) (C := RX6) (T := TX6) (N := 24) hx hb hts hi6 hown hK.1 hP 3 rfl rfl 7 (by decide) wf25 (fun _ h9 => h9) rfl dX6_who_146 ?_
                    refine lv_iload_n hx hb dX6_who_149 rfl (lv_at hl 5 rfl) ?_
                    refine lv_iload hx hb dX6_who_150 (lv_at hl 1 rfl) ?_
                    refine lv_iload hx hb dX6_who_152 (lv_at hl 0 rfl) ?_
                    refine wt_goV (wr := [(ln, .inl (cI, 8, .inl lf)), (mn, .inl (cI, 8, .inl sf)), (it, .inl (cI, 320, .inl tf)), (md, .inr (6, [.int 0, .int md_f1_24, .ref ln, .ref mn, .ref it, .ref hs, vm_6, .ref tn, vm_8, vm_9, vm_10, vm_11, vm_12, vm_13, vm_14, vm_15, vm_16, vm_17, vm_18, vm_19, vm_20, vm_21, vm_22, vm_23])), (hs, .inl (cI, 45, .inl f))]) (wt_runS (As := [.ref tn, .int (nI j_4), .int 0, .int (nI i_32)]) (rest := []) ⟨hx, hb, hml, hown, hts⟩ (c_X6_be_w l D cI cZ cH tn R T g2_38 j_4 0 (nI i_32) (by first | assumption | omega) (by first | assumption | omega) (by first | assumption | omega) (by first | assumption | omega) (by first | assumption | omega)) (va_cwS 4 hts gX6_who_X6_be rfl rfl rfl (by decide +kernel) ⟨Nat.le_of_ble_eq_true rfl, Nat.le_of_ble_eq_true rfl⟩) hK hP hD [5] rfl (by decide) rfl hl.1 rfl (Nat.le_of_ble_eq_true rfl) dX6_who_154 ⟨Nat.le_of_ble_eq_true rfl, Nat.le_of_ble_eq_true rfl⟩) hP hD hS hA [5] [0, 1, 2, 3, 4] rfl rfl (by decide) (by decide) (fun w_41 H locs h_42 hP hD hS => ?_)
                    obtain ⟨f2_43, rfl, x_44⟩ := h_42
                    have hP : va_P D vwCl [(ln, .inl (cI, 8, .inl lf)), (mn, .inl (cI, 8, .inl sf)), (it, .inl (cI, 320, .inl tf)), (md, .inr (6, [.int 0, .int md_f1_24, .ref ln, .ref mn, .ref it, .ref hs, vm_6, .ref tn, vm_8, vm_9, vm_10, vm_11, vm_12, vm_13, vm_14, vm_15, vm_16, vm_17, vm_18, vm_19, vm_20, vm_21, vm_22, vm_23])), (hs, .inl (cI, 45, .inl f)), (tn, .inl (cI, 45, .inl f2_43))] H := hP
                    have hD : va_D A [(ln, .inl (cI, 8, .inl lf)), (mn, .inl (cI, 8, .inl sf)), (it, .inl (cI, 320, .inl tf)), (md, .inr (6, [.int 0, .int md_f1_24, .ref ln, .ref mn, .ref it, .ref hs, vm_6, .ref tn, vm_8, vm_9, vm_10, vm_11, vm_12, vm_13, vm_14, vm_15, vm_16, vm_17, vm_18, vm_19, vm_20, vm_21, vm_22, vm_23])), (hs, .inl (cI, 45, .inl f)), (tn, .inl (cI, 45, .inl f2_43))] := hD
                    refine lv_iload hx hb dX6_who_157 (lv_at hl 2 rfl) ?_
                    refine lv_aload_n hx hb dX6_who_159 rfl (lv_at hl 4 rfl) ?_
                    refine lv_iload_n hx hb dX6_who_160 rfl (lv_at hl 7 rfl) ?_
                    refine lv_bipush (v := 40) hx hb dX6_who_161 (by decide) ?_
                    refine lv_iload hx hb dX6_who_163 (lv_at hl 8 rfl) ?_
                    refine lv_imul hx hb dX6_who_165 ?_
                    refine wt_top (z := nI (40 * j_16)) (pk_mul 40 j_16) ?_
                    refine lv_iload hx hb dX6_who_166 (lv_at hl 9 rfl) ?_
                    refine lv_iadd hx hb dX6_who_168 ?_
                    refine wt_top (z := nI ((40 * j_16) + i_29)) (nI_add (40 * j_16) i_29) ?_
                    refine lv_iload hx hb dX6_who_169 (lv_at hl 10 rfl) ?_
                    refine wt_goI (wr := [(ln, .inl (cI, 8, .inl lf)), (mn, .inl (cI, 8, .inl sf)), (hs, .inl (cI, 45, .inl f))]) (wt_runV (As := [.int (nI j_12), .int (nI ((40 * j_16) + i_29)), .int (nI j_20)]) (rest := [.int y_34]) ⟨hx, hb, hml, hown, hts⟩ (c_X6_warmSo l D cI cZ cH md tn it R T j_12 ((40 * j_16) + i_29) j_20 f2_43 tf (.int 0) (.int md_f1_24) (.ref ln) (.ref mn) (.ref hs) vm_6 vm_8 vm_9 vm_10 vm_11 vm_12 vm_13 vm_14 vm_15 vm_16 vm_17 vm_18 vm_19 vm_20 vm_21 vm_22 vm_23 (by first | assumption | omega) (by first | assumption | omega) (by first | assumption | omega) (by first | assumption | omega) (by first | assumption | omega) (by first | assumption | omega)) (cwV 3 hts gX6_who_X6_warmSo rfl rfl rfl (by decide +kernel) ⟨Nat.le_of_ble_eq_true rfl, Nat.le_of_ble_eq_true rfl⟩) hK hP hD [3, 5, 2] rfl (by decide) (va_recv hK.1 hP (ci := 6) (q0 := 3) rfl rfl) rfl hl.1 rfl (Nat.le_of_ble_eq_true rfl) dX6_who_171 ⟨Nat.le_of_ble_eq_true rfl, Nat.le_of_ble_eq_true rfl⟩) hP hD hS hA [3, 5, 2] [0, 1, 4] rfl rfl (by decide) (by decide) (fun r_45 w_46 H locs h_47 hP hD hS => ?_)
                    obtain ⟨g2_48, rfl⟩ := h_47
                    have hP : va_P D vwCl [(ln, .inl (cI, 8, .inl lf)), (mn, .inl (cI, 8, .inl sf)), (hs, .inl (cI, 45, .inl f)), (md, .inr (6, [.int 0, .int md_f1_24, .ref ln, .ref mn, .ref it, .ref hs, vm_6, .ref tn, vm_8, vm_9, vm_10, vm_11, vm_12, vm_13, vm_14, vm_15, vm_16, vm_17, vm_18, vm_19, vm_20, vm_21, vm_22, vm_23])), (tn, .inl (cI, 45, .inl g2_48)), (it, .inl (cI, 320, .inl tf))] H := hP
                    have hD : va_D A [(ln, .inl (cI, 8, .inl lf)), (mn, .inl (cI, 8, .inl sf)), (hs, .inl (cI, 45, .inl f)), (md, .inr (6, [.int 0, .int md_f1_24, .ref ln, .ref mn, .ref it, .ref hs, vm_6, .ref tn, vm_8, vm_9, vm_10, vm_11, vm_12, vm_13, vm_14, vm_15, vm_16, vm_17, vm_18, vm_19, vm_20, vm_21, vm_22, vm_23])), (tn, .inl (cI, 45, .inl g2_48)), (it, .inl (cI, 320, .inl tf))] := hD
                    refine lv_if_eq (tgt := 184) hx hb dX6_who_174 (by decide) (fun c_49 => ?_) (fun c_49 => ?_)
                    · skip
                      refine lv_iconst (v := 0) hx hb dX6_who_184 (by decide) ?_
                      refine lv_ior hx hb dX6_who_185 ?_
                      refine lv_topi (fun ov_50 _ => ?_)
                      refine lv_istore (lv' := [(8, .int ov_50), (10, .int (nI i_32)), (9, .int 0), (7, .int r_21), (0, .ref md), (1, .int (nI j_4)), (2, .int 0), (3, .int (nI j_12)), (4, .int (nI j_16)), (5, .int (nI i_29)), (6, .int (nI j_20))]) hx hb dX6_who_186 hl (by decide) rfl (fun ls hl => ?_)
                      refine lv_iinc (v := nI (i_32 + 1)) (lv' := [(10, .int (nI (i_32 + 1))), (8, .int ov_50), (9, .int 0), (7, .int r_21), (0, .ref md), (1, .int (nI j_4)), (2, .int 0), (3, .int (nI j_12)), (4, .int (nI j_16)), (5, .int (nI i_29)), (6, .int (nI j_20))]) hx hb dX6_who_188 hl (k := 1) rfl (nI_add i_32 1) (by decide) rfl (fun ls hl => ?_)
                      refine lv_goto (tgt := 112) hx hb dX6_who_191 (by decide) ?_
                      exact ih112 ((i_32 + 1)) g2_48 ov_50 H locs ls (by omega)  (hP.sub [2, 4, 3, 0, 1, 5] rfl) (hD.sub [2, 4, 3, 0, 1, 5] (by decide) rfl) hS (lv_sub hl [0, 2, 1, 3, 4, 5, 6, 7, 8, 9, 10] rfl)
                    · skip
                      refine lv_iconst (v := 1) hx hb dX6_who_177 (by decide) ?_
                      refine lv_iload hx hb dX6_who_178 (lv_at hl 0 rfl) ?_
                      refine lv_ishl hx hb dX6_who_180 ?_
                      refine wt_top (z := nI (2 ^ i_32)) (wt_shl1 (by omega)) ?_
                      refine lv_goto (tgt := 185) hx hb dX6_who_181 (by decide) ?_
                      refine lv_ior hx hb dX6_who_185 ?_
                      refine lv_topi (fun ov_51 _ => ?_)
                      refine lv_istore (lv' := [(8, .int ov_51), (10, .int (nI i_32)), (9, .int 0), (7, .int r_21), (0, .ref md), (1, .int (nI j_4)), (2, .int 0), (3, .int (nI j_12)), (4, .int (nI j_16)), (5, .int (nI i_29)), (6, .int (nI j_20))]) hx hb dX6_who_186 hl (by decide) rfl (fun ls hl => ?_)
                      refine lv_iinc (v := nI (i_32 + 1)) (lv' := [(10, .int (nI (i_32 + 1))), (8, .int ov_51), (9, .int 0), (7, .int r_21), (0, .ref md), (1, .int (nI j_4)), (2, .int 0), (3, .int (nI j_12)), (4, .int (nI j_16)), (5, .int (nI i_29)), (6, .int (nI j_20))]) hx hb dX6_who_188 hl (k := 1) rfl (nI_add i_32 1) (by decide) rfl (fun ls hl => ?_)
                      refine lv_goto (tgt := 112) hx hb dX6_who_191 (by decide) ?_
                      exact ih112 ((i_32 + 1)) g2_48 ov_51 H locs ls (by omega)  (hP.sub [2, 4, 3, 0, 1, 5] rfl) (hD.sub [2, 4, 3, 0, 1, 5] (by decide) rfl) hS (lv_sub hl [0, 2, 1, 3, 4, 5, 6, 7, 8, 9, 10] rfl)
                exact loop112 ((5 + 1) - 1) (1) g 0 _ _ ls (by omega)  hP hD hS hl
              · skip
                subst hw0
                have hl : lv_has ls 11 [(7, .int r_21), (0, .ref md), (1, .int (nI j_4)), (2, .int 1), (3, .int (nI j_12)), (4, .int (nI j_16)), (5, .int (nI i_29)), (6, .int (nI j_20))] := hl
                refine lv_iconst (v := 0) hx hb dX6_who_77 (by decide) ?_
                refine lv_istore (lv' := [(8, .int 0), (7, .int r_21), (0, .ref md), (1, .int (nI j_4)), (2, .int 1), (3, .int (nI j_12)), (4, .int (nI j_16)), (5, .int (nI i_29)), (6, .int (nI j_20))]) hx hb dX6_who_78 hl (by decide) rfl (fun ls hl => ?_)
                refine lv_iload_n hx hb dX6_who_80 rfl (lv_at hl 4 rfl) ?_
                refine lv_if_ne (tgt := 88) hx hb dX6_who_81 (by decide) (fun _ => ?_) (fun h => absurd h (by decide))
                refine lv_iload_n hx hb dX6_who_88 rfl (lv_at hl 4 rfl) ?_
                refine lv_iconst (v := 1) hx hb dX6_who_89 (by decide) ?_
                refine lv_icmp_ne (tgt := 97) hx hb dX6_who_90 (by decide) (fun h => absurd h (by decide)) (fun _ => ?_)
                refine lv_iconst (v := 2) hx hb dX6_who_93 (by decide) ?_
                refine lv_goto (tgt := 98) hx hb dX6_who_94 (by decide) ?_
                refine lv_istore (lv' := [(9, .int 2), (8, .int 0), (7, .int r_21), (0, .ref md), (1, .int (nI j_4)), (2, .int 1), (3, .int (nI j_12)), (4, .int (nI j_16)), (5, .int (nI i_29)), (6, .int (nI j_20))]) hx hb dX6_who_98 hl (by decide) rfl (fun ls hl => ?_)
                refine lv_iload_n hx hb dX6_who_100 rfl (lv_at hl 5 rfl) ?_
                refine lv_iconst (v := 2) hx hb dX6_who_101 (by decide) ?_
                refine lv_icmp_ne (tgt := 109) hx hb dX6_who_102 (by decide) (fun _ => ?_) (fun h => absurd h (by decide))
                refine lv_iconst (v := 1) hx hb dX6_who_109 (by decide) ?_
                refine lv_istore (lv' := [(10, .int 1), (9, .int 2), (8, .int 0), (7, .int r_21), (0, .ref md), (1, .int (nI j_4)), (2, .int 1), (3, .int (nI j_12)), (4, .int (nI j_16)), (5, .int (nI i_29)), (6, .int (nI j_20))]) hx hb dX6_who_110 hl (by decide) rfl (fun ls hl => ?_)
                have loop112 : ∀ (k i_52 : Nat) (g_53 : Nat → Int32) (y_54 : Int32) (H : Heap) (locs : List Loc) (ls : Array Slot), i_52 + k = 9 + 1 → va_P D vwCl [(hs, .inl (cI, 45, .inl f)), (tn, .inl (cI, 45, .inl g_53)), (md, .inr (6, [.int 0, .int md_f1_24, .ref ln, .ref mn, .ref it, .ref hs, vm_6, .ref tn, vm_8, vm_9, vm_10, vm_11, vm_12, vm_13, vm_14, vm_15, vm_16, vm_17, vm_18, vm_19, vm_20, vm_21, vm_22, vm_23])), (ln, .inl (cI, 8, .inl lf)), (mn, .inl (cI, 8, .inl sf)), (it, .inl (cI, 320, .inl tf))] H → va_D A [(hs, .inl (cI, 45, .inl f)), (tn, .inl (cI, 45, .inl g_53)), (md, .inr (6, [.int 0, .int md_f1_24, .ref ln, .ref mn, .ref it, .ref hs, vm_6, .ref tn, vm_8, vm_9, vm_10, vm_11, vm_12, vm_13, vm_14, vm_15, vm_16, vm_17, vm_18, vm_19, vm_20, vm_21, vm_22, vm_23])), (ln, .inl (cI, 8, .inl lf)), (mn, .inl (cI, 8, .inl sf)), (it, .inl (cI, 320, .inl tf))] → va_S A s.heap H locs → lv_has ls 11 [(10, .int (nI i_52)), (9, .int 2), (8, .int y_54), (7, .int r_21), (0, .ref md), (1, .int (nI j_4)), (2, .int 1), (3, .int (nI j_12)), (4, .int (nI j_16)), (5, .int (nI i_29)), (6, .int (nI j_20))] → W p l e ({ frames := 5, cells := 0, slots := 0, locals := 116 } : Room) s m ([.ref md, .int (nI j_4), .int (nI 1), .int (nI j_12), .int (nI j_16), .int (nI i_29), .int (nI j_20)] : List Value).toArray below meth c H locs 0 0 (MQ below (wt_QI D (fun r w => ∃ (g2 : Nat → Int32) (md_f1 : Int32), w = [(md, .inr (6, [.int 0, .int md_f1, .ref ln, .ref mn, .ref it, .ref hs, vm_6, .ref tn, vm_8, vm_9, vm_10, vm_11, vm_12, vm_13, vm_14, vm_15, vm_16, vm_17, vm_18, vm_19, vm_20, vm_21, vm_22, vm_23])), (hs, .inl (cI, 45, .inl f)), (tn, .inl (cI, 45, .inl g2)), (ln, .inl (cI, 8, .inl lf)), (mn, .inl (cI, 8, .inl sf)), (it, .inl (cI, 320, .inl tf))] ∧ md_f1 = fQ (whF T R lf sf (nI j_4) (nI 1) (nI j_12) (nI j_16) (nI i_29) (nI j_20)) sv) A) ([.ref md, .int (nI j_4), .int (nI 1), .int (nI j_12), .int (nI j_16), .int (nI i_29), .int (nI j_20)] : List Value).toArray s 0 0 A) (F0 m 112 ls []) := by
                  intro k
                  induction k with
                  | zero =>
                    intro i_52 g_53 y_54 H locs ls hik  hP hD hS hl
                    refine lv_iload hx hb dX6_who_112 (lv_at hl 0 rfl) ?_
                    refine lv_iload_n hx hb dX6_who_114 rfl (lv_at hl 6 rfl) ?_
                    refine lv_if_ne (tgt := 122) hx hb dX6_who_115 (by decide) (fun _ => ?_) (fun h => absurd h (by decide))
                    refine lv_iload_n hx hb dX6_who_122 rfl (lv_at hl 6 rfl) ?_
                    refine lv_iconst (v := 1) hx hb dX6_who_123 (by decide) ?_
                    refine lv_icmp_ne (tgt := 132) hx hb dX6_who_124 (by decide) (fun h => absurd h (by decide)) (fun _ => ?_)
                    refine lv_bipush (v := 9) hx hb dX6_who_127 (by decide) ?_
                    refine lv_goto (tgt := 138) hx hb dX6_who_129 (by decide) ?_
                    refine lv_icmp_gt (tgt := 194) hx hb dX6_who_138 (by decide) (fun _ => ?_) (fun h => absurd (nI_lt (a := 9) (b := i_52) (by omega) (by omega)) h)
                    refine lv_iload hx hb dX6_who_194 (lv_at hl 2 rfl) ?_
                    have hP9 := hP.sub (ws' := [(md, .inr (6, [.int 0, .int md_f1_24, .ref ln, .ref mn, .ref it, .ref hs, vm_6, .ref tn, vm_8, vm_9, vm_10, vm_11, vm_12, vm_13, vm_14, vm_15, vm_16, vm_17, vm_18, vm_19, vm_20, vm_21, vm_22, vm_23])), (hs, .inl (cI, 45, .inl f)), (tn, .inl (cI, 45, .inl g_53)), (ln, .inl (cI, 8, .inl lf)), (mn, .inl (cI, 8, .inl sf)), (it, .inl (cI, 320, .inl tf))]) [2, 0, 1, 3, 4, 5] rfl
                    have hD9 := hD.sub (ws' := [(md, .inr (6, [.int 0, .int md_f1_24, .ref ln, .ref mn, .ref it, .ref hs, vm_6, .ref tn, vm_8, vm_9, vm_10, vm_11, vm_12, vm_13, vm_14, vm_15, vm_16, vm_17, vm_18, vm_19, vm_20, vm_21, vm_22, vm_23])), (hs, .inl (cI, 45, .inl f)), (tn, .inl (cI, 45, .inl g_53)), (ln, .inl (cI, 8, .inl lf)), (mn, .inl (cI, 8, .inl sf)), (it, .inl (cI, 320, .inl tf))]) [2, 0, 1, 3, 4, 5] (by decide) rfl
                    exact wt_iret hx hb hr hlocks hP9 hD9 hS ⟨g_53, md_f1_24, rfl, (hst_26.trans (fQ_k (whF_6 (by omega) c_3 c_7 c_11 c_15 c_19) (rs_m _ _ _ _) sv).symm)⟩ dX6_who_196
                  | succ k ih112 =>
                    intro i_52 g_53 y_54 H locs ls hik  hP hD hS hl
                    refine lv_iload hx hb dX6_who_112 (lv_at hl 0 rfl) ?_
                    refine lv_iload_n hx hb dX6_who_114 rfl (lv_at hl 6 rfl) ?_
                    refine lv_if_ne (tgt := 122) hx hb dX6_who_115 (by decide) (fun _ => ?_) (fun h => absurd h (by decide))
                    refine lv_iload_n hx hb dX6_who_122 rfl (lv_at hl 6 rfl) ?_
                    refine lv_iconst (v := 1) hx hb dX6_who_123 (by decide) ?_
                    refine lv_icmp_ne (tgt := 132) hx hb dX6_who_124 (by decide) (fun h => absurd h (by decide)) (fun _ => ?_)
                    refine lv_bipush (v := 9) hx hb dX6_who_127 (by decide) ?_
                    refine lv_goto (tgt := 138) hx hb dX6_who_129 (by decide) ?_
                    refine lv_icmp_gt (tgt := 194) hx hb dX6_who_138 (by decide) (fun h => absurd h (nI_nlt (a := 9) (b := i_52) (by omega) (by omega))) (fun _ => ?_)
                    refine lv_aload_n hx hb dX6_who_141 rfl (lv_at hl 4 rfl) ?_
                    refine wt_goV (wr := [(ln, .inl (cI, 8, .inl lf)), (mn, .inl (cI, 8, .inl sf)), (it, .inl (cI, 320, .inl tf))]) (wt_runV (As := []) (rest := []) ⟨hx, hb, hml, hown, hts⟩ (c_X6_layThen l D cI cZ cH md hs R T f tn g_53 (.int 0) (.int md_f1_24) (.ref ln) (.ref mn) (.ref it) vm_6 vm_8 vm_9 vm_10 vm_11 vm_12 vm_13 vm_14 vm_15 vm_16 vm_17 vm_18 vm_19 vm_20 vm_21 vm_22 vm_23 (by first | assumption | omega) (by first | assumption | omega) (by first | assumption | omega)) (cwV 0 hts gX6_who_X6_layThen rfl rfl rfl (by decide +kernel) ⟨Nat.le_of_ble_eq_true rfl, Nat.le_of_ble_eq_true rfl⟩) hK hP hD [2, 0, 1] rfl (by decide) (va_recv hK.1 hP (ci := 6) (q0 := 2) rfl rfl) rfl hl.1 rfl (Nat.le_of_ble_eq_true rfl) dX6_who_142 ⟨Nat.le_of_ble_eq_true rfl, Nat.le_of_ble_eq_true rfl⟩) hP hD hS hA [2, 0, 1] [3, 4, 5] rfl rfl (by decide) (by decide) (fun w_56 H locs h_57 hP hD hS => ?_)
                    obtain ⟨g2_58, rfl, x_59⟩ := h_57
                    have hP : va_P D vwCl [(ln, .inl (cI, 8, .inl lf)), (mn, .inl (cI, 8, .inl sf)), (it, .inl (cI, 320, .inl tf)), (md, .inr (6, [.int 0, .int md_f1_24, .ref ln, .ref mn, .ref it, .ref hs, vm_6, .ref tn, vm_8, vm_9, vm_10, vm_11, vm_12, vm_13, vm_14, vm_15, vm_16, vm_17, vm_18, vm_19, vm_20, vm_21, vm_22, vm_23])), (hs, .inl (cI, 45, .inl f)), (tn, .inl (cI, 45, .inl g2_58))] H := hP
                    have hD : va_D A [(ln, .inl (cI, 8, .inl lf)), (mn, .inl (cI, 8, .inl sf)), (it, .inl (cI, 320, .inl tf)), (md, .inr (6, [.int 0, .int md_f1_24, .ref ln, .ref mn, .ref it, .ref hs, vm_6, .ref tn, vm_8, vm_9, vm_10, vm_11, vm_12, vm_13, vm_14, vm_15, vm_16, vm_17, vm_18, vm_19, vm_20, vm_21, vm_22, vm_23])), (hs, .inl (cI, 45, .inl f)), (tn, .inl (cI, 45, .inl g2_58))] := hD
                    refine lv_aload_n hx hb dX6_who_145 rfl (lv_at hl 4 rfl) ?_
                    refine va_get (D := D) (ci := 6) (v := .ref tn) (C := RX6) (T := TX6) (N := 24) hx hb hts hi6 hown hK.1 hP 3 rfl rfl 7 (by decide) wf25 (fun _ h9 => h9) rfl dX6_who_146 ?_
                    refine lv_iload_n hx hb dX6_who_149 rfl (lv_at hl 5 rfl) ?_
                    refine lv_iload hx hb dX6_who_150 (lv_at hl 1 rfl) ?_
                    refine lv_iload hx hb dX6_who_152 (lv_at hl 0 rfl) ?_
                    refine wt_goV (wr := [(ln, .inl (cI, 8, .inl lf)), (mn, .inl (cI, 8, .inl sf)), (it, .inl (cI, 320, .inl tf)), (md, .inr (6, [.int 0, .int md_f1_24, .ref ln, .ref mn, .ref it, .ref hs, vm_6, .ref tn, vm_8, vm_9, vm_10, vm_11, vm_12, vm_13, vm_14, vm_15, vm_16, vm_17, vm_18, vm_19, vm_20, vm_21, vm_22, vm_23])), (hs, .inl (cI, 45, .inl f))]) (wt_runS (As := [.ref tn, .int (nI j_4), .int 2, .int (nI i_52)]) (rest := []) ⟨hx, hb, hml, hown, hts⟩ (c_X6_be_w l D cI cZ cH tn R T g2_58 j_4 2 (nI i_52) (by first | assumption | omega) (by first | assumption | omega) (by first | assumption | omega) (by first | assumption | omega) (by first | assumption | omega)) (va_cwS 4 hts gX6_who_X6_be rfl rfl rfl (by decide +kernel) ⟨Nat.le_of_ble_eq_true rfl, Nat.le_of_ble_eq_true rfl⟩) hK hP hD [5] rfl (by decide) rfl hl.1 rfl (Nat.le_of_ble_eq_true rfl) dX6_who_154 ⟨Nat.le_of_ble_eq_true rfl, Nat.le_of_ble_eq_true rfl⟩) hP hD hS hA [5] [0, 1, 2, 3, 4] rfl rfl (by decide) (by decide) (fun w_61 H locs h_62 hP hD hS => ?_)
                    obtain ⟨f2_63, rfl, x_64⟩ := h_62
                    have hP : va_P D vwCl [(ln, .inl (cI, 8, .inl lf)), (mn, .inl (cI, 8, .inl sf)), (it, .inl (cI, 320, .inl tf)), (md, .inr (6, [.int 0, .int md_f1_24, .ref ln, .ref mn, .ref it, .ref hs, vm_6, .ref tn, vm_8, vm_9, vm_10, vm_11, vm_12, vm_13, vm_14, vm_15, vm_16, vm_17, vm_18, vm_19, vm_20, vm_21, vm_22, vm_23])), (hs, .inl (cI, 45, .inl f)), (tn, .inl (cI, 45, .inl f2_63))] H := hP
                    have hD : va_D A [(ln, .inl (cI, 8, .inl lf)), (mn, .inl (cI, 8, .inl sf)), (it, .inl (cI, 320, .inl tf)), (md, .inr (6, [.int 0, .int md_f1_24, .ref ln, .ref mn, .ref it, .ref hs, vm_6, .ref tn, vm_8, vm_9, vm_10, vm_11, vm_12, vm_13, vm_14, vm_15, vm_16, vm_17, vm_18, vm_19, vm_20, vm_21, vm_22, vm_23])), (hs, .inl (cI, 45, .inl f)), (tn, .inl (cI, 45, .inl f2_63))] := hD
                    refine lv_iload hx hb dX6_who_157 (lv_at hl 2 rfl) ?_
                    refine lv_aload_n hx hb dX6_who_159 rfl (lv_at hl 4 rfl) ?_
                    refine lv_iload_n hx hb dX6_who_160 rfl (lv_at hl 7 rfl) ?_
                    refine lv_bipush (v := 40) hx hb dX6_who_161 (by decide) ?_
                    refine lv_iload hx hb dX6_who_163 (lv_at hl 8 rfl) ?_
                    refine lv_imul hx hb dX6_who_165 ?_
                    refine wt_top (z := nI (40 * j_16)) (pk_mul 40 j_16) ?_
                    refine lv_iload hx hb dX6_who_166 (lv_at hl 9 rfl) ?_
                    refine lv_iadd hx hb dX6_who_168 ?_
                    refine wt_top (z := nI ((40 * j_16) + i_29)) (nI_add (40 * j_16) i_29) ?_
                    refine lv_iload hx hb dX6_who_169 (lv_at hl 10 rfl) ?_
                    refine wt_goI (wr := [(ln, .inl (cI, 8, .inl lf)), (mn, .inl (cI, 8, .inl sf)), (hs, .inl (cI, 45, .inl f))]) (wt_runV (As := [.int (nI j_12), .int (nI ((40 * j_16) + i_29)), .int (nI j_20)]) (rest := [.int y_54]) ⟨hx, hb, hml, hown, hts⟩ (c_X6_warmSo l D cI cZ cH md tn it R T j_12 ((40 * j_16) + i_29) j_20 f2_63 tf (.int 0) (.int md_f1_24) (.ref ln) (.ref mn) (.ref hs) vm_6 vm_8 vm_9 vm_10 vm_11 vm_12 vm_13 vm_14 vm_15 vm_16 vm_17 vm_18 vm_19 vm_20 vm_21 vm_22 vm_23 (by first | assumption | omega) (by first | assumption | omega) (by first | assumption | omega) (by first | assumption | omega) (by first | assumption | omega) (by first | assumption | omega)) (cwV 3 hts gX6_who_X6_warmSo rfl rfl rfl (by decide +kernel) ⟨Nat.le_of_ble_eq_true rfl, Nat.le_of_ble_eq_true rfl⟩) hK hP hD [3, 5, 2] rfl (by decide) (va_recv hK.1 hP (ci := 6) (q0 := 3) rfl rfl) rfl hl.1 rfl (Nat.le_of_ble_eq_true rfl) dX6_who_171 ⟨Nat.le_of_ble_eq_true rfl, Nat.le_of_ble_eq_true rfl⟩) hP hD hS hA [3, 5, 2] [0, 1, 4] rfl rfl (by decide) (by decide) (fun r_65 w_66 H locs h_67 hP hD hS => ?_)
                    obtain ⟨g2_68, rfl⟩ := h_67
                    have hP : va_P D vwCl [(ln, .inl (cI, 8, .inl lf)), (mn, .inl (cI, 8, .inl sf)), (hs, .inl (cI, 45, .inl f)), (md, .inr (6, [.int 0, .int md_f1_24, .ref ln, .ref mn, .ref it, .ref hs, vm_6, .ref tn, vm_8, vm_9, vm_10, vm_11, vm_12, vm_13, vm_14, vm_15, vm_16, vm_17, vm_18, vm_19, vm_20, vm_21, vm_22, vm_23])), (tn, .inl (cI, 45, .inl g2_68)), (it, .inl (cI, 320, .inl tf))] H := hP
                    have hD : va_D A [(ln, .inl (cI, 8, .inl lf)), (mn, .inl (cI, 8, .inl sf)), (hs, .inl (cI, 45, .inl f)), (md, .inr (6, [.int 0, .int md_f1_24, .ref ln, .ref mn, .ref it, .ref hs, vm_6, .ref tn, vm_8, vm_9, vm_10, vm_11, vm_12, vm_13, vm_14, vm_15, vm_16, vm_17, vm_18, vm_19, vm_20, vm_21, vm_22, vm_23])), (tn, .inl (cI, 45, .inl g2_68)), (it, .inl (cI, 320, .inl tf))] := hD
                    refine lv_if_eq (tgt := 184) hx hb dX6_who_174 (by decide) (fun c_69 => ?_) (fun c_69 => ?_)
                    · skip
                      refine lv_iconst (v := 0) hx hb dX6_who_184 (by decide) ?_
                      refine lv_ior hx hb dX6_who_185 ?_
                      refine lv_topi (fun ov_70 _ => ?_)
                      refine lv_istore (lv' := [(8, .int ov_70), (10, .int (nI i_52)), (9, .int 2), (7, .int r_21), (0, .ref md), (1, .int (nI j_4)), (2, .int 1), (3, .int (nI j_12)), (4, .int (nI j_16)), (5, .int (nI i_29)), (6, .int (nI j_20))]) hx hb dX6_who_186 hl (by decide) rfl (fun ls hl => ?_)
                      refine lv_iinc (v := nI (i_52 + 1)) (lv' := [(10, .int (nI (i_52 + 1))), (8, .int ov_70), (9, .int 2), (7, .int r_21), (0, .ref md), (1, .int (nI j_4)), (2, .int 1), (3, .int (nI j_12)), (4, .int (nI j_16)), (5, .int (nI i_29)), (6, .int (nI j_20))]) hx hb dX6_who_188 hl (k := 1) rfl (nI_add i_52 1) (by decide) rfl (fun ls hl => ?_)
                      refine lv_goto (tgt := 112) hx hb dX6_who_191 (by decide) ?_
                      exact ih112 ((i_52 + 1)) g2_68 ov_70 H locs ls (by omega)  (hP.sub [2, 4, 3, 0, 1, 5] rfl) (hD.sub [2, 4, 3, 0, 1, 5] (by decide) rfl) hS (lv_sub hl [0, 2, 1, 3, 4, 5, 6, 7, 8, 9, 10] rfl)
                    · skip
                      refine lv_iconst (v := 1) hx hb dX6_who_177 (by decide) ?_
                      refine lv_iload hx hb dX6_who_178 (lv_at hl 0 rfl) ?_
                      refine lv_ishl hx hb dX6_who_180 ?_
                      refine wt_top (z := nI (2 ^ i_52)) (wt_shl1 (by omega)) ?_
                      refine lv_goto (tgt := 185) hx hb dX6_who_181 (by decide) ?_
                      refine lv_ior hx hb dX6_who_185 ?_
                      refine lv_topi (fun ov_71 _ => ?_)
                      refine lv_istore (lv' := [(8, .int ov_71), (10, .int (nI i_52)), (9, .int 2), (7, .int r_21), (0, .ref md), (1, .int (nI j_4)), (2, .int 1), (3, .int (nI j_12)), (4, .int (nI j_16)), (5, .int (nI i_29)), (6, .int (nI j_20))]) hx hb dX6_who_186 hl (by decide) rfl (fun ls hl => ?_)
                      refine lv_iinc (v := nI (i_52 + 1)) (lv' := [(10, .int (nI (i_52 + 1))), (8, .int ov_71), (9, .int 2), (7, .int r_21), (0, .ref md), (1, .int (nI j_4)), (2, .int 1), (3, .int (nI j_12)), (4, .int (nI j_16)), (5, .int (nI i_29)), (6, .int (nI j_20))]) hx hb dX6_who_188 hl (k := 1) rfl (nI_add i_52 1) (by decide) rfl (fun ls hl => ?_)
                      refine lv_goto (tgt := 112) hx hb dX6_who_191 (by decide) ?_
                      exact ih112 ((i_52 + 1)) g2_68 ov_71 H locs ls (by omega)  (hP.sub [2, 4, 3, 0, 1, 5] rfl) (hD.sub [2, 4, 3, 0, 1, 5] (by decide) rfl) hS (lv_sub hl [0, 2, 1, 3, 4, 5, 6, 7, 8, 9, 10] rfl)
                exact loop112 ((9 + 1) - 1) (1) g 0 _ _ ls (by omega)  hP hD hS hl
              · skip
                subst hw0
                have hl : lv_has ls 11 [(7, .int r_21), (0, .ref md), (1, .int (nI j_4)), (2, .int 2), (3, .int (nI j_12)), (4, .int (nI j_16)), (5, .int (nI i_29)), (6, .int (nI j_20))] := hl
                refine lv_iconst (v := 0) hx hb dX6_who_77 (by decide) ?_
                refine lv_istore (lv' := [(8, .int 0), (7, .int r_21), (0, .ref md), (1, .int (nI j_4)), (2, .int 2), (3, .int (nI j_12)), (4, .int (nI j_16)), (5, .int (nI i_29)), (6, .int (nI j_20))]) hx hb dX6_who_78 hl (by decide) rfl (fun ls hl => ?_)
                refine lv_iload_n hx hb dX6_who_80 rfl (lv_at hl 4 rfl) ?_
                refine lv_if_ne (tgt := 88) hx hb dX6_who_81 (by decide) (fun _ => ?_) (fun h => absurd h (by decide))
                refine lv_iload_n hx hb dX6_who_88 rfl (lv_at hl 4 rfl) ?_
                refine lv_iconst (v := 1) hx hb dX6_who_89 (by decide) ?_
                refine lv_icmp_ne (tgt := 97) hx hb dX6_who_90 (by decide) (fun _ => ?_) (fun h => absurd h (by decide))
                refine lv_iconst (v := 1) hx hb dX6_who_97 (by decide) ?_
                refine lv_istore (lv' := [(9, .int 1), (8, .int 0), (7, .int r_21), (0, .ref md), (1, .int (nI j_4)), (2, .int 2), (3, .int (nI j_12)), (4, .int (nI j_16)), (5, .int (nI i_29)), (6, .int (nI j_20))]) hx hb dX6_who_98 hl (by decide) rfl (fun ls hl => ?_)
                refine lv_iload_n hx hb dX6_who_100 rfl (lv_at hl 5 rfl) ?_
                refine lv_iconst (v := 2) hx hb dX6_who_101 (by decide) ?_
                refine lv_icmp_ne (tgt := 109) hx hb dX6_who_102 (by decide) (fun h => absurd h (by decide)) (fun _ => ?_)
                refine lv_iconst (v := 0) hx hb dX6_who_105 (by decide) ?_
                refine lv_goto (tgt := 110) hx hb dX6_who_106 (by decide) ?_
                refine lv_istore (lv' := [(10, .int 0), (9, .int 1), (8, .int 0), (7, .int r_21), (0, .ref md), (1, .int (nI j_4)), (2, .int 2), (3, .int (nI j_12)), (4, .int (nI j_16)), (5, .int (nI i_29)), (6, .int (nI j_20))]) hx hb dX6_who_110 hl (by decide) rfl (fun ls hl => ?_)
                have loop112 : ∀ (k i_72 : Nat) (g_73 : Nat → Int32) (y_74 : Int32) (H : Heap) (locs : List Loc) (ls : Array Slot), i_72 + k = R + 1 → va_P D vwCl [(hs, .inl (cI, 45, .inl f)), (tn, .inl (cI, 45, .inl g_73)), (md, .inr (6, [.int 0, .int md_f1_24, .ref ln, .ref mn, .ref it, .ref hs, vm_6, .ref tn, vm_8, vm_9, vm_10, vm_11, vm_12, vm_13, vm_14, vm_15, vm_16, vm_17, vm_18, vm_19, vm_20, vm_21, vm_22, vm_23])), (ln, .inl (cI, 8, .inl lf)), (mn, .inl (cI, 8, .inl sf)), (it, .inl (cI, 320, .inl tf))] H → va_D A [(hs, .inl (cI, 45, .inl f)), (tn, .inl (cI, 45, .inl g_73)), (md, .inr (6, [.int 0, .int md_f1_24, .ref ln, .ref mn, .ref it, .ref hs, vm_6, .ref tn, vm_8, vm_9, vm_10, vm_11, vm_12, vm_13, vm_14, vm_15, vm_16, vm_17, vm_18, vm_19, vm_20, vm_21, vm_22, vm_23])), (ln, .inl (cI, 8, .inl lf)), (mn, .inl (cI, 8, .inl sf)), (it, .inl (cI, 320, .inl tf))] → va_S A s.heap H locs → lv_has ls 11 [(10, .int (nI i_72)), (9, .int 1), (8, .int y_74), (7, .int r_21), (0, .ref md), (1, .int (nI j_4)), (2, .int 2), (3, .int (nI j_12)), (4, .int (nI j_16)), (5, .int (nI i_29)), (6, .int (nI j_20))] → W p l e ({ frames := 5, cells := 0, slots := 0, locals := 116 } : Room) s m ([.ref md, .int (nI j_4), .int (nI 2), .int (nI j_12), .int (nI j_16), .int (nI i_29), .int (nI j_20)] : List Value).toArray below meth c H locs 0 0 (MQ below (wt_QI D (fun r w => ∃ (g2 : Nat → Int32) (md_f1 : Int32), w = [(md, .inr (6, [.int 0, .int md_f1, .ref ln, .ref mn, .ref it, .ref hs, vm_6, .ref tn, vm_8, vm_9, vm_10, vm_11, vm_12, vm_13, vm_14, vm_15, vm_16, vm_17, vm_18, vm_19, vm_20, vm_21, vm_22, vm_23])), (hs, .inl (cI, 45, .inl f)), (tn, .inl (cI, 45, .inl g2)), (ln, .inl (cI, 8, .inl lf)), (mn, .inl (cI, 8, .inl sf)), (it, .inl (cI, 320, .inl tf))] ∧ md_f1 = fQ (whF T R lf sf (nI j_4) (nI 2) (nI j_12) (nI j_16) (nI i_29) (nI j_20)) sv) A) ([.ref md, .int (nI j_4), .int (nI 2), .int (nI j_12), .int (nI j_16), .int (nI i_29), .int (nI j_20)] : List Value).toArray s 0 0 A) (F0 m 112 ls []) := by
                  intro k
                  induction k with
                  | zero =>
                    intro i_72 g_73 y_74 H locs ls hik  hP hD hS hl
                    refine lv_iload hx hb dX6_who_112 (lv_at hl 0 rfl) ?_
                    refine lv_iload_n hx hb dX6_who_114 rfl (lv_at hl 6 rfl) ?_
                    refine lv_if_ne (tgt := 122) hx hb dX6_who_115 (by decide) (fun _ => ?_) (fun h => absurd h (by decide))
                    refine lv_iload_n hx hb dX6_who_122 rfl (lv_at hl 6 rfl) ?_
                    refine lv_iconst (v := 1) hx hb dX6_who_123 (by decide) ?_
                    refine lv_icmp_ne (tgt := 132) hx hb dX6_who_124 (by decide) (fun _ => ?_) (fun h => absurd h (by decide))
                    refine lv_aload_n hx hb dX6_who_132 rfl (lv_at hl 4 rfl) ?_
                    refine va_get (D := D) (ci := 6) (v := .ref hs) (C := RX6) (T := TX6) (N := 24) hx hb hts hi6 hown hK.1 hP 2 rfl rfl 5 (by decide) wf19 (fun _ h9 => h9) rfl dX6_who_133 ?_
                    refine lv_iconst (v := 0) hx hb dX6_who_136 (by decide) ?_
                    refine va_iald hx hb hK.1 hP 0 0 rfl rfl (by rw [vp_in_iff]; decide) dX6_who_137 ?_
                    refine wt_top (z := nI R) (hrk.1) ?_
                    refine lv_icmp_gt (tgt := 194) hx hb dX6_who_138 (by decide) (fun _ => ?_) (fun h => absurd (nI_lt (a := R) (b := i_72) (by omega) (by omega)) h)
                    refine lv_iload hx hb dX6_who_194 (lv_at hl 2 rfl) ?_
                    have hP9 := hP.sub (ws' := [(md, .inr (6, [.int 0, .int md_f1_24, .ref ln, .ref mn, .ref it, .ref hs, vm_6, .ref tn, vm_8, vm_9, vm_10, vm_11, vm_12, vm_13, vm_14, vm_15, vm_16, vm_17, vm_18, vm_19, vm_20, vm_21, vm_22, vm_23])), (hs, .inl (cI, 45, .inl f)), (tn, .inl (cI, 45, .inl g_73)), (ln, .inl (cI, 8, .inl lf)), (mn, .inl (cI, 8, .inl sf)), (it, .inl (cI, 320, .inl tf))]) [2, 0, 1, 3, 4, 5] rfl
                    have hD9 := hD.sub (ws' := [(md, .inr (6, [.int 0, .int md_f1_24, .ref ln, .ref mn, .ref it, .ref hs, vm_6, .ref tn, vm_8, vm_9, vm_10, vm_11, vm_12, vm_13, vm_14, vm_15, vm_16, vm_17, vm_18, vm_19, vm_20, vm_21, vm_22, vm_23])), (hs, .inl (cI, 45, .inl f)), (tn, .inl (cI, 45, .inl g_73)), (ln, .inl (cI, 8, .inl lf)), (mn, .inl (cI, 8, .inl sf)), (it, .inl (cI, 320, .inl tf))]) [2, 0, 1, 3, 4, 5] (by decide) rfl
                    exact wt_iret hx hb hr hlocks hP9 hD9 hS ⟨g_73, md_f1_24, rfl, (hst_26.trans (fQ_k (whF_6 (by omega) c_3 c_7 c_11 c_15 c_19) (rs_m _ _ _ _) sv).symm)⟩ dX6_who_196
                  | succ k ih112 =>
                    intro i_72 g_73 y_74 H locs ls hik  hP hD hS hl
                    refine lv_iload hx hb dX6_who_112 (lv_at hl 0 rfl) ?_
                    refine lv_iload_n hx hb dX6_who_114 rfl (lv_at hl 6 rfl) ?_
                    refine lv_if_ne (tgt := 122) hx hb dX6_who_115 (by decide) (fun _ => ?_) (fun h => absurd h (by decide))
                    refine lv_iload_n hx hb dX6_who_122 rfl (lv_at hl 6 rfl) ?_
                    refine lv_iconst (v := 1) hx hb dX6_who_123 (by decide) ?_
                    refine lv_icmp_ne (tgt := 132) hx hb dX6_who_124 (by decide) (fun _ => ?_) (fun h => absurd h (by decide))
                    refine lv_aload_n hx hb dX6_who_132 rfl (lv_at hl 4 rfl) ?_
                    refine va_get (D := D) (ci := 6) (v := .ref hs) (C := RX6) (T := TX6) (N := 24) hx hb hts hi6 hown hK.1 hP 2 rfl rfl 5 (by decide) wf19 (fun _ h9 => h9) rfl dX6_who_133 ?_
                    refine lv_iconst (v := 0) hx hb dX6_who_136 (by decide) ?_
                    refine va_iald hx hb hK.1 hP 0 0 rfl rfl (by rw [vp_in_iff]; decide) dX6_who_137 ?_
                    refine wt_top (z := nI R) (hrk.1) ?_
                    refine lv_icmp_gt (tgt := 194) hx hb dX6_who_138 (by decide) (fun h => absurd h (nI_nlt (a := R) (b := i_72) (by omega) (by omega))) (fun _ => ?_)
                    refine lv_aload_n hx hb dX6_who_141 rfl (lv_at hl 4 rfl) ?_
                    refine wt_goV (wr := [(ln, .inl (cI, 8, .inl lf)), (mn, .inl (cI, 8, .inl sf)), (it, .inl (cI, 320, .inl tf))]) (wt_runV (As := []) (rest := []) ⟨hx, hb, hml, hown, hts⟩ (c_X6_layThen l D cI cZ cH md hs R T f tn g_73 (.int 0) (.int md_f1_24) (.ref ln) (.ref mn) (.ref it) vm_6 vm_8 vm_9 vm_10 vm_11 vm_12 vm_13 vm_14 vm_15 vm_16 vm_17 vm_18 vm_19 vm_20 vm_21 vm_22 vm_23 (by first | assumption | omega) (by first | assumption | omega) (by first | assumption | omega)) (cwV 0 hts gX6_who_X6_layThen rfl rfl rfl (by decide +kernel) ⟨Nat.le_of_ble_eq_true rfl, Nat.le_of_ble_eq_true rfl⟩) hK hP hD [2, 0, 1] rfl (by decide) (va_recv hK.1 hP (ci := 6) (q0 := 2) rfl rfl) rfl hl.1 rfl (Nat.le_of_ble_eq_true rfl) dX6_who_142 ⟨Nat.le_of_ble_eq_true rfl, Nat.le_of_ble_eq_true rfl⟩) hP hD hS hA [2, 0, 1] [3, 4, 5] rfl rfl (by decide) (by decide) (fun w_76 H locs h_77 hP hD hS => ?_)
                    obtain ⟨g2_78, rfl, x_79⟩ := h_77
                    have hP : va_P D vwCl [(ln, .inl (cI, 8, .inl lf)), (mn, .inl (cI, 8, .inl sf)), (it, .inl (cI, 320, .inl tf)), (md, .inr (6, [.int 0, .int md_f1_24, .ref ln, .ref mn, .ref it, .ref hs, vm_6, .ref tn, vm_8, vm_9, vm_10, vm_11, vm_12, vm_13, vm_14, vm_15, vm_16, vm_17, vm_18, vm_19, vm_20, vm_21, vm_22, vm_23])), (hs, .inl (cI, 45, .inl f)), (tn, .inl (cI, 45, .inl g2_78))] H := hP
                    have hD : va_D A [(ln, .inl (cI, 8, .inl lf)), (mn, .inl (cI, 8, .inl sf)), (it, .inl (cI, 320, .inl tf)), (md, .inr (6, [.int 0, .int md_f1_24, .ref ln, .ref mn, .ref it, .ref hs, vm_6, .ref tn, vm_8, vm_9, vm_10, vm_11, vm_12, vm_13, vm_14, vm_15, vm_16, vm_17, vm_18, vm_19, vm_20, vm_21, vm_22, vm_23])), (hs, .inl (cI, 45, .inl f)), (tn, .inl (cI, 45, .inl g2_78))] := hD
                    refine lv_aload_n hx hb dX6_who_145 rfl (lv_at hl 4 rfl) ?_
                    refine va_get (D := D) (ci := 6) (v := .ref tn) (C := RX6) (T := TX6) (N := 24) hx hb hts hi6 hown hK.1 hP 3 rfl rfl 7 (by decide) wf25 (fun _ h9 => h9) rfl dX6_who_146 ?_
                    refine lv_iload_n hx hb dX6_who_149 rfl (lv_at hl 5 rfl) ?_
                    refine lv_iload hx hb dX6_who_150 (lv_at hl 1 rfl) ?_
                    refine lv_iload hx hb dX6_who_152 (lv_at hl 0 rfl) ?_
                    refine wt_goV (wr := [(ln, .inl (cI, 8, .inl lf)), (mn, .inl (cI, 8, .inl sf)), (it, .inl (cI, 320, .inl tf)), (md, .inr (6, [.int 0, .int md_f1_24, .ref ln, .ref mn, .ref it, .ref hs, vm_6, .ref tn, vm_8, vm_9, vm_10, vm_11, vm_12, vm_13, vm_14, vm_15, vm_16, vm_17, vm_18, vm_19, vm_20, vm_21, vm_22, vm_23])), (hs, .inl (cI, 45, .inl f))]) (wt_runS (As := [.ref tn, .int (nI j_4), .int 1, .int (nI i_72)]) (rest := []) ⟨hx, hb, hml, hown, hts⟩ (c_X6_be_1 l D cI cZ cH tn R T g2_78 j_4 i_72 (by first | assumption | omega) (by first | assumption | omega) (by first | assumption | omega) (by first | assumption | omega) (by first | assumption | omega)) (va_cwS 4 hts gX6_who_X6_be rfl rfl rfl (by decide +kernel) ⟨Nat.le_of_ble_eq_true rfl, Nat.le_of_ble_eq_true rfl⟩) hK hP hD [5] rfl (by decide) rfl hl.1 rfl (Nat.le_of_ble_eq_true rfl) dX6_who_154 ⟨Nat.le_of_ble_eq_true rfl, Nat.le_of_ble_eq_true rfl⟩) hP hD hS hA [5] [0, 1, 2, 3, 4] rfl rfl (by decide) (by decide) (fun w_81 H locs h_82 hP hD hS => ?_)
                    obtain ⟨f2_83, rfl, x_84⟩ := h_82
                    have hP : va_P D vwCl [(ln, .inl (cI, 8, .inl lf)), (mn, .inl (cI, 8, .inl sf)), (it, .inl (cI, 320, .inl tf)), (md, .inr (6, [.int 0, .int md_f1_24, .ref ln, .ref mn, .ref it, .ref hs, vm_6, .ref tn, vm_8, vm_9, vm_10, vm_11, vm_12, vm_13, vm_14, vm_15, vm_16, vm_17, vm_18, vm_19, vm_20, vm_21, vm_22, vm_23])), (hs, .inl (cI, 45, .inl f)), (tn, .inl (cI, 45, .inl f2_83))] H := hP
                    have hD : va_D A [(ln, .inl (cI, 8, .inl lf)), (mn, .inl (cI, 8, .inl sf)), (it, .inl (cI, 320, .inl tf)), (md, .inr (6, [.int 0, .int md_f1_24, .ref ln, .ref mn, .ref it, .ref hs, vm_6, .ref tn, vm_8, vm_9, vm_10, vm_11, vm_12, vm_13, vm_14, vm_15, vm_16, vm_17, vm_18, vm_19, vm_20, vm_21, vm_22, vm_23])), (hs, .inl (cI, 45, .inl f)), (tn, .inl (cI, 45, .inl f2_83))] := hD
                    refine lv_iload hx hb dX6_who_157 (lv_at hl 2 rfl) ?_
                    refine lv_aload_n hx hb dX6_who_159 rfl (lv_at hl 4 rfl) ?_
                    refine lv_iload_n hx hb dX6_who_160 rfl (lv_at hl 7 rfl) ?_
                    refine lv_bipush (v := 40) hx hb dX6_who_161 (by decide) ?_
                    refine lv_iload hx hb dX6_who_163 (lv_at hl 8 rfl) ?_
                    refine lv_imul hx hb dX6_who_165 ?_
                    refine wt_top (z := nI (40 * j_16)) (pk_mul 40 j_16) ?_
                    refine lv_iload hx hb dX6_who_166 (lv_at hl 9 rfl) ?_
                    refine lv_iadd hx hb dX6_who_168 ?_
                    refine wt_top (z := nI ((40 * j_16) + i_29)) (nI_add (40 * j_16) i_29) ?_
                    refine lv_iload hx hb dX6_who_169 (lv_at hl 10 rfl) ?_
                    refine wt_goI (wr := [(ln, .inl (cI, 8, .inl lf)), (mn, .inl (cI, 8, .inl sf)), (hs, .inl (cI, 45, .inl f))]) (wt_runV (As := [.int (nI j_12), .int (nI ((40 * j_16) + i_29)), .int (nI j_20)]) (rest := [.int y_74]) ⟨hx, hb, hml, hown, hts⟩ (c_X6_warmSo l D cI cZ cH md tn it R T j_12 ((40 * j_16) + i_29) j_20 f2_83 tf (.int 0) (.int md_f1_24) (.ref ln) (.ref mn) (.ref hs) vm_6 vm_8 vm_9 vm_10 vm_11 vm_12 vm_13 vm_14 vm_15 vm_16 vm_17 vm_18 vm_19 vm_20 vm_21 vm_22 vm_23 (by first | assumption | omega) (by first | assumption | omega) (by first | assumption | omega) (by first | assumption | omega) (by first | assumption | omega) (by first | assumption | omega)) (cwV 3 hts gX6_who_X6_warmSo rfl rfl rfl (by decide +kernel) ⟨Nat.le_of_ble_eq_true rfl, Nat.le_of_ble_eq_true rfl⟩) hK hP hD [3, 5, 2] rfl (by decide) (va_recv hK.1 hP (ci := 6) (q0 := 3) rfl rfl) rfl hl.1 rfl (Nat.le_of_ble_eq_true rfl) dX6_who_171 ⟨Nat.le_of_ble_eq_true rfl, Nat.le_of_ble_eq_true rfl⟩) hP hD hS hA [3, 5, 2] [0, 1, 4] rfl rfl (by decide) (by decide) (fun r_85 w_86 H locs h_87 hP hD hS => ?_)
                    obtain ⟨g2_88, rfl⟩ := h_87
                    have hP : va_P D vwCl [(ln, .inl (cI, 8, .inl lf)), (mn, .inl (cI, 8, .inl sf)), (hs, .inl (cI, 45, .inl f)), (md, .inr (6, [.int 0, .int md_f1_24, .ref ln, .ref mn, .ref it, .ref hs, vm_6, .ref tn, vm_8, vm_9, vm_10, vm_11, vm_12, vm_13, vm_14, vm_15, vm_16, vm_17, vm_18, vm_19, vm_20, vm_21, vm_22, vm_23])), (tn, .inl (cI, 45, .inl g2_88)), (it, .inl (cI, 320, .inl tf))] H := hP
                    have hD : va_D A [(ln, .inl (cI, 8, .inl lf)), (mn, .inl (cI, 8, .inl sf)), (hs, .inl (cI, 45, .inl f)), (md, .inr (6, [.int 0, .int md_f1_24, .ref ln, .ref mn, .ref it, .ref hs, vm_6, .ref tn, vm_8, vm_9, vm_10, vm_11, vm_12, vm_13, vm_14, vm_15, vm_16, vm_17, vm_18, vm_19, vm_20, vm_21, vm_22, vm_23])), (tn, .inl (cI, 45, .inl g2_88)), (it, .inl (cI, 320, .inl tf))] := hD
                    refine lv_if_eq (tgt := 184) hx hb dX6_who_174 (by decide) (fun c_89 => ?_) (fun c_89 => ?_)
                    · skip
                      refine lv_iconst (v := 0) hx hb dX6_who_184 (by decide) ?_
                      refine lv_ior hx hb dX6_who_185 ?_
                      refine lv_topi (fun ov_90 _ => ?_)
                      refine lv_istore (lv' := [(8, .int ov_90), (10, .int (nI i_72)), (9, .int 1), (7, .int r_21), (0, .ref md), (1, .int (nI j_4)), (2, .int 2), (3, .int (nI j_12)), (4, .int (nI j_16)), (5, .int (nI i_29)), (6, .int (nI j_20))]) hx hb dX6_who_186 hl (by decide) rfl (fun ls hl => ?_)
                      refine lv_iinc (v := nI (i_72 + 1)) (lv' := [(10, .int (nI (i_72 + 1))), (8, .int ov_90), (9, .int 1), (7, .int r_21), (0, .ref md), (1, .int (nI j_4)), (2, .int 2), (3, .int (nI j_12)), (4, .int (nI j_16)), (5, .int (nI i_29)), (6, .int (nI j_20))]) hx hb dX6_who_188 hl (k := 1) rfl (nI_add i_72 1) (by decide) rfl (fun ls hl => ?_)
                      refine lv_goto (tgt := 112) hx hb dX6_who_191 (by decide) ?_
                      exact ih112 ((i_72 + 1)) g2_88 ov_90 H locs ls (by omega)  (hP.sub [2, 4, 3, 0, 1, 5] rfl) (hD.sub [2, 4, 3, 0, 1, 5] (by decide) rfl) hS (lv_sub hl [0, 2, 1, 3, 4, 5, 6, 7, 8, 9, 10] rfl)
                    · skip
                      refine lv_iconst (v := 1) hx hb dX6_who_177 (by decide) ?_
                      refine lv_iload hx hb dX6_who_178 (lv_at hl 0 rfl) ?_
                      refine lv_ishl hx hb dX6_who_180 ?_
                      refine wt_top (z := nI (2 ^ i_72)) (wt_shl1 (by omega)) ?_
                      refine lv_goto (tgt := 185) hx hb dX6_who_181 (by decide) ?_
                      refine lv_ior hx hb dX6_who_185 ?_
                      refine lv_topi (fun ov_91 _ => ?_)
                      refine lv_istore (lv' := [(8, .int ov_91), (10, .int (nI i_72)), (9, .int 1), (7, .int r_21), (0, .ref md), (1, .int (nI j_4)), (2, .int 2), (3, .int (nI j_12)), (4, .int (nI j_16)), (5, .int (nI i_29)), (6, .int (nI j_20))]) hx hb dX6_who_186 hl (by decide) rfl (fun ls hl => ?_)
                      refine lv_iinc (v := nI (i_72 + 1)) (lv' := [(10, .int (nI (i_72 + 1))), (8, .int ov_91), (9, .int 1), (7, .int r_21), (0, .ref md), (1, .int (nI j_4)), (2, .int 2), (3, .int (nI j_12)), (4, .int (nI j_16)), (5, .int (nI i_29)), (6, .int (nI j_20))]) hx hb dX6_who_188 hl (k := 1) rfl (nI_add i_72 1) (by decide) rfl (fun ls hl => ?_)
                      refine lv_goto (tgt := 112) hx hb dX6_who_191 (by decide) ?_
                      exact ih112 ((i_72 + 1)) g2_88 ov_91 H locs ls (by omega)  (hP.sub [2, 4, 3, 0, 1, 5] rfl) (hD.sub [2, 4, 3, 0, 1, 5] (by decide) rfl) hS (lv_sub hl [0, 2, 1, 3, 4, 5, 6, 7, 8, 9, 10] rfl)
                exact loop112 ((R + 1) - 0) (0) g 0 _ _ ls (by omega)  hP hD hS hl
            · skip
              refine lv_iload hx hb dX6_who_74 (lv_at hl 0 rfl) ?_
              have hP9 := hP.sub (ws' := [(md, .inr (6, [.int 0, .int md_f1_24, .ref ln, .ref mn, .ref it, .ref hs, vm_6, .ref tn, vm_8, vm_9, vm_10, vm_11, vm_12, vm_13, vm_14, vm_15, vm_16, vm_17, vm_18, vm_19, vm_20, vm_21, vm_22, vm_23])), (hs, .inl (cI, 45, .inl f)), (tn, .inl (cI, 45, .inl g)), (ln, .inl (cI, 8, .inl lf)), (mn, .inl (cI, 8, .inl sf)), (it, .inl (cI, 320, .inl tf))]) [2, 0, 1, 3, 4, 5] rfl
              have hD9 := hD.sub (ws' := [(md, .inr (6, [.int 0, .int md_f1_24, .ref ln, .ref mn, .ref it, .ref hs, vm_6, .ref tn, vm_8, vm_9, vm_10, vm_11, vm_12, vm_13, vm_14, vm_15, vm_16, vm_17, vm_18, vm_19, vm_20, vm_21, vm_22, vm_23])), (hs, .inl (cI, 45, .inl f)), (tn, .inl (cI, 45, .inl g)), (ln, .inl (cI, 8, .inl lf)), (mn, .inl (cI, 8, .inl sf)), (it, .inl (cI, 320, .inl tf))]) [2, 0, 1, 3, 4, 5] (by decide) rfl
              exact wt_iret hx hb hr hlocks hP9 hD9 hS ⟨g, md_f1_24, rfl, (hst_26.trans (fQ_k (whF_6 (by omega) c_3 c_7 c_11 c_15 c_19) (rs_m _ _ _ _) sv).symm)⟩ dX6_who_76
          · skip
            refine lv_ldc hx hb hown wc67 dX6_who_54 ?_
            have hP9 := hP.sub (ws' := [(md, .inr (6, [.int 0, .int sv, .ref ln, .ref mn, .ref it, .ref hs, vm_6, .ref tn, vm_8, vm_9, vm_10, vm_11, vm_12, vm_13, vm_14, vm_15, vm_16, vm_17, vm_18, vm_19, vm_20, vm_21, vm_22, vm_23])), (hs, .inl (cI, 45, .inl f)), (tn, .inl (cI, 45, .inl g)), (ln, .inl (cI, 8, .inl lf)), (mn, .inl (cI, 8, .inl sf)), (it, .inl (cI, 320, .inl tf))]) [0, 1, 2, 3, 4, 5] rfl
            have hD9 := hD.sub (ws' := [(md, .inr (6, [.int 0, .int sv, .ref ln, .ref mn, .ref it, .ref hs, vm_6, .ref tn, vm_8, vm_9, vm_10, vm_11, vm_12, vm_13, vm_14, vm_15, vm_16, vm_17, vm_18, vm_19, vm_20, vm_21, vm_22, vm_23])), (hs, .inl (cI, 45, .inl f)), (tn, .inl (cI, 45, .inl g)), (ln, .inl (cI, 8, .inl lf)), (mn, .inl (cI, 8, .inl sf)), (it, .inl (cI, 320, .inl tf))]) [0, 1, 2, 3, 4, 5] (by decide) rfl
            exact wt_iret hx hb hr hlocks hP9 hD9 hS ⟨g, sv, rfl, (fQ_b (whF_5 c_3 c_7 c_11 c_15 c_19) sv).symm⟩ dX6_who_56
set_option maxHeartbeats 4000000 in
set_option maxRecDepth 100000 in
theorem c_X6_frosts_x (l : Launch) (D : va_G) (cI cZ cH : ClassId) (md hs : Nat) (R T : Nat) (f : Nat → Int32) (tn : Nat) (g : Nat → Int32) (ln mn it : Nat) (lf sf tf : Nat → Int32) (sv : Int32) (a1 a2 a3 a4 a5 : Int32) (vm_0 vm_6 vm_8 vm_9 vm_10 vm_11 vm_12 vm_13 vm_14 vm_15 vm_16 vm_17 vm_18 vm_19 vm_20 vm_21 vm_22 vm_23 : Value) (hR5 : R ≤ 5) (hT6 : T ≤ 6) (hrk : rk R T f) (hs8 : hw 40 8 sf) (hlq : lq lf) : wt_M l yX6_frosts wsX6_frosts ({ frames := 5, cells := 0, slots := 0, locals := 116 } : Room) D (wt_T cI cZ cH) [.ref md, .int a1, .int a2, .int a3, .int a4, .int a5] [(md, .inr (6, [vm_0, .int sv, .ref ln, .ref mn, .ref it, .ref hs, vm_6, .ref tn, vm_8, vm_9, vm_10, vm_11, vm_12, vm_13, vm_14, vm_15, vm_16, vm_17, vm_18, vm_19, vm_20, vm_21, vm_22, vm_23])), (hs, .inl (cI, 45, .inl f)), (tn, .inl (cI, 45, .inl g)), (ln, .inl (cI, 8, .inl lf)), (mn, .inl (cI, 8, .inl sf)), (it, .inl (cI, 320, .inl tf))] (wt_QI D (fun r w => ∃ (g2 : Nat → Int32) (md_f1 : Int32), w = [(md, .inr (6, [.int 0, .int md_f1, .ref ln, .ref mn, .ref it, .ref hs, vm_6, .ref tn, vm_8, vm_9, vm_10, vm_11, vm_12, vm_13, vm_14, vm_15, vm_16, vm_17, vm_18, vm_19, vm_20, vm_21, vm_22, vm_23])), (hs, .inl (cI, 45, .inl f)), (tn, .inl (cI, 45, .inl g2)), (ln, .inl (cI, 8, .inl lf)), (mn, .inl (cI, 8, .inl sf)), (it, .inl (cI, 320, .inl tf))] ∧ md_f1 = fQ (frF R lf sf a1 a2 a3 a4 a5) sv)) := by
  refine wt_M.ofW (cc := cX6_frosts) (maxL := 9) (ret := (some .int)) (by decide) rfl (Nat.le_of_ble_eq_true rfl) ?_
  intro p e s m below meth c A ls hx hb hr hts hown hlocks hml hnm hP hK hD hA hS hl
  have hP : va_P D vwCl [(md, .inr (6, [vm_0, .int sv, .ref ln, .ref mn, .ref it, .ref hs, vm_6, .ref tn, vm_8, vm_9, vm_10, vm_11, vm_12, vm_13, vm_14, vm_15, vm_16, vm_17, vm_18, vm_19, vm_20, vm_21, vm_22, vm_23])), (hs, .inl (cI, 45, .inl f)), (tn, .inl (cI, 45, .inl g)), (ln, .inl (cI, 8, .inl lf)), (mn, .inl (cI, 8, .inl sf)), (it, .inl (cI, 320, .inl tf))] s.heap := hP
  have hown : s.vm.findClass RX6 = some m.cls := hown
  have hl : lv_has ls 9 [(0, .ref md), (1, .int a1), (2, .int a2), (3, .int a3), (4, .int a4), (5, .int a5)] := hl
  have hi6 : ∀ w ∈ u_ws RX6 TX6 24, w ∈ wsX6_frosts := by decide +kernel
  have wc67 := hts (.constant RX6 67 (-1000001)) (by decide +kernel)
  have wf19 := hts (.fieldLink RX6 19 "WarmTubesModel" "house" "[I") (by decide +kernel)
  have wf25 := hts (.fieldLink RX6 25 "WarmTubesModel" "then" "[I") (by decide +kernel)
  have wf47 := hts (.fieldLink RX6 47 "WarmTubesModel" "thrown" "I") (by decide +kernel)
  have wl265 := hts (.constantLong RX6 265 (12)) (by decide +kernel)
  refine lv_aload_n hx hb dX6_frosts_0 rfl (lv_at hl 0 rfl) ?_
  refine lv_iconst (v := 0) hx hb dX6_frosts_1 (by decide) ?_
  refine va_put (D := D) (ci := 6) (v := .int 0) (ty := .int) (C := RX6) (T := TX6) (N := 24) hx hb hts hi6 tyX6 tyX6_ok nmX6 hown hK.1 hP hD hS 0 rfl rfl 0 (by decide) wf47 (fun _ h9 => h9) rfl (by decide +kernel) rfl rfl (Nat.le_of_ble_eq_true rfl) dX6_frosts_2 (fun H locs hP hD hS => ?_)
  have hP : va_P D vwCl [(md, .inr (6, [.int 0, .int sv, .ref ln, .ref mn, .ref it, .ref hs, vm_6, .ref tn, vm_8, vm_9, vm_10, vm_11, vm_12, vm_13, vm_14, vm_15, vm_16, vm_17, vm_18, vm_19, vm_20, vm_21, vm_22, vm_23])), (hs, .inl (cI, 45, .inl f)), (tn, .inl (cI, 45, .inl g)), (ln, .inl (cI, 8, .inl lf)), (mn, .inl (cI, 8, .inl sf)), (it, .inl (cI, 320, .inl tf))] H := hP
  have hD : va_D A [(md, .inr (6, [.int 0, .int sv, .ref ln, .ref mn, .ref it, .ref hs, vm_6, .ref tn, vm_8, vm_9, vm_10, vm_11, vm_12, vm_13, vm_14, vm_15, vm_16, vm_17, vm_18, vm_19, vm_20, vm_21, vm_22, vm_23])), (hs, .inl (cI, 45, .inl f)), (tn, .inl (cI, 45, .inl g)), (ln, .inl (cI, 8, .inl lf)), (mn, .inl (cI, 8, .inl sf)), (it, .inl (cI, 320, .inl tf))] := hD
  refine lv_aload_n hx hb dX6_frosts_5 rfl (lv_at hl 0 rfl) ?_
  refine lv_iload_n hx hb dX6_frosts_6 rfl (lv_at hl 1 rfl) ?_
  refine wt_rV (As := [.int a1]) (rest := []) ⟨hx, hb, hml, hown, hts⟩ (c_X6_isRoom l D cI cZ cH md hs R T f a1 (.int 0) (.int sv) (.ref ln) (.ref mn) (.ref it) vm_6 (.ref tn) vm_8 vm_9 vm_10 vm_11 vm_12 vm_13 vm_14 vm_15 vm_16 vm_17 vm_18 vm_19 vm_20 vm_21 vm_22 vm_23 (by first | assumption | omega) (by first | assumption | omega) (by first | assumption | omega)) (cwV 1 hts gX6_frosts_X6_isRoom rfl rfl rfl (by decide +kernel) ⟨Nat.le_of_ble_eq_true rfl, Nat.le_of_ble_eq_true rfl⟩) hK hP [0, 1] rfl (va_recv hK.1 hP (ci := 6) (q0 := 0) rfl rfl) rfl hl.1 rfl (Nat.le_of_ble_eq_true rfl) dX6_frosts_7 ⟨Nat.le_of_ble_eq_true rfl, Nat.le_of_ble_eq_true rfl⟩ (fun r_1 e_2 => ?_)
  subst e_2
  refine lv_if_eq (tgt := 43) hx hb dX6_frosts_10 (by decide) (fun c_3 => ?_) (fun c_3 => ?_)
  · skip
    refine lv_ldc hx hb hown wc67 dX6_frosts_43 ?_
    have hP9 := hP.sub (ws' := [(md, .inr (6, [.int 0, .int sv, .ref ln, .ref mn, .ref it, .ref hs, vm_6, .ref tn, vm_8, vm_9, vm_10, vm_11, vm_12, vm_13, vm_14, vm_15, vm_16, vm_17, vm_18, vm_19, vm_20, vm_21, vm_22, vm_23])), (hs, .inl (cI, 45, .inl f)), (tn, .inl (cI, 45, .inl g)), (ln, .inl (cI, 8, .inl lf)), (mn, .inl (cI, 8, .inl sf)), (it, .inl (cI, 320, .inl tf))]) [0, 1, 2, 3, 4, 5] rfl
    have hD9 := hD.sub (ws' := [(md, .inr (6, [.int 0, .int sv, .ref ln, .ref mn, .ref it, .ref hs, vm_6, .ref tn, vm_8, vm_9, vm_10, vm_11, vm_12, vm_13, vm_14, vm_15, vm_16, vm_17, vm_18, vm_19, vm_20, vm_21, vm_22, vm_23])), (hs, .inl (cI, 45, .inl f)), (tn, .inl (cI, 45, .inl g)), (ln, .inl (cI, 8, .inl lf)), (mn, .inl (cI, 8, .inl sf)), (it, .inl (cI, 320, .inl tf))]) [0, 1, 2, 3, 4, 5] (by decide) rfl
    exact wt_iret hx hb hr hlocks hP9 hD9 hS ⟨g, sv, rfl, (fQ_b (frF_1 c_3) sv).symm⟩ dX6_frosts_45
  · skip
    obtain ⟨j_4, hj_4, rfl⟩ := wI_natT (T := R) (by omega) c_3
    refine lv_iload_n hx hb dX6_frosts_13 rfl (lv_at hl 2 rfl) ?_
    refine lv_i2l hx hb dX6_frosts_14 rfl ?_
    refine lv_lconst (v := 0) hx hb dX6_frosts_15 (by decide) ?_
    refine lv_lconst (v := 1) hx hb dX6_frosts_16 (by decide) ?_
    refine wt_rS (As := [.long a2.toInt64, .long 0, .long 1]) (rest := []) ⟨hx, hb, hml, hown, hts⟩ (c_X6_in l D cI cZ cH a2.toInt64 0 1) (va_cwS 3 hts gX6_frosts_X6_in rfl rfl rfl (by decide +kernel) ⟨Nat.le_of_ble_eq_true rfl, Nat.le_of_ble_eq_true rfl⟩) hK hP [] rfl rfl hl.1 rfl (Nat.le_of_ble_eq_true rfl) dX6_frosts_17 ⟨Nat.le_of_ble_eq_true rfl, Nat.le_of_ble_eq_true rfl⟩ (fun r_5 e_6 => ?_)
    subst e_6
    refine wt_top (z := wI a2 0 1) (wL_I' (by decide) (by decide)) ?_
    refine lv_if_eq (tgt := 43) hx hb dX6_frosts_20 (by decide) (fun c_7 => ?_) (fun c_7 => ?_)
    · skip
      refine lv_ldc hx hb hown wc67 dX6_frosts_43 ?_
      have hP9 := hP.sub (ws' := [(md, .inr (6, [.int 0, .int sv, .ref ln, .ref mn, .ref it, .ref hs, vm_6, .ref tn, vm_8, vm_9, vm_10, vm_11, vm_12, vm_13, vm_14, vm_15, vm_16, vm_17, vm_18, vm_19, vm_20, vm_21, vm_22, vm_23])), (hs, .inl (cI, 45, .inl f)), (tn, .inl (cI, 45, .inl g)), (ln, .inl (cI, 8, .inl lf)), (mn, .inl (cI, 8, .inl sf)), (it, .inl (cI, 320, .inl tf))]) [0, 1, 2, 3, 4, 5] rfl
      have hD9 := hD.sub (ws' := [(md, .inr (6, [.int 0, .int sv, .ref ln, .ref mn, .ref it, .ref hs, vm_6, .ref tn, vm_8, vm_9, vm_10, vm_11, vm_12, vm_13, vm_14, vm_15, vm_16, vm_17, vm_18, vm_19, vm_20, vm_21, vm_22, vm_23])), (hs, .inl (cI, 45, .inl f)), (tn, .inl (cI, 45, .inl g)), (ln, .inl (cI, 8, .inl lf)), (mn, .inl (cI, 8, .inl sf)), (it, .inl (cI, 320, .inl tf))]) [0, 1, 2, 3, 4, 5] (by decide) rfl
      exact wt_iret hx hb hr hlocks hP9 hD9 hS ⟨g, sv, rfl, (fQ_b (frF_2 c_3 c_7) sv).symm⟩ dX6_frosts_45
    · skip
      obtain ⟨j_8, hj_8, hj_8b, rfl⟩ := wI_nat (a := 0) (b := 1) (by omega) (by omega) c_7
      refine lv_iload_n hx hb dX6_frosts_23 rfl (lv_at hl 3 rfl) ?_
      refine wt_rS (As := [.int a3]) (rest := []) ⟨hx, hb, hml, hown, hts⟩ (c_X6_isRow l D cI cZ cH a3) (va_cwS 1 hts gX6_frosts_X6_isRow rfl rfl rfl (by decide +kernel) ⟨Nat.le_of_ble_eq_true rfl, Nat.le_of_ble_eq_true rfl⟩) hK hP [] rfl rfl hl.1 rfl (Nat.le_of_ble_eq_true rfl) dX6_frosts_24 ⟨Nat.le_of_ble_eq_true rfl, Nat.le_of_ble_eq_true rfl⟩ (fun r_9 e_10 => ?_)
      subst e_10
      refine lv_if_eq (tgt := 43) hx hb dX6_frosts_27 (by decide) (fun c_11 => ?_) (fun c_11 => ?_)
      · skip
        refine lv_ldc hx hb hown wc67 dX6_frosts_43 ?_
        have hP9 := hP.sub (ws' := [(md, .inr (6, [.int 0, .int sv, .ref ln, .ref mn, .ref it, .ref hs, vm_6, .ref tn, vm_8, vm_9, vm_10, vm_11, vm_12, vm_13, vm_14, vm_15, vm_16, vm_17, vm_18, vm_19, vm_20, vm_21, vm_22, vm_23])), (hs, .inl (cI, 45, .inl f)), (tn, .inl (cI, 45, .inl g)), (ln, .inl (cI, 8, .inl lf)), (mn, .inl (cI, 8, .inl sf)), (it, .inl (cI, 320, .inl tf))]) [0, 1, 2, 3, 4, 5] rfl
        have hD9 := hD.sub (ws' := [(md, .inr (6, [.int 0, .int sv, .ref ln, .ref mn, .ref it, .ref hs, vm_6, .ref tn, vm_8, vm_9, vm_10, vm_11, vm_12, vm_13, vm_14, vm_15, vm_16, vm_17, vm_18, vm_19, vm_20, vm_21, vm_22, vm_23])), (hs, .inl (cI, 45, .inl f)), (tn, .inl (cI, 45, .inl g)), (ln, .inl (cI, 8, .inl lf)), (mn, .inl (cI, 8, .inl sf)), (it, .inl (cI, 320, .inl tf))]) [0, 1, 2, 3, 4, 5] (by decide) rfl
        exact wt_iret hx hb hr hlocks hP9 hD9 hS ⟨g, sv, rfl, (fQ_b (frF_3 c_3 c_7 c_11) sv).symm⟩ dX6_frosts_45
      · skip
        obtain ⟨j_12, hj_12, hj_12b, rfl⟩ := wI_nat (a := 0) (b := 7) (by omega) (by omega) c_11
        refine lv_iload hx hb dX6_frosts_30 (lv_at hl 5 rfl) ?_
        refine lv_i2l hx hb dX6_frosts_32 rfl ?_
        refine lv_lconst (v := 1) hx hb dX6_frosts_33 (by decide) ?_
        refine lv_ldc2 hx hb hown wl265 dX6_frosts_34 ?_
        refine wt_rS (As := [.long a5.toInt64, .long 1, .long 12]) (rest := []) ⟨hx, hb, hml, hown, hts⟩ (c_X6_in l D cI cZ cH a5.toInt64 1 12) (va_cwS 3 hts gX6_frosts_X6_in rfl rfl rfl (by decide +kernel) ⟨Nat.le_of_ble_eq_true rfl, Nat.le_of_ble_eq_true rfl⟩) hK hP [] rfl rfl hl.1 rfl (Nat.le_of_ble_eq_true rfl) dX6_frosts_37 ⟨Nat.le_of_ble_eq_true rfl, Nat.le_of_ble_eq_true rfl⟩ (fun r_13 e_14 => ?_)
        subst e_14
        refine wt_top (z := wI a5 1 12) (wL_I' (by decide) (by decide)) ?_
        refine lv_if_ne (tgt := 46) hx hb dX6_frosts_40 (by decide) (fun c_15 => ?_) (fun c_15 => ?_)
        · skip
          obtain ⟨j_16, hj_16, hj_16b, rfl⟩ := wI_nat (a := 1) (b := 12) (by omega) (by omega) c_15
          refine lv_aload_n hx hb dX6_frosts_46 rfl (lv_at hl 0 rfl) ?_
          refine lv_iload_n hx hb dX6_frosts_47 rfl (lv_at hl 3 rfl) ?_
          refine lv_iload hx hb dX6_frosts_48 (lv_at hl 4 rfl) ?_
          refine lv_iload hx hb dX6_frosts_50 (lv_at hl 5 rfl) ?_
          refine wt_goI (wr := [(hs, .inl (cI, 45, .inl f)), (tn, .inl (cI, 45, .inl g))]) (wt_runV (As := [.int (nI j_12), .int a4, .int (nI j_16)]) (rest := []) ⟨hx, hb, hml, hown, hts⟩ (c_X6_rowFound_x l D cI cZ cH md ln mn it lf sf tf j_12 j_16 sv a4 (.int 0) (.ref hs) vm_6 (.ref tn) vm_8 vm_9 vm_10 vm_11 vm_12 vm_13 vm_14 vm_15 vm_16 vm_17 vm_18 vm_19 vm_20 vm_21 vm_22 vm_23 (by first | assumption | omega) (by first | assumption | omega) (by first | assumption | omega) (by first | assumption | omega)) (cwV 3 hts gX6_frosts_X6_rowFound rfl rfl rfl (by decide +kernel) ⟨Nat.le_of_ble_eq_true rfl, Nat.le_of_ble_eq_true rfl⟩) hK hP hD [0, 3, 4, 5] rfl (by decide) (va_recv hK.1 hP (ci := 6) (q0 := 0) rfl rfl) rfl hl.1 rfl (Nat.le_of_ble_eq_true rfl) dX6_frosts_52 ⟨Nat.le_of_ble_eq_true rfl, Nat.le_of_ble_eq_true rfl⟩) hP hD hS hA [0, 3, 4, 5] [1, 2] rfl rfl (by decide) (by decide) (fun r_17 w_18 H locs h_19 hP hD hS => ?_)
          obtain ⟨md_f1_20, rfl, x_21⟩ := h_19
          have hP : va_P D vwCl [(hs, .inl (cI, 45, .inl f)), (tn, .inl (cI, 45, .inl g)), (md, .inr (6, [.int 0, .int md_f1_20, .ref ln, .ref mn, .ref it, .ref hs, vm_6, .ref tn, vm_8, vm_9, vm_10, vm_11, vm_12, vm_13, vm_14, vm_15, vm_16, vm_17, vm_18, vm_19, vm_20, vm_21, vm_22, vm_23])), (ln, .inl (cI, 8, .inl lf)), (mn, .inl (cI, 8, .inl sf)), (it, .inl (cI, 320, .inl tf))] H := hP
          have hD : va_D A [(hs, .inl (cI, 45, .inl f)), (tn, .inl (cI, 45, .inl g)), (md, .inr (6, [.int 0, .int md_f1_20, .ref ln, .ref mn, .ref it, .ref hs, vm_6, .ref tn, vm_8, vm_9, vm_10, vm_11, vm_12, vm_13, vm_14, vm_15, vm_16, vm_17, vm_18, vm_19, vm_20, vm_21, vm_22, vm_23])), (ln, .inl (cI, 8, .inl lf)), (mn, .inl (cI, 8, .inl sf)), (it, .inl (cI, 320, .inl tf))] := hD
          obtain ⟨hst_22, hz_23⟩ := x_21
          refine lv_istore (lv' := [(6, .int r_17), (0, .ref md), (1, .int (nI j_4)), (2, .int (nI j_8)), (3, .int (nI j_12)), (4, .int a4), (5, .int (nI j_16))]) hx hb dX6_frosts_55 hl (by decide) rfl (fun ls hl => ?_)
          refine lv_iload hx hb dX6_frosts_57 (lv_at hl 0 rfl) ?_
          refine lv_if_eq (tgt := 65) hx hb dX6_frosts_59 (by decide) (fun c_24 => ?_) (fun c_24 => ?_)
          · skip
            obtain ⟨i_25, e_26, h_27⟩ := hz_23 c_24
            subst e_26
            rcases (show j_8 = 0 ∨ j_8 = 1 by omega) with hw0 | hw0
            · skip
              subst hw0
              have hl : lv_has ls 9 [(6, .int r_17), (0, .ref md), (1, .int (nI j_4)), (2, .int 0), (3, .int (nI j_12)), (4, .int (nI i_25)), (5, .int (nI j_16))] := hl
              refine lv_iconst (v := 0) hx hb dX6_frosts_65 (by decide) ?_
              refine lv_istore (lv' := [(7, .int 0), (6, .int r_17), (0, .ref md), (1, .int (nI j_4)), (2, .int 0), (3, .int (nI j_12)), (4, .int (nI i_25)), (5, .int (nI j_16))]) hx hb dX6_frosts_66 hl (by decide) rfl (fun ls hl => ?_)
              refine lv_iconst (v := 0) hx hb dX6_frosts_68 (by decide) ?_
              refine lv_istore (lv' := [(8, .int 0), (7, .int 0), (6, .int r_17), (0, .ref md), (1, .int (nI j_4)), (2, .int 0), (3, .int (nI j_12)), (4, .int (nI i_25)), (5, .int (nI j_16))]) hx hb dX6_frosts_69 hl (by decide) rfl (fun ls hl => ?_)
              have loop71 : ∀ (k i_28 : Nat) (g_29 : Nat → Int32) (y_30 : Int32) (H : Heap) (locs : List Loc) (ls : Array Slot), i_28 + k = 10 → va_P D vwCl [(hs, .inl (cI, 45, .inl f)), (tn, .inl (cI, 45, .inl g_29)), (md, .inr (6, [.int 0, .int md_f1_20, .ref ln, .ref mn, .ref it, .ref hs, vm_6, .ref tn, vm_8, vm_9, vm_10, vm_11, vm_12, vm_13, vm_14, vm_15, vm_16, vm_17, vm_18, vm_19, vm_20, vm_21, vm_22, vm_23])), (ln, .inl (cI, 8, .inl lf)), (mn, .inl (cI, 8, .inl sf)), (it, .inl (cI, 320, .inl tf))] H → va_D A [(hs, .inl (cI, 45, .inl f)), (tn, .inl (cI, 45, .inl g_29)), (md, .inr (6, [.int 0, .int md_f1_20, .ref ln, .ref mn, .ref it, .ref hs, vm_6, .ref tn, vm_8, vm_9, vm_10, vm_11, vm_12, vm_13, vm_14, vm_15, vm_16, vm_17, vm_18, vm_19, vm_20, vm_21, vm_22, vm_23])), (ln, .inl (cI, 8, .inl lf)), (mn, .inl (cI, 8, .inl sf)), (it, .inl (cI, 320, .inl tf))] → va_S A s.heap H locs → lv_has ls 9 [(8, .int (nI i_28)), (7, .int y_30), (6, .int r_17), (0, .ref md), (1, .int (nI j_4)), (2, .int 0), (3, .int (nI j_12)), (4, .int (nI i_25)), (5, .int (nI j_16))] → W p l e ({ frames := 5, cells := 0, slots := 0, locals := 116 } : Room) s m ([.ref md, .int (nI j_4), .int (nI 0), .int (nI j_12), .int (nI i_25), .int (nI j_16)] : List Value).toArray below meth c H locs 0 0 (MQ below (wt_QI D (fun r w => ∃ (g2 : Nat → Int32) (md_f1 : Int32), w = [(md, .inr (6, [.int 0, .int md_f1, .ref ln, .ref mn, .ref it, .ref hs, vm_6, .ref tn, vm_8, vm_9, vm_10, vm_11, vm_12, vm_13, vm_14, vm_15, vm_16, vm_17, vm_18, vm_19, vm_20, vm_21, vm_22, vm_23])), (hs, .inl (cI, 45, .inl f)), (tn, .inl (cI, 45, .inl g2)), (ln, .inl (cI, 8, .inl lf)), (mn, .inl (cI, 8, .inl sf)), (it, .inl (cI, 320, .inl tf))] ∧ md_f1 = fQ (frF R lf sf (nI j_4) (nI 0) (nI j_12) (nI i_25) (nI j_16)) sv) A) ([.ref md, .int (nI j_4), .int (nI 0), .int (nI j_12), .int (nI i_25), .int (nI j_16)] : List Value).toArray s 0 0 A) (F0 m 71 ls []) := by
                intro k
                induction k with
                | zero =>
                  intro i_28 g_29 y_30 H locs ls hik  hP hD hS hl
                  refine lv_iload hx hb dX6_frosts_71 (lv_at hl 0 rfl) ?_
                  refine lv_bipush (v := 10) hx hb dX6_frosts_73 (by decide) ?_
                  refine lv_icmp_ge (tgt := 130) hx hb dX6_frosts_75 (by decide) (fun _ => ?_) (fun h => absurd (nI_le (a := 10) (b := i_28) (by omega) (by omega)) h)
                  refine lv_iconst (v := 0) hx hb dX6_frosts_130 (by decide) ?_
                  refine lv_istore (lv' := [(8, .int 0), (7, .int y_30), (6, .int r_17), (0, .ref md), (1, .int (nI j_4)), (2, .int 0), (3, .int (nI j_12)), (4, .int (nI i_25)), (5, .int (nI j_16))]) hx hb dX6_frosts_131 hl (by decide) rfl (fun ls hl => ?_)
                  refine lv_iload hx hb dX6_frosts_133 (lv_at hl 0 rfl) ?_
                  refine lv_aload_n hx hb dX6_frosts_135 rfl (lv_at hl 3 rfl) ?_
                  refine va_get (D := D) (ci := 6) (v := .ref hs) (C := RX6) (T := TX6) (N := 24) hx hb hts hi6 hown hK.1 hP 2 rfl rfl 5 (by decide) wf19 (fun _ h9 => h9) rfl dX6_frosts_136 ?_
                  refine lv_iconst (v := 1) hx hb dX6_frosts_139 (by decide) ?_
                  refine va_iald hx hb hK.1 hP 0 0 rfl rfl (by rw [vp_in_iff]; decide) dX6_frosts_140 ?_
                  refine wt_top (z := nI T) (hrk.2.1) ?_
                  refine lv_icmp_gt (tgt := 224) hx hb dX6_frosts_141 (by decide) (fun c_31 => ?_) (fun c_31 => ?_)
                  · skip
                    have c_31 : T < 0 := (nI_ltI (a := T) (b := 0) (by omega) (by omega)).mp c_31
                    refine lv_iload hx hb dX6_frosts_224 (lv_at hl 1 rfl) ?_
                    have hP9 := hP.sub (ws' := [(md, .inr (6, [.int 0, .int md_f1_20, .ref ln, .ref mn, .ref it, .ref hs, vm_6, .ref tn, vm_8, vm_9, vm_10, vm_11, vm_12, vm_13, vm_14, vm_15, vm_16, vm_17, vm_18, vm_19, vm_20, vm_21, vm_22, vm_23])), (hs, .inl (cI, 45, .inl f)), (tn, .inl (cI, 45, .inl g_29)), (ln, .inl (cI, 8, .inl lf)), (mn, .inl (cI, 8, .inl sf)), (it, .inl (cI, 320, .inl tf))]) [2, 0, 1, 3, 4, 5] rfl
                    have hD9 := hD.sub (ws' := [(md, .inr (6, [.int 0, .int md_f1_20, .ref ln, .ref mn, .ref it, .ref hs, vm_6, .ref tn, vm_8, vm_9, vm_10, vm_11, vm_12, vm_13, vm_14, vm_15, vm_16, vm_17, vm_18, vm_19, vm_20, vm_21, vm_22, vm_23])), (hs, .inl (cI, 45, .inl f)), (tn, .inl (cI, 45, .inl g_29)), (ln, .inl (cI, 8, .inl lf)), (mn, .inl (cI, 8, .inl sf)), (it, .inl (cI, 320, .inl tf))]) [2, 0, 1, 3, 4, 5] (by decide) rfl
                    exact wt_iret hx hb hr hlocks hP9 hD9 hS ⟨g_29, md_f1_20, rfl, (hst_22.trans (fQ_k (frF_5 (by omega) c_3 c_7 c_11 c_15) (rs_m _ _ _ _) sv).symm)⟩ dX6_frosts_226
                  · skip
                    have c_31 : ¬ (T < 0) := fun h => c_31 ((nI_ltI (a := T) (b := 0) (by omega) (by omega)).mpr h)
                    refine lv_iload_n hx hb dX6_frosts_144 rfl (lv_at hl 5 rfl) ?_
                    refine lv_iconst (v := 1) hx hb dX6_frosts_145 (by decide) ?_
                    refine lv_icmp_ne (tgt := 224) hx hb dX6_frosts_146 (by decide) (fun _ => ?_) (fun h => absurd h (by decide))
                    refine lv_iload hx hb dX6_frosts_224 (lv_at hl 1 rfl) ?_
                    have hP9 := hP.sub (ws' := [(md, .inr (6, [.int 0, .int md_f1_20, .ref ln, .ref mn, .ref it, .ref hs, vm_6, .ref tn, vm_8, vm_9, vm_10, vm_11, vm_12, vm_13, vm_14, vm_15, vm_16, vm_17, vm_18, vm_19, vm_20, vm_21, vm_22, vm_23])), (hs, .inl (cI, 45, .inl f)), (tn, .inl (cI, 45, .inl g_29)), (ln, .inl (cI, 8, .inl lf)), (mn, .inl (cI, 8, .inl sf)), (it, .inl (cI, 320, .inl tf))]) [2, 0, 1, 3, 4, 5] rfl
                    have hD9 := hD.sub (ws' := [(md, .inr (6, [.int 0, .int md_f1_20, .ref ln, .ref mn, .ref it, .ref hs, vm_6, .ref tn, vm_8, vm_9, vm_10, vm_11, vm_12, vm_13, vm_14, vm_15, vm_16, vm_17, vm_18, vm_19, vm_20, vm_21, vm_22, vm_23])), (hs, .inl (cI, 45, .inl f)), (tn, .inl (cI, 45, .inl g_29)), (ln, .inl (cI, 8, .inl lf)), (mn, .inl (cI, 8, .inl sf)), (it, .inl (cI, 320, .inl tf))]) [2, 0, 1, 3, 4, 5] (by decide) rfl
                    exact wt_iret hx hb hr hlocks hP9 hD9 hS ⟨g_29, md_f1_20, rfl, (hst_22.trans (fQ_k (frF_5 (by omega) c_3 c_7 c_11 c_15) (rs_m _ _ _ _) sv).symm)⟩ dX6_frosts_226
                | succ k ih71 =>
                  intro i_28 g_29 y_30 H locs ls hik  hP hD hS hl
                  refine lv_iload hx hb dX6_frosts_71 (lv_at hl 0 rfl) ?_
                  refine lv_bipush (v := 10) hx hb dX6_frosts_73 (by decide) ?_
                  refine lv_icmp_ge (tgt := 130) hx hb dX6_frosts_75 (by decide) (fun h => absurd h (nI_ge (a := i_28) (b := 10) (by omega) (by omega))) (fun _ => ?_)
                  refine lv_iload_n hx hb dX6_frosts_78 rfl (lv_at hl 5 rfl) ?_
                  refine lv_if_ne (tgt := 130) hx hb dX6_frosts_79 (by decide) (fun h => absurd h (by decide)) (fun _ => ?_)
                  refine lv_aload_n hx hb dX6_frosts_82 rfl (lv_at hl 3 rfl) ?_
                  refine wt_goV (wr := [(ln, .inl (cI, 8, .inl lf)), (mn, .inl (cI, 8, .inl sf)), (it, .inl (cI, 320, .inl tf))]) (wt_runV (As := []) (rest := []) ⟨hx, hb, hml, hown, hts⟩ (c_X6_layThen l D cI cZ cH md hs R T f tn g_29 (.int 0) (.int md_f1_20) (.ref ln) (.ref mn) (.ref it) vm_6 vm_8 vm_9 vm_10 vm_11 vm_12 vm_13 vm_14 vm_15 vm_16 vm_17 vm_18 vm_19 vm_20 vm_21 vm_22 vm_23 (by first | assumption | omega) (by first | assumption | omega) (by first | assumption | omega)) (cwV 0 hts gX6_frosts_X6_layThen rfl rfl rfl (by decide +kernel) ⟨Nat.le_of_ble_eq_true rfl, Nat.le_of_ble_eq_true rfl⟩) hK hP hD [2, 0, 1] rfl (by decide) (va_recv hK.1 hP (ci := 6) (q0 := 2) rfl rfl) rfl hl.1 rfl (Nat.le_of_ble_eq_true rfl) dX6_frosts_83 ⟨Nat.le_of_ble_eq_true rfl, Nat.le_of_ble_eq_true rfl⟩) hP hD hS hA [2, 0, 1] [3, 4, 5] rfl rfl (by decide) (by decide) (fun w_33 H locs h_34 hP hD hS => ?_)
                  obtain ⟨g2_35, rfl, x_36⟩ := h_34
                  have hP : va_P D vwCl [(ln, .inl (cI, 8, .inl lf)), (mn, .inl (cI, 8, .inl sf)), (it, .inl (cI, 320, .inl tf)), (md, .inr (6, [.int 0, .int md_f1_20, .ref ln, .ref mn, .ref it, .ref hs, vm_6, .ref tn, vm_8, vm_9, vm_10, vm_11, vm_12, vm_13, vm_14, vm_15, vm_16, vm_17, vm_18, vm_19, vm_20, vm_21, vm_22, vm_23])), (hs, .inl (cI, 45, .inl f)), (tn, .inl (cI, 45, .inl g2_35))] H := hP
                  have hD : va_D A [(ln, .inl (cI, 8, .inl lf)), (mn, .inl (cI, 8, .inl sf)), (it, .inl (cI, 320, .inl tf)), (md, .inr (6, [.int 0, .int md_f1_20, .ref ln, .ref mn, .ref it, .ref hs, vm_6, .ref tn, vm_8, vm_9, vm_10, vm_11, vm_12, vm_13, vm_14, vm_15, vm_16, vm_17, vm_18, vm_19, vm_20, vm_21, vm_22, vm_23])), (hs, .inl (cI, 45, .inl f)), (tn, .inl (cI, 45, .inl g2_35))] := hD
                  refine lv_aload_n hx hb dX6_frosts_86 rfl (lv_at hl 3 rfl) ?_
                  refine va_get (D := D) (ci := 6) (v := .ref tn) (C := RX6) (T := TX6) (N := 24) hx hb hts hi6 hown hK.1 hP 3 rfl rfl 7 (by decide) wf25 (fun _ h9 => h9) rfl dX6_frosts_87 ?_
                  refine lv_iconst (v := 2) hx hb dX6_frosts_90 (by decide) ?_
                  refine lv_iload hx hb dX6_frosts_91 (lv_at hl 0 rfl) ?_
                  refine va_iast hx hb hK.1 hP hD hS 5 0 rfl rfl (by rw [vp_in_iff]; decide) dX6_frosts_93 (fun H locs hP hD hS => ?_)
                  have hP : va_P D vwCl [(ln, .inl (cI, 8, .inl lf)), (mn, .inl (cI, 8, .inl sf)), (it, .inl (cI, 320, .inl tf)), (md, .inr (6, [.int 0, .int md_f1_20, .ref ln, .ref mn, .ref it, .ref hs, vm_6, .ref tn, vm_8, vm_9, vm_10, vm_11, vm_12, vm_13, vm_14, vm_15, vm_16, vm_17, vm_18, vm_19, vm_20, vm_21, vm_22, vm_23])), (hs, .inl (cI, 45, .inl f)), (tn, .inl (cI, 45, .inl (upd g2_35 (Int32.toNatClampNeg 2) (nI i_28))))] H := hP
                  have hD : va_D A [(ln, .inl (cI, 8, .inl lf)), (mn, .inl (cI, 8, .inl sf)), (it, .inl (cI, 320, .inl tf)), (md, .inr (6, [.int 0, .int md_f1_20, .ref ln, .ref mn, .ref it, .ref hs, vm_6, .ref tn, vm_8, vm_9, vm_10, vm_11, vm_12, vm_13, vm_14, vm_15, vm_16, vm_17, vm_18, vm_19, vm_20, vm_21, vm_22, vm_23])), (hs, .inl (cI, 45, .inl f)), (tn, .inl (cI, 45, .inl (upd g2_35 (Int32.toNatClampNeg 2) (nI i_28))))] := hD
                  have rk_37 : rk R T (upd g2_35 (Int32.toNatClampNeg 2) (nI i_28)) := rk_upd (k := 2) x_36 rfl (by omega) _
                  generalize upd g2_35 (Int32.toNatClampNeg 2) (nI i_28) = rf_38 at hP hD rk_37
                  refine lv_iload hx hb dX6_frosts_94 (lv_at hl 1 rfl) ?_
                  refine lv_aload_n hx hb dX6_frosts_96 rfl (lv_at hl 3 rfl) ?_
                  refine lv_iload_n hx hb dX6_frosts_97 rfl (lv_at hl 4 rfl) ?_
                  refine lv_bipush (v := 40) hx hb dX6_frosts_98 (by decide) ?_
                  refine lv_iload_n hx hb dX6_frosts_100 rfl (lv_at hl 6 rfl) ?_
                  refine lv_imul hx hb dX6_frosts_101 ?_
                  refine wt_top (z := nI (40 * j_12)) (pk_mul 40 j_12) ?_
                  refine lv_iload hx hb dX6_frosts_102 (lv_at hl 7 rfl) ?_
                  refine lv_iadd hx hb dX6_frosts_104 ?_
                  refine wt_top (z := nI ((40 * j_12) + i_25)) (nI_add (40 * j_12) i_25) ?_
                  refine lv_iload hx hb dX6_frosts_105 (lv_at hl 8 rfl) ?_
                  refine wt_goI (wr := [(ln, .inl (cI, 8, .inl lf)), (mn, .inl (cI, 8, .inl sf)), (hs, .inl (cI, 45, .inl f))]) (wt_runV (As := [.int (nI j_4), .int (nI ((40 * j_12) + i_25)), .int (nI j_16)]) (rest := [.int y_30]) ⟨hx, hb, hml, hown, hts⟩ (c_X6_warmSo l D cI cZ cH md tn it R T j_4 ((40 * j_12) + i_25) j_16 rf_38 tf (.int 0) (.int md_f1_20) (.ref ln) (.ref mn) (.ref hs) vm_6 vm_8 vm_9 vm_10 vm_11 vm_12 vm_13 vm_14 vm_15 vm_16 vm_17 vm_18 vm_19 vm_20 vm_21 vm_22 vm_23 (by first | assumption | omega) (by first | assumption | omega) (by first | assumption | omega) (by first | assumption | omega) (by first | assumption | omega) (by first | assumption | omega)) (cwV 3 hts gX6_frosts_X6_warmSo rfl rfl rfl (by decide +kernel) ⟨Nat.le_of_ble_eq_true rfl, Nat.le_of_ble_eq_true rfl⟩) hK hP hD [3, 5, 2] rfl (by decide) (va_recv hK.1 hP (ci := 6) (q0 := 3) rfl rfl) rfl hl.1 rfl (Nat.le_of_ble_eq_true rfl) dX6_frosts_107 ⟨Nat.le_of_ble_eq_true rfl, Nat.le_of_ble_eq_true rfl⟩) hP hD hS hA [3, 5, 2] [0, 1, 4] rfl rfl (by decide) (by decide) (fun r_39 w_40 H locs h_41 hP hD hS => ?_)
                  obtain ⟨g2_42, rfl⟩ := h_41
                  have hP : va_P D vwCl [(ln, .inl (cI, 8, .inl lf)), (mn, .inl (cI, 8, .inl sf)), (hs, .inl (cI, 45, .inl f)), (md, .inr (6, [.int 0, .int md_f1_20, .ref ln, .ref mn, .ref it, .ref hs, vm_6, .ref tn, vm_8, vm_9, vm_10, vm_11, vm_12, vm_13, vm_14, vm_15, vm_16, vm_17, vm_18, vm_19, vm_20, vm_21, vm_22, vm_23])), (tn, .inl (cI, 45, .inl g2_42)), (it, .inl (cI, 320, .inl tf))] H := hP
                  have hD : va_D A [(ln, .inl (cI, 8, .inl lf)), (mn, .inl (cI, 8, .inl sf)), (hs, .inl (cI, 45, .inl f)), (md, .inr (6, [.int 0, .int md_f1_20, .ref ln, .ref mn, .ref it, .ref hs, vm_6, .ref tn, vm_8, vm_9, vm_10, vm_11, vm_12, vm_13, vm_14, vm_15, vm_16, vm_17, vm_18, vm_19, vm_20, vm_21, vm_22, vm_23])), (tn, .inl (cI, 45, .inl g2_42)), (it, .inl (cI, 320, .inl tf))] := hD
                  refine lv_if_eq (tgt := 120) hx hb dX6_frosts_110 (by decide) (fun c_43 => ?_) (fun c_43 => ?_)
                  · skip
                    refine lv_iconst (v := 0) hx hb dX6_frosts_120 (by decide) ?_
                    refine lv_ior hx hb dX6_frosts_121 ?_
                    refine lv_topi (fun ov_44 _ => ?_)
                    refine lv_istore (lv' := [(7, .int ov_44), (8, .int (nI i_28)), (6, .int r_17), (0, .ref md), (1, .int (nI j_4)), (2, .int 0), (3, .int (nI j_12)), (4, .int (nI i_25)), (5, .int (nI j_16))]) hx hb dX6_frosts_122 hl (by decide) rfl (fun ls hl => ?_)
                    refine lv_iinc (v := nI (i_28 + 1)) (lv' := [(8, .int (nI (i_28 + 1))), (7, .int ov_44), (6, .int r_17), (0, .ref md), (1, .int (nI j_4)), (2, .int 0), (3, .int (nI j_12)), (4, .int (nI i_25)), (5, .int (nI j_16))]) hx hb dX6_frosts_124 hl (k := 1) rfl (nI_add i_28 1) (by decide) rfl (fun ls hl => ?_)
                    refine lv_goto (tgt := 71) hx hb dX6_frosts_127 (by decide) ?_
                    exact ih71 ((i_28 + 1)) g2_42 ov_44 H locs ls (by omega)  (hP.sub [2, 4, 3, 0, 1, 5] rfl) (hD.sub [2, 4, 3, 0, 1, 5] (by decide) rfl) hS (lv_sub hl [0, 1, 2, 3, 4, 5, 6, 7, 8] rfl)
                  · skip
                    refine lv_iconst (v := 1) hx hb dX6_frosts_113 (by decide) ?_
                    refine lv_iload hx hb dX6_frosts_114 (lv_at hl 0 rfl) ?_
                    refine lv_ishl hx hb dX6_frosts_116 ?_
                    refine wt_top (z := nI (2 ^ i_28)) (wt_shl1 (by omega)) ?_
                    refine lv_goto (tgt := 121) hx hb dX6_frosts_117 (by decide) ?_
                    refine lv_ior hx hb dX6_frosts_121 ?_
                    refine lv_topi (fun ov_45 _ => ?_)
                    refine lv_istore (lv' := [(7, .int ov_45), (8, .int (nI i_28)), (6, .int r_17), (0, .ref md), (1, .int (nI j_4)), (2, .int 0), (3, .int (nI j_12)), (4, .int (nI i_25)), (5, .int (nI j_16))]) hx hb dX6_frosts_122 hl (by decide) rfl (fun ls hl => ?_)
                    refine lv_iinc (v := nI (i_28 + 1)) (lv' := [(8, .int (nI (i_28 + 1))), (7, .int ov_45), (6, .int r_17), (0, .ref md), (1, .int (nI j_4)), (2, .int 0), (3, .int (nI j_12)), (4, .int (nI i_25)), (5, .int (nI j_16))]) hx hb dX6_frosts_124 hl (k := 1) rfl (nI_add i_28 1) (by decide) rfl (fun ls hl => ?_)
                    refine lv_goto (tgt := 71) hx hb dX6_frosts_127 (by decide) ?_
                    exact ih71 ((i_28 + 1)) g2_42 ov_45 H locs ls (by omega)  (hP.sub [2, 4, 3, 0, 1, 5] rfl) (hD.sub [2, 4, 3, 0, 1, 5] (by decide) rfl) hS (lv_sub hl [0, 1, 2, 3, 4, 5, 6, 7, 8] rfl)
              exact loop71 (10 - 0) (0) g 0 _ _ ls (by omega)  hP hD hS hl
            · skip
              subst hw0
              have hl : lv_has ls 9 [(6, .int r_17), (0, .ref md), (1, .int (nI j_4)), (2, .int 1), (3, .int (nI j_12)), (4, .int (nI i_25)), (5, .int (nI j_16))] := hl
              refine lv_iconst (v := 0) hx hb dX6_frosts_65 (by decide) ?_
              refine lv_istore (lv' := [(7, .int 0), (6, .int r_17), (0, .ref md), (1, .int (nI j_4)), (2, .int 1), (3, .int (nI j_12)), (4, .int (nI i_25)), (5, .int (nI j_16))]) hx hb dX6_frosts_66 hl (by decide) rfl (fun ls hl => ?_)
              refine lv_iconst (v := 0) hx hb dX6_frosts_68 (by decide) ?_
              refine lv_istore (lv' := [(8, .int 0), (7, .int 0), (6, .int r_17), (0, .ref md), (1, .int (nI j_4)), (2, .int 1), (3, .int (nI j_12)), (4, .int (nI i_25)), (5, .int (nI j_16))]) hx hb dX6_frosts_69 hl (by decide) rfl (fun ls hl => ?_)
              refine lv_iload hx hb dX6_frosts_71 (lv_at hl 0 rfl) ?_
              refine lv_bipush (v := 10) hx hb dX6_frosts_73 (by decide) ?_
              refine lv_icmp_ge (tgt := 130) hx hb dX6_frosts_75 (by decide) (fun h => absurd h (by decide)) (fun _ => ?_)
              refine lv_iload_n hx hb dX6_frosts_78 rfl (lv_at hl 5 rfl) ?_
              refine lv_if_ne (tgt := 130) hx hb dX6_frosts_79 (by decide) (fun _ => ?_) (fun h => absurd h (by decide))
              refine lv_iconst (v := 0) hx hb dX6_frosts_130 (by decide) ?_
              refine lv_istore (lv' := [(8, .int 0), (7, .int 0), (6, .int r_17), (0, .ref md), (1, .int (nI j_4)), (2, .int 1), (3, .int (nI j_12)), (4, .int (nI i_25)), (5, .int (nI j_16))]) hx hb dX6_frosts_131 hl (by decide) rfl (fun ls hl => ?_)
              have loop133 : ∀ (k i_46 : Nat) (g_47 : Nat → Int32) (y_48 : Int32) (H : Heap) (locs : List Loc) (ls : Array Slot), i_46 + k = T + 1 → va_P D vwCl [(hs, .inl (cI, 45, .inl f)), (tn, .inl (cI, 45, .inl g_47)), (md, .inr (6, [.int 0, .int md_f1_20, .ref ln, .ref mn, .ref it, .ref hs, vm_6, .ref tn, vm_8, vm_9, vm_10, vm_11, vm_12, vm_13, vm_14, vm_15, vm_16, vm_17, vm_18, vm_19, vm_20, vm_21, vm_22, vm_23])), (ln, .inl (cI, 8, .inl lf)), (mn, .inl (cI, 8, .inl sf)), (it, .inl (cI, 320, .inl tf))] H → va_D A [(hs, .inl (cI, 45, .inl f)), (tn, .inl (cI, 45, .inl g_47)), (md, .inr (6, [.int 0, .int md_f1_20, .ref ln, .ref mn, .ref it, .ref hs, vm_6, .ref tn, vm_8, vm_9, vm_10, vm_11, vm_12, vm_13, vm_14, vm_15, vm_16, vm_17, vm_18, vm_19, vm_20, vm_21, vm_22, vm_23])), (ln, .inl (cI, 8, .inl lf)), (mn, .inl (cI, 8, .inl sf)), (it, .inl (cI, 320, .inl tf))] → va_S A s.heap H locs → lv_has ls 9 [(8, .int (nI i_46)), (7, .int y_48), (6, .int r_17), (0, .ref md), (1, .int (nI j_4)), (2, .int 1), (3, .int (nI j_12)), (4, .int (nI i_25)), (5, .int (nI j_16))] → W p l e ({ frames := 5, cells := 0, slots := 0, locals := 116 } : Room) s m ([.ref md, .int (nI j_4), .int (nI 1), .int (nI j_12), .int (nI i_25), .int (nI j_16)] : List Value).toArray below meth c H locs 0 0 (MQ below (wt_QI D (fun r w => ∃ (g2 : Nat → Int32) (md_f1 : Int32), w = [(md, .inr (6, [.int 0, .int md_f1, .ref ln, .ref mn, .ref it, .ref hs, vm_6, .ref tn, vm_8, vm_9, vm_10, vm_11, vm_12, vm_13, vm_14, vm_15, vm_16, vm_17, vm_18, vm_19, vm_20, vm_21, vm_22, vm_23])), (hs, .inl (cI, 45, .inl f)), (tn, .inl (cI, 45, .inl g2)), (ln, .inl (cI, 8, .inl lf)), (mn, .inl (cI, 8, .inl sf)), (it, .inl (cI, 320, .inl tf))] ∧ md_f1 = fQ (frF R lf sf (nI j_4) (nI 1) (nI j_12) (nI i_25) (nI j_16)) sv) A) ([.ref md, .int (nI j_4), .int (nI 1), .int (nI j_12), .int (nI i_25), .int (nI j_16)] : List Value).toArray s 0 0 A) (F0 m 133 ls []) := by
                intro k
                induction k with
                | zero =>
                  intro i_46 g_47 y_48 H locs ls hik  hP hD hS hl
                  refine lv_iload hx hb dX6_frosts_133 (lv_at hl 0 rfl) ?_
                  refine lv_aload_n hx hb dX6_frosts_135 rfl (lv_at hl 3 rfl) ?_
                  refine va_get (D := D) (ci := 6) (v := .ref hs) (C := RX6) (T := TX6) (N := 24) hx hb hts hi6 hown hK.1 hP 2 rfl rfl 5 (by decide) wf19 (fun _ h9 => h9) rfl dX6_frosts_136 ?_
                  refine lv_iconst (v := 1) hx hb dX6_frosts_139 (by decide) ?_
                  refine va_iald hx hb hK.1 hP 0 0 rfl rfl (by rw [vp_in_iff]; decide) dX6_frosts_140 ?_
                  refine wt_top (z := nI T) (hrk.2.1) ?_
                  refine lv_icmp_gt (tgt := 224) hx hb dX6_frosts_141 (by decide) (fun _ => ?_) (fun h => absurd (nI_lt (a := T) (b := i_46) (by omega) (by omega)) h)
                  refine lv_iload hx hb dX6_frosts_224 (lv_at hl 1 rfl) ?_
                  have hP9 := hP.sub (ws' := [(md, .inr (6, [.int 0, .int md_f1_20, .ref ln, .ref mn, .ref it, .ref hs, vm_6, .ref tn, vm_8, vm_9, vm_10, vm_11, vm_12, vm_13, vm_14, vm_15, vm_16, vm_17, vm_18, vm_19, vm_20, vm_21, vm_22, vm_23])), (hs, .inl (cI, 45, .inl f)), (tn, .inl (cI, 45, .inl g_47)), (ln, .inl (cI, 8, .inl lf)), (mn, .inl (cI, 8, .inl sf)), (it, .inl (cI, 320, .inl tf))]) [2, 0, 1, 3, 4, 5] rfl
                  have hD9 := hD.sub (ws' := [(md, .inr (6, [.int 0, .int md_f1_20, .ref ln, .ref mn, .ref it, .ref hs, vm_6, .ref tn, vm_8, vm_9, vm_10, vm_11, vm_12, vm_13, vm_14, vm_15, vm_16, vm_17, vm_18, vm_19, vm_20, vm_21, vm_22, vm_23])), (hs, .inl (cI, 45, .inl f)), (tn, .inl (cI, 45, .inl g_47)), (ln, .inl (cI, 8, .inl lf)), (mn, .inl (cI, 8, .inl sf)), (it, .inl (cI, 320, .inl tf))]) [2, 0, 1, 3, 4, 5] (by decide) rfl
                  exact wt_iret hx hb hr hlocks hP9 hD9 hS ⟨g_47, md_f1_20, rfl, (hst_22.trans (fQ_k (frF_5 (by omega) c_3 c_7 c_11 c_15) (rs_m _ _ _ _) sv).symm)⟩ dX6_frosts_226
                | succ k ih133 =>
                  intro i_46 g_47 y_48 H locs ls hik  hP hD hS hl
                  refine lv_iload hx hb dX6_frosts_133 (lv_at hl 0 rfl) ?_
                  refine lv_aload_n hx hb dX6_frosts_135 rfl (lv_at hl 3 rfl) ?_
                  refine va_get (D := D) (ci := 6) (v := .ref hs) (C := RX6) (T := TX6) (N := 24) hx hb hts hi6 hown hK.1 hP 2 rfl rfl 5 (by decide) wf19 (fun _ h9 => h9) rfl dX6_frosts_136 ?_
                  refine lv_iconst (v := 1) hx hb dX6_frosts_139 (by decide) ?_
                  refine va_iald hx hb hK.1 hP 0 0 rfl rfl (by rw [vp_in_iff]; decide) dX6_frosts_140 ?_
                  refine wt_top (z := nI T) (hrk.2.1) ?_
                  refine lv_icmp_gt (tgt := 224) hx hb dX6_frosts_141 (by decide) (fun h => absurd h (nI_nlt (a := T) (b := i_46) (by omega) (by omega))) (fun _ => ?_)
                  refine lv_iload_n hx hb dX6_frosts_144 rfl (lv_at hl 5 rfl) ?_
                  refine lv_iconst (v := 1) hx hb dX6_frosts_145 (by decide) ?_
                  refine lv_icmp_ne (tgt := 224) hx hb dX6_frosts_146 (by decide) (fun h => absurd h (by decide)) (fun _ => ?_)
                  refine lv_aload_n hx hb dX6_frosts_149 rfl (lv_at hl 3 rfl) ?_
                  refine lv_iload hx hb dX6_frosts_150 (lv_at hl 0 rfl) ?_
                  refine lv_aload_n hx hb dX6_frosts_152 rfl (lv_at hl 3 rfl) ?_
                  refine va_get (D := D) (ci := 6) (v := .ref hs) (C := RX6) (T := TX6) (N := 24) hx hb hts hi6 hown hK.1 hP 2 rfl rfl 5 (by decide) wf19 (fun _ h9 => h9) rfl dX6_frosts_153 ?_
                  refine lv_iconst (v := 1) hx hb dX6_frosts_156 (by decide) ?_
                  refine va_iald hx hb hK.1 hP 0 0 rfl rfl (by rw [vp_in_iff]; decide) dX6_frosts_157 ?_
                  refine wt_top (z := nI T) (hrk.2.1) ?_
                  refine lv_icmp_ge (tgt := 168) hx hb dX6_frosts_158 (by decide) (fun c_49 => ?_) (fun c_49 => ?_)
                  · skip
                    have c_49 : T ≤ i_46 := (nI_leI (a := T) (b := i_46) (by omega) (by omega)).mp c_49
                    refine lv_iconst (v := 0) hx hb dX6_frosts_168 (by decide) ?_
                    refine wt_goV (wr := [(ln, .inl (cI, 8, .inl lf)), (mn, .inl (cI, 8, .inl sf)), (it, .inl (cI, 320, .inl tf))]) (wt_runV (As := [.int 0]) (rest := []) ⟨hx, hb, hml, hown, hts⟩ (c_X6_layShaken l D cI cZ cH md hs R T f tn g_47 0 (.int 0) (.int md_f1_20) (.ref ln) (.ref mn) (.ref it) vm_6 vm_8 vm_9 vm_10 vm_11 vm_12 vm_13 vm_14 vm_15 vm_16 vm_17 vm_18 vm_19 vm_20 vm_21 vm_22 vm_23 (by first | assumption | omega) (by first | assumption | omega) (by first | assumption | omega)) (cwV 1 hts gX6_frosts_X6_layShaken rfl rfl rfl (by decide +kernel) ⟨Nat.le_of_ble_eq_true rfl, Nat.le_of_ble_eq_true rfl⟩) hK hP hD [2, 0, 1] rfl (by decide) (va_recv hK.1 hP (ci := 6) (q0 := 2) rfl rfl) rfl hl.1 rfl (Nat.le_of_ble_eq_true rfl) dX6_frosts_169 ⟨Nat.le_of_ble_eq_true rfl, Nat.le_of_ble_eq_true rfl⟩) hP hD hS hA [2, 0, 1] [3, 4, 5] rfl rfl (by decide) (by decide) (fun w_51 H locs h_52 hP hD hS => ?_)
                    obtain ⟨g2_53, rfl, x_54⟩ := h_52
                    have hP : va_P D vwCl [(ln, .inl (cI, 8, .inl lf)), (mn, .inl (cI, 8, .inl sf)), (it, .inl (cI, 320, .inl tf)), (md, .inr (6, [.int 0, .int md_f1_20, .ref ln, .ref mn, .ref it, .ref hs, vm_6, .ref tn, vm_8, vm_9, vm_10, vm_11, vm_12, vm_13, vm_14, vm_15, vm_16, vm_17, vm_18, vm_19, vm_20, vm_21, vm_22, vm_23])), (hs, .inl (cI, 45, .inl f)), (tn, .inl (cI, 45, .inl g2_53))] H := hP
                    have hD : va_D A [(ln, .inl (cI, 8, .inl lf)), (mn, .inl (cI, 8, .inl sf)), (it, .inl (cI, 320, .inl tf)), (md, .inr (6, [.int 0, .int md_f1_20, .ref ln, .ref mn, .ref it, .ref hs, vm_6, .ref tn, vm_8, vm_9, vm_10, vm_11, vm_12, vm_13, vm_14, vm_15, vm_16, vm_17, vm_18, vm_19, vm_20, vm_21, vm_22, vm_23])), (hs, .inl (cI, 45, .inl f)), (tn, .inl (cI, 45, .inl g2_53))] := hD
                    refine lv_iload hx hb dX6_frosts_172 (lv_at hl 1 rfl) ?_
                    refine lv_aload_n hx hb dX6_frosts_174 rfl (lv_at hl 3 rfl) ?_
                    refine lv_iload_n hx hb dX6_frosts_175 rfl (lv_at hl 4 rfl) ?_
                    refine lv_bipush (v := 40) hx hb dX6_frosts_176 (by decide) ?_
                    refine lv_iload_n hx hb dX6_frosts_178 rfl (lv_at hl 6 rfl) ?_
                    refine lv_imul hx hb dX6_frosts_179 ?_
                    refine wt_top (z := nI (40 * j_12)) (pk_mul 40 j_12) ?_
                    refine lv_iload hx hb dX6_frosts_180 (lv_at hl 7 rfl) ?_
                    refine lv_iadd hx hb dX6_frosts_182 ?_
                    refine wt_top (z := nI ((40 * j_12) + i_25)) (nI_add (40 * j_12) i_25) ?_
                    refine lv_iload hx hb dX6_frosts_183 (lv_at hl 8 rfl) ?_
                    refine wt_goI (wr := [(ln, .inl (cI, 8, .inl lf)), (mn, .inl (cI, 8, .inl sf)), (hs, .inl (cI, 45, .inl f))]) (wt_runV (As := [.int (nI j_4), .int (nI ((40 * j_12) + i_25)), .int (nI j_16)]) (rest := [.int y_48]) ⟨hx, hb, hml, hown, hts⟩ (c_X6_warmSo l D cI cZ cH md tn it R T j_4 ((40 * j_12) + i_25) j_16 g2_53 tf (.int 0) (.int md_f1_20) (.ref ln) (.ref mn) (.ref hs) vm_6 vm_8 vm_9 vm_10 vm_11 vm_12 vm_13 vm_14 vm_15 vm_16 vm_17 vm_18 vm_19 vm_20 vm_21 vm_22 vm_23 (by first | assumption | omega) (by first | assumption | omega) (by first | assumption | omega) (by first | assumption | omega) (by first | assumption | omega) (by first | assumption | omega)) (cwV 3 hts gX6_frosts_X6_warmSo rfl rfl rfl (by decide +kernel) ⟨Nat.le_of_ble_eq_true rfl, Nat.le_of_ble_eq_true rfl⟩) hK hP hD [3, 5, 2] rfl (by decide) (va_recv hK.1 hP (ci := 6) (q0 := 3) rfl rfl) rfl hl.1 rfl (Nat.le_of_ble_eq_true rfl) dX6_frosts_185 ⟨Nat.le_of_ble_eq_true rfl, Nat.le_of_ble_eq_true rfl⟩) hP hD hS hA [3, 5, 2] [0, 1, 4] rfl rfl (by decide) (by decide) (fun r_55 w_56 H locs h_57 hP hD hS => ?_)
                    obtain ⟨g2_58, rfl⟩ := h_57
                    have hP : va_P D vwCl [(ln, .inl (cI, 8, .inl lf)), (mn, .inl (cI, 8, .inl sf)), (hs, .inl (cI, 45, .inl f)), (md, .inr (6, [.int 0, .int md_f1_20, .ref ln, .ref mn, .ref it, .ref hs, vm_6, .ref tn, vm_8, vm_9, vm_10, vm_11, vm_12, vm_13, vm_14, vm_15, vm_16, vm_17, vm_18, vm_19, vm_20, vm_21, vm_22, vm_23])), (tn, .inl (cI, 45, .inl g2_58)), (it, .inl (cI, 320, .inl tf))] H := hP
                    have hD : va_D A [(ln, .inl (cI, 8, .inl lf)), (mn, .inl (cI, 8, .inl sf)), (hs, .inl (cI, 45, .inl f)), (md, .inr (6, [.int 0, .int md_f1_20, .ref ln, .ref mn, .ref it, .ref hs, vm_6, .ref tn, vm_8, vm_9, vm_10, vm_11, vm_12, vm_13, vm_14, vm_15, vm_16, vm_17, vm_18, vm_19, vm_20, vm_21, vm_22, vm_23])), (tn, .inl (cI, 45, .inl g2_58)), (it, .inl (cI, 320, .inl tf))] := hD
                    refine lv_if_eq (tgt := 214) hx hb dX6_frosts_188 (by decide) (fun c_59 => ?_) (fun c_59 => ?_)
                    · skip
                      refine lv_iconst (v := 0) hx hb dX6_frosts_214 (by decide) ?_
                      refine lv_ior hx hb dX6_frosts_215 ?_
                      refine lv_topi (fun ov_60 _ => ?_)
                      refine lv_istore (lv' := [(7, .int ov_60), (8, .int (nI i_46)), (6, .int r_17), (0, .ref md), (1, .int (nI j_4)), (2, .int 1), (3, .int (nI j_12)), (4, .int (nI i_25)), (5, .int (nI j_16))]) hx hb dX6_frosts_216 hl (by decide) rfl (fun ls hl => ?_)
                      refine lv_iinc (v := nI (i_46 + 1)) (lv' := [(8, .int (nI (i_46 + 1))), (7, .int ov_60), (6, .int r_17), (0, .ref md), (1, .int (nI j_4)), (2, .int 1), (3, .int (nI j_12)), (4, .int (nI i_25)), (5, .int (nI j_16))]) hx hb dX6_frosts_218 hl (k := 1) rfl (nI_add i_46 1) (by decide) rfl (fun ls hl => ?_)
                      refine lv_goto (tgt := 133) hx hb dX6_frosts_221 (by decide) ?_
                      exact ih133 ((i_46 + 1)) g2_58 ov_60 H locs ls (by omega)  (hP.sub [2, 4, 3, 0, 1, 5] rfl) (hD.sub [2, 4, 3, 0, 1, 5] (by decide) rfl) hS (lv_sub hl [0, 1, 2, 3, 4, 5, 6, 7, 8] rfl)
                    · skip
                      refine lv_iload hx hb dX6_frosts_191 (lv_at hl 0 rfl) ?_
                      refine lv_aload_n hx hb dX6_frosts_193 rfl (lv_at hl 3 rfl) ?_
                      refine va_get (D := D) (ci := 6) (v := .ref hs) (C := RX6) (T := TX6) (N := 24) hx hb hts hi6 hown hK.1 hP 3 rfl rfl 5 (by decide) wf19 (fun _ h9 => h9) rfl dX6_frosts_194 ?_
                      refine lv_iconst (v := 1) hx hb dX6_frosts_197 (by decide) ?_
                      refine va_iald hx hb hK.1 hP 2 0 rfl rfl (by rw [vp_in_iff]; decide) dX6_frosts_198 ?_
                      refine wt_top (z := nI T) (hrk.2.1) ?_
                      refine lv_icmp_ge (tgt := 209) hx hb dX6_frosts_199 (by decide) (fun c_61 => ?_) (fun c_61 => ?_)
                      · skip
                        have c_61 : T ≤ i_46 := (nI_leI (a := T) (b := i_46) (by omega) (by omega)).mp c_61
                        refine lv_bipush (v := 64) hx hb dX6_frosts_209 (by decide) ?_
                        refine lv_goto (tgt := 215) hx hb dX6_frosts_211 (by decide) ?_
                        refine lv_ior hx hb dX6_frosts_215 ?_
                        refine lv_topi (fun ov_62 _ => ?_)
                        refine lv_istore (lv' := [(7, .int ov_62), (8, .int (nI i_46)), (6, .int r_17), (0, .ref md), (1, .int (nI j_4)), (2, .int 1), (3, .int (nI j_12)), (4, .int (nI i_25)), (5, .int (nI j_16))]) hx hb dX6_frosts_216 hl (by decide) rfl (fun ls hl => ?_)
                        refine lv_iinc (v := nI (i_46 + 1)) (lv' := [(8, .int (nI (i_46 + 1))), (7, .int ov_62), (6, .int r_17), (0, .ref md), (1, .int (nI j_4)), (2, .int 1), (3, .int (nI j_12)), (4, .int (nI i_25)), (5, .int (nI j_16))]) hx hb dX6_frosts_218 hl (k := 1) rfl (nI_add i_46 1) (by decide) rfl (fun ls hl => ?_)
                        refine lv_goto (tgt := 133) hx hb dX6_frosts_221 (by decide) ?_
                        exact ih133 ((i_46 + 1)) g2_58 ov_62 H locs ls (by omega)  (hP.sub [2, 4, 3, 0, 1, 5] rfl) (hD.sub [2, 4, 3, 0, 1, 5] (by decide) rfl) hS (lv_sub hl [0, 1, 2, 3, 4, 5, 6, 7, 8] rfl)
                      · skip
                        have c_61 : ¬ (T ≤ i_46) := fun h => c_61 ((nI_leI (a := T) (b := i_46) (by omega) (by omega)).mpr h)
                        refine lv_iconst (v := 1) hx hb dX6_frosts_202 (by decide) ?_
                        refine lv_iload hx hb dX6_frosts_203 (lv_at hl 0 rfl) ?_
                        refine lv_ishl hx hb dX6_frosts_205 ?_
                        refine wt_top (z := nI (2 ^ i_46)) (wt_shl1 (by omega)) ?_
                        refine lv_goto (tgt := 215) hx hb dX6_frosts_206 (by decide) ?_
                        refine lv_ior hx hb dX6_frosts_215 ?_
                        refine lv_topi (fun ov_63 _ => ?_)
                        refine lv_istore (lv' := [(7, .int ov_63), (8, .int (nI i_46)), (6, .int r_17), (0, .ref md), (1, .int (nI j_4)), (2, .int 1), (3, .int (nI j_12)), (4, .int (nI i_25)), (5, .int (nI j_16))]) hx hb dX6_frosts_216 hl (by decide) rfl (fun ls hl => ?_)
                        refine lv_iinc (v := nI (i_46 + 1)) (lv' := [(8, .int (nI (i_46 + 1))), (7, .int ov_63), (6, .int r_17), (0, .ref md), (1, .int (nI j_4)), (2, .int 1), (3, .int (nI j_12)), (4, .int (nI i_25)), (5, .int (nI j_16))]) hx hb dX6_frosts_218 hl (k := 1) rfl (nI_add i_46 1) (by decide) rfl (fun ls hl => ?_)
                        refine lv_goto (tgt := 133) hx hb dX6_frosts_221 (by decide) ?_
                        exact ih133 ((i_46 + 1)) g2_58 ov_63 H locs ls (by omega)  (hP.sub [2, 4, 3, 0, 1, 5] rfl) (hD.sub [2, 4, 3, 0, 1, 5] (by decide) rfl) hS (lv_sub hl [0, 1, 2, 3, 4, 5, 6, 7, 8] rfl)
                  · skip
                    have c_49 : ¬ (T ≤ i_46) := fun h => c_49 ((nI_leI (a := T) (b := i_46) (by omega) (by omega)).mpr h)
                    refine lv_iconst (v := 1) hx hb dX6_frosts_161 (by decide) ?_
                    refine lv_iload hx hb dX6_frosts_162 (lv_at hl 0 rfl) ?_
                    refine lv_ishl hx hb dX6_frosts_164 ?_
                    refine wt_top (z := nI (2 ^ i_46)) (wt_shl1 (by omega)) ?_
                    refine lv_goto (tgt := 169) hx hb dX6_frosts_165 (by decide) ?_
                    refine wt_goV (wr := [(ln, .inl (cI, 8, .inl lf)), (mn, .inl (cI, 8, .inl sf)), (it, .inl (cI, 320, .inl tf))]) (wt_runV (As := [.int (nI (2 ^ i_46))]) (rest := []) ⟨hx, hb, hml, hown, hts⟩ (c_X6_layShaken l D cI cZ cH md hs R T f tn g_47 (nI (2 ^ i_46)) (.int 0) (.int md_f1_20) (.ref ln) (.ref mn) (.ref it) vm_6 vm_8 vm_9 vm_10 vm_11 vm_12 vm_13 vm_14 vm_15 vm_16 vm_17 vm_18 vm_19 vm_20 vm_21 vm_22 vm_23 (by first | assumption | omega) (by first | assumption | omega) (by first | assumption | omega)) (cwV 1 hts gX6_frosts_X6_layShaken rfl rfl rfl (by decide +kernel) ⟨Nat.le_of_ble_eq_true rfl, Nat.le_of_ble_eq_true rfl⟩) hK hP hD [2, 0, 1] rfl (by decide) (va_recv hK.1 hP (ci := 6) (q0 := 2) rfl rfl) rfl hl.1 rfl (Nat.le_of_ble_eq_true rfl) dX6_frosts_169 ⟨Nat.le_of_ble_eq_true rfl, Nat.le_of_ble_eq_true rfl⟩) hP hD hS hA [2, 0, 1] [3, 4, 5] rfl rfl (by decide) (by decide) (fun w_65 H locs h_66 hP hD hS => ?_)
                    obtain ⟨g2_67, rfl, x_68⟩ := h_66
                    have hP : va_P D vwCl [(ln, .inl (cI, 8, .inl lf)), (mn, .inl (cI, 8, .inl sf)), (it, .inl (cI, 320, .inl tf)), (md, .inr (6, [.int 0, .int md_f1_20, .ref ln, .ref mn, .ref it, .ref hs, vm_6, .ref tn, vm_8, vm_9, vm_10, vm_11, vm_12, vm_13, vm_14, vm_15, vm_16, vm_17, vm_18, vm_19, vm_20, vm_21, vm_22, vm_23])), (hs, .inl (cI, 45, .inl f)), (tn, .inl (cI, 45, .inl g2_67))] H := hP
                    have hD : va_D A [(ln, .inl (cI, 8, .inl lf)), (mn, .inl (cI, 8, .inl sf)), (it, .inl (cI, 320, .inl tf)), (md, .inr (6, [.int 0, .int md_f1_20, .ref ln, .ref mn, .ref it, .ref hs, vm_6, .ref tn, vm_8, vm_9, vm_10, vm_11, vm_12, vm_13, vm_14, vm_15, vm_16, vm_17, vm_18, vm_19, vm_20, vm_21, vm_22, vm_23])), (hs, .inl (cI, 45, .inl f)), (tn, .inl (cI, 45, .inl g2_67))] := hD
                    refine lv_iload hx hb dX6_frosts_172 (lv_at hl 1 rfl) ?_
                    refine lv_aload_n hx hb dX6_frosts_174 rfl (lv_at hl 3 rfl) ?_
                    refine lv_iload_n hx hb dX6_frosts_175 rfl (lv_at hl 4 rfl) ?_
                    refine lv_bipush (v := 40) hx hb dX6_frosts_176 (by decide) ?_
                    refine lv_iload_n hx hb dX6_frosts_178 rfl (lv_at hl 6 rfl) ?_
                    refine lv_imul hx hb dX6_frosts_179 ?_
                    refine wt_top (z := nI (40 * j_12)) (pk_mul 40 j_12) ?_
                    refine lv_iload hx hb dX6_frosts_180 (lv_at hl 7 rfl) ?_
                    refine lv_iadd hx hb dX6_frosts_182 ?_
                    refine wt_top (z := nI ((40 * j_12) + i_25)) (nI_add (40 * j_12) i_25) ?_
                    refine lv_iload hx hb dX6_frosts_183 (lv_at hl 8 rfl) ?_
                    refine wt_goI (wr := [(ln, .inl (cI, 8, .inl lf)), (mn, .inl (cI, 8, .inl sf)), (hs, .inl (cI, 45, .inl f))]) (wt_runV (As := [.int (nI j_4), .int (nI ((40 * j_12) + i_25)), .int (nI j_16)]) (rest := [.int y_48]) ⟨hx, hb, hml, hown, hts⟩ (c_X6_warmSo l D cI cZ cH md tn it R T j_4 ((40 * j_12) + i_25) j_16 g2_67 tf (.int 0) (.int md_f1_20) (.ref ln) (.ref mn) (.ref hs) vm_6 vm_8 vm_9 vm_10 vm_11 vm_12 vm_13 vm_14 vm_15 vm_16 vm_17 vm_18 vm_19 vm_20 vm_21 vm_22 vm_23 (by first | assumption | omega) (by first | assumption | omega) (by first | assumption | omega) (by first | assumption | omega) (by first | assumption | omega) (by first | assumption | omega)) (cwV 3 hts gX6_frosts_X6_warmSo rfl rfl rfl (by decide +kernel) ⟨Nat.le_of_ble_eq_true rfl, Nat.le_of_ble_eq_true rfl⟩) hK hP hD [3, 5, 2] rfl (by decide) (va_recv hK.1 hP (ci := 6) (q0 := 3) rfl rfl) rfl hl.1 rfl (Nat.le_of_ble_eq_true rfl) dX6_frosts_185 ⟨Nat.le_of_ble_eq_true rfl, Nat.le_of_ble_eq_true rfl⟩) hP hD hS hA [3, 5, 2] [0, 1, 4] rfl rfl (by decide) (by decide) (fun r_69 w_70 H locs h_71 hP hD hS => ?_)
                    obtain ⟨g2_72, rfl⟩ := h_71
                    have hP : va_P D vwCl [(ln, .inl (cI, 8, .inl lf)), (mn, .inl (cI, 8, .inl sf)), (hs, .inl (cI, 45, .inl f)), (md, .inr (6, [.int 0, .int md_f1_20, .ref ln, .ref mn, .ref it, .ref hs, vm_6, .ref tn, vm_8, vm_9, vm_10, vm_11, vm_12, vm_13, vm_14, vm_15, vm_16, vm_17, vm_18, vm_19, vm_20, vm_21, vm_22, vm_23])), (tn, .inl (cI, 45, .inl g2_72)), (it, .inl (cI, 320, .inl tf))] H := hP
                    have hD : va_D A [(ln, .inl (cI, 8, .inl lf)), (mn, .inl (cI, 8, .inl sf)), (hs, .inl (cI, 45, .inl f)), (md, .inr (6, [.int 0, .int md_f1_20, .ref ln, .ref mn, .ref it, .ref hs, vm_6, .ref tn, vm_8, vm_9, vm_10, vm_11, vm_12, vm_13, vm_14, vm_15, vm_16, vm_17, vm_18, vm_19, vm_20, vm_21, vm_22, vm_23])), (tn, .inl (cI, 45, .inl g2_72)), (it, .inl (cI, 320, .inl tf))] := hD
                    refine lv_if_eq (tgt := 214) hx hb dX6_frosts_188 (by decide) (fun c_73 => ?_) (fun c_73 => ?_)
                    · skip
                      refine lv_iconst (v := 0) hx hb dX6_frosts_214 (by decide) ?_
                      refine lv_ior hx hb dX6_frosts_215 ?_
                      refine lv_topi (fun ov_74 _ => ?_)
                      refine lv_istore (lv' := [(7, .int ov_74), (8, .int (nI i_46)), (6, .int r_17), (0, .ref md), (1, .int (nI j_4)), (2, .int 1), (3, .int (nI j_12)), (4, .int (nI i_25)), (5, .int (nI j_16))]) hx hb dX6_frosts_216 hl (by decide) rfl (fun ls hl => ?_)
                      refine lv_iinc (v := nI (i_46 + 1)) (lv' := [(8, .int (nI (i_46 + 1))), (7, .int ov_74), (6, .int r_17), (0, .ref md), (1, .int (nI j_4)), (2, .int 1), (3, .int (nI j_12)), (4, .int (nI i_25)), (5, .int (nI j_16))]) hx hb dX6_frosts_218 hl (k := 1) rfl (nI_add i_46 1) (by decide) rfl (fun ls hl => ?_)
                      refine lv_goto (tgt := 133) hx hb dX6_frosts_221 (by decide) ?_
                      exact ih133 ((i_46 + 1)) g2_72 ov_74 H locs ls (by omega)  (hP.sub [2, 4, 3, 0, 1, 5] rfl) (hD.sub [2, 4, 3, 0, 1, 5] (by decide) rfl) hS (lv_sub hl [0, 1, 2, 3, 4, 5, 6, 7, 8] rfl)
                    · skip
                      refine lv_iload hx hb dX6_frosts_191 (lv_at hl 0 rfl) ?_
                      refine lv_aload_n hx hb dX6_frosts_193 rfl (lv_at hl 3 rfl) ?_
                      refine va_get (D := D) (ci := 6) (v := .ref hs) (C := RX6) (T := TX6) (N := 24) hx hb hts hi6 hown hK.1 hP 3 rfl rfl 5 (by decide) wf19 (fun _ h9 => h9) rfl dX6_frosts_194 ?_
                      refine lv_iconst (v := 1) hx hb dX6_frosts_197 (by decide) ?_
                      refine va_iald hx hb hK.1 hP 2 0 rfl rfl (by rw [vp_in_iff]; decide) dX6_frosts_198 ?_
                      refine wt_top (z := nI T) (hrk.2.1) ?_
                      refine lv_icmp_ge (tgt := 209) hx hb dX6_frosts_199 (by decide) (fun c_75 => ?_) (fun c_75 => ?_)
                      · skip
                        have c_75 : T ≤ i_46 := (nI_leI (a := T) (b := i_46) (by omega) (by omega)).mp c_75
                        refine lv_bipush (v := 64) hx hb dX6_frosts_209 (by decide) ?_
                        refine lv_goto (tgt := 215) hx hb dX6_frosts_211 (by decide) ?_
                        refine lv_ior hx hb dX6_frosts_215 ?_
                        refine lv_topi (fun ov_76 _ => ?_)
                        refine lv_istore (lv' := [(7, .int ov_76), (8, .int (nI i_46)), (6, .int r_17), (0, .ref md), (1, .int (nI j_4)), (2, .int 1), (3, .int (nI j_12)), (4, .int (nI i_25)), (5, .int (nI j_16))]) hx hb dX6_frosts_216 hl (by decide) rfl (fun ls hl => ?_)
                        refine lv_iinc (v := nI (i_46 + 1)) (lv' := [(8, .int (nI (i_46 + 1))), (7, .int ov_76), (6, .int r_17), (0, .ref md), (1, .int (nI j_4)), (2, .int 1), (3, .int (nI j_12)), (4, .int (nI i_25)), (5, .int (nI j_16))]) hx hb dX6_frosts_218 hl (k := 1) rfl (nI_add i_46 1) (by decide) rfl (fun ls hl => ?_)
                        refine lv_goto (tgt := 133) hx hb dX6_frosts_221 (by decide) ?_
                        exact ih133 ((i_46 + 1)) g2_72 ov_76 H locs ls (by omega)  (hP.sub [2, 4, 3, 0, 1, 5] rfl) (hD.sub [2, 4, 3, 0, 1, 5] (by decide) rfl) hS (lv_sub hl [0, 1, 2, 3, 4, 5, 6, 7, 8] rfl)
                      · skip
                        have c_75 : ¬ (T ≤ i_46) := fun h => c_75 ((nI_leI (a := T) (b := i_46) (by omega) (by omega)).mpr h)
                        refine lv_iconst (v := 1) hx hb dX6_frosts_202 (by decide) ?_
                        refine lv_iload hx hb dX6_frosts_203 (lv_at hl 0 rfl) ?_
                        refine lv_ishl hx hb dX6_frosts_205 ?_
                        refine wt_top (z := nI (2 ^ i_46)) (wt_shl1 (by omega)) ?_
                        refine lv_goto (tgt := 215) hx hb dX6_frosts_206 (by decide) ?_
                        refine lv_ior hx hb dX6_frosts_215 ?_
                        refine lv_topi (fun ov_77 _ => ?_)
                        refine lv_istore (lv' := [(7, .int ov_77), (8, .int (nI i_46)), (6, .int r_17), (0, .ref md), (1, .int (nI j_4)), (2, .int 1), (3, .int (nI j_12)), (4, .int (nI i_25)), (5, .int (nI j_16))]) hx hb dX6_frosts_216 hl (by decide) rfl (fun ls hl => ?_)
                        refine lv_iinc (v := nI (i_46 + 1)) (lv' := [(8, .int (nI (i_46 + 1))), (7, .int ov_77), (6, .int r_17), (0, .ref md), (1, .int (nI j_4)), (2, .int 1), (3, .int (nI j_12)), (4, .int (nI i_25)), (5, .int (nI j_16))]) hx hb dX6_frosts_218 hl (k := 1) rfl (nI_add i_46 1) (by decide) rfl (fun ls hl => ?_)
                        refine lv_goto (tgt := 133) hx hb dX6_frosts_221 (by decide) ?_
                        exact ih133 ((i_46 + 1)) g2_72 ov_77 H locs ls (by omega)  (hP.sub [2, 4, 3, 0, 1, 5] rfl) (hD.sub [2, 4, 3, 0, 1, 5] (by decide) rfl) hS (lv_sub hl [0, 1, 2, 3, 4, 5, 6, 7, 8] rfl)
              exact loop133 ((T + 1) - 0) (0) g 0 _ _ ls (by omega)  hP hD hS hl
          · skip
            refine lv_iload hx hb dX6_frosts_62 (lv_at hl 0 rfl) ?_
            have hP9 := hP.sub (ws' := [(md, .inr (6, [.int 0, .int md_f1_20, .ref ln, .ref mn, .ref it, .ref hs, vm_6, .ref tn, vm_8, vm_9, vm_10, vm_11, vm_12, vm_13, vm_14, vm_15, vm_16, vm_17, vm_18, vm_19, vm_20, vm_21, vm_22, vm_23])), (hs, .inl (cI, 45, .inl f)), (tn, .inl (cI, 45, .inl g)), (ln, .inl (cI, 8, .inl lf)), (mn, .inl (cI, 8, .inl sf)), (it, .inl (cI, 320, .inl tf))]) [2, 0, 1, 3, 4, 5] rfl
            have hD9 := hD.sub (ws' := [(md, .inr (6, [.int 0, .int md_f1_20, .ref ln, .ref mn, .ref it, .ref hs, vm_6, .ref tn, vm_8, vm_9, vm_10, vm_11, vm_12, vm_13, vm_14, vm_15, vm_16, vm_17, vm_18, vm_19, vm_20, vm_21, vm_22, vm_23])), (hs, .inl (cI, 45, .inl f)), (tn, .inl (cI, 45, .inl g)), (ln, .inl (cI, 8, .inl lf)), (mn, .inl (cI, 8, .inl sf)), (it, .inl (cI, 320, .inl tf))]) [2, 0, 1, 3, 4, 5] (by decide) rfl
            exact wt_iret hx hb hr hlocks hP9 hD9 hS ⟨g, md_f1_20, rfl, (hst_22.trans (fQ_k (frF_5 (by omega) c_3 c_7 c_11 c_15) (rs_m _ _ _ _) sv).symm)⟩ dX6_frosts_64
        · skip
          refine lv_ldc hx hb hown wc67 dX6_frosts_43 ?_
          have hP9 := hP.sub (ws' := [(md, .inr (6, [.int 0, .int sv, .ref ln, .ref mn, .ref it, .ref hs, vm_6, .ref tn, vm_8, vm_9, vm_10, vm_11, vm_12, vm_13, vm_14, vm_15, vm_16, vm_17, vm_18, vm_19, vm_20, vm_21, vm_22, vm_23])), (hs, .inl (cI, 45, .inl f)), (tn, .inl (cI, 45, .inl g)), (ln, .inl (cI, 8, .inl lf)), (mn, .inl (cI, 8, .inl sf)), (it, .inl (cI, 320, .inl tf))]) [0, 1, 2, 3, 4, 5] rfl
          have hD9 := hD.sub (ws' := [(md, .inr (6, [.int 0, .int sv, .ref ln, .ref mn, .ref it, .ref hs, vm_6, .ref tn, vm_8, vm_9, vm_10, vm_11, vm_12, vm_13, vm_14, vm_15, vm_16, vm_17, vm_18, vm_19, vm_20, vm_21, vm_22, vm_23])), (hs, .inl (cI, 45, .inl f)), (tn, .inl (cI, 45, .inl g)), (ln, .inl (cI, 8, .inl lf)), (mn, .inl (cI, 8, .inl sf)), (it, .inl (cI, 320, .inl tf))]) [0, 1, 2, 3, 4, 5] (by decide) rfl
          exact wt_iret hx hb hr hlocks hP9 hD9 hS ⟨g, sv, rfl, (fQ_b (frF_4 c_3 c_7 c_11 c_15) sv).symm⟩ dX6_frosts_45

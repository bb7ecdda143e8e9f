set_option maxHeartbeats 4000000 in
set_option maxRecDepth 100000 in
theorem c_X6_image (l : Launch) (D : va_G) (cI cZ cH : ClassId) (md hs : Nat) (R T : Nat) (f : Nat → Int32) (kp ik : Nat) (kf ikf : Nat → Int32) (a1 : Int32) (vm_0 vm_1 vm_2 vm_3 vm_4 vm_6 vm_7 vm_8 vm_9 vm_10 vm_11 vm_12 vm_13 vm_14 vm_15 vm_16 vm_17 vm_18 vm_19 vm_22 vm_23 : Value) (hR5 : R ≤ 5) (hT6 : T ≤ 6) (hrk : rk R T f) (hRT : 0 < R → 0 < T) (hkk : kk kf) : wt_M l yX6_image wsX6_image ({ frames := 1, cells := 0, slots := 0, locals := 25 } : Room) D (wt_T cI cZ cH) [.ref md, .int a1] [(md, .inr (6, [vm_0, vm_1, vm_2, vm_3, vm_4, .ref hs, vm_6, vm_7, vm_8, vm_9, vm_10, vm_11, vm_12, vm_13, vm_14, vm_15, vm_16, vm_17, vm_18, vm_19, .ref ik, .ref kp, vm_22, vm_23])), (hs, .inl (cI, 45, .inl f)), (kp, .inl (cI, 90, .inl kf)), (ik, .inl (cZ, 2, .inl ikf))] (wt_QI D (fun r w => ∃ (kf2 ikf2 : Nat → Int32), w = [(md, .inr (6, [.int 0, vm_1, vm_2, vm_3, vm_4, .ref hs, vm_6, vm_7, vm_8, vm_9, vm_10, vm_11, vm_12, vm_13, vm_14, vm_15, vm_16, vm_17, vm_18, vm_19, .ref ik, .ref kp, vm_22, vm_23])), (hs, .inl (cI, 45, .inl f)), (kp, .inl (cI, 90, .inl kf2)), (ik, .inl (cZ, 2, .inl ikf2))] ∧ kk kf2)) := by
  refine wt_M.ofW (cc := cX6_image) (maxL := 3) (ret := (some .int)) (by decide) rfl (Nat.le_of_ble_eq_true rfl) ?_
  intro p e s m below meth c A ls hx hb hr hts hown hlocks hml hnm hP hK hD hA hS hl
  have hP : va_P D vwCl [(md, .inr (6, [vm_0, vm_1, vm_2, vm_3, vm_4, .ref hs, vm_6, vm_7, vm_8, vm_9, vm_10, vm_11, vm_12, vm_13, vm_14, vm_15, vm_16, vm_17, vm_18, vm_19, .ref ik, .ref kp, vm_22, vm_23])), (hs, .inl (cI, 45, .inl f)), (kp, .inl (cI, 90, .inl kf)), (ik, .inl (cZ, 2, .inl ikf))] s.heap := hP
  have hown : s.vm.findClass RX6 = some m.cls := hown
  have hl : lv_has ls 3 [(0, .ref md), (1, .int a1)] := hl
  have hi6 : ∀ w ∈ u_ws RX6 TX6 24, w ∈ wsX6_image := by decide +kernel
  have wc189 := hts (.constant RX6 189 (-1000002)) (by decide +kernel)
  have wc67 := hts (.constant RX6 67 (-1000001)) (by decide +kernel)
  have wf19 := hts (.fieldLink RX6 19 "WarmTubesModel" "house" "[I") (by decide +kernel)
  have wf37 := hts (.fieldLink RX6 37 "WarmTubesModel" "isKept" "[Z") (by decide +kernel)
  have wf41 := hts (.fieldLink RX6 41 "WarmTubesModel" "kept" "[I") (by decide +kernel)
  have wf47 := hts (.fieldLink RX6 47 "WarmTubesModel" "thrown" "I") (by decide +kernel)
  refine lv_aload_n hx hb dX6_image_0 rfl (lv_at hl 0 rfl) ?_
  refine lv_iconst (v := 0) hx hb dX6_image_1 (by decide) ?_
  refine va_put (D := D) (ci := 6) (v := .int 0) (ty := .int) (C := RX6) (T := TX6) (N := 24) hx hb hts hi6 tyX6 tyX6_ok nmX6 hown hK.1 hP hD hS 0 rfl rfl 0 (by decide) wf47 (fun _ h9 => h9) rfl (by decide +kernel) rfl rfl (Nat.le_of_ble_eq_true rfl) dX6_image_2 (fun H locs hP hD hS => ?_)
  have hP : va_P D vwCl [(md, .inr (6, [.int 0, vm_1, vm_2, vm_3, vm_4, .ref hs, vm_6, vm_7, vm_8, vm_9, vm_10, vm_11, vm_12, vm_13, vm_14, vm_15, vm_16, vm_17, vm_18, vm_19, .ref ik, .ref kp, vm_22, vm_23])), (hs, .inl (cI, 45, .inl f)), (kp, .inl (cI, 90, .inl kf)), (ik, .inl (cZ, 2, .inl ikf))] H := hP
  have hD : va_D A [(md, .inr (6, [.int 0, vm_1, vm_2, vm_3, vm_4, .ref hs, vm_6, vm_7, vm_8, vm_9, vm_10, vm_11, vm_12, vm_13, vm_14, vm_15, vm_16, vm_17, vm_18, vm_19, .ref ik, .ref kp, vm_22, vm_23])), (hs, .inl (cI, 45, .inl f)), (kp, .inl (cI, 90, .inl kf)), (ik, .inl (cZ, 2, .inl ikf))] := hD
  refine lv_iload_n hx hb dX6_image_5 rfl (lv_at hl 1 rfl) ?_
  refine lv_i2l hx hb dX6_image_6 rfl ?_
  refine lv_lconst (v := 0) hx hb dX6_image_7 (by decide) ?_
  refine lv_lconst (v := 1) hx hb dX6_image_8 (by decide) ?_
  refine wt_rS (As := [.long a1.toInt64, .long 0, .long 1]) (rest := []) ⟨hx, hb, hml, hown, hts⟩ (c_X6_in l D cI cZ cH a1.toInt64 0 1) (va_cwS 3 hts gX6_image_X6_in rfl rfl rfl (by decide +kernel) ⟨Nat.le_of_ble_eq_true rfl, Nat.le_of_ble_eq_true rfl⟩) hK hP [] rfl rfl hl.1 rfl (Nat.le_of_ble_eq_true rfl) dX6_image_9 ⟨Nat.le_of_ble_eq_true rfl, Nat.le_of_ble_eq_true rfl⟩ (fun r_1 e_2 => ?_)
  subst e_2
  refine wt_top (z := wI a1 0 1) (wL_I' (by decide) (by decide)) ?_
  refine lv_if_ne (tgt := 18) hx hb dX6_image_12 (by decide) (fun c_3 => ?_) (fun c_3 => ?_)
  · skip
    obtain ⟨j_4, hj_4, hj_4b, rfl⟩ := wI_nat (a := 0) (b := 1) (by omega) (by omega) c_3
    refine lv_aload_n hx hb dX6_image_18 rfl (lv_at hl 0 rfl) ?_
    refine wt_rV (As := []) (rest := []) ⟨hx, hb, hml, hown, hts⟩ (c_X6_isThere l D cI cZ cH md hs R T f (.int 0) vm_1 vm_2 vm_3 vm_4 vm_6 vm_7 vm_8 vm_9 vm_10 vm_11 vm_12 vm_13 vm_14 vm_15 vm_16 vm_17 vm_18 vm_19 (.ref ik) (.ref kp) vm_22 vm_23 (by first | assumption | omega) (by first | assumption | omega) (by first | assumption | omega)) (cwV 0 hts gX6_image_X6_isThere rfl rfl rfl (by decide +kernel) ⟨Nat.le_of_ble_eq_true rfl, Nat.le_of_ble_eq_true rfl⟩) hK hP [0, 1] rfl (va_recv hK.1 hP (ci := 6) (q0 := 0) rfl rfl) rfl hl.1 rfl (Nat.le_of_ble_eq_true rfl) dX6_image_19 ⟨Nat.le_of_ble_eq_true rfl, Nat.le_of_ble_eq_true rfl⟩ (fun r_5 e_6 => ?_)
    subst e_6
    refine lv_if_ne (tgt := 28) hx hb dX6_image_22 (by decide) (fun c_7 => ?_) (fun c_7 => ?_)
    · skip
      have g_8 : 0 < R := wP_nat (by omega) c_7
      refine lv_iconst (v := 0) hx hb dX6_image_28 (by decide) ?_
      refine lv_istore_n (lv' := [(2, .int 0), (0, .ref md), (1, .int (nI j_4))]) hx hb dX6_image_29 rfl hl (by decide) rfl (fun ls hl => ?_)
      have loop30 : ∀ (k i_9 : Nat) (kf_10 : Nat → Int32) (H : Heap) (locs : List Loc) (ls : Array Slot), i_9 + k = 45 → (cpd i_9 (45 * j_4) 0 kf_10 f) → (∀ k, (k < 45 * j_4 ∨ 45 * j_4 + 45 ≤ k) → kf_10 k = kf k) → va_P D vwCl [(md, .inr (6, [.int 0, vm_1, vm_2, vm_3, vm_4, .ref hs, vm_6, vm_7, vm_8, vm_9, vm_10, vm_11, vm_12, vm_13, vm_14, vm_15, vm_16, vm_17, vm_18, vm_19, .ref ik, .ref kp, vm_22, vm_23])), (hs, .inl (cI, 45, .inl f)), (kp, .inl (cI, 90, .inl kf_10)), (ik, .inl (cZ, 2, .inl ikf))] H → va_D A [(md, .inr (6, [.int 0, vm_1, vm_2, vm_3, vm_4, .ref hs, vm_6, vm_7, vm_8, vm_9, vm_10, vm_11, vm_12, vm_13, vm_14, vm_15, vm_16, vm_17, vm_18, vm_19, .ref ik, .ref kp, vm_22, vm_23])), (hs, .inl (cI, 45, .inl f)), (kp, .inl (cI, 90, .inl kf_10)), (ik, .inl (cZ, 2, .inl ikf))] → va_S A s.heap H locs → lv_has ls 3 [(2, .int (nI i_9)), (0, .ref md), (1, .int (nI j_4))] → W p l e ({ frames := 1, cells := 0, slots := 0, locals := 25 } : Room) s m ([.ref md, .int (nI j_4)] : List Value).toArray below meth c H locs 0 0 (MQ below (wt_QI D (fun r w => ∃ (kf2 ikf2 : Nat → Int32), w = [(md, .inr (6, [.int 0, vm_1, vm_2, vm_3, vm_4, .ref hs, vm_6, vm_7, vm_8, vm_9, vm_10, vm_11, vm_12, vm_13, vm_14, vm_15, vm_16, vm_17, vm_18, vm_19, .ref ik, .ref kp, vm_22, vm_23])), (hs, .inl (cI, 45, .inl f)), (kp, .inl (cI, 90, .inl kf2)), (ik, .inl (cZ, 2, .inl ikf2))] ∧ kk kf2) A) ([.ref md, .int (nI j_4)] : List Value).toArray s 0 0 A) (F0 m 30 ls []) := by
        intro k
        induction k with
        | zero =>
          intro i_9 kf_10 H locs ls hik hcp hou hP hD hS hl
          refine lv_iload_n hx hb dX6_image_30 rfl (lv_at hl 0 rfl) ?_
          refine lv_bipush (v := 45) hx hb dX6_image_31 (by decide) ?_
          refine lv_icmp_ge (tgt := 59) hx hb dX6_image_33 (by decide) (fun _ => ?_) (fun h => absurd (nI_le (a := 45) (b := i_9) (by omega) (by omega)) h)
          refine lv_aload_n hx hb dX6_image_59 rfl (lv_at hl 1 rfl) ?_
          refine va_get (D := D) (ci := 6) (v := .ref ik) (C := RX6) (T := TX6) (N := 24) hx hb hts hi6 hown hK.1 hP 0 rfl rfl 20 (by decide) wf37 (fun _ h9 => h9) rfl dX6_image_60 ?_
          refine lv_iload_n hx hb dX6_image_63 rfl (lv_at hl 2 rfl) ?_
          refine lv_iconst (v := 1) hx hb dX6_image_64 (by decide) ?_
          refine va_zast hx hb hK.1 hP hD hS 3 1 rfl rfl (vp_in_nI (by omega) (by omega)) dX6_image_65 (fun H locs hP hD hS => ?_)
          have hP : va_P D vwCl [(md, .inr (6, [.int 0, vm_1, vm_2, vm_3, vm_4, .ref hs, vm_6, vm_7, vm_8, vm_9, vm_10, vm_11, vm_12, vm_13, vm_14, vm_15, vm_16, vm_17, vm_18, vm_19, .ref ik, .ref kp, vm_22, vm_23])), (hs, .inl (cI, 45, .inl f)), (kp, .inl (cI, 90, .inl kf_10)), (ik, .inl (cZ, 2, .inl (upd ikf ((nI j_4).toNatClampNeg) (vp_nar .boolean 1))))] H := hP
          have hD : va_D A [(md, .inr (6, [.int 0, vm_1, vm_2, vm_3, vm_4, .ref hs, vm_6, vm_7, vm_8, vm_9, vm_10, vm_11, vm_12, vm_13, vm_14, vm_15, vm_16, vm_17, vm_18, vm_19, .ref ik, .ref kp, vm_22, vm_23])), (hs, .inl (cI, 45, .inl f)), (kp, .inl (cI, 90, .inl kf_10)), (ik, .inl (cZ, 2, .inl (upd ikf ((nI j_4).toNatClampNeg) (vp_nar .boolean 1))))] := hD
          generalize upd ikf ((nI j_4).toNatClampNeg) (vp_nar .boolean 1) = ikf_11 at hP hD
          refine lv_iconst (v := 1) hx hb dX6_image_66 (by decide) ?_
          have hP9 := hP.sub (ws' := [(md, .inr (6, [.int 0, vm_1, vm_2, vm_3, vm_4, .ref hs, vm_6, vm_7, vm_8, vm_9, vm_10, vm_11, vm_12, vm_13, vm_14, vm_15, vm_16, vm_17, vm_18, vm_19, .ref ik, .ref kp, vm_22, vm_23])), (hs, .inl (cI, 45, .inl f)), (kp, .inl (cI, 90, .inl kf_10)), (ik, .inl (cZ, 2, .inl ikf_11))]) [0, 1, 2, 3] rfl
          have hD9 := hD.sub (ws' := [(md, .inr (6, [.int 0, vm_1, vm_2, vm_3, vm_4, .ref hs, vm_6, vm_7, vm_8, vm_9, vm_10, vm_11, vm_12, vm_13, vm_14, vm_15, vm_16, vm_17, vm_18, vm_19, .ref ik, .ref kp, vm_22, vm_23])), (hs, .inl (cI, 45, .inl f)), (kp, .inl (cI, 90, .inl kf_10)), (ik, .inl (cZ, 2, .inl ikf_11))]) [0, 1, 2, 3] (by decide) rfl
          exact wt_iret hx hb hr hlocks hP9 hD9 hS ⟨kf_10, ikf_11, rfl, (kk_put hkk hR5 hT6 hRT hrk hcp (by omega) hou)⟩ dX6_image_67
        | succ k ih30 =>
          intro i_9 kf_10 H locs ls hik hcp hou hP hD hS hl
          refine lv_iload_n hx hb dX6_image_30 rfl (lv_at hl 0 rfl) ?_
          refine lv_bipush (v := 45) hx hb dX6_image_31 (by decide) ?_
          refine lv_icmp_ge (tgt := 59) hx hb dX6_image_33 (by decide) (fun h => absurd h (nI_ge (a := i_9) (b := 45) (by omega) (by omega))) (fun _ => ?_)
          refine lv_aload_n hx hb dX6_image_36 rfl (lv_at hl 1 rfl) ?_
          refine va_get (D := D) (ci := 6) (v := .ref kp) (C := RX6) (T := TX6) (N := 24) hx hb hts hi6 hown hK.1 hP 0 rfl rfl 21 (by decide) wf41 (fun _ h9 => h9) rfl dX6_image_37 ?_
          refine lv_bipush (v := 45) hx hb dX6_image_40 (by decide) ?_
          refine lv_iload_n hx hb dX6_image_42 rfl (lv_at hl 2 rfl) ?_
          refine lv_imul hx hb dX6_image_43 ?_
          refine wt_top (z := nI (45 * j_4)) (pk_mul 45 j_4) ?_
          refine lv_iload_n hx hb dX6_image_44 rfl (lv_at hl 0 rfl) ?_
          refine lv_iadd hx hb dX6_image_45 ?_
          refine wt_top (z := nI ((45 * j_4) + i_9)) (nI_add (45 * j_4) i_9) ?_
          refine lv_aload_n hx hb dX6_image_46 rfl (lv_at hl 1 rfl) ?_
          refine va_get (D := D) (ci := 6) (v := .ref hs) (C := RX6) (T := TX6) (N := 24) hx hb hts hi6 hown hK.1 hP 0 rfl rfl 5 (by decide) wf19 (fun _ h9 => h9) rfl dX6_image_47 ?_
          refine lv_iload_n hx hb dX6_image_50 rfl (lv_at hl 0 rfl) ?_
          refine va_iald hx hb hK.1 hP 1 0 rfl rfl (vp_in_nI (by omega) (by omega)) dX6_image_51 ?_
          refine wt_top (z := f (0 + i_9)) (by rw [nI_clamp (by omega)]; first | rw [Nat.zero_add] | skip) ?_
          refine va_iast hx hb hK.1 hP hD hS 2 0 rfl rfl (vp_in_nI (by omega) (by omega)) dX6_image_52 (fun H locs hP hD hS => ?_)
          have hP : va_P D vwCl [(md, .inr (6, [.int 0, vm_1, vm_2, vm_3, vm_4, .ref hs, vm_6, vm_7, vm_8, vm_9, vm_10, vm_11, vm_12, vm_13, vm_14, vm_15, vm_16, vm_17, vm_18, vm_19, .ref ik, .ref kp, vm_22, vm_23])), (hs, .inl (cI, 45, .inl f)), (kp, .inl (cI, 90, .inl (upd kf_10 ((nI ((45 * j_4) + i_9)).toNatClampNeg) (f (0 + i_9))))), (ik, .inl (cZ, 2, .inl ikf))] H := hP
          have hD : va_D A [(md, .inr (6, [.int 0, vm_1, vm_2, vm_3, vm_4, .ref hs, vm_6, vm_7, vm_8, vm_9, vm_10, vm_11, vm_12, vm_13, vm_14, vm_15, vm_16, vm_17, vm_18, vm_19, .ref ik, .ref kp, vm_22, vm_23])), (hs, .inl (cI, 45, .inl f)), (kp, .inl (cI, 90, .inl (upd kf_10 ((nI ((45 * j_4) + i_9)).toNatClampNeg) (f (0 + i_9))))), (ik, .inl (cZ, 2, .inl ikf))] := hD
          rw [nI_clamp (n := ((45 * j_4) + i_9)) (by omega)] at hP hD
          have hP : va_P D vwCl [(md, .inr (6, [.int 0, vm_1, vm_2, vm_3, vm_4, .ref hs, vm_6, vm_7, vm_8, vm_9, vm_10, vm_11, vm_12, vm_13, vm_14, vm_15, vm_16, vm_17, vm_18, vm_19, .ref ik, .ref kp, vm_22, vm_23])), (hs, .inl (cI, 45, .inl f)), (kp, .inl (cI, 90, .inl (upd kf_10 ((45 * j_4) + i_9) (f (0 + i_9))))), (ik, .inl (cZ, 2, .inl ikf))] H := hP
          have hD : va_D A [(md, .inr (6, [.int 0, vm_1, vm_2, vm_3, vm_4, .ref hs, vm_6, vm_7, vm_8, vm_9, vm_10, vm_11, vm_12, vm_13, vm_14, vm_15, vm_16, vm_17, vm_18, vm_19, .ref ik, .ref kp, vm_22, vm_23])), (hs, .inl (cI, 45, .inl f)), (kp, .inl (cI, 90, .inl (upd kf_10 ((45 * j_4) + i_9) (f (0 + i_9))))), (ik, .inl (cZ, 2, .inl ikf))] := hD
          refine lv_iinc (v := nI (i_9 + 1)) (lv' := [(2, .int (nI (i_9 + 1))), (0, .ref md), (1, .int (nI j_4))]) hx hb dX6_image_53 hl (k := 0) rfl (nI_add i_9 1) (by decide) rfl (fun ls hl => ?_)
          refine lv_goto (tgt := 30) hx hb dX6_image_56 (by decide) ?_
          exact ih30 ((i_9 + 1)) (upd kf_10 ((45 * j_4) + i_9) (f (0 + i_9))) H locs ls (by omega) (cpd_s hcp) (kk_out hou (by omega)) hP hD hS (lv_sub hl [0, 1, 2] rfl)
      exact loop30 (45 - 0) (0) kf _ _ ls (by omega) cpd_0 (fun _ _ => rfl) hP hD hS hl
    · skip
      refine lv_ldc hx hb hown wc189 dX6_image_25 ?_
      have hP9 := hP.sub (ws' := [(md, .inr (6, [.int 0, vm_1, vm_2, vm_3, vm_4, .ref hs, vm_6, vm_7, vm_8, vm_9, vm_10, vm_11, vm_12, vm_13, vm_14, vm_15, vm_16, vm_17, vm_18, vm_19, .ref ik, .ref kp, vm_22, vm_23])), (hs, .inl (cI, 45, .inl f)), (kp, .inl (cI, 90, .inl kf)), (ik, .inl (cZ, 2, .inl ikf))]) [0, 1, 2, 3] rfl
      have hD9 := hD.sub (ws' := [(md, .inr (6, [.int 0, vm_1, vm_2, vm_3, vm_4, .ref hs, vm_6, vm_7, vm_8, vm_9, vm_10, vm_11, vm_12, vm_13, vm_14, vm_15, vm_16, vm_17, vm_18, vm_19, .ref ik, .ref kp, vm_22, vm_23])), (hs, .inl (cI, 45, .inl f)), (kp, .inl (cI, 90, .inl kf)), (ik, .inl (cZ, 2, .inl ikf))]) [0, 1, 2, 3] (by decide) rfl
      exact wt_iret hx hb hr hlocks hP9 hD9 hS ⟨kf, ikf, rfl, hkk⟩ dX6_image_27
  · skip
    refine lv_ldc hx hb hown wc67 dX6_image_15 ?_
    have hP9 := hP.sub (ws' := [(md, .inr (6, [.int 0, vm_1, vm_2, vm_3, vm_4, .ref hs, vm_6, vm_7, vm_8, vm_9, vm_10, vm_11, vm_12, vm_13, vm_14, vm_15, vm_16, vm_17, vm_18, vm_19, .ref ik, .ref kp, vm_22, vm_23])), (hs, .inl (cI, 45, .inl f)), (kp, .inl (cI, 90, .inl kf)), (ik, .inl (cZ, 2, .inl ikf))]) [0, 1, 2, 3] rfl
    have hD9 := hD.sub (ws' := [(md, .inr (6, [.int 0, vm_1, vm_2, vm_3, vm_4, .ref hs, vm_6, vm_7, vm_8, vm_9, vm_10, vm_11, vm_12, vm_13, vm_14, vm_15, vm_16, vm_17, vm_18, vm_19, .ref ik, .ref kp, vm_22, vm_23])), (hs, .inl (cI, 45, .inl f)), (kp, .inl (cI, 90, .inl kf)), (ik, .inl (cZ, 2, .inl ikf))]) [0, 1, 2, 3] (by decide) rfl
    exact wt_iret hx hb hr hlocks hP9 hD9 hS ⟨kf, ikf, rfl, hkk⟩ dX6_image_17
set_option maxHeartbeats 4000000 in
set_option maxRecDepth 100000 in
theorem c_X6_restore (l : Launch) (D : va_G) (cI cZ cH : ClassId) (md hs : Nat) (R T : Nat) (f : Nat → Int32) (ws : Nat) (ac : Nat) (wf : Nat → Int32) (kp ik : Nat) (kf ikf : Nat → Int32) (a1 : Int32) (vm_0 vm_1 vm_2 vm_3 vm_4 vm_6 vm_7 vm_10 vm_11 vm_12 vm_13 vm_14 vm_15 vm_16 vm_17 vm_18 vm_19 vm_22 vm_23 : Value) (hR5 : R ≤ 5) (hT6 : T ≤ 6) (hrk : rk R T f) (hRT : 0 < R → 0 < T) (hkk : kk kf) (hac : ac ≤ 24) (hwk : wk R T ac wf) : wt_M l yX6_restore wsX6_restore ({ frames := 1, cells := 0, slots := 0, locals := 25 } : Room) D (wt_T cI cZ cH) [.ref md, .int a1] [(md, .inr (6, [vm_0, vm_1, vm_2, vm_3, vm_4, .ref hs, vm_6, vm_7, .ref ws, .int (nI ac), vm_10, vm_11, vm_12, vm_13, vm_14, vm_15, vm_16, vm_17, vm_18, vm_19, .ref ik, .ref kp, vm_22, vm_23])), (hs, .inl (cI, 45, .inl f)), (ws, .inl (cI, 1080, .inl wf)), (kp, .inl (cI, 90, .inl kf)), (ik, .inl (cZ, 2, .inl ikf))] (wt_QI D (fun r w => ∃ (f2 : Nat → Int32) (ac2 : Nat), w = [(md, .inr (6, [.int 0, vm_1, vm_2, vm_3, vm_4, .ref hs, vm_6, vm_7, .ref ws, .int (nI ac2), vm_10, vm_11, vm_12, vm_13, vm_14, vm_15, vm_16, vm_17, vm_18, vm_19, .ref ik, .ref kp, vm_22, vm_23])), (hs, .inl (cI, 45, .inl f2)), (ws, .inl (cI, 1080, .inl wf)), (kp, .inl (cI, 90, .inl kf)), (ik, .inl (cZ, 2, .inl ikf))] ∧ ∃ R2 T2 : Nat, R2 ≤ 5 ∧ T2 ≤ 6 ∧ (0 < R2 → 0 < T2) ∧ rk R2 T2 f2 ∧ ac2 ≤ 24 ∧ wk R2 T2 ac2 wf)) := by
  refine wt_M.ofW (cc := cX6_restore) (maxL := 3) (ret := (some .int)) (by decide) rfl (Nat.le_of_ble_eq_true rfl) ?_
  intro p e s m below meth c A ls hx hb hr hts hown hlocks hml hnm hP hK hD hA hS hl
  have hP : va_P D vwCl [(md, .inr (6, [vm_0, vm_1, vm_2, vm_3, vm_4, .ref hs, vm_6, vm_7, .ref ws, .int (nI ac), vm_10, vm_11, vm_12, vm_13, vm_14, vm_15, vm_16, vm_17, vm_18, vm_19, .ref ik, .ref kp, vm_22, vm_23])), (hs, .inl (cI, 45, .inl f)), (ws, .inl (cI, 1080, .inl wf)), (kp, .inl (cI, 90, .inl kf)), (ik, .inl (cZ, 2, .inl ikf))] s.heap := hP
  have hown : s.vm.findClass RX6 = some m.cls := hown
  have hl : lv_has ls 3 [(0, .ref md), (1, .int a1)] := hl
  have hi6 : ∀ w ∈ u_ws RX6 TX6 24, w ∈ wsX6_restore := by decide +kernel
  have wc189 := hts (.constant RX6 189 (-1000002)) (by decide +kernel)
  have wc67 := hts (.constant RX6 67 (-1000001)) (by decide +kernel)
  have wf149 := hts (.fieldLink RX6 149 "WarmTubesModel" "acts" "I") (by decide +kernel)
  have wf19 := hts (.fieldLink RX6 19 "WarmTubesModel" "house" "[I") (by decide +kernel)
  have wf37 := hts (.fieldLink RX6 37 "WarmTubesModel" "isKept" "[Z") (by decide +kernel)
  have wf41 := hts (.fieldLink RX6 41 "WarmTubesModel" "kept" "[I") (by decide +kernel)
  have wf47 := hts (.fieldLink RX6 47 "WarmTubesModel" "thrown" "I") (by decide +kernel)
  refine lv_aload_n hx hb dX6_restore_0 rfl (lv_at hl 0 rfl) ?_
  refine lv_iconst (v := 0) hx hb dX6_restore_1 (by decide) ?_
  refine va_put (D := D) (ci := 6) (v := .int 0) (ty := .int) (C := RX6) (T := TX6) (N := 24) hx hb hts hi6 tyX6 tyX6_ok nmX6 hown hK.1 hP hD hS 0 rfl rfl 0 (by decide) wf47 (fun _ h9 => h9) rfl (by decide +kernel) rfl rfl (Nat.le_of_ble_eq_true rfl) dX6_restore_2 (fun H locs hP hD hS => ?_)
  have hP : va_P D vwCl [(md, .inr (6, [.int 0, vm_1, vm_2, vm_3, vm_4, .ref hs, vm_6, vm_7, .ref ws, .int (nI ac), vm_10, vm_11, vm_12, vm_13, vm_14, vm_15, vm_16, vm_17, vm_18, vm_19, .ref ik, .ref kp, vm_22, vm_23])), (hs, .inl (cI, 45, .inl f)), (ws, .inl (cI, 1080, .inl wf)), (kp, .inl (cI, 90, .inl kf)), (ik, .inl (cZ, 2, .inl ikf))] H := hP
  have hD : va_D A [(md, .inr (6, [.int 0, vm_1, vm_2, vm_3, vm_4, .ref hs, vm_6, vm_7, .ref ws, .int (nI ac), vm_10, vm_11, vm_12, vm_13, vm_14, vm_15, vm_16, vm_17, vm_18, vm_19, .ref ik, .ref kp, vm_22, vm_23])), (hs, .inl (cI, 45, .inl f)), (ws, .inl (cI, 1080, .inl wf)), (kp, .inl (cI, 90, .inl kf)), (ik, .inl (cZ, 2, .inl ikf))] := hD
  refine lv_iload_n hx hb dX6_restore_5 rfl (lv_at hl 1 rfl) ?_
  refine lv_i2l hx hb dX6_restore_6 rfl ?_
  refine lv_lconst (v := 0) hx hb dX6_restore_7 (by decide) ?_
  refine lv_lconst (v := 1) hx hb dX6_restore_8 (by decide) ?_
  refine wt_rS (As := [.long a1.toInt64, .long 0, .long 1]) (rest := []) ⟨hx, hb, hml, hown, hts⟩ (c_X6_in l D cI cZ cH a1.toInt64 0 1) (va_cwS 3 hts gX6_restore_X6_in rfl rfl rfl (by decide +kernel) ⟨Nat.le_of_ble_eq_true rfl, Nat.le_of_ble_eq_true rfl⟩) hK hP [] rfl rfl hl.1 rfl (Nat.le_of_ble_eq_true rfl) dX6_restore_9 ⟨Nat.le_of_ble_eq_true rfl, Nat.le_of_ble_eq_true rfl⟩ (fun r_1 e_2 => ?_)
  subst e_2
  refine wt_top (z := wI a1 0 1) (wL_I' (by decide) (by decide)) ?_
  refine lv_if_ne (tgt := 18) hx hb dX6_restore_12 (by decide) (fun c_3 => ?_) (fun c_3 => ?_)
  · skip
    obtain ⟨j_4, hj_4, hj_4b, rfl⟩ := wI_nat (a := 0) (b := 1) (by omega) (by omega) c_3
    refine lv_aload_n hx hb dX6_restore_18 rfl (lv_at hl 0 rfl) ?_
    refine va_get (D := D) (ci := 6) (v := .ref ik) (C := RX6) (T := TX6) (N := 24) hx hb hts hi6 hown hK.1 hP 0 rfl rfl 20 (by decide) wf37 (fun _ h9 => h9) rfl dX6_restore_19 ?_
    refine lv_iload_n hx hb dX6_restore_22 rfl (lv_at hl 1 rfl) ?_
    refine va_zald hx hb hK.1 hP 4 1 rfl rfl (vp_in_nI (by omega) (by omega)) dX6_restore_23 ?_
    refine lv_if_ne (tgt := 30) hx hb dX6_restore_24 (by decide) (fun c_5 => ?_) (fun c_5 => ?_)
    · skip
      refine lv_iconst (v := 0) hx hb dX6_restore_30 (by decide) ?_
      refine lv_istore_n (lv' := [(2, .int 0), (0, .ref md), (1, .int (nI j_4))]) hx hb dX6_restore_31 rfl hl (by decide) rfl (fun ls hl => ?_)
      have loop32 : ∀ (k i_6 : Nat) (f_7 : Nat → Int32) (H : Heap) (locs : List Loc) (ls : Array Slot), i_6 + k = 45 → (cpd i_6 0 (45 * j_4) f_7 kf) → va_P D vwCl [(md, .inr (6, [.int 0, vm_1, vm_2, vm_3, vm_4, .ref hs, vm_6, vm_7, .ref ws, .int (nI ac), vm_10, vm_11, vm_12, vm_13, vm_14, vm_15, vm_16, vm_17, vm_18, vm_19, .ref ik, .ref kp, vm_22, vm_23])), (hs, .inl (cI, 45, .inl f_7)), (ws, .inl (cI, 1080, .inl wf)), (kp, .inl (cI, 90, .inl kf)), (ik, .inl (cZ, 2, .inl ikf))] H → va_D A [(md, .inr (6, [.int 0, vm_1, vm_2, vm_3, vm_4, .ref hs, vm_6, vm_7, .ref ws, .int (nI ac), vm_10, vm_11, vm_12, vm_13, vm_14, vm_15, vm_16, vm_17, vm_18, vm_19, .ref ik, .ref kp, vm_22, vm_23])), (hs, .inl (cI, 45, .inl f_7)), (ws, .inl (cI, 1080, .inl wf)), (kp, .inl (cI, 90, .inl kf)), (ik, .inl (cZ, 2, .inl ikf))] → va_S A s.heap H locs → lv_has ls 3 [(2, .int (nI i_6)), (0, .ref md), (1, .int (nI j_4))] → W p l e ({ frames := 1, cells := 0, slots := 0, locals := 25 } : Room) s m ([.ref md, .int (nI j_4)] : List Value).toArray below meth c H locs 0 0 (MQ below (wt_QI D (fun r w => ∃ (f2 : Nat → Int32) (ac2 : Nat), w = [(md, .inr (6, [.int 0, vm_1, vm_2, vm_3, vm_4, .ref hs, vm_6, vm_7, .ref ws, .int (nI ac2), vm_10, vm_11, vm_12, vm_13, vm_14, vm_15, vm_16, vm_17, vm_18, vm_19, .ref ik, .ref kp, vm_22, vm_23])), (hs, .inl (cI, 45, .inl f2)), (ws, .inl (cI, 1080, .inl wf)), (kp, .inl (cI, 90, .inl kf)), (ik, .inl (cZ, 2, .inl ikf))] ∧ ∃ R2 T2 : Nat, R2 ≤ 5 ∧ T2 ≤ 6 ∧ (0 < R2 → 0 < T2) ∧ rk R2 T2 f2 ∧ ac2 ≤ 24 ∧ wk R2 T2 ac2 wf) A) ([.ref md, .int (nI j_4)] : List Value).toArray s 0 0 A) (F0 m 32 ls []) := by
        intro k
        induction k with
        | zero =>
          intro i_6 f_7 H locs ls hik hcp hP hD hS hl
          refine lv_iload_n hx hb dX6_restore_32 rfl (lv_at hl 0 rfl) ?_
          refine lv_bipush (v := 45) hx hb dX6_restore_33 (by decide) ?_
          refine lv_icmp_ge (tgt := 61) hx hb dX6_restore_35 (by decide) (fun _ => ?_) (fun h => absurd (nI_le (a := 45) (b := i_6) (by omega) (by omega)) h)
          refine lv_aload_n hx hb dX6_restore_61 rfl (lv_at hl 1 rfl) ?_
          refine lv_iconst (v := 0) hx hb dX6_restore_62 (by decide) ?_
          refine va_put (D := D) (ci := 6) (v := .int 0) (ty := .int) (C := RX6) (T := TX6) (N := 24) hx hb hts hi6 tyX6 tyX6_ok nmX6 hown hK.1 hP hD hS 0 rfl rfl 9 (by decide) wf149 (fun _ h9 => h9) rfl (by decide +kernel) rfl rfl (Nat.le_of_ble_eq_true rfl) dX6_restore_63 (fun H locs hP hD hS => ?_)
          have hP : va_P D vwCl [(md, .inr (6, [.int 0, vm_1, vm_2, vm_3, vm_4, .ref hs, vm_6, vm_7, .ref ws, .int 0, vm_10, vm_11, vm_12, vm_13, vm_14, vm_15, vm_16, vm_17, vm_18, vm_19, .ref ik, .ref kp, vm_22, vm_23])), (hs, .inl (cI, 45, .inl f_7)), (ws, .inl (cI, 1080, .inl wf)), (kp, .inl (cI, 90, .inl kf)), (ik, .inl (cZ, 2, .inl ikf))] H := hP
          have hD : va_D A [(md, .inr (6, [.int 0, vm_1, vm_2, vm_3, vm_4, .ref hs, vm_6, vm_7, .ref ws, .int 0, vm_10, vm_11, vm_12, vm_13, vm_14, vm_15, vm_16, vm_17, vm_18, vm_19, .ref ik, .ref kp, vm_22, vm_23])), (hs, .inl (cI, 45, .inl f_7)), (ws, .inl (cI, 1080, .inl wf)), (kp, .inl (cI, 90, .inl kf)), (ik, .inl (cZ, 2, .inl ikf))] := hD
          refine lv_iconst (v := 1) hx hb dX6_restore_66 (by decide) ?_
          have hP9 := hP.sub (ws' := [(md, .inr (6, [.int 0, vm_1, vm_2, vm_3, vm_4, .ref hs, vm_6, vm_7, .ref ws, .int 0, vm_10, vm_11, vm_12, vm_13, vm_14, vm_15, vm_16, vm_17, vm_18, vm_19, .ref ik, .ref kp, vm_22, vm_23])), (hs, .inl (cI, 45, .inl f_7)), (ws, .inl (cI, 1080, .inl wf)), (kp, .inl (cI, 90, .inl kf)), (ik, .inl (cZ, 2, .inl ikf))]) [0, 1, 2, 3, 4] rfl
          have hD9 := hD.sub (ws' := [(md, .inr (6, [.int 0, vm_1, vm_2, vm_3, vm_4, .ref hs, vm_6, vm_7, .ref ws, .int 0, vm_10, vm_11, vm_12, vm_13, vm_14, vm_15, vm_16, vm_17, vm_18, vm_19, .ref ik, .ref kp, vm_22, vm_23])), (hs, .inl (cI, 45, .inl f_7)), (ws, .inl (cI, 1080, .inl wf)), (kp, .inl (cI, 90, .inl kf)), (ik, .inl (cZ, 2, .inl ikf))]) [0, 1, 2, 3, 4] (by decide) rfl
          exact wt_iret hx hb hr hlocks hP9 hD9 hS ⟨f_7, 0, rfl, (kk_get hkk (a := j_4) (by omega) hcp (by omega))⟩ dX6_restore_67
        | succ k ih32 =>
          intro i_6 f_7 H locs ls hik hcp hP hD hS hl
          refine lv_iload_n hx hb dX6_restore_32 rfl (lv_at hl 0 rfl) ?_
          refine lv_bipush (v := 45) hx hb dX6_restore_33 (by decide) ?_
          refine lv_icmp_ge (tgt := 61) hx hb dX6_restore_35 (by decide) (fun h => absurd h (nI_ge (a := i_6) (b := 45) (by omega) (by omega))) (fun _ => ?_)
          refine lv_aload_n hx hb dX6_restore_38 rfl (lv_at hl 1 rfl) ?_
          refine va_get (D := D) (ci := 6) (v := .ref hs) (C := RX6) (T := TX6) (N := 24) hx hb hts hi6 hown hK.1 hP 0 rfl rfl 5 (by decide) wf19 (fun _ h9 => h9) rfl dX6_restore_39 ?_
          refine lv_iload_n hx hb dX6_restore_42 rfl (lv_at hl 0 rfl) ?_
          refine lv_aload_n hx hb dX6_restore_43 rfl (lv_at hl 1 rfl) ?_
          refine va_get (D := D) (ci := 6) (v := .ref kp) (C := RX6) (T := TX6) (N := 24) hx hb hts hi6 hown hK.1 hP 0 rfl rfl 21 (by decide) wf41 (fun _ h9 => h9) rfl dX6_restore_44 ?_
          refine lv_bipush (v := 45) hx hb dX6_restore_47 (by decide) ?_
          refine lv_iload_n hx hb dX6_restore_49 rfl (lv_at hl 2 rfl) ?_
          refine lv_imul hx hb dX6_restore_50 ?_
          refine wt_top (z := nI (45 * j_4)) (pk_mul 45 j_4) ?_
          refine lv_iload_n hx hb dX6_restore_51 rfl (lv_at hl 0 rfl) ?_
          refine lv_iadd hx hb dX6_restore_52 ?_
          refine wt_top (z := nI ((45 * j_4) + i_6)) (nI_add (45 * j_4) i_6) ?_
          refine va_iald hx hb hK.1 hP 3 0 rfl rfl (vp_in_nI (by omega) (by omega)) dX6_restore_53 ?_
          refine wt_top (z := kf (45 * j_4 + i_6)) (by rw [nI_clamp (by omega)]) ?_
          refine va_iast hx hb hK.1 hP hD hS 1 0 rfl rfl (vp_in_nI (by omega) (by omega)) dX6_restore_54 (fun H locs hP hD hS => ?_)
          have hP : va_P D vwCl [(md, .inr (6, [.int 0, vm_1, vm_2, vm_3, vm_4, .ref hs, vm_6, vm_7, .ref ws, .int (nI ac), vm_10, vm_11, vm_12, vm_13, vm_14, vm_15, vm_16, vm_17, vm_18, vm_19, .ref ik, .ref kp, vm_22, vm_23])), (hs, .inl (cI, 45, .inl (upd f_7 ((nI i_6).toNatClampNeg) (kf (45 * j_4 + i_6))))), (ws, .inl (cI, 1080, .inl wf)), (kp, .inl (cI, 90, .inl kf)), (ik, .inl (cZ, 2, .inl ikf))] H := hP
          have hD : va_D A [(md, .inr (6, [.int 0, vm_1, vm_2, vm_3, vm_4, .ref hs, vm_6, vm_7, .ref ws, .int (nI ac), vm_10, vm_11, vm_12, vm_13, vm_14, vm_15, vm_16, vm_17, vm_18, vm_19, .ref ik, .ref kp, vm_22, vm_23])), (hs, .inl (cI, 45, .inl (upd f_7 ((nI i_6).toNatClampNeg) (kf (45 * j_4 + i_6))))), (ws, .inl (cI, 1080, .inl wf)), (kp, .inl (cI, 90, .inl kf)), (ik, .inl (cZ, 2, .inl ikf))] := hD
          rw [nI_clamp (n := i_6) (by omega)] at hP hD
          have hP : va_P D vwCl [(md, .inr (6, [.int 0, vm_1, vm_2, vm_3, vm_4, .ref hs, vm_6, vm_7, .ref ws, .int (nI ac), vm_10, vm_11, vm_12, vm_13, vm_14, vm_15, vm_16, vm_17, vm_18, vm_19, .ref ik, .ref kp, vm_22, vm_23])), (hs, .inl (cI, 45, .inl (upd f_7 i_6 (kf (45 * j_4 + i_6))))), (ws, .inl (cI, 1080, .inl wf)), (kp, .inl (cI, 90, .inl kf)), (ik, .inl (cZ, 2, .inl ikf))] H := hP
          have hD : va_D A [(md, .inr (6, [.int 0, vm_1, vm_2, vm_3, vm_4, .ref hs, vm_6, vm_7, .ref ws, .int (nI ac), vm_10, vm_11, vm_12, vm_13, vm_14, vm_15, vm_16, vm_17, vm_18, vm_19, .ref ik, .ref kp, vm_22, vm_23])), (hs, .inl (cI, 45, .inl (upd f_7 i_6 (kf (45 * j_4 + i_6))))), (ws, .inl (cI, 1080, .inl wf)), (kp, .inl (cI, 90, .inl kf)), (ik, .inl (cZ, 2, .inl ikf))] := hD
          refine lv_iinc (v := nI (i_6 + 1)) (lv' := [(2, .int (nI (i_6 + 1))), (0, .ref md), (1, .int (nI j_4))]) hx hb dX6_restore_55 hl (k := 0) rfl (nI_add i_6 1) (by decide) rfl (fun ls hl => ?_)
          refine lv_goto (tgt := 32) hx hb dX6_restore_58 (by decide) ?_
          exact ih32 ((i_6 + 1)) (upd f_7 i_6 (kf (45 * j_4 + i_6))) H locs ls (by omega) (cpd_s0b hcp) hP hD hS (lv_sub hl [0, 1, 2] rfl)
      exact loop32 (45 - 0) (0) f _ _ ls (by omega) cpd_0 hP hD hS hl
    · skip
      refine lv_ldc hx hb hown wc189 dX6_restore_27 ?_
      have hP9 := hP.sub (ws' := [(md, .inr (6, [.int 0, vm_1, vm_2, vm_3, vm_4, .ref hs, vm_6, vm_7, .ref ws, .int (nI ac), vm_10, vm_11, vm_12, vm_13, vm_14, vm_15, vm_16, vm_17, vm_18, vm_19, .ref ik, .ref kp, vm_22, vm_23])), (hs, .inl (cI, 45, .inl f)), (ws, .inl (cI, 1080, .inl wf)), (kp, .inl (cI, 90, .inl kf)), (ik, .inl (cZ, 2, .inl ikf))]) [0, 1, 2, 3, 4] rfl
      have hD9 := hD.sub (ws' := [(md, .inr (6, [.int 0, vm_1, vm_2, vm_3, vm_4, .ref hs, vm_6, vm_7, .ref ws, .int (nI ac), vm_10, vm_11, vm_12, vm_13, vm_14, vm_15, vm_16, vm_17, vm_18, vm_19, .ref ik, .ref kp, vm_22, vm_23])), (hs, .inl (cI, 45, .inl f)), (ws, .inl (cI, 1080, .inl wf)), (kp, .inl (cI, 90, .inl kf)), (ik, .inl (cZ, 2, .inl ikf))]) [0, 1, 2, 3, 4] (by decide) rfl
      exact wt_iret hx hb hr hlocks hP9 hD9 hS ⟨f, ac, rfl, ⟨R, T, hR5, hT6, hRT, hrk, by omega, hwk⟩⟩ dX6_restore_29
  · skip
    refine lv_ldc hx hb hown wc67 dX6_restore_15 ?_
    have hP9 := hP.sub (ws' := [(md, .inr (6, [.int 0, vm_1, vm_2, vm_3, vm_4, .ref hs, vm_6, vm_7, .ref ws, .int (nI ac), vm_10, vm_11, vm_12, vm_13, vm_14, vm_15, vm_16, vm_17, vm_18, vm_19, .ref ik, .ref kp, vm_22, vm_23])), (hs, .inl (cI, 45, .inl f)), (ws, .inl (cI, 1080, .inl wf)), (kp, .inl (cI, 90, .inl kf)), (ik, .inl (cZ, 2, .inl ikf))]) [0, 1, 2, 3, 4] rfl
    have hD9 := hD.sub (ws' := [(md, .inr (6, [.int 0, vm_1, vm_2, vm_3, vm_4, .ref hs, vm_6, vm_7, .ref ws, .int (nI ac), vm_10, vm_11, vm_12, vm_13, vm_14, vm_15, vm_16, vm_17, vm_18, vm_19, .ref ik, .ref kp, vm_22, vm_23])), (hs, .inl (cI, 45, .inl f)), (ws, .inl (cI, 1080, .inl wf)), (kp, .inl (cI, 90, .inl kf)), (ik, .inl (cZ, 2, .inl ikf))]) [0, 1, 2, 3, 4] (by decide) rfl
    exact wt_iret hx hb hr hlocks hP9 hD9 hS ⟨f, ac, rfl, ⟨R, T, hR5, hT6, hRT, hrk, by omega, hwk⟩⟩ dX6_restore_17
set_option maxHeartbeats 4000000 in
set_option maxRecDepth 100000 in
theorem c_X6_doPour (l : Launch) (D : va_G) (cI cZ cH : ClassId) (md hs : Nat) (R T : Nat) (f : Nat → Int32) (tn : Nat) (g : Nat → Int32) (td : Nat) (df : Nat → Int32) (j n : Nat) (w : Int32) (vm_0 vm_1 vm_2 vm_3 vm_4 vm_6 vm_8 vm_9 vm_10 vm_11 vm_12 vm_13 vm_14 vm_15 vm_16 vm_17 vm_18 vm_20 vm_21 vm_22 vm_23 : Value) (hR5 : R ≤ 5) (hT6 : T ≤ 6) (hrk : rk R T f) (hj6 : j < 6) (hn3 : n ≤ 3) (htd : hw 35 3 df) : wt_M l yX6_doPour wsX6_doPour ({ frames := 2, cells := 0, slots := 0, locals := 47 } : Room) D (wt_T cI cZ cH) [.ref md, .int (nI j), .int w, .int (nI n)] [(md, .inr (6, [vm_0, vm_1, vm_2, vm_3, vm_4, .ref hs, vm_6, .ref tn, vm_8, vm_9, vm_10, vm_11, vm_12, vm_13, vm_14, vm_15, vm_16, vm_17, vm_18, .ref td, vm_20, vm_21, vm_22, vm_23])), (hs, .inl (cI, 45, .inl f)), (tn, .inl (cI, 45, .inl g)), (td, .inl (cI, 3, .inl df))] (wt_QI D (fun r w => ∃ (g2 : Nat → Int32), w = [(md, .inr (6, [vm_0, vm_1, vm_2, vm_3, vm_4, .ref hs, vm_6, .ref tn, vm_8, vm_9, vm_10, vm_11, vm_12, vm_13, vm_14, vm_15, vm_16, vm_17, vm_18, .ref td, vm_20, vm_21, vm_22, vm_23])), (hs, .inl (cI, 45, .inl f)), (tn, .inl (cI, 45, .inl g2)), (td, .inl (cI, 3, .inl df))])) := by
  refine wt_M.ofW (cc := cX6_doPour) (maxL := 8) (ret := (some .boolean)) (by decide) rfl (Nat.le_of_ble_eq_true rfl) ?_
  intro p e s m below meth c A ls hx hb hr hts hown hlocks hml hnm hP hK hD hA hS hl
  have hP : va_P D vwCl [(md, .inr (6, [vm_0, vm_1, vm_2, vm_3, vm_4, .ref hs, vm_6, .ref tn, vm_8, vm_9, vm_10, vm_11, vm_12, vm_13, vm_14, vm_15, vm_16, vm_17, vm_18, .ref td, vm_20, vm_21, vm_22, vm_23])), (hs, .inl (cI, 45, .inl f)), (tn, .inl (cI, 45, .inl g)), (td, .inl (cI, 3, .inl df))] s.heap := hP
  have hown : s.vm.findClass RX6 = some m.cls := hown
  have hl : lv_has ls 8 [(0, .ref md), (1, .int (nI j)), (2, .int w), (3, .int (nI n))] := hl
  have hi6 : ∀ w ∈ u_ws RX6 TX6 24, w ∈ wsX6_doPour := by decide +kernel
  have wf19 := hts (.fieldLink RX6 19 "WarmTubesModel" "house" "[I") (by decide +kernel)
  have wf25 := hts (.fieldLink RX6 25 "WarmTubesModel" "then" "[I") (by decide +kernel)
  have wf34 := hts (.fieldLink RX6 34 "WarmTubesModel" "tried" "[I") (by decide +kernel)
  refine lv_aload_n hx hb dX6_doPour_0 rfl (lv_at hl 0 rfl) ?_
  refine wt_goV (wr := [(td, .inl (cI, 3, .inl df))]) (wt_runV (As := []) (rest := []) ⟨hx, hb, hml, hown, hts⟩ (c_X6_layThen l D cI cZ cH md hs R T f tn g vm_0 vm_1 vm_2 vm_3 vm_4 vm_6 vm_8 vm_9 vm_10 vm_11 vm_12 vm_13 vm_14 vm_15 vm_16 vm_17 vm_18 (.ref td) vm_20 vm_21 vm_22 vm_23 (by first | assumption | omega) (by first | assumption | omega) (by first | assumption | omega)) (cwV 0 hts gX6_doPour_X6_layThen rfl rfl rfl (by decide +kernel) ⟨Nat.le_of_ble_eq_true rfl, Nat.le_of_ble_eq_true rfl⟩) hK hP hD [0, 1, 2] rfl (by decide) (va_recv hK.1 hP (ci := 6) (q0 := 0) rfl rfl) rfl hl.1 rfl (Nat.le_of_ble_eq_true rfl) dX6_doPour_1 ⟨Nat.le_of_ble_eq_true rfl, Nat.le_of_ble_eq_true rfl⟩) hP hD hS hA [0, 1, 2] [3] rfl rfl (by decide) (by decide) (fun w_2 H locs h_3 hP hD hS => ?_)
  obtain ⟨g2_4, rfl, x_5⟩ := h_3
  have hP : va_P D vwCl [(td, .inl (cI, 3, .inl df)), (md, .inr (6, [vm_0, vm_1, vm_2, vm_3, vm_4, .ref hs, vm_6, .ref tn, vm_8, vm_9, vm_10, vm_11, vm_12, vm_13, vm_14, vm_15, vm_16, vm_17, vm_18, .ref td, vm_20, vm_21, vm_22, vm_23])), (hs, .inl (cI, 45, .inl f)), (tn, .inl (cI, 45, .inl g2_4))] H := hP
  have hD : va_D A [(td, .inl (cI, 3, .inl df)), (md, .inr (6, [vm_0, vm_1, vm_2, vm_3, vm_4, .ref hs, vm_6, .ref tn, vm_8, vm_9, vm_10, vm_11, vm_12, vm_13, vm_14, vm_15, vm_16, vm_17, vm_18, .ref td, vm_20, vm_21, vm_22, vm_23])), (hs, .inl (cI, 45, .inl f)), (tn, .inl (cI, 45, .inl g2_4))] := hD
  refine lv_iconst (v := 1) hx hb dX6_doPour_4 (by decide) ?_
  refine lv_istore (lv' := [(4, .int 1), (0, .ref md), (1, .int (nI j)), (2, .int w), (3, .int (nI n))]) hx hb dX6_doPour_5 hl (by decide) rfl (fun ls hl => ?_)
  refine lv_iconst (v := 0) hx hb dX6_doPour_7 (by decide) ?_
  refine lv_istore (lv' := [(5, .int 0), (4, .int 1), (0, .ref md), (1, .int (nI j)), (2, .int w), (3, .int (nI n))]) hx hb dX6_doPour_8 hl (by decide) rfl (fun ls hl => ?_)
  have loop10 : ∀ (k i_6 : Nat) (g2_4_7 : Nat → Int32) (y_8 : Int32) (H : Heap) (locs : List Loc) (ls : Array Slot), i_6 + k = n → (rk R T g2_4_7) → va_P D vwCl [(td, .inl (cI, 3, .inl df)), (md, .inr (6, [vm_0, vm_1, vm_2, vm_3, vm_4, .ref hs, vm_6, .ref tn, vm_8, vm_9, vm_10, vm_11, vm_12, vm_13, vm_14, vm_15, vm_16, vm_17, vm_18, .ref td, vm_20, vm_21, vm_22, vm_23])), (hs, .inl (cI, 45, .inl f)), (tn, .inl (cI, 45, .inl g2_4_7))] H → va_D A [(td, .inl (cI, 3, .inl df)), (md, .inr (6, [vm_0, vm_1, vm_2, vm_3, vm_4, .ref hs, vm_6, .ref tn, vm_8, vm_9, vm_10, vm_11, vm_12, vm_13, vm_14, vm_15, vm_16, vm_17, vm_18, .ref td, vm_20, vm_21, vm_22, vm_23])), (hs, .inl (cI, 45, .inl f)), (tn, .inl (cI, 45, .inl g2_4_7))] → va_S A s.heap H locs → lv_has ls 8 [(5, .int (nI i_6)), (4, .int y_8), (0, .ref md), (1, .int (nI j)), (2, .int w), (3, .int (nI n))] → W p l e ({ frames := 2, cells := 0, slots := 0, locals := 47 } : Room) s m ([.ref md, .int (nI j), .int w, .int (nI n)] : List Value).toArray below meth c H locs 0 0 (MQ below (wt_QI D (fun r w => ∃ (g2 : Nat → Int32), w = [(md, .inr (6, [vm_0, vm_1, vm_2, vm_3, vm_4, .ref hs, vm_6, .ref tn, vm_8, vm_9, vm_10, vm_11, vm_12, vm_13, vm_14, vm_15, vm_16, vm_17, vm_18, .ref td, vm_20, vm_21, vm_22, vm_23])), (hs, .inl (cI, 45, .inl f)), (tn, .inl (cI, 45, .inl g2)), (td, .inl (cI, 3, .inl df))]) A) ([.ref md, .int (nI j), .int w, .int (nI n)] : List Value).toArray s 0 0 A) (F0 m 10 ls []) := by
    intro k
    induction k with
    | zero =>
      intro i_6 g2_4_7 y_8 H locs ls hik rk_9 hP hD hS hl
      refine lv_iload hx hb dX6_doPour_10 (lv_at hl 0 rfl) ?_
      refine lv_iload_n hx hb dX6_doPour_12 rfl (lv_at hl 5 rfl) ?_
      refine lv_icmp_ge (tgt := 123) hx hb dX6_doPour_13 (by decide) (fun _ => ?_) (fun h => absurd (nI_le (a := n) (b := i_6) (by omega) (by omega)) h)
      refine lv_iload hx hb dX6_doPour_123 (lv_at hl 1 rfl) ?_
      refine lv_if_eq (tgt := 145) hx hb dX6_doPour_125 (by decide) (fun c_10 => ?_) (fun c_10 => ?_)
      · skip
        refine lv_iconst (v := 0) hx hb dX6_doPour_145 (by decide) ?_
        have hP9 := hP.sub (ws' := [(md, .inr (6, [vm_0, vm_1, vm_2, vm_3, vm_4, .ref hs, vm_6, .ref tn, vm_8, vm_9, vm_10, vm_11, vm_12, vm_13, vm_14, vm_15, vm_16, vm_17, vm_18, .ref td, vm_20, vm_21, vm_22, vm_23])), (hs, .inl (cI, 45, .inl f)), (tn, .inl (cI, 45, .inl g2_4_7)), (td, .inl (cI, 3, .inl df))]) [1, 2, 3, 0] rfl
        have hD9 := hD.sub (ws' := [(md, .inr (6, [vm_0, vm_1, vm_2, vm_3, vm_4, .ref hs, vm_6, .ref tn, vm_8, vm_9, vm_10, vm_11, vm_12, vm_13, vm_14, vm_15, vm_16, vm_17, vm_18, .ref td, vm_20, vm_21, vm_22, vm_23])), (hs, .inl (cI, 45, .inl f)), (tn, .inl (cI, 45, .inl g2_4_7)), (td, .inl (cI, 3, .inl df))]) [1, 2, 3, 0] (by decide) rfl
        exact wt_zret hx hb hr hlocks (by decide) hP9 hD9 hS ⟨g2_4_7, rfl⟩ dX6_doPour_146
      · skip
        refine lv_aload_n hx hb dX6_doPour_128 rfl (lv_at hl 2 rfl) ?_
        refine va_get (D := D) (ci := 6) (v := .ref tn) (C := RX6) (T := TX6) (N := 24) hx hb hts hi6 hown hK.1 hP 1 rfl rfl 7 (by decide) wf25 (fun _ h9 => h9) rfl dX6_doPour_129 ?_
        refine lv_iload_n hx hb dX6_doPour_132 rfl (lv_at hl 3 rfl) ?_
        refine lv_iconst (v := 4) hx hb dX6_doPour_133 (by decide) ?_
        refine wt_rS (As := [.ref tn, .int (nI j), .int 4]) (rest := []) ⟨hx, hb, hml, hown, hts⟩ (c_X6_of_w l D cI cZ cH tn R T g2_4_7 j 4 (by first | assumption | omega) (by first | assumption | omega) (by first | assumption | omega) (by first | assumption | omega) (by first | assumption | omega)) (va_cwS 3 hts gX6_doPour_X6_of rfl rfl rfl (by decide +kernel) ⟨Nat.le_of_ble_eq_true rfl, Nat.le_of_ble_eq_true rfl⟩) hK hP [3] rfl rfl hl.1 rfl (Nat.le_of_ble_eq_true rfl) dX6_doPour_134 ⟨Nat.le_of_ble_eq_true rfl, Nat.le_of_ble_eq_true rfl⟩ (fun r_11 e_12 => ?_)
        refine lv_iload_n hx hb dX6_doPour_137 rfl (lv_at hl 4 rfl) ?_
        refine lv_icmp_ne (tgt := 145) hx hb dX6_doPour_138 (by decide) (fun c_13 => ?_) (fun c_13 => ?_)
        · skip
          refine lv_iconst (v := 0) hx hb dX6_doPour_145 (by decide) ?_
          have hP9 := hP.sub (ws' := [(md, .inr (6, [vm_0, vm_1, vm_2, vm_3, vm_4, .ref hs, vm_6, .ref tn, vm_8, vm_9, vm_10, vm_11, vm_12, vm_13, vm_14, vm_15, vm_16, vm_17, vm_18, .ref td, vm_20, vm_21, vm_22, vm_23])), (hs, .inl (cI, 45, .inl f)), (tn, .inl (cI, 45, .inl g2_4_7)), (td, .inl (cI, 3, .inl df))]) [1, 2, 3, 0] rfl
          have hD9 := hD.sub (ws' := [(md, .inr (6, [vm_0, vm_1, vm_2, vm_3, vm_4, .ref hs, vm_6, .ref tn, vm_8, vm_9, vm_10, vm_11, vm_12, vm_13, vm_14, vm_15, vm_16, vm_17, vm_18, .ref td, vm_20, vm_21, vm_22, vm_23])), (hs, .inl (cI, 45, .inl f)), (tn, .inl (cI, 45, .inl g2_4_7)), (td, .inl (cI, 3, .inl df))]) [1, 2, 3, 0] (by decide) rfl
          exact wt_zret hx hb hr hlocks (by decide) hP9 hD9 hS ⟨g2_4_7, rfl⟩ dX6_doPour_146
        · skip
          refine lv_iconst (v := 1) hx hb dX6_doPour_141 (by decide) ?_
          refine lv_goto (tgt := 146) hx hb dX6_doPour_142 (by decide) ?_
          have hP9 := hP.sub (ws' := [(md, .inr (6, [vm_0, vm_1, vm_2, vm_3, vm_4, .ref hs, vm_6, .ref tn, vm_8, vm_9, vm_10, vm_11, vm_12, vm_13, vm_14, vm_15, vm_16, vm_17, vm_18, .ref td, vm_20, vm_21, vm_22, vm_23])), (hs, .inl (cI, 45, .inl f)), (tn, .inl (cI, 45, .inl g2_4_7)), (td, .inl (cI, 3, .inl df))]) [1, 2, 3, 0] rfl
          have hD9 := hD.sub (ws' := [(md, .inr (6, [vm_0, vm_1, vm_2, vm_3, vm_4, .ref hs, vm_6, .ref tn, vm_8, vm_9, vm_10, vm_11, vm_12, vm_13, vm_14, vm_15, vm_16, vm_17, vm_18, .ref td, vm_20, vm_21, vm_22, vm_23])), (hs, .inl (cI, 45, .inl f)), (tn, .inl (cI, 45, .inl g2_4_7)), (td, .inl (cI, 3, .inl df))]) [1, 2, 3, 0] (by decide) rfl
          exact wt_zret hx hb hr hlocks (by decide) hP9 hD9 hS ⟨g2_4_7, rfl⟩ dX6_doPour_146
    | succ k ih10 =>
      intro i_6 g2_4_7 y_8 H locs ls hik rk_9 hP hD hS hl
      refine lv_iload hx hb dX6_doPour_10 (lv_at hl 0 rfl) ?_
      refine lv_iload_n hx hb dX6_doPour_12 rfl (lv_at hl 5 rfl) ?_
      refine lv_icmp_ge (tgt := 123) hx hb dX6_doPour_13 (by decide) (fun h => absurd h (nI_ge (a := i_6) (b := n) (by omega) (by omega))) (fun _ => ?_)
      refine lv_aload_n hx hb dX6_doPour_16 rfl (lv_at hl 2 rfl) ?_
      refine va_get (D := D) (ci := 6) (v := .ref td) (C := RX6) (T := TX6) (N := 24) hx hb hts hi6 hown hK.1 hP 1 rfl rfl 19 (by decide) wf34 (fun _ h9 => h9) rfl dX6_doPour_17 ?_
      refine lv_iload hx hb dX6_doPour_20 (lv_at hl 0 rfl) ?_
      refine va_iald hx hb hK.1 hP 0 0 rfl rfl (vp_in_nI (by omega) (by omega)) dX6_doPour_22 ?_
      obtain ⟨q_14, hq_14, eq_14⟩ := htd i_6 (by omega)
      refine wt_top (z := nI q_14) (by rw [nI_clamp (by omega)]; exact eq_14) ?_
      refine lv_bipush (v := 6) hx hb dX6_doPour_23 (by decide) ?_
      refine lv_idiv hx hb dX6_doPour_25 (by decide) ?_
      refine wt_top (z := nI (q_14 / 6)) (pk_div (by omega) (by decide) (by decide)) ?_
      refine lv_istore (lv' := [(6, .int (nI (q_14 / 6))), (5, .int (nI i_6)), (4, .int y_8), (0, .ref md), (1, .int (nI j)), (2, .int w), (3, .int (nI n))]) hx hb dX6_doPour_26 hl (by decide) rfl (fun ls hl => ?_)
      refine lv_aload_n hx hb dX6_doPour_28 rfl (lv_at hl 3 rfl) ?_
      refine va_get (D := D) (ci := 6) (v := .ref td) (C := RX6) (T := TX6) (N := 24) hx hb hts hi6 hown hK.1 hP 1 rfl rfl 19 (by decide) wf34 (fun _ h9 => h9) rfl dX6_doPour_29 ?_
      refine lv_iload hx hb dX6_doPour_32 (lv_at hl 1 rfl) ?_
      refine va_iald hx hb hK.1 hP 0 0 rfl rfl (vp_in_nI (by omega) (by omega)) dX6_doPour_34 ?_
      refine wt_top (z := nI q_14) (by rw [nI_clamp (by omega)]; exact eq_14) ?_
      refine lv_bipush (v := 6) hx hb dX6_doPour_35 (by decide) ?_
      refine lv_irem hx hb dX6_doPour_37 (by decide) ?_
      refine wt_top (z := nI (q_14 % 6)) (pk_rem (by omega) (by decide) (by decide)) ?_
      refine lv_istore (lv' := [(7, .int (nI (q_14 % 6))), (6, .int (nI (q_14 / 6))), (5, .int (nI i_6)), (4, .int y_8), (0, .ref md), (1, .int (nI j)), (2, .int w), (3, .int (nI n))]) hx hb dX6_doPour_38 hl (by decide) rfl (fun ls hl => ?_)
      refine lv_iload hx hb dX6_doPour_40 (lv_at hl 3 rfl) ?_
      refine lv_if_eq (tgt := 114) hx hb dX6_doPour_42 (by decide) (fun c_15 => ?_) (fun c_15 => ?_)
      · skip
        refine lv_iconst (v := 0) hx hb dX6_doPour_114 (by decide) ?_
        refine lv_istore (lv' := [(4, .int 0), (7, .int (nI (q_14 % 6))), (6, .int (nI (q_14 / 6))), (5, .int (nI i_6)), (0, .ref md), (1, .int (nI j)), (2, .int w), (3, .int (nI n))]) hx hb dX6_doPour_115 hl (by decide) rfl (fun ls hl => ?_)
        refine lv_iinc (v := nI (i_6 + 1)) (lv' := [(5, .int (nI (i_6 + 1))), (4, .int 0), (7, .int (nI (q_14 % 6))), (6, .int (nI (q_14 / 6))), (0, .ref md), (1, .int (nI j)), (2, .int w), (3, .int (nI n))]) hx hb dX6_doPour_117 hl (k := 3) rfl (nI_add i_6 1) (by decide) rfl (fun ls hl => ?_)
        refine lv_goto (tgt := 10) hx hb dX6_doPour_120 (by decide) ?_
        exact ih10 ((i_6 + 1)) g2_4_7 0 H locs ls (by omega) rk_9 hP hD hS (lv_sub hl [0, 1, 4, 5, 6, 7] rfl)
      · skip
        refine lv_iload hx hb dX6_doPour_45 (lv_at hl 1 rfl) ?_
        refine lv_iload hx hb dX6_doPour_47 (lv_at hl 0 rfl) ?_
        refine lv_icmp_eq (tgt := 114) hx hb dX6_doPour_49 (by decide) (fun c_16 => ?_) (fun c_16 => ?_)
        · skip
          have c_16 : (q_14 / 6) = (q_14 % 6) := (nI_eq (a := (q_14 / 6)) (b := (q_14 % 6)) (by omega) (by omega)).mp c_16
          refine lv_iconst (v := 0) hx hb dX6_doPour_114 (by decide) ?_
          refine lv_istore (lv' := [(4, .int 0), (7, .int (nI (q_14 % 6))), (6, .int (nI (q_14 / 6))), (5, .int (nI i_6)), (0, .ref md), (1, .int (nI j)), (2, .int w), (3, .int (nI n))]) hx hb dX6_doPour_115 hl (by decide) rfl (fun ls hl => ?_)
          refine lv_iinc (v := nI (i_6 + 1)) (lv' := [(5, .int (nI (i_6 + 1))), (4, .int 0), (7, .int (nI (q_14 % 6))), (6, .int (nI (q_14 / 6))), (0, .ref md), (1, .int (nI j)), (2, .int w), (3, .int (nI n))]) hx hb dX6_doPour_117 hl (k := 3) rfl (nI_add i_6 1) (by decide) rfl (fun ls hl => ?_)
          refine lv_goto (tgt := 10) hx hb dX6_doPour_120 (by decide) ?_
          exact ih10 ((i_6 + 1)) g2_4_7 0 H locs ls (by omega) rk_9 hP hD hS (lv_sub hl [0, 1, 4, 5, 6, 7] rfl)
        · skip
          have c_16 : ¬ ((q_14 / 6) = (q_14 % 6)) := fun h => c_16 ((nI_eq (a := (q_14 / 6)) (b := (q_14 % 6)) (by omega) (by omega)).mpr h)
          refine lv_iload hx hb dX6_doPour_52 (lv_at hl 1 rfl) ?_
          refine lv_aload_n hx hb dX6_doPour_54 rfl (lv_at hl 4 rfl) ?_
          refine va_get (D := D) (ci := 6) (v := .ref hs) (C := RX6) (T := TX6) (N := 24) hx hb hts hi6 hown hK.1 hP 1 rfl rfl 5 (by decide) wf19 (fun _ h9 => h9) rfl dX6_doPour_55 ?_
          refine lv_iconst (v := 1) hx hb dX6_doPour_58 (by decide) ?_
          refine va_iald hx hb hK.1 hP 2 0 rfl rfl (by rw [vp_in_iff]; decide) dX6_doPour_59 ?_
          refine wt_top (z := nI T) (hrk.2.1) ?_
          refine lv_icmp_ge (tgt := 114) hx hb dX6_doPour_60 (by decide) (fun c_17 => ?_) (fun c_17 => ?_)
          · skip
            have c_17 : T ≤ (q_14 / 6) := (nI_leI (a := T) (b := (q_14 / 6)) (by omega) (by omega)).mp c_17
            refine lv_iconst (v := 0) hx hb dX6_doPour_114 (by decide) ?_
            refine lv_istore (lv' := [(4, .int 0), (7, .int (nI (q_14 % 6))), (6, .int (nI (q_14 / 6))), (5, .int (nI i_6)), (0, .ref md), (1, .int (nI j)), (2, .int w), (3, .int (nI n))]) hx hb dX6_doPour_115 hl (by decide) rfl (fun ls hl => ?_)
            refine lv_iinc (v := nI (i_6 + 1)) (lv' := [(5, .int (nI (i_6 + 1))), (4, .int 0), (7, .int (nI (q_14 % 6))), (6, .int (nI (q_14 / 6))), (0, .ref md), (1, .int (nI j)), (2, .int w), (3, .int (nI n))]) hx hb dX6_doPour_117 hl (k := 3) rfl (nI_add i_6 1) (by decide) rfl (fun ls hl => ?_)
            refine lv_goto (tgt := 10) hx hb dX6_doPour_120 (by decide) ?_
            exact ih10 ((i_6 + 1)) g2_4_7 0 H locs ls (by omega) rk_9 hP hD hS (lv_sub hl [0, 1, 4, 5, 6, 7] rfl)
          · skip
            have c_17 : ¬ (T ≤ (q_14 / 6)) := fun h => c_17 ((nI_leI (a := T) (b := (q_14 / 6)) (by omega) (by omega)).mpr h)
            refine lv_iload hx hb dX6_doPour_63 (lv_at hl 0 rfl) ?_
            refine lv_aload_n hx hb dX6_doPour_65 rfl (lv_at hl 4 rfl) ?_
            refine va_get (D := D) (ci := 6) (v := .ref hs) (C := RX6) (T := TX6) (N := 24) hx hb hts hi6 hown hK.1 hP 1 rfl rfl 5 (by decide) wf19 (fun _ h9 => h9) rfl dX6_doPour_66 ?_
            refine lv_iconst (v := 1) hx hb dX6_doPour_69 (by decide) ?_
            refine va_iald hx hb hK.1 hP 2 0 rfl rfl (by rw [vp_in_iff]; decide) dX6_doPour_70 ?_
            refine wt_top (z := nI T) (hrk.2.1) ?_
            refine lv_icmp_ge (tgt := 114) hx hb dX6_doPour_71 (by decide) (fun c_18 => ?_) (fun c_18 => ?_)
            · skip
              have c_18 : T ≤ (q_14 % 6) := (nI_leI (a := T) (b := (q_14 % 6)) (by omega) (by omega)).mp c_18
              refine lv_iconst (v := 0) hx hb dX6_doPour_114 (by decide) ?_
              refine lv_istore (lv' := [(4, .int 0), (7, .int (nI (q_14 % 6))), (6, .int (nI (q_14 / 6))), (5, .int (nI i_6)), (0, .ref md), (1, .int (nI j)), (2, .int w), (3, .int (nI n))]) hx hb dX6_doPour_115 hl (by decide) rfl (fun ls hl => ?_)
              refine lv_iinc (v := nI (i_6 + 1)) (lv' := [(5, .int (nI (i_6 + 1))), (4, .int 0), (7, .int (nI (q_14 % 6))), (6, .int (nI (q_14 / 6))), (0, .ref md), (1, .int (nI j)), (2, .int w), (3, .int (nI n))]) hx hb dX6_doPour_117 hl (k := 3) rfl (nI_add i_6 1) (by decide) rfl (fun ls hl => ?_)
              refine lv_goto (tgt := 10) hx hb dX6_doPour_120 (by decide) ?_
              exact ih10 ((i_6 + 1)) g2_4_7 0 H locs ls (by omega) rk_9 hP hD hS (lv_sub hl [0, 1, 4, 5, 6, 7] rfl)
            · skip
              have c_18 : ¬ (T ≤ (q_14 % 6)) := fun h => c_18 ((nI_leI (a := T) (b := (q_14 % 6)) (by omega) (by omega)).mpr h)
              refine lv_aload_n hx hb dX6_doPour_74 rfl (lv_at hl 4 rfl) ?_
              refine va_get (D := D) (ci := 6) (v := .ref hs) (C := RX6) (T := TX6) (N := 24) hx hb hts hi6 hown hK.1 hP 1 rfl rfl 5 (by decide) wf19 (fun _ h9 => h9) rfl dX6_doPour_75 ?_
              refine lv_iload hx hb dX6_doPour_78 (lv_at hl 1 rfl) ?_
              refine lv_iconst (v := 1) hx hb dX6_doPour_80 (by decide) ?_
              refine wt_rS (As := [.ref hs, .int (nI (q_14 / 6)), .int 1]) (rest := []) ⟨hx, hb, hml, hown, hts⟩ (c_X6_of_1 l D cI cZ cH hs R T f (q_14 / 6) (by first | assumption | omega) (by first | assumption | omega) (by first | assumption | omega) (by first | assumption | omega)) (va_cwS 3 hts gX6_doPour_X6_of rfl rfl rfl (by decide +kernel) ⟨Nat.le_of_ble_eq_true rfl, Nat.le_of_ble_eq_true rfl⟩) hK hP [2] rfl rfl hl.1 rfl (Nat.le_of_ble_eq_true rfl) dX6_doPour_81 ⟨Nat.le_of_ble_eq_true rfl, Nat.le_of_ble_eq_true rfl⟩ (fun r_19 e_20 => ?_)
              obtain ⟨q_21, e_20, rfl⟩ := e_20
              refine lv_aload_n hx hb dX6_doPour_84 rfl (lv_at hl 4 rfl) ?_
              refine va_get (D := D) (ci := 6) (v := .ref hs) (C := RX6) (T := TX6) (N := 24) hx hb hts hi6 hown hK.1 hP 1 rfl rfl 5 (by decide) wf19 (fun _ h9 => h9) rfl dX6_doPour_85 ?_
              refine lv_iload_n hx hb dX6_doPour_88 rfl (lv_at hl 5 rfl) ?_
              refine lv_iconst (v := 1) hx hb dX6_doPour_89 (by decide) ?_
              refine wt_rS (As := [.ref hs, .int (nI j), .int 1]) (rest := [.int (nI q_21)]) ⟨hx, hb, hml, hown, hts⟩ (c_X6_of_1 l D cI cZ cH hs R T f j (by first | assumption | omega) (by first | assumption | omega) (by first | assumption | omega) (by first | assumption | omega)) (va_cwS 3 hts gX6_doPour_X6_of rfl rfl rfl (by decide +kernel) ⟨Nat.le_of_ble_eq_true rfl, Nat.le_of_ble_eq_true rfl⟩) hK hP [2] rfl rfl hl.1 rfl (Nat.le_of_ble_eq_true rfl) dX6_doPour_90 ⟨Nat.le_of_ble_eq_true rfl, Nat.le_of_ble_eq_true rfl⟩ (fun r_22 e_23 => ?_)
              obtain ⟨q_24, e_23, rfl⟩ := e_23
              refine lv_icmp_ne (tgt := 114) hx hb dX6_doPour_93 (by decide) (fun c_25 => ?_) (fun c_25 => ?_)
              · skip
                have c_25 : ¬ (q_21 = q_24) := fun h => c_25 ((nI_eq (a := q_21) (b := q_24) (by omega) (by omega)).mpr h)
                refine lv_iconst (v := 0) hx hb dX6_doPour_114 (by decide) ?_
                refine lv_istore (lv' := [(4, .int 0), (7, .int (nI (q_14 % 6))), (6, .int (nI (q_14 / 6))), (5, .int (nI i_6)), (0, .ref md), (1, .int (nI j)), (2, .int w), (3, .int (nI n))]) hx hb dX6_doPour_115 hl (by decide) rfl (fun ls hl => ?_)
                refine lv_iinc (v := nI (i_6 + 1)) (lv' := [(5, .int (nI (i_6 + 1))), (4, .int 0), (7, .int (nI (q_14 % 6))), (6, .int (nI (q_14 / 6))), (0, .ref md), (1, .int (nI j)), (2, .int w), (3, .int (nI n))]) hx hb dX6_doPour_117 hl (k := 3) rfl (nI_add i_6 1) (by decide) rfl (fun ls hl => ?_)
                refine lv_goto (tgt := 10) hx hb dX6_doPour_120 (by decide) ?_
                exact ih10 ((i_6 + 1)) g2_4_7 0 H locs ls (by omega) rk_9 hP hD hS (lv_sub hl [0, 1, 4, 5, 6, 7] rfl)
              · skip
                have c_25 : q_21 = q_24 := (nI_eq (a := q_21) (b := q_24) (by omega) (by omega)).mp c_25
                refine lv_aload_n hx hb dX6_doPour_96 rfl (lv_at hl 4 rfl) ?_
                refine va_get (D := D) (ci := 6) (v := .ref tn) (C := RX6) (T := TX6) (N := 24) hx hb hts hi6 hown hK.1 hP 1 rfl rfl 7 (by decide) wf25 (fun _ h9 => h9) rfl dX6_doPour_97 ?_
                refine lv_iload hx hb dX6_doPour_100 (lv_at hl 1 rfl) ?_
                refine lv_iload hx hb dX6_doPour_102 (lv_at hl 0 rfl) ?_
                refine wt_goI (wr := [(td, .inl (cI, 3, .inl df)), (md, .inr (6, [vm_0, vm_1, vm_2, vm_3, vm_4, .ref hs, vm_6, .ref tn, vm_8, vm_9, vm_10, vm_11, vm_12, vm_13, vm_14, vm_15, vm_16, vm_17, vm_18, .ref td, vm_20, vm_21, vm_22, vm_23])), (hs, .inl (cI, 45, .inl f))]) (wt_runS (As := [.ref tn, .int (nI (q_14 / 6)), .int (nI (q_14 % 6))]) (rest := []) ⟨hx, hb, hml, hown, hts⟩ (c_X6_poured l D cI cZ cH tn R T g2_4_7 (q_14 / 6) (q_14 % 6) (by first | assumption | omega) (by first | assumption | omega) (by first | assumption | omega) (by first | assumption | omega) (by first | assumption | omega)) (va_cwS 3 hts gX6_doPour_X6_poured rfl rfl rfl (by decide +kernel) ⟨Nat.le_of_ble_eq_true rfl, Nat.le_of_ble_eq_true rfl⟩) hK hP hD [3] rfl (by decide) rfl hl.1 rfl (Nat.le_of_ble_eq_true rfl) dX6_doPour_104 ⟨Nat.le_of_ble_eq_true rfl, Nat.le_of_ble_eq_true rfl⟩) hP hD hS hA [3] [0, 1, 2] rfl rfl (by decide) (by decide) (fun r_26 w_27 H locs h_28 hP hD hS => ?_)
                obtain ⟨f2_29, rfl, x_30⟩ := h_28
                have hP : va_P D vwCl [(td, .inl (cI, 3, .inl df)), (md, .inr (6, [vm_0, vm_1, vm_2, vm_3, vm_4, .ref hs, vm_6, .ref tn, vm_8, vm_9, vm_10, vm_11, vm_12, vm_13, vm_14, vm_15, vm_16, vm_17, vm_18, .ref td, vm_20, vm_21, vm_22, vm_23])), (hs, .inl (cI, 45, .inl f)), (tn, .inl (cI, 45, .inl f2_29))] H := hP
                have hD : va_D A [(td, .inl (cI, 3, .inl df)), (md, .inr (6, [vm_0, vm_1, vm_2, vm_3, vm_4, .ref hs, vm_6, .ref tn, vm_8, vm_9, vm_10, vm_11, vm_12, vm_13, vm_14, vm_15, vm_16, vm_17, vm_18, .ref td, vm_20, vm_21, vm_22, vm_23])), (hs, .inl (cI, 45, .inl f)), (tn, .inl (cI, 45, .inl f2_29))] := hD
                refine lv_if_le (tgt := 114) hx hb dX6_doPour_107 (by decide) (fun c_31 => ?_) (fun c_31 => ?_)
                · skip
                  refine lv_iconst (v := 0) hx hb dX6_doPour_114 (by decide) ?_
                  refine lv_istore (lv' := [(4, .int 0), (7, .int (nI (q_14 % 6))), (6, .int (nI (q_14 / 6))), (5, .int (nI i_6)), (0, .ref md), (1, .int (nI j)), (2, .int w), (3, .int (nI n))]) hx hb dX6_doPour_115 hl (by decide) rfl (fun ls hl => ?_)
                  refine lv_iinc (v := nI (i_6 + 1)) (lv' := [(5, .int (nI (i_6 + 1))), (4, .int 0), (7, .int (nI (q_14 % 6))), (6, .int (nI (q_14 / 6))), (0, .ref md), (1, .int (nI j)), (2, .int w), (3, .int (nI n))]) hx hb dX6_doPour_117 hl (k := 3) rfl (nI_add i_6 1) (by decide) rfl (fun ls hl => ?_)
                  refine lv_goto (tgt := 10) hx hb dX6_doPour_120 (by decide) ?_
                  exact ih10 ((i_6 + 1)) f2_29 0 H locs ls (by omega) x_30 hP hD hS (lv_sub hl [0, 1, 4, 5, 6, 7] rfl)
                · skip
                  refine lv_iconst (v := 1) hx hb dX6_doPour_110 (by decide) ?_
                  refine lv_goto (tgt := 115) hx hb dX6_doPour_111 (by decide) ?_
                  refine lv_istore (lv' := [(4, .int 1), (7, .int (nI (q_14 % 6))), (6, .int (nI (q_14 / 6))), (5, .int (nI i_6)), (0, .ref md), (1, .int (nI j)), (2, .int w), (3, .int (nI n))]) hx hb dX6_doPour_115 hl (by decide) rfl (fun ls hl => ?_)
                  refine lv_iinc (v := nI (i_6 + 1)) (lv' := [(5, .int (nI (i_6 + 1))), (4, .int 1), (7, .int (nI (q_14 % 6))), (6, .int (nI (q_14 / 6))), (0, .ref md), (1, .int (nI j)), (2, .int w), (3, .int (nI n))]) hx hb dX6_doPour_117 hl (k := 3) rfl (nI_add i_6 1) (by decide) rfl (fun ls hl => ?_)
                  refine lv_goto (tgt := 10) hx hb dX6_doPour_120 (by decide) ?_
                  exact ih10 ((i_6 + 1)) f2_29 1 H locs ls (by omega) x_30 hP hD hS (lv_sub hl [0, 1, 4, 5, 6, 7] rfl)
  exact loop10 (n - 0) (0) g2_4 1 _ _ ls (by omega) x_5 hP hD hS hl
set_option maxHeartbeats 4000000 in
set_option maxRecDepth 100000 in
theorem c_X6_pours (l : Launch) (D : va_G) (cI cZ cH : ClassId) (md hs : Nat) (R T : Nat) (f : Nat → Int32) (tn : Nat) (g : Nat → Int32) (td : Nat) (df : Nat → Int32) (a1 a2 a3 : Int32) (vm_0 vm_1 vm_2 vm_3 vm_4 vm_6 vm_8 vm_9 vm_10 vm_11 vm_12 vm_13 vm_14 vm_15 vm_16 vm_17 vm_18 vm_20 vm_21 vm_22 vm_23 : Value) (hR5 : R ≤ 5) (hT6 : T ≤ 6) (hrk : rk R T f) (htd : hw 35 3 df) : wt_M l yX6_pours wsX6_pours ({ frames := 3, cells := 0, slots := 0, locals := 74 } : Room) D (wt_T cI cZ cH) [.ref md, .int a1, .int a2, .int a3] [(md, .inr (6, [vm_0, vm_1, vm_2, vm_3, vm_4, .ref hs, vm_6, .ref tn, vm_8, vm_9, vm_10, vm_11, vm_12, vm_13, vm_14, vm_15, vm_16, vm_17, vm_18, .ref td, vm_20, vm_21, vm_22, vm_23])), (hs, .inl (cI, 45, .inl f)), (tn, .inl (cI, 45, .inl g)), (td, .inl (cI, 3, .inl df))] (wt_QI D (fun r w => ∃ (g2 df2 : Nat → Int32), w = [(md, .inr (6, [.int 0, vm_1, vm_2, vm_3, vm_4, .ref hs, vm_6, .ref tn, vm_8, vm_9, vm_10, vm_11, vm_12, vm_13, vm_14, vm_15, vm_16, vm_17, vm_18, .ref td, vm_20, vm_21, vm_22, vm_23])), (hs, .inl (cI, 45, .inl f)), (tn, .inl (cI, 45, .inl g2)), (td, .inl (cI, 3, .inl df2))] ∧ hw 35 3 df2)) := by
  refine wt_M.ofW (cc := cX6_pours) (maxL := 9) (ret := (some .int)) (by decide) rfl (Nat.le_of_ble_eq_true rfl) ?_
  intro p e s m below meth c A ls hx hb hr hts hown hlocks hml hnm hP hK hD hA hS hl
  have hP : va_P D vwCl [(md, .inr (6, [vm_0, vm_1, vm_2, vm_3, vm_4, .ref hs, vm_6, .ref tn, vm_8, vm_9, vm_10, vm_11, vm_12, vm_13, vm_14, vm_15, vm_16, vm_17, vm_18, .ref td, vm_20, vm_21, vm_22, vm_23])), (hs, .inl (cI, 45, .inl f)), (tn, .inl (cI, 45, .inl g)), (td, .inl (cI, 3, .inl df))] s.heap := hP
  have hown : s.vm.findClass RX6 = some m.cls := hown
  have hl : lv_has ls 9 [(0, .ref md), (1, .int a1), (2, .int a2), (3, .int a3)] := hl
  have hi6 : ∀ w ∈ u_ws RX6 TX6 24, w ∈ wsX6_pours := by decide +kernel
  have wc67 := hts (.constant RX6 67 (-1000001)) (by decide +kernel)
  have wc90 := hts (.constant RX6 90 (-1000000)) (by decide +kernel)
  have wf34 := hts (.fieldLink RX6 34 "WarmTubesModel" "tried" "[I") (by decide +kernel)
  have wf47 := hts (.fieldLink RX6 47 "WarmTubesModel" "thrown" "I") (by decide +kernel)
  have wl250 := hts (.constantLong RX6 250 (40)) (by decide +kernel)
  refine lv_aload_n hx hb dX6_pours_0 rfl (lv_at hl 0 rfl) ?_
  refine lv_iconst (v := 0) hx hb dX6_pours_1 (by decide) ?_
  refine va_put (D := D) (ci := 6) (v := .int 0) (ty := .int) (C := RX6) (T := TX6) (N := 24) hx hb hts hi6 tyX6 tyX6_ok nmX6 hown hK.1 hP hD hS 0 rfl rfl 0 (by decide) wf47 (fun _ h9 => h9) rfl (by decide +kernel) rfl rfl (Nat.le_of_ble_eq_true rfl) dX6_pours_2 (fun H locs hP hD hS => ?_)
  have hP : va_P D vwCl [(md, .inr (6, [.int 0, vm_1, vm_2, vm_3, vm_4, .ref hs, vm_6, .ref tn, vm_8, vm_9, vm_10, vm_11, vm_12, vm_13, vm_14, vm_15, vm_16, vm_17, vm_18, .ref td, vm_20, vm_21, vm_22, vm_23])), (hs, .inl (cI, 45, .inl f)), (tn, .inl (cI, 45, .inl g)), (td, .inl (cI, 3, .inl df))] H := hP
  have hD : va_D A [(md, .inr (6, [.int 0, vm_1, vm_2, vm_3, vm_4, .ref hs, vm_6, .ref tn, vm_8, vm_9, vm_10, vm_11, vm_12, vm_13, vm_14, vm_15, vm_16, vm_17, vm_18, .ref td, vm_20, vm_21, vm_22, vm_23])), (hs, .inl (cI, 45, .inl f)), (tn, .inl (cI, 45, .inl g)), (td, .inl (cI, 3, .inl df))] := hD
  refine lv_aload_n hx hb dX6_pours_5 rfl (lv_at hl 0 rfl) ?_
  refine lv_iload_n hx hb dX6_pours_6 rfl (lv_at hl 1 rfl) ?_
  refine wt_rV (As := [.int a1]) (rest := []) ⟨hx, hb, hml, hown, hts⟩ (c_X6_isTube l D cI cZ cH md hs R T f a1 (.int 0) vm_1 vm_2 vm_3 vm_4 vm_6 (.ref tn) vm_8 vm_9 vm_10 vm_11 vm_12 vm_13 vm_14 vm_15 vm_16 vm_17 vm_18 (.ref td) vm_20 vm_21 vm_22 vm_23 (by first | assumption | omega) (by first | assumption | omega) (by first | assumption | omega)) (cwV 1 hts gX6_pours_X6_isTube rfl rfl rfl (by decide +kernel) ⟨Nat.le_of_ble_eq_true rfl, Nat.le_of_ble_eq_true rfl⟩) hK hP [0, 1] rfl (va_recv hK.1 hP (ci := 6) (q0 := 0) rfl rfl) rfl hl.1 rfl (Nat.le_of_ble_eq_true rfl) dX6_pours_7 ⟨Nat.le_of_ble_eq_true rfl, Nat.le_of_ble_eq_true rfl⟩ (fun r_1 e_2 => ?_)
  subst e_2
  refine lv_if_eq (tgt := 30) hx hb dX6_pours_10 (by decide) (fun c_3 => ?_) (fun c_3 => ?_)
  · skip
    refine lv_ldc hx hb hown wc67 dX6_pours_30 ?_
    have hP9 := hP.sub (ws' := [(md, .inr (6, [.int 0, vm_1, vm_2, vm_3, vm_4, .ref hs, vm_6, .ref tn, vm_8, vm_9, vm_10, vm_11, vm_12, vm_13, vm_14, vm_15, vm_16, vm_17, vm_18, .ref td, vm_20, vm_21, vm_22, vm_23])), (hs, .inl (cI, 45, .inl f)), (tn, .inl (cI, 45, .inl g)), (td, .inl (cI, 3, .inl df))]) [0, 1, 2, 3] rfl
    have hD9 := hD.sub (ws' := [(md, .inr (6, [.int 0, vm_1, vm_2, vm_3, vm_4, .ref hs, vm_6, .ref tn, vm_8, vm_9, vm_10, vm_11, vm_12, vm_13, vm_14, vm_15, vm_16, vm_17, vm_18, .ref td, vm_20, vm_21, vm_22, vm_23])), (hs, .inl (cI, 45, .inl f)), (tn, .inl (cI, 45, .inl g)), (td, .inl (cI, 3, .inl df))]) [0, 1, 2, 3] (by decide) rfl
    exact wt_iret hx hb hr hlocks hP9 hD9 hS ⟨g, df, rfl, htd⟩ dX6_pours_32
  · skip
    obtain ⟨j_4, hj_4, rfl⟩ := wI_natT (T := T) (by omega) c_3
    refine lv_iload_n hx hb dX6_pours_13 rfl (lv_at hl 2 rfl) ?_
    refine lv_i2l hx hb dX6_pours_14 rfl ?_
    refine lv_lconst (v := 0) hx hb dX6_pours_15 (by decide) ?_
    refine lv_ldc2 hx hb hown wl250 dX6_pours_16 ?_
    refine wt_rS (As := [.long a2.toInt64, .long 0, .long 40]) (rest := []) ⟨hx, hb, hml, hown, hts⟩ (c_X6_in l D cI cZ cH a2.toInt64 0 40) (va_cwS 3 hts gX6_pours_X6_in rfl rfl rfl (by decide +kernel) ⟨Nat.le_of_ble_eq_true rfl, Nat.le_of_ble_eq_true rfl⟩) hK hP [] rfl rfl hl.1 rfl (Nat.le_of_ble_eq_true rfl) dX6_pours_19 ⟨Nat.le_of_ble_eq_true rfl, Nat.le_of_ble_eq_true rfl⟩ (fun r_5 e_6 => ?_)
    subst e_6
    refine wt_top (z := wI a2 0 40) (wL_I' (by decide) (by decide)) ?_
    refine lv_if_eq (tgt := 30) hx hb dX6_pours_22 (by decide) (fun c_7 => ?_) (fun c_7 => ?_)
    · skip
      refine lv_ldc hx hb hown wc67 dX6_pours_30 ?_
      have hP9 := hP.sub (ws' := [(md, .inr (6, [.int 0, vm_1, vm_2, vm_3, vm_4, .ref hs, vm_6, .ref tn, vm_8, vm_9, vm_10, vm_11, vm_12, vm_13, vm_14, vm_15, vm_16, vm_17, vm_18, .ref td, vm_20, vm_21, vm_22, vm_23])), (hs, .inl (cI, 45, .inl f)), (tn, .inl (cI, 45, .inl g)), (td, .inl (cI, 3, .inl df))]) [0, 1, 2, 3] rfl
      have hD9 := hD.sub (ws' := [(md, .inr (6, [.int 0, vm_1, vm_2, vm_3, vm_4, .ref hs, vm_6, .ref tn, vm_8, vm_9, vm_10, vm_11, vm_12, vm_13, vm_14, vm_15, vm_16, vm_17, vm_18, .ref td, vm_20, vm_21, vm_22, vm_23])), (hs, .inl (cI, 45, .inl f)), (tn, .inl (cI, 45, .inl g)), (td, .inl (cI, 3, .inl df))]) [0, 1, 2, 3] (by decide) rfl
      exact wt_iret hx hb hr hlocks hP9 hD9 hS ⟨g, df, rfl, htd⟩ dX6_pours_32
    · skip
      obtain ⟨j_8, hj_8, hj_8b, rfl⟩ := wI_nat (a := 0) (b := 40) (by omega) (by omega) c_7
      refine lv_iload_n hx hb dX6_pours_25 rfl (lv_at hl 3 rfl) ?_
      refine lv_iconst (v := (-1)) hx hb dX6_pours_26 (by decide) ?_
      refine lv_icmp_ge (tgt := 33) hx hb dX6_pours_27 (by decide) (fun c_9 => ?_) (fun c_9 => ?_)
      · skip
        refine lv_iconst (v := 1) hx hb dX6_pours_33 (by decide) ?_
        refine lv_istore (lv' := [(4, .int 1), (0, .ref md), (1, .int (nI j_4)), (2, .int (nI j_8)), (3, .int a3)]) hx hb dX6_pours_34 hl (by decide) rfl (fun ls hl => ?_)
        refine lv_iconst (v := 0) hx hb dX6_pours_36 (by decide) ?_
        refine lv_istore (lv' := [(5, .int 0), (4, .int 1), (0, .ref md), (1, .int (nI j_4)), (2, .int (nI j_8)), (3, .int a3)]) hx hb dX6_pours_37 hl (by decide) rfl (fun ls hl => ?_)
        refine lv_iload hx hb dX6_pours_39 (lv_at hl 0 rfl) ?_
        refine lv_iconst (v := 3) hx hb dX6_pours_41 (by decide) ?_
        refine lv_icmp_gt (tgt := 169) hx hb dX6_pours_42 (by decide) (fun h => absurd h (by decide)) (fun _ => ?_)
        refine lv_iconst (v := 0) hx hb dX6_pours_45 (by decide) ?_
        refine lv_istore (lv' := [(6, .int 0), (5, .int 0), (4, .int 1), (0, .ref md), (1, .int (nI j_4)), (2, .int (nI j_8)), (3, .int a3)]) hx hb dX6_pours_46 hl (by decide) rfl (fun ls hl => ?_)
        have loop48 : ∀ (k i_10 : Nat) (g_11 : Nat → Int32) (df_12 : Nat → Int32) (H : Heap) (locs : List Loc) (ls : Array Slot), i_10 + k = 1 → (hw 35 3 df_12) → va_P D vwCl [(md, .inr (6, [.int 0, vm_1, vm_2, vm_3, vm_4, .ref hs, vm_6, .ref tn, vm_8, vm_9, vm_10, vm_11, vm_12, vm_13, vm_14, vm_15, vm_16, vm_17, vm_18, .ref td, vm_20, vm_21, vm_22, vm_23])), (hs, .inl (cI, 45, .inl f)), (tn, .inl (cI, 45, .inl g_11)), (td, .inl (cI, 3, .inl df_12))] H → va_D A [(md, .inr (6, [.int 0, vm_1, vm_2, vm_3, vm_4, .ref hs, vm_6, .ref tn, vm_8, vm_9, vm_10, vm_11, vm_12, vm_13, vm_14, vm_15, vm_16, vm_17, vm_18, .ref td, vm_20, vm_21, vm_22, vm_23])), (hs, .inl (cI, 45, .inl f)), (tn, .inl (cI, 45, .inl g_11)), (td, .inl (cI, 3, .inl df_12))] → va_S A s.heap H locs → lv_has ls 9 [(6, .int (nI i_10)), (5, .int 0), (4, .int 1), (0, .ref md), (1, .int (nI j_4)), (2, .int (nI j_8)), (3, .int a3)] → W p l e ({ frames := 3, cells := 0, slots := 0, locals := 74 } : Room) s m ([.ref md, .int (nI j_4), .int (nI j_8), .int a3] : List Value).toArray below meth c H locs 0 0 (MQ below (wt_QI D (fun r w => ∃ (g2 df2 : Nat → Int32), w = [(md, .inr (6, [.int 0, vm_1, vm_2, vm_3, vm_4, .ref hs, vm_6, .ref tn, vm_8, vm_9, vm_10, vm_11, vm_12, vm_13, vm_14, vm_15, vm_16, vm_17, vm_18, .ref td, vm_20, vm_21, vm_22, vm_23])), (hs, .inl (cI, 45, .inl f)), (tn, .inl (cI, 45, .inl g2)), (td, .inl (cI, 3, .inl df2))] ∧ hw 35 3 df2) A) ([.ref md, .int (nI j_4), .int (nI j_8), .int a3] : List Value).toArray s 0 0 A) (F0 m 48 ls []) := by
          intro k
          induction k with
          | zero =>
            intro i_10 g_11 df_12 H locs ls hik hw_13 hP hD hS hl
            refine lv_iload hx hb dX6_pours_48 (lv_at hl 0 rfl) ?_
            refine lv_iload hx hb dX6_pours_50 (lv_at hl 2 rfl) ?_
            refine lv_icmp_ge (tgt := 156) hx hb dX6_pours_52 (by decide) (fun _ => ?_) (fun h => absurd (nI_le (a := 1) (b := i_10) (by omega) (by omega)) h)
            refine lv_iload hx hb dX6_pours_156 (lv_at hl 2 rfl) ?_
            refine lv_bipush (v := 36) hx hb dX6_pours_158 (by decide) ?_
            refine lv_imul hx hb dX6_pours_160 ?_
            refine wt_top (z := 36) (by decide) ?_
            refine lv_istore (lv' := [(4, .int 36), (6, .int (nI i_10)), (5, .int 0), (0, .ref md), (1, .int (nI j_4)), (2, .int (nI j_8)), (3, .int a3)]) hx hb dX6_pours_161 hl (by decide) rfl (fun ls hl => ?_)
            refine lv_iinc (v := 1) (lv' := [(5, .int 1), (4, .int 36), (6, .int (nI i_10)), (0, .ref md), (1, .int (nI j_4)), (2, .int (nI j_8)), (3, .int a3)]) hx hb dX6_pours_163 hl (k := 2) rfl (by decide) (by decide) rfl (fun ls hl => ?_)
            refine lv_goto (tgt := 39) hx hb dX6_pours_166 (by decide) ?_
            refine lv_iload hx hb dX6_pours_39 (lv_at hl 0 rfl) ?_
            refine lv_iconst (v := 3) hx hb dX6_pours_41 (by decide) ?_
            refine lv_icmp_gt (tgt := 169) hx hb dX6_pours_42 (by decide) (fun h => absurd h (by decide)) (fun _ => ?_)
            refine lv_iconst (v := 0) hx hb dX6_pours_45 (by decide) ?_
            refine lv_istore (lv' := [(6, .int 0), (5, .int 1), (4, .int 36), (0, .ref md), (1, .int (nI j_4)), (2, .int (nI j_8)), (3, .int a3)]) hx hb dX6_pours_46 hl (by decide) rfl (fun ls hl => ?_)
            have loop48 : ∀ (k i_14 : Nat) (g_11_15 : Nat → Int32) (df_12_16 : Nat → Int32) (H : Heap) (locs : List Loc) (ls : Array Slot), i_14 + k = 36 → (hw 35 3 df_12_16) → va_P D vwCl [(md, .inr (6, [.int 0, vm_1, vm_2, vm_3, vm_4, .ref hs, vm_6, .ref tn, vm_8, vm_9, vm_10, vm_11, vm_12, vm_13, vm_14, vm_15, vm_16, vm_17, vm_18, .ref td, vm_20, vm_21, vm_22, vm_23])), (hs, .inl (cI, 45, .inl f)), (tn, .inl (cI, 45, .inl g_11_15)), (td, .inl (cI, 3, .inl df_12_16))] H → va_D A [(md, .inr (6, [.int 0, vm_1, vm_2, vm_3, vm_4, .ref hs, vm_6, .ref tn, vm_8, vm_9, vm_10, vm_11, vm_12, vm_13, vm_14, vm_15, vm_16, vm_17, vm_18, .ref td, vm_20, vm_21, vm_22, vm_23])), (hs, .inl (cI, 45, .inl f)), (tn, .inl (cI, 45, .inl g_11_15)), (td, .inl (cI, 3, .inl df_12_16))] → va_S A s.heap H locs → lv_has ls 9 [(6, .int (nI i_14)), (5, .int 1), (4, .int 36), (0, .ref md), (1, .int (nI j_4)), (2, .int (nI j_8)), (3, .int a3)] → W p l e ({ frames := 3, cells := 0, slots := 0, locals := 74 } : Room) s m ([.ref md, .int (nI j_4), .int (nI j_8), .int a3] : List Value).toArray below meth c H locs 0 0 (MQ below (wt_QI D (fun r w => ∃ (g2 df2 : Nat → Int32), w = [(md, .inr (6, [.int 0, vm_1, vm_2, vm_3, vm_4, .ref hs, vm_6, .ref tn, vm_8, vm_9, vm_10, vm_11, vm_12, vm_13, vm_14, vm_15, vm_16, vm_17, vm_18, .ref td, vm_20, vm_21, vm_22, vm_23])), (hs, .inl (cI, 45, .inl f)), (tn, .inl (cI, 45, .inl g2)), (td, .inl (cI, 3, .inl df2))] ∧ hw 35 3 df2) A) ([.ref md, .int (nI j_4), .int (nI j_8), .int a3] : List Value).toArray s 0 0 A) (F0 m 48 ls []) := by
              intro k
              induction k with
              | zero =>
                intro i_14 g_11_15 df_12_16 H locs ls hik hw_17 hP hD hS hl
                refine lv_iload hx hb dX6_pours_48 (lv_at hl 0 rfl) ?_
                refine lv_iload hx hb dX6_pours_50 (lv_at hl 2 rfl) ?_
                refine lv_icmp_ge (tgt := 156) hx hb dX6_pours_52 (by decide) (fun _ => ?_) (fun h => absurd (nI_le (a := 36) (b := i_14) (by omega) (by omega)) h)
                refine lv_iload hx hb dX6_pours_156 (lv_at hl 2 rfl) ?_
                refine lv_bipush (v := 36) hx hb dX6_pours_158 (by decide) ?_
                refine lv_imul hx hb dX6_pours_160 ?_
                refine wt_top (z := 1296) (by decide) ?_
                refine lv_istore (lv' := [(4, .int 1296), (6, .int (nI i_14)), (5, .int 1), (0, .ref md), (1, .int (nI j_4)), (2, .int (nI j_8)), (3, .int a3)]) hx hb dX6_pours_161 hl (by decide) rfl (fun ls hl => ?_)
                refine lv_iinc (v := 2) (lv' := [(5, .int 2), (4, .int 1296), (6, .int (nI i_14)), (0, .ref md), (1, .int (nI j_4)), (2, .int (nI j_8)), (3, .int a3)]) hx hb dX6_pours_163 hl (k := 2) rfl (by decide) (by decide) rfl (fun ls hl => ?_)
                refine lv_goto (tgt := 39) hx hb dX6_pours_166 (by decide) ?_
                refine lv_iload hx hb dX6_pours_39 (lv_at hl 0 rfl) ?_
                refine lv_iconst (v := 3) hx hb dX6_pours_41 (by decide) ?_
                refine lv_icmp_gt (tgt := 169) hx hb dX6_pours_42 (by decide) (fun h => absurd h (by decide)) (fun _ => ?_)
                refine lv_iconst (v := 0) hx hb dX6_pours_45 (by decide) ?_
                refine lv_istore (lv' := [(6, .int 0), (5, .int 2), (4, .int 1296), (0, .ref md), (1, .int (nI j_4)), (2, .int (nI j_8)), (3, .int a3)]) hx hb dX6_pours_46 hl (by decide) rfl (fun ls hl => ?_)
                have loop48 : ∀ (k i_18 : Nat) (g_11_15_19 : Nat → Int32) (df_12_16_20 : Nat → Int32) (H : Heap) (locs : List Loc) (ls : Array Slot), i_18 + k = 1296 → (hw 35 3 df_12_16_20) → va_P D vwCl [(md, .inr (6, [.int 0, vm_1, vm_2, vm_3, vm_4, .ref hs, vm_6, .ref tn, vm_8, vm_9, vm_10, vm_11, vm_12, vm_13, vm_14, vm_15, vm_16, vm_17, vm_18, .ref td, vm_20, vm_21, vm_22, vm_23])), (hs, .inl (cI, 45, .inl f)), (tn, .inl (cI, 45, .inl g_11_15_19)), (td, .inl (cI, 3, .inl df_12_16_20))] H → va_D A [(md, .inr (6, [.int 0, vm_1, vm_2, vm_3, vm_4, .ref hs, vm_6, .ref tn, vm_8, vm_9, vm_10, vm_11, vm_12, vm_13, vm_14, vm_15, vm_16, vm_17, vm_18, .ref td, vm_20, vm_21, vm_22, vm_23])), (hs, .inl (cI, 45, .inl f)), (tn, .inl (cI, 45, .inl g_11_15_19)), (td, .inl (cI, 3, .inl df_12_16_20))] → va_S A s.heap H locs → lv_has ls 9 [(6, .int (nI i_18)), (5, .int 2), (4, .int 1296), (0, .ref md), (1, .int (nI j_4)), (2, .int (nI j_8)), (3, .int a3)] → W p l e ({ frames := 3, cells := 0, slots := 0, locals := 74 } : Room) s m ([.ref md, .int (nI j_4), .int (nI j_8), .int a3] : List Value).toArray below meth c H locs 0 0 (MQ below (wt_QI D (fun r w => ∃ (g2 df2 : Nat → Int32), w = [(md, .inr (6, [.int 0, vm_1, vm_2, vm_3, vm_4, .ref hs, vm_6, .ref tn, vm_8, vm_9, vm_10, vm_11, vm_12, vm_13, vm_14, vm_15, vm_16, vm_17, vm_18, .ref td, vm_20, vm_21, vm_22, vm_23])), (hs, .inl (cI, 45, .inl f)), (tn, .inl (cI, 45, .inl g2)), (td, .inl (cI, 3, .inl df2))] ∧ hw 35 3 df2) A) ([.ref md, .int (nI j_4), .int (nI j_8), .int a3] : List Value).toArray s 0 0 A) (F0 m 48 ls []) := by
                  intro k
                  induction k with
                  | zero =>
                    intro i_18 g_11_15_19 df_12_16_20 H locs ls hik hw_21 hP hD hS hl
                    refine lv_iload hx hb dX6_pours_48 (lv_at hl 0 rfl) ?_
                    refine lv_iload hx hb dX6_pours_50 (lv_at hl 2 rfl) ?_
                    refine lv_icmp_ge (tgt := 156) hx hb dX6_pours_52 (by decide) (fun _ => ?_) (fun h => absurd (nI_le (a := 1296) (b := i_18) (by omega) (by omega)) h)
                    refine lv_iload hx hb dX6_pours_156 (lv_at hl 2 rfl) ?_
                    refine lv_bipush (v := 36) hx hb dX6_pours_158 (by decide) ?_
                    refine lv_imul hx hb dX6_pours_160 ?_
                    refine wt_top (z := 46656) (by decide) ?_
                    refine lv_istore (lv' := [(4, .int 46656), (6, .int (nI i_18)), (5, .int 2), (0, .ref md), (1, .int (nI j_4)), (2, .int (nI j_8)), (3, .int a3)]) hx hb dX6_pours_161 hl (by decide) rfl (fun ls hl => ?_)
                    refine lv_iinc (v := 3) (lv' := [(5, .int 3), (4, .int 46656), (6, .int (nI i_18)), (0, .ref md), (1, .int (nI j_4)), (2, .int (nI j_8)), (3, .int a3)]) hx hb dX6_pours_163 hl (k := 2) rfl (by decide) (by decide) rfl (fun ls hl => ?_)
                    refine lv_goto (tgt := 39) hx hb dX6_pours_166 (by decide) ?_
                    refine lv_iload hx hb dX6_pours_39 (lv_at hl 0 rfl) ?_
                    refine lv_iconst (v := 3) hx hb dX6_pours_41 (by decide) ?_
                    refine lv_icmp_gt (tgt := 169) hx hb dX6_pours_42 (by decide) (fun h => absurd h (by decide)) (fun _ => ?_)
                    refine lv_iconst (v := 0) hx hb dX6_pours_45 (by decide) ?_
                    refine lv_istore (lv' := [(6, .int 0), (5, .int 3), (4, .int 46656), (0, .ref md), (1, .int (nI j_4)), (2, .int (nI j_8)), (3, .int a3)]) hx hb dX6_pours_46 hl (by decide) rfl (fun ls hl => ?_)
                    have loop48 : ∀ (k i_22 : Nat) (g_11_15_19_23 : Nat → Int32) (df_12_16_20_24 : Nat → Int32) (H : Heap) (locs : List Loc) (ls : Array Slot), i_22 + k = 46656 → (hw 35 3 df_12_16_20_24) → va_P D vwCl [(md, .inr (6, [.int 0, vm_1, vm_2, vm_3, vm_4, .ref hs, vm_6, .ref tn, vm_8, vm_9, vm_10, vm_11, vm_12, vm_13, vm_14, vm_15, vm_16, vm_17, vm_18, .ref td, vm_20, vm_21, vm_22, vm_23])), (hs, .inl (cI, 45, .inl f)), (tn, .inl (cI, 45, .inl g_11_15_19_23)), (td, .inl (cI, 3, .inl df_12_16_20_24))] H → va_D A [(md, .inr (6, [.int 0, vm_1, vm_2, vm_3, vm_4, .ref hs, vm_6, .ref tn, vm_8, vm_9, vm_10, vm_11, vm_12, vm_13, vm_14, vm_15, vm_16, vm_17, vm_18, .ref td, vm_20, vm_21, vm_22, vm_23])), (hs, .inl (cI, 45, .inl f)), (tn, .inl (cI, 45, .inl g_11_15_19_23)), (td, .inl (cI, 3, .inl df_12_16_20_24))] → va_S A s.heap H locs → lv_has ls 9 [(6, .int (nI i_22)), (5, .int 3), (4, .int 46656), (0, .ref md), (1, .int (nI j_4)), (2, .int (nI j_8)), (3, .int a3)] → W p l e ({ frames := 3, cells := 0, slots := 0, locals := 74 } : Room) s m ([.ref md, .int (nI j_4), .int (nI j_8), .int a3] : List Value).toArray below meth c H locs 0 0 (MQ below (wt_QI D (fun r w => ∃ (g2 df2 : Nat → Int32), w = [(md, .inr (6, [.int 0, vm_1, vm_2, vm_3, vm_4, .ref hs, vm_6, .ref tn, vm_8, vm_9, vm_10, vm_11, vm_12, vm_13, vm_14, vm_15, vm_16, vm_17, vm_18, .ref td, vm_20, vm_21, vm_22, vm_23])), (hs, .inl (cI, 45, .inl f)), (tn, .inl (cI, 45, .inl g2)), (td, .inl (cI, 3, .inl df2))] ∧ hw 35 3 df2) A) ([.ref md, .int (nI j_4), .int (nI j_8), .int a3] : List Value).toArray s 0 0 A) (F0 m 48 ls []) := by
                      intro k
                      induction k with
                      | zero =>
                        intro i_22 g_11_15_19_23 df_12_16_20_24 H locs ls hik hw_25 hP hD hS hl
                        refine lv_iload hx hb dX6_pours_48 (lv_at hl 0 rfl) ?_
                        refine lv_iload hx hb dX6_pours_50 (lv_at hl 2 rfl) ?_
                        refine lv_icmp_ge (tgt := 156) hx hb dX6_pours_52 (by decide) (fun _ => ?_) (fun h => absurd (nI_le (a := 46656) (b := i_22) (by omega) (by omega)) h)
                        refine lv_iload hx hb dX6_pours_156 (lv_at hl 2 rfl) ?_
                        refine lv_bipush (v := 36) hx hb dX6_pours_158 (by decide) ?_
                        refine lv_imul hx hb dX6_pours_160 ?_
                        refine wt_top (z := 1679616) (by decide) ?_
                        refine lv_istore (lv' := [(4, .int 1679616), (6, .int (nI i_22)), (5, .int 3), (0, .ref md), (1, .int (nI j_4)), (2, .int (nI j_8)), (3, .int a3)]) hx hb dX6_pours_161 hl (by decide) rfl (fun ls hl => ?_)
                        refine lv_iinc (v := 4) (lv' := [(5, .int 4), (4, .int 1679616), (6, .int (nI i_22)), (0, .ref md), (1, .int (nI j_4)), (2, .int (nI j_8)), (3, .int a3)]) hx hb dX6_pours_163 hl (k := 2) rfl (by decide) (by decide) rfl (fun ls hl => ?_)
                        refine lv_goto (tgt := 39) hx hb dX6_pours_166 (by decide) ?_
                        refine lv_iload hx hb dX6_pours_39 (lv_at hl 0 rfl) ?_
                        refine lv_iconst (v := 3) hx hb dX6_pours_41 (by decide) ?_
                        refine lv_icmp_gt (tgt := 169) hx hb dX6_pours_42 (by decide) (fun _ => ?_) (fun h => absurd h (by decide))
                        refine lv_ldc hx hb hown wc90 dX6_pours_169 ?_
                        have hP9 := hP.sub (ws' := [(md, .inr (6, [.int 0, vm_1, vm_2, vm_3, vm_4, .ref hs, vm_6, .ref tn, vm_8, vm_9, vm_10, vm_11, vm_12, vm_13, vm_14, vm_15, vm_16, vm_17, vm_18, .ref td, vm_20, vm_21, vm_22, vm_23])), (hs, .inl (cI, 45, .inl f)), (tn, .inl (cI, 45, .inl g_11_15_19_23)), (td, .inl (cI, 3, .inl df_12_16_20_24))]) [0, 1, 2, 3] rfl
                        have hD9 := hD.sub (ws' := [(md, .inr (6, [.int 0, vm_1, vm_2, vm_3, vm_4, .ref hs, vm_6, .ref tn, vm_8, vm_9, vm_10, vm_11, vm_12, vm_13, vm_14, vm_15, vm_16, vm_17, vm_18, .ref td, vm_20, vm_21, vm_22, vm_23])), (hs, .inl (cI, 45, .inl f)), (tn, .inl (cI, 45, .inl g_11_15_19_23)), (td, .inl (cI, 3, .inl df_12_16_20_24))]) [0, 1, 2, 3] (by decide) rfl
                        exact wt_iret hx hb hr hlocks hP9 hD9 hS ⟨g_11_15_19_23, df_12_16_20_24, rfl, hw_25⟩ dX6_pours_171
                      | succ k ih48 =>
                        intro i_22 g_11_15_19_23 df_12_16_20_24 H locs ls hik hw_25 hP hD hS hl
                        refine lv_iload hx hb dX6_pours_48 (lv_at hl 0 rfl) ?_
                        refine lv_iload hx hb dX6_pours_50 (lv_at hl 2 rfl) ?_
                        refine lv_icmp_ge (tgt := 156) hx hb dX6_pours_52 (by decide) (fun h => absurd h (nI_ge (a := i_22) (b := 46656) (by omega) (by omega))) (fun _ => ?_)
                        refine lv_iload hx hb dX6_pours_55 (lv_at hl 0 rfl) ?_
                        refine lv_istore (lv' := [(7, .int (nI i_22)), (6, .int (nI i_22)), (5, .int 3), (4, .int 46656), (0, .ref md), (1, .int (nI j_4)), (2, .int (nI j_8)), (3, .int a3)]) hx hb dX6_pours_57 hl (by decide) rfl (fun ls hl => ?_)
                        refine lv_iload hx hb dX6_pours_59 (lv_at hl 2 rfl) ?_
                        refine lv_iconst (v := 1) hx hb dX6_pours_61 (by decide) ?_
                        refine lv_isub hx hb dX6_pours_62 ?_
                        refine wt_top (z := 2) (by decide) ?_
                        refine lv_istore (lv' := [(8, .int 2), (7, .int (nI i_22)), (6, .int (nI i_22)), (5, .int 3), (4, .int 46656), (0, .ref md), (1, .int (nI j_4)), (2, .int (nI j_8)), (3, .int a3)]) hx hb dX6_pours_63 hl (by decide) rfl (fun ls hl => ?_)
                        refine lv_iload hx hb dX6_pours_65 (lv_at hl 0 rfl) ?_
                        refine lv_if_lt (tgt := 95) hx hb dX6_pours_67 (by decide) (fun h => absurd h (by decide)) (fun _ => ?_)
                        refine lv_aload_n hx hb dX6_pours_70 rfl (lv_at hl 5 rfl) ?_
                        refine va_get (D := D) (ci := 6) (v := .ref td) (C := RX6) (T := TX6) (N := 24) hx hb hts hi6 hown hK.1 hP 0 rfl rfl 19 (by decide) wf34 (fun _ h9 => h9) rfl dX6_pours_71 ?_
                        refine lv_iload hx hb dX6_pours_74 (lv_at hl 0 rfl) ?_
                        refine lv_iload hx hb dX6_pours_76 (lv_at hl 1 rfl) ?_
                        refine lv_bipush (v := 36) hx hb dX6_pours_78 (by decide) ?_
                        refine lv_irem hx hb dX6_pours_80 (by decide) ?_
                        refine wt_top (z := nI (i_22 % 36)) (pk_rem (by omega) (by decide) (by decide)) ?_
                        refine va_iast hx hb hK.1 hP hD hS 3 0 rfl rfl (by rw [vp_in_iff]; decide) dX6_pours_81 (fun H locs hP hD hS => ?_)
                        have hP : va_P D vwCl [(md, .inr (6, [.int 0, vm_1, vm_2, vm_3, vm_4, .ref hs, vm_6, .ref tn, vm_8, vm_9, vm_10, vm_11, vm_12, vm_13, vm_14, vm_15, vm_16, vm_17, vm_18, .ref td, vm_20, vm_21, vm_22, vm_23])), (hs, .inl (cI, 45, .inl f)), (tn, .inl (cI, 45, .inl g_11_15_19_23)), (td, .inl (cI, 3, .inl (upd df_12_16_20_24 (Int32.toNatClampNeg 2) (nI (i_22 % 36)))))] H := hP
                        have hD : va_D A [(md, .inr (6, [.int 0, vm_1, vm_2, vm_3, vm_4, .ref hs, vm_6, .ref tn, vm_8, vm_9, vm_10, vm_11, vm_12, vm_13, vm_14, vm_15, vm_16, vm_17, vm_18, .ref td, vm_20, vm_21, vm_22, vm_23])), (hs, .inl (cI, 45, .inl f)), (tn, .inl (cI, 45, .inl g_11_15_19_23)), (td, .inl (cI, 3, .inl (upd df_12_16_20_24 (Int32.toNatClampNeg 2) (nI (i_22 % 36)))))] := hD
                        have hw_26 : hw 35 3 (upd df_12_16_20_24 (Int32.toNatClampNeg 2) (nI (i_22 % 36))) := hw_upd (v := (i_22 % 36)) hw_25 (by omega) _
                        generalize upd df_12_16_20_24 (Int32.toNatClampNeg 2) (nI (i_22 % 36)) = fP_27 at hP hD hw_26
                        refine lv_iload hx hb dX6_pours_82 (lv_at hl 1 rfl) ?_
                        refine lv_bipush (v := 36) hx hb dX6_pours_84 (by decide) ?_
                        refine lv_idiv hx hb dX6_pours_86 (by decide) ?_
                        refine wt_top (z := nI (i_22 / 36)) (pk_div (by omega) (by decide) (by decide)) ?_
                        refine lv_istore (lv' := [(7, .int (nI (i_22 / 36))), (8, .int 2), (6, .int (nI i_22)), (5, .int 3), (4, .int 46656), (0, .ref md), (1, .int (nI j_4)), (2, .int (nI j_8)), (3, .int a3)]) hx hb dX6_pours_87 hl (by decide) rfl (fun ls hl => ?_)
                        refine lv_iinc (v := 1) (lv' := [(8, .int 1), (7, .int (nI (i_22 / 36))), (6, .int (nI i_22)), (5, .int 3), (4, .int 46656), (0, .ref md), (1, .int (nI j_4)), (2, .int (nI j_8)), (3, .int a3)]) hx hb dX6_pours_89 hl (k := 1) rfl (by decide) (by decide) rfl (fun ls hl => ?_)
                        refine lv_goto (tgt := 65) hx hb dX6_pours_92 (by decide) ?_
                        refine lv_iload hx hb dX6_pours_65 (lv_at hl 0 rfl) ?_
                        refine lv_if_lt (tgt := 95) hx hb dX6_pours_67 (by decide) (fun h => absurd h (by decide)) (fun _ => ?_)
                        refine lv_aload_n hx hb dX6_pours_70 rfl (lv_at hl 5 rfl) ?_
                        refine va_get (D := D) (ci := 6) (v := .ref td) (C := RX6) (T := TX6) (N := 24) hx hb hts hi6 hown hK.1 hP 0 rfl rfl 19 (by decide) wf34 (fun _ h9 => h9) rfl dX6_pours_71 ?_
                        refine lv_iload hx hb dX6_pours_74 (lv_at hl 0 rfl) ?_
                        refine lv_iload hx hb dX6_pours_76 (lv_at hl 1 rfl) ?_
                        refine lv_bipush (v := 36) hx hb dX6_pours_78 (by decide) ?_
                        refine lv_irem hx hb dX6_pours_80 (by decide) ?_
                        refine wt_top (z := nI ((i_22 / 36) % 36)) (pk_rem (by omega) (by decide) (by decide)) ?_
                        refine va_iast hx hb hK.1 hP hD hS 3 0 rfl rfl (by rw [vp_in_iff]; decide) dX6_pours_81 (fun H locs hP hD hS => ?_)
                        have hP : va_P D vwCl [(md, .inr (6, [.int 0, vm_1, vm_2, vm_3, vm_4, .ref hs, vm_6, .ref tn, vm_8, vm_9, vm_10, vm_11, vm_12, vm_13, vm_14, vm_15, vm_16, vm_17, vm_18, .ref td, vm_20, vm_21, vm_22, vm_23])), (hs, .inl (cI, 45, .inl f)), (tn, .inl (cI, 45, .inl g_11_15_19_23)), (td, .inl (cI, 3, .inl (upd fP_27 (Int32.toNatClampNeg 1) (nI ((i_22 / 36) % 36)))))] H := hP
                        have hD : va_D A [(md, .inr (6, [.int 0, vm_1, vm_2, vm_3, vm_4, .ref hs, vm_6, .ref tn, vm_8, vm_9, vm_10, vm_11, vm_12, vm_13, vm_14, vm_15, vm_16, vm_17, vm_18, .ref td, vm_20, vm_21, vm_22, vm_23])), (hs, .inl (cI, 45, .inl f)), (tn, .inl (cI, 45, .inl g_11_15_19_23)), (td, .inl (cI, 3, .inl (upd fP_27 (Int32.toNatClampNeg 1) (nI ((i_22 / 36) % 36)))))] := hD
                        have hw_28 : hw 35 3 (upd fP_27 (Int32.toNatClampNeg 1) (nI ((i_22 / 36) % 36))) := hw_upd (v := ((i_22 / 36) % 36)) hw_26 (by omega) _
                        generalize upd fP_27 (Int32.toNatClampNeg 1) (nI ((i_22 / 36) % 36)) = fP_29 at hP hD hw_28
                        refine lv_iload hx hb dX6_pours_82 (lv_at hl 1 rfl) ?_
                        refine lv_bipush (v := 36) hx hb dX6_pours_84 (by decide) ?_
                        refine lv_idiv hx hb dX6_pours_86 (by decide) ?_
                        refine wt_top (z := nI ((i_22 / 36) / 36)) (pk_div (by omega) (by decide) (by decide)) ?_
                        refine lv_istore (lv' := [(7, .int (nI ((i_22 / 36) / 36))), (8, .int 1), (6, .int (nI i_22)), (5, .int 3), (4, .int 46656), (0, .ref md), (1, .int (nI j_4)), (2, .int (nI j_8)), (3, .int a3)]) hx hb dX6_pours_87 hl (by decide) rfl (fun ls hl => ?_)
                        refine lv_iinc (v := 0) (lv' := [(8, .int 0), (7, .int (nI ((i_22 / 36) / 36))), (6, .int (nI i_22)), (5, .int 3), (4, .int 46656), (0, .ref md), (1, .int (nI j_4)), (2, .int (nI j_8)), (3, .int a3)]) hx hb dX6_pours_89 hl (k := 1) rfl (by decide) (by decide) rfl (fun ls hl => ?_)
                        refine lv_goto (tgt := 65) hx hb dX6_pours_92 (by decide) ?_
                        refine lv_iload hx hb dX6_pours_65 (lv_at hl 0 rfl) ?_
                        refine lv_if_lt (tgt := 95) hx hb dX6_pours_67 (by decide) (fun h => absurd h (by decide)) (fun _ => ?_)
                        refine lv_aload_n hx hb dX6_pours_70 rfl (lv_at hl 5 rfl) ?_
                        refine va_get (D := D) (ci := 6) (v := .ref td) (C := RX6) (T := TX6) (N := 24) hx hb hts hi6 hown hK.1 hP 0 rfl rfl 19 (by decide) wf34 (fun _ h9 => h9) rfl dX6_pours_71 ?_
                        refine lv_iload hx hb dX6_pours_74 (lv_at hl 0 rfl) ?_
                        refine lv_iload hx hb dX6_pours_76 (lv_at hl 1 rfl) ?_
                        refine lv_bipush (v := 36) hx hb dX6_pours_78 (by decide) ?_
                        refine lv_irem hx hb dX6_pours_80 (by decide) ?_
                        refine wt_top (z := nI (((i_22 / 36) / 36) % 36)) (pk_rem (by omega) (by decide) (by decide)) ?_
                        refine va_iast hx hb hK.1 hP hD hS 3 0 rfl rfl (by rw [vp_in_iff]; decide) dX6_pours_81 (fun H locs hP hD hS => ?_)
                        have hP : va_P D vwCl [(md, .inr (6, [.int 0, vm_1, vm_2, vm_3, vm_4, .ref hs, vm_6, .ref tn, vm_8, vm_9, vm_10, vm_11, vm_12, vm_13, vm_14, vm_15, vm_16, vm_17, vm_18, .ref td, vm_20, vm_21, vm_22, vm_23])), (hs, .inl (cI, 45, .inl f)), (tn, .inl (cI, 45, .inl g_11_15_19_23)), (td, .inl (cI, 3, .inl (upd fP_29 (Int32.toNatClampNeg 0) (nI (((i_22 / 36) / 36) % 36)))))] H := hP
                        have hD : va_D A [(md, .inr (6, [.int 0, vm_1, vm_2, vm_3, vm_4, .ref hs, vm_6, .ref tn, vm_8, vm_9, vm_10, vm_11, vm_12, vm_13, vm_14, vm_15, vm_16, vm_17, vm_18, .ref td, vm_20, vm_21, vm_22, vm_23])), (hs, .inl (cI, 45, .inl f)), (tn, .inl (cI, 45, .inl g_11_15_19_23)), (td, .inl (cI, 3, .inl (upd fP_29 (Int32.toNatClampNeg 0) (nI (((i_22 / 36) / 36) % 36)))))] := hD
                        have hw_30 : hw 35 3 (upd fP_29 (Int32.toNatClampNeg 0) (nI (((i_22 / 36) / 36) % 36))) := hw_upd (v := (((i_22 / 36) / 36) % 36)) hw_28 (by omega) _
                        generalize upd fP_29 (Int32.toNatClampNeg 0) (nI (((i_22 / 36) / 36) % 36)) = fP_31 at hP hD hw_30
                        refine lv_iload hx hb dX6_pours_82 (lv_at hl 1 rfl) ?_
                        refine lv_bipush (v := 36) hx hb dX6_pours_84 (by decide) ?_
                        refine lv_idiv hx hb dX6_pours_86 (by decide) ?_
                        refine wt_top (z := nI (((i_22 / 36) / 36) / 36)) (pk_div (by omega) (by decide) (by decide)) ?_
                        refine lv_istore (lv' := [(7, .int (nI (((i_22 / 36) / 36) / 36))), (8, .int 0), (6, .int (nI i_22)), (5, .int 3), (4, .int 46656), (0, .ref md), (1, .int (nI j_4)), (2, .int (nI j_8)), (3, .int a3)]) hx hb dX6_pours_87 hl (by decide) rfl (fun ls hl => ?_)
                        refine lv_iinc (v := (-1)) (lv' := [(8, .int (-1)), (7, .int (nI (((i_22 / 36) / 36) / 36))), (6, .int (nI i_22)), (5, .int 3), (4, .int 46656), (0, .ref md), (1, .int (nI j_4)), (2, .int (nI j_8)), (3, .int a3)]) hx hb dX6_pours_89 hl (k := 1) rfl (by decide) (by decide) rfl (fun ls hl => ?_)
                        refine lv_goto (tgt := 65) hx hb dX6_pours_92 (by decide) ?_
                        refine lv_iload hx hb dX6_pours_65 (lv_at hl 0 rfl) ?_
                        refine lv_if_lt (tgt := 95) hx hb dX6_pours_67 (by decide) (fun _ => ?_) (fun h => absurd h (by decide))
                        refine lv_aload_n hx hb dX6_pours_95 rfl (lv_at hl 5 rfl) ?_
                        refine lv_iload_n hx hb dX6_pours_96 rfl (lv_at hl 6 rfl) ?_
                        refine lv_iload_n hx hb dX6_pours_97 rfl (lv_at hl 7 rfl) ?_
                        refine lv_iload hx hb dX6_pours_98 (lv_at hl 3 rfl) ?_
                        refine wt_goI (wr := []) (wt_runV (As := [.int (nI j_4), .int (nI j_8), .int 3]) (rest := []) ⟨hx, hb, hml, hown, hts⟩ (c_X6_doPour l D cI cZ cH md hs R T f tn g_11_15_19_23 td fP_31 j_4 3 (nI j_8) (.int 0) vm_1 vm_2 vm_3 vm_4 vm_6 vm_8 vm_9 vm_10 vm_11 vm_12 vm_13 vm_14 vm_15 vm_16 vm_17 vm_18 vm_20 vm_21 vm_22 vm_23 (by first | assumption | omega) (by first | assumption | omega) (by first | assumption | omega) (by first | assumption | omega) (by first | assumption | omega) (by first | assumption | omega)) (cwV 3 hts gX6_pours_X6_doPour rfl rfl rfl (by decide +kernel) ⟨Nat.le_of_ble_eq_true rfl, Nat.le_of_ble_eq_true rfl⟩) hK hP hD [0, 1, 2, 3] rfl (by decide) (va_recv hK.1 hP (ci := 6) (q0 := 0) rfl rfl) rfl hl.1 rfl (Nat.le_of_ble_eq_true rfl) dX6_pours_100 ⟨Nat.le_of_ble_eq_true rfl, Nat.le_of_ble_eq_true rfl⟩) hP hD hS hA [0, 1, 2, 3] [] rfl rfl (by decide) (by decide) (fun r_32 w_33 H locs h_34 hP hD hS => ?_)
                        obtain ⟨g2_35, rfl⟩ := h_34
                        have hP : va_P D vwCl [(md, .inr (6, [.int 0, vm_1, vm_2, vm_3, vm_4, .ref hs, vm_6, .ref tn, vm_8, vm_9, vm_10, vm_11, vm_12, vm_13, vm_14, vm_15, vm_16, vm_17, vm_18, .ref td, vm_20, vm_21, vm_22, vm_23])), (hs, .inl (cI, 45, .inl f)), (tn, .inl (cI, 45, .inl g2_35)), (td, .inl (cI, 3, .inl fP_31))] H := hP
                        have hD : va_D A [(md, .inr (6, [.int 0, vm_1, vm_2, vm_3, vm_4, .ref hs, vm_6, .ref tn, vm_8, vm_9, vm_10, vm_11, vm_12, vm_13, vm_14, vm_15, vm_16, vm_17, vm_18, .ref td, vm_20, vm_21, vm_22, vm_23])), (hs, .inl (cI, 45, .inl f)), (tn, .inl (cI, 45, .inl g2_35)), (td, .inl (cI, 3, .inl fP_31))] := hD
                        refine lv_if_eq (tgt := 150) hx hb dX6_pours_103 (by decide) (fun c_36 => ?_) (fun c_36 => ?_)
                        · skip
                          refine lv_iinc (v := nI (i_22 + 1)) (lv' := [(6, .int (nI (i_22 + 1))), (8, .int (-1)), (7, .int (nI (((i_22 / 36) / 36) / 36))), (5, .int 3), (4, .int 46656), (0, .ref md), (1, .int (nI j_4)), (2, .int (nI j_8)), (3, .int a3)]) hx hb dX6_pours_150 hl (k := 2) rfl (nI_add i_22 1) (by decide) rfl (fun ls hl => ?_)
                          refine lv_goto (tgt := 48) hx hb dX6_pours_153 (by decide) ?_
                          exact ih48 ((i_22 + 1)) g2_35 fP_31 H locs ls (by omega) hw_30 hP hD hS (lv_sub hl [0, 3, 4, 5, 6, 7, 8] rfl)
                        · skip
                          refine lv_iload_n hx hb dX6_pours_106 rfl (lv_at hl 8 rfl) ?_
                          refine lv_iconst (v := (-1)) hx hb dX6_pours_107 (by decide) ?_
                          refine lv_icmp_ne (tgt := 116) hx hb dX6_pours_108 (by decide) (fun c_37 => ?_) (fun c_37 => ?_)
                          · skip
                            refine lv_iload_n hx hb dX6_pours_116 rfl (lv_at hl 8 rfl) ?_
                            refine lv_iload hx hb dX6_pours_117 (lv_at hl 3 rfl) ?_
                            refine lv_icmp_ge (tgt := 147) hx hb dX6_pours_119 (by decide) (fun c_38 => ?_) (fun c_38 => ?_)
                            · skip
                              refine lv_ldc hx hb hown wc90 dX6_pours_147 ?_
                              have hP9 := hP.sub (ws' := [(md, .inr (6, [.int 0, vm_1, vm_2, vm_3, vm_4, .ref hs, vm_6, .ref tn, vm_8, vm_9, vm_10, vm_11, vm_12, vm_13, vm_14, vm_15, vm_16, vm_17, vm_18, .ref td, vm_20, vm_21, vm_22, vm_23])), (hs, .inl (cI, 45, .inl f)), (tn, .inl (cI, 45, .inl g2_35)), (td, .inl (cI, 3, .inl fP_31))]) [0, 1, 2, 3] rfl
                              have hD9 := hD.sub (ws' := [(md, .inr (6, [.int 0, vm_1, vm_2, vm_3, vm_4, .ref hs, vm_6, .ref tn, vm_8, vm_9, vm_10, vm_11, vm_12, vm_13, vm_14, vm_15, vm_16, vm_17, vm_18, .ref td, vm_20, vm_21, vm_22, vm_23])), (hs, .inl (cI, 45, .inl f)), (tn, .inl (cI, 45, .inl g2_35)), (td, .inl (cI, 3, .inl fP_31))]) [0, 1, 2, 3] (by decide) rfl
                              exact wt_iret hx hb hr hlocks hP9 hD9 hS ⟨g2_35, fP_31, rfl, hw_30⟩ dX6_pours_149
                            · skip
                              refine lv_bipush (v := 10) hx hb dX6_pours_122 (by decide) ?_
                              refine lv_aload_n hx hb dX6_pours_124 rfl (lv_at hl 5 rfl) ?_
                              refine va_get (D := D) (ci := 6) (v := .ref td) (C := RX6) (T := TX6) (N := 24) hx hb hts hi6 hown hK.1 hP 0 rfl rfl 19 (by decide) wf34 (fun _ h9 => h9) rfl dX6_pours_125 ?_
                              refine lv_iload_n hx hb dX6_pours_128 rfl (lv_at hl 8 rfl) ?_
                              refine va_iald hx hb hK.1 hP 3 0 rfl rfl (wt_ix3 (d := 3) c_9 c_37 c_38 (by decide)) dX6_pours_129 ?_
                              refine lv_topi (fun ov_39 _ => ?_)
                              refine lv_bipush (v := 6) hx hb dX6_pours_130 (by decide) ?_
                              refine lv_idiv hx hb dX6_pours_132 (by decide) ?_
                              refine lv_topi (fun ov_40 _ => ?_)
                              refine lv_imul hx hb dX6_pours_133 ?_
                              refine lv_topi (fun ov_41 _ => ?_)
                              refine lv_aload_n hx hb dX6_pours_134 rfl (lv_at hl 5 rfl) ?_
                              refine va_get (D := D) (ci := 6) (v := .ref td) (C := RX6) (T := TX6) (N := 24) hx hb hts hi6 hown hK.1 hP 0 rfl rfl 19 (by decide) wf34 (fun _ h9 => h9) rfl dX6_pours_135 ?_
                              refine lv_iload_n hx hb dX6_pours_138 rfl (lv_at hl 8 rfl) ?_
                              refine va_iald hx hb hK.1 hP 3 0 rfl rfl (wt_ix3 (d := 3) c_9 c_37 c_38 (by decide)) dX6_pours_139 ?_
                              refine lv_topi (fun ov_42 _ => ?_)
                              refine lv_bipush (v := 6) hx hb dX6_pours_140 (by decide) ?_
                              refine lv_irem hx hb dX6_pours_142 (by decide) ?_
                              refine lv_topi (fun ov_43 _ => ?_)
                              refine lv_iadd hx hb dX6_pours_143 ?_
                              refine lv_topi (fun ov_44 _ => ?_)
                              refine lv_goto (tgt := 149) hx hb dX6_pours_144 (by decide) ?_
                              have hP9 := hP.sub (ws' := [(md, .inr (6, [.int 0, vm_1, vm_2, vm_3, vm_4, .ref hs, vm_6, .ref tn, vm_8, vm_9, vm_10, vm_11, vm_12, vm_13, vm_14, vm_15, vm_16, vm_17, vm_18, .ref td, vm_20, vm_21, vm_22, vm_23])), (hs, .inl (cI, 45, .inl f)), (tn, .inl (cI, 45, .inl g2_35)), (td, .inl (cI, 3, .inl fP_31))]) [0, 1, 2, 3] rfl
                              have hD9 := hD.sub (ws' := [(md, .inr (6, [.int 0, vm_1, vm_2, vm_3, vm_4, .ref hs, vm_6, .ref tn, vm_8, vm_9, vm_10, vm_11, vm_12, vm_13, vm_14, vm_15, vm_16, vm_17, vm_18, .ref td, vm_20, vm_21, vm_22, vm_23])), (hs, .inl (cI, 45, .inl f)), (tn, .inl (cI, 45, .inl g2_35)), (td, .inl (cI, 3, .inl fP_31))]) [0, 1, 2, 3] (by decide) rfl
                              exact wt_iret hx hb hr hlocks hP9 hD9 hS ⟨g2_35, fP_31, rfl, hw_30⟩ dX6_pours_149
                          · skip
                            refine lv_iload hx hb dX6_pours_111 (lv_at hl 3 rfl) ?_
                            refine lv_goto (tgt := 149) hx hb dX6_pours_113 (by decide) ?_
                            have hP9 := hP.sub (ws' := [(md, .inr (6, [.int 0, vm_1, vm_2, vm_3, vm_4, .ref hs, vm_6, .ref tn, vm_8, vm_9, vm_10, vm_11, vm_12, vm_13, vm_14, vm_15, vm_16, vm_17, vm_18, .ref td, vm_20, vm_21, vm_22, vm_23])), (hs, .inl (cI, 45, .inl f)), (tn, .inl (cI, 45, .inl g2_35)), (td, .inl (cI, 3, .inl fP_31))]) [0, 1, 2, 3] rfl
                            have hD9 := hD.sub (ws' := [(md, .inr (6, [.int 0, vm_1, vm_2, vm_3, vm_4, .ref hs, vm_6, .ref tn, vm_8, vm_9, vm_10, vm_11, vm_12, vm_13, vm_14, vm_15, vm_16, vm_17, vm_18, .ref td, vm_20, vm_21, vm_22, vm_23])), (hs, .inl (cI, 45, .inl f)), (tn, .inl (cI, 45, .inl g2_35)), (td, .inl (cI, 3, .inl fP_31))]) [0, 1, 2, 3] (by decide) rfl
                            exact wt_iret hx hb hr hlocks hP9 hD9 hS ⟨g2_35, fP_31, rfl, hw_30⟩ dX6_pours_149
                    exact loop48 (46656 - 0) (0) g_11_15_19 df_12_16_20 _ _ ls (by omega) hw_21 hP hD hS hl
                  | succ k ih48 =>
                    intro i_18 g_11_15_19 df_12_16_20 H locs ls hik hw_21 hP hD hS hl
                    refine lv_iload hx hb dX6_pours_48 (lv_at hl 0 rfl) ?_
                    refine lv_iload hx hb dX6_pours_50 (lv_at hl 2 rfl) ?_
                    refine lv_icmp_ge (tgt := 156) hx hb dX6_pours_52 (by decide) (fun h => absurd h (nI_ge (a := i_18) (b := 1296) (by omega) (by omega))) (fun _ => ?_)
                    refine lv_iload hx hb dX6_pours_55 (lv_at hl 0 rfl) ?_
                    refine lv_istore (lv' := [(7, .int (nI i_18)), (6, .int (nI i_18)), (5, .int 2), (4, .int 1296), (0, .ref md), (1, .int (nI j_4)), (2, .int (nI j_8)), (3, .int a3)]) hx hb dX6_pours_57 hl (by decide) rfl (fun ls hl => ?_)
                    refine lv_iload hx hb dX6_pours_59 (lv_at hl 2 rfl) ?_
                    refine lv_iconst (v := 1) hx hb dX6_pours_61 (by decide) ?_
                    refine lv_isub hx hb dX6_pours_62 ?_
                    refine wt_top (z := 1) (by decide) ?_
                    refine lv_istore (lv' := [(8, .int 1), (7, .int (nI i_18)), (6, .int (nI i_18)), (5, .int 2), (4, .int 1296), (0, .ref md), (1, .int (nI j_4)), (2, .int (nI j_8)), (3, .int a3)]) hx hb dX6_pours_63 hl (by decide) rfl (fun ls hl => ?_)
                    refine lv_iload hx hb dX6_pours_65 (lv_at hl 0 rfl) ?_
                    refine lv_if_lt (tgt := 95) hx hb dX6_pours_67 (by decide) (fun h => absurd h (by decide)) (fun _ => ?_)
                    refine lv_aload_n hx hb dX6_pours_70 rfl (lv_at hl 5 rfl) ?_
                    refine va_get (D := D) (ci := 6) (v := .ref td) (C := RX6) (T := TX6) (N := 24) hx hb hts hi6 hown hK.1 hP 0 rfl rfl 19 (by decide) wf34 (fun _ h9 => h9) rfl dX6_pours_71 ?_
                    refine lv_iload hx hb dX6_pours_74 (lv_at hl 0 rfl) ?_
                    refine lv_iload hx hb dX6_pours_76 (lv_at hl 1 rfl) ?_
                    refine lv_bipush (v := 36) hx hb dX6_pours_78 (by decide) ?_
                    refine lv_irem hx hb dX6_pours_80 (by decide) ?_
                    refine wt_top (z := nI (i_18 % 36)) (pk_rem (by omega) (by decide) (by decide)) ?_
                    refine va_iast hx hb hK.1 hP hD hS 3 0 rfl rfl (by rw [vp_in_iff]; decide) dX6_pours_81 (fun H locs hP hD hS => ?_)
                    have hP : va_P D vwCl [(md, .inr (6, [.int 0, vm_1, vm_2, vm_3, vm_4, .ref hs, vm_6, .ref tn, vm_8, vm_9, vm_10, vm_11, vm_12, vm_13, vm_14, vm_15, vm_16, vm_17, vm_18, .ref td, vm_20, vm_21, vm_22, vm_23])), (hs, .inl (cI, 45, .inl f)), (tn, .inl (cI, 45, .inl g_11_15_19)), (td, .inl (cI, 3, .inl (upd df_12_16_20 (Int32.toNatClampNeg 1) (nI (i_18 % 36)))))] H := hP
                    have hD : va_D A [(md, .inr (6, [.int 0, vm_1, vm_2, vm_3, vm_4, .ref hs, vm_6, .ref tn, vm_8, vm_9, vm_10, vm_11, vm_12, vm_13, vm_14, vm_15, vm_16, vm_17, vm_18, .ref td, vm_20, vm_21, vm_22, vm_23])), (hs, .inl (cI, 45, .inl f)), (tn, .inl (cI, 45, .inl g_11_15_19)), (td, .inl (cI, 3, .inl (upd df_12_16_20 (Int32.toNatClampNeg 1) (nI (i_18 % 36)))))] := hD
                    have hw_45 : hw 35 3 (upd df_12_16_20 (Int32.toNatClampNeg 1) (nI (i_18 % 36))) := hw_upd (v := (i_18 % 36)) hw_21 (by omega) _
                    generalize upd df_12_16_20 (Int32.toNatClampNeg 1) (nI (i_18 % 36)) = fP_46 at hP hD hw_45
                    refine lv_iload hx hb dX6_pours_82 (lv_at hl 1 rfl) ?_
                    refine lv_bipush (v := 36) hx hb dX6_pours_84 (by decide) ?_
                    refine lv_idiv hx hb dX6_pours_86 (by decide) ?_
                    refine wt_top (z := nI (i_18 / 36)) (pk_div (by omega) (by decide) (by decide)) ?_
                    refine lv_istore (lv' := [(7, .int (nI (i_18 / 36))), (8, .int 1), (6, .int (nI i_18)), (5, .int 2), (4, .int 1296), (0, .ref md), (1, .int (nI j_4)), (2, .int (nI j_8)), (3, .int a3)]) hx hb dX6_pours_87 hl (by decide) rfl (fun ls hl => ?_)
                    refine lv_iinc (v := 0) (lv' := [(8, .int 0), (7, .int (nI (i_18 / 36))), (6, .int (nI i_18)), (5, .int 2), (4, .int 1296), (0, .ref md), (1, .int (nI j_4)), (2, .int (nI j_8)), (3, .int a3)]) hx hb dX6_pours_89 hl (k := 1) rfl (by decide) (by decide) rfl (fun ls hl => ?_)
                    refine lv_goto (tgt := 65) hx hb dX6_pours_92 (by decide) ?_
                    refine lv_iload hx hb dX6_pours_65 (lv_at hl 0 rfl) ?_
                    refine lv_if_lt (tgt := 95) hx hb dX6_pours_67 (by decide) (fun h => absurd h (by decide)) (fun _ => ?_)
                    refine lv_aload_n hx hb dX6_pours_70 rfl (lv_at hl 5 rfl) ?_
                    refine va_get (D := D) (ci := 6) (v := .ref td) (C := RX6) (T := TX6) (N := 24) hx hb hts hi6 hown hK.1 hP 0 rfl rfl 19 (by decide) wf34 (fun _ h9 => h9) rfl dX6_pours_71 ?_
                    refine lv_iload hx hb dX6_pours_74 (lv_at hl 0 rfl) ?_
                    refine lv_iload hx hb dX6_pours_76 (lv_at hl 1 rfl) ?_
                    refine lv_bipush (v := 36) hx hb dX6_pours_78 (by decide) ?_
                    refine lv_irem hx hb dX6_pours_80 (by decide) ?_
                    refine wt_top (z := nI ((i_18 / 36) % 36)) (pk_rem (by omega) (by decide) (by decide)) ?_
                    refine va_iast hx hb hK.1 hP hD hS 3 0 rfl rfl (by rw [vp_in_iff]; decide) dX6_pours_81 (fun H locs hP hD hS => ?_)
                    have hP : va_P D vwCl [(md, .inr (6, [.int 0, vm_1, vm_2, vm_3, vm_4, .ref hs, vm_6, .ref tn, vm_8, vm_9, vm_10, vm_11, vm_12, vm_13, vm_14, vm_15, vm_16, vm_17, vm_18, .ref td, vm_20, vm_21, vm_22, vm_23])), (hs, .inl (cI, 45, .inl f)), (tn, .inl (cI, 45, .inl g_11_15_19)), (td, .inl (cI, 3, .inl (upd fP_46 (Int32.toNatClampNeg 0) (nI ((i_18 / 36) % 36)))))] H := hP
                    have hD : va_D A [(md, .inr (6, [.int 0, vm_1, vm_2, vm_3, vm_4, .ref hs, vm_6, .ref tn, vm_8, vm_9, vm_10, vm_11, vm_12, vm_13, vm_14, vm_15, vm_16, vm_17, vm_18, .ref td, vm_20, vm_21, vm_22, vm_23])), (hs, .inl (cI, 45, .inl f)), (tn, .inl (cI, 45, .inl g_11_15_19)), (td, .inl (cI, 3, .inl (upd fP_46 (Int32.toNatClampNeg 0) (nI ((i_18 / 36) % 36)))))] := hD
                    have hw_47 : hw 35 3 (upd fP_46 (Int32.toNatClampNeg 0) (nI ((i_18 / 36) % 36))) := hw_upd (v := ((i_18 / 36) % 36)) hw_45 (by omega) _
                    generalize upd fP_46 (Int32.toNatClampNeg 0) (nI ((i_18 / 36) % 36)) = fP_48 at hP hD hw_47
                    refine lv_iload hx hb dX6_pours_82 (lv_at hl 1 rfl) ?_
                    refine lv_bipush (v := 36) hx hb dX6_pours_84 (by decide) ?_
                    refine lv_idiv hx hb dX6_pours_86 (by decide) ?_
                    refine wt_top (z := nI ((i_18 / 36) / 36)) (pk_div (by omega) (by decide) (by decide)) ?_
                    refine lv_istore (lv' := [(7, .int (nI ((i_18 / 36) / 36))), (8, .int 0), (6, .int (nI i_18)), (5, .int 2), (4, .int 1296), (0, .ref md), (1, .int (nI j_4)), (2, .int (nI j_8)), (3, .int a3)]) hx hb dX6_pours_87 hl (by decide) rfl (fun ls hl => ?_)
                    refine lv_iinc (v := (-1)) (lv' := [(8, .int (-1)), (7, .int (nI ((i_18 / 36) / 36))), (6, .int (nI i_18)), (5, .int 2), (4, .int 1296), (0, .ref md), (1, .int (nI j_4)), (2, .int (nI j_8)), (3, .int a3)]) hx hb dX6_pours_89 hl (k := 1) rfl (by decide) (by decide) rfl (fun ls hl => ?_)
                    refine lv_goto (tgt := 65) hx hb dX6_pours_92 (by decide) ?_
                    refine lv_iload hx hb dX6_pours_65 (lv_at hl 0 rfl) ?_
                    refine lv_if_lt (tgt := 95) hx hb dX6_pours_67 (by decide) (fun _ => ?_) (fun h => absurd h (by decide))
                    refine lv_aload_n hx hb dX6_pours_95 rfl (lv_at hl 5 rfl) ?_
                    refine lv_iload_n hx hb dX6_pours_96 rfl (lv_at hl 6 rfl) ?_
                    refine lv_iload_n hx hb dX6_pours_97 rfl (lv_at hl 7 rfl) ?_
                    refine lv_iload hx hb dX6_pours_98 (lv_at hl 3 rfl) ?_
                    refine wt_goI (wr := []) (wt_runV (As := [.int (nI j_4), .int (nI j_8), .int 2]) (rest := []) ⟨hx, hb, hml, hown, hts⟩ (c_X6_doPour l D cI cZ cH md hs R T f tn g_11_15_19 td fP_48 j_4 2 (nI j_8) (.int 0) vm_1 vm_2 vm_3 vm_4 vm_6 vm_8 vm_9 vm_10 vm_11 vm_12 vm_13 vm_14 vm_15 vm_16 vm_17 vm_18 vm_20 vm_21 vm_22 vm_23 (by first | assumption | omega) (by first | assumption | omega) (by first | assumption | omega) (by first | assumption | omega) (by first | assumption | omega) (by first | assumption | omega)) (cwV 3 hts gX6_pours_X6_doPour rfl rfl rfl (by decide +kernel) ⟨Nat.le_of_ble_eq_true rfl, Nat.le_of_ble_eq_true rfl⟩) hK hP hD [0, 1, 2, 3] rfl (by decide) (va_recv hK.1 hP (ci := 6) (q0 := 0) rfl rfl) rfl hl.1 rfl (Nat.le_of_ble_eq_true rfl) dX6_pours_100 ⟨Nat.le_of_ble_eq_true rfl, Nat.le_of_ble_eq_true rfl⟩) hP hD hS hA [0, 1, 2, 3] [] rfl rfl (by decide) (by decide) (fun r_49 w_50 H locs h_51 hP hD hS => ?_)
                    obtain ⟨g2_52, rfl⟩ := h_51
                    have hP : va_P D vwCl [(md, .inr (6, [.int 0, vm_1, vm_2, vm_3, vm_4, .ref hs, vm_6, .ref tn, vm_8, vm_9, vm_10, vm_11, vm_12, vm_13, vm_14, vm_15, vm_16, vm_17, vm_18, .ref td, vm_20, vm_21, vm_22, vm_23])), (hs, .inl (cI, 45, .inl f)), (tn, .inl (cI, 45, .inl g2_52)), (td, .inl (cI, 3, .inl fP_48))] H := hP
                    have hD : va_D A [(md, .inr (6, [.int 0, vm_1, vm_2, vm_3, vm_4, .ref hs, vm_6, .ref tn, vm_8, vm_9, vm_10, vm_11, vm_12, vm_13, vm_14, vm_15, vm_16, vm_17, vm_18, .ref td, vm_20, vm_21, vm_22, vm_23])), (hs, .inl (cI, 45, .inl f)), (tn, .inl (cI, 45, .inl g2_52)), (td, .inl (cI, 3, .inl fP_48))] := hD
                    refine lv_if_eq (tgt := 150) hx hb dX6_pours_103 (by decide) (fun c_53 => ?_) (fun c_53 => ?_)
                    · skip
                      refine lv_iinc (v := nI (i_18 + 1)) (lv' := [(6, .int (nI (i_18 + 1))), (8, .int (-1)), (7, .int (nI ((i_18 / 36) / 36))), (5, .int 2), (4, .int 1296), (0, .ref md), (1, .int (nI j_4)), (2, .int (nI j_8)), (3, .int a3)]) hx hb dX6_pours_150 hl (k := 2) rfl (nI_add i_18 1) (by decide) rfl (fun ls hl => ?_)
                      refine lv_goto (tgt := 48) hx hb dX6_pours_153 (by decide) ?_
                      exact ih48 ((i_18 + 1)) g2_52 fP_48 H locs ls (by omega) hw_47 hP hD hS (lv_sub hl [0, 3, 4, 5, 6, 7, 8] rfl)
                    · skip
                      refine lv_iload_n hx hb dX6_pours_106 rfl (lv_at hl 8 rfl) ?_
                      refine lv_iconst (v := (-1)) hx hb dX6_pours_107 (by decide) ?_
                      refine lv_icmp_ne (tgt := 116) hx hb dX6_pours_108 (by decide) (fun c_54 => ?_) (fun c_54 => ?_)
                      · skip
                        refine lv_iload_n hx hb dX6_pours_116 rfl (lv_at hl 8 rfl) ?_
                        refine lv_iload hx hb dX6_pours_117 (lv_at hl 3 rfl) ?_
                        refine lv_icmp_ge (tgt := 147) hx hb dX6_pours_119 (by decide) (fun c_55 => ?_) (fun c_55 => ?_)
                        · skip
                          refine lv_ldc hx hb hown wc90 dX6_pours_147 ?_
                          have hP9 := hP.sub (ws' := [(md, .inr (6, [.int 0, vm_1, vm_2, vm_3, vm_4, .ref hs, vm_6, .ref tn, vm_8, vm_9, vm_10, vm_11, vm_12, vm_13, vm_14, vm_15, vm_16, vm_17, vm_18, .ref td, vm_20, vm_21, vm_22, vm_23])), (hs, .inl (cI, 45, .inl f)), (tn, .inl (cI, 45, .inl g2_52)), (td, .inl (cI, 3, .inl fP_48))]) [0, 1, 2, 3] rfl
                          have hD9 := hD.sub (ws' := [(md, .inr (6, [.int 0, vm_1, vm_2, vm_3, vm_4, .ref hs, vm_6, .ref tn, vm_8, vm_9, vm_10, vm_11, vm_12, vm_13, vm_14, vm_15, vm_16, vm_17, vm_18, .ref td, vm_20, vm_21, vm_22, vm_23])), (hs, .inl (cI, 45, .inl f)), (tn, .inl (cI, 45, .inl g2_52)), (td, .inl (cI, 3, .inl fP_48))]) [0, 1, 2, 3] (by decide) rfl
                          exact wt_iret hx hb hr hlocks hP9 hD9 hS ⟨g2_52, fP_48, rfl, hw_47⟩ dX6_pours_149
                        · skip
                          refine lv_bipush (v := 10) hx hb dX6_pours_122 (by decide) ?_
                          refine lv_aload_n hx hb dX6_pours_124 rfl (lv_at hl 5 rfl) ?_
                          refine va_get (D := D) (ci := 6) (v := .ref td) (C := RX6) (T := TX6) (N := 24) hx hb hts hi6 hown hK.1 hP 0 rfl rfl 19 (by decide) wf34 (fun _ h9 => h9) rfl dX6_pours_125 ?_
                          refine lv_iload_n hx hb dX6_pours_128 rfl (lv_at hl 8 rfl) ?_
                          refine va_iald hx hb hK.1 hP 3 0 rfl rfl (wt_ix3 (d := 2) c_9 c_54 c_55 (by decide)) dX6_pours_129 ?_
                          refine lv_topi (fun ov_56 _ => ?_)
                          refine lv_bipush (v := 6) hx hb dX6_pours_130 (by decide) ?_
                          refine lv_idiv hx hb dX6_pours_132 (by decide) ?_
                          refine lv_topi (fun ov_57 _ => ?_)
                          refine lv_imul hx hb dX6_pours_133 ?_
                          refine lv_topi (fun ov_58 _ => ?_)
                          refine lv_aload_n hx hb dX6_pours_134 rfl (lv_at hl 5 rfl) ?_
                          refine va_get (D := D) (ci := 6) (v := .ref td) (C := RX6) (T := TX6) (N := 24) hx hb hts hi6 hown hK.1 hP 0 rfl rfl 19 (by decide) wf34 (fun _ h9 => h9) rfl dX6_pours_135 ?_
                          refine lv_iload_n hx hb dX6_pours_138 rfl (lv_at hl 8 rfl) ?_
                          refine va_iald hx hb hK.1 hP 3 0 rfl rfl (wt_ix3 (d := 2) c_9 c_54 c_55 (by decide)) dX6_pours_139 ?_
                          refine lv_topi (fun ov_59 _ => ?_)
                          refine lv_bipush (v := 6) hx hb dX6_pours_140 (by decide) ?_
                          refine lv_irem hx hb dX6_pours_142 (by decide) ?_
                          refine lv_topi (fun ov_60 _ => ?_)
                          refine lv_iadd hx hb dX6_pours_143 ?_
                          refine lv_topi (fun ov_61 _ => ?_)
                          refine lv_goto (tgt := 149) hx hb dX6_pours_144 (by decide) ?_
                          have hP9 := hP.sub (ws' := [(md, .inr (6, [.int 0, vm_1, vm_2, vm_3, vm_4, .ref hs, vm_6, .ref tn, vm_8, vm_9, vm_10, vm_11, vm_12, vm_13, vm_14, vm_15, vm_16, vm_17, vm_18, .ref td, vm_20, vm_21, vm_22, vm_23])), (hs, .inl (cI, 45, .inl f)), (tn, .inl (cI, 45, .inl g2_52)), (td, .inl (cI, 3, .inl fP_48))]) [0, 1, 2, 3] rfl
                          have hD9 := hD.sub (ws' := [(md, .inr (6, [.int 0, vm_1, vm_2, vm_3, vm_4, .ref hs, vm_6, .ref tn, vm_8, vm_9, vm_10, vm_11, vm_12, vm_13, vm_14, vm_15, vm_16, vm_17, vm_18, .ref td, vm_20, vm_21, vm_22, vm_23])), (hs, .inl (cI, 45, .inl f)), (tn, .inl (cI, 45, .inl g2_52)), (td, .inl (cI, 3, .inl fP_48))]) [0, 1, 2, 3] (by decide) rfl
                          exact wt_iret hx hb hr hlocks hP9 hD9 hS ⟨g2_52, fP_48, rfl, hw_47⟩ dX6_pours_149
                      · skip
                        refine lv_iload hx hb dX6_pours_111 (lv_at hl 3 rfl) ?_
                        refine lv_goto (tgt := 149) hx hb dX6_pours_113 (by decide) ?_
                        have hP9 := hP.sub (ws' := [(md, .inr (6, [.int 0, vm_1, vm_2, vm_3, vm_4, .ref hs, vm_6, .ref tn, vm_8, vm_9, vm_10, vm_11, vm_12, vm_13, vm_14, vm_15, vm_16, vm_17, vm_18, .ref td, vm_20, vm_21, vm_22, vm_23])), (hs, .inl (cI, 45, .inl f)), (tn, .inl (cI, 45, .inl g2_52)), (td, .inl (cI, 3, .inl fP_48))]) [0, 1, 2, 3] rfl
                        have hD9 := hD.sub (ws' := [(md, .inr (6, [.int 0, vm_1, vm_2, vm_3, vm_4, .ref hs, vm_6, .ref tn, vm_8, vm_9, vm_10, vm_11, vm_12, vm_13, vm_14, vm_15, vm_16, vm_17, vm_18, .ref td, vm_20, vm_21, vm_22, vm_23])), (hs, .inl (cI, 45, .inl f)), (tn, .inl (cI, 45, .inl g2_52)), (td, .inl (cI, 3, .inl fP_48))]) [0, 1, 2, 3] (by decide) rfl
                        exact wt_iret hx hb hr hlocks hP9 hD9 hS ⟨g2_52, fP_48, rfl, hw_47⟩ dX6_pours_149
                exact loop48 (1296 - 0) (0) g_11_15 df_12_16 _ _ ls (by omega) hw_17 hP hD hS hl
              | succ k ih48 =>
                intro i_14 g_11_15 df_12_16 H locs ls hik hw_17 hP hD hS hl
                refine lv_iload hx hb dX6_pours_48 (lv_at hl 0 rfl) ?_
                refine lv_iload hx hb dX6_pours_50 (lv_at hl 2 rfl) ?_
                refine lv_icmp_ge (tgt := 156) hx hb dX6_pours_52 (by decide) (fun h => absurd h (nI_ge (a := i_14) (b := 36) (by omega) (by omega))) (fun _ => ?_)
                refine lv_iload hx hb dX6_pours_55 (lv_at hl 0 rfl) ?_
                refine lv_istore (lv' := [(7, .int (nI i_14)), (6, .int (nI i_14)), (5, .int 1), (4, .int 36), (0, .ref md), (1, .int (nI j_4)), (2, .int (nI j_8)), (3, .int a3)]) hx hb dX6_pours_57 hl (by decide) rfl (fun ls hl => ?_)
                refine lv_iload hx hb dX6_pours_59 (lv_at hl 2 rfl) ?_
                refine lv_iconst (v := 1) hx hb dX6_pours_61 (by decide) ?_
                refine lv_isub hx hb dX6_pours_62 ?_
                refine wt_top (z := 0) (by decide) ?_
                refine lv_istore (lv' := [(8, .int 0), (7, .int (nI i_14)), (6, .int (nI i_14)), (5, .int 1), (4, .int 36), (0, .ref md), (1, .int (nI j_4)), (2, .int (nI j_8)), (3, .int a3)]) hx hb dX6_pours_63 hl (by decide) rfl (fun ls hl => ?_)
                refine lv_iload hx hb dX6_pours_65 (lv_at hl 0 rfl) ?_
                refine lv_if_lt (tgt := 95) hx hb dX6_pours_67 (by decide) (fun h => absurd h (by decide)) (fun _ => ?_)
                refine lv_aload_n hx hb dX6_pours_70 rfl (lv_at hl 5 rfl) ?_
                refine va_get (D := D) (ci := 6) (v := .ref td) (C := RX6) (T := TX6) (N := 24) hx hb hts hi6 hown hK.1 hP 0 rfl rfl 19 (by decide) wf34 (fun _ h9 => h9) rfl dX6_pours_71 ?_
                refine lv_iload hx hb dX6_pours_74 (lv_at hl 0 rfl) ?_
                refine lv_iload hx hb dX6_pours_76 (lv_at hl 1 rfl) ?_
                refine lv_bipush (v := 36) hx hb dX6_pours_78 (by decide) ?_
                refine lv_irem hx hb dX6_pours_80 (by decide) ?_
                refine wt_top (z := nI (i_14 % 36)) (pk_rem (by omega) (by decide) (by decide)) ?_
                refine va_iast hx hb hK.1 hP hD hS 3 0 rfl rfl (by rw [vp_in_iff]; decide) dX6_pours_81 (fun H locs hP hD hS => ?_)
                have hP : va_P D vwCl [(md, .inr (6, [.int 0, vm_1, vm_2, vm_3, vm_4, .ref hs, vm_6, .ref tn, vm_8, vm_9, vm_10, vm_11, vm_12, vm_13, vm_14, vm_15, vm_16, vm_17, vm_18, .ref td, vm_20, vm_21, vm_22, vm_23])), (hs, .inl (cI, 45, .inl f)), (tn, .inl (cI, 45, .inl g_11_15)), (td, .inl (cI, 3, .inl (upd df_12_16 (Int32.toNatClampNeg 0) (nI (i_14 % 36)))))] H := hP
                have hD : va_D A [(md, .inr (6, [.int 0, vm_1, vm_2, vm_3, vm_4, .ref hs, vm_6, .ref tn, vm_8, vm_9, vm_10, vm_11, vm_12, vm_13, vm_14, vm_15, vm_16, vm_17, vm_18, .ref td, vm_20, vm_21, vm_22, vm_23])), (hs, .inl (cI, 45, .inl f)), (tn, .inl (cI, 45, .inl g_11_15)), (td, .inl (cI, 3, .inl (upd df_12_16 (Int32.toNatClampNeg 0) (nI (i_14 % 36)))))] := hD
                have hw_62 : hw 35 3 (upd df_12_16 (Int32.toNatClampNeg 0) (nI (i_14 % 36))) := hw_upd (v := (i_14 % 36)) hw_17 (by omega) _
                generalize upd df_12_16 (Int32.toNatClampNeg 0) (nI (i_14 % 36)) = fP_63 at hP hD hw_62
                refine lv_iload hx hb dX6_pours_82 (lv_at hl 1 rfl) ?_
                refine lv_bipush (v := 36) hx hb dX6_pours_84 (by decide) ?_
                refine lv_idiv hx hb dX6_pours_86 (by decide) ?_
                refine wt_top (z := nI (i_14 / 36)) (pk_div (by omega) (by decide) (by decide)) ?_
                refine lv_istore (lv' := [(7, .int (nI (i_14 / 36))), (8, .int 0), (6, .int (nI i_14)), (5, .int 1), (4, .int 36), (0, .ref md), (1, .int (nI j_4)), (2, .int (nI j_8)), (3, .int a3)]) hx hb dX6_pours_87 hl (by decide) rfl (fun ls hl => ?_)
                refine lv_iinc (v := (-1)) (lv' := [(8, .int (-1)), (7, .int (nI (i_14 / 36))), (6, .int (nI i_14)), (5, .int 1), (4, .int 36), (0, .ref md), (1, .int (nI j_4)), (2, .int (nI j_8)), (3, .int a3)]) hx hb dX6_pours_89 hl (k := 1) rfl (by decide) (by decide) rfl (fun ls hl => ?_)
                refine lv_goto (tgt := 65) hx hb dX6_pours_92 (by decide) ?_
                refine lv_iload hx hb dX6_pours_65 (lv_at hl 0 rfl) ?_
                refine lv_if_lt (tgt := 95) hx hb dX6_pours_67 (by decide) (fun _ => ?_) (fun h => absurd h (by decide))
                refine lv_aload_n hx hb dX6_pours_95 rfl (lv_at hl 5 rfl) ?_
                refine lv_iload_n hx hb dX6_pours_96 rfl (lv_at hl 6 rfl) ?_
                refine lv_iload_n hx hb dX6_pours_97 rfl (lv_at hl 7 rfl) ?_
                refine lv_iload hx hb dX6_pours_98 (lv_at hl 3 rfl) ?_
                refine wt_goI (wr := []) (wt_runV (As := [.int (nI j_4), .int (nI j_8), .int 1]) (rest := []) ⟨hx, hb, hml, hown, hts⟩ (c_X6_doPour l D cI cZ cH md hs R T f tn g_11_15 td fP_63 j_4 1 (nI j_8) (.int 0) vm_1 vm_2 vm_3 vm_4 vm_6 vm_8 vm_9 vm_10 vm_11 vm_12 vm_13 vm_14 vm_15 vm_16 vm_17 vm_18 vm_20 vm_21 vm_22 vm_23 (by first | assumption | omega) (by first | assumption | omega) (by first | assumption | omega) (by first | assumption | omega) (by first | assumption | omega) (by first | assumption | omega)) (cwV 3 hts gX6_pours_X6_doPour rfl rfl rfl (by decide +kernel) ⟨Nat.le_of_ble_eq_true rfl, Nat.le_of_ble_eq_true rfl⟩) hK hP hD [0, 1, 2, 3] rfl (by decide) (va_recv hK.1 hP (ci := 6) (q0 := 0) rfl rfl) rfl hl.1 rfl (Nat.le_of_ble_eq_true rfl) dX6_pours_100 ⟨Nat.le_of_ble_eq_true rfl, Nat.le_of_ble_eq_true rfl⟩) hP hD hS hA [0, 1, 2, 3] [] rfl rfl (by decide) (by decide) (fun r_64 w_65 H locs h_66 hP hD hS => ?_)
                obtain ⟨g2_67, rfl⟩ := h_66
                have hP : va_P D vwCl [(md, .inr (6, [.int 0, vm_1, vm_2, vm_3, vm_4, .ref hs, vm_6, .ref tn, vm_8, vm_9, vm_10, vm_11, vm_12, vm_13, vm_14, vm_15, vm_16, vm_17, vm_18, .ref td, vm_20, vm_21, vm_22, vm_23])), (hs, .inl (cI, 45, .inl f)), (tn, .inl (cI, 45, .inl g2_67)), (td, .inl (cI, 3, .inl fP_63))] H := hP
                have hD : va_D A [(md, .inr (6, [.int 0, vm_1, vm_2, vm_3, vm_4, .ref hs, vm_6, .ref tn, vm_8, vm_9, vm_10, vm_11, vm_12, vm_13, vm_14, vm_15, vm_16, vm_17, vm_18, .ref td, vm_20, vm_21, vm_22, vm_23])), (hs, .inl (cI, 45, .inl f)), (tn, .inl (cI, 45, .inl g2_67)), (td, .inl (cI, 3, .inl fP_63))] := hD
                refine lv_if_eq (tgt := 150) hx hb dX6_pours_103 (by decide) (fun c_68 => ?_) (fun c_68 => ?_)
                · skip
                  refine lv_iinc (v := nI (i_14 + 1)) (lv' := [(6, .int (nI (i_14 + 1))), (8, .int (-1)), (7, .int (nI (i_14 / 36))), (5, .int 1), (4, .int 36), (0, .ref md), (1, .int (nI j_4)), (2, .int (nI j_8)), (3, .int a3)]) hx hb dX6_pours_150 hl (k := 2) rfl (nI_add i_14 1) (by decide) rfl (fun ls hl => ?_)
                  refine lv_goto (tgt := 48) hx hb dX6_pours_153 (by decide) ?_
                  exact ih48 ((i_14 + 1)) g2_67 fP_63 H locs ls (by omega) hw_62 hP hD hS (lv_sub hl [0, 3, 4, 5, 6, 7, 8] rfl)
                · skip
                  refine lv_iload_n hx hb dX6_pours_106 rfl (lv_at hl 8 rfl) ?_
                  refine lv_iconst (v := (-1)) hx hb dX6_pours_107 (by decide) ?_
                  refine lv_icmp_ne (tgt := 116) hx hb dX6_pours_108 (by decide) (fun c_69 => ?_) (fun c_69 => ?_)
                  · skip
                    refine lv_iload_n hx hb dX6_pours_116 rfl (lv_at hl 8 rfl) ?_
                    refine lv_iload hx hb dX6_pours_117 (lv_at hl 3 rfl) ?_
                    refine lv_icmp_ge (tgt := 147) hx hb dX6_pours_119 (by decide) (fun c_70 => ?_) (fun c_70 => ?_)
                    · skip
                      refine lv_ldc hx hb hown wc90 dX6_pours_147 ?_
                      have hP9 := hP.sub (ws' := [(md, .inr (6, [.int 0, vm_1, vm_2, vm_3, vm_4, .ref hs, vm_6, .ref tn, vm_8, vm_9, vm_10, vm_11, vm_12, vm_13, vm_14, vm_15, vm_16, vm_17, vm_18, .ref td, vm_20, vm_21, vm_22, vm_23])), (hs, .inl (cI, 45, .inl f)), (tn, .inl (cI, 45, .inl g2_67)), (td, .inl (cI, 3, .inl fP_63))]) [0, 1, 2, 3] rfl
                      have hD9 := hD.sub (ws' := [(md, .inr (6, [.int 0, vm_1, vm_2, vm_3, vm_4, .ref hs, vm_6, .ref tn, vm_8, vm_9, vm_10, vm_11, vm_12, vm_13, vm_14, vm_15, vm_16, vm_17, vm_18, .ref td, vm_20, vm_21, vm_22, vm_23])), (hs, .inl (cI, 45, .inl f)), (tn, .inl (cI, 45, .inl g2_67)), (td, .inl (cI, 3, .inl fP_63))]) [0, 1, 2, 3] (by decide) rfl
                      exact wt_iret hx hb hr hlocks hP9 hD9 hS ⟨g2_67, fP_63, rfl, hw_62⟩ dX6_pours_149
                    · skip
                      refine lv_bipush (v := 10) hx hb dX6_pours_122 (by decide) ?_
                      refine lv_aload_n hx hb dX6_pours_124 rfl (lv_at hl 5 rfl) ?_
                      refine va_get (D := D) (ci := 6) (v := .ref td) (C := RX6) (T := TX6) (N := 24) hx hb hts hi6 hown hK.1 hP 0 rfl rfl 19 (by decide) wf34 (fun _ h9 => h9) rfl dX6_pours_125 ?_
                      refine lv_iload_n hx hb dX6_pours_128 rfl (lv_at hl 8 rfl) ?_
                      refine va_iald hx hb hK.1 hP 3 0 rfl rfl (wt_ix3 (d := 1) c_9 c_69 c_70 (by decide)) dX6_pours_129 ?_
                      refine lv_topi (fun ov_71 _ => ?_)
                      refine lv_bipush (v := 6) hx hb dX6_pours_130 (by decide) ?_
                      refine lv_idiv hx hb dX6_pours_132 (by decide) ?_
                      refine lv_topi (fun ov_72 _ => ?_)
                      refine lv_imul hx hb dX6_pours_133 ?_
                      refine lv_topi (fun ov_73 _ => ?_)
                      refine lv_aload_n hx hb dX6_pours_134 rfl (lv_at hl 5 rfl) ?_
                      refine va_get (D := D) (ci := 6) (v := .ref td) (C := RX6) (T := TX6) (N := 24) hx hb hts hi6 hown hK.1 hP 0 rfl rfl 19 (by decide) wf34 (fun _ h9 => h9) rfl dX6_pours_135 ?_
                      refine lv_iload_n hx hb dX6_pours_138 rfl (lv_at hl 8 rfl) ?_
                      refine va_iald hx hb hK.1 hP 3 0 rfl rfl (wt_ix3 (d := 1) c_9 c_69 c_70 (by decide)) dX6_pours_139 ?_
                      refine lv_topi (fun ov_74 _ => ?_)
                      refine lv_bipush (v := 6) hx hb dX6_pours_140 (by decide) ?_
                      refine lv_irem hx hb dX6_pours_142 (by decide) ?_
                      refine lv_topi (fun ov_75 _ => ?_)
                      refine lv_iadd hx hb dX6_pours_143 ?_
                      refine lv_topi (fun ov_76 _ => ?_)
                      refine lv_goto (tgt := 149) hx hb dX6_pours_144 (by decide) ?_
                      have hP9 := hP.sub (ws' := [(md, .inr (6, [.int 0, vm_1, vm_2, vm_3, vm_4, .ref hs, vm_6, .ref tn, vm_8, vm_9, vm_10, vm_11, vm_12, vm_13, vm_14, vm_15, vm_16, vm_17, vm_18, .ref td, vm_20, vm_21, vm_22, vm_23])), (hs, .inl (cI, 45, .inl f)), (tn, .inl (cI, 45, .inl g2_67)), (td, .inl (cI, 3, .inl fP_63))]) [0, 1, 2, 3] rfl
                      have hD9 := hD.sub (ws' := [(md, .inr (6, [.int 0, vm_1, vm_2, vm_3, vm_4, .ref hs, vm_6, .ref tn, vm_8, vm_9, vm_10, vm_11, vm_12, vm_13, vm_14, vm_15, vm_16, vm_17, vm_18, .ref td, vm_20, vm_21, vm_22, vm_23])), (hs, .inl (cI, 45, .inl f)), (tn, .inl (cI, 45, .inl g2_67)), (td, .inl (cI, 3, .inl fP_63))]) [0, 1, 2, 3] (by decide) rfl
                      exact wt_iret hx hb hr hlocks hP9 hD9 hS ⟨g2_67, fP_63, rfl, hw_62⟩ dX6_pours_149
                  · skip
                    refine lv_iload hx hb dX6_pours_111 (lv_at hl 3 rfl) ?_
                    refine lv_goto (tgt := 149) hx hb dX6_pours_113 (by decide) ?_
                    have hP9 := hP.sub (ws' := [(md, .inr (6, [.int 0, vm_1, vm_2, vm_3, vm_4, .ref hs, vm_6, .ref tn, vm_8, vm_9, vm_10, vm_11, vm_12, vm_13, vm_14, vm_15, vm_16, vm_17, vm_18, .ref td, vm_20, vm_21, vm_22, vm_23])), (hs, .inl (cI, 45, .inl f)), (tn, .inl (cI, 45, .inl g2_67)), (td, .inl (cI, 3, .inl fP_63))]) [0, 1, 2, 3] rfl
                    have hD9 := hD.sub (ws' := [(md, .inr (6, [.int 0, vm_1, vm_2, vm_3, vm_4, .ref hs, vm_6, .ref tn, vm_8, vm_9, vm_10, vm_11, vm_12, vm_13, vm_14, vm_15, vm_16, vm_17, vm_18, .ref td, vm_20, vm_21, vm_22, vm_23])), (hs, .inl (cI, 45, .inl f)), (tn, .inl (cI, 45, .inl g2_67)), (td, .inl (cI, 3, .inl fP_63))]) [0, 1, 2, 3] (by decide) rfl
                    exact wt_iret hx hb hr hlocks hP9 hD9 hS ⟨g2_67, fP_63, rfl, hw_62⟩ dX6_pours_149
            exact loop48 (36 - 0) (0) g_11 df_12 _ _ ls (by omega) hw_13 hP hD hS hl
          | succ k ih48 =>
            intro i_10 g_11 df_12 H locs ls hik hw_13 hP hD hS hl
            refine lv_iload hx hb dX6_pours_48 (lv_at hl 0 rfl) ?_
            refine lv_iload hx hb dX6_pours_50 (lv_at hl 2 rfl) ?_
            refine lv_icmp_ge (tgt := 156) hx hb dX6_pours_52 (by decide) (fun h => absurd h (nI_ge (a := i_10) (b := 1) (by omega) (by omega))) (fun _ => ?_)
            refine lv_iload hx hb dX6_pours_55 (lv_at hl 0 rfl) ?_
            refine lv_istore (lv' := [(7, .int (nI i_10)), (6, .int (nI i_10)), (5, .int 0), (4, .int 1), (0, .ref md), (1, .int (nI j_4)), (2, .int (nI j_8)), (3, .int a3)]) hx hb dX6_pours_57 hl (by decide) rfl (fun ls hl => ?_)
            refine lv_iload hx hb dX6_pours_59 (lv_at hl 2 rfl) ?_
            refine lv_iconst (v := 1) hx hb dX6_pours_61 (by decide) ?_
            refine lv_isub hx hb dX6_pours_62 ?_
            refine wt_top (z := (-1)) (by decide) ?_
            refine lv_istore (lv' := [(8, .int (-1)), (7, .int (nI i_10)), (6, .int (nI i_10)), (5, .int 0), (4, .int 1), (0, .ref md), (1, .int (nI j_4)), (2, .int (nI j_8)), (3, .int a3)]) hx hb dX6_pours_63 hl (by decide) rfl (fun ls hl => ?_)
            refine lv_iload hx hb dX6_pours_65 (lv_at hl 0 rfl) ?_
            refine lv_if_lt (tgt := 95) hx hb dX6_pours_67 (by decide) (fun _ => ?_) (fun h => absurd h (by decide))
            refine lv_aload_n hx hb dX6_pours_95 rfl (lv_at hl 5 rfl) ?_
            refine lv_iload_n hx hb dX6_pours_96 rfl (lv_at hl 6 rfl) ?_
            refine lv_iload_n hx hb dX6_pours_97 rfl (lv_at hl 7 rfl) ?_
            refine lv_iload hx hb dX6_pours_98 (lv_at hl 3 rfl) ?_
            refine wt_goI (wr := []) (wt_runV (As := [.int (nI j_4), .int (nI j_8), .int 0]) (rest := []) ⟨hx, hb, hml, hown, hts⟩ (c_X6_doPour l D cI cZ cH md hs R T f tn g_11 td df_12 j_4 0 (nI j_8) (.int 0) vm_1 vm_2 vm_3 vm_4 vm_6 vm_8 vm_9 vm_10 vm_11 vm_12 vm_13 vm_14 vm_15 vm_16 vm_17 vm_18 vm_20 vm_21 vm_22 vm_23 (by first | assumption | omega) (by first | assumption | omega) (by first | assumption | omega) (by first | assumption | omega) (by first | assumption | omega) (by first | assumption | omega)) (cwV 3 hts gX6_pours_X6_doPour rfl rfl rfl (by decide +kernel) ⟨Nat.le_of_ble_eq_true rfl, Nat.le_of_ble_eq_true rfl⟩) hK hP hD [0, 1, 2, 3] rfl (by decide) (va_recv hK.1 hP (ci := 6) (q0 := 0) rfl rfl) rfl hl.1 rfl (Nat.le_of_ble_eq_true rfl) dX6_pours_100 ⟨Nat.le_of_ble_eq_true rfl, Nat.le_of_ble_eq_true rfl⟩) hP hD hS hA [0, 1, 2, 3] [] rfl rfl (by decide) (by decide) (fun r_77 w_78 H locs h_79 hP hD hS => ?_)
            obtain ⟨g2_80, rfl⟩ := h_79
            have hP : va_P D vwCl [(md, .inr (6, [.int 0, vm_1, vm_2, vm_3, vm_4, .ref hs, vm_6, .ref tn, vm_8, vm_9, vm_10, vm_11, vm_12, vm_13, vm_14, vm_15, vm_16, vm_17, vm_18, .ref td, vm_20, vm_21, vm_22, vm_23])), (hs, .inl (cI, 45, .inl f)), (tn, .inl (cI, 45, .inl g2_80)), (td, .inl (cI, 3, .inl df_12))] H := hP
            have hD : va_D A [(md, .inr (6, [.int 0, vm_1, vm_2, vm_3, vm_4, .ref hs, vm_6, .ref tn, vm_8, vm_9, vm_10, vm_11, vm_12, vm_13, vm_14, vm_15, vm_16, vm_17, vm_18, .ref td, vm_20, vm_21, vm_22, vm_23])), (hs, .inl (cI, 45, .inl f)), (tn, .inl (cI, 45, .inl g2_80)), (td, .inl (cI, 3, .inl df_12))] := hD
            refine lv_if_eq (tgt := 150) hx hb dX6_pours_103 (by decide) (fun c_81 => ?_) (fun c_81 => ?_)
            · skip
              refine lv_iinc (v := nI (i_10 + 1)) (lv' := [(6, .int (nI (i_10 + 1))), (8, .int (-1)), (7, .int (nI i_10)), (5, .int 0), (4, .int 1), (0, .ref md), (1, .int (nI j_4)), (2, .int (nI j_8)), (3, .int a3)]) hx hb dX6_pours_150 hl (k := 2) rfl (nI_add i_10 1) (by decide) rfl (fun ls hl => ?_)
              refine lv_goto (tgt := 48) hx hb dX6_pours_153 (by decide) ?_
              exact ih48 ((i_10 + 1)) g2_80 df_12 H locs ls (by omega) hw_13 hP hD hS (lv_sub hl [0, 3, 4, 5, 6, 7, 8] rfl)
            · skip
              refine lv_iload_n hx hb dX6_pours_106 rfl (lv_at hl 8 rfl) ?_
              refine lv_iconst (v := (-1)) hx hb dX6_pours_107 (by decide) ?_
              refine lv_icmp_ne (tgt := 116) hx hb dX6_pours_108 (by decide) (fun c_82 => ?_) (fun c_82 => ?_)
              · skip
                refine lv_iload_n hx hb dX6_pours_116 rfl (lv_at hl 8 rfl) ?_
                refine lv_iload hx hb dX6_pours_117 (lv_at hl 3 rfl) ?_
                refine lv_icmp_ge (tgt := 147) hx hb dX6_pours_119 (by decide) (fun c_83 => ?_) (fun c_83 => ?_)
                · skip
                  refine lv_ldc hx hb hown wc90 dX6_pours_147 ?_
                  have hP9 := hP.sub (ws' := [(md, .inr (6, [.int 0, vm_1, vm_2, vm_3, vm_4, .ref hs, vm_6, .ref tn, vm_8, vm_9, vm_10, vm_11, vm_12, vm_13, vm_14, vm_15, vm_16, vm_17, vm_18, .ref td, vm_20, vm_21, vm_22, vm_23])), (hs, .inl (cI, 45, .inl f)), (tn, .inl (cI, 45, .inl g2_80)), (td, .inl (cI, 3, .inl df_12))]) [0, 1, 2, 3] rfl
                  have hD9 := hD.sub (ws' := [(md, .inr (6, [.int 0, vm_1, vm_2, vm_3, vm_4, .ref hs, vm_6, .ref tn, vm_8, vm_9, vm_10, vm_11, vm_12, vm_13, vm_14, vm_15, vm_16, vm_17, vm_18, .ref td, vm_20, vm_21, vm_22, vm_23])), (hs, .inl (cI, 45, .inl f)), (tn, .inl (cI, 45, .inl g2_80)), (td, .inl (cI, 3, .inl df_12))]) [0, 1, 2, 3] (by decide) rfl
                  exact wt_iret hx hb hr hlocks hP9 hD9 hS ⟨g2_80, df_12, rfl, hw_13⟩ dX6_pours_149
                · skip
                  refine lv_bipush (v := 10) hx hb dX6_pours_122 (by decide) ?_
                  refine lv_aload_n hx hb dX6_pours_124 rfl (lv_at hl 5 rfl) ?_
                  refine va_get (D := D) (ci := 6) (v := .ref td) (C := RX6) (T := TX6) (N := 24) hx hb hts hi6 hown hK.1 hP 0 rfl rfl 19 (by decide) wf34 (fun _ h9 => h9) rfl dX6_pours_125 ?_
                  refine lv_iload_n hx hb dX6_pours_128 rfl (lv_at hl 8 rfl) ?_
                  refine va_iald hx hb hK.1 hP 3 0 rfl rfl (wt_ix3 (d := 0) c_9 c_82 c_83 (by decide)) dX6_pours_129 ?_
                  refine lv_topi (fun ov_84 _ => ?_)
                  refine lv_bipush (v := 6) hx hb dX6_pours_130 (by decide) ?_
                  refine lv_idiv hx hb dX6_pours_132 (by decide) ?_
                  refine lv_topi (fun ov_85 _ => ?_)
                  refine lv_imul hx hb dX6_pours_133 ?_
                  refine lv_topi (fun ov_86 _ => ?_)
                  refine lv_aload_n hx hb dX6_pours_134 rfl (lv_at hl 5 rfl) ?_
                  refine va_get (D := D) (ci := 6) (v := .ref td) (C := RX6) (T := TX6) (N := 24) hx hb hts hi6 hown hK.1 hP 0 rfl rfl 19 (by decide) wf34 (fun _ h9 => h9) rfl dX6_pours_135 ?_
                  refine lv_iload_n hx hb dX6_pours_138 rfl (lv_at hl 8 rfl) ?_
                  refine va_iald hx hb hK.1 hP 3 0 rfl rfl (wt_ix3 (d := 0) c_9 c_82 c_83 (by decide)) dX6_pours_139 ?_
                  refine lv_topi (fun ov_87 _ => ?_)
                  refine lv_bipush (v := 6) hx hb dX6_pours_140 (by decide) ?_
                  refine lv_irem hx hb dX6_pours_142 (by decide) ?_
                  refine lv_topi (fun ov_88 _ => ?_)
                  refine lv_iadd hx hb dX6_pours_143 ?_
                  refine lv_topi (fun ov_89 _ => ?_)
                  refine lv_goto (tgt := 149) hx hb dX6_pours_144 (by decide) ?_
                  have hP9 := hP.sub (ws' := [(md, .inr (6, [.int 0, vm_1, vm_2, vm_3, vm_4, .ref hs, vm_6, .ref tn, vm_8, vm_9, vm_10, vm_11, vm_12, vm_13, vm_14, vm_15, vm_16, vm_17, vm_18, .ref td, vm_20, vm_21, vm_22, vm_23])), (hs, .inl (cI, 45, .inl f)), (tn, .inl (cI, 45, .inl g2_80)), (td, .inl (cI, 3, .inl df_12))]) [0, 1, 2, 3] rfl
                  have hD9 := hD.sub (ws' := [(md, .inr (6, [.int 0, vm_1, vm_2, vm_3, vm_4, .ref hs, vm_6, .ref tn, vm_8, vm_9, vm_10, vm_11, vm_12, vm_13, vm_14, vm_15, vm_16, vm_17, vm_18, .ref td, vm_20, vm_21, vm_22, vm_23])), (hs, .inl (cI, 45, .inl f)), (tn, .inl (cI, 45, .inl g2_80)), (td, .inl (cI, 3, .inl df_12))]) [0, 1, 2, 3] (by decide) rfl
                  exact wt_iret hx hb hr hlocks hP9 hD9 hS ⟨g2_80, df_12, rfl, hw_13⟩ dX6_pours_149
              · skip
                refine lv_iload hx hb dX6_pours_111 (lv_at hl 3 rfl) ?_
                refine lv_goto (tgt := 149) hx hb dX6_pours_113 (by decide) ?_
                have hP9 := hP.sub (ws' := [(md, .inr (6, [.int 0, vm_1, vm_2, vm_3, vm_4, .ref hs, vm_6, .ref tn, vm_8, vm_9, vm_10, vm_11, vm_12, vm_13, vm_14, vm_15, vm_16, vm_17, vm_18, .ref td, vm_20, vm_21, vm_22, vm_23])), (hs, .inl (cI, 45, .inl f)), (tn, .inl (cI, 45, .inl g2_80)), (td, .inl (cI, 3, .inl df_12))]) [0, 1, 2, 3] rfl
                have hD9 := hD.sub (ws' := [(md, .inr (6, [.int 0, vm_1, vm_2, vm_3, vm_4, .ref hs, vm_6, .ref tn, vm_8, vm_9, vm_10, vm_11, vm_12, vm_13, vm_14, vm_15, vm_16, vm_17, vm_18, .ref td, vm_20, vm_21, vm_22, vm_23])), (hs, .inl (cI, 45, .inl f)), (tn, .inl (cI, 45, .inl g2_80)), (td, .inl (cI, 3, .inl df_12))]) [0, 1, 2, 3] (by decide) rfl
                exact wt_iret hx hb hr hlocks hP9 hD9 hS ⟨g2_80, df_12, rfl, hw_13⟩ dX6_pours_149
        exact loop48 (1 - 0) (0) g df _ _ ls (by omega) htd hP hD hS hl
      · skip
        refine lv_ldc hx hb hown wc67 dX6_pours_30 ?_
        have hP9 := hP.sub (ws' := [(md, .inr (6, [.int 0, vm_1, vm_2, vm_3, vm_4, .ref hs, vm_6, .ref tn, vm_8, vm_9, vm_10, vm_11, vm_12, vm_13, vm_14, vm_15, vm_16, vm_17, vm_18, .ref td, vm_20, vm_21, vm_22, vm_23])), (hs, .inl (cI, 45, .inl f)), (tn, .inl (cI, 45, .inl g)), (td, .inl (cI, 3, .inl df))]) [0, 1, 2, 3] rfl
        have hD9 := hD.sub (ws' := [(md, .inr (6, [.int 0, vm_1, vm_2, vm_3, vm_4, .ref hs, vm_6, .ref tn, vm_8, vm_9, vm_10, vm_11, vm_12, vm_13, vm_14, vm_15, vm_16, vm_17, vm_18, .ref td, vm_20, vm_21, vm_22, vm_23])), (hs, .inl (cI, 45, .inl f)), (tn, .inl (cI, 45, .inl g)), (td, .inl (cI, 3, .inl df))]) [0, 1, 2, 3] (by decide) rfl
        exact wt_iret hx hb hr hlocks hP9 hD9 hS ⟨g, df, rfl, htd⟩ dX6_pours_32

set_option maxHeartbeats 1000000 in
set_option maxRecDepth 100000 in
theorem c_X6_image_x (l : Launch) (D : va_G) (cI cZ cH : ClassId) (md hs : Nat) (R T : Nat) (f : Nat → Int32) (kp ik : Nat) (kf ikf : Nat → Int32) (a1 : Int32) (vm_0 vm_1 vm_2 vm_3 vm_4 vm_6 vm_7 vm_8 vm_9 vm_10 vm_11 vm_12 vm_13 vm_14 vm_15 vm_16 vm_17 vm_18 vm_19 vm_22 vm_23 : Value) (hR5 : R ≤ 5) (hT6 : T ≤ 6) (hrk : rk R T f) (hRT : 0 < R → 0 < T) (hkk : kk kf) : wt_M l yX6_image wsX6_image ({ frames := 1, cells := 0, slots := 0, locals := 25 } : Room) D (wt_T cI cZ cH) [.ref md, .int a1] [(md, .inr (6, [vm_0, vm_1, vm_2, vm_3, vm_4, .ref hs, vm_6, vm_7, vm_8, vm_9, vm_10, vm_11, vm_12, vm_13, vm_14, vm_15, vm_16, vm_17, vm_18, vm_19, .ref ik, .ref kp, vm_22, vm_23])), (hs, .inl (cI, 45, .inl f)), (kp, .inl (cI, 90, .inl kf)), (ik, .inl (cZ, 2, .inl ikf))] (wt_QI D (fun r w => ∃ (kf2 ikf2 : Nat → Int32), w = [(md, .inr (6, [.int 0, vm_1, vm_2, vm_3, vm_4, .ref hs, vm_6, vm_7, vm_8, vm_9, vm_10, vm_11, vm_12, vm_13, vm_14, vm_15, vm_16, vm_17, vm_18, vm_19, .ref ik, .ref kp, vm_22, vm_23])), (hs, .inl (cI, 45, .inl f)), (kp, .inl (cI, 90, .inl kf2)), (ik, .inl (cZ, 2, .inl ikf2))] ∧ r = imA a1 R ∧ kk kf2 ∧ imP a1 R ikf ikf2 kf kf2 f)) := by
  refine wt_M.ofW (cc := cX6_image) (maxL := 3) (ret := (some .int)) (by decide) rfl (Nat.le_of_ble_eq_true rfl) ?_
  intro p e s m below meth c A ls hx hb hr hts hown hlocks hml hnm hP hK hD hA hS hl
  have hP : va_P D vwCl [(md, .inr (6, [vm_0, vm_1, vm_2, vm_3, vm_4, .ref hs, vm_6, vm_7, vm_8, vm_9, vm_10, vm_11, vm_12, vm_13, vm_14, vm_15, vm_16, vm_17, vm_18, vm_19, .ref ik, .ref kp, vm_22, vm_23])), (hs, .inl (cI, 45, .inl f)), (kp, .inl (cI, 90, .inl kf)), (ik, .inl (cZ, 2, .inl ikf))] s.heap := hP
  have hown : s.vm.findClass RX6 = some m.cls := hown
  have hl : lv_has ls 3 [(0, .ref md), (1, .int a1)] := hl
  have hi6 : ∀ w ∈ u_ws RX6 TX6 24, w ∈ wsX6_image := by decide +kernel
  have wc189 := hts (.constant RX6 189 (-1000002)) (by decide +kernel)
  have wc67 := hts (.constant RX6 67 (-1000001)) (by decide +kernel)
  have wf19 := hts (.fieldLink RX6 19 "WarmTubesModel" "house" "[I") (by decide +kernel)
  have wf37 := hts (.fieldLink RX6 37 "WarmTubesModel" "isKept" "[Z") (by decide +kernel)
  have wf41 := hts (.fieldLink RX6 41 "WarmTubesModel" "kept" "[I") (by decide +kernel)
  have wf47 := hts (.fieldLink RX6 47 "WarmTubesModel" "thrown" "I") (by decide +kernel)
  refine lv_aload_n hx hb dX6_image_0 rfl (lv_at hl 0 rfl) ?_
  refine lv_iconst (v := 0) hx hb dX6_image_1 (by decide) ?_
  refine va_put (D := D) (ci := 6) (v := .int 0) (ty := .int) (C := RX6) (T := TX6) (N := 24) hx hb hts hi6 tyX6 tyX6_ok nmX6 hown hK.1 hP hD hS 0 rfl rfl 0 (by decide) wf47 (fun _ h9 => h9) rfl (by decide +kernel) rfl rfl (Nat.le_of_ble_eq_true rfl) dX6_image_2 (fun H locs hP hD hS => ?_)
  have hP : va_P D vwCl [(md, .inr (6, [.int 0, vm_1, vm_2, vm_3, vm_4, .ref hs, vm_6, vm_7, vm_8, vm_9, vm_10, vm_11, vm_12, vm_13, vm_14, vm_15, vm_16, vm_17, vm_18, vm_19, .ref ik, .ref kp, vm_22, vm_23])), (hs, .inl (cI, 45, .inl f)), (kp, .inl (cI, 90, .inl kf)), (ik, .inl (cZ, 2, .inl ikf))] H := hP
  have hD : va_D A [(md, .inr (6, [.int 0, vm_1, vm_2, vm_3, vm_4, .ref hs, vm_6, vm_7, vm_8, vm_9, vm_10, vm_11, vm_12, vm_13, vm_14, vm_15, vm_16, vm_17, vm_18, vm_19, .ref ik, .ref kp, vm_22, vm_23])), (hs, .inl (cI, 45, .inl f)), (kp, .inl (cI, 90, .inl kf)), (ik, .inl (cZ, 2, .inl ikf))] := hD
  refine lv_iload_n hx hb dX6_image_5 rfl (lv_at hl 1 rfl) ?_
  refine lv_i2l hx hb dX6_image_6 rfl ?_
  refine lv_lconst (v := 0) hx hb dX6_image_7 (by decide) ?_
  refine lv_lconst (v := 1) hx hb dX6_image_8 (by decide) ?_
  refine wt_rS (As := [.long a1.toInt64, .long 0, .long 1]) (rest := []) ⟨hx, hb, hml, hown, hts⟩ (c_X6_in l D cI cZ cH a1.toInt64 0 1) (va_cwS 3 hts gX6_image_X6_in rfl rfl rfl (by decide +kernel) ⟨Nat.le_of_ble_eq_true rfl, Nat.le_of_ble_eq_true rfl⟩) hK hP [] rfl rfl hl.1 rfl (Nat.le_of_ble_eq_true rfl) dX6_image_9 ⟨Nat.le_of_ble_eq_true rfl, Nat.le_of_ble_eq_true rfl⟩ (fun r_1 e_2 => ?_)
  subst e_2
  refine wt_top (z := wI a1 0 1) (wL_I' (by decide) (by decide)) ?_
  refine lv_if_ne (tgt := 18) hx hb dX6_image_12 (by decide) (fun c_3 => ?_) (fun c_3 => ?_)
  · skip
    obtain ⟨j_4, hj_4, hj_4b, rfl⟩ := wI_nat (a := 0) (b := 1) (by omega) (by omega) c_3
    refine lv_aload_n hx hb dX6_image_18 rfl (lv_at hl 0 rfl) ?_
    refine wt_rV (As := []) (rest := []) ⟨hx, hb, hml, hown, hts⟩ (c_X6_isThere l D cI cZ cH md hs R T f (.int 0) vm_1 vm_2 vm_3 vm_4 vm_6 vm_7 vm_8 vm_9 vm_10 vm_11 vm_12 vm_13 vm_14 vm_15 vm_16 vm_17 vm_18 vm_19 (.ref ik) (.ref kp) vm_22 vm_23 (by first | assumption | omega) (by first | assumption | omega) (by first | assumption | omega)) (cwV 0 hts gX6_image_X6_isThere rfl rfl rfl (by decide +kernel) ⟨Nat.le_of_ble_eq_true rfl, Nat.le_of_ble_eq_true rfl⟩) hK hP [0, 1] rfl (va_recv hK.1 hP (ci := 6) (q0 := 0) rfl rfl) rfl hl.1 rfl (Nat.le_of_ble_eq_true rfl) dX6_image_19 ⟨Nat.le_of_ble_eq_true rfl, Nat.le_of_ble_eq_true rfl⟩ (fun r_5 e_6 => ?_)
    subst e_6
    refine lv_if_ne (tgt := 28) hx hb dX6_image_22 (by decide) (fun c_7 => ?_) (fun c_7 => ?_)
    · skip
      have g_8 : 0 < R := wP_nat (by omega) c_7
      refine lv_iconst (v := 0) hx hb dX6_image_28 (by decide) ?_
      refine lv_istore_n (lv' := [(2, .int 0), (0, .ref md), (1, .int (nI j_4))]) hx hb dX6_image_29 rfl hl (by decide) rfl (fun ls hl => ?_)
      have loop30 : ∀ (k i_9 : Nat) (kf_10 : Nat → Int32) (H : Heap) (locs : List Loc) (ls : Array Slot), i_9 + k = 45 → (cpd i_9 (45 * j_4) 0 kf_10 f) → (∀ k, (k < 45 * j_4 ∨ 45 * j_4 + 45 ≤ k) → kf_10 k = kf k) → va_P D vwCl [(md, .inr (6, [.int 0, vm_1, vm_2, vm_3, vm_4, .ref hs, vm_6, vm_7, vm_8, vm_9, vm_10, vm_11, vm_12, vm_13, vm_14, vm_15, vm_16, vm_17, vm_18, vm_19, .ref ik, .ref kp, vm_22, vm_23])), (hs, .inl (cI, 45, .inl f)), (kp, .inl (cI, 90, .inl kf_10)), (ik, .inl (cZ, 2, .inl ikf))] H → va_D A [(md, .inr (6, [.int 0, vm_1, vm_2, vm_3, vm_4, .ref hs, vm_6, vm_7, vm_8, vm_9, vm_10, vm_11, vm_12, vm_13, vm_14, vm_15, vm_16, vm_17, vm_18, vm_19, .ref ik, .ref kp, vm_22, vm_23])), (hs, .inl (cI, 45, .inl f)), (kp, .inl (cI, 90, .inl kf_10)), (ik, .inl (cZ, 2, .inl ikf))] → va_S A s.heap H locs → lv_has ls 3 [(2, .int (nI i_9)), (0, .ref md), (1, .int (nI j_4))] → W p l e ({ frames := 1, cells := 0, slots := 0, locals := 25 } : Room) s m ([.ref md, .int (nI j_4)] : List Value).toArray below meth c H locs 0 0 (MQ below (wt_QI D (fun r w => ∃ (kf2 ikf2 : Nat → Int32), w = [(md, .inr (6, [.int 0, vm_1, vm_2, vm_3, vm_4, .ref hs, vm_6, vm_7, vm_8, vm_9, vm_10, vm_11, vm_12, vm_13, vm_14, vm_15, vm_16, vm_17, vm_18, vm_19, .ref ik, .ref kp, vm_22, vm_23])), (hs, .inl (cI, 45, .inl f)), (kp, .inl (cI, 90, .inl kf2)), (ik, .inl (cZ, 2, .inl ikf2))] ∧ r = imA (nI j_4) R ∧ kk kf2 ∧ imP (nI j_4) R ikf ikf2 kf kf2 f) A) ([.ref md, .int (nI j_4)] : List Value).toArray s 0 0 A) (F0 m 30 ls []) := by
        intro k
        induction k with
        | zero =>
          intro i_9 kf_10 H locs ls hik hcp hou hP hD hS hl
          refine lv_iload_n hx hb dX6_image_30 rfl (lv_at hl 0 rfl) ?_
          refine lv_bipush (v := 45) hx hb dX6_image_31 (by decide) ?_
          refine lv_icmp_ge (tgt := 59) hx hb dX6_image_33 (by decide) (fun _ => ?_) (fun h => absurd (nI_le (a := 45) (b := i_9) (by omega) (by omega)) h)
          refine lv_aload_n hx hb dX6_image_59 rfl (lv_at hl 1 rfl) ?_
          refine va_get (D := D) (ci := 6) (v := .ref ik) (C := RX6) (T := TX6) (N := 24) hx hb hts hi6 hown hK.1 hP 0 rfl rfl 20 (by decide) wf37 (fun _ h9 => h9) rfl dX6_image_60 ?_
          refine lv_iload_n hx hb dX6_image_63 rfl (lv_at hl 2 rfl) ?_
          refine lv_iconst (v := 1) hx hb dX6_image_64 (by decide) ?_
          refine va_zast hx hb hK.1 hP hD hS 3 1 rfl rfl (vp_in_nI (by omega) (by omega)) dX6_image_65 (fun H locs hP hD hS => ?_)
          have hP : va_P D vwCl [(md, .inr (6, [.int 0, vm_1, vm_2, vm_3, vm_4, .ref hs, vm_6, vm_7, vm_8, vm_9, vm_10, vm_11, vm_12, vm_13, vm_14, vm_15, vm_16, vm_17, vm_18, vm_19, .ref ik, .ref kp, vm_22, vm_23])), (hs, .inl (cI, 45, .inl f)), (kp, .inl (cI, 90, .inl kf_10)), (ik, .inl (cZ, 2, .inl (upd ikf ((nI j_4).toNatClampNeg) (vp_nar .boolean 1))))] H := hP
          have hD : va_D A [(md, .inr (6, [.int 0, vm_1, vm_2, vm_3, vm_4, .ref hs, vm_6, vm_7, vm_8, vm_9, vm_10, vm_11, vm_12, vm_13, vm_14, vm_15, vm_16, vm_17, vm_18, vm_19, .ref ik, .ref kp, vm_22, vm_23])), (hs, .inl (cI, 45, .inl f)), (kp, .inl (cI, 90, .inl kf_10)), (ik, .inl (cZ, 2, .inl (upd ikf ((nI j_4).toNatClampNeg) (vp_nar .boolean 1))))] := hD
          rw [nI_clamp (n := j_4) (by omega)] at hP hD
          have hP : va_P D vwCl [(md, .inr (6, [.int 0, vm_1, vm_2, vm_3, vm_4, .ref hs, vm_6, vm_7, vm_8, vm_9, vm_10, vm_11, vm_12, vm_13, vm_14, vm_15, vm_16, vm_17, vm_18, vm_19, .ref ik, .ref kp, vm_22, vm_23])), (hs, .inl (cI, 45, .inl f)), (kp, .inl (cI, 90, .inl kf_10)), (ik, .inl (cZ, 2, .inl (upd ikf j_4 (vp_nar .boolean 1))))] H := hP
          have hD : va_D A [(md, .inr (6, [.int 0, vm_1, vm_2, vm_3, vm_4, .ref hs, vm_6, vm_7, vm_8, vm_9, vm_10, vm_11, vm_12, vm_13, vm_14, vm_15, vm_16, vm_17, vm_18, vm_19, .ref ik, .ref kp, vm_22, vm_23])), (hs, .inl (cI, 45, .inl f)), (kp, .inl (cI, 90, .inl kf_10)), (ik, .inl (cZ, 2, .inl (upd ikf j_4 (vp_nar .boolean 1))))] := hD
          refine lv_iconst (v := 1) hx hb dX6_image_66 (by decide) ?_
          have hP9 := hP.sub (ws' := [(md, .inr (6, [.int 0, vm_1, vm_2, vm_3, vm_4, .ref hs, vm_6, vm_7, vm_8, vm_9, vm_10, vm_11, vm_12, vm_13, vm_14, vm_15, vm_16, vm_17, vm_18, vm_19, .ref ik, .ref kp, vm_22, vm_23])), (hs, .inl (cI, 45, .inl f)), (kp, .inl (cI, 90, .inl kf_10)), (ik, .inl (cZ, 2, .inl (upd ikf j_4 (vp_nar .boolean 1))))]) [0, 1, 2, 3] rfl
          have hD9 := hD.sub (ws' := [(md, .inr (6, [.int 0, vm_1, vm_2, vm_3, vm_4, .ref hs, vm_6, vm_7, vm_8, vm_9, vm_10, vm_11, vm_12, vm_13, vm_14, vm_15, vm_16, vm_17, vm_18, vm_19, .ref ik, .ref kp, vm_22, vm_23])), (hs, .inl (cI, 45, .inl f)), (kp, .inl (cI, 90, .inl kf_10)), (ik, .inl (cZ, 2, .inl (upd ikf j_4 (vp_nar .boolean 1))))]) [0, 1, 2, 3] (by decide) rfl
          exact wt_iret hx hb hr hlocks hP9 hD9 hS ⟨kf_10, (upd ikf j_4 (vp_nar .boolean 1)), rfl, (by exact (imA_1 c_3 (by omega)).symm), ⟨(kk_put hkk hR5 hT6 hRT hrk hcp (by omega) hou), imP_y (by omega) (imA_1 c_3 (by omega)) (by omega) hcp hou⟩⟩ dX6_image_67
        | succ k ih30 =>
          intro i_9 kf_10 H locs ls hik hcp hou hP hD hS hl
          refine lv_iload_n hx hb dX6_image_30 rfl (lv_at hl 0 rfl) ?_
          refine lv_bipush (v := 45) hx hb dX6_image_31 (by decide) ?_
          refine lv_icmp_ge (tgt := 59) hx hb dX6_image_33 (by decide) (fun h => absurd h (nI_ge (a := i_9) (b := 45) (by omega) (by omega))) (fun _ => ?_)
          refine lv_aload_n hx hb dX6_image_36 rfl (lv_at hl 1 rfl) ?_
          refine va_get (D := D) (ci := 6) (v := .ref kp) (C := RX6) (T := TX6) (N := 24) hx hb hts hi6 hown hK.1 hP 0 rfl rfl 21 (by decide) wf41 (fun _ h9 => h9) rfl dX6_image_37 ?_
          refine lv_bipush (v := 45) hx hb dX6_image_40 (by decide) ?_
          refine lv_iload_n hx hb dX6_image_42 rfl (lv_at hl 2 rfl) ?_
          refine lv_imul hx hb dX6_image_43 ?_
          refine wt_top (z := nI (45 * j_4)) (pk_mul 45 j_4) ?_
          refine lv_iload_n hx hb dX6_image_44 rfl (lv_at hl 0 rfl) ?_
          refine lv_iadd hx hb dX6_image_45 ?_
          refine wt_top (z := nI ((45 * j_4) + i_9)) (nI_add (45 * j_4) i_9) ?_
          refine lv_aload_n hx hb dX6_image_46 rfl (lv_at hl 1 rfl) ?_
          refine va_get (D := D) (ci := 6) (v := .ref hs) (C := RX6) (T := TX6) (N := 24) hx hb hts hi6 hown hK.1 hP 0 rfl rfl 5 (by decide) wf19 (fun _ h9 => h9) rfl dX6_image_47 ?_
          refine lv_iload_n hx hb dX6_image_50 rfl (lv_at hl 0 rfl) ?_
          refine va_iald hx hb hK.1 hP 1 0 rfl rfl (vp_in_nI (by omega) (by omega)) dX6_image_51 ?_
          refine wt_top (z := f (0 + i_9)) (by rw [nI_clamp (by omega)]; first | rw [Nat.zero_add] | skip) ?_
          refine va_iast hx hb hK.1 hP hD hS 2 0 rfl rfl (vp_in_nI (by omega) (by omega)) dX6_image_52 (fun H locs hP hD hS => ?_)
          have hP : va_P D vwCl [(md, .inr (6, [.int 0, vm_1, vm_2, vm_3, vm_4, .ref hs, vm_6, vm_7, vm_8, vm_9, vm_10, vm_11, vm_12, vm_13, vm_14, vm_15, vm_16, vm_17, vm_18, vm_19, .ref ik, .ref kp, vm_22, vm_23])), (hs, .inl (cI, 45, .inl f)), (kp, .inl (cI, 90, .inl (upd kf_10 ((nI ((45 * j_4) + i_9)).toNatClampNeg) (f (0 + i_9))))), (ik, .inl (cZ, 2, .inl ikf))] H := hP
          have hD : va_D A [(md, .inr (6, [.int 0, vm_1, vm_2, vm_3, vm_4, .ref hs, vm_6, vm_7, vm_8, vm_9, vm_10, vm_11, vm_12, vm_13, vm_14, vm_15, vm_16, vm_17, vm_18, vm_19, .ref ik, .ref kp, vm_22, vm_23])), (hs, .inl (cI, 45, .inl f)), (kp, .inl (cI, 90, .inl (upd kf_10 ((nI ((45 * j_4) + i_9)).toNatClampNeg) (f (0 + i_9))))), (ik, .inl (cZ, 2, .inl ikf))] := hD
          rw [nI_clamp (n := ((45 * j_4) + i_9)) (by omega)] at hP hD
          have hP : va_P D vwCl [(md, .inr (6, [.int 0, vm_1, vm_2, vm_3, vm_4, .ref hs, vm_6, vm_7, vm_8, vm_9, vm_10, vm_11, vm_12, vm_13, vm_14, vm_15, vm_16, vm_17, vm_18, vm_19, .ref ik, .ref kp, vm_22, vm_23])), (hs, .inl (cI, 45, .inl f)), (kp, .inl (cI, 90, .inl (upd kf_10 ((45 * j_4) + i_9) (f (0 + i_9))))), (ik, .inl (cZ, 2, .inl ikf))] H := hP
          have hD : va_D A [(md, .inr (6, [.int 0, vm_1, vm_2, vm_3, vm_4, .ref hs, vm_6, vm_7, vm_8, vm_9, vm_10, vm_11, vm_12, vm_13, vm_14, vm_15, vm_16, vm_17, vm_18, vm_19, .ref ik, .ref kp, vm_22, vm_23])), (hs, .inl (cI, 45, .inl f)), (kp, .inl (cI, 90, .inl (upd kf_10 ((45 * j_4) + i_9) (f (0 + i_9))))), (ik, .inl (cZ, 2, .inl ikf))] := hD
          refine lv_iinc (v := nI (i_9 + 1)) (lv' := [(2, .int (nI (i_9 + 1))), (0, .ref md), (1, .int (nI j_4))]) hx hb dX6_image_53 hl (k := 0) rfl (nI_add i_9 1) (by decide) rfl (fun ls hl => ?_)
          refine lv_goto (tgt := 30) hx hb dX6_image_56 (by decide) ?_
          exact ih30 ((i_9 + 1)) (upd kf_10 ((45 * j_4) + i_9) (f (0 + i_9))) H locs ls (by omega) (cpd_s hcp) (kk_out hou (by omega)) hP hD hS (lv_sub hl [0, 1, 2] rfl)
      exact loop30 (45 - 0) (0) kf _ _ ls (by omega) cpd_0 (fun _ _ => rfl) hP hD hS hl
    · skip
      have hR0 := wP_0 c_7
      refine lv_ldc hx hb hown wc189 dX6_image_25 ?_
      have hP9 := hP.sub (ws' := [(md, .inr (6, [.int 0, vm_1, vm_2, vm_3, vm_4, .ref hs, vm_6, vm_7, vm_8, vm_9, vm_10, vm_11, vm_12, vm_13, vm_14, vm_15, vm_16, vm_17, vm_18, vm_19, .ref ik, .ref kp, vm_22, vm_23])), (hs, .inl (cI, 45, .inl f)), (kp, .inl (cI, 90, .inl kf)), (ik, .inl (cZ, 2, .inl ikf))]) [0, 1, 2, 3] rfl
      have hD9 := hD.sub (ws' := [(md, .inr (6, [.int 0, vm_1, vm_2, vm_3, vm_4, .ref hs, vm_6, vm_7, vm_8, vm_9, vm_10, vm_11, vm_12, vm_13, vm_14, vm_15, vm_16, vm_17, vm_18, vm_19, .ref ik, .ref kp, vm_22, vm_23])), (hs, .inl (cI, 45, .inl f)), (kp, .inl (cI, 90, .inl kf)), (ik, .inl (cZ, 2, .inl ikf))]) [0, 1, 2, 3] (by decide) rfl
      exact wt_iret hx hb hr hlocks hP9 hD9 hS ⟨kf, ikf, rfl, (by exact (imA_s c_3 (by omega)).symm), ⟨hkk, imP_n (imA_s c_3 (by omega)) (by decide)⟩⟩ dX6_image_27
  · skip
    refine lv_ldc hx hb hown wc67 dX6_image_15 ?_
    have hP9 := hP.sub (ws' := [(md, .inr (6, [.int 0, vm_1, vm_2, vm_3, vm_4, .ref hs, vm_6, vm_7, vm_8, vm_9, vm_10, vm_11, vm_12, vm_13, vm_14, vm_15, vm_16, vm_17, vm_18, vm_19, .ref ik, .ref kp, vm_22, vm_23])), (hs, .inl (cI, 45, .inl f)), (kp, .inl (cI, 90, .inl kf)), (ik, .inl (cZ, 2, .inl ikf))]) [0, 1, 2, 3] rfl
    have hD9 := hD.sub (ws' := [(md, .inr (6, [.int 0, vm_1, vm_2, vm_3, vm_4, .ref hs, vm_6, vm_7, vm_8, vm_9, vm_10, vm_11, vm_12, vm_13, vm_14, vm_15, vm_16, vm_17, vm_18, vm_19, .ref ik, .ref kp, vm_22, vm_23])), (hs, .inl (cI, 45, .inl f)), (kp, .inl (cI, 90, .inl kf)), (ik, .inl (cZ, 2, .inl ikf))]) [0, 1, 2, 3] (by decide) rfl
    exact wt_iret hx hb hr hlocks hP9 hD9 hS ⟨kf, ikf, rfl, (by exact (imA_b c_3).symm), ⟨hkk, imP_n (imA_b c_3) (by decide)⟩⟩ dX6_image_17
set_option maxHeartbeats 1000000 in
set_option maxRecDepth 100000 in
theorem c_X6_restore_x (l : Launch) (D : va_G) (cI cZ cH : ClassId) (md hs : Nat) (R T : Nat) (f : Nat → Int32) (ws : Nat) (ac : Nat) (wf : Nat → Int32) (kp ik : Nat) (kf ikf : Nat → Int32) (a1 : Int32) (vm_0 vm_1 vm_2 vm_3 vm_4 vm_6 vm_7 vm_10 vm_11 vm_12 vm_13 vm_14 vm_15 vm_16 vm_17 vm_18 vm_19 vm_22 vm_23 : Value) (hR5 : R ≤ 5) (hT6 : T ≤ 6) (hrk : rk R T f) (hRT : 0 < R → 0 < T) (hkk : kk kf) (hac : ac ≤ 24) (hwk : wk R T ac wf) : wt_M l yX6_restore wsX6_restore ({ frames := 1, cells := 0, slots := 0, locals := 25 } : Room) D (wt_T cI cZ cH) [.ref md, .int a1] [(md, .inr (6, [vm_0, vm_1, vm_2, vm_3, vm_4, .ref hs, vm_6, vm_7, .ref ws, .int (nI ac), vm_10, vm_11, vm_12, vm_13, vm_14, vm_15, vm_16, vm_17, vm_18, vm_19, .ref ik, .ref kp, vm_22, vm_23])), (hs, .inl (cI, 45, .inl f)), (ws, .inl (cI, 1080, .inl wf)), (kp, .inl (cI, 90, .inl kf)), (ik, .inl (cZ, 2, .inl ikf))] (wt_QI D (fun r w => ∃ (f2 : Nat → Int32) (ac2 : Nat), w = [(md, .inr (6, [.int 0, vm_1, vm_2, vm_3, vm_4, .ref hs, vm_6, vm_7, .ref ws, .int (nI ac2), vm_10, vm_11, vm_12, vm_13, vm_14, vm_15, vm_16, vm_17, vm_18, vm_19, .ref ik, .ref kp, vm_22, vm_23])), (hs, .inl (cI, 45, .inl f2)), (ws, .inl (cI, 1080, .inl wf)), (kp, .inl (cI, 90, .inl kf)), (ik, .inl (cZ, 2, .inl ikf))] ∧ r = rmA a1 ikf ∧ rmP a1 ikf kf f f2 ac ac2)) := by
  refine wt_M.ofW (cc := cX6_restore) (maxL := 3) (ret := (some .int)) (by decide) rfl (Nat.le_of_ble_eq_true rfl) ?_
  intro p e s m below meth c A ls hx hb hr hts hown hlocks hml hnm hP hK hD hA hS hl
  have hP : va_P D vwCl [(md, .inr (6, [vm_0, vm_1, vm_2, vm_3, vm_4, .ref hs, vm_6, vm_7, .ref ws, .int (nI ac), vm_10, vm_11, vm_12, vm_13, vm_14, vm_15, vm_16, vm_17, vm_18, vm_19, .ref ik, .ref kp, vm_22, vm_23])), (hs, .inl (cI, 45, .inl f)), (ws, .inl (cI, 1080, .inl wf)), (kp, .inl (cI, 90, .inl kf)), (ik, .inl (cZ, 2, .inl ikf))] s.heap := hP
  have hown : s.vm.findClass RX6 = some m.cls := hown
  have hl : lv_has ls 3 [(0, .ref md), (1, .int a1)] := hl
  have hi6 : ∀ w ∈ u_ws RX6 TX6 24, w ∈ wsX6_restore := by decide +kernel
  have wc189 := hts (.constant RX6 189 (-1000002)) (by decide +kernel)
  have wc67 := hts (.constant RX6 67 (-1000001)) (by decide +kernel)
  have wf149 := hts (.fieldLink RX6 149 "WarmTubesModel" "acts" "I") (by decide +kernel)
  have wf19 := hts (.fieldLink RX6 19 "WarmTubesModel" "house" "[I") (by decide +kernel)
  have wf37 := hts (.fieldLink RX6 37 "WarmTubesModel" "isKept" "[Z") (by decide +kernel)
  have wf41 := hts (.fieldLink RX6 41 "WarmTubesModel" "kept" "[I") (by decide +kernel)
  have wf47 := hts (.fieldLink RX6 47 "WarmTubesModel" "thrown" "I") (by decide +kernel)
  refine lv_aload_n hx hb dX6_restore_0 rfl (lv_at hl 0 rfl) ?_
  refine lv_iconst (v := 0) hx hb dX6_restore_1 (by decide) ?_
  refine va_put (D := D) (ci := 6) (v := .int 0) (ty := .int) (C := RX6) (T := TX6) (N := 24) hx hb hts hi6 tyX6 tyX6_ok nmX6 hown hK.1 hP hD hS 0 rfl rfl 0 (by decide) wf47 (fun _ h9 => h9) rfl (by decide +kernel) rfl rfl (Nat.le_of_ble_eq_true rfl) dX6_restore_2 (fun H locs hP hD hS => ?_)
  have hP : va_P D vwCl [(md, .inr (6, [.int 0, vm_1, vm_2, vm_3, vm_4, .ref hs, vm_6, vm_7, .ref ws, .int (nI ac), vm_10, vm_11, vm_12, vm_13, vm_14, vm_15, vm_16, vm_17, vm_18, vm_19, .ref ik, .ref kp, vm_22, vm_23])), (hs, .inl (cI, 45, .inl f)), (ws, .inl (cI, 1080, .inl wf)), (kp, .inl (cI, 90, .inl kf)), (ik, .inl (cZ, 2, .inl ikf))] H := hP
  have hD : va_D A [(md, .inr (6, [.int 0, vm_1, vm_2, vm_3, vm_4, .ref hs, vm_6, vm_7, .ref ws, .int (nI ac), vm_10, vm_11, vm_12, vm_13, vm_14, vm_15, vm_16, vm_17, vm_18, vm_19, .ref ik, .ref kp, vm_22, vm_23])), (hs, .inl (cI, 45, .inl f)), (ws, .inl (cI, 1080, .inl wf)), (kp, .inl (cI, 90, .inl kf)), (ik, .inl (cZ, 2, .inl ikf))] := hD
  refine lv_iload_n hx hb dX6_restore_5 rfl (lv_at hl 1 rfl) ?_
  refine lv_i2l hx hb dX6_restore_6 rfl ?_
  refine lv_lconst (v := 0) hx hb dX6_restore_7 (by decide) ?_
  refine lv_lconst (v := 1) hx hb dX6_restore_8 (by decide) ?_
  refine wt_rS (As := [.long a1.toInt64, .long 0, .long 1]) (rest := []) ⟨hx, hb, hml, hown, hts⟩ (c_X6_in l D cI cZ cH a1.toInt64 0 1) (va_cwS 3 hts gX6_restore_X6_in rfl rfl rfl (by decide +kernel) ⟨Nat.le_of_ble_eq_true rfl, Nat.le_of_ble_eq_true rfl⟩) hK hP [] rfl rfl hl.1 rfl (Nat.le_of_ble_eq_true rfl) dX6_restore_9 ⟨Nat.le_of_ble_eq_true rfl, Nat.le_of_ble_eq_true rfl⟩ (fun r_1 e_2 => ?_)
  subst e_2
  refine wt_top (z := wI a1 0 1) (wL_I' (by decide) (by decide)) ?_
  refine lv_if_ne (tgt := 18) hx hb dX6_restore_12 (by decide) (fun c_3 => ?_) (fun c_3 => ?_)
  · skip
    obtain ⟨j_4, hj_4, hj_4b, rfl⟩ := wI_nat (a := 0) (b := 1) (by omega) (by omega) c_3
    refine lv_aload_n hx hb dX6_restore_18 rfl (lv_at hl 0 rfl) ?_
    refine va_get (D := D) (ci := 6) (v := .ref ik) (C := RX6) (T := TX6) (N := 24) hx hb hts hi6 hown hK.1 hP 0 rfl rfl 20 (by decide) wf37 (fun _ h9 => h9) rfl dX6_restore_19 ?_
    refine lv_iload_n hx hb dX6_restore_22 rfl (lv_at hl 1 rfl) ?_
    refine va_zald hx hb hK.1 hP 4 1 rfl rfl (vp_in_nI (by omega) (by omega)) dX6_restore_23 ?_
    refine wt_top (z := ikf j_4) (by rw [nI_clamp (by omega)]) ?_
    refine lv_if_ne (tgt := 30) hx hb dX6_restore_24 (by decide) (fun c_5 => ?_) (fun c_5 => ?_)
    · skip
      refine lv_iconst (v := 0) hx hb dX6_restore_30 (by decide) ?_
      refine lv_istore_n (lv' := [(2, .int 0), (0, .ref md), (1, .int (nI j_4))]) hx hb dX6_restore_31 rfl hl (by decide) rfl (fun ls hl => ?_)
      have loop32 : ∀ (k i_6 : Nat) (f_7 : Nat → Int32) (H : Heap) (locs : List Loc) (ls : Array Slot), i_6 + k = 45 → (cpd i_6 0 (45 * j_4) f_7 kf) → va_P D vwCl [(md, .inr (6, [.int 0, vm_1, vm_2, vm_3, vm_4, .ref hs, vm_6, vm_7, .ref ws, .int (nI ac), vm_10, vm_11, vm_12, vm_13, vm_14, vm_15, vm_16, vm_17, vm_18, vm_19, .ref ik, .ref kp, vm_22, vm_23])), (hs, .inl (cI, 45, .inl f_7)), (ws, .inl (cI, 1080, .inl wf)), (kp, .inl (cI, 90, .inl kf)), (ik, .inl (cZ, 2, .inl ikf))] H → va_D A [(md, .inr (6, [.int 0, vm_1, vm_2, vm_3, vm_4, .ref hs, vm_6, vm_7, .ref ws, .int (nI ac), vm_10, vm_11, vm_12, vm_13, vm_14, vm_15, vm_16, vm_17, vm_18, vm_19, .ref ik, .ref kp, vm_22, vm_23])), (hs, .inl (cI, 45, .inl f_7)), (ws, .inl (cI, 1080, .inl wf)), (kp, .inl (cI, 90, .inl kf)), (ik, .inl (cZ, 2, .inl ikf))] → va_S A s.heap H locs → lv_has ls 3 [(2, .int (nI i_6)), (0, .ref md), (1, .int (nI j_4))] → W p l e ({ frames := 1, cells := 0, slots := 0, locals := 25 } : Room) s m ([.ref md, .int (nI j_4)] : List Value).toArray below meth c H locs 0 0 (MQ below (wt_QI D (fun r w => ∃ (f2 : Nat → Int32) (ac2 : Nat), w = [(md, .inr (6, [.int 0, vm_1, vm_2, vm_3, vm_4, .ref hs, vm_6, vm_7, .ref ws, .int (nI ac2), vm_10, vm_11, vm_12, vm_13, vm_14, vm_15, vm_16, vm_17, vm_18, vm_19, .ref ik, .ref kp, vm_22, vm_23])), (hs, .inl (cI, 45, .inl f2)), (ws, .inl (cI, 1080, .inl wf)), (kp, .inl (cI, 90, .inl kf)), (ik, .inl (cZ, 2, .inl ikf))] ∧ r = rmA (nI j_4) ikf ∧ rmP (nI j_4) ikf kf f f2 ac ac2) A) ([.ref md, .int (nI j_4)] : List Value).toArray s 0 0 A) (F0 m 32 ls []) := by
        intro k
        induction k with
        | zero =>
          intro i_6 f_7 H locs ls hik hcp hP hD hS hl
          refine lv_iload_n hx hb dX6_restore_32 rfl (lv_at hl 0 rfl) ?_
          refine lv_bipush (v := 45) hx hb dX6_restore_33 (by decide) ?_
          refine lv_icmp_ge (tgt := 61) hx hb dX6_restore_35 (by decide) (fun _ => ?_) (fun h => absurd (nI_le (a := 45) (b := i_6) (by omega) (by omega)) h)
          refine lv_aload_n hx hb dX6_restore_61 rfl (lv_at hl 1 rfl) ?_
          refine lv_iconst (v := 0) hx hb dX6_restore_62 (by decide) ?_
          refine va_put (D := D) (ci := 6) (v := .int 0) (ty := .int) (C := RX6) (T := TX6) (N := 24) hx hb hts hi6 tyX6 tyX6_ok nmX6 hown hK.1 hP hD hS 0 rfl rfl 9 (by decide) wf149 (fun _ h9 => h9) rfl (by decide +kernel) rfl rfl (Nat.le_of_ble_eq_true rfl) dX6_restore_63 (fun H locs hP hD hS => ?_)
          have hP : va_P D vwCl [(md, .inr (6, [.int 0, vm_1, vm_2, vm_3, vm_4, .ref hs, vm_6, vm_7, .ref ws, .int 0, vm_10, vm_11, vm_12, vm_13, vm_14, vm_15, vm_16, vm_17, vm_18, vm_19, .ref ik, .ref kp, vm_22, vm_23])), (hs, .inl (cI, 45, .inl f_7)), (ws, .inl (cI, 1080, .inl wf)), (kp, .inl (cI, 90, .inl kf)), (ik, .inl (cZ, 2, .inl ikf))] H := hP
          have hD : va_D A [(md, .inr (6, [.int 0, vm_1, vm_2, vm_3, vm_4, .ref hs, vm_6, vm_7, .ref ws, .int 0, vm_10, vm_11, vm_12, vm_13, vm_14, vm_15, vm_16, vm_17, vm_18, vm_19, .ref ik, .ref kp, vm_22, vm_23])), (hs, .inl (cI, 45, .inl f_7)), (ws, .inl (cI, 1080, .inl wf)), (kp, .inl (cI, 90, .inl kf)), (ik, .inl (cZ, 2, .inl ikf))] := hD
          refine lv_iconst (v := 1) hx hb dX6_restore_66 (by decide) ?_
          have hP9 := hP.sub (ws' := [(md, .inr (6, [.int 0, vm_1, vm_2, vm_3, vm_4, .ref hs, vm_6, vm_7, .ref ws, .int 0, vm_10, vm_11, vm_12, vm_13, vm_14, vm_15, vm_16, vm_17, vm_18, vm_19, .ref ik, .ref kp, vm_22, vm_23])), (hs, .inl (cI, 45, .inl f_7)), (ws, .inl (cI, 1080, .inl wf)), (kp, .inl (cI, 90, .inl kf)), (ik, .inl (cZ, 2, .inl ikf))]) [0, 1, 2, 3, 4] rfl
          have hD9 := hD.sub (ws' := [(md, .inr (6, [.int 0, vm_1, vm_2, vm_3, vm_4, .ref hs, vm_6, vm_7, .ref ws, .int 0, vm_10, vm_11, vm_12, vm_13, vm_14, vm_15, vm_16, vm_17, vm_18, vm_19, .ref ik, .ref kp, vm_22, vm_23])), (hs, .inl (cI, 45, .inl f_7)), (ws, .inl (cI, 1080, .inl wf)), (kp, .inl (cI, 90, .inl kf)), (ik, .inl (cZ, 2, .inl ikf))]) [0, 1, 2, 3, 4] (by decide) rfl
          exact wt_iret hx hb hr hlocks hP9 hD9 hS ⟨f_7, 0, rfl, (by exact (rmA_1 (by omega) c_3 c_5).symm), rmP_y (by omega) (rmA_1 (by omega) c_3 c_5) (by omega) hcp⟩ dX6_restore_67
        | succ k ih32 =>
          intro i_6 f_7 H locs ls hik hcp hP hD hS hl
          refine lv_iload_n hx hb dX6_restore_32 rfl (lv_at hl 0 rfl) ?_
          refine lv_bipush (v := 45) hx hb dX6_restore_33 (by decide) ?_
          refine lv_icmp_ge (tgt := 61) hx hb dX6_restore_35 (by decide) (fun h => absurd h (nI_ge (a := i_6) (b := 45) (by omega) (by omega))) (fun _ => ?_)
          refine lv_aload_n hx hb dX6_restore_38 rfl (lv_at hl 1 rfl) ?_
          refine va_get (D := D) (ci := 6) (v := .ref hs) (C := RX6) (T := TX6) (N := 24) hx hb hts hi6 hown hK.1 hP 0 rfl rfl 5 (by decide) wf19 (fun _ h9 => h9) rfl dX6_restore_39 ?_
          refine lv_iload_n hx hb dX6_restore_42 rfl (lv_at hl 0 rfl) ?_
          refine lv_aload_n hx hb dX6_restore_43 rfl (lv_at hl 1 rfl) ?_
          refine va_get (D := D) (ci := 6) (v := .ref kp) (C := RX6) (T := TX6) (N := 24) hx hb hts hi6 hown hK.1 hP 0 rfl rfl 21 (by decide) wf41 (fun _ h9 => h9) rfl dX6_restore_44 ?_
          refine lv_bipush (v := 45) hx hb dX6_restore_47 (by decide) ?_
          refine lv_iload_n hx hb dX6_restore_49 rfl (lv_at hl 2 rfl) ?_
          refine lv_imul hx hb dX6_restore_50 ?_
          refine wt_top (z := nI (45 * j_4)) (pk_mul 45 j_4) ?_
          refine lv_iload_n hx hb dX6_restore_51 rfl (lv_at hl 0 rfl) ?_
          refine lv_iadd hx hb dX6_restore_52 ?_
          refine wt_top (z := nI ((45 * j_4) + i_6)) (nI_add (45 * j_4) i_6) ?_
          refine va_iald hx hb hK.1 hP 3 0 rfl rfl (vp_in_nI (by omega) (by omega)) dX6_restore_53 ?_
          refine wt_top (z := kf (45 * j_4 + i_6)) (by rw [nI_clamp (by omega)]) ?_
          refine va_iast hx hb hK.1 hP hD hS 1 0 rfl rfl (vp_in_nI (by omega) (by omega)) dX6_restore_54 (fun H locs hP hD hS => ?_)
          have hP : va_P D vwCl [(md, .inr (6, [.int 0, vm_1, vm_2, vm_3, vm_4, .ref hs, vm_6, vm_7, .ref ws, .int (nI ac), vm_10, vm_11, vm_12, vm_13, vm_14, vm_15, vm_16, vm_17, vm_18, vm_19, .ref ik, .ref kp, vm_22, vm_23])), (hs, .inl (cI, 45, .inl (upd f_7 ((nI i_6).toNatClampNeg) (kf (45 * j_4 + i_6))))), (ws, .inl (cI, 1080, .inl wf)), (kp, .inl (cI, 90, .inl kf)), (ik, .inl (cZ, 2, .inl ikf))] H := hP
          have hD : va_D A [(md, .inr (6, [.int 0, vm_1, vm_2, vm_3, vm_4, .ref hs, vm_6, vm_7, .ref ws, .int (nI ac), vm_10, vm_11, vm_12, vm_13, vm_14, vm_15, vm_16, vm_17, vm_18, vm_19, .ref ik, .ref kp, vm_22, vm_23])), (hs, .inl (cI, 45, .inl (upd f_7 ((nI i_6).toNatClampNeg) (kf (45 * j_4 + i_6))))), (ws, .inl (cI, 1080, .inl wf)), (kp, .inl (cI, 90, .inl kf)), (ik, .inl (cZ, 2, .inl ikf))] := hD
          rw [nI_clamp (n := i_6) (by omega)] at hP hD
          have hP : va_P D vwCl [(md, .inr (6, [.int 0, vm_1, vm_2, vm_3, vm_4, .ref hs, vm_6, vm_7, .ref ws, .int (nI ac), vm_10, vm_11, vm_12, vm_13, vm_14, vm_15, vm_16, vm_17, vm_18, vm_19, .ref ik, .ref kp, vm_22, vm_23])), (hs, .inl (cI, 45, .inl (upd f_7 i_6 (kf (45 * j_4 + i_6))))), (ws, .inl (cI, 1080, .inl wf)), (kp, .inl (cI, 90, .inl kf)), (ik, .inl (cZ, 2, .inl ikf))] H := hP
          have hD : va_D A [(md, .inr (6, [.int 0, vm_1, vm_2, vm_3, vm_4, .ref hs, vm_6, vm_7, .ref ws, .int (nI ac), vm_10, vm_11, vm_12, vm_13, vm_14, vm_15, vm_16, vm_17, vm_18, vm_19, .ref ik, .ref kp, vm_22, vm_23])), (hs, .inl (cI, 45, .inl (upd f_7 i_6 (kf (45 * j_4 + i_6))))), (ws, .inl (cI, 1080, .inl wf)), (kp, .inl (cI, 90, .inl kf)), (ik, .inl (cZ, 2, .inl ikf))] := hD
          refine lv_iinc (v := nI (i_6 + 1)) (lv' := [(2, .int (nI (i_6 + 1))), (0, .ref md), (1, .int (nI j_4))]) hx hb dX6_restore_55 hl (k := 0) rfl (nI_add i_6 1) (by decide) rfl (fun ls hl => ?_)
          refine lv_goto (tgt := 32) hx hb dX6_restore_58 (by decide) ?_
          exact ih32 ((i_6 + 1)) (upd f_7 i_6 (kf (45 * j_4 + i_6))) H locs ls (by omega) (cpd_s0b hcp) hP hD hS (lv_sub hl [0, 1, 2] rfl)
      exact loop32 (45 - 0) (0) f _ _ ls (by omega) cpd_0 hP hD hS hl
    · skip
      refine lv_ldc hx hb hown wc189 dX6_restore_27 ?_
      have hP9 := hP.sub (ws' := [(md, .inr (6, [.int 0, vm_1, vm_2, vm_3, vm_4, .ref hs, vm_6, vm_7, .ref ws, .int (nI ac), vm_10, vm_11, vm_12, vm_13, vm_14, vm_15, vm_16, vm_17, vm_18, vm_19, .ref ik, .ref kp, vm_22, vm_23])), (hs, .inl (cI, 45, .inl f)), (ws, .inl (cI, 1080, .inl wf)), (kp, .inl (cI, 90, .inl kf)), (ik, .inl (cZ, 2, .inl ikf))]) [0, 1, 2, 3, 4] rfl
      have hD9 := hD.sub (ws' := [(md, .inr (6, [.int 0, vm_1, vm_2, vm_3, vm_4, .ref hs, vm_6, vm_7, .ref ws, .int (nI ac), vm_10, vm_11, vm_12, vm_13, vm_14, vm_15, vm_16, vm_17, vm_18, vm_19, .ref ik, .ref kp, vm_22, vm_23])), (hs, .inl (cI, 45, .inl f)), (ws, .inl (cI, 1080, .inl wf)), (kp, .inl (cI, 90, .inl kf)), (ik, .inl (cZ, 2, .inl ikf))]) [0, 1, 2, 3, 4] (by decide) rfl
      exact wt_iret hx hb hr hlocks hP9 hD9 hS ⟨f, ac, rfl, (by exact (rmA_s (by omega) c_3 c_5).symm), rmP_n (rmA_s (by omega) c_3 c_5) (by decide)⟩ dX6_restore_29
  · skip
    refine lv_ldc hx hb hown wc67 dX6_restore_15 ?_
    have hP9 := hP.sub (ws' := [(md, .inr (6, [.int 0, vm_1, vm_2, vm_3, vm_4, .ref hs, vm_6, vm_7, .ref ws, .int (nI ac), vm_10, vm_11, vm_12, vm_13, vm_14, vm_15, vm_16, vm_17, vm_18, vm_19, .ref ik, .ref kp, vm_22, vm_23])), (hs, .inl (cI, 45, .inl f)), (ws, .inl (cI, 1080, .inl wf)), (kp, .inl (cI, 90, .inl kf)), (ik, .inl (cZ, 2, .inl ikf))]) [0, 1, 2, 3, 4] rfl
    have hD9 := hD.sub (ws' := [(md, .inr (6, [.int 0, vm_1, vm_2, vm_3, vm_4, .ref hs, vm_6, vm_7, .ref ws, .int (nI ac), vm_10, vm_11, vm_12, vm_13, vm_14, vm_15, vm_16, vm_17, vm_18, vm_19, .ref ik, .ref kp, vm_22, vm_23])), (hs, .inl (cI, 45, .inl f)), (ws, .inl (cI, 1080, .inl wf)), (kp, .inl (cI, 90, .inl kf)), (ik, .inl (cZ, 2, .inl ikf))]) [0, 1, 2, 3, 4] (by decide) rfl
    exact wt_iret hx hb hr hlocks hP9 hD9 hS ⟨f, ac, rfl, (by exact (rmA_b c_3).symm), rmP_n (rmA_b c_3) (by decide)⟩ dX6_restore_17

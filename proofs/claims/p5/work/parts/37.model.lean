set_option maxHeartbeats 4000000 in
set_option maxRecDepth 100000 in
theorem c_X6_mix (l : Launch) (D : va_G) (cI cZ cH : ClassId) (md hs : Nat) (R T : Nat) (f : Nat → Int32) (tn : Nat) (g : Nat → Int32) (a1 a2 a3 : Int32) (vm_0 vm_1 vm_2 vm_3 vm_4 vm_6 vm_8 vm_9 vm_10 vm_11 vm_12 vm_13 vm_14 vm_15 vm_16 vm_17 vm_18 vm_19 vm_20 vm_21 vm_22 vm_23 : Value) (hR5 : R ≤ 5) (hT6 : T ≤ 6) (hrk : rk R T f) : wt_M l yX6_mix wsX6_mix ({ frames := 4, cells := 0, slots := 0, locals := 89 } : Room) D (wt_T cI cZ cH) [.ref md, .int a1, .int a2, .int a3] [(md, .inr (6, [vm_0, vm_1, vm_2, vm_3, vm_4, .ref hs, vm_6, .ref tn, vm_8, vm_9, vm_10, vm_11, vm_12, vm_13, vm_14, vm_15, vm_16, vm_17, vm_18, vm_19, vm_20, vm_21, vm_22, vm_23])), (hs, .inl (cI, 45, .inl f)), (tn, .inl (cI, 45, .inl g))] (wt_QI D (fun r w => ∃ (g2 : Nat → Int32), w = [(md, .inr (6, [.int 0, vm_1, vm_2, vm_3, vm_4, .ref hs, vm_6, .ref tn, vm_8, vm_9, vm_10, vm_11, vm_12, vm_13, vm_14, vm_15, vm_16, vm_17, vm_18, vm_19, vm_20, vm_21, vm_22, vm_23])), (hs, .inl (cI, 45, .inl f)), (tn, .inl (cI, 45, .inl g2))])) := by
  refine wt_M.ofW (cc := cX6_mix) (maxL := 9) (ret := (some .int)) (by decide) rfl (Nat.le_of_ble_eq_true rfl) ?_
  intro p e s m below meth c A ls hx hb hr hts hown hlocks hml hnm hP hK hD hA hS hl
  have hP : va_P D vwCl [(md, .inr (6, [vm_0, vm_1, vm_2, vm_3, vm_4, .ref hs, vm_6, .ref tn, vm_8, vm_9, vm_10, vm_11, vm_12, vm_13, vm_14, vm_15, vm_16, vm_17, vm_18, vm_19, vm_20, vm_21, vm_22, vm_23])), (hs, .inl (cI, 45, .inl f)), (tn, .inl (cI, 45, .inl g))] s.heap := hP
  have hown : s.vm.findClass RX6 = some m.cls := hown
  have hl : lv_has ls 9 [(0, .ref md), (1, .int a1), (2, .int a2), (3, .int a3)] := hl
  have hi6 : ∀ w ∈ u_ws RX6 TX6 24, w ∈ wsX6_mix := by decide +kernel
  have wc67 := hts (.constant RX6 67 (-1000001)) (by decide +kernel)
  have wc90 := hts (.constant RX6 90 (-1000000)) (by decide +kernel)
  have wf19 := hts (.fieldLink RX6 19 "WarmTubesModel" "house" "[I") (by decide +kernel)
  have wf25 := hts (.fieldLink RX6 25 "WarmTubesModel" "then" "[I") (by decide +kernel)
  have wf47 := hts (.fieldLink RX6 47 "WarmTubesModel" "thrown" "I") (by decide +kernel)
  have wl256 := hts (.constantLong RX6 256 (999)) (by decide +kernel)
  refine lv_aload_n hx hb dX6_mix_0 rfl (lv_at hl 0 rfl) ?_
  refine lv_iconst (v := 0) hx hb dX6_mix_1 (by decide) ?_
  refine va_put (D := D) (ci := 6) (v := .int 0) (ty := .int) (C := RX6) (T := TX6) (N := 24) hx hb hts hi6 tyX6 tyX6_ok nmX6 hown hK.1 hP hD hS 0 rfl rfl 0 (by decide) wf47 (fun _ h9 => h9) rfl (by decide +kernel) rfl rfl (Nat.le_of_ble_eq_true rfl) dX6_mix_2 (fun H locs hP hD hS => ?_)
  have hP : va_P D vwCl [(md, .inr (6, [.int 0, vm_1, vm_2, vm_3, vm_4, .ref hs, vm_6, .ref tn, vm_8, vm_9, vm_10, vm_11, vm_12, vm_13, vm_14, vm_15, vm_16, vm_17, vm_18, vm_19, vm_20, vm_21, vm_22, vm_23])), (hs, .inl (cI, 45, .inl f)), (tn, .inl (cI, 45, .inl g))] H := hP
  have hD : va_D A [(md, .inr (6, [.int 0, vm_1, vm_2, vm_3, vm_4, .ref hs, vm_6, .ref tn, vm_8, vm_9, vm_10, vm_11, vm_12, vm_13, vm_14, vm_15, vm_16, vm_17, vm_18, vm_19, vm_20, vm_21, vm_22, vm_23])), (hs, .inl (cI, 45, .inl f)), (tn, .inl (cI, 45, .inl g))] := hD
  refine lv_aload_n hx hb dX6_mix_5 rfl (lv_at hl 0 rfl) ?_
  refine lv_iload_n hx hb dX6_mix_6 rfl (lv_at hl 1 rfl) ?_
  refine wt_rV (As := [.int a1]) (rest := []) ⟨hx, hb, hml, hown, hts⟩ (c_X6_isRoom l D cI cZ cH md hs R T f a1 (.int 0) vm_1 vm_2 vm_3 vm_4 vm_6 (.ref tn) vm_8 vm_9 vm_10 vm_11 vm_12 vm_13 vm_14 vm_15 vm_16 vm_17 vm_18 vm_19 vm_20 vm_21 vm_22 vm_23 (by first | assumption | omega) (by first | assumption | omega) (by first | assumption | omega)) (cwV 1 hts gX6_mix_X6_isRoom rfl rfl rfl (by decide +kernel) ⟨Nat.le_of_ble_eq_true rfl, Nat.le_of_ble_eq_true rfl⟩) hK hP [0, 1] rfl (va_recv hK.1 hP (ci := 6) (q0 := 0) rfl rfl) rfl hl.1 rfl (Nat.le_of_ble_eq_true rfl) dX6_mix_7 ⟨Nat.le_of_ble_eq_true rfl, Nat.le_of_ble_eq_true rfl⟩ (fun r_1 e_2 => ?_)
  subst e_2
  refine lv_if_eq (tgt := 35) hx hb dX6_mix_10 (by decide) (fun c_3 => ?_) (fun c_3 => ?_)
  · skip
    refine lv_ldc hx hb hown wc67 dX6_mix_35 ?_
    have hP9 := hP.sub (ws' := [(md, .inr (6, [.int 0, vm_1, vm_2, vm_3, vm_4, .ref hs, vm_6, .ref tn, vm_8, vm_9, vm_10, vm_11, vm_12, vm_13, vm_14, vm_15, vm_16, vm_17, vm_18, vm_19, vm_20, vm_21, vm_22, vm_23])), (hs, .inl (cI, 45, .inl f)), (tn, .inl (cI, 45, .inl g))]) [0, 1, 2] rfl
    have hD9 := hD.sub (ws' := [(md, .inr (6, [.int 0, vm_1, vm_2, vm_3, vm_4, .ref hs, vm_6, .ref tn, vm_8, vm_9, vm_10, vm_11, vm_12, vm_13, vm_14, vm_15, vm_16, vm_17, vm_18, vm_19, vm_20, vm_21, vm_22, vm_23])), (hs, .inl (cI, 45, .inl f)), (tn, .inl (cI, 45, .inl g))]) [0, 1, 2] (by decide) rfl
    exact wt_iret hx hb hr hlocks hP9 hD9 hS ⟨g, rfl⟩ dX6_mix_37
  · skip
    obtain ⟨j_4, hj_4, rfl⟩ := wI_natT (T := R) (by omega) c_3
    refine lv_iload_n hx hb dX6_mix_13 rfl (lv_at hl 2 rfl) ?_
    refine lv_i2l hx hb dX6_mix_14 rfl ?_
    refine lv_lconst (v := 0) hx hb dX6_mix_15 (by decide) ?_
    refine lv_ldc2 hx hb hown wl256 dX6_mix_16 ?_
    refine wt_rS (As := [.long a2.toInt64, .long 0, .long 999]) (rest := []) ⟨hx, hb, hml, hown, hts⟩ (c_X6_in l D cI cZ cH a2.toInt64 0 999) (va_cwS 3 hts gX6_mix_X6_in rfl rfl rfl (by decide +kernel) ⟨Nat.le_of_ble_eq_true rfl, Nat.le_of_ble_eq_true rfl⟩) hK hP [] rfl rfl hl.1 rfl (Nat.le_of_ble_eq_true rfl) dX6_mix_19 ⟨Nat.le_of_ble_eq_true rfl, Nat.le_of_ble_eq_true rfl⟩ (fun r_5 e_6 => ?_)
    subst e_6
    refine wt_top (z := wI a2 0 999) (wL_I' (by decide) (by decide)) ?_
    refine lv_if_eq (tgt := 35) hx hb dX6_mix_22 (by decide) (fun c_7 => ?_) (fun c_7 => ?_)
    · skip
      refine lv_ldc hx hb hown wc67 dX6_mix_35 ?_
      have hP9 := hP.sub (ws' := [(md, .inr (6, [.int 0, vm_1, vm_2, vm_3, vm_4, .ref hs, vm_6, .ref tn, vm_8, vm_9, vm_10, vm_11, vm_12, vm_13, vm_14, vm_15, vm_16, vm_17, vm_18, vm_19, vm_20, vm_21, vm_22, vm_23])), (hs, .inl (cI, 45, .inl f)), (tn, .inl (cI, 45, .inl g))]) [0, 1, 2] rfl
      have hD9 := hD.sub (ws' := [(md, .inr (6, [.int 0, vm_1, vm_2, vm_3, vm_4, .ref hs, vm_6, .ref tn, vm_8, vm_9, vm_10, vm_11, vm_12, vm_13, vm_14, vm_15, vm_16, vm_17, vm_18, vm_19, vm_20, vm_21, vm_22, vm_23])), (hs, .inl (cI, 45, .inl f)), (tn, .inl (cI, 45, .inl g))]) [0, 1, 2] (by decide) rfl
      exact wt_iret hx hb hr hlocks hP9 hD9 hS ⟨g, rfl⟩ dX6_mix_37
    · skip
      obtain ⟨j_8, hj_8, hj_8b, rfl⟩ := wI_nat (a := 0) (b := 999) (by omega) (by omega) c_7
      refine lv_iload_n hx hb dX6_mix_25 rfl (lv_at hl 3 rfl) ?_
      refine lv_i2l hx hb dX6_mix_26 rfl ?_
      refine lv_lconst (v := 0) hx hb dX6_mix_27 (by decide) ?_
      refine lv_lconst (v := 1) hx hb dX6_mix_28 (by decide) ?_
      refine wt_rS (As := [.long a3.toInt64, .long 0, .long 1]) (rest := []) ⟨hx, hb, hml, hown, hts⟩ (c_X6_in l D cI cZ cH a3.toInt64 0 1) (va_cwS 3 hts gX6_mix_X6_in rfl rfl rfl (by decide +kernel) ⟨Nat.le_of_ble_eq_true rfl, Nat.le_of_ble_eq_true rfl⟩) hK hP [] rfl rfl hl.1 rfl (Nat.le_of_ble_eq_true rfl) dX6_mix_29 ⟨Nat.le_of_ble_eq_true rfl, Nat.le_of_ble_eq_true rfl⟩ (fun r_9 e_10 => ?_)
      subst e_10
      refine wt_top (z := wI a3 0 1) (wL_I' (by decide) (by decide)) ?_
      refine lv_if_ne (tgt := 38) hx hb dX6_mix_32 (by decide) (fun c_11 => ?_) (fun c_11 => ?_)
      · skip
        obtain ⟨j_12, hj_12, hj_12b, rfl⟩ := wI_nat (a := 0) (b := 1) (by omega) (by omega) c_11
        refine lv_aload_n hx hb dX6_mix_38 rfl (lv_at hl 0 rfl) ?_
        refine va_get (D := D) (ci := 6) (v := .ref hs) (C := RX6) (T := TX6) (N := 24) hx hb hts hi6 hown hK.1 hP 0 rfl rfl 5 (by decide) wf19 (fun _ h9 => h9) rfl dX6_mix_39 ?_
        refine lv_iload_n hx hb dX6_mix_42 rfl (lv_at hl 1 rfl) ?_
        refine wt_rS (As := [.ref hs, .int (nI j_4)]) (rest := []) ⟨hx, hb, hml, hown, hts⟩ (c_X6_tubesIn l D cI cZ cH hs R T f (nI j_4) (by first | assumption | omega) (by first | assumption | omega) (by first | assumption | omega)) (va_cwS 2 hts gX6_mix_X6_tubesIn rfl rfl rfl (by decide +kernel) ⟨Nat.le_of_ble_eq_true rfl, Nat.le_of_ble_eq_true rfl⟩) hK hP [1] rfl rfl hl.1 rfl (Nat.le_of_ble_eq_true rfl) dX6_mix_43 ⟨Nat.le_of_ble_eq_true rfl, Nat.le_of_ble_eq_true rfl⟩ (fun r_13 e_14 => ?_)
        obtain ⟨b_15, e_14, rfl⟩ := e_14
        refine lv_istore (lv' := [(4, .int (nI b_15)), (0, .ref md), (1, .int (nI j_4)), (2, .int (nI j_8)), (3, .int (nI j_12))]) hx hb dX6_mix_46 hl (by decide) rfl (fun ls hl => ?_)
        refine lv_iconst (v := 0) hx hb dX6_mix_48 (by decide) ?_
        refine lv_istore (lv' := [(5, .int 0), (4, .int (nI b_15)), (0, .ref md), (1, .int (nI j_4)), (2, .int (nI j_8)), (3, .int (nI j_12))]) hx hb dX6_mix_49 hl (by decide) rfl (fun ls hl => ?_)
        refine lv_ldc hx hb hown wc90 dX6_mix_51 ?_
        refine lv_istore (lv' := [(6, .int (-1000000)), (5, .int 0), (4, .int (nI b_15)), (0, .ref md), (1, .int (nI j_4)), (2, .int (nI j_8)), (3, .int (nI j_12))]) hx hb dX6_mix_53 hl (by decide) rfl (fun ls hl => ?_)
        refine lv_iload hx hb dX6_mix_55 (lv_at hl 2 rfl) ?_
        refine lv_istore (lv' := [(7, .int (nI b_15)), (6, .int (-1000000)), (5, .int 0), (4, .int (nI b_15)), (0, .ref md), (1, .int (nI j_4)), (2, .int (nI j_8)), (3, .int (nI j_12))]) hx hb dX6_mix_57 hl (by decide) rfl (fun ls hl => ?_)
        have hl : lv_has ls 9 [(7, .int (nI (b_15 + 1) - 1)), (6, .int (-1000000)), (5, .int 0), (4, .int (nI b_15)), (0, .ref md), (1, .int (nI j_4)), (2, .int (nI j_8)), (3, .int (nI j_12))] := by rw [wt_down]; exact hl
        have loop59 : ∀ (k : Nat) (lf_16 : Nat → Int32) (y_17 : Int32) (y_18 : Int32) (H : Heap) (locs : List Loc) (ls : Array Slot) (hk64 : k ≤ 64), va_P D vwCl [(md, .inr (6, [.int 0, vm_1, vm_2, vm_3, vm_4, .ref hs, vm_6, .ref tn, vm_8, vm_9, vm_10, vm_11, vm_12, vm_13, vm_14, vm_15, vm_16, vm_17, vm_18, vm_19, vm_20, vm_21, vm_22, vm_23])), (hs, .inl (cI, 45, .inl f)), (tn, .inl (cI, 45, .inl lf_16))] H → va_D A [(md, .inr (6, [.int 0, vm_1, vm_2, vm_3, vm_4, .ref hs, vm_6, .ref tn, vm_8, vm_9, vm_10, vm_11, vm_12, vm_13, vm_14, vm_15, vm_16, vm_17, vm_18, vm_19, vm_20, vm_21, vm_22, vm_23])), (hs, .inl (cI, 45, .inl f)), (tn, .inl (cI, 45, .inl lf_16))] → va_S A s.heap H locs → lv_has ls 9 [(7, .int (nI k - 1)), (6, .int y_18), (5, .int y_17), (4, .int (nI b_15)), (0, .ref md), (1, .int (nI j_4)), (2, .int (nI j_8)), (3, .int (nI j_12))] → W p l e ({ frames := 4, cells := 0, slots := 0, locals := 89 } : Room) s m ([.ref md, .int (nI j_4), .int (nI j_8), .int (nI j_12)] : List Value).toArray below meth c H locs 0 0 (MQ below (wt_QI D (fun r w => ∃ (g2 : Nat → Int32), w = [(md, .inr (6, [.int 0, vm_1, vm_2, vm_3, vm_4, .ref hs, vm_6, .ref tn, vm_8, vm_9, vm_10, vm_11, vm_12, vm_13, vm_14, vm_15, vm_16, vm_17, vm_18, vm_19, vm_20, vm_21, vm_22, vm_23])), (hs, .inl (cI, 45, .inl f)), (tn, .inl (cI, 45, .inl g2))]) A) ([.ref md, .int (nI j_4), .int (nI j_8), .int (nI j_12)] : List Value).toArray s 0 0 A) (F0 m 59 ls []) := by
          intro k
          induction k with
          | zero =>
            intro lf_16 y_17 y_18 H locs ls hk64 hP hD hS hl
            rw [show nI 0 - 1 = (-1 : Int32) from by decide] at hl
            have hl : lv_has ls 9 [(7, .int (-1)), (6, .int y_18), (5, .int y_17), (4, .int (nI b_15)), (0, .ref md), (1, .int (nI j_4)), (2, .int (nI j_8)), (3, .int (nI j_12))] := hl
            refine lv_iload hx hb dX6_mix_59 (lv_at hl 0 rfl) ?_
            refine lv_if_lt (tgt := 134) hx hb dX6_mix_61 (by decide) (fun _ => ?_) (fun h => absurd h (by decide))
            refine lv_iload_n hx hb dX6_mix_134 rfl (lv_at hl 7 rfl) ?_
            refine lv_if_ne (tgt := 143) hx hb dX6_mix_135 (by decide) (fun c_19 => ?_) (fun c_19 => ?_)
            · skip
              have c_19 : ¬ (j_12 = 0) := fun h => c_19 ((nI_eq (a := j_12) (b := 0) (by omega) (by omega)).mpr h)
              refine lv_iload hx hb dX6_mix_143 (lv_at hl 1 rfl) ?_
              have hP9 := hP.sub (ws' := [(md, .inr (6, [.int 0, vm_1, vm_2, vm_3, vm_4, .ref hs, vm_6, .ref tn, vm_8, vm_9, vm_10, vm_11, vm_12, vm_13, vm_14, vm_15, vm_16, vm_17, vm_18, vm_19, vm_20, vm_21, vm_22, vm_23])), (hs, .inl (cI, 45, .inl f)), (tn, .inl (cI, 45, .inl lf_16))]) [0, 1, 2] rfl
              have hD9 := hD.sub (ws' := [(md, .inr (6, [.int 0, vm_1, vm_2, vm_3, vm_4, .ref hs, vm_6, .ref tn, vm_8, vm_9, vm_10, vm_11, vm_12, vm_13, vm_14, vm_15, vm_16, vm_17, vm_18, vm_19, vm_20, vm_21, vm_22, vm_23])), (hs, .inl (cI, 45, .inl f)), (tn, .inl (cI, 45, .inl lf_16))]) [0, 1, 2] (by decide) rfl
              exact wt_iret hx hb hr hlocks hP9 hD9 hS ⟨lf_16, rfl⟩ dX6_mix_145
            · skip
              have c_19 : j_12 = 0 := (nI_eq (a := j_12) (b := 0) (by omega) (by omega)).mp c_19
              refine lv_iload hx hb dX6_mix_138 (lv_at hl 2 rfl) ?_
              refine lv_goto (tgt := 145) hx hb dX6_mix_140 (by decide) ?_
              have hP9 := hP.sub (ws' := [(md, .inr (6, [.int 0, vm_1, vm_2, vm_3, vm_4, .ref hs, vm_6, .ref tn, vm_8, vm_9, vm_10, vm_11, vm_12, vm_13, vm_14, vm_15, vm_16, vm_17, vm_18, vm_19, vm_20, vm_21, vm_22, vm_23])), (hs, .inl (cI, 45, .inl f)), (tn, .inl (cI, 45, .inl lf_16))]) [0, 1, 2] rfl
              have hD9 := hD.sub (ws' := [(md, .inr (6, [.int 0, vm_1, vm_2, vm_3, vm_4, .ref hs, vm_6, .ref tn, vm_8, vm_9, vm_10, vm_11, vm_12, vm_13, vm_14, vm_15, vm_16, vm_17, vm_18, vm_19, vm_20, vm_21, vm_22, vm_23])), (hs, .inl (cI, 45, .inl f)), (tn, .inl (cI, 45, .inl lf_16))]) [0, 1, 2] (by decide) rfl
              exact wt_iret hx hb hr hlocks hP9 hD9 hS ⟨lf_16, rfl⟩ dX6_mix_145
          | succ k ih59 =>
            intro lf_16 y_17 y_18 H locs ls hk64 hP hD hS hl
            rw [wt_down k] at hl
            have hl : lv_has ls 9 [(7, .int (nI k)), (6, .int y_18), (5, .int y_17), (4, .int (nI b_15)), (0, .ref md), (1, .int (nI j_4)), (2, .int (nI j_8)), (3, .int (nI j_12))] := hl
            refine lv_iload hx hb dX6_mix_59 (lv_at hl 0 rfl) ?_
            refine lv_if_lt (tgt := 134) hx hb dX6_mix_61 (by decide) (fun h => absurd h (nI_nlt (a := k) (b := 0) (by omega) (by omega))) (fun _ => ?_)
            refine lv_iload hx hb dX6_mix_64 (lv_at hl 0 rfl) ?_
            refine lv_iload hx hb dX6_mix_66 (lv_at hl 3 rfl) ?_
            refine lv_iconst (v := (-1)) hx hb dX6_mix_68 (by decide) ?_
            refine lv_ixor hx hb dX6_mix_69 ?_
            refine lv_topi (fun ov_20 _ => ?_)
            refine lv_iand hx hb dX6_mix_70 ?_
            refine lv_topi (fun ov_21 _ => ?_)
            refine lv_if_ne (tgt := 128) hx hb dX6_mix_71 (by decide) (fun c_22 => ?_) (fun c_22 => ?_)
            · skip
              obtain ⟨ov_23, eov_23⟩ : ∃ y : Int32, (nI k) + Int32.ofInt (-1) = y := ⟨_, rfl⟩
              refine lv_iinc (v := ov_23) (lv' := [(7, .int ov_23), (6, .int y_18), (5, .int y_17), (4, .int (nI b_15)), (0, .ref md), (1, .int (nI j_4)), (2, .int (nI j_8)), (3, .int (nI j_12))]) hx hb dX6_mix_128 hl (k := 0) rfl eov_23 (by decide) rfl (fun ls hl => ?_)
              refine lv_goto (tgt := 59) hx hb dX6_mix_131 (by decide) ?_
              have e9 : ov_23 = nI k - 1 := by rw [← eov_23]; exact wt_decr _
              subst e9
              exact ih59 lf_16 y_17 y_18 H locs ls (by omega) (hP.sub [0, 1, 2] rfl) (hD.sub [0, 1, 2] (by decide) rfl) hS (lv_sub hl [0, 1, 2, 3, 4, 5, 6, 7] rfl)
            · skip
              refine lv_aload_n hx hb dX6_mix_74 rfl (lv_at hl 4 rfl) ?_
              refine lv_iload hx hb dX6_mix_75 (lv_at hl 0 rfl) ?_
              refine wt_goV (wr := []) (wt_runV (As := [.int (nI k)]) (rest := []) ⟨hx, hb, hml, hown, hts⟩ (c_X6_layShaken l D cI cZ cH md hs R T f tn lf_16 (nI k) (.int 0) vm_1 vm_2 vm_3 vm_4 vm_6 vm_8 vm_9 vm_10 vm_11 vm_12 vm_13 vm_14 vm_15 vm_16 vm_17 vm_18 vm_19 vm_20 vm_21 vm_22 vm_23 (by first | assumption | omega) (by first | assumption | omega) (by first | assumption | omega)) (cwV 1 hts gX6_mix_X6_layShaken rfl rfl rfl (by decide +kernel) ⟨Nat.le_of_ble_eq_true rfl, Nat.le_of_ble_eq_true rfl⟩) hK hP hD [0, 1, 2] rfl (by decide) (va_recv hK.1 hP (ci := 6) (q0 := 0) rfl rfl) rfl hl.1 rfl (Nat.le_of_ble_eq_true rfl) dX6_mix_77 ⟨Nat.le_of_ble_eq_true rfl, Nat.le_of_ble_eq_true rfl⟩) hP hD hS hA [0, 1, 2] [] rfl rfl (by decide) (by decide) (fun w_25 H locs h_26 hP hD hS => ?_)
              obtain ⟨g2_27, rfl, x_28⟩ := h_26
              have hP : va_P D vwCl [(md, .inr (6, [.int 0, vm_1, vm_2, vm_3, vm_4, .ref hs, vm_6, .ref tn, vm_8, vm_9, vm_10, vm_11, vm_12, vm_13, vm_14, vm_15, vm_16, vm_17, vm_18, vm_19, vm_20, vm_21, vm_22, vm_23])), (hs, .inl (cI, 45, .inl f)), (tn, .inl (cI, 45, .inl g2_27))] H := hP
              have hD : va_D A [(md, .inr (6, [.int 0, vm_1, vm_2, vm_3, vm_4, .ref hs, vm_6, .ref tn, vm_8, vm_9, vm_10, vm_11, vm_12, vm_13, vm_14, vm_15, vm_16, vm_17, vm_18, vm_19, vm_20, vm_21, vm_22, vm_23])), (hs, .inl (cI, 45, .inl f)), (tn, .inl (cI, 45, .inl g2_27))] := hD
              refine lv_aload_n hx hb dX6_mix_80 rfl (lv_at hl 4 rfl) ?_
              refine va_get (D := D) (ci := 6) (v := .ref tn) (C := RX6) (T := TX6) (N := 24) hx hb hts hi6 hown hK.1 hP 0 rfl rfl 7 (by decide) wf25 (fun _ h9 => h9) rfl dX6_mix_81 ?_
              refine lv_iload_n hx hb dX6_mix_84 rfl (lv_at hl 5 rfl) ?_
              refine wt_rS (As := [.ref tn, .int (nI j_4)]) (rest := []) ⟨hx, hb, hml, hown, hts⟩ (c_X6_warmth l D cI cZ cH tn R T g2_27 j_4 (by first | assumption | omega) (by first | assumption | omega) (by first | assumption | omega) (by first | assumption | omega)) (va_cwS 2 hts gX6_mix_X6_warmth rfl rfl rfl (by decide +kernel) ⟨Nat.le_of_ble_eq_true rfl, Nat.le_of_ble_eq_true rfl⟩) hK hP [2] rfl rfl hl.1 rfl (Nat.le_of_ble_eq_true rfl) dX6_mix_85 ⟨Nat.le_of_ble_eq_true rfl, Nat.le_of_ble_eq_true rfl⟩ (fun r_29 e_30 => ?_)
              refine lv_iload_n hx hb dX6_mix_88 rfl (lv_at hl 6 rfl) ?_
              refine lv_icmp_ne (tgt := 96) hx hb dX6_mix_89 (by decide) (fun c_31 => ?_) (fun c_31 => ?_)
              · skip
                refine lv_iconst (v := 0) hx hb dX6_mix_96 (by decide) ?_
                refine lv_istore (lv' := [(8, .int 0), (7, .int (nI k)), (6, .int y_18), (5, .int y_17), (4, .int (nI b_15)), (0, .ref md), (1, .int (nI j_4)), (2, .int (nI j_8)), (3, .int (nI j_12))]) hx hb dX6_mix_97 hl (by decide) rfl (fun ls hl => ?_)
                refine lv_iload hx hb dX6_mix_99 (lv_at hl 3 rfl) ?_
                refine lv_iload hx hb dX6_mix_101 (lv_at hl 0 rfl) ?_
                refine lv_if_eq (tgt := 110) hx hb dX6_mix_103 (by decide) (fun _ => ?_) (fun h => absurd h (by decide))
                refine lv_iconst (v := 0) hx hb dX6_mix_110 (by decide) ?_
                refine lv_iadd hx hb dX6_mix_111 ?_
                refine lv_topi (fun ov_32 _ => ?_)
                refine lv_istore (lv' := [(5, .int ov_32), (8, .int 0), (7, .int (nI k)), (6, .int y_18), (4, .int (nI b_15)), (0, .ref md), (1, .int (nI j_4)), (2, .int (nI j_8)), (3, .int (nI j_12))]) hx hb dX6_mix_112 hl (by decide) rfl (fun ls hl => ?_)
                refine lv_iload hx hb dX6_mix_114 (lv_at hl 1 rfl) ?_
                refine lv_if_eq (tgt := 124) hx hb dX6_mix_116 (by decide) (fun _ => ?_) (fun h => absurd h (by decide))
                refine lv_iload hx hb dX6_mix_124 (lv_at hl 3 rfl) ?_
                refine lv_istore (lv' := [(6, .int y_18), (5, .int ov_32), (8, .int 0), (7, .int (nI k)), (4, .int (nI b_15)), (0, .ref md), (1, .int (nI j_4)), (2, .int (nI j_8)), (3, .int (nI j_12))]) hx hb dX6_mix_126 hl (by decide) rfl (fun ls hl => ?_)
                obtain ⟨ov_33, eov_33⟩ : ∃ y : Int32, (nI k) + Int32.ofInt (-1) = y := ⟨_, rfl⟩
                refine lv_iinc (v := ov_33) (lv' := [(7, .int ov_33), (6, .int y_18), (5, .int ov_32), (8, .int 0), (4, .int (nI b_15)), (0, .ref md), (1, .int (nI j_4)), (2, .int (nI j_8)), (3, .int (nI j_12))]) hx hb dX6_mix_128 hl (k := 3) rfl eov_33 (by decide) rfl (fun ls hl => ?_)
                refine lv_goto (tgt := 59) hx hb dX6_mix_131 (by decide) ?_
                have e9 : ov_33 = nI k - 1 := by rw [← eov_33]; exact wt_decr _
                subst e9
                exact ih59 g2_27 ov_32 y_18 H locs ls (by omega) (hP.sub [0, 1, 2] rfl) (hD.sub [0, 1, 2] (by decide) rfl) hS (lv_sub hl [0, 1, 2, 4, 5, 6, 7, 8] rfl)
              · skip
                refine lv_iconst (v := 1) hx hb dX6_mix_92 (by decide) ?_
                refine lv_goto (tgt := 97) hx hb dX6_mix_93 (by decide) ?_
                refine lv_istore (lv' := [(8, .int 1), (7, .int (nI k)), (6, .int y_18), (5, .int y_17), (4, .int (nI b_15)), (0, .ref md), (1, .int (nI j_4)), (2, .int (nI j_8)), (3, .int (nI j_12))]) hx hb dX6_mix_97 hl (by decide) rfl (fun ls hl => ?_)
                refine lv_iload hx hb dX6_mix_99 (lv_at hl 3 rfl) ?_
                refine lv_iload hx hb dX6_mix_101 (lv_at hl 0 rfl) ?_
                refine lv_if_eq (tgt := 110) hx hb dX6_mix_103 (by decide) (fun h => absurd h (by decide)) (fun _ => ?_)
                refine lv_iconst (v := 1) hx hb dX6_mix_106 (by decide) ?_
                refine lv_goto (tgt := 111) hx hb dX6_mix_107 (by decide) ?_
                refine lv_iadd hx hb dX6_mix_111 ?_
                refine lv_topi (fun ov_34 _ => ?_)
                refine lv_istore (lv' := [(5, .int ov_34), (8, .int 1), (7, .int (nI k)), (6, .int y_18), (4, .int (nI b_15)), (0, .ref md), (1, .int (nI j_4)), (2, .int (nI j_8)), (3, .int (nI j_12))]) hx hb dX6_mix_112 hl (by decide) rfl (fun ls hl => ?_)
                refine lv_iload hx hb dX6_mix_114 (lv_at hl 1 rfl) ?_
                refine lv_if_eq (tgt := 124) hx hb dX6_mix_116 (by decide) (fun h => absurd h (by decide)) (fun _ => ?_)
                refine lv_iload hx hb dX6_mix_119 (lv_at hl 2 rfl) ?_
                refine lv_goto (tgt := 126) hx hb dX6_mix_121 (by decide) ?_
                refine lv_istore (lv' := [(6, .int (nI k)), (5, .int ov_34), (8, .int 1), (7, .int (nI k)), (4, .int (nI b_15)), (0, .ref md), (1, .int (nI j_4)), (2, .int (nI j_8)), (3, .int (nI j_12))]) hx hb dX6_mix_126 hl (by decide) rfl (fun ls hl => ?_)
                obtain ⟨ov_35, eov_35⟩ : ∃ y : Int32, (nI k) + Int32.ofInt (-1) = y := ⟨_, rfl⟩
                refine lv_iinc (v := ov_35) (lv' := [(7, .int ov_35), (6, .int (nI k)), (5, .int ov_34), (8, .int 1), (4, .int (nI b_15)), (0, .ref md), (1, .int (nI j_4)), (2, .int (nI j_8)), (3, .int (nI j_12))]) hx hb dX6_mix_128 hl (k := 3) rfl eov_35 (by decide) rfl (fun ls hl => ?_)
                refine lv_goto (tgt := 59) hx hb dX6_mix_131 (by decide) ?_
                have e9 : ov_35 = nI k - 1 := by rw [← eov_35]; exact wt_decr _
                subst e9
                exact ih59 g2_27 ov_34 (nI k) H locs ls (by omega) (hP.sub [0, 1, 2] rfl) (hD.sub [0, 1, 2] (by decide) rfl) hS (lv_sub hl [0, 1, 2, 4, 5, 6, 7, 8] rfl)
        exact loop59 (b_15 + 1) g 0 (-1000000) _ _ ls (by omega) hP hD hS hl
      · skip
        refine lv_ldc hx hb hown wc67 dX6_mix_35 ?_
        have hP9 := hP.sub (ws' := [(md, .inr (6, [.int 0, vm_1, vm_2, vm_3, vm_4, .ref hs, vm_6, .ref tn, vm_8, vm_9, vm_10, vm_11, vm_12, vm_13, vm_14, vm_15, vm_16, vm_17, vm_18, vm_19, vm_20, vm_21, vm_22, vm_23])), (hs, .inl (cI, 45, .inl f)), (tn, .inl (cI, 45, .inl g))]) [0, 1, 2] rfl
        have hD9 := hD.sub (ws' := [(md, .inr (6, [.int 0, vm_1, vm_2, vm_3, vm_4, .ref hs, vm_6, .ref tn, vm_8, vm_9, vm_10, vm_11, vm_12, vm_13, vm_14, vm_15, vm_16, vm_17, vm_18, vm_19, vm_20, vm_21, vm_22, vm_23])), (hs, .inl (cI, 45, .inl f)), (tn, .inl (cI, 45, .inl g))]) [0, 1, 2] (by decide) rfl
        exact wt_iret hx hb hr hlocks hP9 hD9 hS ⟨g, rfl⟩ dX6_mix_37
set_option maxHeartbeats 4000000 in
set_option maxRecDepth 100000 in
theorem c_X6_has_x (l : Launch) (D : va_G) (cI cZ cH : ClassId) (a1 a2 : Int32) : wt_R l yX6_has wsX6_has ({ frames := 0, cells := 0, slots := 0, locals := 0 } : Room) D (wt_T cI cZ cH) [.int a1, .int a2] [] (vp_Si (fun r => r = hB a1 a2)) := by
  refine wt_R.ofW (cc := cX6_has) (maxL := 2) (ret := (some .boolean)) (by decide) rfl (Nat.le_of_ble_eq_true rfl) ?_
  intro p e s m below meth c ls hx hb hr hts hown hlocks hml hP hK hl
  have hown : s.vm.findClass RX6 = some m.cls := hown
  have hl : lv_has ls 2 [(0, .int a1), (1, .int a2)] := hl
  refine lv_iload_n hx hb dX6_has_0 rfl (lv_at hl 0 rfl) ?_
  refine lv_iload_n hx hb dX6_has_1 rfl (lv_at hl 1 rfl) ?_
  refine lv_ishr hx hb dX6_has_2 ?_
  refine lv_iconst (v := 1) hx hb dX6_has_3 (by decide) ?_
  refine lv_iand hx hb dX6_has_4 ?_
  refine lv_iconst (v := 1) hx hb dX6_has_5 (by decide) ?_
  refine lv_icmp_ne (tgt := 13) hx hb dX6_has_6 (by decide) (fun c_1 => ?_) (fun c_1 => ?_)
  · skip
    refine lv_iconst (v := 0) hx hb dX6_has_13 (by decide) ?_
    exact wt_szret hx hb hr hlocks (by decide) (by simp [hB, c_1]) dX6_has_14
  · skip
    refine lv_iconst (v := 1) hx hb dX6_has_9 (by decide) ?_
    refine lv_goto (tgt := 14) hx hb dX6_has_10 (by decide) ?_
    exact wt_szret hx hb hr hlocks (by decide) (by simp [hB, c_1]) dX6_has_14
set_option maxHeartbeats 4000000 in
set_option maxRecDepth 100000 in
theorem c_X6_forgotten (l : Launch) (D : va_G) (cI cZ cH : ClassId) (md hs : Nat) (R T : Nat) (f : Nat → Int32) (tn : Nat) (g : Nat → Int32) (a1 a2 a3 a4 : Int32) (vm_0 vm_1 vm_2 vm_3 vm_4 vm_6 vm_8 vm_9 vm_10 vm_11 vm_12 vm_13 vm_14 vm_15 vm_16 vm_17 vm_18 vm_19 vm_20 vm_21 vm_22 vm_23 : Value) (hR5 : R ≤ 5) (hT6 : T ≤ 6) (hrk : rk R T f) : wt_M l yX6_forgotten wsX6_forgotten ({ frames := 5, cells := 0, slots := 0, locals := 113 } : Room) D (wt_T cI cZ cH) [.ref md, .int a1, .int a2, .int a3, .int a4] [(md, .inr (6, [vm_0, vm_1, vm_2, vm_3, vm_4, .ref hs, vm_6, .ref tn, vm_8, vm_9, vm_10, vm_11, vm_12, vm_13, vm_14, vm_15, vm_16, vm_17, vm_18, vm_19, vm_20, vm_21, vm_22, vm_23])), (hs, .inl (cI, 45, .inl f)), (tn, .inl (cI, 45, .inl g))] (wt_QL D (fun r w => ∃ (g2 : Nat → Int32), w = [(md, .inr (6, [.int 0, vm_1, vm_2, vm_3, vm_4, .ref hs, vm_6, .ref tn, vm_8, vm_9, vm_10, vm_11, vm_12, vm_13, vm_14, vm_15, vm_16, vm_17, vm_18, vm_19, vm_20, vm_21, vm_22, vm_23])), (hs, .inl (cI, 45, .inl f)), (tn, .inl (cI, 45, .inl g2))])) := by
  refine wt_M.ofW (cc := cX6_forgotten) (maxL := 16) (ret := (some .long)) (by decide) rfl (Nat.le_of_ble_eq_true rfl) ?_
  intro p e s m below meth c A ls hx hb hr hts hown hlocks hml hnm hP hK hD hA hS hl
  have hP : va_P D vwCl [(md, .inr (6, [vm_0, vm_1, vm_2, vm_3, vm_4, .ref hs, vm_6, .ref tn, vm_8, vm_9, vm_10, vm_11, vm_12, vm_13, vm_14, vm_15, vm_16, vm_17, vm_18, vm_19, vm_20, vm_21, vm_22, vm_23])), (hs, .inl (cI, 45, .inl f)), (tn, .inl (cI, 45, .inl g))] s.heap := hP
  have hown : s.vm.findClass RX6 = some m.cls := hown
  have hl : lv_has ls 16 [(0, .ref md), (1, .int a1), (2, .int a2), (3, .int a3), (4, .int a4)] := hl
  have hi6 : ∀ w ∈ u_ws RX6 TX6 24, w ∈ wsX6_forgotten := by decide +kernel
  have wf19 := hts (.fieldLink RX6 19 "WarmTubesModel" "house" "[I") (by decide +kernel)
  have wf25 := hts (.fieldLink RX6 25 "WarmTubesModel" "then" "[I") (by decide +kernel)
  have wf47 := hts (.fieldLink RX6 47 "WarmTubesModel" "thrown" "I") (by decide +kernel)
  have wl235 := hts (.constantLong RX6 235 (30)) (by decide +kernel)
  have wl274 := hts (.constantLong RX6 274 (10)) (by decide +kernel)
  have wl276 := hts (.constantLong RX6 276 (-1000001)) (by decide +kernel)
  refine lv_aload_n hx hb dX6_forgotten_0 rfl (lv_at hl 0 rfl) ?_
  refine lv_iconst (v := 0) hx hb dX6_forgotten_1 (by decide) ?_
  refine va_put (D := D) (ci := 6) (v := .int 0) (ty := .int) (C := RX6) (T := TX6) (N := 24) hx hb hts hi6 tyX6 tyX6_ok nmX6 hown hK.1 hP hD hS 0 rfl rfl 0 (by decide) wf47 (fun _ h9 => h9) rfl (by decide +kernel) rfl rfl (Nat.le_of_ble_eq_true rfl) dX6_forgotten_2 (fun H locs hP hD hS => ?_)
  have hP : va_P D vwCl [(md, .inr (6, [.int 0, vm_1, vm_2, vm_3, vm_4, .ref hs, vm_6, .ref tn, vm_8, vm_9, vm_10, vm_11, vm_12, vm_13, vm_14, vm_15, vm_16, vm_17, vm_18, vm_19, vm_20, vm_21, vm_22, vm_23])), (hs, .inl (cI, 45, .inl f)), (tn, .inl (cI, 45, .inl g))] H := hP
  have hD : va_D A [(md, .inr (6, [.int 0, vm_1, vm_2, vm_3, vm_4, .ref hs, vm_6, .ref tn, vm_8, vm_9, vm_10, vm_11, vm_12, vm_13, vm_14, vm_15, vm_16, vm_17, vm_18, vm_19, vm_20, vm_21, vm_22, vm_23])), (hs, .inl (cI, 45, .inl f)), (tn, .inl (cI, 45, .inl g))] := hD
  refine lv_aload_n hx hb dX6_forgotten_5 rfl (lv_at hl 0 rfl) ?_
  refine lv_iload_n hx hb dX6_forgotten_6 rfl (lv_at hl 1 rfl) ?_
  refine wt_rV (As := [.int a1]) (rest := []) ⟨hx, hb, hml, hown, hts⟩ (c_X6_isRoom l D cI cZ cH md hs R T f a1 (.int 0) vm_1 vm_2 vm_3 vm_4 vm_6 (.ref tn) vm_8 vm_9 vm_10 vm_11 vm_12 vm_13 vm_14 vm_15 vm_16 vm_17 vm_18 vm_19 vm_20 vm_21 vm_22 vm_23 (by first | assumption | omega) (by first | assumption | omega) (by first | assumption | omega)) (cwV 1 hts gX6_forgotten_X6_isRoom rfl rfl rfl (by decide +kernel) ⟨Nat.le_of_ble_eq_true rfl, Nat.le_of_ble_eq_true rfl⟩) hK hP [0, 1] rfl (va_recv hK.1 hP (ci := 6) (q0 := 0) rfl rfl) rfl hl.1 rfl (Nat.le_of_ble_eq_true rfl) dX6_forgotten_7 ⟨Nat.le_of_ble_eq_true rfl, Nat.le_of_ble_eq_true rfl⟩ (fun r_1 e_2 => ?_)
  subst e_2
  refine lv_if_eq (tgt := 48) hx hb dX6_forgotten_10 (by decide) (fun c_3 => ?_) (fun c_3 => ?_)
  · skip
    refine lv_ldc2 hx hb hown wl276 dX6_forgotten_48 ?_
    have hP9 := hP.sub (ws' := [(md, .inr (6, [.int 0, vm_1, vm_2, vm_3, vm_4, .ref hs, vm_6, .ref tn, vm_8, vm_9, vm_10, vm_11, vm_12, vm_13, vm_14, vm_15, vm_16, vm_17, vm_18, vm_19, vm_20, vm_21, vm_22, vm_23])), (hs, .inl (cI, 45, .inl f)), (tn, .inl (cI, 45, .inl g))]) [0, 1, 2] rfl
    have hD9 := hD.sub (ws' := [(md, .inr (6, [.int 0, vm_1, vm_2, vm_3, vm_4, .ref hs, vm_6, .ref tn, vm_8, vm_9, vm_10, vm_11, vm_12, vm_13, vm_14, vm_15, vm_16, vm_17, vm_18, vm_19, vm_20, vm_21, vm_22, vm_23])), (hs, .inl (cI, 45, .inl f)), (tn, .inl (cI, 45, .inl g))]) [0, 1, 2] (by decide) rfl
    exact wt_lret hx hb hr hlocks hP9 hD9 hS ⟨g, rfl⟩ dX6_forgotten_51
  · skip
    obtain ⟨j_4, hj_4, rfl⟩ := wI_natT (T := R) (by omega) c_3
    refine lv_iload_n hx hb dX6_forgotten_13 rfl (lv_at hl 2 rfl) ?_
    refine lv_i2l hx hb dX6_forgotten_14 rfl ?_
    refine lv_lconst (v := 0) hx hb dX6_forgotten_15 (by decide) ?_
    refine lv_ldc2 hx hb hown wl235 dX6_forgotten_16 ?_
    refine wt_rS (As := [.long a2.toInt64, .long 0, .long 30]) (rest := []) ⟨hx, hb, hml, hown, hts⟩ (c_X6_in l D cI cZ cH a2.toInt64 0 30) (va_cwS 3 hts gX6_forgotten_X6_in rfl rfl rfl (by decide +kernel) ⟨Nat.le_of_ble_eq_true rfl, Nat.le_of_ble_eq_true rfl⟩) hK hP [] rfl rfl hl.1 rfl (Nat.le_of_ble_eq_true rfl) dX6_forgotten_19 ⟨Nat.le_of_ble_eq_true rfl, Nat.le_of_ble_eq_true rfl⟩ (fun r_5 e_6 => ?_)
    subst e_6
    refine wt_top (z := wI a2 0 30) (wL_I' (by decide) (by decide)) ?_
    refine lv_if_eq (tgt := 48) hx hb dX6_forgotten_22 (by decide) (fun c_7 => ?_) (fun c_7 => ?_)
    · skip
      refine lv_ldc2 hx hb hown wl276 dX6_forgotten_48 ?_
      have hP9 := hP.sub (ws' := [(md, .inr (6, [.int 0, vm_1, vm_2, vm_3, vm_4, .ref hs, vm_6, .ref tn, vm_8, vm_9, vm_10, vm_11, vm_12, vm_13, vm_14, vm_15, vm_16, vm_17, vm_18, vm_19, vm_20, vm_21, vm_22, vm_23])), (hs, .inl (cI, 45, .inl f)), (tn, .inl (cI, 45, .inl g))]) [0, 1, 2] rfl
      have hD9 := hD.sub (ws' := [(md, .inr (6, [.int 0, vm_1, vm_2, vm_3, vm_4, .ref hs, vm_6, .ref tn, vm_8, vm_9, vm_10, vm_11, vm_12, vm_13, vm_14, vm_15, vm_16, vm_17, vm_18, vm_19, vm_20, vm_21, vm_22, vm_23])), (hs, .inl (cI, 45, .inl f)), (tn, .inl (cI, 45, .inl g))]) [0, 1, 2] (by decide) rfl
      exact wt_lret hx hb hr hlocks hP9 hD9 hS ⟨g, rfl⟩ dX6_forgotten_51
    · skip
      obtain ⟨j_8, hj_8, hj_8b, rfl⟩ := wI_nat (a := 0) (b := 30) (by omega) (by omega) c_7
      refine lv_iload_n hx hb dX6_forgotten_25 rfl (lv_at hl 3 rfl) ?_
      refine lv_i2l hx hb dX6_forgotten_26 rfl ?_
      refine lv_lconst (v := 0) hx hb dX6_forgotten_27 (by decide) ?_
      refine lv_ldc2 hx hb hown wl274 dX6_forgotten_28 ?_
      refine wt_rS (As := [.long a3.toInt64, .long 0, .long 10]) (rest := []) ⟨hx, hb, hml, hown, hts⟩ (c_X6_in l D cI cZ cH a3.toInt64 0 10) (va_cwS 3 hts gX6_forgotten_X6_in rfl rfl rfl (by decide +kernel) ⟨Nat.le_of_ble_eq_true rfl, Nat.le_of_ble_eq_true rfl⟩) hK hP [] rfl rfl hl.1 rfl (Nat.le_of_ble_eq_true rfl) dX6_forgotten_31 ⟨Nat.le_of_ble_eq_true rfl, Nat.le_of_ble_eq_true rfl⟩ (fun r_9 e_10 => ?_)
      subst e_10
      refine wt_top (z := wI a3 0 10) (wL_I' (by decide) (by decide)) ?_
      refine lv_if_eq (tgt := 48) hx hb dX6_forgotten_34 (by decide) (fun c_11 => ?_) (fun c_11 => ?_)
      · skip
        refine lv_ldc2 hx hb hown wl276 dX6_forgotten_48 ?_
        have hP9 := hP.sub (ws' := [(md, .inr (6, [.int 0, vm_1, vm_2, vm_3, vm_4, .ref hs, vm_6, .ref tn, vm_8, vm_9, vm_10, vm_11, vm_12, vm_13, vm_14, vm_15, vm_16, vm_17, vm_18, vm_19, vm_20, vm_21, vm_22, vm_23])), (hs, .inl (cI, 45, .inl f)), (tn, .inl (cI, 45, .inl g))]) [0, 1, 2] rfl
        have hD9 := hD.sub (ws' := [(md, .inr (6, [.int 0, vm_1, vm_2, vm_3, vm_4, .ref hs, vm_6, .ref tn, vm_8, vm_9, vm_10, vm_11, vm_12, vm_13, vm_14, vm_15, vm_16, vm_17, vm_18, vm_19, vm_20, vm_21, vm_22, vm_23])), (hs, .inl (cI, 45, .inl f)), (tn, .inl (cI, 45, .inl g))]) [0, 1, 2] (by decide) rfl
        exact wt_lret hx hb hr hlocks hP9 hD9 hS ⟨g, rfl⟩ dX6_forgotten_51
      · skip
        obtain ⟨j_12, hj_12, hj_12b, rfl⟩ := wI_nat (a := 0) (b := 10) (by omega) (by omega) c_11
        refine lv_iload hx hb dX6_forgotten_37 (lv_at hl 4 rfl) ?_
        refine lv_i2l hx hb dX6_forgotten_39 rfl ?_
        refine lv_lconst (v := 0) hx hb dX6_forgotten_40 (by decide) ?_
        refine lv_lconst (v := 1) hx hb dX6_forgotten_41 (by decide) ?_
        refine wt_rS (As := [.long a4.toInt64, .long 0, .long 1]) (rest := []) ⟨hx, hb, hml, hown, hts⟩ (c_X6_in l D cI cZ cH a4.toInt64 0 1) (va_cwS 3 hts gX6_forgotten_X6_in rfl rfl rfl (by decide +kernel) ⟨Nat.le_of_ble_eq_true rfl, Nat.le_of_ble_eq_true rfl⟩) hK hP [] rfl rfl hl.1 rfl (Nat.le_of_ble_eq_true rfl) dX6_forgotten_42 ⟨Nat.le_of_ble_eq_true rfl, Nat.le_of_ble_eq_true rfl⟩ (fun r_13 e_14 => ?_)
        subst e_14
        refine wt_top (z := wI a4 0 1) (wL_I' (by decide) (by decide)) ?_
        refine lv_if_ne (tgt := 52) hx hb dX6_forgotten_45 (by decide) (fun c_15 => ?_) (fun c_15 => ?_)
        · skip
          obtain ⟨j_16, hj_16, hj_16b, rfl⟩ := wI_nat (a := 0) (b := 1) (by omega) (by omega) c_15
          refine lv_aload_n hx hb dX6_forgotten_52 rfl (lv_at hl 0 rfl) ?_
          refine wt_rV (As := []) (rest := []) ⟨hx, hb, hml, hown, hts⟩ (c_X6_inside l D cI cZ cH md hs R T f (.int 0) vm_1 vm_2 vm_3 vm_4 vm_6 (.ref tn) vm_8 vm_9 vm_10 vm_11 vm_12 vm_13 vm_14 vm_15 vm_16 vm_17 vm_18 vm_19 vm_20 vm_21 vm_22 vm_23 (by first | assumption | omega) (by first | assumption | omega) (by first | assumption | omega)) (cwV 0 hts gX6_forgotten_X6_inside rfl rfl rfl (by decide +kernel) ⟨Nat.le_of_ble_eq_true rfl, Nat.le_of_ble_eq_true rfl⟩) hK hP [0, 1] rfl (va_recv hK.1 hP (ci := 6) (q0 := 0) rfl rfl) rfl hl.1 rfl (Nat.le_of_ble_eq_true rfl) dX6_forgotten_53 ⟨Nat.le_of_ble_eq_true rfl, Nat.le_of_ble_eq_true rfl⟩ (fun r_17 e_18 => ?_)
          obtain ⟨b_19, e_18, rfl⟩ := e_18
          refine lv_istore (lv' := [(5, .int (nI b_19)), (0, .ref md), (1, .int (nI j_4)), (2, .int (nI j_8)), (3, .int (nI j_12)), (4, .int (nI j_16))]) hx hb dX6_forgotten_56 hl (by decide) rfl (fun ls hl => ?_)
          refine lv_lconst (v := 0) hx hb dX6_forgotten_58 (by decide) ?_
          refine lv_lstore (lv' := [(6, .long 0), (5, .int (nI b_19)), (0, .ref md), (1, .int (nI j_4)), (2, .int (nI j_8)), (3, .int (nI j_12)), (4, .int (nI j_16))]) hx hb dX6_forgotten_59 hl (by decide) rfl (fun ls hl => ?_)
          refine lv_lconst (v := 0) hx hb dX6_forgotten_61 (by decide) ?_
          refine lv_lstore (lv' := [(8, .long 0), (6, .long 0), (5, .int (nI b_19)), (0, .ref md), (1, .int (nI j_4)), (2, .int (nI j_8)), (3, .int (nI j_12)), (4, .int (nI j_16))]) hx hb dX6_forgotten_62 hl (by decide) rfl (fun ls hl => ?_)
          refine lv_iconst (v := 0) hx hb dX6_forgotten_64 (by decide) ?_
          refine lv_istore (lv' := [(10, .int 0), (8, .long 0), (6, .long 0), (5, .int (nI b_19)), (0, .ref md), (1, .int (nI j_4)), (2, .int (nI j_8)), (3, .int (nI j_12)), (4, .int (nI j_16))]) hx hb dX6_forgotten_65 hl (by decide) rfl (fun ls hl => ?_)
          have loop67 : ∀ (k i_20 : Nat) (g_21 : Nat → Int32) (n_22 : Nat) (n_23 : Nat) (H : Heap) (locs : List Loc) (ls : Array Slot), i_20 + k = b_19 + 1 → (n_23 ≤ fb i_20) → (n_22 ≤ fb i_20) → (0 < i_20 → 0 < j_12 → 0 < n_23) → (b_19 < i_20 → j_12 = 0 → 0 < n_23) → (n_22 = n_22) → (n_23 = n_23) → va_P D vwCl [(md, .inr (6, [.int 0, vm_1, vm_2, vm_3, vm_4, .ref hs, vm_6, .ref tn, vm_8, vm_9, vm_10, vm_11, vm_12, vm_13, vm_14, vm_15, vm_16, vm_17, vm_18, vm_19, vm_20, vm_21, vm_22, vm_23])), (hs, .inl (cI, 45, .inl f)), (tn, .inl (cI, 45, .inl g_21))] H → va_D A [(md, .inr (6, [.int 0, vm_1, vm_2, vm_3, vm_4, .ref hs, vm_6, .ref tn, vm_8, vm_9, vm_10, vm_11, vm_12, vm_13, vm_14, vm_15, vm_16, vm_17, vm_18, vm_19, vm_20, vm_21, vm_22, vm_23])), (hs, .inl (cI, 45, .inl f)), (tn, .inl (cI, 45, .inl g_21))] → va_S A s.heap H locs → lv_has ls 16 [(10, .int (nI i_20)), (8, .long (lN n_23)), (6, .long (lN n_22)), (5, .int (nI b_19)), (0, .ref md), (1, .int (nI j_4)), (2, .int (nI j_8)), (3, .int (nI j_12)), (4, .int (nI j_16))] → W p l e ({ frames := 5, cells := 0, slots := 0, locals := 113 } : Room) s m ([.ref md, .int (nI j_4), .int (nI j_8), .int (nI j_12), .int (nI j_16)] : List Value).toArray below meth c H locs 0 0 (MQ below (wt_QL D (fun r w => ∃ (g2 : Nat → Int32), w = [(md, .inr (6, [.int 0, vm_1, vm_2, vm_3, vm_4, .ref hs, vm_6, .ref tn, vm_8, vm_9, vm_10, vm_11, vm_12, vm_13, vm_14, vm_15, vm_16, vm_17, vm_18, vm_19, vm_20, vm_21, vm_22, vm_23])), (hs, .inl (cI, 45, .inl f)), (tn, .inl (cI, 45, .inl g2))]) A) ([.ref md, .int (nI j_4), .int (nI j_8), .int (nI j_12), .int (nI j_16)] : List Value).toArray s 0 0 A) (F0 m 67 ls []) := by
            intro k
            induction k with
            | zero =>
              intro i_20 g_21 n_22 n_23 H locs ls hik hfy hfx hfp hfz hl6 hl8 hP hD hS hl
              refine lv_iload hx hb dX6_forgotten_67 (lv_at hl 0 rfl) ?_
              refine lv_iload hx hb dX6_forgotten_69 (lv_at hl 3 rfl) ?_
              refine lv_icmp_gt (tgt := 196) hx hb dX6_forgotten_71 (by decide) (fun _ => ?_) (fun h => absurd (nI_lt (a := b_19) (b := i_20) (by omega) (by omega)) h)
              have hfy9 := fb_lt hfy (by omega)
              have hfx9 := fb_lt hfx (by omega)
              have hpos : 0 < n_23 := (Nat.eq_zero_or_pos j_12).elim (fun e => hfz (by omega) e) (fun e => hfp (by omega) e)
              refine lv_lload hx hb dX6_forgotten_196 (lv_at hl 2 rfl) ?_
              refine lv_lstore (lv' := [(10, .long (lN n_22)), (8, .long (lN n_23)), (6, .long (lN n_22)), (5, .int (nI b_19)), (0, .ref md), (1, .int (nI j_4)), (2, .int (nI j_8)), (3, .int (nI j_12)), (4, .int (nI j_16))]) hx hb dX6_forgotten_198 hl (by decide) rfl (fun ls hl => ?_)
              refine lv_lload hx hb dX6_forgotten_200 (lv_at hl 1 rfl) ?_
              refine lv_lstore (lv' := [(12, .long (lN n_23)), (10, .long (lN n_22)), (8, .long (lN n_23)), (6, .long (lN n_22)), (5, .int (nI b_19)), (0, .ref md), (1, .int (nI j_4)), (2, .int (nI j_8)), (3, .int (nI j_12)), (4, .int (nI j_16))]) hx hb dX6_forgotten_202 hl (by decide) rfl (fun ls hl => ?_)
              have loop204 : ∀ (k : Nat) (n_24 : Nat) (n_25 : Nat) (H : Heap) (locs : List Loc) (ls : Array Slot) (hg : 0 < n_24 ∨ 0 < n_25) (hgb : n_25 ≤ k) (hga : n_24 < 2147483648 ∧ n_25 < 2147483648), va_P D vwCl [(md, .inr (6, [.int 0, vm_1, vm_2, vm_3, vm_4, .ref hs, vm_6, .ref tn, vm_8, vm_9, vm_10, vm_11, vm_12, vm_13, vm_14, vm_15, vm_16, vm_17, vm_18, vm_19, vm_20, vm_21, vm_22, vm_23])), (hs, .inl (cI, 45, .inl f)), (tn, .inl (cI, 45, .inl g_21))] H → va_D A [(md, .inr (6, [.int 0, vm_1, vm_2, vm_3, vm_4, .ref hs, vm_6, .ref tn, vm_8, vm_9, vm_10, vm_11, vm_12, vm_13, vm_14, vm_15, vm_16, vm_17, vm_18, vm_19, vm_20, vm_21, vm_22, vm_23])), (hs, .inl (cI, 45, .inl f)), (tn, .inl (cI, 45, .inl g_21))] → va_S A s.heap H locs → lv_has ls 16 [(12, .long (lN n_25)), (10, .long (lN n_24)), (8, .long (lN n_23)), (6, .long (lN n_22)), (5, .int (nI b_19)), (0, .ref md), (1, .int (nI j_4)), (2, .int (nI j_8)), (3, .int (nI j_12)), (4, .int (nI j_16))] → W p l e ({ frames := 5, cells := 0, slots := 0, locals := 113 } : Room) s m ([.ref md, .int (nI j_4), .int (nI j_8), .int (nI j_12), .int (nI j_16)] : List Value).toArray below meth c H locs 0 0 (MQ below (wt_QL D (fun r w => ∃ (g2 : Nat → Int32), w = [(md, .inr (6, [.int 0, vm_1, vm_2, vm_3, vm_4, .ref hs, vm_6, .ref tn, vm_8, vm_9, vm_10, vm_11, vm_12, vm_13, vm_14, vm_15, vm_16, vm_17, vm_18, vm_19, vm_20, vm_21, vm_22, vm_23])), (hs, .inl (cI, 45, .inl f)), (tn, .inl (cI, 45, .inl g2))]) A) ([.ref md, .int (nI j_4), .int (nI j_8), .int (nI j_12), .int (nI j_16)] : List Value).toArray s 0 0 A) (F0 m 204 ls []) := by
                intro k
                induction k with
                | zero =>
                  intro n_24 n_25 H locs ls hg hgb hga hP hD hS hl
                  refine lv_lload hx hb dX6_forgotten_204 (lv_at hl 0 rfl) ?_
                  refine lv_lconst (v := 0) hx hb dX6_forgotten_206 (by decide) ?_
                  refine W.lcmp hx hb dX6_forgotten_207 ?_
                  refine lv_if_eq (tgt := 229) hx hb dX6_forgotten_208 (by decide) (fun _ => ?_) (fun h => absurd ((lg_cmp_eq _ _).mpr (wt_l0 (by omega))) h)
                  have hb0 : n_25 = 0 := by omega
                  refine lv_iload hx hb dX6_forgotten_229 (lv_at hl 9 rfl) ?_
                  refine lv_if_ne (tgt := 239) hx hb dX6_forgotten_231 (by decide) (fun c_26 => ?_) (fun c_26 => ?_)
                  · skip
                    have c_26 : ¬ (j_16 = 0) := fun h => c_26 ((nI_eq (a := j_16) (b := 0) (by omega) (by omega)).mpr h)
                    refine lv_lload hx hb dX6_forgotten_239 (lv_at hl 2 rfl) ?_
                    refine lv_lload hx hb dX6_forgotten_241 (lv_at hl 1 rfl) ?_
                    refine lv_ldiv hx hb dX6_forgotten_243 (wt_lne (by omega) (by omega)) ?_
                    refine lv_topl (fun ov_27 _ => ?_)
                    have hP9 := hP.sub (ws' := [(md, .inr (6, [.int 0, vm_1, vm_2, vm_3, vm_4, .ref hs, vm_6, .ref tn, vm_8, vm_9, vm_10, vm_11, vm_12, vm_13, vm_14, vm_15, vm_16, vm_17, vm_18, vm_19, vm_20, vm_21, vm_22, vm_23])), (hs, .inl (cI, 45, .inl f)), (tn, .inl (cI, 45, .inl g_21))]) [0, 1, 2] rfl
                    have hD9 := hD.sub (ws' := [(md, .inr (6, [.int 0, vm_1, vm_2, vm_3, vm_4, .ref hs, vm_6, .ref tn, vm_8, vm_9, vm_10, vm_11, vm_12, vm_13, vm_14, vm_15, vm_16, vm_17, vm_18, vm_19, vm_20, vm_21, vm_22, vm_23])), (hs, .inl (cI, 45, .inl f)), (tn, .inl (cI, 45, .inl g_21))]) [0, 1, 2] (by decide) rfl
                    exact wt_lret hx hb hr hlocks hP9 hD9 hS ⟨g_21, rfl⟩ dX6_forgotten_244
                  · skip
                    have c_26 : j_16 = 0 := (nI_eq (a := j_16) (b := 0) (by omega) (by omega)).mp c_26
                    refine lv_lload hx hb dX6_forgotten_234 (lv_at hl 3 rfl) ?_
                    refine lv_goto (tgt := 241) hx hb dX6_forgotten_236 (by decide) ?_
                    refine lv_lload hx hb dX6_forgotten_241 (lv_at hl 1 rfl) ?_
                    refine lv_ldiv hx hb dX6_forgotten_243 (wt_lne (by omega) (by omega)) ?_
                    refine lv_topl (fun ov_28 _ => ?_)
                    have hP9 := hP.sub (ws' := [(md, .inr (6, [.int 0, vm_1, vm_2, vm_3, vm_4, .ref hs, vm_6, .ref tn, vm_8, vm_9, vm_10, vm_11, vm_12, vm_13, vm_14, vm_15, vm_16, vm_17, vm_18, vm_19, vm_20, vm_21, vm_22, vm_23])), (hs, .inl (cI, 45, .inl f)), (tn, .inl (cI, 45, .inl g_21))]) [0, 1, 2] rfl
                    have hD9 := hD.sub (ws' := [(md, .inr (6, [.int 0, vm_1, vm_2, vm_3, vm_4, .ref hs, vm_6, .ref tn, vm_8, vm_9, vm_10, vm_11, vm_12, vm_13, vm_14, vm_15, vm_16, vm_17, vm_18, vm_19, vm_20, vm_21, vm_22, vm_23])), (hs, .inl (cI, 45, .inl f)), (tn, .inl (cI, 45, .inl g_21))]) [0, 1, 2] (by decide) rfl
                    exact wt_lret hx hb hr hlocks hP9 hD9 hS ⟨g_21, rfl⟩ dX6_forgotten_244
                | succ k ih204 =>
                  intro n_24 n_25 H locs ls hg hgb hga hP hD hS hl
                  refine lv_lload hx hb dX6_forgotten_204 (lv_at hl 0 rfl) ?_
                  refine lv_lconst (v := 0) hx hb dX6_forgotten_206 (by decide) ?_
                  refine W.lcmp hx hb dX6_forgotten_207 ?_
                  refine lv_if_eq (tgt := 229) hx hb dX6_forgotten_208 (by decide) (fun c_29 => ?_) (fun c_29 => ?_)
                  · skip
                    have hb0 : n_25 = 0 := wt_lz c_29 (by omega)
                    refine lv_iload hx hb dX6_forgotten_229 (lv_at hl 9 rfl) ?_
                    refine lv_if_ne (tgt := 239) hx hb dX6_forgotten_231 (by decide) (fun c_30 => ?_) (fun c_30 => ?_)
                    · skip
                      have c_30 : ¬ (j_16 = 0) := fun h => c_30 ((nI_eq (a := j_16) (b := 0) (by omega) (by omega)).mpr h)
                      refine lv_lload hx hb dX6_forgotten_239 (lv_at hl 2 rfl) ?_
                      refine lv_lload hx hb dX6_forgotten_241 (lv_at hl 1 rfl) ?_
                      refine lv_ldiv hx hb dX6_forgotten_243 (wt_lne (by omega) (by omega)) ?_
                      refine lv_topl (fun ov_31 _ => ?_)
                      have hP9 := hP.sub (ws' := [(md, .inr (6, [.int 0, vm_1, vm_2, vm_3, vm_4, .ref hs, vm_6, .ref tn, vm_8, vm_9, vm_10, vm_11, vm_12, vm_13, vm_14, vm_15, vm_16, vm_17, vm_18, vm_19, vm_20, vm_21, vm_22, vm_23])), (hs, .inl (cI, 45, .inl f)), (tn, .inl (cI, 45, .inl g_21))]) [0, 1, 2] rfl
                      have hD9 := hD.sub (ws' := [(md, .inr (6, [.int 0, vm_1, vm_2, vm_3, vm_4, .ref hs, vm_6, .ref tn, vm_8, vm_9, vm_10, vm_11, vm_12, vm_13, vm_14, vm_15, vm_16, vm_17, vm_18, vm_19, vm_20, vm_21, vm_22, vm_23])), (hs, .inl (cI, 45, .inl f)), (tn, .inl (cI, 45, .inl g_21))]) [0, 1, 2] (by decide) rfl
                      exact wt_lret hx hb hr hlocks hP9 hD9 hS ⟨g_21, rfl⟩ dX6_forgotten_244
                    · skip
                      have c_30 : j_16 = 0 := (nI_eq (a := j_16) (b := 0) (by omega) (by omega)).mp c_30
                      refine lv_lload hx hb dX6_forgotten_234 (lv_at hl 3 rfl) ?_
                      refine lv_goto (tgt := 241) hx hb dX6_forgotten_236 (by decide) ?_
                      refine lv_lload hx hb dX6_forgotten_241 (lv_at hl 1 rfl) ?_
                      refine lv_ldiv hx hb dX6_forgotten_243 (wt_lne (by omega) (by omega)) ?_
                      refine lv_topl (fun ov_32 _ => ?_)
                      have hP9 := hP.sub (ws' := [(md, .inr (6, [.int 0, vm_1, vm_2, vm_3, vm_4, .ref hs, vm_6, .ref tn, vm_8, vm_9, vm_10, vm_11, vm_12, vm_13, vm_14, vm_15, vm_16, vm_17, vm_18, vm_19, vm_20, vm_21, vm_22, vm_23])), (hs, .inl (cI, 45, .inl f)), (tn, .inl (cI, 45, .inl g_21))]) [0, 1, 2] rfl
                      have hD9 := hD.sub (ws' := [(md, .inr (6, [.int 0, vm_1, vm_2, vm_3, vm_4, .ref hs, vm_6, .ref tn, vm_8, vm_9, vm_10, vm_11, vm_12, vm_13, vm_14, vm_15, vm_16, vm_17, vm_18, vm_19, vm_20, vm_21, vm_22, vm_23])), (hs, .inl (cI, 45, .inl f)), (tn, .inl (cI, 45, .inl g_21))]) [0, 1, 2] (by decide) rfl
                      exact wt_lret hx hb hr hlocks hP9 hD9 hS ⟨g_21, rfl⟩ dX6_forgotten_244
                  · skip
                    have hb1 : 0 < n_25 := wt_lpos c_29 (by omega)
                    refine lv_lload hx hb dX6_forgotten_211 (lv_at hl 1 rfl) ?_
                    refine lv_lload hx hb dX6_forgotten_213 (lv_at hl 0 rfl) ?_
                    refine lv_lrem hx hb dX6_forgotten_215 (wt_lne (by omega) (by omega)) ?_
                    obtain ⟨v_33, hv_33, ev_33⟩ : ∃ v : Nat, v < n_25 ∧ n_24 % n_25 = v := ⟨_, Nat.mod_lt _ (by omega), rfl⟩
                    refine wt_topl (z := lN v_33) (by rw [← ev_33]; exact pk_lRem (a := n_24) (b := n_25) (by omega) (by omega) (by omega)) ?_
                    refine lv_lstore (lv' := [(14, .long (lN v_33)), (12, .long (lN n_25)), (10, .long (lN n_24)), (8, .long (lN n_23)), (6, .long (lN n_22)), (5, .int (nI b_19)), (0, .ref md), (1, .int (nI j_4)), (2, .int (nI j_8)), (3, .int (nI j_12)), (4, .int (nI j_16))]) hx hb dX6_forgotten_216 hl (by decide) rfl (fun ls hl => ?_)
                    refine lv_lload hx hb dX6_forgotten_218 (lv_at hl 1 rfl) ?_
                    refine lv_lstore (lv' := [(10, .long (lN n_25)), (14, .long (lN v_33)), (12, .long (lN n_25)), (8, .long (lN n_23)), (6, .long (lN n_22)), (5, .int (nI b_19)), (0, .ref md), (1, .int (nI j_4)), (2, .int (nI j_8)), (3, .int (nI j_12)), (4, .int (nI j_16))]) hx hb dX6_forgotten_220 hl (by decide) rfl (fun ls hl => ?_)
                    refine lv_lload hx hb dX6_forgotten_222 (lv_at hl 1 rfl) ?_
                    refine lv_lstore (lv' := [(12, .long (lN v_33)), (10, .long (lN n_25)), (14, .long (lN v_33)), (8, .long (lN n_23)), (6, .long (lN n_22)), (5, .int (nI b_19)), (0, .ref md), (1, .int (nI j_4)), (2, .int (nI j_8)), (3, .int (nI j_12)), (4, .int (nI j_16))]) hx hb dX6_forgotten_224 hl (by decide) rfl (fun ls hl => ?_)
                    refine lv_goto (tgt := 204) hx hb dX6_forgotten_226 (by decide) ?_
                    exact ih204 n_25 v_33 H locs ls (Or.inl (by omega)) (by omega) (by omega) (hP.sub [0, 1, 2] rfl) (hD.sub [0, 1, 2] (by decide) rfl) hS (lv_sub hl [0, 1, 3, 4, 5, 6, 7, 8, 9, 10] rfl)
              exact loop204 n_23 n_22 n_23 _ _ ls (Or.inr (by omega)) (Nat.le_refl _) (by omega) hP hD hS hl
            | succ k ih67 =>
              intro i_20 g_21 n_22 n_23 H locs ls hik hfy hfx hfp hfz hl6 hl8 hP hD hS hl
              refine lv_iload hx hb dX6_forgotten_67 (lv_at hl 0 rfl) ?_
              refine lv_iload hx hb dX6_forgotten_69 (lv_at hl 3 rfl) ?_
              refine lv_icmp_gt (tgt := 196) hx hb dX6_forgotten_71 (by decide) (fun h => absurd h (nI_nlt (a := b_19) (b := i_20) (by omega) (by omega))) (fun _ => ?_)
              refine lv_iload hx hb dX6_forgotten_74 (lv_at hl 0 rfl) ?_
              refine lv_iload hx hb dX6_forgotten_76 (lv_at hl 3 rfl) ?_
              refine lv_iconst (v := (-1)) hx hb dX6_forgotten_78 (by decide) ?_
              refine lv_ixor hx hb dX6_forgotten_79 ?_
              refine lv_iand hx hb dX6_forgotten_80 ?_
              refine lv_if_ne (tgt := 190) hx hb dX6_forgotten_81 (by decide) (fun c_34 => ?_) (fun c_34 => ?_)
              · skip
                refine lv_iinc (v := nI (i_20 + 1)) (lv' := [(10, .int (nI (i_20 + 1))), (8, .long (lN n_23)), (6, .long (lN n_22)), (5, .int (nI b_19)), (0, .ref md), (1, .int (nI j_4)), (2, .int (nI j_8)), (3, .int (nI j_12)), (4, .int (nI j_16))]) hx hb dX6_forgotten_190 hl (k := 0) rfl (nI_add i_20 1) (by decide) rfl (fun ls hl => ?_)
                refine lv_goto (tgt := 67) hx hb dX6_forgotten_193 (by decide) ?_
                exact ih67 ((i_20 + 1)) g_21 n_22 n_23 H locs ls (by omega) (fb_up hfy) (fb_up hfx) (fun h1 h2 => (Nat.eq_zero_or_pos i_20).elim (fun e => absurd (by rw [e]; exact wt_and0 _) c_34) (fun e => hfp e h2)) (fun h1 h2 => (Nat.lt_or_ge b_19 i_20).elim (fun e => hfz e h2) (fun e => absurd (by rw [show i_20 = b_19 by omega]; exact wt_andn _) c_34)) rfl rfl hP hD hS (lv_sub hl [0, 1, 2, 3, 4, 5, 6, 7, 8] rfl)
              · skip
                refine lv_lconst (v := 1) hx hb dX6_forgotten_84 (by decide) ?_
                refine lv_lstore (lv' := [(11, .long 1), (10, .int (nI i_20)), (8, .long (lN n_23)), (6, .long (lN n_22)), (5, .int (nI b_19)), (0, .ref md), (1, .int (nI j_4)), (2, .int (nI j_8)), (3, .int (nI j_12)), (4, .int (nI j_16))]) hx hb dX6_forgotten_85 hl (by decide) rfl (fun ls hl => ?_)
                refine lv_iconst (v := 0) hx hb dX6_forgotten_87 (by decide) ?_
                refine lv_istore (lv' := [(13, .int 0), (11, .long 1), (10, .int (nI i_20)), (8, .long (lN n_23)), (6, .long (lN n_22)), (5, .int (nI b_19)), (0, .ref md), (1, .int (nI j_4)), (2, .int (nI j_8)), (3, .int (nI j_12)), (4, .int (nI j_16))]) hx hb dX6_forgotten_88 hl (by decide) rfl (fun ls hl => ?_)
                have loop90 : ∀ (k i_35 : Nat) (n_36 : Nat) (H : Heap) (locs : List Loc) (ls : Array Slot), i_35 + k = T → (n_36 ≤ 10 ^ i_35) → (i_20 = 0 → 0 < j_12 → 0 < n_36) → (i_20 = b_19 → j_12 = 0 → 0 < n_36) → (n_36 = n_36) → va_P D vwCl [(md, .inr (6, [.int 0, vm_1, vm_2, vm_3, vm_4, .ref hs, vm_6, .ref tn, vm_8, vm_9, vm_10, vm_11, vm_12, vm_13, vm_14, vm_15, vm_16, vm_17, vm_18, vm_19, vm_20, vm_21, vm_22, vm_23])), (hs, .inl (cI, 45, .inl f)), (tn, .inl (cI, 45, .inl g_21))] H → va_D A [(md, .inr (6, [.int 0, vm_1, vm_2, vm_3, vm_4, .ref hs, vm_6, .ref tn, vm_8, vm_9, vm_10, vm_11, vm_12, vm_13, vm_14, vm_15, vm_16, vm_17, vm_18, vm_19, vm_20, vm_21, vm_22, vm_23])), (hs, .inl (cI, 45, .inl f)), (tn, .inl (cI, 45, .inl g_21))] → va_S A s.heap H locs → lv_has ls 16 [(13, .int (nI i_35)), (11, .long (lN n_36)), (10, .int (nI i_20)), (8, .long (lN n_23)), (6, .long (lN n_22)), (5, .int (nI b_19)), (0, .ref md), (1, .int (nI j_4)), (2, .int (nI j_8)), (3, .int (nI j_12)), (4, .int (nI j_16))] → W p l e ({ frames := 5, cells := 0, slots := 0, locals := 113 } : Room) s m ([.ref md, .int (nI j_4), .int (nI j_8), .int (nI j_12), .int (nI j_16)] : List Value).toArray below meth c H locs 0 0 (MQ below (wt_QL D (fun r w => ∃ (g2 : Nat → Int32), w = [(md, .inr (6, [.int 0, vm_1, vm_2, vm_3, vm_4, .ref hs, vm_6, .ref tn, vm_8, vm_9, vm_10, vm_11, vm_12, vm_13, vm_14, vm_15, vm_16, vm_17, vm_18, vm_19, vm_20, vm_21, vm_22, vm_23])), (hs, .inl (cI, 45, .inl f)), (tn, .inl (cI, 45, .inl g2))]) A) ([.ref md, .int (nI j_4), .int (nI j_8), .int (nI j_12), .int (nI j_16)] : List Value).toArray s 0 0 A) (F0 m 90 ls []) := by
                  intro k
                  induction k with
                  | zero =>
                    intro i_35 n_36 H locs ls hik hwA hwB hwC hl11 hP hD hS hl
                    refine lv_iload hx hb dX6_forgotten_90 (lv_at hl 0 rfl) ?_
                    refine lv_aload_n hx hb dX6_forgotten_92 rfl (lv_at hl 6 rfl) ?_
                    refine va_get (D := D) (ci := 6) (v := .ref hs) (C := RX6) (T := TX6) (N := 24) hx hb hts hi6 hown hK.1 hP 0 rfl rfl 5 (by decide) wf19 (fun _ h9 => h9) rfl dX6_forgotten_93 ?_
                    refine lv_iconst (v := 1) hx hb dX6_forgotten_96 (by decide) ?_
                    refine va_iald hx hb hK.1 hP 1 0 rfl rfl (by rw [vp_in_iff]; decide) dX6_forgotten_97 ?_
                    refine wt_top (z := nI T) (hrk.2.1) ?_
                    refine lv_icmp_ge (tgt := 147) hx hb dX6_forgotten_98 (by decide) (fun _ => ?_) (fun h => absurd (nI_le (a := T) (b := i_35) (by omega) (by omega)) h)
                    have hw6 := wt_p6 hwA (by omega)
                    refine lv_aload_n hx hb dX6_forgotten_147 rfl (lv_at hl 6 rfl) ?_
                    refine lv_iload hx hb dX6_forgotten_148 (lv_at hl 2 rfl) ?_
                    refine wt_goV (wr := []) (wt_runV (As := [.int (nI i_20)]) (rest := []) ⟨hx, hb, hml, hown, hts⟩ (c_X6_layOut l D cI cZ cH md hs R T f tn g_21 (nI i_20) (.int 0) vm_1 vm_2 vm_3 vm_4 vm_6 vm_8 vm_9 vm_10 vm_11 vm_12 vm_13 vm_14 vm_15 vm_16 vm_17 vm_18 vm_19 vm_20 vm_21 vm_22 vm_23 (by first | assumption | omega) (by first | assumption | omega) (by first | assumption | omega)) (cwV 1 hts gX6_forgotten_X6_layOut rfl rfl rfl (by decide +kernel) ⟨Nat.le_of_ble_eq_true rfl, Nat.le_of_ble_eq_true rfl⟩) hK hP hD [0, 1, 2] rfl (by decide) (va_recv hK.1 hP (ci := 6) (q0 := 0) rfl rfl) rfl hl.1 rfl (Nat.le_of_ble_eq_true rfl) dX6_forgotten_150 ⟨Nat.le_of_ble_eq_true rfl, Nat.le_of_ble_eq_true rfl⟩) hP hD hS hA [0, 1, 2] [] rfl rfl (by decide) (by decide) (fun w_38 H locs h_39 hP hD hS => ?_)
                    obtain ⟨g2_40, rfl, x_41⟩ := h_39
                    have hP : va_P D vwCl [(md, .inr (6, [.int 0, vm_1, vm_2, vm_3, vm_4, .ref hs, vm_6, .ref tn, vm_8, vm_9, vm_10, vm_11, vm_12, vm_13, vm_14, vm_15, vm_16, vm_17, vm_18, vm_19, vm_20, vm_21, vm_22, vm_23])), (hs, .inl (cI, 45, .inl f)), (tn, .inl (cI, 45, .inl g2_40))] H := hP
                    have hD : va_D A [(md, .inr (6, [.int 0, vm_1, vm_2, vm_3, vm_4, .ref hs, vm_6, .ref tn, vm_8, vm_9, vm_10, vm_11, vm_12, vm_13, vm_14, vm_15, vm_16, vm_17, vm_18, vm_19, vm_20, vm_21, vm_22, vm_23])), (hs, .inl (cI, 45, .inl f)), (tn, .inl (cI, 45, .inl g2_40))] := hD
                    refine lv_aload_n hx hb dX6_forgotten_153 rfl (lv_at hl 6 rfl) ?_
                    refine va_get (D := D) (ci := 6) (v := .ref tn) (C := RX6) (T := TX6) (N := 24) hx hb hts hi6 hown hK.1 hP 0 rfl rfl 7 (by decide) wf25 (fun _ h9 => h9) rfl dX6_forgotten_154 ?_
                    refine lv_iload_n hx hb dX6_forgotten_157 rfl (lv_at hl 8 rfl) ?_
                    refine wt_goV (wr := [(md, .inr (6, [.int 0, vm_1, vm_2, vm_3, vm_4, .ref hs, vm_6, .ref tn, vm_8, vm_9, vm_10, vm_11, vm_12, vm_13, vm_14, vm_15, vm_16, vm_17, vm_18, vm_19, vm_20, vm_21, vm_22, vm_23])), (hs, .inl (cI, 45, .inl f))]) (wt_runS (As := [.ref tn, .int (nI j_8)]) (rest := []) ⟨hx, hb, hml, hown, hts⟩ (c_X6_minutesOf l D cI cZ cH tn R T g2_40 j_8 (by first | assumption | omega) (by first | assumption | omega) (by first | assumption | omega) (by first | assumption | omega)) (va_cwS 2 hts gX6_forgotten_X6_minutesOf rfl rfl rfl (by decide +kernel) ⟨Nat.le_of_ble_eq_true rfl, Nat.le_of_ble_eq_true rfl⟩) hK hP hD [2] rfl (by decide) rfl hl.1 rfl (Nat.le_of_ble_eq_true rfl) dX6_forgotten_158 ⟨Nat.le_of_ble_eq_true rfl, Nat.le_of_ble_eq_true rfl⟩) hP hD hS hA [2] [0, 1] rfl rfl (by decide) (by decide) (fun w_43 H locs h_44 hP hD hS => ?_)
                    obtain ⟨f2_45, rfl, x_46⟩ := h_44
                    have hP : va_P D vwCl [(md, .inr (6, [.int 0, vm_1, vm_2, vm_3, vm_4, .ref hs, vm_6, .ref tn, vm_8, vm_9, vm_10, vm_11, vm_12, vm_13, vm_14, vm_15, vm_16, vm_17, vm_18, vm_19, vm_20, vm_21, vm_22, vm_23])), (hs, .inl (cI, 45, .inl f)), (tn, .inl (cI, 45, .inl f2_45))] H := hP
                    have hD : va_D A [(md, .inr (6, [.int 0, vm_1, vm_2, vm_3, vm_4, .ref hs, vm_6, .ref tn, vm_8, vm_9, vm_10, vm_11, vm_12, vm_13, vm_14, vm_15, vm_16, vm_17, vm_18, vm_19, vm_20, vm_21, vm_22, vm_23])), (hs, .inl (cI, 45, .inl f)), (tn, .inl (cI, 45, .inl f2_45))] := hD
                    refine lv_lload hx hb dX6_forgotten_161 (lv_at hl 3 rfl) ?_
                    refine lv_lload hx hb dX6_forgotten_163 (lv_at hl 1 rfl) ?_
                    refine lv_ladd hx hb dX6_forgotten_165 ?_
                    refine wt_topl (z := lN (n_23 + n_36)) (lN_add n_23 n_36) ?_
                    refine lv_lstore (lv' := [(8, .long (lN (n_23 + n_36))), (13, .int (nI i_35)), (11, .long (lN n_36)), (10, .int (nI i_20)), (6, .long (lN n_22)), (5, .int (nI b_19)), (0, .ref md), (1, .int (nI j_4)), (2, .int (nI j_8)), (3, .int (nI j_12)), (4, .int (nI j_16))]) hx hb dX6_forgotten_166 hl (by decide) rfl (fun ls hl => ?_)
                    refine lv_lload hx hb dX6_forgotten_168 (lv_at hl 4 rfl) ?_
                    refine lv_aload_n hx hb dX6_forgotten_170 rfl (lv_at hl 6 rfl) ?_
                    refine va_get (D := D) (ci := 6) (v := .ref tn) (C := RX6) (T := TX6) (N := 24) hx hb hts hi6 hown hK.1 hP 0 rfl rfl 7 (by decide) wf25 (fun _ h9 => h9) rfl dX6_forgotten_171 ?_
                    refine lv_iload_n hx hb dX6_forgotten_174 rfl (lv_at hl 7 rfl) ?_
                    refine wt_rS (As := [.ref tn, .int (nI j_4)]) (rest := [.long (lN n_22)]) ⟨hx, hb, hml, hown, hts⟩ (c_X6_isCold l D cI cZ cH tn R T f2_45 j_4 (by first | assumption | omega) (by first | assumption | omega) (by first | assumption | omega) (by first | assumption | omega)) (va_cwS 2 hts gX6_forgotten_X6_isCold rfl rfl rfl (by decide +kernel) ⟨Nat.le_of_ble_eq_true rfl, Nat.le_of_ble_eq_true rfl⟩) hK hP [2] rfl rfl hl.1 rfl (Nat.le_of_ble_eq_true rfl) dX6_forgotten_175 ⟨Nat.le_of_ble_eq_true rfl, Nat.le_of_ble_eq_true rfl⟩ (fun r_47 e_48 => ?_)
                    refine lv_if_eq (tgt := 185) hx hb dX6_forgotten_178 (by decide) (fun c_49 => ?_) (fun c_49 => ?_)
                    · skip
                      refine lv_lload hx hb dX6_forgotten_185 (lv_at hl 2 rfl) ?_
                      refine lv_ladd hx hb dX6_forgotten_187 ?_
                      refine wt_topl (z := lN (n_22 + n_36)) (lN_add n_22 n_36) ?_
                      refine lv_lstore (lv' := [(6, .long (lN (n_22 + n_36))), (8, .long (lN (n_23 + n_36))), (13, .int (nI i_35)), (11, .long (lN n_36)), (10, .int (nI i_20)), (5, .int (nI b_19)), (0, .ref md), (1, .int (nI j_4)), (2, .int (nI j_8)), (3, .int (nI j_12)), (4, .int (nI j_16))]) hx hb dX6_forgotten_188 hl (by decide) rfl (fun ls hl => ?_)
                      refine lv_iinc (v := nI (i_20 + 1)) (lv' := [(10, .int (nI (i_20 + 1))), (6, .long (lN (n_22 + n_36))), (8, .long (lN (n_23 + n_36))), (13, .int (nI i_35)), (11, .long (lN n_36)), (5, .int (nI b_19)), (0, .ref md), (1, .int (nI j_4)), (2, .int (nI j_8)), (3, .int (nI j_12)), (4, .int (nI j_16))]) hx hb dX6_forgotten_190 hl (k := 4) rfl (nI_add i_20 1) (by decide) rfl (fun ls hl => ?_)
                      refine lv_goto (tgt := 67) hx hb dX6_forgotten_193 (by decide) ?_
                      exact ih67 ((i_20 + 1)) f2_45 (n_22 + n_36) (n_23 + n_36) H locs ls (by omega) (fb_s hfy hw6) (by first | exact fb_s hfx hw6 | exact fb_s hfx (Nat.zero_le _)) (fun h1 h2 => (Nat.eq_zero_or_pos i_20).elim (fun e => by have := hwB e h2; omega) (fun e => by have := hfp e h2; omega)) (fun h1 h2 => (Nat.lt_or_ge b_19 i_20).elim (fun e => by have := hfz e h2; omega) (fun e => by have := hwC (by omega) h2; omega)) rfl rfl hP hD hS (lv_sub hl [0, 2, 1, 5, 6, 7, 8, 9, 10] rfl)
                    · skip
                      refine lv_lconst (v := 0) hx hb dX6_forgotten_181 (by decide) ?_
                      refine lv_goto (tgt := 187) hx hb dX6_forgotten_182 (by decide) ?_
                      refine lv_ladd hx hb dX6_forgotten_187 ?_
                      refine wt_topl (z := lN (n_22 + 0)) (lN_add n_22 0) ?_
                      refine lv_lstore (lv' := [(6, .long (lN (n_22 + 0))), (8, .long (lN (n_23 + n_36))), (13, .int (nI i_35)), (11, .long (lN n_36)), (10, .int (nI i_20)), (5, .int (nI b_19)), (0, .ref md), (1, .int (nI j_4)), (2, .int (nI j_8)), (3, .int (nI j_12)), (4, .int (nI j_16))]) hx hb dX6_forgotten_188 hl (by decide) rfl (fun ls hl => ?_)
                      refine lv_iinc (v := nI (i_20 + 1)) (lv' := [(10, .int (nI (i_20 + 1))), (6, .long (lN (n_22 + 0))), (8, .long (lN (n_23 + n_36))), (13, .int (nI i_35)), (11, .long (lN n_36)), (5, .int (nI b_19)), (0, .ref md), (1, .int (nI j_4)), (2, .int (nI j_8)), (3, .int (nI j_12)), (4, .int (nI j_16))]) hx hb dX6_forgotten_190 hl (k := 4) rfl (nI_add i_20 1) (by decide) rfl (fun ls hl => ?_)
                      refine lv_goto (tgt := 67) hx hb dX6_forgotten_193 (by decide) ?_
                      exact ih67 ((i_20 + 1)) f2_45 (n_22 + 0) (n_23 + n_36) H locs ls (by omega) (fb_s hfy hw6) (by first | exact fb_s hfx hw6 | exact fb_s hfx (Nat.zero_le _)) (fun h1 h2 => (Nat.eq_zero_or_pos i_20).elim (fun e => by have := hwB e h2; omega) (fun e => by have := hfp e h2; omega)) (fun h1 h2 => (Nat.lt_or_ge b_19 i_20).elim (fun e => by have := hfz e h2; omega) (fun e => by have := hwC (by omega) h2; omega)) rfl rfl hP hD hS (lv_sub hl [0, 2, 1, 5, 6, 7, 8, 9, 10] rfl)
                  | succ k ih90 =>
                    intro i_35 n_36 H locs ls hik hwA hwB hwC hl11 hP hD hS hl
                    refine lv_iload hx hb dX6_forgotten_90 (lv_at hl 0 rfl) ?_
                    refine lv_aload_n hx hb dX6_forgotten_92 rfl (lv_at hl 6 rfl) ?_
                    refine va_get (D := D) (ci := 6) (v := .ref hs) (C := RX6) (T := TX6) (N := 24) hx hb hts hi6 hown hK.1 hP 0 rfl rfl 5 (by decide) wf19 (fun _ h9 => h9) rfl dX6_forgotten_93 ?_
                    refine lv_iconst (v := 1) hx hb dX6_forgotten_96 (by decide) ?_
                    refine va_iald hx hb hK.1 hP 1 0 rfl rfl (by rw [vp_in_iff]; decide) dX6_forgotten_97 ?_
                    refine wt_top (z := nI T) (hrk.2.1) ?_
                    refine lv_icmp_ge (tgt := 147) hx hb dX6_forgotten_98 (by decide) (fun h => absurd h (nI_ge (a := i_35) (b := T) (by omega) (by omega))) (fun _ => ?_)
                    refine lv_lload hx hb dX6_forgotten_101 (lv_at hl 1 rfl) ?_
                    refine lv_iload hx hb dX6_forgotten_103 (lv_at hl 5 rfl) ?_
                    refine lv_iload hx hb dX6_forgotten_105 (lv_at hl 0 rfl) ?_
                    refine wt_rS (As := [.int (nI b_19), .int (nI i_35)]) (rest := [.long (lN n_36)]) ⟨hx, hb, hml, hown, hts⟩ (c_X6_has_x l D cI cZ cH (nI b_19) (nI i_35)) (va_cwS 2 hts gX6_forgotten_X6_has rfl rfl rfl (by decide +kernel) ⟨Nat.le_of_ble_eq_true rfl, Nat.le_of_ble_eq_true rfl⟩) hK hP [] rfl rfl hl.1 rfl (Nat.le_of_ble_eq_true rfl) dX6_forgotten_107 ⟨Nat.le_of_ble_eq_true rfl, Nat.le_of_ble_eq_true rfl⟩ (fun r_50 e_51 => ?_)
                    subst e_51
                    refine lv_if_ne (tgt := 117) hx hb dX6_forgotten_110 (by decide) (fun c_52 => ?_) (fun c_52 => ?_)
                    · skip
                      refine lv_iload hx hb dX6_forgotten_117 (lv_at hl 2 rfl) ?_
                      refine lv_iload hx hb dX6_forgotten_119 (lv_at hl 0 rfl) ?_
                      refine wt_rS (As := [.int (nI i_20), .int (nI i_35)]) (rest := [.long (lN n_36)]) ⟨hx, hb, hml, hown, hts⟩ (c_X6_has_x l D cI cZ cH (nI i_20) (nI i_35)) (va_cwS 2 hts gX6_forgotten_X6_has rfl rfl rfl (by decide +kernel) ⟨Nat.le_of_ble_eq_true rfl, Nat.le_of_ble_eq_true rfl⟩) hK hP [] rfl rfl hl.1 rfl (Nat.le_of_ble_eq_true rfl) dX6_forgotten_121 ⟨Nat.le_of_ble_eq_true rfl, Nat.le_of_ble_eq_true rfl⟩ (fun r_53 e_54 => ?_)
                      subst e_54
                      refine lv_if_eq (tgt := 136) hx hb dX6_forgotten_124 (by decide) (fun c_55 => ?_) (fun c_55 => ?_)
                      · skip
                        refine lv_iload_n hx hb dX6_forgotten_136 rfl (lv_at hl 9 rfl) ?_
                        refine lv_i2l hx hb dX6_forgotten_137 rfl ?_
                        refine wt_topl (z := lN j_12) (nI_l (by omega)) ?_
                        refine lv_lmul hx hb dX6_forgotten_138 ?_
                        refine wt_topl (z := lN (n_36 * j_12)) (lN_mul n_36 j_12) ?_
                        refine lv_lstore (lv' := [(11, .long (lN (n_36 * j_12))), (13, .int (nI i_35)), (10, .int (nI i_20)), (8, .long (lN n_23)), (6, .long (lN n_22)), (5, .int (nI b_19)), (0, .ref md), (1, .int (nI j_4)), (2, .int (nI j_8)), (3, .int (nI j_12)), (4, .int (nI j_16))]) hx hb dX6_forgotten_139 hl (by decide) rfl (fun ls hl => ?_)
                        refine lv_iinc (v := nI (i_35 + 1)) (lv' := [(13, .int (nI (i_35 + 1))), (11, .long (lN (n_36 * j_12))), (10, .int (nI i_20)), (8, .long (lN n_23)), (6, .long (lN n_22)), (5, .int (nI b_19)), (0, .ref md), (1, .int (nI j_4)), (2, .int (nI j_8)), (3, .int (nI j_12)), (4, .int (nI j_16))]) hx hb dX6_forgotten_141 hl (k := 1) rfl (nI_add i_35 1) (by decide) rfl (fun ls hl => ?_)
                        refine lv_goto (tgt := 90) hx hb dX6_forgotten_144 (by decide) ?_
                        exact ih90 ((i_35 + 1)) (n_36 * j_12) H locs ls (by omega) (wt_p10 hwA (by omega)) (fun h1 h2 => Nat.mul_pos (hwB h1 h2) (by first | omega | (exfalso; subst h1; exact c_55 (hB_0 _)))) (fun h1 h2 => Nat.mul_pos (hwC h1 h2) (by first | omega | (exfalso; subst h1; exact c_52 c_55))) rfl hP hD hS (lv_sub hl [0, 1, 2, 3, 4, 5, 6, 7, 8, 9, 10] rfl)
                      · skip
                        refine lv_ldc2 hx hb hown wl274 dX6_forgotten_127 ?_
                        refine lv_iload_n hx hb dX6_forgotten_130 rfl (lv_at hl 9 rfl) ?_
                        refine lv_i2l hx hb dX6_forgotten_131 rfl ?_
                        refine wt_topl (z := lN j_12) (nI_l (by omega)) ?_
                        refine lv_lsub hx hb dX6_forgotten_132 ?_
                        refine wt_topl (z := lN (10 - j_12)) (wt_lsub (a := 10) (b := j_12) (by omega) (by omega)) ?_
                        refine lv_goto (tgt := 138) hx hb dX6_forgotten_133 (by decide) ?_
                        refine lv_lmul hx hb dX6_forgotten_138 ?_
                        refine wt_topl (z := lN (n_36 * (10 - j_12))) (lN_mul n_36 (10 - j_12)) ?_
                        refine lv_lstore (lv' := [(11, .long (lN (n_36 * (10 - j_12)))), (13, .int (nI i_35)), (10, .int (nI i_20)), (8, .long (lN n_23)), (6, .long (lN n_22)), (5, .int (nI b_19)), (0, .ref md), (1, .int (nI j_4)), (2, .int (nI j_8)), (3, .int (nI j_12)), (4, .int (nI j_16))]) hx hb dX6_forgotten_139 hl (by decide) rfl (fun ls hl => ?_)
                        refine lv_iinc (v := nI (i_35 + 1)) (lv' := [(13, .int (nI (i_35 + 1))), (11, .long (lN (n_36 * (10 - j_12)))), (10, .int (nI i_20)), (8, .long (lN n_23)), (6, .long (lN n_22)), (5, .int (nI b_19)), (0, .ref md), (1, .int (nI j_4)), (2, .int (nI j_8)), (3, .int (nI j_12)), (4, .int (nI j_16))]) hx hb dX6_forgotten_141 hl (k := 1) rfl (nI_add i_35 1) (by decide) rfl (fun ls hl => ?_)
                        refine lv_goto (tgt := 90) hx hb dX6_forgotten_144 (by decide) ?_
                        exact ih90 ((i_35 + 1)) (n_36 * (10 - j_12)) H locs ls (by omega) (wt_p10 hwA (by omega)) (fun h1 h2 => Nat.mul_pos (hwB h1 h2) (by first | omega | (exfalso; subst h1; exact c_55 (hB_0 _)))) (fun h1 h2 => Nat.mul_pos (hwC h1 h2) (by first | omega | (exfalso; subst h1; exact c_52 c_55))) rfl hP hD hS (lv_sub hl [0, 1, 2, 3, 4, 5, 6, 7, 8, 9, 10] rfl)
                    · skip
                      refine lv_lconst (v := 1) hx hb dX6_forgotten_113 (by decide) ?_
                      refine lv_goto (tgt := 138) hx hb dX6_forgotten_114 (by decide) ?_
                      refine lv_lmul hx hb dX6_forgotten_138 ?_
                      refine wt_topl (z := lN (n_36 * 1)) (lN_mul n_36 1) ?_
                      refine lv_lstore (lv' := [(11, .long (lN (n_36 * 1))), (13, .int (nI i_35)), (10, .int (nI i_20)), (8, .long (lN n_23)), (6, .long (lN n_22)), (5, .int (nI b_19)), (0, .ref md), (1, .int (nI j_4)), (2, .int (nI j_8)), (3, .int (nI j_12)), (4, .int (nI j_16))]) hx hb dX6_forgotten_139 hl (by decide) rfl (fun ls hl => ?_)
                      refine lv_iinc (v := nI (i_35 + 1)) (lv' := [(13, .int (nI (i_35 + 1))), (11, .long (lN (n_36 * 1))), (10, .int (nI i_20)), (8, .long (lN n_23)), (6, .long (lN n_22)), (5, .int (nI b_19)), (0, .ref md), (1, .int (nI j_4)), (2, .int (nI j_8)), (3, .int (nI j_12)), (4, .int (nI j_16))]) hx hb dX6_forgotten_141 hl (k := 1) rfl (nI_add i_35 1) (by decide) rfl (fun ls hl => ?_)
                      refine lv_goto (tgt := 90) hx hb dX6_forgotten_144 (by decide) ?_
                      exact ih90 ((i_35 + 1)) (n_36 * 1) H locs ls (by omega) (wt_p10 hwA (by omega)) (fun h1 h2 => Nat.mul_pos (hwB h1 h2) (by first | omega | (exfalso; subst h1; exact c_52 (hB_0 _)))) (fun h1 h2 => Nat.mul_pos (hwC h1 h2) (by first | omega | (exfalso; subst h1; exact c_52 c_52))) rfl hP hD hS (lv_sub hl [0, 1, 2, 3, 4, 5, 6, 7, 8, 9, 10] rfl)
                exact loop90 (T - 0) (0) 1 _ _ ls (by omega) (by decide) (fun _ _ => by omega) (fun _ _ => by omega) (by omega) hP hD hS hl
          exact loop67 ((b_19 + 1) - 0) (0) g 0 0 _ _ ls (by omega) (Nat.zero_le _) (Nat.zero_le _) (fun h => by omega) (fun h => by omega) (by omega) (by omega) hP hD hS hl
        · skip
          refine lv_ldc2 hx hb hown wl276 dX6_forgotten_48 ?_
          have hP9 := hP.sub (ws' := [(md, .inr (6, [.int 0, vm_1, vm_2, vm_3, vm_4, .ref hs, vm_6, .ref tn, vm_8, vm_9, vm_10, vm_11, vm_12, vm_13, vm_14, vm_15, vm_16, vm_17, vm_18, vm_19, vm_20, vm_21, vm_22, vm_23])), (hs, .inl (cI, 45, .inl f)), (tn, .inl (cI, 45, .inl g))]) [0, 1, 2] rfl
          have hD9 := hD.sub (ws' := [(md, .inr (6, [.int 0, vm_1, vm_2, vm_3, vm_4, .ref hs, vm_6, .ref tn, vm_8, vm_9, vm_10, vm_11, vm_12, vm_13, vm_14, vm_15, vm_16, vm_17, vm_18, vm_19, vm_20, vm_21, vm_22, vm_23])), (hs, .inl (cI, 45, .inl f)), (tn, .inl (cI, 45, .inl g))]) [0, 1, 2] (by decide) rfl
          exact wt_lret hx hb hr hlocks hP9 hD9 hS ⟨g, rfl⟩ dX6_forgotten_51

set_option maxHeartbeats 4000000 in
set_option maxRecDepth 100000 in
theorem c_X6_keep (l : Launch) (D : va_G) (cI cZ cH : ClassId) (md hs : Nat) (R T : Nat) (f : Nat → Int32) (ws : Nat) (ac : Nat) (wf : Nat → Int32) (vm_0 vm_1 vm_2 vm_3 vm_4 vm_6 vm_7 vm_10 vm_11 vm_12 vm_13 vm_14 vm_15 vm_16 vm_17 vm_18 vm_19 vm_20 vm_21 vm_22 vm_23 : Value) (hR5 : R ≤ 5) (hT6 : T ≤ 6) (hrk : rk R T f) (hac : ac ≤ 24) (hwk : wk R T ac wf) : wt_M l yX6_keep wsX6_keep ({ frames := 0, cells := 0, slots := 0, locals := 0 } : Room) D (wt_T cI cZ cH) [.ref md] [(md, .inr (6, [vm_0, vm_1, vm_2, vm_3, vm_4, .ref hs, vm_6, vm_7, .ref ws, .int (nI ac), vm_10, vm_11, vm_12, vm_13, vm_14, vm_15, vm_16, vm_17, vm_18, vm_19, vm_20, vm_21, vm_22, vm_23])), (hs, .inl (cI, 45, .inl f)), (ws, .inl (cI, 1080, .inl wf))] (wt_QV D (fun w => ∃ (wf2 : Nat → Int32) (ac2 : Nat), w = [(md, .inr (6, [vm_0, vm_1, vm_2, vm_3, vm_4, .ref hs, vm_6, vm_7, .ref ws, .int (nI ac2), vm_10, vm_11, vm_12, vm_13, vm_14, vm_15, vm_16, vm_17, vm_18, vm_19, vm_20, vm_21, vm_22, vm_23])), (hs, .inl (cI, 45, .inl f)), (ws, .inl (cI, 1080, .inl wf2))] ∧ ac2 ≤ 24 ∧ 0 < ac2 ∧ wk R T ac2 wf2)) := by
  refine wt_M.ofW (cc := cX6_keep) (maxL := 2) (ret := none) (by decide) rfl (Nat.le_of_ble_eq_true rfl) ?_
  intro p e s m below meth c A ls hx hb hr hts hown hlocks hml hnm hP hK hD hA hS hl
  have hP : va_P D vwCl [(md, .inr (6, [vm_0, vm_1, vm_2, vm_3, vm_4, .ref hs, vm_6, vm_7, .ref ws, .int (nI ac), vm_10, vm_11, vm_12, vm_13, vm_14, vm_15, vm_16, vm_17, vm_18, vm_19, vm_20, vm_21, vm_22, vm_23])), (hs, .inl (cI, 45, .inl f)), (ws, .inl (cI, 1080, .inl wf))] s.heap := hP
  have hown : s.vm.findClass RX6 = some m.cls := hown
  have hl : lv_has ls 2 [(0, .ref md)] := hl
  have hi6 : ∀ w ∈ u_ws RX6 TX6 24, w ∈ wsX6_keep := by decide +kernel
  have wf149 := hts (.fieldLink RX6 149 "WarmTubesModel" "acts" "I") (by decide +kernel)
  have wf19 := hts (.fieldLink RX6 19 "WarmTubesModel" "house" "[I") (by decide +kernel)
  have wf28 := hts (.fieldLink RX6 28 "WarmTubesModel" "was" "[I") (by decide +kernel)
  refine lv_aload_n hx hb dX6_keep_0 rfl (lv_at hl 0 rfl) ?_
  refine va_get (D := D) (ci := 6) (v := .int (nI ac)) (C := RX6) (T := TX6) (N := 24) hx hb hts hi6 hown hK.1 hP 0 rfl rfl 9 (by decide) wf149 (fun _ h9 => h9) rfl dX6_keep_1 ?_
  refine lv_bipush (v := 24) hx hb dX6_keep_4 (by decide) ?_
  refine lv_icmp_ne (tgt := 49) hx hb dX6_keep_6 (by decide) (fun c_1 => ?_) (fun c_1 => ?_)
  · skip
    have c_1 : ¬ (ac = 24) := fun h => c_1 ((nI_eq (a := ac) (b := 24) (by omega) (by omega)).mpr h)
    refine lv_iconst (v := 0) hx hb dX6_keep_49 (by decide) ?_
    refine lv_istore_n (lv' := [(1, .int 0), (0, .ref md)]) hx hb dX6_keep_50 rfl hl (by decide) rfl (fun ls hl => ?_)
    have loop51 : ∀ (k i_2 : Nat) (wf_3 : Nat → Int32) (H : Heap) (locs : List Loc) (ls : Array Slot), i_2 + k = 45 → (cpd i_2 (45 * ac) 0 wf_3 f) → (∀ k, k < 45 * ac → wf_3 k = wf k) → va_P D vwCl [(md, .inr (6, [vm_0, vm_1, vm_2, vm_3, vm_4, .ref hs, vm_6, vm_7, .ref ws, .int (nI ac), vm_10, vm_11, vm_12, vm_13, vm_14, vm_15, vm_16, vm_17, vm_18, vm_19, vm_20, vm_21, vm_22, vm_23])), (hs, .inl (cI, 45, .inl f)), (ws, .inl (cI, 1080, .inl wf_3))] H → va_D A [(md, .inr (6, [vm_0, vm_1, vm_2, vm_3, vm_4, .ref hs, vm_6, vm_7, .ref ws, .int (nI ac), vm_10, vm_11, vm_12, vm_13, vm_14, vm_15, vm_16, vm_17, vm_18, vm_19, vm_20, vm_21, vm_22, vm_23])), (hs, .inl (cI, 45, .inl f)), (ws, .inl (cI, 1080, .inl wf_3))] → va_S A s.heap H locs → lv_has ls 2 [(1, .int (nI i_2)), (0, .ref md)] → W p l e ({ frames := 0, cells := 0, slots := 0, locals := 0 } : Room) s m ([.ref md] : List Value).toArray below meth c H locs 0 0 (MQ below (wt_QV D (fun w => ∃ (wf2 : Nat → Int32) (ac2 : Nat), w = [(md, .inr (6, [vm_0, vm_1, vm_2, vm_3, vm_4, .ref hs, vm_6, vm_7, .ref ws, .int (nI ac2), vm_10, vm_11, vm_12, vm_13, vm_14, vm_15, vm_16, vm_17, vm_18, vm_19, vm_20, vm_21, vm_22, vm_23])), (hs, .inl (cI, 45, .inl f)), (ws, .inl (cI, 1080, .inl wf2))] ∧ ac2 ≤ 24 ∧ 0 < ac2 ∧ wk R T ac2 wf2) A) ([.ref md] : List Value).toArray s 0 0 A) (F0 m 51 ls []) := by
      intro k
      induction k with
      | zero =>
        intro i_2 wf_3 H locs ls hik hcp hou hP hD hS hl
        refine lv_iload_n hx hb dX6_keep_51 rfl (lv_at hl 0 rfl) ?_
        refine lv_bipush (v := 45) hx hb dX6_keep_52 (by decide) ?_
        refine lv_icmp_ge (tgt := 83) hx hb dX6_keep_54 (by decide) (fun _ => ?_) (fun h => absurd (nI_le (a := 45) (b := i_2) (by omega) (by omega)) h)
        refine lv_aload_n hx hb dX6_keep_83 rfl (lv_at hl 1 rfl) ?_
        refine lv_dup hx hb dX6_keep_84 rfl ?_
        refine va_get (D := D) (ci := 6) (v := .int (nI ac)) (C := RX6) (T := TX6) (N := 24) hx hb hts hi6 hown hK.1 hP 0 rfl rfl 9 (by decide) wf149 (fun _ h9 => h9) rfl dX6_keep_85 ?_
        refine lv_iconst (v := 1) hx hb dX6_keep_88 (by decide) ?_
        refine lv_iadd hx hb dX6_keep_89 ?_
        refine wt_top (z := nI (ac + 1)) (nI_add ac 1) ?_
        refine va_put (D := D) (ci := 6) (v := .int (nI (ac + 1))) (ty := .int) (C := RX6) (T := TX6) (N := 24) hx hb hts hi6 tyX6 tyX6_ok nmX6 hown hK.1 hP hD hS 0 rfl rfl 9 (by decide) wf149 (fun _ h9 => h9) rfl (by decide +kernel) rfl rfl (Nat.le_of_ble_eq_true rfl) dX6_keep_90 (fun H locs hP hD hS => ?_)
        have hP : va_P D vwCl [(md, .inr (6, [vm_0, vm_1, vm_2, vm_3, vm_4, .ref hs, vm_6, vm_7, .ref ws, .int (nI (ac + 1)), vm_10, vm_11, vm_12, vm_13, vm_14, vm_15, vm_16, vm_17, vm_18, vm_19, vm_20, vm_21, vm_22, vm_23])), (hs, .inl (cI, 45, .inl f)), (ws, .inl (cI, 1080, .inl wf_3))] H := hP
        have hD : va_D A [(md, .inr (6, [vm_0, vm_1, vm_2, vm_3, vm_4, .ref hs, vm_6, vm_7, .ref ws, .int (nI (ac + 1)), vm_10, vm_11, vm_12, vm_13, vm_14, vm_15, vm_16, vm_17, vm_18, vm_19, vm_20, vm_21, vm_22, vm_23])), (hs, .inl (cI, 45, .inl f)), (ws, .inl (cI, 1080, .inl wf_3))] := hD
        have hP9 := hP.sub (ws' := [(md, .inr (6, [vm_0, vm_1, vm_2, vm_3, vm_4, .ref hs, vm_6, vm_7, .ref ws, .int (nI (ac + 1)), vm_10, vm_11, vm_12, vm_13, vm_14, vm_15, vm_16, vm_17, vm_18, vm_19, vm_20, vm_21, vm_22, vm_23])), (hs, .inl (cI, 45, .inl f)), (ws, .inl (cI, 1080, .inl wf_3))]) [0, 1, 2] rfl
        have hD9 := hD.sub (ws' := [(md, .inr (6, [vm_0, vm_1, vm_2, vm_3, vm_4, .ref hs, vm_6, vm_7, .ref ws, .int (nI (ac + 1)), vm_10, vm_11, vm_12, vm_13, vm_14, vm_15, vm_16, vm_17, vm_18, vm_19, vm_20, vm_21, vm_22, vm_23])), (hs, .inl (cI, 45, .inl f)), (ws, .inl (cI, 1080, .inl wf_3))]) [0, 1, 2] (by decide) rfl
        exact wt_vret hx hb hr hlocks hP9 hD9 hS ⟨wf_3, (ac + 1), rfl, ⟨by omega, by omega, wk_put hwk hrk hcp (by omega) hou⟩⟩ dX6_keep_93
      | succ k ih51 =>
        intro i_2 wf_3 H locs ls hik hcp hou hP hD hS hl
        refine lv_iload_n hx hb dX6_keep_51 rfl (lv_at hl 0 rfl) ?_
        refine lv_bipush (v := 45) hx hb dX6_keep_52 (by decide) ?_
        refine lv_icmp_ge (tgt := 83) hx hb dX6_keep_54 (by decide) (fun h => absurd h (nI_ge (a := i_2) (b := 45) (by omega) (by omega))) (fun _ => ?_)
        refine lv_aload_n hx hb dX6_keep_57 rfl (lv_at hl 1 rfl) ?_
        refine va_get (D := D) (ci := 6) (v := .ref ws) (C := RX6) (T := TX6) (N := 24) hx hb hts hi6 hown hK.1 hP 0 rfl rfl 8 (by decide) wf28 (fun _ h9 => h9) rfl dX6_keep_58 ?_
        refine lv_bipush (v := 45) hx hb dX6_keep_61 (by decide) ?_
        refine lv_aload_n hx hb dX6_keep_63 rfl (lv_at hl 1 rfl) ?_
        refine va_get (D := D) (ci := 6) (v := .int (nI ac)) (C := RX6) (T := TX6) (N := 24) hx hb hts hi6 hown hK.1 hP 0 rfl rfl 9 (by decide) wf149 (fun _ h9 => h9) rfl dX6_keep_64 ?_
        refine lv_imul hx hb dX6_keep_67 ?_
        refine wt_top (z := nI (45 * ac)) (pk_mul 45 ac) ?_
        refine lv_iload_n hx hb dX6_keep_68 rfl (lv_at hl 0 rfl) ?_
        refine lv_iadd hx hb dX6_keep_69 ?_
        refine wt_top (z := nI ((45 * ac) + i_2)) (nI_add (45 * ac) i_2) ?_
        refine lv_aload_n hx hb dX6_keep_70 rfl (lv_at hl 1 rfl) ?_
        refine va_get (D := D) (ci := 6) (v := .ref hs) (C := RX6) (T := TX6) (N := 24) hx hb hts hi6 hown hK.1 hP 0 rfl rfl 5 (by decide) wf19 (fun _ h9 => h9) rfl dX6_keep_71 ?_
        refine lv_iload_n hx hb dX6_keep_74 rfl (lv_at hl 0 rfl) ?_
        refine va_iald hx hb hK.1 hP 1 0 rfl rfl (vp_in_nI (by omega) (by omega)) dX6_keep_75 ?_
        refine wt_top (z := f (0 + i_2)) (by rw [nI_clamp (by omega)]; first | rw [Nat.zero_add] | skip) ?_
        refine va_iast hx hb hK.1 hP hD hS 2 0 rfl rfl (vp_in_nI (by omega) (by omega)) dX6_keep_76 (fun H locs hP hD hS => ?_)
        have hP : va_P D vwCl [(md, .inr (6, [vm_0, vm_1, vm_2, vm_3, vm_4, .ref hs, vm_6, vm_7, .ref ws, .int (nI ac), vm_10, vm_11, vm_12, vm_13, vm_14, vm_15, vm_16, vm_17, vm_18, vm_19, vm_20, vm_21, vm_22, vm_23])), (hs, .inl (cI, 45, .inl f)), (ws, .inl (cI, 1080, .inl (upd wf_3 ((nI ((45 * ac) + i_2)).toNatClampNeg) (f (0 + i_2)))))] H := hP
        have hD : va_D A [(md, .inr (6, [vm_0, vm_1, vm_2, vm_3, vm_4, .ref hs, vm_6, vm_7, .ref ws, .int (nI ac), vm_10, vm_11, vm_12, vm_13, vm_14, vm_15, vm_16, vm_17, vm_18, vm_19, vm_20, vm_21, vm_22, vm_23])), (hs, .inl (cI, 45, .inl f)), (ws, .inl (cI, 1080, .inl (upd wf_3 ((nI ((45 * ac) + i_2)).toNatClampNeg) (f (0 + i_2)))))] := hD
        rw [nI_clamp (n := ((45 * ac) + i_2)) (by omega)] at hP hD
        have hP : va_P D vwCl [(md, .inr (6, [vm_0, vm_1, vm_2, vm_3, vm_4, .ref hs, vm_6, vm_7, .ref ws, .int (nI ac), vm_10, vm_11, vm_12, vm_13, vm_14, vm_15, vm_16, vm_17, vm_18, vm_19, vm_20, vm_21, vm_22, vm_23])), (hs, .inl (cI, 45, .inl f)), (ws, .inl (cI, 1080, .inl (upd wf_3 ((45 * ac) + i_2) (f (0 + i_2)))))] H := hP
        have hD : va_D A [(md, .inr (6, [vm_0, vm_1, vm_2, vm_3, vm_4, .ref hs, vm_6, vm_7, .ref ws, .int (nI ac), vm_10, vm_11, vm_12, vm_13, vm_14, vm_15, vm_16, vm_17, vm_18, vm_19, vm_20, vm_21, vm_22, vm_23])), (hs, .inl (cI, 45, .inl f)), (ws, .inl (cI, 1080, .inl (upd wf_3 ((45 * ac) + i_2) (f (0 + i_2)))))] := hD
        refine lv_iinc (v := nI (i_2 + 1)) (lv' := [(1, .int (nI (i_2 + 1))), (0, .ref md)]) hx hb dX6_keep_77 hl (k := 0) rfl (nI_add i_2 1) (by decide) rfl (fun ls hl => ?_)
        refine lv_goto (tgt := 51) hx hb dX6_keep_80 (by decide) ?_
        exact ih51 ((i_2 + 1)) (upd wf_3 ((45 * ac) + i_2) (f (0 + i_2))) H locs ls (by omega) (cpd_s hcp) (wk_out (n := 0) hou) hP hD hS (lv_sub hl [0, 1] rfl)
    exact loop51 (45 - 0) (0) wf _ _ ls (by omega) cpd_0 (fun _ _ => rfl) hP hD hS hl
  · skip
    have c_1 : ac = 24 := (nI_eq (a := ac) (b := 24) (by omega) (by omega)).mp c_1
    refine lv_iconst (v := 0) hx hb dX6_keep_9 (by decide) ?_
    refine lv_istore_n (lv' := [(1, .int 0), (0, .ref md)]) hx hb dX6_keep_10 rfl hl (by decide) rfl (fun ls hl => ?_)
    have loop11 : ∀ (k i_4 : Nat) (wf_5 : Nat → Int32) (H : Heap) (locs : List Loc) (ls : Array Slot), i_4 + k = 1035 → (shd i_4 wf_5 wf) → va_P D vwCl [(md, .inr (6, [vm_0, vm_1, vm_2, vm_3, vm_4, .ref hs, vm_6, vm_7, .ref ws, .int (nI ac), vm_10, vm_11, vm_12, vm_13, vm_14, vm_15, vm_16, vm_17, vm_18, vm_19, vm_20, vm_21, vm_22, vm_23])), (hs, .inl (cI, 45, .inl f)), (ws, .inl (cI, 1080, .inl wf_5))] H → va_D A [(md, .inr (6, [vm_0, vm_1, vm_2, vm_3, vm_4, .ref hs, vm_6, vm_7, .ref ws, .int (nI ac), vm_10, vm_11, vm_12, vm_13, vm_14, vm_15, vm_16, vm_17, vm_18, vm_19, vm_20, vm_21, vm_22, vm_23])), (hs, .inl (cI, 45, .inl f)), (ws, .inl (cI, 1080, .inl wf_5))] → va_S A s.heap H locs → lv_has ls 2 [(1, .int (nI i_4)), (0, .ref md)] → W p l e ({ frames := 0, cells := 0, slots := 0, locals := 0 } : Room) s m ([.ref md] : List Value).toArray below meth c H locs 0 0 (MQ below (wt_QV D (fun w => ∃ (wf2 : Nat → Int32) (ac2 : Nat), w = [(md, .inr (6, [vm_0, vm_1, vm_2, vm_3, vm_4, .ref hs, vm_6, vm_7, .ref ws, .int (nI ac2), vm_10, vm_11, vm_12, vm_13, vm_14, vm_15, vm_16, vm_17, vm_18, vm_19, vm_20, vm_21, vm_22, vm_23])), (hs, .inl (cI, 45, .inl f)), (ws, .inl (cI, 1080, .inl wf2))] ∧ ac2 ≤ 24 ∧ 0 < ac2 ∧ wk R T ac2 wf2) A) ([.ref md] : List Value).toArray s 0 0 A) (F0 m 11 ls []) := by
      intro k
      induction k with
      | zero =>
        intro i_4 wf_5 H locs ls hik hsh hP hD hS hl
        refine lv_iload_n hx hb dX6_keep_11 rfl (lv_at hl 0 rfl) ?_
        refine lv_sipush (v := 1035) hx hb dX6_keep_12 (by decide) ?_
        refine lv_icmp_ge (tgt := 39) hx hb dX6_keep_15 (by decide) (fun _ => ?_) (fun h => absurd (nI_le (a := 1035) (b := i_4) (by omega) (by omega)) h)
        have hwk1 : wk R T (ac - 1) wf_5 := wk_sh hwk hsh (by omega) (by omega)
        refine lv_aload_n hx hb dX6_keep_39 rfl (lv_at hl 1 rfl) ?_
        refine lv_dup hx hb dX6_keep_40 rfl ?_
        refine va_get (D := D) (ci := 6) (v := .int (nI ac)) (C := RX6) (T := TX6) (N := 24) hx hb hts hi6 hown hK.1 hP 0 rfl rfl 9 (by decide) wf149 (fun _ h9 => h9) rfl dX6_keep_41 ?_
        refine lv_iconst (v := 1) hx hb dX6_keep_44 (by decide) ?_
        refine lv_isub hx hb dX6_keep_45 ?_
        refine wt_top (z := nI (ac - 1)) (pk_sub (a := ac) (b := 1) (by omega)) ?_
        refine va_put (D := D) (ci := 6) (v := .int (nI (ac - 1))) (ty := .int) (C := RX6) (T := TX6) (N := 24) hx hb hts hi6 tyX6 tyX6_ok nmX6 hown hK.1 hP hD hS 0 rfl rfl 9 (by decide) wf149 (fun _ h9 => h9) rfl (by decide +kernel) rfl rfl (Nat.le_of_ble_eq_true rfl) dX6_keep_46 (fun H locs hP hD hS => ?_)
        have hP : va_P D vwCl [(md, .inr (6, [vm_0, vm_1, vm_2, vm_3, vm_4, .ref hs, vm_6, vm_7, .ref ws, .int (nI (ac - 1)), vm_10, vm_11, vm_12, vm_13, vm_14, vm_15, vm_16, vm_17, vm_18, vm_19, vm_20, vm_21, vm_22, vm_23])), (hs, .inl (cI, 45, .inl f)), (ws, .inl (cI, 1080, .inl wf_5))] H := hP
        have hD : va_D A [(md, .inr (6, [vm_0, vm_1, vm_2, vm_3, vm_4, .ref hs, vm_6, vm_7, .ref ws, .int (nI (ac - 1)), vm_10, vm_11, vm_12, vm_13, vm_14, vm_15, vm_16, vm_17, vm_18, vm_19, vm_20, vm_21, vm_22, vm_23])), (hs, .inl (cI, 45, .inl f)), (ws, .inl (cI, 1080, .inl wf_5))] := hD
        refine lv_iconst (v := 0) hx hb dX6_keep_49 (by decide) ?_
        refine lv_istore_n (lv' := [(1, .int 0), (0, .ref md)]) hx hb dX6_keep_50 rfl hl (by decide) rfl (fun ls hl => ?_)
        have loop51 : ∀ (k i_6 : Nat) (wf_5_7 : Nat → Int32) (H : Heap) (locs : List Loc) (ls : Array Slot), i_6 + k = 45 → (cpd i_6 (45 * (ac - 1)) 0 wf_5_7 f) → (∀ k, k < 45 * (ac - 1) → wf_5_7 k = wf_5 k) → va_P D vwCl [(md, .inr (6, [vm_0, vm_1, vm_2, vm_3, vm_4, .ref hs, vm_6, vm_7, .ref ws, .int (nI (ac - 1)), vm_10, vm_11, vm_12, vm_13, vm_14, vm_15, vm_16, vm_17, vm_18, vm_19, vm_20, vm_21, vm_22, vm_23])), (hs, .inl (cI, 45, .inl f)), (ws, .inl (cI, 1080, .inl wf_5_7))] H → va_D A [(md, .inr (6, [vm_0, vm_1, vm_2, vm_3, vm_4, .ref hs, vm_6, vm_7, .ref ws, .int (nI (ac - 1)), vm_10, vm_11, vm_12, vm_13, vm_14, vm_15, vm_16, vm_17, vm_18, vm_19, vm_20, vm_21, vm_22, vm_23])), (hs, .inl (cI, 45, .inl f)), (ws, .inl (cI, 1080, .inl wf_5_7))] → va_S A s.heap H locs → lv_has ls 2 [(1, .int (nI i_6)), (0, .ref md)] → W p l e ({ frames := 0, cells := 0, slots := 0, locals := 0 } : Room) s m ([.ref md] : List Value).toArray below meth c H locs 0 0 (MQ below (wt_QV D (fun w => ∃ (wf2 : Nat → Int32) (ac2 : Nat), w = [(md, .inr (6, [vm_0, vm_1, vm_2, vm_3, vm_4, .ref hs, vm_6, vm_7, .ref ws, .int (nI ac2), vm_10, vm_11, vm_12, vm_13, vm_14, vm_15, vm_16, vm_17, vm_18, vm_19, vm_20, vm_21, vm_22, vm_23])), (hs, .inl (cI, 45, .inl f)), (ws, .inl (cI, 1080, .inl wf2))] ∧ ac2 ≤ 24 ∧ 0 < ac2 ∧ wk R T ac2 wf2) A) ([.ref md] : List Value).toArray s 0 0 A) (F0 m 51 ls []) := by
          intro k
          induction k with
          | zero =>
            intro i_6 wf_5_7 H locs ls hik hcp hou hP hD hS hl
            refine lv_iload_n hx hb dX6_keep_51 rfl (lv_at hl 0 rfl) ?_
            refine lv_bipush (v := 45) hx hb dX6_keep_52 (by decide) ?_
            refine lv_icmp_ge (tgt := 83) hx hb dX6_keep_54 (by decide) (fun _ => ?_) (fun h => absurd (nI_le (a := 45) (b := i_6) (by omega) (by omega)) h)
            refine lv_aload_n hx hb dX6_keep_83 rfl (lv_at hl 1 rfl) ?_
            refine lv_dup hx hb dX6_keep_84 rfl ?_
            refine va_get (D := D) (ci := 6) (v := .int (nI (ac - 1))) (C := RX6) (T := TX6) (N := 24) hx hb hts hi6 hown hK.1 hP 0 rfl rfl 9 (by decide) wf149 (fun _ h9 => h9) rfl dX6_keep_85 ?_
            refine lv_iconst (v := 1) hx hb dX6_keep_88 (by decide) ?_
            refine lv_iadd hx hb dX6_keep_89 ?_
            refine wt_top (z := nI ((ac - 1) + 1)) (nI_add (ac - 1) 1) ?_
            refine va_put (D := D) (ci := 6) (v := .int (nI ((ac - 1) + 1))) (ty := .int) (C := RX6) (T := TX6) (N := 24) hx hb hts hi6 tyX6 tyX6_ok nmX6 hown hK.1 hP hD hS 0 rfl rfl 9 (by decide) wf149 (fun _ h9 => h9) rfl (by decide +kernel) rfl rfl (Nat.le_of_ble_eq_true rfl) dX6_keep_90 (fun H locs hP hD hS => ?_)
            have hP : va_P D vwCl [(md, .inr (6, [vm_0, vm_1, vm_2, vm_3, vm_4, .ref hs, vm_6, vm_7, .ref ws, .int (nI ((ac - 1) + 1)), vm_10, vm_11, vm_12, vm_13, vm_14, vm_15, vm_16, vm_17, vm_18, vm_19, vm_20, vm_21, vm_22, vm_23])), (hs, .inl (cI, 45, .inl f)), (ws, .inl (cI, 1080, .inl wf_5_7))] H := hP
            have hD : va_D A [(md, .inr (6, [vm_0, vm_1, vm_2, vm_3, vm_4, .ref hs, vm_6, vm_7, .ref ws, .int (nI ((ac - 1) + 1)), vm_10, vm_11, vm_12, vm_13, vm_14, vm_15, vm_16, vm_17, vm_18, vm_19, vm_20, vm_21, vm_22, vm_23])), (hs, .inl (cI, 45, .inl f)), (ws, .inl (cI, 1080, .inl wf_5_7))] := hD
            have hP9 := hP.sub (ws' := [(md, .inr (6, [vm_0, vm_1, vm_2, vm_3, vm_4, .ref hs, vm_6, vm_7, .ref ws, .int (nI ((ac - 1) + 1)), vm_10, vm_11, vm_12, vm_13, vm_14, vm_15, vm_16, vm_17, vm_18, vm_19, vm_20, vm_21, vm_22, vm_23])), (hs, .inl (cI, 45, .inl f)), (ws, .inl (cI, 1080, .inl wf_5_7))]) [0, 1, 2] rfl
            have hD9 := hD.sub (ws' := [(md, .inr (6, [vm_0, vm_1, vm_2, vm_3, vm_4, .ref hs, vm_6, vm_7, .ref ws, .int (nI ((ac - 1) + 1)), vm_10, vm_11, vm_12, vm_13, vm_14, vm_15, vm_16, vm_17, vm_18, vm_19, vm_20, vm_21, vm_22, vm_23])), (hs, .inl (cI, 45, .inl f)), (ws, .inl (cI, 1080, .inl wf_5_7))]) [0, 1, 2] (by decide) rfl
            exact wt_vret hx hb hr hlocks hP9 hD9 hS ⟨wf_5_7, ((ac - 1) + 1), rfl, ⟨by omega, by omega, wk_put hwk1 hrk hcp (by omega) hou⟩⟩ dX6_keep_93
          | succ k ih51 =>
            intro i_6 wf_5_7 H locs ls hik hcp hou hP hD hS hl
            refine lv_iload_n hx hb dX6_keep_51 rfl (lv_at hl 0 rfl) ?_
            refine lv_bipush (v := 45) hx hb dX6_keep_52 (by decide) ?_
            refine lv_icmp_ge (tgt := 83) hx hb dX6_keep_54 (by decide) (fun h => absurd h (nI_ge (a := i_6) (b := 45) (by omega) (by omega))) (fun _ => ?_)
            refine lv_aload_n hx hb dX6_keep_57 rfl (lv_at hl 1 rfl) ?_
            refine va_get (D := D) (ci := 6) (v := .ref ws) (C := RX6) (T := TX6) (N := 24) hx hb hts hi6 hown hK.1 hP 0 rfl rfl 8 (by decide) wf28 (fun _ h9 => h9) rfl dX6_keep_58 ?_
            refine lv_bipush (v := 45) hx hb dX6_keep_61 (by decide) ?_
            refine lv_aload_n hx hb dX6_keep_63 rfl (lv_at hl 1 rfl) ?_
            refine va_get (D := D) (ci := 6) (v := .int (nI (ac - 1))) (C := RX6) (T := TX6) (N := 24) hx hb hts hi6 hown hK.1 hP 0 rfl rfl 9 (by decide) wf149 (fun _ h9 => h9) rfl dX6_keep_64 ?_
            refine lv_imul hx hb dX6_keep_67 ?_
            refine wt_top (z := nI (45 * (ac - 1))) (pk_mul 45 (ac - 1)) ?_
            refine lv_iload_n hx hb dX6_keep_68 rfl (lv_at hl 0 rfl) ?_
            refine lv_iadd hx hb dX6_keep_69 ?_
            refine wt_top (z := nI ((45 * (ac - 1)) + i_6)) (nI_add (45 * (ac - 1)) i_6) ?_
            refine lv_aload_n hx hb dX6_keep_70 rfl (lv_at hl 1 rfl) ?_
            refine va_get (D := D) (ci := 6) (v := .ref hs) (C := RX6) (T := TX6) (N := 24) hx hb hts hi6 hown hK.1 hP 0 rfl rfl 5 (by decide) wf19 (fun _ h9 => h9) rfl dX6_keep_71 ?_
            refine lv_iload_n hx hb dX6_keep_74 rfl (lv_at hl 0 rfl) ?_
            refine va_iald hx hb hK.1 hP 1 0 rfl rfl (vp_in_nI (by omega) (by omega)) dX6_keep_75 ?_
            refine wt_top (z := f (0 + i_6)) (by rw [nI_clamp (by omega)]; first | rw [Nat.zero_add] | skip) ?_
            refine va_iast hx hb hK.1 hP hD hS 2 0 rfl rfl (vp_in_nI (by omega) (by omega)) dX6_keep_76 (fun H locs hP hD hS => ?_)
            have hP : va_P D vwCl [(md, .inr (6, [vm_0, vm_1, vm_2, vm_3, vm_4, .ref hs, vm_6, vm_7, .ref ws, .int (nI (ac - 1)), vm_10, vm_11, vm_12, vm_13, vm_14, vm_15, vm_16, vm_17, vm_18, vm_19, vm_20, vm_21, vm_22, vm_23])), (hs, .inl (cI, 45, .inl f)), (ws, .inl (cI, 1080, .inl (upd wf_5_7 ((nI ((45 * (ac - 1)) + i_6)).toNatClampNeg) (f (0 + i_6)))))] H := hP
            have hD : va_D A [(md, .inr (6, [vm_0, vm_1, vm_2, vm_3, vm_4, .ref hs, vm_6, vm_7, .ref ws, .int (nI (ac - 1)), vm_10, vm_11, vm_12, vm_13, vm_14, vm_15, vm_16, vm_17, vm_18, vm_19, vm_20, vm_21, vm_22, vm_23])), (hs, .inl (cI, 45, .inl f)), (ws, .inl (cI, 1080, .inl (upd wf_5_7 ((nI ((45 * (ac - 1)) + i_6)).toNatClampNeg) (f (0 + i_6)))))] := hD
            rw [nI_clamp (n := ((45 * (ac - 1)) + i_6)) (by omega)] at hP hD
            have hP : va_P D vwCl [(md, .inr (6, [vm_0, vm_1, vm_2, vm_3, vm_4, .ref hs, vm_6, vm_7, .ref ws, .int (nI (ac - 1)), vm_10, vm_11, vm_12, vm_13, vm_14, vm_15, vm_16, vm_17, vm_18, vm_19, vm_20, vm_21, vm_22, vm_23])), (hs, .inl (cI, 45, .inl f)), (ws, .inl (cI, 1080, .inl (upd wf_5_7 ((45 * (ac - 1)) + i_6) (f (0 + i_6)))))] H := hP
            have hD : va_D A [(md, .inr (6, [vm_0, vm_1, vm_2, vm_3, vm_4, .ref hs, vm_6, vm_7, .ref ws, .int (nI (ac - 1)), vm_10, vm_11, vm_12, vm_13, vm_14, vm_15, vm_16, vm_17, vm_18, vm_19, vm_20, vm_21, vm_22, vm_23])), (hs, .inl (cI, 45, .inl f)), (ws, .inl (cI, 1080, .inl (upd wf_5_7 ((45 * (ac - 1)) + i_6) (f (0 + i_6)))))] := hD
            refine lv_iinc (v := nI (i_6 + 1)) (lv' := [(1, .int (nI (i_6 + 1))), (0, .ref md)]) hx hb dX6_keep_77 hl (k := 0) rfl (nI_add i_6 1) (by decide) rfl (fun ls hl => ?_)
            refine lv_goto (tgt := 51) hx hb dX6_keep_80 (by decide) ?_
            exact ih51 ((i_6 + 1)) (upd wf_5_7 ((45 * (ac - 1)) + i_6) (f (0 + i_6))) H locs ls (by omega) (cpd_s hcp) (wk_out (n := 0) hou) hP hD hS (lv_sub hl [0, 1] rfl)
        exact loop51 (45 - 0) (0) wf_5 _ _ ls (by omega) cpd_0 (fun _ _ => rfl) hP hD hS hl
      | succ k ih11 =>
        intro i_4 wf_5 H locs ls hik hsh hP hD hS hl
        refine lv_iload_n hx hb dX6_keep_11 rfl (lv_at hl 0 rfl) ?_
        refine lv_sipush (v := 1035) hx hb dX6_keep_12 (by decide) ?_
        refine lv_icmp_ge (tgt := 39) hx hb dX6_keep_15 (by decide) (fun h => absurd h (nI_ge (a := i_4) (b := 1035) (by omega) (by omega))) (fun _ => ?_)
        refine lv_aload_n hx hb dX6_keep_18 rfl (lv_at hl 1 rfl) ?_
        refine va_get (D := D) (ci := 6) (v := .ref ws) (C := RX6) (T := TX6) (N := 24) hx hb hts hi6 hown hK.1 hP 0 rfl rfl 8 (by decide) wf28 (fun _ h9 => h9) rfl dX6_keep_19 ?_
        refine lv_iload_n hx hb dX6_keep_22 rfl (lv_at hl 0 rfl) ?_
        refine lv_aload_n hx hb dX6_keep_23 rfl (lv_at hl 1 rfl) ?_
        refine va_get (D := D) (ci := 6) (v := .ref ws) (C := RX6) (T := TX6) (N := 24) hx hb hts hi6 hown hK.1 hP 0 rfl rfl 8 (by decide) wf28 (fun _ h9 => h9) rfl dX6_keep_24 ?_
        refine lv_iload_n hx hb dX6_keep_27 rfl (lv_at hl 0 rfl) ?_
        refine lv_bipush (v := 45) hx hb dX6_keep_28 (by decide) ?_
        refine lv_iadd hx hb dX6_keep_30 ?_
        refine wt_top (z := nI (i_4 + 45)) (nI_add i_4 45) ?_
        refine va_iald hx hb hK.1 hP 2 0 rfl rfl (vp_in_nI (by omega) (by omega)) dX6_keep_31 ?_
        refine wt_top (z := wf (i_4 + 45)) (by rw [nI_clamp (by omega)]; exact hsh.2 _ (by omega)) ?_
        refine va_iast hx hb hK.1 hP hD hS 2 0 rfl rfl (vp_in_nI (by omega) (by omega)) dX6_keep_32 (fun H locs hP hD hS => ?_)
        have hP : va_P D vwCl [(md, .inr (6, [vm_0, vm_1, vm_2, vm_3, vm_4, .ref hs, vm_6, vm_7, .ref ws, .int (nI ac), vm_10, vm_11, vm_12, vm_13, vm_14, vm_15, vm_16, vm_17, vm_18, vm_19, vm_20, vm_21, vm_22, vm_23])), (hs, .inl (cI, 45, .inl f)), (ws, .inl (cI, 1080, .inl (upd wf_5 ((nI i_4).toNatClampNeg) (wf (i_4 + 45)))))] H := hP
        have hD : va_D A [(md, .inr (6, [vm_0, vm_1, vm_2, vm_3, vm_4, .ref hs, vm_6, vm_7, .ref ws, .int (nI ac), vm_10, vm_11, vm_12, vm_13, vm_14, vm_15, vm_16, vm_17, vm_18, vm_19, vm_20, vm_21, vm_22, vm_23])), (hs, .inl (cI, 45, .inl f)), (ws, .inl (cI, 1080, .inl (upd wf_5 ((nI i_4).toNatClampNeg) (wf (i_4 + 45)))))] := hD
        rw [nI_clamp (n := i_4) (by omega)] at hP hD
        have hP : va_P D vwCl [(md, .inr (6, [vm_0, vm_1, vm_2, vm_3, vm_4, .ref hs, vm_6, vm_7, .ref ws, .int (nI ac), vm_10, vm_11, vm_12, vm_13, vm_14, vm_15, vm_16, vm_17, vm_18, vm_19, vm_20, vm_21, vm_22, vm_23])), (hs, .inl (cI, 45, .inl f)), (ws, .inl (cI, 1080, .inl (upd wf_5 i_4 (wf (i_4 + 45)))))] H := hP
        have hD : va_D A [(md, .inr (6, [vm_0, vm_1, vm_2, vm_3, vm_4, .ref hs, vm_6, vm_7, .ref ws, .int (nI ac), vm_10, vm_11, vm_12, vm_13, vm_14, vm_15, vm_16, vm_17, vm_18, vm_19, vm_20, vm_21, vm_22, vm_23])), (hs, .inl (cI, 45, .inl f)), (ws, .inl (cI, 1080, .inl (upd wf_5 i_4 (wf (i_4 + 45)))))] := hD
        refine lv_iinc (v := nI (i_4 + 1)) (lv' := [(1, .int (nI (i_4 + 1))), (0, .ref md)]) hx hb dX6_keep_33 hl (k := 0) rfl (nI_add i_4 1) (by decide) rfl (fun ls hl => ?_)
        refine lv_goto (tgt := 11) hx hb dX6_keep_36 (by decide) ?_
        exact ih11 ((i_4 + 1)) (upd wf_5 i_4 (wf (i_4 + 45))) H locs ls (by omega) (shd_s hsh) hP hD hS (lv_sub hl [0, 1] rfl)
    exact loop11 (1035 - 0) (0) wf _ _ ls (by omega) shd_0 hP hD hS hl
set_option maxHeartbeats 4000000 in
set_option maxRecDepth 100000 in
theorem c_X6_minutes (l : Launch) (D : va_G) (cI cZ cH : ClassId) (md hs : Nat) (R T : Nat) (f : Nat → Int32) (ws : Nat) (ac : Nat) (wf : Nat → Int32) (a1 : Int32) (vm_0 vm_1 vm_2 vm_3 vm_4 vm_6 vm_7 vm_10 vm_11 vm_12 vm_13 vm_14 vm_15 vm_16 vm_17 vm_18 vm_19 vm_20 vm_21 vm_22 vm_23 : Value) (hR5 : R ≤ 5) (hT6 : T ≤ 6) (hrk : rk R T f) (hac : ac ≤ 24) (hwk : wk R T ac wf) : wt_M l yX6_minutes wsX6_minutes ({ frames := 4, cells := 0, slots := 0, locals := 91 } : Room) D (wt_T cI cZ cH) [.ref md, .int a1] [(md, .inr (6, [vm_0, vm_1, vm_2, vm_3, vm_4, .ref hs, vm_6, vm_7, .ref ws, .int (nI ac), vm_10, vm_11, vm_12, vm_13, vm_14, vm_15, vm_16, vm_17, vm_18, vm_19, vm_20, vm_21, vm_22, vm_23])), (hs, .inl (cI, 45, .inl f)), (ws, .inl (cI, 1080, .inl wf))] (wt_QI D (fun r w => ∃ (f2 wf2 : Nat → Int32) (ac2 : Nat), w = [(md, .inr (6, [.int 0, vm_1, vm_2, vm_3, vm_4, .ref hs, vm_6, vm_7, .ref ws, .int (nI ac2), vm_10, vm_11, vm_12, vm_13, vm_14, vm_15, vm_16, vm_17, vm_18, vm_19, vm_20, vm_21, vm_22, vm_23])), (hs, .inl (cI, 45, .inl f2)), (ws, .inl (cI, 1080, .inl wf2))] ∧ rk R T f2 ∧ ac2 ≤ 24 ∧ wk R T ac2 wf2)) := by
  refine wt_M.ofW (cc := cX6_minutes) (maxL := 3) (ret := (some .int)) (by decide) rfl (Nat.le_of_ble_eq_true rfl) ?_
  intro p e s m below meth c A ls hx hb hr hts hown hlocks hml hnm hP hK hD hA hS hl
  have hP : va_P D vwCl [(md, .inr (6, [vm_0, vm_1, vm_2, vm_3, vm_4, .ref hs, vm_6, vm_7, .ref ws, .int (nI ac), vm_10, vm_11, vm_12, vm_13, vm_14, vm_15, vm_16, vm_17, vm_18, vm_19, vm_20, vm_21, vm_22, vm_23])), (hs, .inl (cI, 45, .inl f)), (ws, .inl (cI, 1080, .inl wf))] s.heap := hP
  have hown : s.vm.findClass RX6 = some m.cls := hown
  have hl : lv_has ls 3 [(0, .ref md), (1, .int a1)] := hl
  have hi6 : ∀ w ∈ u_ws RX6 TX6 24, w ∈ wsX6_minutes := by decide +kernel
  have wc189 := hts (.constant RX6 189 (-1000002)) (by decide +kernel)
  have wc67 := hts (.constant RX6 67 (-1000001)) (by decide +kernel)
  have wc77 := hts (.constant RX6 77 (-1000003)) (by decide +kernel)
  have wf19 := hts (.fieldLink RX6 19 "WarmTubesModel" "house" "[I") (by decide +kernel)
  have wf47 := hts (.fieldLink RX6 47 "WarmTubesModel" "thrown" "I") (by decide +kernel)
  have wl190 := hts (.constantLong RX6 190 (24)) (by decide +kernel)
  refine lv_aload_n hx hb dX6_minutes_0 rfl (lv_at hl 0 rfl) ?_
  refine lv_iconst (v := 0) hx hb dX6_minutes_1 (by decide) ?_
  refine va_put (D := D) (ci := 6) (v := .int 0) (ty := .int) (C := RX6) (T := TX6) (N := 24) hx hb hts hi6 tyX6 tyX6_ok nmX6 hown hK.1 hP hD hS 0 rfl rfl 0 (by decide) wf47 (fun _ h9 => h9) rfl (by decide +kernel) rfl rfl (Nat.le_of_ble_eq_true rfl) dX6_minutes_2 (fun H locs hP hD hS => ?_)
  have hP : va_P D vwCl [(md, .inr (6, [.int 0, vm_1, vm_2, vm_3, vm_4, .ref hs, vm_6, vm_7, .ref ws, .int (nI ac), vm_10, vm_11, vm_12, vm_13, vm_14, vm_15, vm_16, vm_17, vm_18, vm_19, vm_20, vm_21, vm_22, vm_23])), (hs, .inl (cI, 45, .inl f)), (ws, .inl (cI, 1080, .inl wf))] H := hP
  have hD : va_D A [(md, .inr (6, [.int 0, vm_1, vm_2, vm_3, vm_4, .ref hs, vm_6, vm_7, .ref ws, .int (nI ac), vm_10, vm_11, vm_12, vm_13, vm_14, vm_15, vm_16, vm_17, vm_18, vm_19, vm_20, vm_21, vm_22, vm_23])), (hs, .inl (cI, 45, .inl f)), (ws, .inl (cI, 1080, .inl wf))] := hD
  refine lv_aload_n hx hb dX6_minutes_5 rfl (lv_at hl 0 rfl) ?_
  refine wt_rV (As := []) (rest := []) ⟨hx, hb, hml, hown, hts⟩ (c_X6_isThere l D cI cZ cH md hs R T f (.int 0) vm_1 vm_2 vm_3 vm_4 vm_6 vm_7 (.ref ws) (.int (nI ac)) vm_10 vm_11 vm_12 vm_13 vm_14 vm_15 vm_16 vm_17 vm_18 vm_19 vm_20 vm_21 vm_22 vm_23 (by first | assumption | omega) (by first | assumption | omega) (by first | assumption | omega)) (cwV 0 hts gX6_minutes_X6_isThere rfl rfl rfl (by decide +kernel) ⟨Nat.le_of_ble_eq_true rfl, Nat.le_of_ble_eq_true rfl⟩) hK hP [0, 1] rfl (va_recv hK.1 hP (ci := 6) (q0 := 0) rfl rfl) rfl hl.1 rfl (Nat.le_of_ble_eq_true rfl) dX6_minutes_6 ⟨Nat.le_of_ble_eq_true rfl, Nat.le_of_ble_eq_true rfl⟩ (fun r_1 e_2 => ?_)
  subst e_2
  refine lv_if_ne (tgt := 15) hx hb dX6_minutes_9 (by decide) (fun c_3 => ?_) (fun c_3 => ?_)
  · skip
    have g_4 : 0 < R := wP_nat (by omega) c_3
    refine lv_iload_n hx hb dX6_minutes_15 rfl (lv_at hl 1 rfl) ?_
    refine lv_i2l hx hb dX6_minutes_16 rfl ?_
    refine lv_lconst (v := 1) hx hb dX6_minutes_17 (by decide) ?_
    refine lv_ldc2 hx hb hown wl190 dX6_minutes_18 ?_
    refine wt_rS (As := [.long a1.toInt64, .long 1, .long 24]) (rest := []) ⟨hx, hb, hml, hown, hts⟩ (c_X6_in l D cI cZ cH a1.toInt64 1 24) (va_cwS 3 hts gX6_minutes_X6_in rfl rfl rfl (by decide +kernel) ⟨Nat.le_of_ble_eq_true rfl, Nat.le_of_ble_eq_true rfl⟩) hK hP [] rfl rfl hl.1 rfl (Nat.le_of_ble_eq_true rfl) dX6_minutes_21 ⟨Nat.le_of_ble_eq_true rfl, Nat.le_of_ble_eq_true rfl⟩ (fun r_5 e_6 => ?_)
    subst e_6
    refine wt_top (z := wI a1 1 24) (wL_I' (by decide) (by decide)) ?_
    refine lv_if_ne (tgt := 30) hx hb dX6_minutes_24 (by decide) (fun c_7 => ?_) (fun c_7 => ?_)
    · skip
      obtain ⟨j_8, hj_8, hj_8b, rfl⟩ := wI_nat (a := 1) (b := 24) (by omega) (by omega) c_7
      refine lv_aload_n hx hb dX6_minutes_30 rfl (lv_at hl 0 rfl) ?_
      refine va_get (D := D) (ci := 6) (v := .ref hs) (C := RX6) (T := TX6) (N := 24) hx hb hts hi6 hown hK.1 hP 0 rfl rfl 5 (by decide) wf19 (fun _ h9 => h9) rfl dX6_minutes_31 ?_
      refine lv_iconst (v := 4) hx hb dX6_minutes_34 (by decide) ?_
      refine va_iald hx hb hK.1 hP 1 0 rfl rfl (by rw [vp_in_iff]; decide) dX6_minutes_35 ?_
      refine lv_topi (fun ov_9 _ => ?_)
      refine lv_iload_n hx hb dX6_minutes_36 rfl (lv_at hl 1 rfl) ?_
      refine lv_iadd hx hb dX6_minutes_37 ?_
      refine lv_topi (fun ov_10 _ => ?_)
      refine lv_sipush (v := 999) hx hb dX6_minutes_38 (by decide) ?_
      refine lv_icmp_le (tgt := 47) hx hb dX6_minutes_41 (by decide) (fun c_11 => ?_) (fun c_11 => ?_)
      · skip
        refine lv_iconst (v := 0) hx hb dX6_minutes_47 (by decide) ?_
        refine lv_istore_n (lv' := [(2, .int 0), (0, .ref md), (1, .int (nI j_8))]) hx hb dX6_minutes_48 rfl hl (by decide) rfl (fun ls hl => ?_)
        have loop49 : ∀ (k i_12 : Nat) (f_13 : Nat → Int32) (wf_14 : Nat → Int32) (n_15 : Nat) (H : Heap) (locs : List Loc) (ls : Array Slot), i_12 + k = j_8 → (n_15 ≤ 24) → (wk R T n_15 wf_14) → (rk R T f_13) → va_P D vwCl [(md, .inr (6, [.int 0, vm_1, vm_2, vm_3, vm_4, .ref hs, vm_6, vm_7, .ref ws, .int (nI n_15), vm_10, vm_11, vm_12, vm_13, vm_14, vm_15, vm_16, vm_17, vm_18, vm_19, vm_20, vm_21, vm_22, vm_23])), (hs, .inl (cI, 45, .inl f_13)), (ws, .inl (cI, 1080, .inl wf_14))] H → va_D A [(md, .inr (6, [.int 0, vm_1, vm_2, vm_3, vm_4, .ref hs, vm_6, vm_7, .ref ws, .int (nI n_15), vm_10, vm_11, vm_12, vm_13, vm_14, vm_15, vm_16, vm_17, vm_18, vm_19, vm_20, vm_21, vm_22, vm_23])), (hs, .inl (cI, 45, .inl f_13)), (ws, .inl (cI, 1080, .inl wf_14))] → va_S A s.heap H locs → lv_has ls 3 [(2, .int (nI i_12)), (0, .ref md), (1, .int (nI j_8))] → W p l e ({ frames := 4, cells := 0, slots := 0, locals := 91 } : Room) s m ([.ref md, .int (nI j_8)] : List Value).toArray below meth c H locs 0 0 (MQ below (wt_QI D (fun r w => ∃ (f2 wf2 : Nat → Int32) (ac2 : Nat), w = [(md, .inr (6, [.int 0, vm_1, vm_2, vm_3, vm_4, .ref hs, vm_6, vm_7, .ref ws, .int (nI ac2), vm_10, vm_11, vm_12, vm_13, vm_14, vm_15, vm_16, vm_17, vm_18, vm_19, vm_20, vm_21, vm_22, vm_23])), (hs, .inl (cI, 45, .inl f2)), (ws, .inl (cI, 1080, .inl wf2))] ∧ rk R T f2 ∧ ac2 ≤ 24 ∧ wk R T ac2 wf2) A) ([.ref md, .int (nI j_8)] : List Value).toArray s 0 0 A) (F0 m 49 ls []) := by
          intro k
          induction k with
          | zero =>
            intro i_12 f_13 wf_14 n_15 H locs ls hik hac hwk rk_16 hP hD hS hl
            refine lv_iload_n hx hb dX6_minutes_49 rfl (lv_at hl 0 rfl) ?_
            refine lv_iload_n hx hb dX6_minutes_50 rfl (lv_at hl 2 rfl) ?_
            refine lv_icmp_ge (tgt := 71) hx hb dX6_minutes_51 (by decide) (fun _ => ?_) (fun h => absurd (nI_le (a := j_8) (b := i_12) (by omega) (by omega)) h)
            refine lv_aload_n hx hb dX6_minutes_71 rfl (lv_at hl 1 rfl) ?_
            refine va_get (D := D) (ci := 6) (v := .ref hs) (C := RX6) (T := TX6) (N := 24) hx hb hts hi6 hown hK.1 hP 0 rfl rfl 5 (by decide) wf19 (fun _ h9 => h9) rfl dX6_minutes_72 ?_
            refine wt_rS (As := [.ref hs]) (rest := []) ⟨hx, hb, hml, hown, hts⟩ (c_X6_colds l D cI cZ cH hs R T f_13 (by first | assumption | omega) (by first | assumption | omega) (by first | assumption | omega)) (va_cwS 1 hts gX6_minutes_X6_colds rfl rfl rfl (by decide +kernel) ⟨Nat.le_of_ble_eq_true rfl, Nat.le_of_ble_eq_true rfl⟩) hK hP [1] rfl rfl hl.1 rfl (Nat.le_of_ble_eq_true rfl) dX6_minutes_75 ⟨Nat.le_of_ble_eq_true rfl, Nat.le_of_ble_eq_true rfl⟩ (fun r_17 e_18 => ?_)
            have hP9 := hP.sub (ws' := [(md, .inr (6, [.int 0, vm_1, vm_2, vm_3, vm_4, .ref hs, vm_6, vm_7, .ref ws, .int (nI n_15), vm_10, vm_11, vm_12, vm_13, vm_14, vm_15, vm_16, vm_17, vm_18, vm_19, vm_20, vm_21, vm_22, vm_23])), (hs, .inl (cI, 45, .inl f_13)), (ws, .inl (cI, 1080, .inl wf_14))]) [0, 1, 2] rfl
            have hD9 := hD.sub (ws' := [(md, .inr (6, [.int 0, vm_1, vm_2, vm_3, vm_4, .ref hs, vm_6, vm_7, .ref ws, .int (nI n_15), vm_10, vm_11, vm_12, vm_13, vm_14, vm_15, vm_16, vm_17, vm_18, vm_19, vm_20, vm_21, vm_22, vm_23])), (hs, .inl (cI, 45, .inl f_13)), (ws, .inl (cI, 1080, .inl wf_14))]) [0, 1, 2] (by decide) rfl
            exact wt_iret hx hb hr hlocks hP9 hD9 hS ⟨f_13, wf_14, n_15, rfl, ⟨rk_16, by omega, hwk⟩⟩ dX6_minutes_78
          | succ k ih49 =>
            intro i_12 f_13 wf_14 n_15 H locs ls hik hac hwk rk_16 hP hD hS hl
            refine lv_iload_n hx hb dX6_minutes_49 rfl (lv_at hl 0 rfl) ?_
            refine lv_iload_n hx hb dX6_minutes_50 rfl (lv_at hl 2 rfl) ?_
            refine lv_icmp_ge (tgt := 71) hx hb dX6_minutes_51 (by decide) (fun h => absurd h (nI_ge (a := i_12) (b := j_8) (by omega) (by omega))) (fun _ => ?_)
            refine lv_aload_n hx hb dX6_minutes_54 rfl (lv_at hl 1 rfl) ?_
            refine wt_goV (wr := []) (wt_runV (As := []) (rest := []) ⟨hx, hb, hml, hown, hts⟩ (c_X6_keep l D cI cZ cH md hs R T f_13 ws n_15 wf_14 (.int 0) vm_1 vm_2 vm_3 vm_4 vm_6 vm_7 vm_10 vm_11 vm_12 vm_13 vm_14 vm_15 vm_16 vm_17 vm_18 vm_19 vm_20 vm_21 vm_22 vm_23 (by first | assumption | omega) (by first | assumption | omega) (by first | assumption | omega) (by first | assumption | omega) (by first | assumption | omega)) (cwV 0 hts gX6_minutes_X6_keep rfl rfl rfl (by decide +kernel) ⟨Nat.le_of_ble_eq_true rfl, Nat.le_of_ble_eq_true rfl⟩) hK hP hD [0, 1, 2] rfl (by decide) (va_recv hK.1 hP (ci := 6) (q0 := 0) rfl rfl) rfl hl.1 rfl (Nat.le_of_ble_eq_true rfl) dX6_minutes_55 ⟨Nat.le_of_ble_eq_true rfl, Nat.le_of_ble_eq_true rfl⟩) hP hD hS hA [0, 1, 2] [] rfl rfl (by decide) (by decide) (fun w_20 H locs h_21 hP hD hS => ?_)
            obtain ⟨wf2_22, ac2_23, rfl, x_24⟩ := h_21
            have hP : va_P D vwCl [(md, .inr (6, [.int 0, vm_1, vm_2, vm_3, vm_4, .ref hs, vm_6, vm_7, .ref ws, .int (nI ac2_23), vm_10, vm_11, vm_12, vm_13, vm_14, vm_15, vm_16, vm_17, vm_18, vm_19, vm_20, vm_21, vm_22, vm_23])), (hs, .inl (cI, 45, .inl f_13)), (ws, .inl (cI, 1080, .inl wf2_22))] H := hP
            have hD : va_D A [(md, .inr (6, [.int 0, vm_1, vm_2, vm_3, vm_4, .ref hs, vm_6, vm_7, .ref ws, .int (nI ac2_23), vm_10, vm_11, vm_12, vm_13, vm_14, vm_15, vm_16, vm_17, vm_18, vm_19, vm_20, vm_21, vm_22, vm_23])), (hs, .inl (cI, 45, .inl f_13)), (ws, .inl (cI, 1080, .inl wf2_22))] := hD
            obtain ⟨acx_25, acx_26, wkx_27⟩ := x_24
            refine lv_aload_n hx hb dX6_minutes_58 rfl (lv_at hl 1 rfl) ?_
            refine va_get (D := D) (ci := 6) (v := .ref hs) (C := RX6) (T := TX6) (N := 24) hx hb hts hi6 hown hK.1 hP 0 rfl rfl 5 (by decide) wf19 (fun _ h9 => h9) rfl dX6_minutes_59 ?_
            refine wt_goV (wr := [(md, .inr (6, [.int 0, vm_1, vm_2, vm_3, vm_4, .ref hs, vm_6, vm_7, .ref ws, .int (nI ac2_23), vm_10, vm_11, vm_12, vm_13, vm_14, vm_15, vm_16, vm_17, vm_18, vm_19, vm_20, vm_21, vm_22, vm_23])), (ws, .inl (cI, 1080, .inl wf2_22))]) (wt_runS (As := [.ref hs]) (rest := []) ⟨hx, hb, hml, hown, hts⟩ (c_X6_minute l D cI cZ cH hs R T f_13 (by first | assumption | omega) (by first | assumption | omega) (by first | assumption | omega)) (va_cwS 1 hts gX6_minutes_X6_minute rfl rfl rfl (by decide +kernel) ⟨Nat.le_of_ble_eq_true rfl, Nat.le_of_ble_eq_true rfl⟩) hK hP hD [1] rfl (by decide) rfl hl.1 rfl (Nat.le_of_ble_eq_true rfl) dX6_minutes_62 ⟨Nat.le_of_ble_eq_true rfl, Nat.le_of_ble_eq_true rfl⟩) hP hD hS hA [1] [0, 2] rfl rfl (by decide) (by decide) (fun w_29 H locs h_30 hP hD hS => ?_)
            obtain ⟨f2_31, rfl, x_32⟩ := h_30
            have hP : va_P D vwCl [(md, .inr (6, [.int 0, vm_1, vm_2, vm_3, vm_4, .ref hs, vm_6, vm_7, .ref ws, .int (nI ac2_23), vm_10, vm_11, vm_12, vm_13, vm_14, vm_15, vm_16, vm_17, vm_18, vm_19, vm_20, vm_21, vm_22, vm_23])), (ws, .inl (cI, 1080, .inl wf2_22)), (hs, .inl (cI, 45, .inl f2_31))] H := hP
            have hD : va_D A [(md, .inr (6, [.int 0, vm_1, vm_2, vm_3, vm_4, .ref hs, vm_6, vm_7, .ref ws, .int (nI ac2_23), vm_10, vm_11, vm_12, vm_13, vm_14, vm_15, vm_16, vm_17, vm_18, vm_19, vm_20, vm_21, vm_22, vm_23])), (ws, .inl (cI, 1080, .inl wf2_22)), (hs, .inl (cI, 45, .inl f2_31))] := hD
            refine lv_iinc (v := nI (i_12 + 1)) (lv' := [(2, .int (nI (i_12 + 1))), (0, .ref md), (1, .int (nI j_8))]) hx hb dX6_minutes_65 hl (k := 0) rfl (nI_add i_12 1) (by decide) rfl (fun ls hl => ?_)
            refine lv_goto (tgt := 49) hx hb dX6_minutes_68 (by decide) ?_
            exact ih49 ((i_12 + 1)) f2_31 wf2_22 ac2_23 H locs ls (by omega) (by first | assumption | omega) (by first | assumption | omega) x_32 (hP.sub [0, 2, 1] rfl) (hD.sub [0, 2, 1] (by decide) rfl) hS (lv_sub hl [0, 1, 2] rfl)
        exact loop49 (j_8 - 0) (0) f wf ac _ _ ls (by omega) (by first | assumption | omega) (by first | assumption | omega) hrk hP hD hS hl
      · skip
        refine lv_ldc hx hb hown wc77 dX6_minutes_44 ?_
        have hP9 := hP.sub (ws' := [(md, .inr (6, [.int 0, vm_1, vm_2, vm_3, vm_4, .ref hs, vm_6, vm_7, .ref ws, .int (nI ac), vm_10, vm_11, vm_12, vm_13, vm_14, vm_15, vm_16, vm_17, vm_18, vm_19, vm_20, vm_21, vm_22, vm_23])), (hs, .inl (cI, 45, .inl f)), (ws, .inl (cI, 1080, .inl wf))]) [0, 1, 2] rfl
        have hD9 := hD.sub (ws' := [(md, .inr (6, [.int 0, vm_1, vm_2, vm_3, vm_4, .ref hs, vm_6, vm_7, .ref ws, .int (nI ac), vm_10, vm_11, vm_12, vm_13, vm_14, vm_15, vm_16, vm_17, vm_18, vm_19, vm_20, vm_21, vm_22, vm_23])), (hs, .inl (cI, 45, .inl f)), (ws, .inl (cI, 1080, .inl wf))]) [0, 1, 2] (by decide) rfl
        exact wt_iret hx hb hr hlocks hP9 hD9 hS ⟨f, wf, ac, rfl, ⟨hrk, by omega, hwk⟩⟩ dX6_minutes_46
    · skip
      refine lv_ldc hx hb hown wc67 dX6_minutes_27 ?_
      have hP9 := hP.sub (ws' := [(md, .inr (6, [.int 0, vm_1, vm_2, vm_3, vm_4, .ref hs, vm_6, vm_7, .ref ws, .int (nI ac), vm_10, vm_11, vm_12, vm_13, vm_14, vm_15, vm_16, vm_17, vm_18, vm_19, vm_20, vm_21, vm_22, vm_23])), (hs, .inl (cI, 45, .inl f)), (ws, .inl (cI, 1080, .inl wf))]) [0, 1, 2] rfl
      have hD9 := hD.sub (ws' := [(md, .inr (6, [.int 0, vm_1, vm_2, vm_3, vm_4, .ref hs, vm_6, vm_7, .ref ws, .int (nI ac), vm_10, vm_11, vm_12, vm_13, vm_14, vm_15, vm_16, vm_17, vm_18, vm_19, vm_20, vm_21, vm_22, vm_23])), (hs, .inl (cI, 45, .inl f)), (ws, .inl (cI, 1080, .inl wf))]) [0, 1, 2] (by decide) rfl
      exact wt_iret hx hb hr hlocks hP9 hD9 hS ⟨f, wf, ac, rfl, ⟨hrk, by omega, hwk⟩⟩ dX6_minutes_29
  · skip
    refine lv_ldc hx hb hown wc189 dX6_minutes_12 ?_
    have hP9 := hP.sub (ws' := [(md, .inr (6, [.int 0, vm_1, vm_2, vm_3, vm_4, .ref hs, vm_6, vm_7, .ref ws, .int (nI ac), vm_10, vm_11, vm_12, vm_13, vm_14, vm_15, vm_16, vm_17, vm_18, vm_19, vm_20, vm_21, vm_22, vm_23])), (hs, .inl (cI, 45, .inl f)), (ws, .inl (cI, 1080, .inl wf))]) [0, 1, 2] rfl
    have hD9 := hD.sub (ws' := [(md, .inr (6, [.int 0, vm_1, vm_2, vm_3, vm_4, .ref hs, vm_6, vm_7, .ref ws, .int (nI ac), vm_10, vm_11, vm_12, vm_13, vm_14, vm_15, vm_16, vm_17, vm_18, vm_19, vm_20, vm_21, vm_22, vm_23])), (hs, .inl (cI, 45, .inl f)), (ws, .inl (cI, 1080, .inl wf))]) [0, 1, 2] (by decide) rfl
    exact wt_iret hx hb hr hlocks hP9 hD9 hS ⟨f, wf, ac, rfl, ⟨hrk, by omega, hwk⟩⟩ dX6_minutes_14
set_option maxHeartbeats 4000000 in
set_option maxRecDepth 100000 in
theorem c_X6_carry (l : Launch) (D : va_G) (cI cZ cH : ClassId) (md hs : Nat) (R T : Nat) (f : Nat → Int32) (ws : Nat) (ac : Nat) (wf : Nat → Int32) (a1 a2 : Int32) (vm_0 vm_1 vm_2 vm_3 vm_4 vm_6 vm_7 vm_10 vm_11 vm_12 vm_13 vm_14 vm_15 vm_16 vm_17 vm_18 vm_19 vm_20 vm_21 vm_22 vm_23 : Value) (hR5 : R ≤ 5) (hT6 : T ≤ 6) (hrk : rk R T f) (hac : ac ≤ 24) (hwk : wk R T ac wf) : wt_M l yX6_carry wsX6_carry ({ frames := 2, cells := 0, slots := 0, locals := 46 } : Room) D (wt_T cI cZ cH) [.ref md, .int a1, .int a2] [(md, .inr (6, [vm_0, vm_1, vm_2, vm_3, vm_4, .ref hs, vm_6, vm_7, .ref ws, .int (nI ac), vm_10, vm_11, vm_12, vm_13, vm_14, vm_15, vm_16, vm_17, vm_18, vm_19, vm_20, vm_21, vm_22, vm_23])), (hs, .inl (cI, 45, .inl f)), (ws, .inl (cI, 1080, .inl wf))] (wt_QI D (fun r w => ∃ (f2 wf2 : Nat → Int32) (ac2 : Nat), w = [(md, .inr (6, [.int 0, vm_1, vm_2, vm_3, vm_4, .ref hs, vm_6, vm_7, .ref ws, .int (nI ac2), vm_10, vm_11, vm_12, vm_13, vm_14, vm_15, vm_16, vm_17, vm_18, vm_19, vm_20, vm_21, vm_22, vm_23])), (hs, .inl (cI, 45, .inl f2)), (ws, .inl (cI, 1080, .inl wf2))] ∧ rk R T f2 ∧ ac2 ≤ 24 ∧ wk R T ac2 wf2)) := by
  refine wt_M.ofW (cc := cX6_carry) (maxL := 4) (ret := (some .int)) (by decide) rfl (Nat.le_of_ble_eq_true rfl) ?_
  intro p e s m below meth c A ls hx hb hr hts hown hlocks hml hnm hP hK hD hA hS hl
  have hP : va_P D vwCl [(md, .inr (6, [vm_0, vm_1, vm_2, vm_3, vm_4, .ref hs, vm_6, vm_7, .ref ws, .int (nI ac), vm_10, vm_11, vm_12, vm_13, vm_14, vm_15, vm_16, vm_17, vm_18, vm_19, vm_20, vm_21, vm_22, vm_23])), (hs, .inl (cI, 45, .inl f)), (ws, .inl (cI, 1080, .inl wf))] s.heap := hP
  have hown : s.vm.findClass RX6 = some m.cls := hown
  have hl : lv_has ls 4 [(0, .ref md), (1, .int a1), (2, .int a2)] := hl
  have hi6 : ∀ w ∈ u_ws RX6 TX6 24, w ∈ wsX6_carry := by decide +kernel
  have wc189 := hts (.constant RX6 189 (-1000002)) (by decide +kernel)
  have wc67 := hts (.constant RX6 67 (-1000001)) (by decide +kernel)
  have wf19 := hts (.fieldLink RX6 19 "WarmTubesModel" "house" "[I") (by decide +kernel)
  have wf47 := hts (.fieldLink RX6 47 "WarmTubesModel" "thrown" "I") (by decide +kernel)
  refine lv_aload_n hx hb dX6_carry_0 rfl (lv_at hl 0 rfl) ?_
  refine lv_iconst (v := 0) hx hb dX6_carry_1 (by decide) ?_
  refine va_put (D := D) (ci := 6) (v := .int 0) (ty := .int) (C := RX6) (T := TX6) (N := 24) hx hb hts hi6 tyX6 tyX6_ok nmX6 hown hK.1 hP hD hS 0 rfl rfl 0 (by decide) wf47 (fun _ h9 => h9) rfl (by decide +kernel) rfl rfl (Nat.le_of_ble_eq_true rfl) dX6_carry_2 (fun H locs hP hD hS => ?_)
  have hP : va_P D vwCl [(md, .inr (6, [.int 0, vm_1, vm_2, vm_3, vm_4, .ref hs, vm_6, vm_7, .ref ws, .int (nI ac), vm_10, vm_11, vm_12, vm_13, vm_14, vm_15, vm_16, vm_17, vm_18, vm_19, vm_20, vm_21, vm_22, vm_23])), (hs, .inl (cI, 45, .inl f)), (ws, .inl (cI, 1080, .inl wf))] H := hP
  have hD : va_D A [(md, .inr (6, [.int 0, vm_1, vm_2, vm_3, vm_4, .ref hs, vm_6, vm_7, .ref ws, .int (nI ac), vm_10, vm_11, vm_12, vm_13, vm_14, vm_15, vm_16, vm_17, vm_18, vm_19, vm_20, vm_21, vm_22, vm_23])), (hs, .inl (cI, 45, .inl f)), (ws, .inl (cI, 1080, .inl wf))] := hD
  refine lv_aload_n hx hb dX6_carry_5 rfl (lv_at hl 0 rfl) ?_
  refine lv_iload_n hx hb dX6_carry_6 rfl (lv_at hl 1 rfl) ?_
  refine wt_rV (As := [.int a1]) (rest := []) ⟨hx, hb, hml, hown, hts⟩ (c_X6_isTube l D cI cZ cH md hs R T f a1 (.int 0) vm_1 vm_2 vm_3 vm_4 vm_6 vm_7 (.ref ws) (.int (nI ac)) vm_10 vm_11 vm_12 vm_13 vm_14 vm_15 vm_16 vm_17 vm_18 vm_19 vm_20 vm_21 vm_22 vm_23 (by first | assumption | omega) (by first | assumption | omega) (by first | assumption | omega)) (cwV 1 hts gX6_carry_X6_isTube rfl rfl rfl (by decide +kernel) ⟨Nat.le_of_ble_eq_true rfl, Nat.le_of_ble_eq_true rfl⟩) hK hP [0, 1] rfl (va_recv hK.1 hP (ci := 6) (q0 := 0) rfl rfl) rfl hl.1 rfl (Nat.le_of_ble_eq_true rfl) dX6_carry_7 ⟨Nat.le_of_ble_eq_true rfl, Nat.le_of_ble_eq_true rfl⟩ (fun r_1 e_2 => ?_)
  subst e_2
  refine lv_if_eq (tgt := 21) hx hb dX6_carry_10 (by decide) (fun c_3 => ?_) (fun c_3 => ?_)
  · skip
    refine lv_ldc hx hb hown wc67 dX6_carry_21 ?_
    have hP9 := hP.sub (ws' := [(md, .inr (6, [.int 0, vm_1, vm_2, vm_3, vm_4, .ref hs, vm_6, vm_7, .ref ws, .int (nI ac), vm_10, vm_11, vm_12, vm_13, vm_14, vm_15, vm_16, vm_17, vm_18, vm_19, vm_20, vm_21, vm_22, vm_23])), (hs, .inl (cI, 45, .inl f)), (ws, .inl (cI, 1080, .inl wf))]) [0, 1, 2] rfl
    have hD9 := hD.sub (ws' := [(md, .inr (6, [.int 0, vm_1, vm_2, vm_3, vm_4, .ref hs, vm_6, vm_7, .ref ws, .int (nI ac), vm_10, vm_11, vm_12, vm_13, vm_14, vm_15, vm_16, vm_17, vm_18, vm_19, vm_20, vm_21, vm_22, vm_23])), (hs, .inl (cI, 45, .inl f)), (ws, .inl (cI, 1080, .inl wf))]) [0, 1, 2] (by decide) rfl
    exact wt_iret hx hb hr hlocks hP9 hD9 hS ⟨f, wf, ac, rfl, ⟨hrk, by omega, hwk⟩⟩ dX6_carry_23
  · skip
    obtain ⟨j_4, hj_4, rfl⟩ := wI_natT (T := T) (by omega) c_3
    refine lv_aload_n hx hb dX6_carry_13 rfl (lv_at hl 0 rfl) ?_
    refine lv_iload_n hx hb dX6_carry_14 rfl (lv_at hl 2 rfl) ?_
    refine wt_rV (As := [.int a2]) (rest := []) ⟨hx, hb, hml, hown, hts⟩ (c_X6_isPlace l D cI cZ cH md hs R T f a2 (.int 0) vm_1 vm_2 vm_3 vm_4 vm_6 vm_7 (.ref ws) (.int (nI ac)) vm_10 vm_11 vm_12 vm_13 vm_14 vm_15 vm_16 vm_17 vm_18 vm_19 vm_20 vm_21 vm_22 vm_23 (by first | assumption | omega) (by first | assumption | omega) (by first | assumption | omega)) (cwV 1 hts gX6_carry_X6_isPlace rfl rfl rfl (by decide +kernel) ⟨Nat.le_of_ble_eq_true rfl, Nat.le_of_ble_eq_true rfl⟩) hK hP [0, 1] rfl (va_recv hK.1 hP (ci := 6) (q0 := 0) rfl rfl) rfl hl.1 rfl (Nat.le_of_ble_eq_true rfl) dX6_carry_15 ⟨Nat.le_of_ble_eq_true rfl, Nat.le_of_ble_eq_true rfl⟩ (fun r_5 e_6 => ?_)
    subst e_6
    refine lv_if_ne (tgt := 24) hx hb dX6_carry_18 (by decide) (fun c_7 => ?_) (fun c_7 => ?_)
    · skip
      obtain ⟨h0j_8, j_8, hj_8, rfl⟩ := gP_nat (R := R) (by omega) c_7
      refine lv_aload_n hx hb dX6_carry_24 rfl (lv_at hl 0 rfl) ?_
      refine va_get (D := D) (ci := 6) (v := .ref hs) (C := RX6) (T := TX6) (N := 24) hx hb hts hi6 hown hK.1 hP 0 rfl rfl 5 (by decide) wf19 (fun _ h9 => h9) rfl dX6_carry_25 ?_
      refine lv_iload_n hx hb dX6_carry_28 rfl (lv_at hl 1 rfl) ?_
      refine lv_iconst (v := 1) hx hb dX6_carry_29 (by decide) ?_
      refine wt_rS (As := [.ref hs, .int (nI j_4), .int 1]) (rest := []) ⟨hx, hb, hml, hown, hts⟩ (c_X6_of_1 l D cI cZ cH hs R T f j_4 (by first | assumption | omega) (by first | assumption | omega) (by first | assumption | omega) (by first | assumption | omega)) (va_cwS 3 hts gX6_carry_X6_of rfl rfl rfl (by decide +kernel) ⟨Nat.le_of_ble_eq_true rfl, Nat.le_of_ble_eq_true rfl⟩) hK hP [1] rfl rfl hl.1 rfl (Nat.le_of_ble_eq_true rfl) dX6_carry_30 ⟨Nat.le_of_ble_eq_true rfl, Nat.le_of_ble_eq_true rfl⟩ (fun r_9 e_10 => ?_)
      obtain ⟨q_11, e_10, rfl⟩ := e_10
      refine lv_istore_n (lv' := [(3, .int (nI q_11)), (0, .ref md), (1, .int (nI j_4)), (2, .int (nI j_8))]) hx hb dX6_carry_33 rfl hl (by decide) rfl (fun ls hl => ?_)
      refine lv_iload_n hx hb dX6_carry_34 rfl (lv_at hl 0 rfl) ?_
      refine lv_iload_n hx hb dX6_carry_35 rfl (lv_at hl 3 rfl) ?_
      refine lv_icmp_ne (tgt := 42) hx hb dX6_carry_36 (by decide) (fun c_12 => ?_) (fun c_12 => ?_)
      · skip
        have c_12 : ¬ (q_11 = j_8) := fun h => c_12 ((nI_eq (a := q_11) (b := j_8) (by omega) (by omega)).mpr h)
        refine lv_aload_n hx hb dX6_carry_42 rfl (lv_at hl 1 rfl) ?_
        refine wt_goV (wr := []) (wt_runV (As := []) (rest := []) ⟨hx, hb, hml, hown, hts⟩ (c_X6_keep l D cI cZ cH md hs R T f ws ac wf (.int 0) vm_1 vm_2 vm_3 vm_4 vm_6 vm_7 vm_10 vm_11 vm_12 vm_13 vm_14 vm_15 vm_16 vm_17 vm_18 vm_19 vm_20 vm_21 vm_22 vm_23 (by first | assumption | omega) (by first | assumption | omega) (by first | assumption | omega) (by first | assumption | omega) (by first | assumption | omega)) (cwV 0 hts gX6_carry_X6_keep rfl rfl rfl (by decide +kernel) ⟨Nat.le_of_ble_eq_true rfl, Nat.le_of_ble_eq_true rfl⟩) hK hP hD [0, 1, 2] rfl (by decide) (va_recv hK.1 hP (ci := 6) (q0 := 0) rfl rfl) rfl hl.1 rfl (Nat.le_of_ble_eq_true rfl) dX6_carry_43 ⟨Nat.le_of_ble_eq_true rfl, Nat.le_of_ble_eq_true rfl⟩) hP hD hS hA [0, 1, 2] [] rfl rfl (by decide) (by decide) (fun w_14 H locs h_15 hP hD hS => ?_)
        obtain ⟨wf2_16, ac2_17, rfl, x_18⟩ := h_15
        have hP : va_P D vwCl [(md, .inr (6, [.int 0, vm_1, vm_2, vm_3, vm_4, .ref hs, vm_6, vm_7, .ref ws, .int (nI ac2_17), vm_10, vm_11, vm_12, vm_13, vm_14, vm_15, vm_16, vm_17, vm_18, vm_19, vm_20, vm_21, vm_22, vm_23])), (hs, .inl (cI, 45, .inl f)), (ws, .inl (cI, 1080, .inl wf2_16))] H := hP
        have hD : va_D A [(md, .inr (6, [.int 0, vm_1, vm_2, vm_3, vm_4, .ref hs, vm_6, vm_7, .ref ws, .int (nI ac2_17), vm_10, vm_11, vm_12, vm_13, vm_14, vm_15, vm_16, vm_17, vm_18, vm_19, vm_20, vm_21, vm_22, vm_23])), (hs, .inl (cI, 45, .inl f)), (ws, .inl (cI, 1080, .inl wf2_16))] := hD
        obtain ⟨acx_19, acx_20, wkx_21⟩ := x_18
        refine lv_aload_n hx hb dX6_carry_46 rfl (lv_at hl 1 rfl) ?_
        refine va_get (D := D) (ci := 6) (v := .ref hs) (C := RX6) (T := TX6) (N := 24) hx hb hts hi6 hown hK.1 hP 0 rfl rfl 5 (by decide) wf19 (fun _ h9 => h9) rfl dX6_carry_47 ?_
        refine lv_iload_n hx hb dX6_carry_50 rfl (lv_at hl 2 rfl) ?_
        refine lv_iconst (v := 1) hx hb dX6_carry_51 (by decide) ?_
        refine lv_iload_n hx hb dX6_carry_52 rfl (lv_at hl 3 rfl) ?_
        refine wt_goV (wr := [(md, .inr (6, [.int 0, vm_1, vm_2, vm_3, vm_4, .ref hs, vm_6, vm_7, .ref ws, .int (nI ac2_17), vm_10, vm_11, vm_12, vm_13, vm_14, vm_15, vm_16, vm_17, vm_18, vm_19, vm_20, vm_21, vm_22, vm_23])), (ws, .inl (cI, 1080, .inl wf2_16))]) (wt_runS (As := [.ref hs, .int (nI j_4), .int 1, .int (nI j_8)]) (rest := []) ⟨hx, hb, hml, hown, hts⟩ (c_X6_be_1 l D cI cZ cH hs R T f j_4 j_8 (by first | assumption | omega) (by first | assumption | omega) (by first | assumption | omega) (by first | assumption | omega) (by first | assumption | omega)) (va_cwS 4 hts gX6_carry_X6_be rfl rfl rfl (by decide +kernel) ⟨Nat.le_of_ble_eq_true rfl, Nat.le_of_ble_eq_true rfl⟩) hK hP hD [1] rfl (by decide) rfl hl.1 rfl (Nat.le_of_ble_eq_true rfl) dX6_carry_53 ⟨Nat.le_of_ble_eq_true rfl, Nat.le_of_ble_eq_true rfl⟩) hP hD hS hA [1] [0, 2] rfl rfl (by decide) (by decide) (fun w_23 H locs h_24 hP hD hS => ?_)
        obtain ⟨f2_25, rfl, x_26⟩ := h_24
        have hP : va_P D vwCl [(md, .inr (6, [.int 0, vm_1, vm_2, vm_3, vm_4, .ref hs, vm_6, vm_7, .ref ws, .int (nI ac2_17), vm_10, vm_11, vm_12, vm_13, vm_14, vm_15, vm_16, vm_17, vm_18, vm_19, vm_20, vm_21, vm_22, vm_23])), (ws, .inl (cI, 1080, .inl wf2_16)), (hs, .inl (cI, 45, .inl f2_25))] H := hP
        have hD : va_D A [(md, .inr (6, [.int 0, vm_1, vm_2, vm_3, vm_4, .ref hs, vm_6, vm_7, .ref ws, .int (nI ac2_17), vm_10, vm_11, vm_12, vm_13, vm_14, vm_15, vm_16, vm_17, vm_18, vm_19, vm_20, vm_21, vm_22, vm_23])), (ws, .inl (cI, 1080, .inl wf2_16)), (hs, .inl (cI, 45, .inl f2_25))] := hD
        refine lv_iload_n hx hb dX6_carry_56 rfl (lv_at hl 0 rfl) ?_
        have hP9 := hP.sub (ws' := [(md, .inr (6, [.int 0, vm_1, vm_2, vm_3, vm_4, .ref hs, vm_6, vm_7, .ref ws, .int (nI ac2_17), vm_10, vm_11, vm_12, vm_13, vm_14, vm_15, vm_16, vm_17, vm_18, vm_19, vm_20, vm_21, vm_22, vm_23])), (hs, .inl (cI, 45, .inl f2_25)), (ws, .inl (cI, 1080, .inl wf2_16))]) [0, 2, 1] rfl
        have hD9 := hD.sub (ws' := [(md, .inr (6, [.int 0, vm_1, vm_2, vm_3, vm_4, .ref hs, vm_6, vm_7, .ref ws, .int (nI ac2_17), vm_10, vm_11, vm_12, vm_13, vm_14, vm_15, vm_16, vm_17, vm_18, vm_19, vm_20, vm_21, vm_22, vm_23])), (hs, .inl (cI, 45, .inl f2_25)), (ws, .inl (cI, 1080, .inl wf2_16))]) [0, 2, 1] (by decide) rfl
        exact wt_iret hx hb hr hlocks hP9 hD9 hS ⟨f2_25, wf2_16, ac2_17, rfl, ⟨x_26, by omega, wkx_21⟩⟩ dX6_carry_57
      · skip
        have c_12 : q_11 = j_8 := (nI_eq (a := q_11) (b := j_8) (by omega) (by omega)).mp c_12
        refine lv_ldc hx hb hown wc189 dX6_carry_39 ?_
        have hP9 := hP.sub (ws' := [(md, .inr (6, [.int 0, vm_1, vm_2, vm_3, vm_4, .ref hs, vm_6, vm_7, .ref ws, .int (nI ac), vm_10, vm_11, vm_12, vm_13, vm_14, vm_15, vm_16, vm_17, vm_18, vm_19, vm_20, vm_21, vm_22, vm_23])), (hs, .inl (cI, 45, .inl f)), (ws, .inl (cI, 1080, .inl wf))]) [0, 1, 2] rfl
        have hD9 := hD.sub (ws' := [(md, .inr (6, [.int 0, vm_1, vm_2, vm_3, vm_4, .ref hs, vm_6, vm_7, .ref ws, .int (nI ac), vm_10, vm_11, vm_12, vm_13, vm_14, vm_15, vm_16, vm_17, vm_18, vm_19, vm_20, vm_21, vm_22, vm_23])), (hs, .inl (cI, 45, .inl f)), (ws, .inl (cI, 1080, .inl wf))]) [0, 1, 2] (by decide) rfl
        exact wt_iret hx hb hr hlocks hP9 hD9 hS ⟨f, wf, ac, rfl, ⟨hrk, by omega, hwk⟩⟩ dX6_carry_41
    · skip
      refine lv_ldc hx hb hown wc67 dX6_carry_21 ?_
      have hP9 := hP.sub (ws' := [(md, .inr (6, [.int 0, vm_1, vm_2, vm_3, vm_4, .ref hs, vm_6, vm_7, .ref ws, .int (nI ac), vm_10, vm_11, vm_12, vm_13, vm_14, vm_15, vm_16, vm_17, vm_18, vm_19, vm_20, vm_21, vm_22, vm_23])), (hs, .inl (cI, 45, .inl f)), (ws, .inl (cI, 1080, .inl wf))]) [0, 1, 2] rfl
      have hD9 := hD.sub (ws' := [(md, .inr (6, [.int 0, vm_1, vm_2, vm_3, vm_4, .ref hs, vm_6, vm_7, .ref ws, .int (nI ac), vm_10, vm_11, vm_12, vm_13, vm_14, vm_15, vm_16, vm_17, vm_18, vm_19, vm_20, vm_21, vm_22, vm_23])), (hs, .inl (cI, 45, .inl f)), (ws, .inl (cI, 1080, .inl wf))]) [0, 1, 2] (by decide) rfl
      exact wt_iret hx hb hr hlocks hP9 hD9 hS ⟨f, wf, ac, rfl, ⟨hrk, by omega, hwk⟩⟩ dX6_carry_23
set_option maxHeartbeats 4000000 in
set_option maxRecDepth 100000 in
theorem c_X6_shake (l : Launch) (D : va_G) (cI cZ cH : ClassId) (md hs : Nat) (R T : Nat) (f : Nat → Int32) (ws : Nat) (ac : Nat) (wf : Nat → Int32) (a1 : Int32) (vm_0 vm_1 vm_2 vm_3 vm_4 vm_6 vm_7 vm_10 vm_11 vm_12 vm_13 vm_14 vm_15 vm_16 vm_17 vm_18 vm_19 vm_20 vm_21 vm_22 vm_23 : Value) (hR5 : R ≤ 5) (hT6 : T ≤ 6) (hrk : rk R T f) (hac : ac ≤ 24) (hwk : wk R T ac wf) : wt_M l yX6_shake wsX6_shake ({ frames := 3, cells := 0, slots := 0, locals := 66 } : Room) D (wt_T cI cZ cH) [.ref md, .int a1] [(md, .inr (6, [vm_0, vm_1, vm_2, vm_3, vm_4, .ref hs, vm_6, vm_7, .ref ws, .int (nI ac), vm_10, vm_11, vm_12, vm_13, vm_14, vm_15, vm_16, vm_17, vm_18, vm_19, vm_20, vm_21, vm_22, vm_23])), (hs, .inl (cI, 45, .inl f)), (ws, .inl (cI, 1080, .inl wf))] (wt_QI D (fun r w => ∃ (f2 wf2 : Nat → Int32) (ac2 : Nat), w = [(md, .inr (6, [.int 0, vm_1, vm_2, vm_3, vm_4, .ref hs, vm_6, vm_7, .ref ws, .int (nI ac2), vm_10, vm_11, vm_12, vm_13, vm_14, vm_15, vm_16, vm_17, vm_18, vm_19, vm_20, vm_21, vm_22, vm_23])), (hs, .inl (cI, 45, .inl f2)), (ws, .inl (cI, 1080, .inl wf2))] ∧ rk R T f2 ∧ ac2 ≤ 24 ∧ wk R T ac2 wf2)) := by
  refine wt_M.ofW (cc := cX6_shake) (maxL := 2) (ret := (some .int)) (by decide) rfl (Nat.le_of_ble_eq_true rfl) ?_
  intro p e s m below meth c A ls hx hb hr hts hown hlocks hml hnm hP hK hD hA hS hl
  have hP : va_P D vwCl [(md, .inr (6, [vm_0, vm_1, vm_2, vm_3, vm_4, .ref hs, vm_6, vm_7, .ref ws, .int (nI ac), vm_10, vm_11, vm_12, vm_13, vm_14, vm_15, vm_16, vm_17, vm_18, vm_19, vm_20, vm_21, vm_22, vm_23])), (hs, .inl (cI, 45, .inl f)), (ws, .inl (cI, 1080, .inl wf))] s.heap := hP
  have hown : s.vm.findClass RX6 = some m.cls := hown
  have hl : lv_has ls 2 [(0, .ref md), (1, .int a1)] := hl
  have hi6 : ∀ w ∈ u_ws RX6 TX6 24, w ∈ wsX6_shake := by decide +kernel
  have wc189 := hts (.constant RX6 189 (-1000002)) (by decide +kernel)
  have wc67 := hts (.constant RX6 67 (-1000001)) (by decide +kernel)
  have wf19 := hts (.fieldLink RX6 19 "WarmTubesModel" "house" "[I") (by decide +kernel)
  have wf47 := hts (.fieldLink RX6 47 "WarmTubesModel" "thrown" "I") (by decide +kernel)
  refine lv_aload_n hx hb dX6_shake_0 rfl (lv_at hl 0 rfl) ?_
  refine lv_iconst (v := 0) hx hb dX6_shake_1 (by decide) ?_
  refine va_put (D := D) (ci := 6) (v := .int 0) (ty := .int) (C := RX6) (T := TX6) (N := 24) hx hb hts hi6 tyX6 tyX6_ok nmX6 hown hK.1 hP hD hS 0 rfl rfl 0 (by decide) wf47 (fun _ h9 => h9) rfl (by decide +kernel) rfl rfl (Nat.le_of_ble_eq_true rfl) dX6_shake_2 (fun H locs hP hD hS => ?_)
  have hP : va_P D vwCl [(md, .inr (6, [.int 0, vm_1, vm_2, vm_3, vm_4, .ref hs, vm_6, vm_7, .ref ws, .int (nI ac), vm_10, vm_11, vm_12, vm_13, vm_14, vm_15, vm_16, vm_17, vm_18, vm_19, vm_20, vm_21, vm_22, vm_23])), (hs, .inl (cI, 45, .inl f)), (ws, .inl (cI, 1080, .inl wf))] H := hP
  have hD : va_D A [(md, .inr (6, [.int 0, vm_1, vm_2, vm_3, vm_4, .ref hs, vm_6, vm_7, .ref ws, .int (nI ac), vm_10, vm_11, vm_12, vm_13, vm_14, vm_15, vm_16, vm_17, vm_18, vm_19, vm_20, vm_21, vm_22, vm_23])), (hs, .inl (cI, 45, .inl f)), (ws, .inl (cI, 1080, .inl wf))] := hD
  refine lv_aload_n hx hb dX6_shake_5 rfl (lv_at hl 0 rfl) ?_
  refine lv_iload_n hx hb dX6_shake_6 rfl (lv_at hl 1 rfl) ?_
  refine wt_rV (As := [.int a1]) (rest := []) ⟨hx, hb, hml, hown, hts⟩ (c_X6_isTube l D cI cZ cH md hs R T f a1 (.int 0) vm_1 vm_2 vm_3 vm_4 vm_6 vm_7 (.ref ws) (.int (nI ac)) vm_10 vm_11 vm_12 vm_13 vm_14 vm_15 vm_16 vm_17 vm_18 vm_19 vm_20 vm_21 vm_22 vm_23 (by first | assumption | omega) (by first | assumption | omega) (by first | assumption | omega)) (cwV 1 hts gX6_shake_X6_isTube rfl rfl rfl (by decide +kernel) ⟨Nat.le_of_ble_eq_true rfl, Nat.le_of_ble_eq_true rfl⟩) hK hP [0, 1] rfl (va_recv hK.1 hP (ci := 6) (q0 := 0) rfl rfl) rfl hl.1 rfl (Nat.le_of_ble_eq_true rfl) dX6_shake_7 ⟨Nat.le_of_ble_eq_true rfl, Nat.le_of_ble_eq_true rfl⟩ (fun r_1 e_2 => ?_)
  subst e_2
  refine lv_if_ne (tgt := 16) hx hb dX6_shake_10 (by decide) (fun c_3 => ?_) (fun c_3 => ?_)
  · skip
    obtain ⟨j_4, hj_4, rfl⟩ := wI_natT (T := T) (by omega) c_3
    refine lv_aload_n hx hb dX6_shake_16 rfl (lv_at hl 0 rfl) ?_
    refine va_get (D := D) (ci := 6) (v := .ref hs) (C := RX6) (T := TX6) (N := 24) hx hb hts hi6 hown hK.1 hP 0 rfl rfl 5 (by decide) wf19 (fun _ h9 => h9) rfl dX6_shake_17 ?_
    refine lv_iload_n hx hb dX6_shake_20 rfl (lv_at hl 1 rfl) ?_
    refine lv_iconst (v := 4) hx hb dX6_shake_21 (by decide) ?_
    refine wt_rS (As := [.ref hs, .int (nI j_4), .int 4]) (rest := []) ⟨hx, hb, hml, hown, hts⟩ (c_X6_of_w l D cI cZ cH hs R T f j_4 4 (by first | assumption | omega) (by first | assumption | omega) (by first | assumption | omega) (by first | assumption | omega) (by first | assumption | omega)) (va_cwS 3 hts gX6_shake_X6_of rfl rfl rfl (by decide +kernel) ⟨Nat.le_of_ble_eq_true rfl, Nat.le_of_ble_eq_true rfl⟩) hK hP [1] rfl rfl hl.1 rfl (Nat.le_of_ble_eq_true rfl) dX6_shake_22 ⟨Nat.le_of_ble_eq_true rfl, Nat.le_of_ble_eq_true rfl⟩ (fun r_5 e_6 => ?_)
    refine lv_if_ne (tgt := 31) hx hb dX6_shake_25 (by decide) (fun c_7 => ?_) (fun c_7 => ?_)
    · skip
      refine lv_aload_n hx hb dX6_shake_31 rfl (lv_at hl 0 rfl) ?_
      refine wt_goV (wr := []) (wt_runV (As := []) (rest := []) ⟨hx, hb, hml, hown, hts⟩ (c_X6_keep l D cI cZ cH md hs R T f ws ac wf (.int 0) vm_1 vm_2 vm_3 vm_4 vm_6 vm_7 vm_10 vm_11 vm_12 vm_13 vm_14 vm_15 vm_16 vm_17 vm_18 vm_19 vm_20 vm_21 vm_22 vm_23 (by first | assumption | omega) (by first | assumption | omega) (by first | assumption | omega) (by first | assumption | omega) (by first | assumption | omega)) (cwV 0 hts gX6_shake_X6_keep rfl rfl rfl (by decide +kernel) ⟨Nat.le_of_ble_eq_true rfl, Nat.le_of_ble_eq_true rfl⟩) hK hP hD [0, 1, 2] rfl (by decide) (va_recv hK.1 hP (ci := 6) (q0 := 0) rfl rfl) rfl hl.1 rfl (Nat.le_of_ble_eq_true rfl) dX6_shake_32 ⟨Nat.le_of_ble_eq_true rfl, Nat.le_of_ble_eq_true rfl⟩) hP hD hS hA [0, 1, 2] [] rfl rfl (by decide) (by decide) (fun w_9 H locs h_10 hP hD hS => ?_)
      obtain ⟨wf2_11, ac2_12, rfl, x_13⟩ := h_10
      have hP : va_P D vwCl [(md, .inr (6, [.int 0, vm_1, vm_2, vm_3, vm_4, .ref hs, vm_6, vm_7, .ref ws, .int (nI ac2_12), vm_10, vm_11, vm_12, vm_13, vm_14, vm_15, vm_16, vm_17, vm_18, vm_19, vm_20, vm_21, vm_22, vm_23])), (hs, .inl (cI, 45, .inl f)), (ws, .inl (cI, 1080, .inl wf2_11))] H := hP
      have hD : va_D A [(md, .inr (6, [.int 0, vm_1, vm_2, vm_3, vm_4, .ref hs, vm_6, vm_7, .ref ws, .int (nI ac2_12), vm_10, vm_11, vm_12, vm_13, vm_14, vm_15, vm_16, vm_17, vm_18, vm_19, vm_20, vm_21, vm_22, vm_23])), (hs, .inl (cI, 45, .inl f)), (ws, .inl (cI, 1080, .inl wf2_11))] := hD
      obtain ⟨acx_14, acx_15, wkx_16⟩ := x_13
      refine lv_aload_n hx hb dX6_shake_35 rfl (lv_at hl 0 rfl) ?_
      refine va_get (D := D) (ci := 6) (v := .ref hs) (C := RX6) (T := TX6) (N := 24) hx hb hts hi6 hown hK.1 hP 0 rfl rfl 5 (by decide) wf19 (fun _ h9 => h9) rfl dX6_shake_36 ?_
      refine lv_iload_n hx hb dX6_shake_39 rfl (lv_at hl 1 rfl) ?_
      refine wt_goI (wr := [(md, .inr (6, [.int 0, vm_1, vm_2, vm_3, vm_4, .ref hs, vm_6, vm_7, .ref ws, .int (nI ac2_12), vm_10, vm_11, vm_12, vm_13, vm_14, vm_15, vm_16, vm_17, vm_18, vm_19, vm_20, vm_21, vm_22, vm_23])), (ws, .inl (cI, 1080, .inl wf2_11))]) (wt_runS (As := [.ref hs, .int (nI j_4)]) (rest := []) ⟨hx, hb, hml, hown, hts⟩ (c_X6_shaken l D cI cZ cH hs R T f j_4 (by first | assumption | omega) (by first | assumption | omega) (by first | assumption | omega) (by first | assumption | omega)) (va_cwS 2 hts gX6_shake_X6_shaken rfl rfl rfl (by decide +kernel) ⟨Nat.le_of_ble_eq_true rfl, Nat.le_of_ble_eq_true rfl⟩) hK hP hD [1] rfl (by decide) rfl hl.1 rfl (Nat.le_of_ble_eq_true rfl) dX6_shake_40 ⟨Nat.le_of_ble_eq_true rfl, Nat.le_of_ble_eq_true rfl⟩) hP hD hS hA [1] [0, 2] rfl rfl (by decide) (by decide) (fun r_17 w_18 H locs h_19 hP hD hS => ?_)
      obtain ⟨f2_20, rfl, x_21⟩ := h_19
      have hP : va_P D vwCl [(md, .inr (6, [.int 0, vm_1, vm_2, vm_3, vm_4, .ref hs, vm_6, vm_7, .ref ws, .int (nI ac2_12), vm_10, vm_11, vm_12, vm_13, vm_14, vm_15, vm_16, vm_17, vm_18, vm_19, vm_20, vm_21, vm_22, vm_23])), (ws, .inl (cI, 1080, .inl wf2_11)), (hs, .inl (cI, 45, .inl f2_20))] H := hP
      have hD : va_D A [(md, .inr (6, [.int 0, vm_1, vm_2, vm_3, vm_4, .ref hs, vm_6, vm_7, .ref ws, .int (nI ac2_12), vm_10, vm_11, vm_12, vm_13, vm_14, vm_15, vm_16, vm_17, vm_18, vm_19, vm_20, vm_21, vm_22, vm_23])), (ws, .inl (cI, 1080, .inl wf2_11)), (hs, .inl (cI, 45, .inl f2_20))] := hD
      have hP9 := hP.sub (ws' := [(md, .inr (6, [.int 0, vm_1, vm_2, vm_3, vm_4, .ref hs, vm_6, vm_7, .ref ws, .int (nI ac2_12), vm_10, vm_11, vm_12, vm_13, vm_14, vm_15, vm_16, vm_17, vm_18, vm_19, vm_20, vm_21, vm_22, vm_23])), (hs, .inl (cI, 45, .inl f2_20)), (ws, .inl (cI, 1080, .inl wf2_11))]) [0, 2, 1] rfl
      have hD9 := hD.sub (ws' := [(md, .inr (6, [.int 0, vm_1, vm_2, vm_3, vm_4, .ref hs, vm_6, vm_7, .ref ws, .int (nI ac2_12), vm_10, vm_11, vm_12, vm_13, vm_14, vm_15, vm_16, vm_17, vm_18, vm_19, vm_20, vm_21, vm_22, vm_23])), (hs, .inl (cI, 45, .inl f2_20)), (ws, .inl (cI, 1080, .inl wf2_11))]) [0, 2, 1] (by decide) rfl
      exact wt_iret hx hb hr hlocks hP9 hD9 hS ⟨f2_20, wf2_11, ac2_12, rfl, ⟨x_21, by omega, wkx_16⟩⟩ dX6_shake_43
    · skip
      refine lv_ldc hx hb hown wc189 dX6_shake_28 ?_
      have hP9 := hP.sub (ws' := [(md, .inr (6, [.int 0, vm_1, vm_2, vm_3, vm_4, .ref hs, vm_6, vm_7, .ref ws, .int (nI ac), vm_10, vm_11, vm_12, vm_13, vm_14, vm_15, vm_16, vm_17, vm_18, vm_19, vm_20, vm_21, vm_22, vm_23])), (hs, .inl (cI, 45, .inl f)), (ws, .inl (cI, 1080, .inl wf))]) [0, 1, 2] rfl
      have hD9 := hD.sub (ws' := [(md, .inr (6, [.int 0, vm_1, vm_2, vm_3, vm_4, .ref hs, vm_6, vm_7, .ref ws, .int (nI ac), vm_10, vm_11, vm_12, vm_13, vm_14, vm_15, vm_16, vm_17, vm_18, vm_19, vm_20, vm_21, vm_22, vm_23])), (hs, .inl (cI, 45, .inl f)), (ws, .inl (cI, 1080, .inl wf))]) [0, 1, 2] (by decide) rfl
      exact wt_iret hx hb hr hlocks hP9 hD9 hS ⟨f, wf, ac, rfl, ⟨hrk, by omega, hwk⟩⟩ dX6_shake_30
  · skip
    refine lv_ldc hx hb hown wc67 dX6_shake_13 ?_
    have hP9 := hP.sub (ws' := [(md, .inr (6, [.int 0, vm_1, vm_2, vm_3, vm_4, .ref hs, vm_6, vm_7, .ref ws, .int (nI ac), vm_10, vm_11, vm_12, vm_13, vm_14, vm_15, vm_16, vm_17, vm_18, vm_19, vm_20, vm_21, vm_22, vm_23])), (hs, .inl (cI, 45, .inl f)), (ws, .inl (cI, 1080, .inl wf))]) [0, 1, 2] rfl
    have hD9 := hD.sub (ws' := [(md, .inr (6, [.int 0, vm_1, vm_2, vm_3, vm_4, .ref hs, vm_6, vm_7, .ref ws, .int (nI ac), vm_10, vm_11, vm_12, vm_13, vm_14, vm_15, vm_16, vm_17, vm_18, vm_19, vm_20, vm_21, vm_22, vm_23])), (hs, .inl (cI, 45, .inl f)), (ws, .inl (cI, 1080, .inl wf))]) [0, 1, 2] (by decide) rfl
    exact wt_iret hx hb hr hlocks hP9 hD9 hS ⟨f, wf, ac, rfl, ⟨hrk, by omega, hwk⟩⟩ dX6_shake_15
set_option maxHeartbeats 4000000 in
set_option maxRecDepth 100000 in
theorem c_X6_pour (l : Launch) (D : va_G) (cI cZ cH : ClassId) (md hs : Nat) (R T : Nat) (f : Nat → Int32) (ws : Nat) (ac : Nat) (wf : Nat → Int32) (tn : Nat) (g : Nat → Int32) (a1 a2 : Int32) (vm_0 vm_1 vm_2 vm_3 vm_4 vm_6 vm_10 vm_11 vm_12 vm_13 vm_14 vm_15 vm_16 vm_17 vm_18 vm_19 vm_20 vm_21 vm_22 vm_23 : Value) (hR5 : R ≤ 5) (hT6 : T ≤ 6) (hrk : rk R T f) (hac : ac ≤ 24) (hwk : wk R T ac wf) : wt_M l yX6_pour wsX6_pour ({ frames := 2, cells := 0, slots := 0, locals := 47 } : Room) D (wt_T cI cZ cH) [.ref md, .int a1, .int a2] [(md, .inr (6, [vm_0, vm_1, vm_2, vm_3, vm_4, .ref hs, vm_6, .ref tn, .ref ws, .int (nI ac), vm_10, vm_11, vm_12, vm_13, vm_14, vm_15, vm_16, vm_17, vm_18, vm_19, vm_20, vm_21, vm_22, vm_23])), (hs, .inl (cI, 45, .inl f)), (ws, .inl (cI, 1080, .inl wf)), (tn, .inl (cI, 45, .inl g))] (wt_QI D (fun r w => ∃ (f2 wf2 g2 : Nat → Int32) (ac2 : Nat), w = [(md, .inr (6, [.int 0, vm_1, vm_2, vm_3, vm_4, .ref hs, vm_6, .ref tn, .ref ws, .int (nI ac2), vm_10, vm_11, vm_12, vm_13, vm_14, vm_15, vm_16, vm_17, vm_18, vm_19, vm_20, vm_21, vm_22, vm_23])), (hs, .inl (cI, 45, .inl f2)), (ws, .inl (cI, 1080, .inl wf2)), (tn, .inl (cI, 45, .inl g2))] ∧ rk R T f2 ∧ ac2 ≤ 24 ∧ wk R T ac2 wf2)) := by
  refine wt_M.ofW (cc := cX6_pour) (maxL := 3) (ret := (some .int)) (by decide) rfl (Nat.le_of_ble_eq_true rfl) ?_
  intro p e s m below meth c A ls hx hb hr hts hown hlocks hml hnm hP hK hD hA hS hl
  have hP : va_P D vwCl [(md, .inr (6, [vm_0, vm_1, vm_2, vm_3, vm_4, .ref hs, vm_6, .ref tn, .ref ws, .int (nI ac), vm_10, vm_11, vm_12, vm_13, vm_14, vm_15, vm_16, vm_17, vm_18, vm_19, vm_20, vm_21, vm_22, vm_23])), (hs, .inl (cI, 45, .inl f)), (ws, .inl (cI, 1080, .inl wf)), (tn, .inl (cI, 45, .inl g))] s.heap := hP
  have hown : s.vm.findClass RX6 = some m.cls := hown
  have hl : lv_has ls 3 [(0, .ref md), (1, .int a1), (2, .int a2)] := hl
  have hi6 : ∀ w ∈ u_ws RX6 TX6 24, w ∈ wsX6_pour := by decide +kernel
  have wc189 := hts (.constant RX6 189 (-1000002)) (by decide +kernel)
  have wc67 := hts (.constant RX6 67 (-1000001)) (by decide +kernel)
  have wf19 := hts (.fieldLink RX6 19 "WarmTubesModel" "house" "[I") (by decide +kernel)
  have wf25 := hts (.fieldLink RX6 25 "WarmTubesModel" "then" "[I") (by decide +kernel)
  have wf47 := hts (.fieldLink RX6 47 "WarmTubesModel" "thrown" "I") (by decide +kernel)
  refine lv_aload_n hx hb dX6_pour_0 rfl (lv_at hl 0 rfl) ?_
  refine lv_iconst (v := 0) hx hb dX6_pour_1 (by decide) ?_
  refine va_put (D := D) (ci := 6) (v := .int 0) (ty := .int) (C := RX6) (T := TX6) (N := 24) hx hb hts hi6 tyX6 tyX6_ok nmX6 hown hK.1 hP hD hS 0 rfl rfl 0 (by decide) wf47 (fun _ h9 => h9) rfl (by decide +kernel) rfl rfl (Nat.le_of_ble_eq_true rfl) dX6_pour_2 (fun H locs hP hD hS => ?_)
  have hP : va_P D vwCl [(md, .inr (6, [.int 0, vm_1, vm_2, vm_3, vm_4, .ref hs, vm_6, .ref tn, .ref ws, .int (nI ac), vm_10, vm_11, vm_12, vm_13, vm_14, vm_15, vm_16, vm_17, vm_18, vm_19, vm_20, vm_21, vm_22, vm_23])), (hs, .inl (cI, 45, .inl f)), (ws, .inl (cI, 1080, .inl wf)), (tn, .inl (cI, 45, .inl g))] H := hP
  have hD : va_D A [(md, .inr (6, [.int 0, vm_1, vm_2, vm_3, vm_4, .ref hs, vm_6, .ref tn, .ref ws, .int (nI ac), vm_10, vm_11, vm_12, vm_13, vm_14, vm_15, vm_16, vm_17, vm_18, vm_19, vm_20, vm_21, vm_22, vm_23])), (hs, .inl (cI, 45, .inl f)), (ws, .inl (cI, 1080, .inl wf)), (tn, .inl (cI, 45, .inl g))] := hD
  refine lv_aload_n hx hb dX6_pour_5 rfl (lv_at hl 0 rfl) ?_
  refine lv_iload_n hx hb dX6_pour_6 rfl (lv_at hl 1 rfl) ?_
  refine wt_rV (As := [.int a1]) (rest := []) ⟨hx, hb, hml, hown, hts⟩ (c_X6_isTube l D cI cZ cH md hs R T f a1 (.int 0) vm_1 vm_2 vm_3 vm_4 vm_6 (.ref tn) (.ref ws) (.int (nI ac)) vm_10 vm_11 vm_12 vm_13 vm_14 vm_15 vm_16 vm_17 vm_18 vm_19 vm_20 vm_21 vm_22 vm_23 (by first | assumption | omega) (by first | assumption | omega) (by first | assumption | omega)) (cwV 1 hts gX6_pour_X6_isTube rfl rfl rfl (by decide +kernel) ⟨Nat.le_of_ble_eq_true rfl, Nat.le_of_ble_eq_true rfl⟩) hK hP [0, 1] rfl (va_recv hK.1 hP (ci := 6) (q0 := 0) rfl rfl) rfl hl.1 rfl (Nat.le_of_ble_eq_true rfl) dX6_pour_7 ⟨Nat.le_of_ble_eq_true rfl, Nat.le_of_ble_eq_true rfl⟩ (fun r_1 e_2 => ?_)
  subst e_2
  refine lv_if_eq (tgt := 26) hx hb dX6_pour_10 (by decide) (fun c_3 => ?_) (fun c_3 => ?_)
  · skip
    refine lv_ldc hx hb hown wc67 dX6_pour_26 ?_
    have hP9 := hP.sub (ws' := [(md, .inr (6, [.int 0, vm_1, vm_2, vm_3, vm_4, .ref hs, vm_6, .ref tn, .ref ws, .int (nI ac), vm_10, vm_11, vm_12, vm_13, vm_14, vm_15, vm_16, vm_17, vm_18, vm_19, vm_20, vm_21, vm_22, vm_23])), (hs, .inl (cI, 45, .inl f)), (ws, .inl (cI, 1080, .inl wf)), (tn, .inl (cI, 45, .inl g))]) [0, 1, 2, 3] rfl
    have hD9 := hD.sub (ws' := [(md, .inr (6, [.int 0, vm_1, vm_2, vm_3, vm_4, .ref hs, vm_6, .ref tn, .ref ws, .int (nI ac), vm_10, vm_11, vm_12, vm_13, vm_14, vm_15, vm_16, vm_17, vm_18, vm_19, vm_20, vm_21, vm_22, vm_23])), (hs, .inl (cI, 45, .inl f)), (ws, .inl (cI, 1080, .inl wf)), (tn, .inl (cI, 45, .inl g))]) [0, 1, 2, 3] (by decide) rfl
    exact wt_iret hx hb hr hlocks hP9 hD9 hS ⟨f, wf, g, ac, rfl, ⟨hrk, by omega, hwk⟩⟩ dX6_pour_28
  · skip
    obtain ⟨j_4, hj_4, rfl⟩ := wI_natT (T := T) (by omega) c_3
    refine lv_aload_n hx hb dX6_pour_13 rfl (lv_at hl 0 rfl) ?_
    refine lv_iload_n hx hb dX6_pour_14 rfl (lv_at hl 2 rfl) ?_
    refine wt_rV (As := [.int a2]) (rest := []) ⟨hx, hb, hml, hown, hts⟩ (c_X6_isTube l D cI cZ cH md hs R T f a2 (.int 0) vm_1 vm_2 vm_3 vm_4 vm_6 (.ref tn) (.ref ws) (.int (nI ac)) vm_10 vm_11 vm_12 vm_13 vm_14 vm_15 vm_16 vm_17 vm_18 vm_19 vm_20 vm_21 vm_22 vm_23 (by first | assumption | omega) (by first | assumption | omega) (by first | assumption | omega)) (cwV 1 hts gX6_pour_X6_isTube rfl rfl rfl (by decide +kernel) ⟨Nat.le_of_ble_eq_true rfl, Nat.le_of_ble_eq_true rfl⟩) hK hP [0, 1] rfl (va_recv hK.1 hP (ci := 6) (q0 := 0) rfl rfl) rfl hl.1 rfl (Nat.le_of_ble_eq_true rfl) dX6_pour_15 ⟨Nat.le_of_ble_eq_true rfl, Nat.le_of_ble_eq_true rfl⟩ (fun r_5 e_6 => ?_)
    subst e_6
    refine lv_if_eq (tgt := 26) hx hb dX6_pour_18 (by decide) (fun c_7 => ?_) (fun c_7 => ?_)
    · skip
      refine lv_ldc hx hb hown wc67 dX6_pour_26 ?_
      have hP9 := hP.sub (ws' := [(md, .inr (6, [.int 0, vm_1, vm_2, vm_3, vm_4, .ref hs, vm_6, .ref tn, .ref ws, .int (nI ac), vm_10, vm_11, vm_12, vm_13, vm_14, vm_15, vm_16, vm_17, vm_18, vm_19, vm_20, vm_21, vm_22, vm_23])), (hs, .inl (cI, 45, .inl f)), (ws, .inl (cI, 1080, .inl wf)), (tn, .inl (cI, 45, .inl g))]) [0, 1, 2, 3] rfl
      have hD9 := hD.sub (ws' := [(md, .inr (6, [.int 0, vm_1, vm_2, vm_3, vm_4, .ref hs, vm_6, .ref tn, .ref ws, .int (nI ac), vm_10, vm_11, vm_12, vm_13, vm_14, vm_15, vm_16, vm_17, vm_18, vm_19, vm_20, vm_21, vm_22, vm_23])), (hs, .inl (cI, 45, .inl f)), (ws, .inl (cI, 1080, .inl wf)), (tn, .inl (cI, 45, .inl g))]) [0, 1, 2, 3] (by decide) rfl
      exact wt_iret hx hb hr hlocks hP9 hD9 hS ⟨f, wf, g, ac, rfl, ⟨hrk, by omega, hwk⟩⟩ dX6_pour_28
    · skip
      obtain ⟨j_8, hj_8, rfl⟩ := wI_natT (T := T) (by omega) c_7
      refine lv_iload_n hx hb dX6_pour_21 rfl (lv_at hl 1 rfl) ?_
      refine lv_iload_n hx hb dX6_pour_22 rfl (lv_at hl 2 rfl) ?_
      refine lv_icmp_ne (tgt := 29) hx hb dX6_pour_23 (by decide) (fun c_9 => ?_) (fun c_9 => ?_)
      · skip
        have c_9 : ¬ (j_4 = j_8) := fun h => c_9 ((nI_eq (a := j_4) (b := j_8) (by omega) (by omega)).mpr h)
        refine lv_aload_n hx hb dX6_pour_29 rfl (lv_at hl 0 rfl) ?_
        refine wt_goV (wr := [(ws, .inl (cI, 1080, .inl wf))]) (wt_runV (As := []) (rest := []) ⟨hx, hb, hml, hown, hts⟩ (c_X6_layThen l D cI cZ cH md hs R T f tn g (.int 0) vm_1 vm_2 vm_3 vm_4 vm_6 (.ref ws) (.int (nI ac)) vm_10 vm_11 vm_12 vm_13 vm_14 vm_15 vm_16 vm_17 vm_18 vm_19 vm_20 vm_21 vm_22 vm_23 (by first | assumption | omega) (by first | assumption | omega) (by first | assumption | omega)) (cwV 0 hts gX6_pour_X6_layThen rfl rfl rfl (by decide +kernel) ⟨Nat.le_of_ble_eq_true rfl, Nat.le_of_ble_eq_true rfl⟩) hK hP hD [0, 1, 3] rfl (by decide) (va_recv hK.1 hP (ci := 6) (q0 := 0) rfl rfl) rfl hl.1 rfl (Nat.le_of_ble_eq_true rfl) dX6_pour_30 ⟨Nat.le_of_ble_eq_true rfl, Nat.le_of_ble_eq_true rfl⟩) hP hD hS hA [0, 1, 3] [2] rfl rfl (by decide) (by decide) (fun w_11 H locs h_12 hP hD hS => ?_)
        obtain ⟨g2_13, rfl, x_14⟩ := h_12
        have hP : va_P D vwCl [(ws, .inl (cI, 1080, .inl wf)), (md, .inr (6, [.int 0, vm_1, vm_2, vm_3, vm_4, .ref hs, vm_6, .ref tn, .ref ws, .int (nI ac), vm_10, vm_11, vm_12, vm_13, vm_14, vm_15, vm_16, vm_17, vm_18, vm_19, vm_20, vm_21, vm_22, vm_23])), (hs, .inl (cI, 45, .inl f)), (tn, .inl (cI, 45, .inl g2_13))] H := hP
        have hD : va_D A [(ws, .inl (cI, 1080, .inl wf)), (md, .inr (6, [.int 0, vm_1, vm_2, vm_3, vm_4, .ref hs, vm_6, .ref tn, .ref ws, .int (nI ac), vm_10, vm_11, vm_12, vm_13, vm_14, vm_15, vm_16, vm_17, vm_18, vm_19, vm_20, vm_21, vm_22, vm_23])), (hs, .inl (cI, 45, .inl f)), (tn, .inl (cI, 45, .inl g2_13))] := hD
        refine lv_aload_n hx hb dX6_pour_33 rfl (lv_at hl 0 rfl) ?_
        refine va_get (D := D) (ci := 6) (v := .ref tn) (C := RX6) (T := TX6) (N := 24) hx hb hts hi6 hown hK.1 hP 1 rfl rfl 7 (by decide) wf25 (fun _ h9 => h9) rfl dX6_pour_34 ?_
        refine lv_iload_n hx hb dX6_pour_37 rfl (lv_at hl 1 rfl) ?_
        refine lv_iload_n hx hb dX6_pour_38 rfl (lv_at hl 2 rfl) ?_
        refine wt_goI (wr := [(ws, .inl (cI, 1080, .inl wf)), (md, .inr (6, [.int 0, vm_1, vm_2, vm_3, vm_4, .ref hs, vm_6, .ref tn, .ref ws, .int (nI ac), vm_10, vm_11, vm_12, vm_13, vm_14, vm_15, vm_16, vm_17, vm_18, vm_19, vm_20, vm_21, vm_22, vm_23])), (hs, .inl (cI, 45, .inl f))]) (wt_runS (As := [.ref tn, .int (nI j_4), .int (nI j_8)]) (rest := []) ⟨hx, hb, hml, hown, hts⟩ (c_X6_poured l D cI cZ cH tn R T g2_13 j_4 j_8 (by first | assumption | omega) (by first | assumption | omega) (by first | assumption | omega) (by first | assumption | omega) (by first | assumption | omega)) (va_cwS 3 hts gX6_pour_X6_poured rfl rfl rfl (by decide +kernel) ⟨Nat.le_of_ble_eq_true rfl, Nat.le_of_ble_eq_true rfl⟩) hK hP hD [3] rfl (by decide) rfl hl.1 rfl (Nat.le_of_ble_eq_true rfl) dX6_pour_39 ⟨Nat.le_of_ble_eq_true rfl, Nat.le_of_ble_eq_true rfl⟩) hP hD hS hA [3] [0, 1, 2] rfl rfl (by decide) (by decide) (fun r_15 w_16 H locs h_17 hP hD hS => ?_)
        obtain ⟨f2_18, rfl, x_19⟩ := h_17
        have hP : va_P D vwCl [(ws, .inl (cI, 1080, .inl wf)), (md, .inr (6, [.int 0, vm_1, vm_2, vm_3, vm_4, .ref hs, vm_6, .ref tn, .ref ws, .int (nI ac), vm_10, vm_11, vm_12, vm_13, vm_14, vm_15, vm_16, vm_17, vm_18, vm_19, vm_20, vm_21, vm_22, vm_23])), (hs, .inl (cI, 45, .inl f)), (tn, .inl (cI, 45, .inl f2_18))] H := hP
        have hD : va_D A [(ws, .inl (cI, 1080, .inl wf)), (md, .inr (6, [.int 0, vm_1, vm_2, vm_3, vm_4, .ref hs, vm_6, .ref tn, .ref ws, .int (nI ac), vm_10, vm_11, vm_12, vm_13, vm_14, vm_15, vm_16, vm_17, vm_18, vm_19, vm_20, vm_21, vm_22, vm_23])), (hs, .inl (cI, 45, .inl f)), (tn, .inl (cI, 45, .inl f2_18))] := hD
        refine lv_if_ne (tgt := 48) hx hb dX6_pour_42 (by decide) (fun c_20 => ?_) (fun c_20 => ?_)
        · skip
          refine lv_aload_n hx hb dX6_pour_48 rfl (lv_at hl 0 rfl) ?_
          refine wt_goV (wr := [(tn, .inl (cI, 45, .inl f2_18))]) (wt_runV (As := []) (rest := []) ⟨hx, hb, hml, hown, hts⟩ (c_X6_keep l D cI cZ cH md hs R T f ws ac wf (.int 0) vm_1 vm_2 vm_3 vm_4 vm_6 (.ref tn) vm_10 vm_11 vm_12 vm_13 vm_14 vm_15 vm_16 vm_17 vm_18 vm_19 vm_20 vm_21 vm_22 vm_23 (by first | assumption | omega) (by first | assumption | omega) (by first | assumption | omega) (by first | assumption | omega) (by first | assumption | omega)) (cwV 0 hts gX6_pour_X6_keep rfl rfl rfl (by decide +kernel) ⟨Nat.le_of_ble_eq_true rfl, Nat.le_of_ble_eq_true rfl⟩) hK hP hD [1, 2, 0] rfl (by decide) (va_recv hK.1 hP (ci := 6) (q0 := 1) rfl rfl) rfl hl.1 rfl (Nat.le_of_ble_eq_true rfl) dX6_pour_49 ⟨Nat.le_of_ble_eq_true rfl, Nat.le_of_ble_eq_true rfl⟩) hP hD hS hA [1, 2, 0] [3] rfl rfl (by decide) (by decide) (fun w_22 H locs h_23 hP hD hS => ?_)
          obtain ⟨wf2_24, ac2_25, rfl, x_26⟩ := h_23
          have hP : va_P D vwCl [(tn, .inl (cI, 45, .inl f2_18)), (md, .inr (6, [.int 0, vm_1, vm_2, vm_3, vm_4, .ref hs, vm_6, .ref tn, .ref ws, .int (nI ac2_25), vm_10, vm_11, vm_12, vm_13, vm_14, vm_15, vm_16, vm_17, vm_18, vm_19, vm_20, vm_21, vm_22, vm_23])), (hs, .inl (cI, 45, .inl f)), (ws, .inl (cI, 1080, .inl wf2_24))] H := hP
          have hD : va_D A [(tn, .inl (cI, 45, .inl f2_18)), (md, .inr (6, [.int 0, vm_1, vm_2, vm_3, vm_4, .ref hs, vm_6, .ref tn, .ref ws, .int (nI ac2_25), vm_10, vm_11, vm_12, vm_13, vm_14, vm_15, vm_16, vm_17, vm_18, vm_19, vm_20, vm_21, vm_22, vm_23])), (hs, .inl (cI, 45, .inl f)), (ws, .inl (cI, 1080, .inl wf2_24))] := hD
          obtain ⟨acx_27, acx_28, wkx_29⟩ := x_26
          refine lv_aload_n hx hb dX6_pour_52 rfl (lv_at hl 0 rfl) ?_
          refine va_get (D := D) (ci := 6) (v := .ref hs) (C := RX6) (T := TX6) (N := 24) hx hb hts hi6 hown hK.1 hP 1 rfl rfl 5 (by decide) wf19 (fun _ h9 => h9) rfl dX6_pour_53 ?_
          refine lv_iload_n hx hb dX6_pour_56 rfl (lv_at hl 1 rfl) ?_
          refine lv_iload_n hx hb dX6_pour_57 rfl (lv_at hl 2 rfl) ?_
          refine wt_goI (wr := [(tn, .inl (cI, 45, .inl f2_18)), (md, .inr (6, [.int 0, vm_1, vm_2, vm_3, vm_4, .ref hs, vm_6, .ref tn, .ref ws, .int (nI ac2_25), vm_10, vm_11, vm_12, vm_13, vm_14, vm_15, vm_16, vm_17, vm_18, vm_19, vm_20, vm_21, vm_22, vm_23])), (ws, .inl (cI, 1080, .inl wf2_24))]) (wt_runS (As := [.ref hs, .int (nI j_4), .int (nI j_8)]) (rest := []) ⟨hx, hb, hml, hown, hts⟩ (c_X6_poured l D cI cZ cH hs R T f j_4 j_8 (by first | assumption | omega) (by first | assumption | omega) (by first | assumption | omega) (by first | assumption | omega) (by first | assumption | omega)) (va_cwS 3 hts gX6_pour_X6_poured rfl rfl rfl (by decide +kernel) ⟨Nat.le_of_ble_eq_true rfl, Nat.le_of_ble_eq_true rfl⟩) hK hP hD [2] rfl (by decide) rfl hl.1 rfl (Nat.le_of_ble_eq_true rfl) dX6_pour_58 ⟨Nat.le_of_ble_eq_true rfl, Nat.le_of_ble_eq_true rfl⟩) hP hD hS hA [2] [0, 1, 3] rfl rfl (by decide) (by decide) (fun r_30 w_31 H locs h_32 hP hD hS => ?_)
          obtain ⟨f2_33, rfl, x_34⟩ := h_32
          have hP : va_P D vwCl [(tn, .inl (cI, 45, .inl f2_18)), (md, .inr (6, [.int 0, vm_1, vm_2, vm_3, vm_4, .ref hs, vm_6, .ref tn, .ref ws, .int (nI ac2_25), vm_10, vm_11, vm_12, vm_13, vm_14, vm_15, vm_16, vm_17, vm_18, vm_19, vm_20, vm_21, vm_22, vm_23])), (ws, .inl (cI, 1080, .inl wf2_24)), (hs, .inl (cI, 45, .inl f2_33))] H := hP
          have hD : va_D A [(tn, .inl (cI, 45, .inl f2_18)), (md, .inr (6, [.int 0, vm_1, vm_2, vm_3, vm_4, .ref hs, vm_6, .ref tn, .ref ws, .int (nI ac2_25), vm_10, vm_11, vm_12, vm_13, vm_14, vm_15, vm_16, vm_17, vm_18, vm_19, vm_20, vm_21, vm_22, vm_23])), (ws, .inl (cI, 1080, .inl wf2_24)), (hs, .inl (cI, 45, .inl f2_33))] := hD
          have hP9 := hP.sub (ws' := [(md, .inr (6, [.int 0, vm_1, vm_2, vm_3, vm_4, .ref hs, vm_6, .ref tn, .ref ws, .int (nI ac2_25), vm_10, vm_11, vm_12, vm_13, vm_14, vm_15, vm_16, vm_17, vm_18, vm_19, vm_20, vm_21, vm_22, vm_23])), (hs, .inl (cI, 45, .inl f2_33)), (ws, .inl (cI, 1080, .inl wf2_24)), (tn, .inl (cI, 45, .inl f2_18))]) [1, 3, 2, 0] rfl
          have hD9 := hD.sub (ws' := [(md, .inr (6, [.int 0, vm_1, vm_2, vm_3, vm_4, .ref hs, vm_6, .ref tn, .ref ws, .int (nI ac2_25), vm_10, vm_11, vm_12, vm_13, vm_14, vm_15, vm_16, vm_17, vm_18, vm_19, vm_20, vm_21, vm_22, vm_23])), (hs, .inl (cI, 45, .inl f2_33)), (ws, .inl (cI, 1080, .inl wf2_24)), (tn, .inl (cI, 45, .inl f2_18))]) [1, 3, 2, 0] (by decide) rfl
          exact wt_iret hx hb hr hlocks hP9 hD9 hS ⟨f2_33, wf2_24, f2_18, ac2_25, rfl, ⟨x_34, by omega, wkx_29⟩⟩ dX6_pour_61
        · skip
          refine lv_ldc hx hb hown wc189 dX6_pour_45 ?_
          have hP9 := hP.sub (ws' := [(md, .inr (6, [.int 0, vm_1, vm_2, vm_3, vm_4, .ref hs, vm_6, .ref tn, .ref ws, .int (nI ac), vm_10, vm_11, vm_12, vm_13, vm_14, vm_15, vm_16, vm_17, vm_18, vm_19, vm_20, vm_21, vm_22, vm_23])), (hs, .inl (cI, 45, .inl f)), (ws, .inl (cI, 1080, .inl wf)), (tn, .inl (cI, 45, .inl f2_18))]) [1, 2, 0, 3] rfl
          have hD9 := hD.sub (ws' := [(md, .inr (6, [.int 0, vm_1, vm_2, vm_3, vm_4, .ref hs, vm_6, .ref tn, .ref ws, .int (nI ac), vm_10, vm_11, vm_12, vm_13, vm_14, vm_15, vm_16, vm_17, vm_18, vm_19, vm_20, vm_21, vm_22, vm_23])), (hs, .inl (cI, 45, .inl f)), (ws, .inl (cI, 1080, .inl wf)), (tn, .inl (cI, 45, .inl f2_18))]) [1, 2, 0, 3] (by decide) rfl
          exact wt_iret hx hb hr hlocks hP9 hD9 hS ⟨f, wf, f2_18, ac, rfl, ⟨hrk, by omega, hwk⟩⟩ dX6_pour_47
      · skip
        have c_9 : j_4 = j_8 := (nI_eq (a := j_4) (b := j_8) (by omega) (by omega)).mp c_9
        refine lv_ldc hx hb hown wc67 dX6_pour_26 ?_
        have hP9 := hP.sub (ws' := [(md, .inr (6, [.int 0, vm_1, vm_2, vm_3, vm_4, .ref hs, vm_6, .ref tn, .ref ws, .int (nI ac), vm_10, vm_11, vm_12, vm_13, vm_14, vm_15, vm_16, vm_17, vm_18, vm_19, vm_20, vm_21, vm_22, vm_23])), (hs, .inl (cI, 45, .inl f)), (ws, .inl (cI, 1080, .inl wf)), (tn, .inl (cI, 45, .inl g))]) [0, 1, 2, 3] rfl
        have hD9 := hD.sub (ws' := [(md, .inr (6, [.int 0, vm_1, vm_2, vm_3, vm_4, .ref hs, vm_6, .ref tn, .ref ws, .int (nI ac), vm_10, vm_11, vm_12, vm_13, vm_14, vm_15, vm_16, vm_17, vm_18, vm_19, vm_20, vm_21, vm_22, vm_23])), (hs, .inl (cI, 45, .inl f)), (ws, .inl (cI, 1080, .inl wf)), (tn, .inl (cI, 45, .inl g))]) [0, 1, 2, 3] (by decide) rfl
        exact wt_iret hx hb hr hlocks hP9 hD9 hS ⟨f, wf, g, ac, rfl, ⟨hrk, by omega, hwk⟩⟩ dX6_pour_28
set_option maxHeartbeats 4000000 in
set_option maxRecDepth 100000 in
theorem c_X6_stove (l : Launch) (D : va_G) (cI cZ cH : ClassId) (md hs : Nat) (R T : Nat) (f : Nat → Int32) (ws : Nat) (ac : Nat) (wf : Nat → Int32) (a1 a2 : Int32) (vm_0 vm_1 vm_2 vm_3 vm_4 vm_6 vm_7 vm_10 vm_11 vm_12 vm_13 vm_14 vm_15 vm_16 vm_17 vm_18 vm_19 vm_20 vm_21 vm_22 vm_23 : Value) (hR5 : R ≤ 5) (hT6 : T ≤ 6) (hrk : rk R T f) (hac : ac ≤ 24) (hwk : wk R T ac wf) : wt_M l yX6_stove wsX6_stove ({ frames := 2, cells := 0, slots := 0, locals := 46 } : Room) D (wt_T cI cZ cH) [.ref md, .int a1, .int a2] [(md, .inr (6, [vm_0, vm_1, vm_2, vm_3, vm_4, .ref hs, vm_6, vm_7, .ref ws, .int (nI ac), vm_10, vm_11, vm_12, vm_13, vm_14, vm_15, vm_16, vm_17, vm_18, vm_19, vm_20, vm_21, vm_22, vm_23])), (hs, .inl (cI, 45, .inl f)), (ws, .inl (cI, 1080, .inl wf))] (wt_QI D (fun r w => ∃ (f2 wf2 : Nat → Int32) (ac2 : Nat), w = [(md, .inr (6, [.int 0, vm_1, vm_2, vm_3, vm_4, .ref hs, vm_6, vm_7, .ref ws, .int (nI ac2), vm_10, vm_11, vm_12, vm_13, vm_14, vm_15, vm_16, vm_17, vm_18, vm_19, vm_20, vm_21, vm_22, vm_23])), (hs, .inl (cI, 45, .inl f2)), (ws, .inl (cI, 1080, .inl wf2))] ∧ rk R T f2 ∧ ac2 ≤ 24 ∧ wk R T ac2 wf2)) := by
  refine wt_M.ofW (cc := cX6_stove) (maxL := 4) (ret := (some .int)) (by decide) rfl (Nat.le_of_ble_eq_true rfl) ?_
  intro p e s m below meth c A ls hx hb hr hts hown hlocks hml hnm hP hK hD hA hS hl
  have hP : va_P D vwCl [(md, .inr (6, [vm_0, vm_1, vm_2, vm_3, vm_4, .ref hs, vm_6, vm_7, .ref ws, .int (nI ac), vm_10, vm_11, vm_12, vm_13, vm_14, vm_15, vm_16, vm_17, vm_18, vm_19, vm_20, vm_21, vm_22, vm_23])), (hs, .inl (cI, 45, .inl f)), (ws, .inl (cI, 1080, .inl wf))] s.heap := hP
  have hown : s.vm.findClass RX6 = some m.cls := hown
  have hl : lv_has ls 4 [(0, .ref md), (1, .int a1), (2, .int a2)] := hl
  have hi6 : ∀ w ∈ u_ws RX6 TX6 24, w ∈ wsX6_stove := by decide +kernel
  have wc67 := hts (.constant RX6 67 (-1000001)) (by decide +kernel)
  have wf19 := hts (.fieldLink RX6 19 "WarmTubesModel" "house" "[I") (by decide +kernel)
  have wf47 := hts (.fieldLink RX6 47 "WarmTubesModel" "thrown" "I") (by decide +kernel)
  have wl216 := hts (.constantLong RX6 216 (20)) (by decide +kernel)
  refine lv_aload_n hx hb dX6_stove_0 rfl (lv_at hl 0 rfl) ?_
  refine lv_iconst (v := 0) hx hb dX6_stove_1 (by decide) ?_
  refine va_put (D := D) (ci := 6) (v := .int 0) (ty := .int) (C := RX6) (T := TX6) (N := 24) hx hb hts hi6 tyX6 tyX6_ok nmX6 hown hK.1 hP hD hS 0 rfl rfl 0 (by decide) wf47 (fun _ h9 => h9) rfl (by decide +kernel) rfl rfl (Nat.le_of_ble_eq_true rfl) dX6_stove_2 (fun H locs hP hD hS => ?_)
  have hP : va_P D vwCl [(md, .inr (6, [.int 0, vm_1, vm_2, vm_3, vm_4, .ref hs, vm_6, vm_7, .ref ws, .int (nI ac), vm_10, vm_11, vm_12, vm_13, vm_14, vm_15, vm_16, vm_17, vm_18, vm_19, vm_20, vm_21, vm_22, vm_23])), (hs, .inl (cI, 45, .inl f)), (ws, .inl (cI, 1080, .inl wf))] H := hP
  have hD : va_D A [(md, .inr (6, [.int 0, vm_1, vm_2, vm_3, vm_4, .ref hs, vm_6, vm_7, .ref ws, .int (nI ac), vm_10, vm_11, vm_12, vm_13, vm_14, vm_15, vm_16, vm_17, vm_18, vm_19, vm_20, vm_21, vm_22, vm_23])), (hs, .inl (cI, 45, .inl f)), (ws, .inl (cI, 1080, .inl wf))] := hD
  refine lv_aload_n hx hb dX6_stove_5 rfl (lv_at hl 0 rfl) ?_
  refine lv_iload_n hx hb dX6_stove_6 rfl (lv_at hl 1 rfl) ?_
  refine wt_rV (As := [.int a1]) (rest := []) ⟨hx, hb, hml, hown, hts⟩ (c_X6_isRoom l D cI cZ cH md hs R T f a1 (.int 0) vm_1 vm_2 vm_3 vm_4 vm_6 vm_7 (.ref ws) (.int (nI ac)) vm_10 vm_11 vm_12 vm_13 vm_14 vm_15 vm_16 vm_17 vm_18 vm_19 vm_20 vm_21 vm_22 vm_23 (by first | assumption | omega) (by first | assumption | omega) (by first | assumption | omega)) (cwV 1 hts gX6_stove_X6_isRoom rfl rfl rfl (by decide +kernel) ⟨Nat.le_of_ble_eq_true rfl, Nat.le_of_ble_eq_true rfl⟩) hK hP [0, 1] rfl (va_recv hK.1 hP (ci := 6) (q0 := 0) rfl rfl) rfl hl.1 rfl (Nat.le_of_ble_eq_true rfl) dX6_stove_7 ⟨Nat.le_of_ble_eq_true rfl, Nat.le_of_ble_eq_true rfl⟩ (fun r_1 e_2 => ?_)
  subst e_2
  refine lv_if_eq (tgt := 25) hx hb dX6_stove_10 (by decide) (fun c_3 => ?_) (fun c_3 => ?_)
  · skip
    refine lv_ldc hx hb hown wc67 dX6_stove_25 ?_
    have hP9 := hP.sub (ws' := [(md, .inr (6, [.int 0, vm_1, vm_2, vm_3, vm_4, .ref hs, vm_6, vm_7, .ref ws, .int (nI ac), vm_10, vm_11, vm_12, vm_13, vm_14, vm_15, vm_16, vm_17, vm_18, vm_19, vm_20, vm_21, vm_22, vm_23])), (hs, .inl (cI, 45, .inl f)), (ws, .inl (cI, 1080, .inl wf))]) [0, 1, 2] rfl
    have hD9 := hD.sub (ws' := [(md, .inr (6, [.int 0, vm_1, vm_2, vm_3, vm_4, .ref hs, vm_6, vm_7, .ref ws, .int (nI ac), vm_10, vm_11, vm_12, vm_13, vm_14, vm_15, vm_16, vm_17, vm_18, vm_19, vm_20, vm_21, vm_22, vm_23])), (hs, .inl (cI, 45, .inl f)), (ws, .inl (cI, 1080, .inl wf))]) [0, 1, 2] (by decide) rfl
    exact wt_iret hx hb hr hlocks hP9 hD9 hS ⟨f, wf, ac, rfl, ⟨hrk, by omega, hwk⟩⟩ dX6_stove_27
  · skip
    obtain ⟨j_4, hj_4, rfl⟩ := wI_natT (T := R) (by omega) c_3
    refine lv_iload_n hx hb dX6_stove_13 rfl (lv_at hl 2 rfl) ?_
    refine lv_i2l hx hb dX6_stove_14 rfl ?_
    refine lv_lconst (v := 0) hx hb dX6_stove_15 (by decide) ?_
    refine lv_ldc2 hx hb hown wl216 dX6_stove_16 ?_
    refine wt_rS (As := [.long a2.toInt64, .long 0, .long 20]) (rest := []) ⟨hx, hb, hml, hown, hts⟩ (c_X6_in l D cI cZ cH a2.toInt64 0 20) (va_cwS 3 hts gX6_stove_X6_in rfl rfl rfl (by decide +kernel) ⟨Nat.le_of_ble_eq_true rfl, Nat.le_of_ble_eq_true rfl⟩) hK hP [] rfl rfl hl.1 rfl (Nat.le_of_ble_eq_true rfl) dX6_stove_19 ⟨Nat.le_of_ble_eq_true rfl, Nat.le_of_ble_eq_true rfl⟩ (fun r_5 e_6 => ?_)
    subst e_6
    refine wt_top (z := wI a2 0 20) (wL_I' (by decide) (by decide)) ?_
    refine lv_if_ne (tgt := 28) hx hb dX6_stove_22 (by decide) (fun c_7 => ?_) (fun c_7 => ?_)
    · skip
      obtain ⟨j_8, hj_8, hj_8b, rfl⟩ := wI_nat (a := 0) (b := 20) (by omega) (by omega) c_7
      refine lv_aload_n hx hb dX6_stove_28 rfl (lv_at hl 0 rfl) ?_
      refine wt_goV (wr := []) (wt_runV (As := []) (rest := []) ⟨hx, hb, hml, hown, hts⟩ (c_X6_keep l D cI cZ cH md hs R T f ws ac wf (.int 0) vm_1 vm_2 vm_3 vm_4 vm_6 vm_7 vm_10 vm_11 vm_12 vm_13 vm_14 vm_15 vm_16 vm_17 vm_18 vm_19 vm_20 vm_21 vm_22 vm_23 (by first | assumption | omega) (by first | assumption | omega) (by first | assumption | omega) (by first | assumption | omega) (by first | assumption | omega)) (cwV 0 hts gX6_stove_X6_keep rfl rfl rfl (by decide +kernel) ⟨Nat.le_of_ble_eq_true rfl, Nat.le_of_ble_eq_true rfl⟩) hK hP hD [0, 1, 2] rfl (by decide) (va_recv hK.1 hP (ci := 6) (q0 := 0) rfl rfl) rfl hl.1 rfl (Nat.le_of_ble_eq_true rfl) dX6_stove_29 ⟨Nat.le_of_ble_eq_true rfl, Nat.le_of_ble_eq_true rfl⟩) hP hD hS hA [0, 1, 2] [] rfl rfl (by decide) (by decide) (fun w_10 H locs h_11 hP hD hS => ?_)
      obtain ⟨wf2_12, ac2_13, rfl, x_14⟩ := h_11
      have hP : va_P D vwCl [(md, .inr (6, [.int 0, vm_1, vm_2, vm_3, vm_4, .ref hs, vm_6, vm_7, .ref ws, .int (nI ac2_13), vm_10, vm_11, vm_12, vm_13, vm_14, vm_15, vm_16, vm_17, vm_18, vm_19, vm_20, vm_21, vm_22, vm_23])), (hs, .inl (cI, 45, .inl f)), (ws, .inl (cI, 1080, .inl wf2_12))] H := hP
      have hD : va_D A [(md, .inr (6, [.int 0, vm_1, vm_2, vm_3, vm_4, .ref hs, vm_6, vm_7, .ref ws, .int (nI ac2_13), vm_10, vm_11, vm_12, vm_13, vm_14, vm_15, vm_16, vm_17, vm_18, vm_19, vm_20, vm_21, vm_22, vm_23])), (hs, .inl (cI, 45, .inl f)), (ws, .inl (cI, 1080, .inl wf2_12))] := hD
      obtain ⟨acx_15, acx_16, wkx_17⟩ := x_14
      refine lv_aload_n hx hb dX6_stove_32 rfl (lv_at hl 0 rfl) ?_
      refine va_get (D := D) (ci := 6) (v := .ref hs) (C := RX6) (T := TX6) (N := 24) hx hb hts hi6 hown hK.1 hP 0 rfl rfl 5 (by decide) wf19 (fun _ h9 => h9) rfl dX6_stove_33 ?_
      refine lv_iconst (v := 5) hx hb dX6_stove_36 (by decide) ?_
      refine lv_iconst (v := 2) hx hb dX6_stove_37 (by decide) ?_
      refine lv_iload_n hx hb dX6_stove_38 rfl (lv_at hl 1 rfl) ?_
      refine lv_imul hx hb dX6_stove_39 ?_
      refine wt_top (z := nI (2 * j_4)) (pk_mul 2 j_4) ?_
      refine lv_iadd hx hb dX6_stove_40 ?_
      refine wt_top (z := nI (5 + (2 * j_4))) (nI_add 5 (2 * j_4)) ?_
      refine lv_iconst (v := 1) hx hb dX6_stove_41 (by decide) ?_
      refine lv_iadd hx hb dX6_stove_42 ?_
      refine wt_top (z := nI ((5 + (2 * j_4)) + 1)) (nI_add (5 + (2 * j_4)) 1) ?_
      refine va_iald hx hb hK.1 hP 1 0 rfl rfl (vp_in_nI (by omega) (by omega)) dX6_stove_43 ?_
      refine lv_topi (fun ov_18 _ => ?_)
      refine lv_istore_n (lv' := [(3, .int ov_18), (0, .ref md), (1, .int (nI j_4)), (2, .int (nI j_8))]) hx hb dX6_stove_44 rfl hl (by decide) rfl (fun ls hl => ?_)
      refine lv_aload_n hx hb dX6_stove_45 rfl (lv_at hl 1 rfl) ?_
      refine va_get (D := D) (ci := 6) (v := .ref hs) (C := RX6) (T := TX6) (N := 24) hx hb hts hi6 hown hK.1 hP 0 rfl rfl 5 (by decide) wf19 (fun _ h9 => h9) rfl dX6_stove_46 ?_
      refine lv_iconst (v := 5) hx hb dX6_stove_49 (by decide) ?_
      refine lv_iconst (v := 2) hx hb dX6_stove_50 (by decide) ?_
      refine lv_iload_n hx hb dX6_stove_51 rfl (lv_at hl 2 rfl) ?_
      refine lv_imul hx hb dX6_stove_52 ?_
      refine wt_top (z := nI (2 * j_4)) (pk_mul 2 j_4) ?_
      refine lv_iadd hx hb dX6_stove_53 ?_
      refine wt_top (z := nI (5 + (2 * j_4))) (nI_add 5 (2 * j_4)) ?_
      refine lv_iconst (v := 1) hx hb dX6_stove_54 (by decide) ?_
      refine lv_iadd hx hb dX6_stove_55 ?_
      refine wt_top (z := nI ((5 + (2 * j_4)) + 1)) (nI_add (5 + (2 * j_4)) 1) ?_
      refine lv_iload_n hx hb dX6_stove_56 rfl (lv_at hl 3 rfl) ?_
      refine va_iast hx hb hK.1 hP hD hS 1 0 rfl rfl (vp_in_nI (by omega) (by omega)) dX6_stove_57 (fun H locs hP hD hS => ?_)
      have hP : va_P D vwCl [(md, .inr (6, [.int 0, vm_1, vm_2, vm_3, vm_4, .ref hs, vm_6, vm_7, .ref ws, .int (nI ac2_13), vm_10, vm_11, vm_12, vm_13, vm_14, vm_15, vm_16, vm_17, vm_18, vm_19, vm_20, vm_21, vm_22, vm_23])), (hs, .inl (cI, 45, .inl (upd f ((nI ((5 + (2 * j_4)) + 1)).toNatClampNeg) (nI j_8)))), (ws, .inl (cI, 1080, .inl wf2_12))] H := hP
      have hD : va_D A [(md, .inr (6, [.int 0, vm_1, vm_2, vm_3, vm_4, .ref hs, vm_6, vm_7, .ref ws, .int (nI ac2_13), vm_10, vm_11, vm_12, vm_13, vm_14, vm_15, vm_16, vm_17, vm_18, vm_19, vm_20, vm_21, vm_22, vm_23])), (hs, .inl (cI, 45, .inl (upd f ((nI ((5 + (2 * j_4)) + 1)).toNatClampNeg) (nI j_8)))), (ws, .inl (cI, 1080, .inl wf2_12))] := hD
      have rk_19 : rk R T (upd f ((nI ((5 + (2 * j_4)) + 1)).toNatClampNeg) (nI j_8)) := rk_upd (k := ((5 + (2 * j_4)) + 1)) hrk (nI_clamp (by omega)) (by omega) _
      generalize upd f ((nI ((5 + (2 * j_4)) + 1)).toNatClampNeg) (nI j_8) = rf_20 at hP hD rk_19
      refine lv_iload_n hx hb dX6_stove_58 rfl (lv_at hl 0 rfl) ?_
      have hP9 := hP.sub (ws' := [(md, .inr (6, [.int 0, vm_1, vm_2, vm_3, vm_4, .ref hs, vm_6, vm_7, .ref ws, .int (nI ac2_13), vm_10, vm_11, vm_12, vm_13, vm_14, vm_15, vm_16, vm_17, vm_18, vm_19, vm_20, vm_21, vm_22, vm_23])), (hs, .inl (cI, 45, .inl rf_20)), (ws, .inl (cI, 1080, .inl wf2_12))]) [0, 1, 2] rfl
      have hD9 := hD.sub (ws' := [(md, .inr (6, [.int 0, vm_1, vm_2, vm_3, vm_4, .ref hs, vm_6, vm_7, .ref ws, .int (nI ac2_13), vm_10, vm_11, vm_12, vm_13, vm_14, vm_15, vm_16, vm_17, vm_18, vm_19, vm_20, vm_21, vm_22, vm_23])), (hs, .inl (cI, 45, .inl rf_20)), (ws, .inl (cI, 1080, .inl wf2_12))]) [0, 1, 2] (by decide) rfl
      exact wt_iret hx hb hr hlocks hP9 hD9 hS ⟨rf_20, wf2_12, ac2_13, rfl, ⟨rk_19, by omega, wkx_17⟩⟩ dX6_stove_59
    · skip
      refine lv_ldc hx hb hown wc67 dX6_stove_25 ?_
      have hP9 := hP.sub (ws' := [(md, .inr (6, [.int 0, vm_1, vm_2, vm_3, vm_4, .ref hs, vm_6, vm_7, .ref ws, .int (nI ac), vm_10, vm_11, vm_12, vm_13, vm_14, vm_15, vm_16, vm_17, vm_18, vm_19, vm_20, vm_21, vm_22, vm_23])), (hs, .inl (cI, 45, .inl f)), (ws, .inl (cI, 1080, .inl wf))]) [0, 1, 2] rfl
      have hD9 := hD.sub (ws' := [(md, .inr (6, [.int 0, vm_1, vm_2, vm_3, vm_4, .ref hs, vm_6, vm_7, .ref ws, .int (nI ac), vm_10, vm_11, vm_12, vm_13, vm_14, vm_15, vm_16, vm_17, vm_18, vm_19, vm_20, vm_21, vm_22, vm_23])), (hs, .inl (cI, 45, .inl f)), (ws, .inl (cI, 1080, .inl wf))]) [0, 1, 2] (by decide) rfl
      exact wt_iret hx hb hr hlocks hP9 hD9 hS ⟨f, wf, ac, rfl, ⟨hrk, by omega, hwk⟩⟩ dX6_stove_27
set_option maxHeartbeats 4000000 in
set_option maxRecDepth 100000 in
theorem c_X6_undo (l : Launch) (D : va_G) (cI cZ cH : ClassId) (md hs : Nat) (R T : Nat) (f : Nat → Int32) (ws : Nat) (ac : Nat) (wf : Nat → Int32) (vm_0 vm_1 vm_2 vm_3 vm_4 vm_6 vm_7 vm_10 vm_11 vm_12 vm_13 vm_14 vm_15 vm_16 vm_17 vm_18 vm_19 vm_20 vm_21 vm_22 vm_23 : Value) (hR5 : R ≤ 5) (hT6 : T ≤ 6) (hrk : rk R T f) (hac : ac ≤ 24) (hwk : wk R T ac wf) : wt_M l yX6_undo wsX6_undo ({ frames := 0, cells := 0, slots := 0, locals := 0 } : Room) D (wt_T cI cZ cH) [.ref md] [(md, .inr (6, [vm_0, vm_1, vm_2, vm_3, vm_4, .ref hs, vm_6, vm_7, .ref ws, .int (nI ac), vm_10, vm_11, vm_12, vm_13, vm_14, vm_15, vm_16, vm_17, vm_18, vm_19, vm_20, vm_21, vm_22, vm_23])), (hs, .inl (cI, 45, .inl f)), (ws, .inl (cI, 1080, .inl wf))] (wt_QI D (fun r w => ∃ (f2 : Nat → Int32) (ac2 : Nat), w = [(md, .inr (6, [.int 0, vm_1, vm_2, vm_3, vm_4, .ref hs, vm_6, vm_7, .ref ws, .int (nI ac2), vm_10, vm_11, vm_12, vm_13, vm_14, vm_15, vm_16, vm_17, vm_18, vm_19, vm_20, vm_21, vm_22, vm_23])), (hs, .inl (cI, 45, .inl f2)), (ws, .inl (cI, 1080, .inl wf))] ∧ rk R T f2 ∧ ac2 ≤ 24 ∧ wk R T ac2 wf)) := by
  refine wt_M.ofW (cc := cX6_undo) (maxL := 2) (ret := (some .int)) (by decide) rfl (Nat.le_of_ble_eq_true rfl) ?_
  intro p e s m below meth c A ls hx hb hr hts hown hlocks hml hnm hP hK hD hA hS hl
  have hP : va_P D vwCl [(md, .inr (6, [vm_0, vm_1, vm_2, vm_3, vm_4, .ref hs, vm_6, vm_7, .ref ws, .int (nI ac), vm_10, vm_11, vm_12, vm_13, vm_14, vm_15, vm_16, vm_17, vm_18, vm_19, vm_20, vm_21, vm_22, vm_23])), (hs, .inl (cI, 45, .inl f)), (ws, .inl (cI, 1080, .inl wf))] s.heap := hP
  have hown : s.vm.findClass RX6 = some m.cls := hown
  have hl : lv_has ls 2 [(0, .ref md)] := hl
  have hi6 : ∀ w ∈ u_ws RX6 TX6 24, w ∈ wsX6_undo := by decide +kernel
  have wc189 := hts (.constant RX6 189 (-1000002)) (by decide +kernel)
  have wf149 := hts (.fieldLink RX6 149 "WarmTubesModel" "acts" "I") (by decide +kernel)
  have wf19 := hts (.fieldLink RX6 19 "WarmTubesModel" "house" "[I") (by decide +kernel)
  have wf28 := hts (.fieldLink RX6 28 "WarmTubesModel" "was" "[I") (by decide +kernel)
  have wf47 := hts (.fieldLink RX6 47 "WarmTubesModel" "thrown" "I") (by decide +kernel)
  refine lv_aload_n hx hb dX6_undo_0 rfl (lv_at hl 0 rfl) ?_
  refine lv_iconst (v := 0) hx hb dX6_undo_1 (by decide) ?_
  refine va_put (D := D) (ci := 6) (v := .int 0) (ty := .int) (C := RX6) (T := TX6) (N := 24) hx hb hts hi6 tyX6 tyX6_ok nmX6 hown hK.1 hP hD hS 0 rfl rfl 0 (by decide) wf47 (fun _ h9 => h9) rfl (by decide +kernel) rfl rfl (Nat.le_of_ble_eq_true rfl) dX6_undo_2 (fun H locs hP hD hS => ?_)
  have hP : va_P D vwCl [(md, .inr (6, [.int 0, vm_1, vm_2, vm_3, vm_4, .ref hs, vm_6, vm_7, .ref ws, .int (nI ac), vm_10, vm_11, vm_12, vm_13, vm_14, vm_15, vm_16, vm_17, vm_18, vm_19, vm_20, vm_21, vm_22, vm_23])), (hs, .inl (cI, 45, .inl f)), (ws, .inl (cI, 1080, .inl wf))] H := hP
  have hD : va_D A [(md, .inr (6, [.int 0, vm_1, vm_2, vm_3, vm_4, .ref hs, vm_6, vm_7, .ref ws, .int (nI ac), vm_10, vm_11, vm_12, vm_13, vm_14, vm_15, vm_16, vm_17, vm_18, vm_19, vm_20, vm_21, vm_22, vm_23])), (hs, .inl (cI, 45, .inl f)), (ws, .inl (cI, 1080, .inl wf))] := hD
  refine lv_aload_n hx hb dX6_undo_5 rfl (lv_at hl 0 rfl) ?_
  refine va_get (D := D) (ci := 6) (v := .int (nI ac)) (C := RX6) (T := TX6) (N := 24) hx hb hts hi6 hown hK.1 hP 0 rfl rfl 9 (by decide) wf149 (fun _ h9 => h9) rfl dX6_undo_6 ?_
  refine lv_if_ne (tgt := 15) hx hb dX6_undo_9 (by decide) (fun c_1 => ?_) (fun c_1 => ?_)
  · skip
    have c_1 : ¬ (ac = 0) := fun h => c_1 ((nI_eq (a := ac) (b := 0) (by omega) (by omega)).mpr h)
    refine lv_aload_n hx hb dX6_undo_15 rfl (lv_at hl 0 rfl) ?_
    refine lv_dup hx hb dX6_undo_16 rfl ?_
    refine va_get (D := D) (ci := 6) (v := .int (nI ac)) (C := RX6) (T := TX6) (N := 24) hx hb hts hi6 hown hK.1 hP 0 rfl rfl 9 (by decide) wf149 (fun _ h9 => h9) rfl dX6_undo_17 ?_
    refine lv_iconst (v := 1) hx hb dX6_undo_20 (by decide) ?_
    refine lv_isub hx hb dX6_undo_21 ?_
    refine wt_top (z := nI (ac - 1)) (pk_sub (a := ac) (b := 1) (by omega)) ?_
    refine va_put (D := D) (ci := 6) (v := .int (nI (ac - 1))) (ty := .int) (C := RX6) (T := TX6) (N := 24) hx hb hts hi6 tyX6 tyX6_ok nmX6 hown hK.1 hP hD hS 0 rfl rfl 9 (by decide) wf149 (fun _ h9 => h9) rfl (by decide +kernel) rfl rfl (Nat.le_of_ble_eq_true rfl) dX6_undo_22 (fun H locs hP hD hS => ?_)
    have hP : va_P D vwCl [(md, .inr (6, [.int 0, vm_1, vm_2, vm_3, vm_4, .ref hs, vm_6, vm_7, .ref ws, .int (nI (ac - 1)), vm_10, vm_11, vm_12, vm_13, vm_14, vm_15, vm_16, vm_17, vm_18, vm_19, vm_20, vm_21, vm_22, vm_23])), (hs, .inl (cI, 45, .inl f)), (ws, .inl (cI, 1080, .inl wf))] H := hP
    have hD : va_D A [(md, .inr (6, [.int 0, vm_1, vm_2, vm_3, vm_4, .ref hs, vm_6, vm_7, .ref ws, .int (nI (ac - 1)), vm_10, vm_11, vm_12, vm_13, vm_14, vm_15, vm_16, vm_17, vm_18, vm_19, vm_20, vm_21, vm_22, vm_23])), (hs, .inl (cI, 45, .inl f)), (ws, .inl (cI, 1080, .inl wf))] := hD
    refine lv_iconst (v := 0) hx hb dX6_undo_25 (by decide) ?_
    refine lv_istore_n (lv' := [(1, .int 0), (0, .ref md)]) hx hb dX6_undo_26 rfl hl (by decide) rfl (fun ls hl => ?_)
    have loop27 : ∀ (k i_2 : Nat) (f_3 : Nat → Int32) (H : Heap) (locs : List Loc) (ls : Array Slot), i_2 + k = 45 → (cpd i_2 0 (45 * (ac - 1)) f_3 wf) → va_P D vwCl [(md, .inr (6, [.int 0, vm_1, vm_2, vm_3, vm_4, .ref hs, vm_6, vm_7, .ref ws, .int (nI (ac - 1)), vm_10, vm_11, vm_12, vm_13, vm_14, vm_15, vm_16, vm_17, vm_18, vm_19, vm_20, vm_21, vm_22, vm_23])), (hs, .inl (cI, 45, .inl f_3)), (ws, .inl (cI, 1080, .inl wf))] H → va_D A [(md, .inr (6, [.int 0, vm_1, vm_2, vm_3, vm_4, .ref hs, vm_6, vm_7, .ref ws, .int (nI (ac - 1)), vm_10, vm_11, vm_12, vm_13, vm_14, vm_15, vm_16, vm_17, vm_18, vm_19, vm_20, vm_21, vm_22, vm_23])), (hs, .inl (cI, 45, .inl f_3)), (ws, .inl (cI, 1080, .inl wf))] → va_S A s.heap H locs → lv_has ls 2 [(1, .int (nI i_2)), (0, .ref md)] → W p l e ({ frames := 0, cells := 0, slots := 0, locals := 0 } : Room) s m ([.ref md] : List Value).toArray below meth c H locs 0 0 (MQ below (wt_QI D (fun r w => ∃ (f2 : Nat → Int32) (ac2 : Nat), w = [(md, .inr (6, [.int 0, vm_1, vm_2, vm_3, vm_4, .ref hs, vm_6, vm_7, .ref ws, .int (nI ac2), vm_10, vm_11, vm_12, vm_13, vm_14, vm_15, vm_16, vm_17, vm_18, vm_19, vm_20, vm_21, vm_22, vm_23])), (hs, .inl (cI, 45, .inl f2)), (ws, .inl (cI, 1080, .inl wf))] ∧ rk R T f2 ∧ ac2 ≤ 24 ∧ wk R T ac2 wf) A) ([.ref md] : List Value).toArray s 0 0 A) (F0 m 27 ls []) := by
      intro k
      induction k with
      | zero =>
        intro i_2 f_3 H locs ls hik hcp hP hD hS hl
        refine lv_iload_n hx hb dX6_undo_27 rfl (lv_at hl 0 rfl) ?_
        refine lv_bipush (v := 45) hx hb dX6_undo_28 (by decide) ?_
        refine lv_icmp_ge (tgt := 59) hx hb dX6_undo_30 (by decide) (fun _ => ?_) (fun h => absurd (nI_le (a := 45) (b := i_2) (by omega) (by omega)) h)
        refine lv_aload_n hx hb dX6_undo_59 rfl (lv_at hl 1 rfl) ?_
        refine va_get (D := D) (ci := 6) (v := .int (nI (ac - 1))) (C := RX6) (T := TX6) (N := 24) hx hb hts hi6 hown hK.1 hP 0 rfl rfl 9 (by decide) wf149 (fun _ h9 => h9) rfl dX6_undo_60 ?_
        have hP9 := hP.sub (ws' := [(md, .inr (6, [.int 0, vm_1, vm_2, vm_3, vm_4, .ref hs, vm_6, vm_7, .ref ws, .int (nI (ac - 1)), vm_10, vm_11, vm_12, vm_13, vm_14, vm_15, vm_16, vm_17, vm_18, vm_19, vm_20, vm_21, vm_22, vm_23])), (hs, .inl (cI, 45, .inl f_3)), (ws, .inl (cI, 1080, .inl wf))]) [0, 1, 2] rfl
        have hD9 := hD.sub (ws' := [(md, .inr (6, [.int 0, vm_1, vm_2, vm_3, vm_4, .ref hs, vm_6, vm_7, .ref ws, .int (nI (ac - 1)), vm_10, vm_11, vm_12, vm_13, vm_14, vm_15, vm_16, vm_17, vm_18, vm_19, vm_20, vm_21, vm_22, vm_23])), (hs, .inl (cI, 45, .inl f_3)), (ws, .inl (cI, 1080, .inl wf))]) [0, 1, 2] (by decide) rfl
        exact wt_iret hx hb hr hlocks hP9 hD9 hS ⟨f_3, (ac - 1), rfl, ⟨rk_z' (rk_cpd (hwk (ac - 1) (by omega)) hcp (by omega)), by omega, wk_le hwk (by omega)⟩⟩ dX6_undo_63
      | succ k ih27 =>
        intro i_2 f_3 H locs ls hik hcp hP hD hS hl
        refine lv_iload_n hx hb dX6_undo_27 rfl (lv_at hl 0 rfl) ?_
        refine lv_bipush (v := 45) hx hb dX6_undo_28 (by decide) ?_
        refine lv_icmp_ge (tgt := 59) hx hb dX6_undo_30 (by decide) (fun h => absurd h (nI_ge (a := i_2) (b := 45) (by omega) (by omega))) (fun _ => ?_)
        refine lv_aload_n hx hb dX6_undo_33 rfl (lv_at hl 1 rfl) ?_
        refine va_get (D := D) (ci := 6) (v := .ref hs) (C := RX6) (T := TX6) (N := 24) hx hb hts hi6 hown hK.1 hP 0 rfl rfl 5 (by decide) wf19 (fun _ h9 => h9) rfl dX6_undo_34 ?_
        refine lv_iload_n hx hb dX6_undo_37 rfl (lv_at hl 0 rfl) ?_
        refine lv_aload_n hx hb dX6_undo_38 rfl (lv_at hl 1 rfl) ?_
        refine va_get (D := D) (ci := 6) (v := .ref ws) (C := RX6) (T := TX6) (N := 24) hx hb hts hi6 hown hK.1 hP 0 rfl rfl 8 (by decide) wf28 (fun _ h9 => h9) rfl dX6_undo_39 ?_
        refine lv_bipush (v := 45) hx hb dX6_undo_42 (by decide) ?_
        refine lv_aload_n hx hb dX6_undo_44 rfl (lv_at hl 1 rfl) ?_
        refine va_get (D := D) (ci := 6) (v := .int (nI (ac - 1))) (C := RX6) (T := TX6) (N := 24) hx hb hts hi6 hown hK.1 hP 0 rfl rfl 9 (by decide) wf149 (fun _ h9 => h9) rfl dX6_undo_45 ?_
        refine lv_imul hx hb dX6_undo_48 ?_
        refine wt_top (z := nI (45 * (ac - 1))) (pk_mul 45 (ac - 1)) ?_
        refine lv_iload_n hx hb dX6_undo_49 rfl (lv_at hl 0 rfl) ?_
        refine lv_iadd hx hb dX6_undo_50 ?_
        refine wt_top (z := nI ((45 * (ac - 1)) + i_2)) (nI_add (45 * (ac - 1)) i_2) ?_
        refine va_iald hx hb hK.1 hP 2 0 rfl rfl (vp_in_nI (by omega) (by omega)) dX6_undo_51 ?_
        refine wt_top (z := wf (45 * (ac - 1) + i_2)) (by rw [nI_clamp (by omega)]) ?_
        refine va_iast hx hb hK.1 hP hD hS 1 0 rfl rfl (vp_in_nI (by omega) (by omega)) dX6_undo_52 (fun H locs hP hD hS => ?_)
        have hP : va_P D vwCl [(md, .inr (6, [.int 0, vm_1, vm_2, vm_3, vm_4, .ref hs, vm_6, vm_7, .ref ws, .int (nI (ac - 1)), vm_10, vm_11, vm_12, vm_13, vm_14, vm_15, vm_16, vm_17, vm_18, vm_19, vm_20, vm_21, vm_22, vm_23])), (hs, .inl (cI, 45, .inl (upd f_3 ((nI i_2).toNatClampNeg) (wf (45 * (ac - 1) + i_2))))), (ws, .inl (cI, 1080, .inl wf))] H := hP
        have hD : va_D A [(md, .inr (6, [.int 0, vm_1, vm_2, vm_3, vm_4, .ref hs, vm_6, vm_7, .ref ws, .int (nI (ac - 1)), vm_10, vm_11, vm_12, vm_13, vm_14, vm_15, vm_16, vm_17, vm_18, vm_19, vm_20, vm_21, vm_22, vm_23])), (hs, .inl (cI, 45, .inl (upd f_3 ((nI i_2).toNatClampNeg) (wf (45 * (ac - 1) + i_2))))), (ws, .inl (cI, 1080, .inl wf))] := hD
        rw [nI_clamp (n := i_2) (by omega)] at hP hD
        have hP : va_P D vwCl [(md, .inr (6, [.int 0, vm_1, vm_2, vm_3, vm_4, .ref hs, vm_6, vm_7, .ref ws, .int (nI (ac - 1)), vm_10, vm_11, vm_12, vm_13, vm_14, vm_15, vm_16, vm_17, vm_18, vm_19, vm_20, vm_21, vm_22, vm_23])), (hs, .inl (cI, 45, .inl (upd f_3 i_2 (wf (45 * (ac - 1) + i_2))))), (ws, .inl (cI, 1080, .inl wf))] H := hP
        have hD : va_D A [(md, .inr (6, [.int 0, vm_1, vm_2, vm_3, vm_4, .ref hs, vm_6, vm_7, .ref ws, .int (nI (ac - 1)), vm_10, vm_11, vm_12, vm_13, vm_14, vm_15, vm_16, vm_17, vm_18, vm_19, vm_20, vm_21, vm_22, vm_23])), (hs, .inl (cI, 45, .inl (upd f_3 i_2 (wf (45 * (ac - 1) + i_2))))), (ws, .inl (cI, 1080, .inl wf))] := hD
        refine lv_iinc (v := nI (i_2 + 1)) (lv' := [(1, .int (nI (i_2 + 1))), (0, .ref md)]) hx hb dX6_undo_53 hl (k := 0) rfl (nI_add i_2 1) (by decide) rfl (fun ls hl => ?_)
        refine lv_goto (tgt := 27) hx hb dX6_undo_56 (by decide) ?_
        exact ih27 ((i_2 + 1)) (upd f_3 i_2 (wf (45 * (ac - 1) + i_2))) H locs ls (by omega) (cpd_s0b hcp) hP hD hS (lv_sub hl [0, 1] rfl)
    exact loop27 (45 - 0) (0) f _ _ ls (by omega) cpd_0 hP hD hS hl
  · skip
    have c_1 : ac = 0 := (nI_eq (a := ac) (b := 0) (by omega) (by omega)).mp c_1
    refine lv_ldc hx hb hown wc189 dX6_undo_12 ?_
    have hP9 := hP.sub (ws' := [(md, .inr (6, [.int 0, vm_1, vm_2, vm_3, vm_4, .ref hs, vm_6, vm_7, .ref ws, .int (nI ac), vm_10, vm_11, vm_12, vm_13, vm_14, vm_15, vm_16, vm_17, vm_18, vm_19, vm_20, vm_21, vm_22, vm_23])), (hs, .inl (cI, 45, .inl f)), (ws, .inl (cI, 1080, .inl wf))]) [0, 1, 2] rfl
    have hD9 := hD.sub (ws' := [(md, .inr (6, [.int 0, vm_1, vm_2, vm_3, vm_4, .ref hs, vm_6, vm_7, .ref ws, .int (nI ac), vm_10, vm_11, vm_12, vm_13, vm_14, vm_15, vm_16, vm_17, vm_18, vm_19, vm_20, vm_21, vm_22, vm_23])), (hs, .inl (cI, 45, .inl f)), (ws, .inl (cI, 1080, .inl wf))]) [0, 1, 2] (by decide) rfl
    exact wt_iret hx hb hr hlocks hP9 hD9 hS ⟨f, ac, rfl, ⟨hrk, by omega, hwk⟩⟩ dX6_undo_14
set_option maxHeartbeats 4000000 in
set_option maxRecDepth 100000 in
theorem c_X6_tube (l : Launch) (D : va_G) (cI cZ cH : ClassId) (md hs : Nat) (R T : Nat) (f : Nat → Int32) (a1 a2 : Int32) (vm_0 vm_1 vm_2 vm_3 vm_4 vm_6 vm_7 vm_8 vm_9 vm_10 vm_11 vm_12 vm_13 vm_14 vm_15 vm_16 vm_17 vm_18 vm_19 vm_20 vm_21 vm_22 vm_23 : Value) (hR5 : R ≤ 5) (hT6 : T ≤ 6) (hrk : rk R T f) : wt_M l yX6_tube wsX6_tube ({ frames := 3, cells := 0, slots := 0, locals := 66 } : Room) D (wt_T cI cZ cH) [.ref md, .int a1, .int a2] [(md, .inr (6, [vm_0, vm_1, vm_2, vm_3, vm_4, .ref hs, vm_6, vm_7, vm_8, vm_9, vm_10, vm_11, vm_12, vm_13, vm_14, vm_15, vm_16, vm_17, vm_18, vm_19, vm_20, vm_21, vm_22, vm_23])), (hs, .inl (cI, 45, .inl f))] (wt_QI D (fun r w => w = [(md, .inr (6, [.int 0, vm_1, vm_2, vm_3, vm_4, .ref hs, vm_6, vm_7, vm_8, vm_9, vm_10, vm_11, vm_12, vm_13, vm_14, vm_15, vm_16, vm_17, vm_18, vm_19, vm_20, vm_21, vm_22, vm_23])), (hs, .inl (cI, 45, .inl f))])) := by
  refine wt_M.ofW (cc := cX6_tube) (maxL := 3) (ret := (some .int)) (by decide) rfl (Nat.le_of_ble_eq_true rfl) ?_
  intro p e s m below meth c A ls hx hb hr hts hown hlocks hml hnm hP hK hD hA hS hl
  have hP : va_P D vwCl [(md, .inr (6, [vm_0, vm_1, vm_2, vm_3, vm_4, .ref hs, vm_6, vm_7, vm_8, vm_9, vm_10, vm_11, vm_12, vm_13, vm_14, vm_15, vm_16, vm_17, vm_18, vm_19, vm_20, vm_21, vm_22, vm_23])), (hs, .inl (cI, 45, .inl f))] s.heap := hP
  have hown : s.vm.findClass RX6 = some m.cls := hown
  have hl : lv_has ls 3 [(0, .ref md), (1, .int a1), (2, .int a2)] := hl
  have hi6 : ∀ w ∈ u_ws RX6 TX6 24, w ∈ wsX6_tube := by decide +kernel
  have wc67 := hts (.constant RX6 67 (-1000001)) (by decide +kernel)
  have wf19 := hts (.fieldLink RX6 19 "WarmTubesModel" "house" "[I") (by decide +kernel)
  have wf47 := hts (.fieldLink RX6 47 "WarmTubesModel" "thrown" "I") (by decide +kernel)
  have wl218 := hts (.constantLong RX6 218 (4)) (by decide +kernel)
  refine lv_aload_n hx hb dX6_tube_0 rfl (lv_at hl 0 rfl) ?_
  refine lv_iconst (v := 0) hx hb dX6_tube_1 (by decide) ?_
  refine va_put (D := D) (ci := 6) (v := .int 0) (ty := .int) (C := RX6) (T := TX6) (N := 24) hx hb hts hi6 tyX6 tyX6_ok nmX6 hown hK.1 hP hD hS 0 rfl rfl 0 (by decide) wf47 (fun _ h9 => h9) rfl (by decide +kernel) rfl rfl (Nat.le_of_ble_eq_true rfl) dX6_tube_2 (fun H locs hP hD hS => ?_)
  have hP : va_P D vwCl [(md, .inr (6, [.int 0, vm_1, vm_2, vm_3, vm_4, .ref hs, vm_6, vm_7, vm_8, vm_9, vm_10, vm_11, vm_12, vm_13, vm_14, vm_15, vm_16, vm_17, vm_18, vm_19, vm_20, vm_21, vm_22, vm_23])), (hs, .inl (cI, 45, .inl f))] H := hP
  have hD : va_D A [(md, .inr (6, [.int 0, vm_1, vm_2, vm_3, vm_4, .ref hs, vm_6, vm_7, vm_8, vm_9, vm_10, vm_11, vm_12, vm_13, vm_14, vm_15, vm_16, vm_17, vm_18, vm_19, vm_20, vm_21, vm_22, vm_23])), (hs, .inl (cI, 45, .inl f))] := hD
  refine lv_aload_n hx hb dX6_tube_5 rfl (lv_at hl 0 rfl) ?_
  refine lv_iload_n hx hb dX6_tube_6 rfl (lv_at hl 1 rfl) ?_
  refine wt_rV (As := [.int a1]) (rest := []) ⟨hx, hb, hml, hown, hts⟩ (c_X6_isTube l D cI cZ cH md hs R T f a1 (.int 0) vm_1 vm_2 vm_3 vm_4 vm_6 vm_7 vm_8 vm_9 vm_10 vm_11 vm_12 vm_13 vm_14 vm_15 vm_16 vm_17 vm_18 vm_19 vm_20 vm_21 vm_22 vm_23 (by first | assumption | omega) (by first | assumption | omega) (by first | assumption | omega)) (cwV 1 hts gX6_tube_X6_isTube rfl rfl rfl (by decide +kernel) ⟨Nat.le_of_ble_eq_true rfl, Nat.le_of_ble_eq_true rfl⟩) hK hP [0, 1] rfl (va_recv hK.1 hP (ci := 6) (q0 := 0) rfl rfl) rfl hl.1 rfl (Nat.le_of_ble_eq_true rfl) dX6_tube_7 ⟨Nat.le_of_ble_eq_true rfl, Nat.le_of_ble_eq_true rfl⟩ (fun r_1 e_2 => ?_)
  subst e_2
  refine lv_if_eq (tgt := 25) hx hb dX6_tube_10 (by decide) (fun c_3 => ?_) (fun c_3 => ?_)
  · skip
    refine lv_ldc hx hb hown wc67 dX6_tube_25 ?_
    have hP9 := hP.sub (ws' := [(md, .inr (6, [.int 0, vm_1, vm_2, vm_3, vm_4, .ref hs, vm_6, vm_7, vm_8, vm_9, vm_10, vm_11, vm_12, vm_13, vm_14, vm_15, vm_16, vm_17, vm_18, vm_19, vm_20, vm_21, vm_22, vm_23])), (hs, .inl (cI, 45, .inl f))]) [0, 1] rfl
    have hD9 := hD.sub (ws' := [(md, .inr (6, [.int 0, vm_1, vm_2, vm_3, vm_4, .ref hs, vm_6, vm_7, vm_8, vm_9, vm_10, vm_11, vm_12, vm_13, vm_14, vm_15, vm_16, vm_17, vm_18, vm_19, vm_20, vm_21, vm_22, vm_23])), (hs, .inl (cI, 45, .inl f))]) [0, 1] (by decide) rfl
    exact wt_iret hx hb hr hlocks hP9 hD9 hS rfl dX6_tube_27
  · skip
    obtain ⟨j_4, hj_4, rfl⟩ := wI_natT (T := T) (by omega) c_3
    refine lv_iload_n hx hb dX6_tube_13 rfl (lv_at hl 2 rfl) ?_
    refine lv_i2l hx hb dX6_tube_14 rfl ?_
    refine lv_lconst (v := 0) hx hb dX6_tube_15 (by decide) ?_
    refine lv_ldc2 hx hb hown wl218 dX6_tube_16 ?_
    refine wt_rS (As := [.long a2.toInt64, .long 0, .long 4]) (rest := []) ⟨hx, hb, hml, hown, hts⟩ (c_X6_in l D cI cZ cH a2.toInt64 0 4) (va_cwS 3 hts gX6_tube_X6_in rfl rfl rfl (by decide +kernel) ⟨Nat.le_of_ble_eq_true rfl, Nat.le_of_ble_eq_true rfl⟩) hK hP [] rfl rfl hl.1 rfl (Nat.le_of_ble_eq_true rfl) dX6_tube_19 ⟨Nat.le_of_ble_eq_true rfl, Nat.le_of_ble_eq_true rfl⟩ (fun r_5 e_6 => ?_)
    subst e_6
    refine wt_top (z := wI a2 0 4) (wL_I' (by decide) (by decide)) ?_
    refine lv_if_ne (tgt := 28) hx hb dX6_tube_22 (by decide) (fun c_7 => ?_) (fun c_7 => ?_)
    · skip
      obtain ⟨j_8, hj_8, hj_8b, rfl⟩ := wI_nat (a := 0) (b := 4) (by omega) (by omega) c_7
      refine lv_iload_n hx hb dX6_tube_28 rfl (lv_at hl 2 rfl) ?_
      refine lv_iconst (v := 4) hx hb dX6_tube_29 (by decide) ?_
      refine lv_icmp_ge (tgt := 47) hx hb dX6_tube_30 (by decide) (fun c_9 => ?_) (fun c_9 => ?_)
      · skip
        have c_9 : 4 ≤ j_8 := (nI_leI (a := 4) (b := j_8) (by omega) (by omega)).mp c_9
        refine lv_aload_n hx hb dX6_tube_47 rfl (lv_at hl 0 rfl) ?_
        refine va_get (D := D) (ci := 6) (v := .ref hs) (C := RX6) (T := TX6) (N := 24) hx hb hts hi6 hown hK.1 hP 0 rfl rfl 5 (by decide) wf19 (fun _ h9 => h9) rfl dX6_tube_48 ?_
        refine lv_iload_n hx hb dX6_tube_51 rfl (lv_at hl 1 rfl) ?_
        refine wt_rS (As := [.ref hs, .int (nI j_4)]) (rest := []) ⟨hx, hb, hml, hown, hts⟩ (c_X6_wants l D cI cZ cH hs R T f j_4 (by first | assumption | omega) (by first | assumption | omega) (by first | assumption | omega) (by first | assumption | omega)) (va_cwS 2 hts gX6_tube_X6_wants rfl rfl rfl (by decide +kernel) ⟨Nat.le_of_ble_eq_true rfl, Nat.le_of_ble_eq_true rfl⟩) hK hP [1] rfl rfl hl.1 rfl (Nat.le_of_ble_eq_true rfl) dX6_tube_52 ⟨Nat.le_of_ble_eq_true rfl, Nat.le_of_ble_eq_true rfl⟩ (fun r_10 e_11 => ?_)
        have hP9 := hP.sub (ws' := [(md, .inr (6, [.int 0, vm_1, vm_2, vm_3, vm_4, .ref hs, vm_6, vm_7, vm_8, vm_9, vm_10, vm_11, vm_12, vm_13, vm_14, vm_15, vm_16, vm_17, vm_18, vm_19, vm_20, vm_21, vm_22, vm_23])), (hs, .inl (cI, 45, .inl f))]) [0, 1] rfl
        have hD9 := hD.sub (ws' := [(md, .inr (6, [.int 0, vm_1, vm_2, vm_3, vm_4, .ref hs, vm_6, vm_7, vm_8, vm_9, vm_10, vm_11, vm_12, vm_13, vm_14, vm_15, vm_16, vm_17, vm_18, vm_19, vm_20, vm_21, vm_22, vm_23])), (hs, .inl (cI, 45, .inl f))]) [0, 1] (by decide) rfl
        exact wt_iret hx hb hr hlocks hP9 hD9 hS rfl dX6_tube_55
      · skip
        have c_9 : ¬ (4 ≤ j_8) := fun h => c_9 ((nI_leI (a := 4) (b := j_8) (by omega) (by omega)).mpr h)
        refine lv_aload_n hx hb dX6_tube_33 rfl (lv_at hl 0 rfl) ?_
        refine va_get (D := D) (ci := 6) (v := .ref hs) (C := RX6) (T := TX6) (N := 24) hx hb hts hi6 hown hK.1 hP 0 rfl rfl 5 (by decide) wf19 (fun _ h9 => h9) rfl dX6_tube_34 ?_
        refine lv_iload_n hx hb dX6_tube_37 rfl (lv_at hl 1 rfl) ?_
        refine lv_iconst (v := 1) hx hb dX6_tube_38 (by decide) ?_
        refine lv_iload_n hx hb dX6_tube_39 rfl (lv_at hl 2 rfl) ?_
        refine lv_iadd hx hb dX6_tube_40 ?_
        refine wt_top (z := nI (1 + j_8)) (nI_add 1 j_8) ?_
        refine wt_rS (As := [.ref hs, .int (nI j_4), .int (nI (1 + j_8))]) (rest := []) ⟨hx, hb, hml, hown, hts⟩ (c_X6_of_w l D cI cZ cH hs R T f j_4 (1 + j_8) (by first | assumption | omega) (by first | assumption | omega) (by first | assumption | omega) (by first | assumption | omega) (by first | assumption | omega)) (va_cwS 3 hts gX6_tube_X6_of rfl rfl rfl (by decide +kernel) ⟨Nat.le_of_ble_eq_true rfl, Nat.le_of_ble_eq_true rfl⟩) hK hP [1] rfl rfl hl.1 rfl (Nat.le_of_ble_eq_true rfl) dX6_tube_41 ⟨Nat.le_of_ble_eq_true rfl, Nat.le_of_ble_eq_true rfl⟩ (fun r_12 e_13 => ?_)
        refine lv_goto (tgt := 55) hx hb dX6_tube_44 (by decide) ?_
        have hP9 := hP.sub (ws' := [(md, .inr (6, [.int 0, vm_1, vm_2, vm_3, vm_4, .ref hs, vm_6, vm_7, vm_8, vm_9, vm_10, vm_11, vm_12, vm_13, vm_14, vm_15, vm_16, vm_17, vm_18, vm_19, vm_20, vm_21, vm_22, vm_23])), (hs, .inl (cI, 45, .inl f))]) [0, 1] rfl
        have hD9 := hD.sub (ws' := [(md, .inr (6, [.int 0, vm_1, vm_2, vm_3, vm_4, .ref hs, vm_6, vm_7, vm_8, vm_9, vm_10, vm_11, vm_12, vm_13, vm_14, vm_15, vm_16, vm_17, vm_18, vm_19, vm_20, vm_21, vm_22, vm_23])), (hs, .inl (cI, 45, .inl f))]) [0, 1] (by decide) rfl
        exact wt_iret hx hb hr hlocks hP9 hD9 hS rfl dX6_tube_55
    · skip
      refine lv_ldc hx hb hown wc67 dX6_tube_25 ?_
      have hP9 := hP.sub (ws' := [(md, .inr (6, [.int 0, vm_1, vm_2, vm_3, vm_4, .ref hs, vm_6, vm_7, vm_8, vm_9, vm_10, vm_11, vm_12, vm_13, vm_14, vm_15, vm_16, vm_17, vm_18, vm_19, vm_20, vm_21, vm_22, vm_23])), (hs, .inl (cI, 45, .inl f))]) [0, 1] rfl
      have hD9 := hD.sub (ws' := [(md, .inr (6, [.int 0, vm_1, vm_2, vm_3, vm_4, .ref hs, vm_6, vm_7, vm_8, vm_9, vm_10, vm_11, vm_12, vm_13, vm_14, vm_15, vm_16, vm_17, vm_18, vm_19, vm_20, vm_21, vm_22, vm_23])), (hs, .inl (cI, 45, .inl f))]) [0, 1] (by decide) rfl
      exact wt_iret hx hb hr hlocks hP9 hD9 hS rfl dX6_tube_27
set_option maxHeartbeats 4000000 in
set_option maxRecDepth 100000 in
theorem c_X6_room (l : Launch) (D : va_G) (cI cZ cH : ClassId) (md hs : Nat) (R T : Nat) (f : Nat → Int32) (a1 a2 : Int32) (vm_0 vm_1 vm_2 vm_3 vm_4 vm_6 vm_7 vm_8 vm_9 vm_10 vm_11 vm_12 vm_13 vm_14 vm_15 vm_16 vm_17 vm_18 vm_19 vm_20 vm_21 vm_22 vm_23 : Value) (hR5 : R ≤ 5) (hT6 : T ≤ 6) (hrk : rk R T f) : wt_M l yX6_room wsX6_room ({ frames := 2, cells := 0, slots := 0, locals := 46 } : Room) D (wt_T cI cZ cH) [.ref md, .int a1, .int a2] [(md, .inr (6, [vm_0, vm_1, vm_2, vm_3, vm_4, .ref hs, vm_6, vm_7, vm_8, vm_9, vm_10, vm_11, vm_12, vm_13, vm_14, vm_15, vm_16, vm_17, vm_18, vm_19, vm_20, vm_21, vm_22, vm_23])), (hs, .inl (cI, 45, .inl f))] (wt_QI D (fun r w => w = [(md, .inr (6, [.int 0, vm_1, vm_2, vm_3, vm_4, .ref hs, vm_6, vm_7, vm_8, vm_9, vm_10, vm_11, vm_12, vm_13, vm_14, vm_15, vm_16, vm_17, vm_18, vm_19, vm_20, vm_21, vm_22, vm_23])), (hs, .inl (cI, 45, .inl f))])) := by
  refine wt_M.ofW (cc := cX6_room) (maxL := 3) (ret := (some .int)) (by decide) rfl (Nat.le_of_ble_eq_true rfl) ?_
  intro p e s m below meth c A ls hx hb hr hts hown hlocks hml hnm hP hK hD hA hS hl
  have hP : va_P D vwCl [(md, .inr (6, [vm_0, vm_1, vm_2, vm_3, vm_4, .ref hs, vm_6, vm_7, vm_8, vm_9, vm_10, vm_11, vm_12, vm_13, vm_14, vm_15, vm_16, vm_17, vm_18, vm_19, vm_20, vm_21, vm_22, vm_23])), (hs, .inl (cI, 45, .inl f))] s.heap := hP
  have hown : s.vm.findClass RX6 = some m.cls := hown
  have hl : lv_has ls 3 [(0, .ref md), (1, .int a1), (2, .int a2)] := hl
  have hi6 : ∀ w ∈ u_ws RX6 TX6 24, w ∈ wsX6_room := by decide +kernel
  have wc67 := hts (.constant RX6 67 (-1000001)) (by decide +kernel)
  have wf19 := hts (.fieldLink RX6 19 "WarmTubesModel" "house" "[I") (by decide +kernel)
  have wf47 := hts (.fieldLink RX6 47 "WarmTubesModel" "thrown" "I") (by decide +kernel)
  have wl220 := hts (.constantLong RX6 220 (3)) (by decide +kernel)
  refine lv_aload_n hx hb dX6_room_0 rfl (lv_at hl 0 rfl) ?_
  refine lv_iconst (v := 0) hx hb dX6_room_1 (by decide) ?_
  refine va_put (D := D) (ci := 6) (v := .int 0) (ty := .int) (C := RX6) (T := TX6) (N := 24) hx hb hts hi6 tyX6 tyX6_ok nmX6 hown hK.1 hP hD hS 0 rfl rfl 0 (by decide) wf47 (fun _ h9 => h9) rfl (by decide +kernel) rfl rfl (Nat.le_of_ble_eq_true rfl) dX6_room_2 (fun H locs hP hD hS => ?_)
  have hP : va_P D vwCl [(md, .inr (6, [.int 0, vm_1, vm_2, vm_3, vm_4, .ref hs, vm_6, vm_7, vm_8, vm_9, vm_10, vm_11, vm_12, vm_13, vm_14, vm_15, vm_16, vm_17, vm_18, vm_19, vm_20, vm_21, vm_22, vm_23])), (hs, .inl (cI, 45, .inl f))] H := hP
  have hD : va_D A [(md, .inr (6, [.int 0, vm_1, vm_2, vm_3, vm_4, .ref hs, vm_6, vm_7, vm_8, vm_9, vm_10, vm_11, vm_12, vm_13, vm_14, vm_15, vm_16, vm_17, vm_18, vm_19, vm_20, vm_21, vm_22, vm_23])), (hs, .inl (cI, 45, .inl f))] := hD
  refine lv_aload_n hx hb dX6_room_5 rfl (lv_at hl 0 rfl) ?_
  refine lv_iload_n hx hb dX6_room_6 rfl (lv_at hl 1 rfl) ?_
  refine wt_rV (As := [.int a1]) (rest := []) ⟨hx, hb, hml, hown, hts⟩ (c_X6_isPlace l D cI cZ cH md hs R T f a1 (.int 0) vm_1 vm_2 vm_3 vm_4 vm_6 vm_7 vm_8 vm_9 vm_10 vm_11 vm_12 vm_13 vm_14 vm_15 vm_16 vm_17 vm_18 vm_19 vm_20 vm_21 vm_22 vm_23 (by first | assumption | omega) (by first | assumption | omega) (by first | assumption | omega)) (cwV 1 hts gX6_room_X6_isPlace rfl rfl rfl (by decide +kernel) ⟨Nat.le_of_ble_eq_true rfl, Nat.le_of_ble_eq_true rfl⟩) hK hP [0, 1] rfl (va_recv hK.1 hP (ci := 6) (q0 := 0) rfl rfl) rfl hl.1 rfl (Nat.le_of_ble_eq_true rfl) dX6_room_7 ⟨Nat.le_of_ble_eq_true rfl, Nat.le_of_ble_eq_true rfl⟩ (fun r_1 e_2 => ?_)
  subst e_2
  refine lv_if_eq (tgt := 40) hx hb dX6_room_10 (by decide) (fun c_3 => ?_) (fun c_3 => ?_)
  · skip
    refine lv_ldc hx hb hown wc67 dX6_room_40 ?_
    have hP9 := hP.sub (ws' := [(md, .inr (6, [.int 0, vm_1, vm_2, vm_3, vm_4, .ref hs, vm_6, vm_7, vm_8, vm_9, vm_10, vm_11, vm_12, vm_13, vm_14, vm_15, vm_16, vm_17, vm_18, vm_19, vm_20, vm_21, vm_22, vm_23])), (hs, .inl (cI, 45, .inl f))]) [0, 1] rfl
    have hD9 := hD.sub (ws' := [(md, .inr (6, [.int 0, vm_1, vm_2, vm_3, vm_4, .ref hs, vm_6, vm_7, vm_8, vm_9, vm_10, vm_11, vm_12, vm_13, vm_14, vm_15, vm_16, vm_17, vm_18, vm_19, vm_20, vm_21, vm_22, vm_23])), (hs, .inl (cI, 45, .inl f))]) [0, 1] (by decide) rfl
    exact wt_iret hx hb hr hlocks hP9 hD9 hS rfl dX6_room_42
  · skip
    obtain ⟨h0j_4, j_4, hj_4, rfl⟩ := gP_nat (R := R) (by omega) c_3
    refine lv_iload_n hx hb dX6_room_13 rfl (lv_at hl 2 rfl) ?_
    refine lv_i2l hx hb dX6_room_14 rfl ?_
    refine lv_lconst (v := 0) hx hb dX6_room_15 (by decide) ?_
    refine lv_ldc2 hx hb hown wl220 dX6_room_16 ?_
    refine wt_rS (As := [.long a2.toInt64, .long 0, .long 3]) (rest := []) ⟨hx, hb, hml, hown, hts⟩ (c_X6_in l D cI cZ cH a2.toInt64 0 3) (va_cwS 3 hts gX6_room_X6_in rfl rfl rfl (by decide +kernel) ⟨Nat.le_of_ble_eq_true rfl, Nat.le_of_ble_eq_true rfl⟩) hK hP [] rfl rfl hl.1 rfl (Nat.le_of_ble_eq_true rfl) dX6_room_19 ⟨Nat.le_of_ble_eq_true rfl, Nat.le_of_ble_eq_true rfl⟩ (fun r_5 e_6 => ?_)
    subst e_6
    refine wt_top (z := wI a2 0 3) (wL_I' (by decide) (by decide)) ?_
    refine lv_if_eq (tgt := 40) hx hb dX6_room_22 (by decide) (fun c_7 => ?_) (fun c_7 => ?_)
    · skip
      refine lv_ldc hx hb hown wc67 dX6_room_40 ?_
      have hP9 := hP.sub (ws' := [(md, .inr (6, [.int 0, vm_1, vm_2, vm_3, vm_4, .ref hs, vm_6, vm_7, vm_8, vm_9, vm_10, vm_11, vm_12, vm_13, vm_14, vm_15, vm_16, vm_17, vm_18, vm_19, vm_20, vm_21, vm_22, vm_23])), (hs, .inl (cI, 45, .inl f))]) [0, 1] rfl
      have hD9 := hD.sub (ws' := [(md, .inr (6, [.int 0, vm_1, vm_2, vm_3, vm_4, .ref hs, vm_6, vm_7, vm_8, vm_9, vm_10, vm_11, vm_12, vm_13, vm_14, vm_15, vm_16, vm_17, vm_18, vm_19, vm_20, vm_21, vm_22, vm_23])), (hs, .inl (cI, 45, .inl f))]) [0, 1] (by decide) rfl
      exact wt_iret hx hb hr hlocks hP9 hD9 hS rfl dX6_room_42
    · skip
      obtain ⟨j_8, hj_8, hj_8b, rfl⟩ := wI_nat (a := 0) (b := 3) (by omega) (by omega) c_7
      refine lv_iload_n hx hb dX6_room_25 rfl (lv_at hl 1 rfl) ?_
      refine lv_aload_n hx hb dX6_room_26 rfl (lv_at hl 0 rfl) ?_
      refine va_get (D := D) (ci := 6) (v := .ref hs) (C := RX6) (T := TX6) (N := 24) hx hb hts hi6 hown hK.1 hP 0 rfl rfl 5 (by decide) wf19 (fun _ h9 => h9) rfl dX6_room_27 ?_
      refine lv_iconst (v := 0) hx hb dX6_room_30 (by decide) ?_
      refine va_iald hx hb hK.1 hP 1 0 rfl rfl (by rw [vp_in_iff]; decide) dX6_room_31 ?_
      refine wt_top (z := nI R) (hrk.1) ?_
      refine lv_icmp_ne (tgt := 43) hx hb dX6_room_32 (by decide) (fun c_9 => ?_) (fun c_9 => ?_)
      · skip
        have c_9 : ¬ (j_4 = R) := fun h => c_9 ((nI_eq (a := j_4) (b := R) (by omega) (by omega)).mpr h)
        refine lv_iload_n hx hb dX6_room_43 rfl (lv_at hl 2 rfl) ?_
        refine lv_iconst (v := 2) hx hb dX6_room_44 (by decide) ?_
        refine lv_icmp_ge (tgt := 63) hx hb dX6_room_45 (by decide) (fun c_10 => ?_) (fun c_10 => ?_)
        · skip
          have c_10 : 2 ≤ j_8 := (nI_leI (a := 2) (b := j_8) (by omega) (by omega)).mp c_10
          refine lv_iload_n hx hb dX6_room_63 rfl (lv_at hl 2 rfl) ?_
          refine lv_iconst (v := 2) hx hb dX6_room_64 (by decide) ?_
          refine lv_icmp_ne (tgt := 87) hx hb dX6_room_65 (by decide) (fun c_11 => ?_) (fun c_11 => ?_)
          · skip
            have c_11 : ¬ (j_8 = 2) := fun h => c_11 ((nI_eq (a := j_8) (b := 2) (by omega) (by omega)).mpr h)
            refine lv_aload_n hx hb dX6_room_87 rfl (lv_at hl 0 rfl) ?_
            refine va_get (D := D) (ci := 6) (v := .ref hs) (C := RX6) (T := TX6) (N := 24) hx hb hts hi6 hown hK.1 hP 0 rfl rfl 5 (by decide) wf19 (fun _ h9 => h9) rfl dX6_room_88 ?_
            refine lv_iload_n hx hb dX6_room_91 rfl (lv_at hl 1 rfl) ?_
            refine wt_rS (As := [.ref hs, .int (nI j_4)]) (rest := []) ⟨hx, hb, hml, hown, hts⟩ (c_X6_tubesIn l D cI cZ cH hs R T f (nI j_4) (by first | assumption | omega) (by first | assumption | omega) (by first | assumption | omega)) (va_cwS 2 hts gX6_room_X6_tubesIn rfl rfl rfl (by decide +kernel) ⟨Nat.le_of_ble_eq_true rfl, Nat.le_of_ble_eq_true rfl⟩) hK hP [1] rfl rfl hl.1 rfl (Nat.le_of_ble_eq_true rfl) dX6_room_92 ⟨Nat.le_of_ble_eq_true rfl, Nat.le_of_ble_eq_true rfl⟩ (fun r_12 e_13 => ?_)
            obtain ⟨b_14, e_13, rfl⟩ := e_13
            have hP9 := hP.sub (ws' := [(md, .inr (6, [.int 0, vm_1, vm_2, vm_3, vm_4, .ref hs, vm_6, vm_7, vm_8, vm_9, vm_10, vm_11, vm_12, vm_13, vm_14, vm_15, vm_16, vm_17, vm_18, vm_19, vm_20, vm_21, vm_22, vm_23])), (hs, .inl (cI, 45, .inl f))]) [0, 1] rfl
            have hD9 := hD.sub (ws' := [(md, .inr (6, [.int 0, vm_1, vm_2, vm_3, vm_4, .ref hs, vm_6, vm_7, vm_8, vm_9, vm_10, vm_11, vm_12, vm_13, vm_14, vm_15, vm_16, vm_17, vm_18, vm_19, vm_20, vm_21, vm_22, vm_23])), (hs, .inl (cI, 45, .inl f))]) [0, 1] (by decide) rfl
            exact wt_iret hx hb hr hlocks hP9 hD9 hS rfl dX6_room_95
          · skip
            have c_11 : j_8 = 2 := (nI_eq (a := j_8) (b := 2) (by omega) (by omega)).mp c_11
            refine lv_aload_n hx hb dX6_room_68 rfl (lv_at hl 0 rfl) ?_
            refine va_get (D := D) (ci := 6) (v := .ref hs) (C := RX6) (T := TX6) (N := 24) hx hb hts hi6 hown hK.1 hP 0 rfl rfl 5 (by decide) wf19 (fun _ h9 => h9) rfl dX6_room_69 ?_
            refine lv_iload_n hx hb dX6_room_72 rfl (lv_at hl 1 rfl) ?_
            refine wt_rS (As := [.ref hs, .int (nI j_4)]) (rest := []) ⟨hx, hb, hml, hown, hts⟩ (c_X6_isCold l D cI cZ cH hs R T f j_4 (by first | assumption | omega) (by first | assumption | omega) (by first | assumption | omega) (by first | assumption | omega)) (va_cwS 2 hts gX6_room_X6_isCold rfl rfl rfl (by decide +kernel) ⟨Nat.le_of_ble_eq_true rfl, Nat.le_of_ble_eq_true rfl⟩) hK hP [1] rfl rfl hl.1 rfl (Nat.le_of_ble_eq_true rfl) dX6_room_73 ⟨Nat.le_of_ble_eq_true rfl, Nat.le_of_ble_eq_true rfl⟩ (fun r_15 e_16 => ?_)
            refine lv_if_eq (tgt := 83) hx hb dX6_room_76 (by decide) (fun c_17 => ?_) (fun c_17 => ?_)
            · skip
              refine lv_iconst (v := 0) hx hb dX6_room_83 (by decide) ?_
              refine lv_goto (tgt := 95) hx hb dX6_room_84 (by decide) ?_
              have hP9 := hP.sub (ws' := [(md, .inr (6, [.int 0, vm_1, vm_2, vm_3, vm_4, .ref hs, vm_6, vm_7, vm_8, vm_9, vm_10, vm_11, vm_12, vm_13, vm_14, vm_15, vm_16, vm_17, vm_18, vm_19, vm_20, vm_21, vm_22, vm_23])), (hs, .inl (cI, 45, .inl f))]) [0, 1] rfl
              have hD9 := hD.sub (ws' := [(md, .inr (6, [.int 0, vm_1, vm_2, vm_3, vm_4, .ref hs, vm_6, vm_7, vm_8, vm_9, vm_10, vm_11, vm_12, vm_13, vm_14, vm_15, vm_16, vm_17, vm_18, vm_19, vm_20, vm_21, vm_22, vm_23])), (hs, .inl (cI, 45, .inl f))]) [0, 1] (by decide) rfl
              exact wt_iret hx hb hr hlocks hP9 hD9 hS rfl dX6_room_95
            · skip
              refine lv_iconst (v := 1) hx hb dX6_room_79 (by decide) ?_
              refine lv_goto (tgt := 95) hx hb dX6_room_80 (by decide) ?_
              have hP9 := hP.sub (ws' := [(md, .inr (6, [.int 0, vm_1, vm_2, vm_3, vm_4, .ref hs, vm_6, vm_7, vm_8, vm_9, vm_10, vm_11, vm_12, vm_13, vm_14, vm_15, vm_16, vm_17, vm_18, vm_19, vm_20, vm_21, vm_22, vm_23])), (hs, .inl (cI, 45, .inl f))]) [0, 1] rfl
              have hD9 := hD.sub (ws' := [(md, .inr (6, [.int 0, vm_1, vm_2, vm_3, vm_4, .ref hs, vm_6, vm_7, vm_8, vm_9, vm_10, vm_11, vm_12, vm_13, vm_14, vm_15, vm_16, vm_17, vm_18, vm_19, vm_20, vm_21, vm_22, vm_23])), (hs, .inl (cI, 45, .inl f))]) [0, 1] (by decide) rfl
              exact wt_iret hx hb hr hlocks hP9 hD9 hS rfl dX6_room_95
        · skip
          have c_10 : ¬ (2 ≤ j_8) := fun h => c_10 ((nI_leI (a := 2) (b := j_8) (by omega) (by omega)).mpr h)
          refine lv_aload_n hx hb dX6_room_48 rfl (lv_at hl 0 rfl) ?_
          refine va_get (D := D) (ci := 6) (v := .ref hs) (C := RX6) (T := TX6) (N := 24) hx hb hts hi6 hown hK.1 hP 0 rfl rfl 5 (by decide) wf19 (fun _ h9 => h9) rfl dX6_room_49 ?_
          refine lv_iconst (v := 5) hx hb dX6_room_52 (by decide) ?_
          refine lv_iconst (v := 2) hx hb dX6_room_53 (by decide) ?_
          refine lv_iload_n hx hb dX6_room_54 rfl (lv_at hl 1 rfl) ?_
          refine lv_imul hx hb dX6_room_55 ?_
          refine wt_top (z := nI (2 * j_4)) (pk_mul 2 j_4) ?_
          refine lv_iadd hx hb dX6_room_56 ?_
          refine wt_top (z := nI (5 + (2 * j_4))) (nI_add 5 (2 * j_4)) ?_
          refine lv_iload_n hx hb dX6_room_57 rfl (lv_at hl 2 rfl) ?_
          refine lv_iadd hx hb dX6_room_58 ?_
          refine wt_top (z := nI ((5 + (2 * j_4)) + j_8)) (nI_add (5 + (2 * j_4)) j_8) ?_
          refine va_iald hx hb hK.1 hP 1 0 rfl rfl (vp_in_nI (by omega) (by omega)) dX6_room_59 ?_
          refine lv_topi (fun ov_18 _ => ?_)
          refine lv_goto (tgt := 95) hx hb dX6_room_60 (by decide) ?_
          have hP9 := hP.sub (ws' := [(md, .inr (6, [.int 0, vm_1, vm_2, vm_3, vm_4, .ref hs, vm_6, vm_7, vm_8, vm_9, vm_10, vm_11, vm_12, vm_13, vm_14, vm_15, vm_16, vm_17, vm_18, vm_19, vm_20, vm_21, vm_22, vm_23])), (hs, .inl (cI, 45, .inl f))]) [0, 1] rfl
          have hD9 := hD.sub (ws' := [(md, .inr (6, [.int 0, vm_1, vm_2, vm_3, vm_4, .ref hs, vm_6, vm_7, vm_8, vm_9, vm_10, vm_11, vm_12, vm_13, vm_14, vm_15, vm_16, vm_17, vm_18, vm_19, vm_20, vm_21, vm_22, vm_23])), (hs, .inl (cI, 45, .inl f))]) [0, 1] (by decide) rfl
          exact wt_iret hx hb hr hlocks hP9 hD9 hS rfl dX6_room_95
      · skip
        have c_9 : j_4 = R := (nI_eq (a := j_4) (b := R) (by omega) (by omega)).mp c_9
        refine lv_iload_n hx hb dX6_room_35 rfl (lv_at hl 2 rfl) ?_
        refine lv_iconst (v := 3) hx hb dX6_room_36 (by decide) ?_
        refine lv_icmp_ge (tgt := 43) hx hb dX6_room_37 (by decide) (fun c_19 => ?_) (fun c_19 => ?_)
        · skip
          have c_19 : 3 ≤ j_8 := (nI_leI (a := 3) (b := j_8) (by omega) (by omega)).mp c_19
          refine lv_iload_n hx hb dX6_room_43 rfl (lv_at hl 2 rfl) ?_
          refine lv_iconst (v := 2) hx hb dX6_room_44 (by decide) ?_
          refine lv_icmp_ge (tgt := 63) hx hb dX6_room_45 (by decide) (fun c_20 => ?_) (fun c_20 => ?_)
          · skip
            have c_20 : 2 ≤ j_8 := (nI_leI (a := 2) (b := j_8) (by omega) (by omega)).mp c_20
            refine lv_iload_n hx hb dX6_room_63 rfl (lv_at hl 2 rfl) ?_
            refine lv_iconst (v := 2) hx hb dX6_room_64 (by decide) ?_
            refine lv_icmp_ne (tgt := 87) hx hb dX6_room_65 (by decide) (fun c_21 => ?_) (fun c_21 => ?_)
            · skip
              have c_21 : ¬ (j_8 = 2) := fun h => c_21 ((nI_eq (a := j_8) (b := 2) (by omega) (by omega)).mpr h)
              refine lv_aload_n hx hb dX6_room_87 rfl (lv_at hl 0 rfl) ?_
              refine va_get (D := D) (ci := 6) (v := .ref hs) (C := RX6) (T := TX6) (N := 24) hx hb hts hi6 hown hK.1 hP 0 rfl rfl 5 (by decide) wf19 (fun _ h9 => h9) rfl dX6_room_88 ?_
              refine lv_iload_n hx hb dX6_room_91 rfl (lv_at hl 1 rfl) ?_
              refine wt_rS (As := [.ref hs, .int (nI j_4)]) (rest := []) ⟨hx, hb, hml, hown, hts⟩ (c_X6_tubesIn l D cI cZ cH hs R T f (nI j_4) (by first | assumption | omega) (by first | assumption | omega) (by first | assumption | omega)) (va_cwS 2 hts gX6_room_X6_tubesIn rfl rfl rfl (by decide +kernel) ⟨Nat.le_of_ble_eq_true rfl, Nat.le_of_ble_eq_true rfl⟩) hK hP [1] rfl rfl hl.1 rfl (Nat.le_of_ble_eq_true rfl) dX6_room_92 ⟨Nat.le_of_ble_eq_true rfl, Nat.le_of_ble_eq_true rfl⟩ (fun r_22 e_23 => ?_)
              obtain ⟨b_24, e_23, rfl⟩ := e_23
              have hP9 := hP.sub (ws' := [(md, .inr (6, [.int 0, vm_1, vm_2, vm_3, vm_4, .ref hs, vm_6, vm_7, vm_8, vm_9, vm_10, vm_11, vm_12, vm_13, vm_14, vm_15, vm_16, vm_17, vm_18, vm_19, vm_20, vm_21, vm_22, vm_23])), (hs, .inl (cI, 45, .inl f))]) [0, 1] rfl
              have hD9 := hD.sub (ws' := [(md, .inr (6, [.int 0, vm_1, vm_2, vm_3, vm_4, .ref hs, vm_6, vm_7, vm_8, vm_9, vm_10, vm_11, vm_12, vm_13, vm_14, vm_15, vm_16, vm_17, vm_18, vm_19, vm_20, vm_21, vm_22, vm_23])), (hs, .inl (cI, 45, .inl f))]) [0, 1] (by decide) rfl
              exact wt_iret hx hb hr hlocks hP9 hD9 hS rfl dX6_room_95
            · skip
              have c_21 : j_8 = 2 := (nI_eq (a := j_8) (b := 2) (by omega) (by omega)).mp c_21
              refine lv_aload_n hx hb dX6_room_68 rfl (lv_at hl 0 rfl) ?_
              refine va_get (D := D) (ci := 6) (v := .ref hs) (C := RX6) (T := TX6) (N := 24) hx hb hts hi6 hown hK.1 hP 0 rfl rfl 5 (by decide) wf19 (fun _ h9 => h9) rfl dX6_room_69 ?_
              refine lv_iload_n hx hb dX6_room_72 rfl (lv_at hl 1 rfl) ?_
              refine wt_rS (As := [.ref hs, .int (nI j_4)]) (rest := []) ⟨hx, hb, hml, hown, hts⟩ (c_X6_isCold l D cI cZ cH hs R T f j_4 (by first | assumption | omega) (by first | assumption | omega) (by first | assumption | omega) (by first | assumption | omega)) (va_cwS 2 hts gX6_room_X6_isCold rfl rfl rfl (by decide +kernel) ⟨Nat.le_of_ble_eq_true rfl, Nat.le_of_ble_eq_true rfl⟩) hK hP [1] rfl rfl hl.1 rfl (Nat.le_of_ble_eq_true rfl) dX6_room_73 ⟨Nat.le_of_ble_eq_true rfl, Nat.le_of_ble_eq_true rfl⟩ (fun r_25 e_26 => ?_)
              refine lv_if_eq (tgt := 83) hx hb dX6_room_76 (by decide) (fun c_27 => ?_) (fun c_27 => ?_)
              · skip
                refine lv_iconst (v := 0) hx hb dX6_room_83 (by decide) ?_
                refine lv_goto (tgt := 95) hx hb dX6_room_84 (by decide) ?_
                have hP9 := hP.sub (ws' := [(md, .inr (6, [.int 0, vm_1, vm_2, vm_3, vm_4, .ref hs, vm_6, vm_7, vm_8, vm_9, vm_10, vm_11, vm_12, vm_13, vm_14, vm_15, vm_16, vm_17, vm_18, vm_19, vm_20, vm_21, vm_22, vm_23])), (hs, .inl (cI, 45, .inl f))]) [0, 1] rfl
                have hD9 := hD.sub (ws' := [(md, .inr (6, [.int 0, vm_1, vm_2, vm_3, vm_4, .ref hs, vm_6, vm_7, vm_8, vm_9, vm_10, vm_11, vm_12, vm_13, vm_14, vm_15, vm_16, vm_17, vm_18, vm_19, vm_20, vm_21, vm_22, vm_23])), (hs, .inl (cI, 45, .inl f))]) [0, 1] (by decide) rfl
                exact wt_iret hx hb hr hlocks hP9 hD9 hS rfl dX6_room_95
              · skip
                refine lv_iconst (v := 1) hx hb dX6_room_79 (by decide) ?_
                refine lv_goto (tgt := 95) hx hb dX6_room_80 (by decide) ?_
                have hP9 := hP.sub (ws' := [(md, .inr (6, [.int 0, vm_1, vm_2, vm_3, vm_4, .ref hs, vm_6, vm_7, vm_8, vm_9, vm_10, vm_11, vm_12, vm_13, vm_14, vm_15, vm_16, vm_17, vm_18, vm_19, vm_20, vm_21, vm_22, vm_23])), (hs, .inl (cI, 45, .inl f))]) [0, 1] rfl
                have hD9 := hD.sub (ws' := [(md, .inr (6, [.int 0, vm_1, vm_2, vm_3, vm_4, .ref hs, vm_6, vm_7, vm_8, vm_9, vm_10, vm_11, vm_12, vm_13, vm_14, vm_15, vm_16, vm_17, vm_18, vm_19, vm_20, vm_21, vm_22, vm_23])), (hs, .inl (cI, 45, .inl f))]) [0, 1] (by decide) rfl
                exact wt_iret hx hb hr hlocks hP9 hD9 hS rfl dX6_room_95
          · skip
            have c_20 : ¬ (2 ≤ j_8) := fun h => c_20 ((nI_leI (a := 2) (b := j_8) (by omega) (by omega)).mpr h)
            refine lv_aload_n hx hb dX6_room_48 rfl (lv_at hl 0 rfl) ?_
            refine va_get (D := D) (ci := 6) (v := .ref hs) (C := RX6) (T := TX6) (N := 24) hx hb hts hi6 hown hK.1 hP 0 rfl rfl 5 (by decide) wf19 (fun _ h9 => h9) rfl dX6_room_49 ?_
            refine lv_iconst (v := 5) hx hb dX6_room_52 (by decide) ?_
            refine lv_iconst (v := 2) hx hb dX6_room_53 (by decide) ?_
            refine lv_iload_n hx hb dX6_room_54 rfl (lv_at hl 1 rfl) ?_
            refine lv_imul hx hb dX6_room_55 ?_
            refine wt_top (z := nI (2 * j_4)) (pk_mul 2 j_4) ?_
            refine lv_iadd hx hb dX6_room_56 ?_
            refine wt_top (z := nI (5 + (2 * j_4))) (nI_add 5 (2 * j_4)) ?_
            refine lv_iload_n hx hb dX6_room_57 rfl (lv_at hl 2 rfl) ?_
            refine lv_iadd hx hb dX6_room_58 ?_
            refine wt_top (z := nI ((5 + (2 * j_4)) + j_8)) (nI_add (5 + (2 * j_4)) j_8) ?_
            refine va_iald hx hb hK.1 hP 1 0 rfl rfl (vp_in_nI (by omega) (by omega)) dX6_room_59 ?_
            refine lv_topi (fun ov_28 _ => ?_)
            refine lv_goto (tgt := 95) hx hb dX6_room_60 (by decide) ?_
            have hP9 := hP.sub (ws' := [(md, .inr (6, [.int 0, vm_1, vm_2, vm_3, vm_4, .ref hs, vm_6, vm_7, vm_8, vm_9, vm_10, vm_11, vm_12, vm_13, vm_14, vm_15, vm_16, vm_17, vm_18, vm_19, vm_20, vm_21, vm_22, vm_23])), (hs, .inl (cI, 45, .inl f))]) [0, 1] rfl
            have hD9 := hD.sub (ws' := [(md, .inr (6, [.int 0, vm_1, vm_2, vm_3, vm_4, .ref hs, vm_6, vm_7, vm_8, vm_9, vm_10, vm_11, vm_12, vm_13, vm_14, vm_15, vm_16, vm_17, vm_18, vm_19, vm_20, vm_21, vm_22, vm_23])), (hs, .inl (cI, 45, .inl f))]) [0, 1] (by decide) rfl
            exact wt_iret hx hb hr hlocks hP9 hD9 hS rfl dX6_room_95
        · skip
          have c_19 : ¬ (3 ≤ j_8) := fun h => c_19 ((nI_leI (a := 3) (b := j_8) (by omega) (by omega)).mpr h)
          refine lv_ldc hx hb hown wc67 dX6_room_40 ?_
          have hP9 := hP.sub (ws' := [(md, .inr (6, [.int 0, vm_1, vm_2, vm_3, vm_4, .ref hs, vm_6, vm_7, vm_8, vm_9, vm_10, vm_11, vm_12, vm_13, vm_14, vm_15, vm_16, vm_17, vm_18, vm_19, vm_20, vm_21, vm_22, vm_23])), (hs, .inl (cI, 45, .inl f))]) [0, 1] rfl
          have hD9 := hD.sub (ws' := [(md, .inr (6, [.int 0, vm_1, vm_2, vm_3, vm_4, .ref hs, vm_6, vm_7, vm_8, vm_9, vm_10, vm_11, vm_12, vm_13, vm_14, vm_15, vm_16, vm_17, vm_18, vm_19, vm_20, vm_21, vm_22, vm_23])), (hs, .inl (cI, 45, .inl f))]) [0, 1] (by decide) rfl
          exact wt_iret hx hb hr hlocks hP9 hD9 hS rfl dX6_room_42
set_option maxHeartbeats 4000000 in
set_option maxRecDepth 100000 in
theorem c_X6_degrees (l : Launch) (D : va_G) (cI cZ cH : ClassId) (md hs : Nat) (R T : Nat) (f : Nat → Int32) (vm_0 vm_1 vm_2 vm_3 vm_4 vm_6 vm_7 vm_8 vm_9 vm_10 vm_11 vm_12 vm_13 vm_14 vm_15 vm_16 vm_17 vm_18 vm_19 vm_20 vm_21 vm_22 vm_23 : Value) (hR5 : R ≤ 5) (hT6 : T ≤ 6) (hrk : rk R T f) : wt_M l yX6_degrees wsX6_degrees ({ frames := 3, cells := 0, slots := 0, locals := 66 } : Room) D (wt_T cI cZ cH) [.ref md] [(md, .inr (6, [vm_0, vm_1, vm_2, vm_3, vm_4, .ref hs, vm_6, vm_7, vm_8, vm_9, vm_10, vm_11, vm_12, vm_13, vm_14, vm_15, vm_16, vm_17, vm_18, vm_19, vm_20, vm_21, vm_22, vm_23])), (hs, .inl (cI, 45, .inl f))] (wt_QI D (fun r w => w = [(md, .inr (6, [.int 0, vm_1, vm_2, vm_3, vm_4, .ref hs, vm_6, vm_7, vm_8, vm_9, vm_10, vm_11, vm_12, vm_13, vm_14, vm_15, vm_16, vm_17, vm_18, vm_19, vm_20, vm_21, vm_22, vm_23])), (hs, .inl (cI, 45, .inl f))])) := by
  refine wt_M.ofW (cc := cX6_degrees) (maxL := 1) (ret := (some .int)) (by decide) rfl (Nat.le_of_ble_eq_true rfl) ?_
  intro p e s m below meth c A ls hx hb hr hts hown hlocks hml hnm hP hK hD hA hS hl
  have hP : va_P D vwCl [(md, .inr (6, [vm_0, vm_1, vm_2, vm_3, vm_4, .ref hs, vm_6, vm_7, vm_8, vm_9, vm_10, vm_11, vm_12, vm_13, vm_14, vm_15, vm_16, vm_17, vm_18, vm_19, vm_20, vm_21, vm_22, vm_23])), (hs, .inl (cI, 45, .inl f))] s.heap := hP
  have hown : s.vm.findClass RX6 = some m.cls := hown
  have hl : lv_has ls 1 [(0, .ref md)] := hl
  have hi6 : ∀ w ∈ u_ws RX6 TX6 24, w ∈ wsX6_degrees := by decide +kernel
  have wc189 := hts (.constant RX6 189 (-1000002)) (by decide +kernel)
  have wf19 := hts (.fieldLink RX6 19 "WarmTubesModel" "house" "[I") (by decide +kernel)
  have wf47 := hts (.fieldLink RX6 47 "WarmTubesModel" "thrown" "I") (by decide +kernel)
  refine lv_aload_n hx hb dX6_degrees_0 rfl (lv_at hl 0 rfl) ?_
  refine lv_iconst (v := 0) hx hb dX6_degrees_1 (by decide) ?_
  refine va_put (D := D) (ci := 6) (v := .int 0) (ty := .int) (C := RX6) (T := TX6) (N := 24) hx hb hts hi6 tyX6 tyX6_ok nmX6 hown hK.1 hP hD hS 0 rfl rfl 0 (by decide) wf47 (fun _ h9 => h9) rfl (by decide +kernel) rfl rfl (Nat.le_of_ble_eq_true rfl) dX6_degrees_2 (fun H locs hP hD hS => ?_)
  have hP : va_P D vwCl [(md, .inr (6, [.int 0, vm_1, vm_2, vm_3, vm_4, .ref hs, vm_6, vm_7, vm_8, vm_9, vm_10, vm_11, vm_12, vm_13, vm_14, vm_15, vm_16, vm_17, vm_18, vm_19, vm_20, vm_21, vm_22, vm_23])), (hs, .inl (cI, 45, .inl f))] H := hP
  have hD : va_D A [(md, .inr (6, [.int 0, vm_1, vm_2, vm_3, vm_4, .ref hs, vm_6, vm_7, vm_8, vm_9, vm_10, vm_11, vm_12, vm_13, vm_14, vm_15, vm_16, vm_17, vm_18, vm_19, vm_20, vm_21, vm_22, vm_23])), (hs, .inl (cI, 45, .inl f))] := hD
  refine lv_aload_n hx hb dX6_degrees_5 rfl (lv_at hl 0 rfl) ?_
  refine wt_rV (As := []) (rest := []) ⟨hx, hb, hml, hown, hts⟩ (c_X6_isThere l D cI cZ cH md hs R T f (.int 0) vm_1 vm_2 vm_3 vm_4 vm_6 vm_7 vm_8 vm_9 vm_10 vm_11 vm_12 vm_13 vm_14 vm_15 vm_16 vm_17 vm_18 vm_19 vm_20 vm_21 vm_22 vm_23 (by first | assumption | omega) (by first | assumption | omega) (by first | assumption | omega)) (cwV 0 hts gX6_degrees_X6_isThere rfl rfl rfl (by decide +kernel) ⟨Nat.le_of_ble_eq_true rfl, Nat.le_of_ble_eq_true rfl⟩) hK hP [0, 1] rfl (va_recv hK.1 hP (ci := 6) (q0 := 0) rfl rfl) rfl hl.1 rfl (Nat.le_of_ble_eq_true rfl) dX6_degrees_6 ⟨Nat.le_of_ble_eq_true rfl, Nat.le_of_ble_eq_true rfl⟩ (fun r_1 e_2 => ?_)
  subst e_2
  refine lv_if_eq (tgt := 22) hx hb dX6_degrees_9 (by decide) (fun c_3 => ?_) (fun c_3 => ?_)
  · skip
    refine lv_ldc hx hb hown wc189 dX6_degrees_22 ?_
    have hP9 := hP.sub (ws' := [(md, .inr (6, [.int 0, vm_1, vm_2, vm_3, vm_4, .ref hs, vm_6, vm_7, vm_8, vm_9, vm_10, vm_11, vm_12, vm_13, vm_14, vm_15, vm_16, vm_17, vm_18, vm_19, vm_20, vm_21, vm_22, vm_23])), (hs, .inl (cI, 45, .inl f))]) [0, 1] rfl
    have hD9 := hD.sub (ws' := [(md, .inr (6, [.int 0, vm_1, vm_2, vm_3, vm_4, .ref hs, vm_6, vm_7, vm_8, vm_9, vm_10, vm_11, vm_12, vm_13, vm_14, vm_15, vm_16, vm_17, vm_18, vm_19, vm_20, vm_21, vm_22, vm_23])), (hs, .inl (cI, 45, .inl f))]) [0, 1] (by decide) rfl
    exact wt_iret hx hb hr hlocks hP9 hD9 hS rfl dX6_degrees_24
  · skip
    have g_4 : 0 < R := wP_nat (by omega) c_3
    refine lv_aload_n hx hb dX6_degrees_12 rfl (lv_at hl 0 rfl) ?_
    refine va_get (D := D) (ci := 6) (v := .ref hs) (C := RX6) (T := TX6) (N := 24) hx hb hts hi6 hown hK.1 hP 0 rfl rfl 5 (by decide) wf19 (fun _ h9 => h9) rfl dX6_degrees_13 ?_
    refine wt_rS (As := [.ref hs]) (rest := []) ⟨hx, hb, hml, hown, hts⟩ (c_X6_degreesOf l D cI cZ cH hs R T f (by first | assumption | omega) (by first | assumption | omega) (by first | assumption | omega)) (va_cwS 1 hts gX6_degrees_X6_degreesOf rfl rfl rfl (by decide +kernel) ⟨Nat.le_of_ble_eq_true rfl, Nat.le_of_ble_eq_true rfl⟩) hK hP [1] rfl rfl hl.1 rfl (Nat.le_of_ble_eq_true rfl) dX6_degrees_16 ⟨Nat.le_of_ble_eq_true rfl, Nat.le_of_ble_eq_true rfl⟩ (fun r_5 e_6 => ?_)
    refine lv_goto (tgt := 24) hx hb dX6_degrees_19 (by decide) ?_
    have hP9 := hP.sub (ws' := [(md, .inr (6, [.int 0, vm_1, vm_2, vm_3, vm_4, .ref hs, vm_6, vm_7, vm_8, vm_9, vm_10, vm_11, vm_12, vm_13, vm_14, vm_15, vm_16, vm_17, vm_18, vm_19, vm_20, vm_21, vm_22, vm_23])), (hs, .inl (cI, 45, .inl f))]) [0, 1] rfl
    have hD9 := hD.sub (ws' := [(md, .inr (6, [.int 0, vm_1, vm_2, vm_3, vm_4, .ref hs, vm_6, vm_7, vm_8, vm_9, vm_10, vm_11, vm_12, vm_13, vm_14, vm_15, vm_16, vm_17, vm_18, vm_19, vm_20, vm_21, vm_22, vm_23])), (hs, .inl (cI, 45, .inl f))]) [0, 1] (by decide) rfl
    exact wt_iret hx hb hr hlocks hP9 hD9 hS rfl dX6_degrees_24
set_option maxHeartbeats 4000000 in
set_option maxRecDepth 100000 in
theorem c_X6_kind (l : Launch) (D : va_G) (cI cZ cH : ClassId) (md hs : Nat) (R T : Nat) (f : Nat → Int32) (a1 : Int32) (vm_0 vm_1 vm_2 vm_3 vm_4 vm_6 vm_7 vm_8 vm_9 vm_10 vm_11 vm_12 vm_13 vm_14 vm_15 vm_16 vm_17 vm_18 vm_19 vm_20 vm_21 vm_22 vm_23 : Value) (hR5 : R ≤ 5) (hT6 : T ≤ 6) (hrk : rk R T f) : wt_M l yX6_kind wsX6_kind ({ frames := 2, cells := 0, slots := 0, locals := 46 } : Room) D (wt_T cI cZ cH) [.ref md, .int a1] [(md, .inr (6, [vm_0, vm_1, vm_2, vm_3, vm_4, .ref hs, vm_6, vm_7, vm_8, vm_9, vm_10, vm_11, vm_12, vm_13, vm_14, vm_15, vm_16, vm_17, vm_18, vm_19, vm_20, vm_21, vm_22, vm_23])), (hs, .inl (cI, 45, .inl f))] (wt_QI D (fun r w => w = [(md, .inr (6, [.int 0, vm_1, vm_2, vm_3, vm_4, .ref hs, vm_6, vm_7, vm_8, vm_9, vm_10, vm_11, vm_12, vm_13, vm_14, vm_15, vm_16, vm_17, vm_18, vm_19, vm_20, vm_21, vm_22, vm_23])), (hs, .inl (cI, 45, .inl f))])) := by
  refine wt_M.ofW (cc := cX6_kind) (maxL := 2) (ret := (some .int)) (by decide) rfl (Nat.le_of_ble_eq_true rfl) ?_
  intro p e s m below meth c A ls hx hb hr hts hown hlocks hml hnm hP hK hD hA hS hl
  have hP : va_P D vwCl [(md, .inr (6, [vm_0, vm_1, vm_2, vm_3, vm_4, .ref hs, vm_6, vm_7, vm_8, vm_9, vm_10, vm_11, vm_12, vm_13, vm_14, vm_15, vm_16, vm_17, vm_18, vm_19, vm_20, vm_21, vm_22, vm_23])), (hs, .inl (cI, 45, .inl f))] s.heap := hP
  have hown : s.vm.findClass RX6 = some m.cls := hown
  have hl : lv_has ls 2 [(0, .ref md), (1, .int a1)] := hl
  have hi6 : ∀ w ∈ u_ws RX6 TX6 24, w ∈ wsX6_kind := by decide +kernel
  have wc67 := hts (.constant RX6 67 (-1000001)) (by decide +kernel)
  have wf19 := hts (.fieldLink RX6 19 "WarmTubesModel" "house" "[I") (by decide +kernel)
  have wf47 := hts (.fieldLink RX6 47 "WarmTubesModel" "thrown" "I") (by decide +kernel)
  refine lv_aload_n hx hb dX6_kind_0 rfl (lv_at hl 0 rfl) ?_
  refine lv_iconst (v := 0) hx hb dX6_kind_1 (by decide) ?_
  refine va_put (D := D) (ci := 6) (v := .int 0) (ty := .int) (C := RX6) (T := TX6) (N := 24) hx hb hts hi6 tyX6 tyX6_ok nmX6 hown hK.1 hP hD hS 0 rfl rfl 0 (by decide) wf47 (fun _ h9 => h9) rfl (by decide +kernel) rfl rfl (Nat.le_of_ble_eq_true rfl) dX6_kind_2 (fun H locs hP hD hS => ?_)
  have hP : va_P D vwCl [(md, .inr (6, [.int 0, vm_1, vm_2, vm_3, vm_4, .ref hs, vm_6, vm_7, vm_8, vm_9, vm_10, vm_11, vm_12, vm_13, vm_14, vm_15, vm_16, vm_17, vm_18, vm_19, vm_20, vm_21, vm_22, vm_23])), (hs, .inl (cI, 45, .inl f))] H := hP
  have hD : va_D A [(md, .inr (6, [.int 0, vm_1, vm_2, vm_3, vm_4, .ref hs, vm_6, vm_7, vm_8, vm_9, vm_10, vm_11, vm_12, vm_13, vm_14, vm_15, vm_16, vm_17, vm_18, vm_19, vm_20, vm_21, vm_22, vm_23])), (hs, .inl (cI, 45, .inl f))] := hD
  refine lv_aload_n hx hb dX6_kind_5 rfl (lv_at hl 0 rfl) ?_
  refine lv_iload_n hx hb dX6_kind_6 rfl (lv_at hl 1 rfl) ?_
  refine wt_rV (As := [.int a1]) (rest := []) ⟨hx, hb, hml, hown, hts⟩ (c_X6_isTube l D cI cZ cH md hs R T f a1 (.int 0) vm_1 vm_2 vm_3 vm_4 vm_6 vm_7 vm_8 vm_9 vm_10 vm_11 vm_12 vm_13 vm_14 vm_15 vm_16 vm_17 vm_18 vm_19 vm_20 vm_21 vm_22 vm_23 (by first | assumption | omega) (by first | assumption | omega) (by first | assumption | omega)) (cwV 1 hts gX6_kind_X6_isTube rfl rfl rfl (by decide +kernel) ⟨Nat.le_of_ble_eq_true rfl, Nat.le_of_ble_eq_true rfl⟩) hK hP [0, 1] rfl (va_recv hK.1 hP (ci := 6) (q0 := 0) rfl rfl) rfl hl.1 rfl (Nat.le_of_ble_eq_true rfl) dX6_kind_7 ⟨Nat.le_of_ble_eq_true rfl, Nat.le_of_ble_eq_true rfl⟩ (fun r_1 e_2 => ?_)
  subst e_2
  refine lv_if_eq (tgt := 25) hx hb dX6_kind_10 (by decide) (fun c_3 => ?_) (fun c_3 => ?_)
  · skip
    refine lv_ldc hx hb hown wc67 dX6_kind_25 ?_
    have hP9 := hP.sub (ws' := [(md, .inr (6, [.int 0, vm_1, vm_2, vm_3, vm_4, .ref hs, vm_6, vm_7, vm_8, vm_9, vm_10, vm_11, vm_12, vm_13, vm_14, vm_15, vm_16, vm_17, vm_18, vm_19, vm_20, vm_21, vm_22, vm_23])), (hs, .inl (cI, 45, .inl f))]) [0, 1] rfl
    have hD9 := hD.sub (ws' := [(md, .inr (6, [.int 0, vm_1, vm_2, vm_3, vm_4, .ref hs, vm_6, vm_7, vm_8, vm_9, vm_10, vm_11, vm_12, vm_13, vm_14, vm_15, vm_16, vm_17, vm_18, vm_19, vm_20, vm_21, vm_22, vm_23])), (hs, .inl (cI, 45, .inl f))]) [0, 1] (by decide) rfl
    exact wt_iret hx hb hr hlocks hP9 hD9 hS rfl dX6_kind_27
  · skip
    obtain ⟨j_4, hj_4, rfl⟩ := wI_natT (T := T) (by omega) c_3
    refine lv_aload_n hx hb dX6_kind_13 rfl (lv_at hl 0 rfl) ?_
    refine va_get (D := D) (ci := 6) (v := .ref hs) (C := RX6) (T := TX6) (N := 24) hx hb hts hi6 hown hK.1 hP 0 rfl rfl 5 (by decide) wf19 (fun _ h9 => h9) rfl dX6_kind_14 ?_
    refine lv_iload_n hx hb dX6_kind_17 rfl (lv_at hl 1 rfl) ?_
    refine lv_iconst (v := 0) hx hb dX6_kind_18 (by decide) ?_
    refine wt_rS (As := [.ref hs, .int (nI j_4), .int 0]) (rest := []) ⟨hx, hb, hml, hown, hts⟩ (c_X6_of_w l D cI cZ cH hs R T f j_4 0 (by first | assumption | omega) (by first | assumption | omega) (by first | assumption | omega) (by first | assumption | omega) (by first | assumption | omega)) (va_cwS 3 hts gX6_kind_X6_of rfl rfl rfl (by decide +kernel) ⟨Nat.le_of_ble_eq_true rfl, Nat.le_of_ble_eq_true rfl⟩) hK hP [1] rfl rfl hl.1 rfl (Nat.le_of_ble_eq_true rfl) dX6_kind_19 ⟨Nat.le_of_ble_eq_true rfl, Nat.le_of_ble_eq_true rfl⟩ (fun r_5 e_6 => ?_)
    refine lv_goto (tgt := 27) hx hb dX6_kind_22 (by decide) ?_
    have hP9 := hP.sub (ws' := [(md, .inr (6, [.int 0, vm_1, vm_2, vm_3, vm_4, .ref hs, vm_6, vm_7, vm_8, vm_9, vm_10, vm_11, vm_12, vm_13, vm_14, vm_15, vm_16, vm_17, vm_18, vm_19, vm_20, vm_21, vm_22, vm_23])), (hs, .inl (cI, 45, .inl f))]) [0, 1] rfl
    have hD9 := hD.sub (ws' := [(md, .inr (6, [.int 0, vm_1, vm_2, vm_3, vm_4, .ref hs, vm_6, vm_7, vm_8, vm_9, vm_10, vm_11, vm_12, vm_13, vm_14, vm_15, vm_16, vm_17, vm_18, vm_19, vm_20, vm_21, vm_22, vm_23])), (hs, .inl (cI, 45, .inl f))]) [0, 1] (by decide) rfl
    exact wt_iret hx hb hr hlocks hP9 hD9 hS rfl dX6_kind_27

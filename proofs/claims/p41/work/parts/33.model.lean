set_option maxHeartbeats 4000000 in
set_option maxRecDepth 100000 in
theorem c_X6_warmSo (l : Launch) (D : va_G) (cI cZ cH : ClassId) (md tn it : Nat) (R T r ba n : Nat) (g tf : Nat → Int32) (vm_0 vm_1 vm_2 vm_3 vm_5 vm_6 vm_8 vm_9 vm_10 vm_11 vm_12 vm_13 vm_14 vm_15 vm_16 vm_17 vm_18 vm_19 vm_20 vm_21 vm_22 vm_23 : Value) (hR5 : R ≤ 5) (hT6 : T ≤ 6) (hrk : rk R T g) (hr5 : r ≤ 9) (hba : ba + n ≤ 320) (hn12 : n ≤ 12) : wt_M l yX6_warmSo wsX6_warmSo ({ frames := 4, cells := 0, slots := 0, locals := 91 } : Room) D (wt_T cI cZ cH) [.ref md, .int (nI r), .int (nI ba), .int (nI n)] [(md, .inr (6, [vm_0, vm_1, vm_2, vm_3, .ref it, vm_5, vm_6, .ref tn, vm_8, vm_9, vm_10, vm_11, vm_12, vm_13, vm_14, vm_15, vm_16, vm_17, vm_18, vm_19, vm_20, vm_21, vm_22, vm_23])), (tn, .inl (cI, 45, .inl g)), (it, .inl (cI, 320, .inl tf))] (wt_QI D (fun r w => ∃ (g2 : Nat → Int32), w = [(md, .inr (6, [vm_0, vm_1, vm_2, vm_3, .ref it, vm_5, vm_6, .ref tn, vm_8, vm_9, vm_10, vm_11, vm_12, vm_13, vm_14, vm_15, vm_16, vm_17, vm_18, vm_19, vm_20, vm_21, vm_22, vm_23])), (tn, .inl (cI, 45, .inl g2)), (it, .inl (cI, 320, .inl tf))])) := by
  refine wt_M.ofW (cc := cX6_warmSo) (maxL := 6) (ret := (some .boolean)) (by decide) rfl (Nat.le_of_ble_eq_true rfl) ?_
  intro p e s m below meth c A ls hx hb hr hts hown hlocks hml hnm hP hK hD hA hS hl
  have hP : va_P D vwCl [(md, .inr (6, [vm_0, vm_1, vm_2, vm_3, .ref it, vm_5, vm_6, .ref tn, vm_8, vm_9, vm_10, vm_11, vm_12, vm_13, vm_14, vm_15, vm_16, vm_17, vm_18, vm_19, vm_20, vm_21, vm_22, vm_23])), (tn, .inl (cI, 45, .inl g)), (it, .inl (cI, 320, .inl tf))] s.heap := hP
  have hown : s.vm.findClass RX6 = some m.cls := hown
  have hl : lv_has ls 6 [(0, .ref md), (1, .int (nI r)), (2, .int (nI ba)), (3, .int (nI n))] := hl
  have hi6 : ∀ w ∈ u_ws RX6 TX6 24, w ∈ wsX6_warmSo := by decide +kernel
  have wf16 := hts (.fieldLink RX6 16 "WarmTubesModel" "item" "[I") (by decide +kernel)
  have wf25 := hts (.fieldLink RX6 25 "WarmTubesModel" "then" "[I") (by decide +kernel)
  refine lv_iconst (v := 1) hx hb dX6_warmSo_0 (by decide) ?_
  refine lv_istore (lv' := [(4, .int 1), (0, .ref md), (1, .int (nI r)), (2, .int (nI ba)), (3, .int (nI n))]) hx hb dX6_warmSo_1 hl (by decide) rfl (fun ls hl => ?_)
  refine lv_iconst (v := 0) hx hb dX6_warmSo_3 (by decide) ?_
  refine lv_istore (lv' := [(5, .int 0), (4, .int 1), (0, .ref md), (1, .int (nI r)), (2, .int (nI ba)), (3, .int (nI n))]) hx hb dX6_warmSo_4 hl (by decide) rfl (fun ls hl => ?_)
  have loop6 : ∀ (k i_1 : Nat) (g_2 : Nat → Int32) (n_3 : Nat) (H : Heap) (locs : List Loc) (ls : Array Slot), i_1 + k = n → (n_3 ≤ 1) → (rk R T g_2) → va_P D vwCl [(md, .inr (6, [vm_0, vm_1, vm_2, vm_3, .ref it, vm_5, vm_6, .ref tn, vm_8, vm_9, vm_10, vm_11, vm_12, vm_13, vm_14, vm_15, vm_16, vm_17, vm_18, vm_19, vm_20, vm_21, vm_22, vm_23])), (tn, .inl (cI, 45, .inl g_2)), (it, .inl (cI, 320, .inl tf))] H → va_D A [(md, .inr (6, [vm_0, vm_1, vm_2, vm_3, .ref it, vm_5, vm_6, .ref tn, vm_8, vm_9, vm_10, vm_11, vm_12, vm_13, vm_14, vm_15, vm_16, vm_17, vm_18, vm_19, vm_20, vm_21, vm_22, vm_23])), (tn, .inl (cI, 45, .inl g_2)), (it, .inl (cI, 320, .inl tf))] → va_S A s.heap H locs → lv_has ls 6 [(5, .int (nI i_1)), (4, .int (nI n_3)), (0, .ref md), (1, .int (nI r)), (2, .int (nI ba)), (3, .int (nI n))] → W p l e ({ frames := 4, cells := 0, slots := 0, locals := 91 } : Room) s m ([.ref md, .int (nI r), .int (nI ba), .int (nI n)] : List Value).toArray below meth c H locs 0 0 (MQ below (wt_QI D (fun r w => ∃ (g2 : Nat → Int32), w = [(md, .inr (6, [vm_0, vm_1, vm_2, vm_3, .ref it, vm_5, vm_6, .ref tn, vm_8, vm_9, vm_10, vm_11, vm_12, vm_13, vm_14, vm_15, vm_16, vm_17, vm_18, vm_19, vm_20, vm_21, vm_22, vm_23])), (tn, .inl (cI, 45, .inl g2)), (it, .inl (cI, 320, .inl tf))]) A) ([.ref md, .int (nI r), .int (nI ba), .int (nI n)] : List Value).toArray s 0 0 A) (F0 m 6 ls []) := by
    intro k
    induction k with
    | zero =>
      intro i_1 g_2 n_3 H locs ls hik hn4 rk_4 hP hD hS hl
      refine lv_iload hx hb dX6_warmSo_6 (lv_at hl 0 rfl) ?_
      refine lv_iload_n hx hb dX6_warmSo_8 rfl (lv_at hl 5 rfl) ?_
      refine lv_icmp_ge (tgt := 57) hx hb dX6_warmSo_9 (by decide) (fun _ => ?_) (fun h => absurd (nI_le (a := n) (b := i_1) (by omega) (by omega)) h)
      refine lv_iload hx hb dX6_warmSo_57 (lv_at hl 1 rfl) ?_
      have hP9 := hP.sub (ws' := [(md, .inr (6, [vm_0, vm_1, vm_2, vm_3, .ref it, vm_5, vm_6, .ref tn, vm_8, vm_9, vm_10, vm_11, vm_12, vm_13, vm_14, vm_15, vm_16, vm_17, vm_18, vm_19, vm_20, vm_21, vm_22, vm_23])), (tn, .inl (cI, 45, .inl g_2)), (it, .inl (cI, 320, .inl tf))]) [0, 1, 2] rfl
      have hD9 := hD.sub (ws' := [(md, .inr (6, [vm_0, vm_1, vm_2, vm_3, .ref it, vm_5, vm_6, .ref tn, vm_8, vm_9, vm_10, vm_11, vm_12, vm_13, vm_14, vm_15, vm_16, vm_17, vm_18, vm_19, vm_20, vm_21, vm_22, vm_23])), (tn, .inl (cI, 45, .inl g_2)), (it, .inl (cI, 320, .inl tf))]) [0, 1, 2] (by decide) rfl
      exact wt_zret hx hb hr hlocks (wt_nar1 (by omega)) hP9 hD9 hS ⟨g_2, rfl⟩ dX6_warmSo_59
    | succ k ih6 =>
      intro i_1 g_2 n_3 H locs ls hik hn4 rk_4 hP hD hS hl
      refine lv_iload hx hb dX6_warmSo_6 (lv_at hl 0 rfl) ?_
      refine lv_iload_n hx hb dX6_warmSo_8 rfl (lv_at hl 5 rfl) ?_
      refine lv_icmp_ge (tgt := 57) hx hb dX6_warmSo_9 (by decide) (fun h => absurd h (nI_ge (a := i_1) (b := n) (by omega) (by omega))) (fun _ => ?_)
      refine lv_aload_n hx hb dX6_warmSo_12 rfl (lv_at hl 2 rfl) ?_
      refine va_get (D := D) (ci := 6) (v := .ref tn) (C := RX6) (T := TX6) (N := 24) hx hb hts hi6 hown hK.1 hP 0 rfl rfl 7 (by decide) wf25 (fun _ h9 => h9) rfl dX6_warmSo_13 ?_
      refine wt_goV (wr := [(md, .inr (6, [vm_0, vm_1, vm_2, vm_3, .ref it, vm_5, vm_6, .ref tn, vm_8, vm_9, vm_10, vm_11, vm_12, vm_13, vm_14, vm_15, vm_16, vm_17, vm_18, vm_19, vm_20, vm_21, vm_22, vm_23])), (it, .inl (cI, 320, .inl tf))]) (wt_runS (As := [.ref tn]) (rest := []) ⟨hx, hb, hml, hown, hts⟩ (c_X6_minute l D cI cZ cH tn R T g_2 (by first | assumption | omega) (by first | assumption | omega) (by first | assumption | omega)) (va_cwS 1 hts gX6_warmSo_X6_minute rfl rfl rfl (by decide +kernel) ⟨Nat.le_of_ble_eq_true rfl, Nat.le_of_ble_eq_true rfl⟩) hK hP hD [1] rfl (by decide) rfl hl.1 rfl (Nat.le_of_ble_eq_true rfl) dX6_warmSo_16 ⟨Nat.le_of_ble_eq_true rfl, Nat.le_of_ble_eq_true rfl⟩) hP hD hS hA [1] [0, 2] rfl rfl (by decide) (by decide) (fun w_6 H locs h_7 hP hD hS => ?_)
      obtain ⟨f2_8, rfl, x_9⟩ := h_7
      have hP : va_P D vwCl [(md, .inr (6, [vm_0, vm_1, vm_2, vm_3, .ref it, vm_5, vm_6, .ref tn, vm_8, vm_9, vm_10, vm_11, vm_12, vm_13, vm_14, vm_15, vm_16, vm_17, vm_18, vm_19, vm_20, vm_21, vm_22, vm_23])), (it, .inl (cI, 320, .inl tf)), (tn, .inl (cI, 45, .inl f2_8))] H := hP
      have hD : va_D A [(md, .inr (6, [vm_0, vm_1, vm_2, vm_3, .ref it, vm_5, vm_6, .ref tn, vm_8, vm_9, vm_10, vm_11, vm_12, vm_13, vm_14, vm_15, vm_16, vm_17, vm_18, vm_19, vm_20, vm_21, vm_22, vm_23])), (it, .inl (cI, 320, .inl tf)), (tn, .inl (cI, 45, .inl f2_8))] := hD
      refine lv_iload hx hb dX6_warmSo_19 (lv_at hl 1 rfl) ?_
      refine lv_if_eq (tgt := 48) hx hb dX6_warmSo_21 (by decide) (fun c_10 => ?_) (fun c_10 => ?_)
      · skip
        have c_10 : n_3 = 0 := (nI_eq (a := n_3) (b := 0) (by omega) (by omega)).mp c_10
        refine lv_iconst (v := 0) hx hb dX6_warmSo_48 (by decide) ?_
        refine lv_istore (lv' := [(4, .int 0), (5, .int (nI i_1)), (0, .ref md), (1, .int (nI r)), (2, .int (nI ba)), (3, .int (nI n))]) hx hb dX6_warmSo_49 hl (by decide) rfl (fun ls hl => ?_)
        refine lv_iinc (v := nI (i_1 + 1)) (lv' := [(5, .int (nI (i_1 + 1))), (4, .int 0), (0, .ref md), (1, .int (nI r)), (2, .int (nI ba)), (3, .int (nI n))]) hx hb dX6_warmSo_51 hl (k := 1) rfl (nI_add i_1 1) (by decide) rfl (fun ls hl => ?_)
        refine lv_goto (tgt := 6) hx hb dX6_warmSo_54 (by decide) ?_
        exact ih6 ((i_1 + 1)) f2_8 0 H locs ls (by omega) (by omega) x_9 (hP.sub [0, 2, 1] rfl) (hD.sub [0, 2, 1] (by decide) rfl) hS (lv_sub hl [0, 1, 2, 3, 4, 5] rfl)
      · skip
        have c_10 : ¬ (n_3 = 0) := fun h => c_10 ((nI_eq (a := n_3) (b := 0) (by omega) (by omega)).mpr h)
        refine lv_aload_n hx hb dX6_warmSo_24 rfl (lv_at hl 2 rfl) ?_
        refine va_get (D := D) (ci := 6) (v := .ref tn) (C := RX6) (T := TX6) (N := 24) hx hb hts hi6 hown hK.1 hP 0 rfl rfl 7 (by decide) wf25 (fun _ h9 => h9) rfl dX6_warmSo_25 ?_
        refine lv_iload_n hx hb dX6_warmSo_28 rfl (lv_at hl 3 rfl) ?_
        refine wt_rS (As := [.ref tn, .int (nI r)]) (rest := []) ⟨hx, hb, hml, hown, hts⟩ (c_X6_warmth l D cI cZ cH tn R T f2_8 r (by first | assumption | omega) (by first | assumption | omega) (by first | assumption | omega) (by first | assumption | omega)) (va_cwS 2 hts gX6_warmSo_X6_warmth rfl rfl rfl (by decide +kernel) ⟨Nat.le_of_ble_eq_true rfl, Nat.le_of_ble_eq_true rfl⟩) hK hP [2] rfl rfl hl.1 rfl (Nat.le_of_ble_eq_true rfl) dX6_warmSo_29 ⟨Nat.le_of_ble_eq_true rfl, Nat.le_of_ble_eq_true rfl⟩ (fun r_11 e_12 => ?_)
        refine lv_aload_n hx hb dX6_warmSo_32 rfl (lv_at hl 2 rfl) ?_
        refine va_get (D := D) (ci := 6) (v := .ref it) (C := RX6) (T := TX6) (N := 24) hx hb hts hi6 hown hK.1 hP 0 rfl rfl 4 (by decide) wf16 (fun _ h9 => h9) rfl dX6_warmSo_33 ?_
        refine lv_iload_n hx hb dX6_warmSo_36 rfl (lv_at hl 4 rfl) ?_
        refine lv_iload hx hb dX6_warmSo_37 (lv_at hl 0 rfl) ?_
        refine lv_iadd hx hb dX6_warmSo_39 ?_
        refine wt_top (z := nI (ba + i_1)) (nI_add ba i_1) ?_
        refine va_iald hx hb hK.1 hP 1 0 rfl rfl (vp_in_nI (by omega) (by omega)) dX6_warmSo_40 ?_
        refine lv_topi (fun ov_13 _ => ?_)
        refine lv_icmp_ne (tgt := 48) hx hb dX6_warmSo_41 (by decide) (fun c_14 => ?_) (fun c_14 => ?_)
        · skip
          refine lv_iconst (v := 0) hx hb dX6_warmSo_48 (by decide) ?_
          refine lv_istore (lv' := [(4, .int 0), (5, .int (nI i_1)), (0, .ref md), (1, .int (nI r)), (2, .int (nI ba)), (3, .int (nI n))]) hx hb dX6_warmSo_49 hl (by decide) rfl (fun ls hl => ?_)
          refine lv_iinc (v := nI (i_1 + 1)) (lv' := [(5, .int (nI (i_1 + 1))), (4, .int 0), (0, .ref md), (1, .int (nI r)), (2, .int (nI ba)), (3, .int (nI n))]) hx hb dX6_warmSo_51 hl (k := 1) rfl (nI_add i_1 1) (by decide) rfl (fun ls hl => ?_)
          refine lv_goto (tgt := 6) hx hb dX6_warmSo_54 (by decide) ?_
          exact ih6 ((i_1 + 1)) f2_8 0 H locs ls (by omega) (by omega) x_9 (hP.sub [0, 2, 1] rfl) (hD.sub [0, 2, 1] (by decide) rfl) hS (lv_sub hl [0, 1, 2, 3, 4, 5] rfl)
        · skip
          refine lv_iconst (v := 1) hx hb dX6_warmSo_44 (by decide) ?_
          refine lv_goto (tgt := 49) hx hb dX6_warmSo_45 (by decide) ?_
          refine lv_istore (lv' := [(4, .int 1), (5, .int (nI i_1)), (0, .ref md), (1, .int (nI r)), (2, .int (nI ba)), (3, .int (nI n))]) hx hb dX6_warmSo_49 hl (by decide) rfl (fun ls hl => ?_)
          refine lv_iinc (v := nI (i_1 + 1)) (lv' := [(5, .int (nI (i_1 + 1))), (4, .int 1), (0, .ref md), (1, .int (nI r)), (2, .int (nI ba)), (3, .int (nI n))]) hx hb dX6_warmSo_51 hl (k := 1) rfl (nI_add i_1 1) (by decide) rfl (fun ls hl => ?_)
          refine lv_goto (tgt := 6) hx hb dX6_warmSo_54 (by decide) ?_
          exact ih6 ((i_1 + 1)) f2_8 1 H locs ls (by omega) (by omega) x_9 (hP.sub [0, 2, 1] rfl) (hD.sub [0, 2, 1] (by decide) rfl) hS (lv_sub hl [0, 1, 2, 3, 4, 5] rfl)
  exact loop6 (n - 0) (0) g 1 _ _ ls (by omega) (by omega) hrk hP hD hS hl
set_option maxHeartbeats 4000000 in
set_option maxRecDepth 100000 in
theorem c_X6_drawn (l : Launch) (D : va_G) (cI cZ cH : ClassId) (md hs : Nat) (R T : Nat) (f : Nat → Int32) (tn : Nat) (g : Nat → Int32) (a1 a2 a3 : Int32) (vm_0 vm_1 vm_2 vm_3 vm_4 vm_6 vm_8 vm_9 vm_10 vm_11 vm_12 vm_13 vm_14 vm_15 vm_16 vm_17 vm_18 vm_19 vm_20 vm_21 vm_22 vm_23 : Value) (hR5 : R ≤ 5) (hT6 : T ≤ 6) (hrk : rk R T f) (hRT : 0 < R → 0 < T) : wt_M l yX6_drawn wsX6_drawn ({ frames := 4, cells := 0, slots := 0, locals := 91 } : Room) D (wt_T cI cZ cH) [.ref md, .int a1, .int a2, .int a3] [(md, .inr (6, [vm_0, vm_1, vm_2, vm_3, vm_4, .ref hs, vm_6, .ref tn, vm_8, vm_9, vm_10, vm_11, vm_12, vm_13, vm_14, vm_15, vm_16, vm_17, vm_18, vm_19, vm_20, vm_21, vm_22, vm_23])), (hs, .inl (cI, 45, .inl f)), (tn, .inl (cI, 45, .inl g))] (wt_QI D (fun r w => ∃ (g2 : Nat → Int32), w = [(md, .inr (6, [.int 0, vm_1, vm_2, vm_3, vm_4, .ref hs, vm_6, .ref tn, vm_8, vm_9, vm_10, vm_11, vm_12, vm_13, vm_14, vm_15, vm_16, vm_17, vm_18, vm_19, vm_20, vm_21, vm_22, vm_23])), (hs, .inl (cI, 45, .inl f)), (tn, .inl (cI, 45, .inl g2))])) := by
  refine wt_M.ofW (cc := cX6_drawn) (maxL := 9) (ret := (some .int)) (by decide) rfl (Nat.le_of_ble_eq_true rfl) ?_
  intro p e s m below meth c A ls hx hb hr hts hown hlocks hml hnm hP hK hD hA hS hl
  have hP : va_P D vwCl [(md, .inr (6, [vm_0, vm_1, vm_2, vm_3, vm_4, .ref hs, vm_6, .ref tn, vm_8, vm_9, vm_10, vm_11, vm_12, vm_13, vm_14, vm_15, vm_16, vm_17, vm_18, vm_19, vm_20, vm_21, vm_22, vm_23])), (hs, .inl (cI, 45, .inl f)), (tn, .inl (cI, 45, .inl g))] s.heap := hP
  have hown : s.vm.findClass RX6 = some m.cls := hown
  have hl : lv_has ls 9 [(0, .ref md), (1, .int a1), (2, .int a2), (3, .int a3)] := hl
  have hi6 : ∀ w ∈ u_ws RX6 TX6 24, w ∈ wsX6_drawn := by decide +kernel
  have wc189 := hts (.constant RX6 189 (-1000002)) (by decide +kernel)
  have wc67 := hts (.constant RX6 67 (-1000001)) (by decide +kernel)
  have wf25 := hts (.fieldLink RX6 25 "WarmTubesModel" "then" "[I") (by decide +kernel)
  have wf47 := hts (.fieldLink RX6 47 "WarmTubesModel" "thrown" "I") (by decide +kernel)
  have wl218 := hts (.constantLong RX6 218 (4)) (by decide +kernel)
  have wl225 := hts (.constantLong RX6 225 (60)) (by decide +kernel)
  have wl278 := hts (.constantLong RX6 278 (999999)) (by decide +kernel)
  have wl280 := hts (.constantLong RX6 280 (16807)) (by decide +kernel)
  have wl282 := hts (.constantLong RX6 282 (2147483647)) (by decide +kernel)
  have wl284 := hts (.constantLong RX6 284 (5)) (by decide +kernel)
  refine lv_aload_n hx hb dX6_drawn_0 rfl (lv_at hl 0 rfl) ?_
  refine lv_iconst (v := 0) hx hb dX6_drawn_1 (by decide) ?_
  refine va_put (D := D) (ci := 6) (v := .int 0) (ty := .int) (C := RX6) (T := TX6) (N := 24) hx hb hts hi6 tyX6 tyX6_ok nmX6 hown hK.1 hP hD hS 0 rfl rfl 0 (by decide) wf47 (fun _ h9 => h9) rfl (by decide +kernel) rfl rfl (Nat.le_of_ble_eq_true rfl) dX6_drawn_2 (fun H locs hP hD hS => ?_)
  have hP : va_P D vwCl [(md, .inr (6, [.int 0, vm_1, vm_2, vm_3, vm_4, .ref hs, vm_6, .ref tn, vm_8, vm_9, vm_10, vm_11, vm_12, vm_13, vm_14, vm_15, vm_16, vm_17, vm_18, vm_19, vm_20, vm_21, vm_22, vm_23])), (hs, .inl (cI, 45, .inl f)), (tn, .inl (cI, 45, .inl g))] H := hP
  have hD : va_D A [(md, .inr (6, [.int 0, vm_1, vm_2, vm_3, vm_4, .ref hs, vm_6, .ref tn, vm_8, vm_9, vm_10, vm_11, vm_12, vm_13, vm_14, vm_15, vm_16, vm_17, vm_18, vm_19, vm_20, vm_21, vm_22, vm_23])), (hs, .inl (cI, 45, .inl f)), (tn, .inl (cI, 45, .inl g))] := hD
  refine lv_aload_n hx hb dX6_drawn_5 rfl (lv_at hl 0 rfl) ?_
  refine wt_rV (As := []) (rest := []) ⟨hx, hb, hml, hown, hts⟩ (c_X6_isThere l D cI cZ cH md hs R T f (.int 0) vm_1 vm_2 vm_3 vm_4 vm_6 (.ref tn) vm_8 vm_9 vm_10 vm_11 vm_12 vm_13 vm_14 vm_15 vm_16 vm_17 vm_18 vm_19 vm_20 vm_21 vm_22 vm_23 (by first | assumption | omega) (by first | assumption | omega) (by first | assumption | omega)) (cwV 0 hts gX6_drawn_X6_isThere rfl rfl rfl (by decide +kernel) ⟨Nat.le_of_ble_eq_true rfl, Nat.le_of_ble_eq_true rfl⟩) hK hP [0, 1] rfl (va_recv hK.1 hP (ci := 6) (q0 := 0) rfl rfl) rfl hl.1 rfl (Nat.le_of_ble_eq_true rfl) dX6_drawn_6 ⟨Nat.le_of_ble_eq_true rfl, Nat.le_of_ble_eq_true rfl⟩ (fun r_1 e_2 => ?_)
  subst e_2
  refine lv_if_ne (tgt := 15) hx hb dX6_drawn_9 (by decide) (fun c_3 => ?_) (fun c_3 => ?_)
  · skip
    have g_4 : 0 < R := wP_nat (by omega) c_3
    refine lv_iload_n hx hb dX6_drawn_15 rfl (lv_at hl 1 rfl) ?_
    refine lv_i2l hx hb dX6_drawn_16 rfl ?_
    refine lv_lconst (v := 0) hx hb dX6_drawn_17 (by decide) ?_
    refine lv_ldc2 hx hb hown wl225 dX6_drawn_18 ?_
    refine wt_rS (As := [.long a1.toInt64, .long 0, .long 60]) (rest := []) ⟨hx, hb, hml, hown, hts⟩ (c_X6_in l D cI cZ cH a1.toInt64 0 60) (va_cwS 3 hts gX6_drawn_X6_in rfl rfl rfl (by decide +kernel) ⟨Nat.le_of_ble_eq_true rfl, Nat.le_of_ble_eq_true rfl⟩) hK hP [] rfl rfl hl.1 rfl (Nat.le_of_ble_eq_true rfl) dX6_drawn_21 ⟨Nat.le_of_ble_eq_true rfl, Nat.le_of_ble_eq_true rfl⟩ (fun r_5 e_6 => ?_)
    subst e_6
    refine wt_top (z := wI a1 0 60) (wL_I' (by decide) (by decide)) ?_
    refine lv_if_eq (tgt := 49) hx hb dX6_drawn_24 (by decide) (fun c_7 => ?_) (fun c_7 => ?_)
    · skip
      refine lv_ldc hx hb hown wc67 dX6_drawn_49 ?_
      have hP9 := hP.sub (ws' := [(md, .inr (6, [.int 0, vm_1, vm_2, vm_3, vm_4, .ref hs, vm_6, .ref tn, vm_8, vm_9, vm_10, vm_11, vm_12, vm_13, vm_14, vm_15, vm_16, vm_17, vm_18, vm_19, vm_20, vm_21, vm_22, vm_23])), (hs, .inl (cI, 45, .inl f)), (tn, .inl (cI, 45, .inl g))]) [0, 1, 2] rfl
      have hD9 := hD.sub (ws' := [(md, .inr (6, [.int 0, vm_1, vm_2, vm_3, vm_4, .ref hs, vm_6, .ref tn, vm_8, vm_9, vm_10, vm_11, vm_12, vm_13, vm_14, vm_15, vm_16, vm_17, vm_18, vm_19, vm_20, vm_21, vm_22, vm_23])), (hs, .inl (cI, 45, .inl f)), (tn, .inl (cI, 45, .inl g))]) [0, 1, 2] (by decide) rfl
      exact wt_iret hx hb hr hlocks hP9 hD9 hS ⟨g, rfl⟩ dX6_drawn_51
    · skip
      obtain ⟨j_8, hj_8, hj_8b, rfl⟩ := wI_nat (a := 0) (b := 60) (by omega) (by omega) c_7
      refine lv_iload_n hx hb dX6_drawn_27 rfl (lv_at hl 2 rfl) ?_
      refine lv_i2l hx hb dX6_drawn_28 rfl ?_
      refine lv_lconst (v := 1) hx hb dX6_drawn_29 (by decide) ?_
      refine lv_ldc2 hx hb hown wl278 dX6_drawn_30 ?_
      refine wt_rS (As := [.long a2.toInt64, .long 1, .long 999999]) (rest := []) ⟨hx, hb, hml, hown, hts⟩ (c_X6_in l D cI cZ cH a2.toInt64 1 999999) (va_cwS 3 hts gX6_drawn_X6_in rfl rfl rfl (by decide +kernel) ⟨Nat.le_of_ble_eq_true rfl, Nat.le_of_ble_eq_true rfl⟩) hK hP [] rfl rfl hl.1 rfl (Nat.le_of_ble_eq_true rfl) dX6_drawn_33 ⟨Nat.le_of_ble_eq_true rfl, Nat.le_of_ble_eq_true rfl⟩ (fun r_9 e_10 => ?_)
      subst e_10
      refine wt_top (z := wI a2 1 999999) (wL_I' (by decide) (by decide)) ?_
      refine lv_if_eq (tgt := 49) hx hb dX6_drawn_36 (by decide) (fun c_11 => ?_) (fun c_11 => ?_)
      · skip
        refine lv_ldc hx hb hown wc67 dX6_drawn_49 ?_
        have hP9 := hP.sub (ws' := [(md, .inr (6, [.int 0, vm_1, vm_2, vm_3, vm_4, .ref hs, vm_6, .ref tn, vm_8, vm_9, vm_10, vm_11, vm_12, vm_13, vm_14, vm_15, vm_16, vm_17, vm_18, vm_19, vm_20, vm_21, vm_22, vm_23])), (hs, .inl (cI, 45, .inl f)), (tn, .inl (cI, 45, .inl g))]) [0, 1, 2] rfl
        have hD9 := hD.sub (ws' := [(md, .inr (6, [.int 0, vm_1, vm_2, vm_3, vm_4, .ref hs, vm_6, .ref tn, vm_8, vm_9, vm_10, vm_11, vm_12, vm_13, vm_14, vm_15, vm_16, vm_17, vm_18, vm_19, vm_20, vm_21, vm_22, vm_23])), (hs, .inl (cI, 45, .inl f)), (tn, .inl (cI, 45, .inl g))]) [0, 1, 2] (by decide) rfl
        exact wt_iret hx hb hr hlocks hP9 hD9 hS ⟨g, rfl⟩ dX6_drawn_51
      · skip
        obtain ⟨j_12, hj_12, hj_12b, rfl⟩ := wI_nat (a := 1) (b := 999999) (by omega) (by omega) c_11
        refine lv_iload_n hx hb dX6_drawn_39 rfl (lv_at hl 3 rfl) ?_
        refine lv_i2l hx hb dX6_drawn_40 rfl ?_
        refine lv_lconst (v := 0) hx hb dX6_drawn_41 (by decide) ?_
        refine lv_lconst (v := 1) hx hb dX6_drawn_42 (by decide) ?_
        refine wt_rS (As := [.long a3.toInt64, .long 0, .long 1]) (rest := []) ⟨hx, hb, hml, hown, hts⟩ (c_X6_in l D cI cZ cH a3.toInt64 0 1) (va_cwS 3 hts gX6_drawn_X6_in rfl rfl rfl (by decide +kernel) ⟨Nat.le_of_ble_eq_true rfl, Nat.le_of_ble_eq_true rfl⟩) hK hP [] rfl rfl hl.1 rfl (Nat.le_of_ble_eq_true rfl) dX6_drawn_43 ⟨Nat.le_of_ble_eq_true rfl, Nat.le_of_ble_eq_true rfl⟩ (fun r_13 e_14 => ?_)
        subst e_14
        refine wt_top (z := wI a3 0 1) (wL_I' (by decide) (by decide)) ?_
        refine lv_if_ne (tgt := 52) hx hb dX6_drawn_46 (by decide) (fun c_15 => ?_) (fun c_15 => ?_)
        · skip
          obtain ⟨j_16, hj_16, hj_16b, rfl⟩ := wI_nat (a := 0) (b := 1) (by omega) (by omega) c_15
          refine lv_aload_n hx hb dX6_drawn_52 rfl (lv_at hl 0 rfl) ?_
          refine wt_goV (wr := []) (wt_runV (As := []) (rest := []) ⟨hx, hb, hml, hown, hts⟩ (c_X6_layThen l D cI cZ cH md hs R T f tn g (.int 0) vm_1 vm_2 vm_3 vm_4 vm_6 vm_8 vm_9 vm_10 vm_11 vm_12 vm_13 vm_14 vm_15 vm_16 vm_17 vm_18 vm_19 vm_20 vm_21 vm_22 vm_23 (by first | assumption | omega) (by first | assumption | omega) (by first | assumption | omega)) (cwV 0 hts gX6_drawn_X6_layThen rfl rfl rfl (by decide +kernel) ⟨Nat.le_of_ble_eq_true rfl, Nat.le_of_ble_eq_true rfl⟩) hK hP hD [0, 1, 2] rfl (by decide) (va_recv hK.1 hP (ci := 6) (q0 := 0) rfl rfl) rfl hl.1 rfl (Nat.le_of_ble_eq_true rfl) dX6_drawn_53 ⟨Nat.le_of_ble_eq_true rfl, Nat.le_of_ble_eq_true rfl⟩) hP hD hS hA [0, 1, 2] [] rfl rfl (by decide) (by decide) (fun w_18 H locs h_19 hP hD hS => ?_)
          obtain ⟨g2_20, rfl, x_21⟩ := h_19
          have hP : va_P D vwCl [(md, .inr (6, [.int 0, vm_1, vm_2, vm_3, vm_4, .ref hs, vm_6, .ref tn, vm_8, vm_9, vm_10, vm_11, vm_12, vm_13, vm_14, vm_15, vm_16, vm_17, vm_18, vm_19, vm_20, vm_21, vm_22, vm_23])), (hs, .inl (cI, 45, .inl f)), (tn, .inl (cI, 45, .inl g2_20))] H := hP
          have hD : va_D A [(md, .inr (6, [.int 0, vm_1, vm_2, vm_3, vm_4, .ref hs, vm_6, .ref tn, vm_8, vm_9, vm_10, vm_11, vm_12, vm_13, vm_14, vm_15, vm_16, vm_17, vm_18, vm_19, vm_20, vm_21, vm_22, vm_23])), (hs, .inl (cI, 45, .inl f)), (tn, .inl (cI, 45, .inl g2_20))] := hD
          refine lv_iload_n hx hb dX6_drawn_56 rfl (lv_at hl 2 rfl) ?_
          refine lv_i2l hx hb dX6_drawn_57 rfl ?_
          refine wt_topl (z := lN j_12) (nI_l (by omega)) ?_
          refine lv_lstore (lv' := [(4, .long (lN j_12)), (0, .ref md), (1, .int (nI j_8)), (2, .int (nI j_12)), (3, .int (nI j_16))]) hx hb dX6_drawn_58 hl (by decide) rfl (fun ls hl => ?_)
          refine lv_iconst (v := 0) hx hb dX6_drawn_60 (by decide) ?_
          refine lv_istore (lv' := [(6, .int 0), (4, .long (lN j_12)), (0, .ref md), (1, .int (nI j_8)), (2, .int (nI j_12)), (3, .int (nI j_16))]) hx hb dX6_drawn_61 hl (by decide) rfl (fun ls hl => ?_)
          have loop63 : ∀ (k i_22 : Nat) (g2_20_23 : Nat → Int32) (n_24 : Nat) (H : Heap) (locs : List Loc) (ls : Array Slot), i_22 + k = j_8 → (n_24 < 2147483648) → (rk R T g2_20_23) → va_P D vwCl [(md, .inr (6, [.int 0, vm_1, vm_2, vm_3, vm_4, .ref hs, vm_6, .ref tn, vm_8, vm_9, vm_10, vm_11, vm_12, vm_13, vm_14, vm_15, vm_16, vm_17, vm_18, vm_19, vm_20, vm_21, vm_22, vm_23])), (hs, .inl (cI, 45, .inl f)), (tn, .inl (cI, 45, .inl g2_20_23))] H → va_D A [(md, .inr (6, [.int 0, vm_1, vm_2, vm_3, vm_4, .ref hs, vm_6, .ref tn, vm_8, vm_9, vm_10, vm_11, vm_12, vm_13, vm_14, vm_15, vm_16, vm_17, vm_18, vm_19, vm_20, vm_21, vm_22, vm_23])), (hs, .inl (cI, 45, .inl f)), (tn, .inl (cI, 45, .inl g2_20_23))] → va_S A s.heap H locs → lv_has ls 9 [(6, .int (nI i_22)), (4, .long (lN n_24)), (0, .ref md), (1, .int (nI j_8)), (2, .int (nI j_12)), (3, .int (nI j_16))] → W p l e ({ frames := 4, cells := 0, slots := 0, locals := 91 } : Room) s m ([.ref md, .int (nI j_8), .int (nI j_12), .int (nI j_16)] : List Value).toArray below meth c H locs 0 0 (MQ below (wt_QI D (fun r w => ∃ (g2 : Nat → Int32), w = [(md, .inr (6, [.int 0, vm_1, vm_2, vm_3, vm_4, .ref hs, vm_6, .ref tn, vm_8, vm_9, vm_10, vm_11, vm_12, vm_13, vm_14, vm_15, vm_16, vm_17, vm_18, vm_19, vm_20, vm_21, vm_22, vm_23])), (hs, .inl (cI, 45, .inl f)), (tn, .inl (cI, 45, .inl g2))]) A) ([.ref md, .int (nI j_8), .int (nI j_12), .int (nI j_16)] : List Value).toArray s 0 0 A) (F0 m 63 ls []) := by
            intro k
            induction k with
            | zero =>
              intro i_22 g2_20_23 n_24 H locs ls hik hl4 rk_25 hP hD hS hl
              refine lv_iload hx hb dX6_drawn_63 (lv_at hl 0 rfl) ?_
              refine lv_iload_n hx hb dX6_drawn_65 rfl (lv_at hl 3 rfl) ?_
              refine lv_icmp_ge (tgt := 161) hx hb dX6_drawn_66 (by decide) (fun _ => ?_) (fun h => absurd (nI_le (a := j_8) (b := i_22) (by omega) (by omega)) h)
              refine lv_iload_n hx hb dX6_drawn_161 rfl (lv_at hl 5 rfl) ?_
              refine lv_if_ne (tgt := 178) hx hb dX6_drawn_162 (by decide) (fun c_26 => ?_) (fun c_26 => ?_)
              · skip
                have c_26 : ¬ (j_16 = 0) := fun h => c_26 ((nI_eq (a := j_16) (b := 0) (by omega) (by omega)).mpr h)
                refine lv_aload_n hx hb dX6_drawn_178 rfl (lv_at hl 2 rfl) ?_
                refine va_get (D := D) (ci := 6) (v := .ref tn) (C := RX6) (T := TX6) (N := 24) hx hb hts hi6 hown hK.1 hP 0 rfl rfl 7 (by decide) wf25 (fun _ h9 => h9) rfl dX6_drawn_179 ?_
                refine wt_rS (As := [.ref tn]) (rest := []) ⟨hx, hb, hml, hown, hts⟩ (c_X6_degreesOf l D cI cZ cH tn R T g2_20_23 (by first | assumption | omega) (by first | assumption | omega) (by first | assumption | omega)) (va_cwS 1 hts gX6_drawn_X6_degreesOf rfl rfl rfl (by decide +kernel) ⟨Nat.le_of_ble_eq_true rfl, Nat.le_of_ble_eq_true rfl⟩) hK hP [2] rfl rfl hl.1 rfl (Nat.le_of_ble_eq_true rfl) dX6_drawn_182 ⟨Nat.le_of_ble_eq_true rfl, Nat.le_of_ble_eq_true rfl⟩ (fun r_27 e_28 => ?_)
                have hP9 := hP.sub (ws' := [(md, .inr (6, [.int 0, vm_1, vm_2, vm_3, vm_4, .ref hs, vm_6, .ref tn, vm_8, vm_9, vm_10, vm_11, vm_12, vm_13, vm_14, vm_15, vm_16, vm_17, vm_18, vm_19, vm_20, vm_21, vm_22, vm_23])), (hs, .inl (cI, 45, .inl f)), (tn, .inl (cI, 45, .inl g2_20_23))]) [0, 1, 2] rfl
                have hD9 := hD.sub (ws' := [(md, .inr (6, [.int 0, vm_1, vm_2, vm_3, vm_4, .ref hs, vm_6, .ref tn, vm_8, vm_9, vm_10, vm_11, vm_12, vm_13, vm_14, vm_15, vm_16, vm_17, vm_18, vm_19, vm_20, vm_21, vm_22, vm_23])), (hs, .inl (cI, 45, .inl f)), (tn, .inl (cI, 45, .inl g2_20_23))]) [0, 1, 2] (by decide) rfl
                exact wt_iret hx hb hr hlocks hP9 hD9 hS ⟨g2_20_23, rfl⟩ dX6_drawn_185
              · skip
                have c_26 : j_16 = 0 := (nI_eq (a := j_16) (b := 0) (by omega) (by omega)).mp c_26
                refine lv_aload_n hx hb dX6_drawn_165 rfl (lv_at hl 2 rfl) ?_
                refine va_get (D := D) (ci := 6) (v := .ref tn) (C := RX6) (T := TX6) (N := 24) hx hb hts hi6 hown hK.1 hP 0 rfl rfl 7 (by decide) wf25 (fun _ h9 => h9) rfl dX6_drawn_166 ?_
                refine wt_rS (As := [.ref tn]) (rest := []) ⟨hx, hb, hml, hown, hts⟩ (c_X6_colds l D cI cZ cH tn R T g2_20_23 (by first | assumption | omega) (by first | assumption | omega) (by first | assumption | omega)) (va_cwS 1 hts gX6_drawn_X6_colds rfl rfl rfl (by decide +kernel) ⟨Nat.le_of_ble_eq_true rfl, Nat.le_of_ble_eq_true rfl⟩) hK hP [2] rfl rfl hl.1 rfl (Nat.le_of_ble_eq_true rfl) dX6_drawn_169 ⟨Nat.le_of_ble_eq_true rfl, Nat.le_of_ble_eq_true rfl⟩ (fun r_29 e_30 => ?_)
                refine wt_rS (As := [.int r_29]) (rest := []) ⟨hx, hb, hml, hown, hts⟩ (c_X6_bits l D cI cZ cH r_29) (va_cwS 1 hts gX6_drawn_X6_bits rfl rfl rfl (by decide +kernel) ⟨Nat.le_of_ble_eq_true rfl, Nat.le_of_ble_eq_true rfl⟩) hK hP [] rfl rfl hl.1 rfl (Nat.le_of_ble_eq_true rfl) dX6_drawn_172 ⟨Nat.le_of_ble_eq_true rfl, Nat.le_of_ble_eq_true rfl⟩ (fun r_31 e_32 => ?_)
                refine lv_goto (tgt := 185) hx hb dX6_drawn_175 (by decide) ?_
                have hP9 := hP.sub (ws' := [(md, .inr (6, [.int 0, vm_1, vm_2, vm_3, vm_4, .ref hs, vm_6, .ref tn, vm_8, vm_9, vm_10, vm_11, vm_12, vm_13, vm_14, vm_15, vm_16, vm_17, vm_18, vm_19, vm_20, vm_21, vm_22, vm_23])), (hs, .inl (cI, 45, .inl f)), (tn, .inl (cI, 45, .inl g2_20_23))]) [0, 1, 2] rfl
                have hD9 := hD.sub (ws' := [(md, .inr (6, [.int 0, vm_1, vm_2, vm_3, vm_4, .ref hs, vm_6, .ref tn, vm_8, vm_9, vm_10, vm_11, vm_12, vm_13, vm_14, vm_15, vm_16, vm_17, vm_18, vm_19, vm_20, vm_21, vm_22, vm_23])), (hs, .inl (cI, 45, .inl f)), (tn, .inl (cI, 45, .inl g2_20_23))]) [0, 1, 2] (by decide) rfl
                exact wt_iret hx hb hr hlocks hP9 hD9 hS ⟨g2_20_23, rfl⟩ dX6_drawn_185
            | succ k ih63 =>
              intro i_22 g2_20_23 n_24 H locs ls hik hl4 rk_25 hP hD hS hl
              refine lv_iload hx hb dX6_drawn_63 (lv_at hl 0 rfl) ?_
              refine lv_iload_n hx hb dX6_drawn_65 rfl (lv_at hl 3 rfl) ?_
              refine lv_icmp_ge (tgt := 161) hx hb dX6_drawn_66 (by decide) (fun h => absurd h (nI_ge (a := i_22) (b := j_8) (by omega) (by omega))) (fun _ => ?_)
              refine lv_lload hx hb dX6_drawn_69 (lv_at hl 1 rfl) ?_
              refine lv_ldc2 hx hb hown wl280 dX6_drawn_71 ?_
              refine lv_lmul hx hb dX6_drawn_74 ?_
              refine wt_topl (z := lN (n_24 * 16807)) (lN_mul n_24 16807) ?_
              refine lv_ldc2 hx hb hown wl282 dX6_drawn_75 ?_
              refine lv_lrem hx hb dX6_drawn_78 (by decide) ?_
              obtain ⟨v_33, hv_33, ev_33⟩ : ∃ v : Nat, v < 2147483647 ∧ (n_24 * 16807) % 2147483647 = v := ⟨_, Nat.mod_lt _ (by omega), rfl⟩
              refine wt_topl (z := lN v_33) (by rw [← ev_33]; exact pk_lRem (a := (n_24 * 16807)) (b := 2147483647) (by omega) (by omega) (by omega)) ?_
              refine lv_lstore (lv' := [(4, .long (lN v_33)), (6, .int (nI i_22)), (0, .ref md), (1, .int (nI j_8)), (2, .int (nI j_12)), (3, .int (nI j_16))]) hx hb dX6_drawn_79 hl (by decide) rfl (fun ls hl => ?_)
              refine lv_lload hx hb dX6_drawn_81 (lv_at hl 0 rfl) ?_
              refine lv_aload_n hx hb dX6_drawn_83 rfl (lv_at hl 2 rfl) ?_
              refine va_get (D := D) (ci := 6) (v := .ref tn) (C := RX6) (T := TX6) (N := 24) hx hb hts hi6 hown hK.1 hP 0 rfl rfl 7 (by decide) wf25 (fun _ h9 => h9) rfl dX6_drawn_84 ?_
              refine lv_iconst (v := 1) hx hb dX6_drawn_87 (by decide) ?_
              refine va_iald hx hb hK.1 hP 2 0 rfl rfl (by rw [vp_in_iff]; decide) dX6_drawn_88 ?_
              refine wt_top (z := nI T) (rk_25.2.1) ?_
              refine lv_i2l hx hb dX6_drawn_89 rfl ?_
              refine wt_topl (z := lN T) (nI_l (by omega)) ?_
              refine lv_lrem hx hb dX6_drawn_90 (wt_lne (by omega) (by omega)) ?_
              obtain ⟨v_34, hv_34, ev_34⟩ : ∃ v : Nat, v < T ∧ v_33 % T = v := ⟨_, Nat.mod_lt _ (by omega), rfl⟩
              refine wt_topl (z := lN v_34) (by rw [← ev_34]; exact pk_lRem (a := v_33) (b := T) (by omega) (by omega) (by omega)) ?_
              refine lv_l2i hx hb dX6_drawn_91 rfl ?_
              refine wt_top (z := nI v_34) (lN_i _) ?_
              refine lv_istore (lv' := [(7, .int (nI v_34)), (4, .long (lN v_33)), (6, .int (nI i_22)), (0, .ref md), (1, .int (nI j_8)), (2, .int (nI j_12)), (3, .int (nI j_16))]) hx hb dX6_drawn_92 hl (by decide) rfl (fun ls hl => ?_)
              refine lv_lload hx hb dX6_drawn_94 (lv_at hl 1 rfl) ?_
              refine lv_ldc2 hx hb hown wl218 dX6_drawn_96 ?_
              refine lv_lrem hx hb dX6_drawn_99 (by decide) ?_
              obtain ⟨v_35, hv_35, ev_35⟩ : ∃ v : Nat, v < 4 ∧ v_33 % 4 = v := ⟨_, Nat.mod_lt _ (by omega), rfl⟩
              refine wt_topl (z := lN v_35) (by rw [← ev_35]; exact pk_lRem (a := v_33) (b := 4) (by omega) (by omega) (by omega)) ?_
              refine lv_lconst (v := 0) hx hb dX6_drawn_100 (by decide) ?_
              refine W.lcmp hx hb dX6_drawn_101 ?_
              refine lv_topi (fun ov_36 _ => ?_)
              refine lv_if_ne (tgt := 116) hx hb dX6_drawn_102 (by decide) (fun c_37 => ?_) (fun c_37 => ?_)
              · skip
                refine lv_lload hx hb dX6_drawn_116 (lv_at hl 1 rfl) ?_
                refine lv_ldc2 hx hb hown wl284 dX6_drawn_118 ?_
                refine lv_lrem hx hb dX6_drawn_121 (by decide) ?_
                obtain ⟨v_38, hv_38, ev_38⟩ : ∃ v : Nat, v < 5 ∧ v_33 % 5 = v := ⟨_, Nat.mod_lt _ (by omega), rfl⟩
                refine wt_topl (z := lN v_38) (by rw [← ev_38]; exact pk_lRem (a := v_33) (b := 5) (by omega) (by omega) (by omega)) ?_
                refine lv_lconst (v := 0) hx hb dX6_drawn_122 (by decide) ?_
                refine W.lcmp hx hb dX6_drawn_123 ?_
                refine lv_topi (fun ov_39 _ => ?_)
                refine lv_if_ne (tgt := 148) hx hb dX6_drawn_124 (by decide) (fun c_40 => ?_) (fun c_40 => ?_)
                · skip
                  refine lv_aload_n hx hb dX6_drawn_148 rfl (lv_at hl 3 rfl) ?_
                  refine va_get (D := D) (ci := 6) (v := .ref tn) (C := RX6) (T := TX6) (N := 24) hx hb hts hi6 hown hK.1 hP 0 rfl rfl 7 (by decide) wf25 (fun _ h9 => h9) rfl dX6_drawn_149 ?_
                  refine wt_goV (wr := [(md, .inr (6, [.int 0, vm_1, vm_2, vm_3, vm_4, .ref hs, vm_6, .ref tn, vm_8, vm_9, vm_10, vm_11, vm_12, vm_13, vm_14, vm_15, vm_16, vm_17, vm_18, vm_19, vm_20, vm_21, vm_22, vm_23])), (hs, .inl (cI, 45, .inl f))]) (wt_runS (As := [.ref tn]) (rest := []) ⟨hx, hb, hml, hown, hts⟩ (c_X6_minute l D cI cZ cH tn R T g2_20_23 (by first | assumption | omega) (by first | assumption | omega) (by first | assumption | omega)) (va_cwS 1 hts gX6_drawn_X6_minute rfl rfl rfl (by decide +kernel) ⟨Nat.le_of_ble_eq_true rfl, Nat.le_of_ble_eq_true rfl⟩) hK hP hD [2] rfl (by decide) rfl hl.1 rfl (Nat.le_of_ble_eq_true rfl) dX6_drawn_152 ⟨Nat.le_of_ble_eq_true rfl, Nat.le_of_ble_eq_true rfl⟩) hP hD hS hA [2] [0, 1] rfl rfl (by decide) (by decide) (fun w_42 H locs h_43 hP hD hS => ?_)
                  obtain ⟨f2_44, rfl, x_45⟩ := h_43
                  have hP : va_P D vwCl [(md, .inr (6, [.int 0, vm_1, vm_2, vm_3, vm_4, .ref hs, vm_6, .ref tn, vm_8, vm_9, vm_10, vm_11, vm_12, vm_13, vm_14, vm_15, vm_16, vm_17, vm_18, vm_19, vm_20, vm_21, vm_22, vm_23])), (hs, .inl (cI, 45, .inl f)), (tn, .inl (cI, 45, .inl f2_44))] H := hP
                  have hD : va_D A [(md, .inr (6, [.int 0, vm_1, vm_2, vm_3, vm_4, .ref hs, vm_6, .ref tn, vm_8, vm_9, vm_10, vm_11, vm_12, vm_13, vm_14, vm_15, vm_16, vm_17, vm_18, vm_19, vm_20, vm_21, vm_22, vm_23])), (hs, .inl (cI, 45, .inl f)), (tn, .inl (cI, 45, .inl f2_44))] := hD
                  refine lv_iinc (v := nI (i_22 + 1)) (lv' := [(6, .int (nI (i_22 + 1))), (7, .int (nI v_34)), (4, .long (lN v_33)), (0, .ref md), (1, .int (nI j_8)), (2, .int (nI j_12)), (3, .int (nI j_16))]) hx hb dX6_drawn_155 hl (k := 2) rfl (nI_add i_22 1) (by decide) rfl (fun ls hl => ?_)
                  refine lv_goto (tgt := 63) hx hb dX6_drawn_158 (by decide) ?_
                  exact ih63 ((i_22 + 1)) f2_44 v_33 H locs ls (by omega) (by omega) x_45 hP hD hS (lv_sub hl [0, 2, 3, 4, 5, 6] rfl)
                · skip
                  refine lv_aload_n hx hb dX6_drawn_127 rfl (lv_at hl 3 rfl) ?_
                  refine va_get (D := D) (ci := 6) (v := .ref tn) (C := RX6) (T := TX6) (N := 24) hx hb hts hi6 hown hK.1 hP 0 rfl rfl 7 (by decide) wf25 (fun _ h9 => h9) rfl dX6_drawn_128 ?_
                  refine lv_iload hx hb dX6_drawn_131 (lv_at hl 0 rfl) ?_
                  refine lv_iconst (v := 1) hx hb dX6_drawn_133 (by decide) ?_
                  refine lv_lload hx hb dX6_drawn_134 (lv_at hl 1 rfl) ?_
                  refine lv_aload_n hx hb dX6_drawn_136 rfl (lv_at hl 3 rfl) ?_
                  refine va_get (D := D) (ci := 6) (v := .ref tn) (C := RX6) (T := TX6) (N := 24) hx hb hts hi6 hown hK.1 hP 0 rfl rfl 7 (by decide) wf25 (fun _ h9 => h9) rfl dX6_drawn_137 ?_
                  refine lv_iconst (v := 0) hx hb dX6_drawn_140 (by decide) ?_
                  refine va_iald hx hb hK.1 hP 2 0 rfl rfl (by rw [vp_in_iff]; decide) dX6_drawn_141 ?_
                  refine wt_top (z := nI R) (rk_25.1) ?_
                  refine lv_i2l hx hb dX6_drawn_142 rfl ?_
                  refine wt_topl (z := lN R) (nI_l (by omega)) ?_
                  refine lv_lrem hx hb dX6_drawn_143 (wt_lne (by omega) (by omega)) ?_
                  obtain ⟨v_46, hv_46, ev_46⟩ : ∃ v : Nat, v < R ∧ v_33 % R = v := ⟨_, Nat.mod_lt _ (by omega), rfl⟩
                  refine wt_topl (z := lN v_46) (by rw [← ev_46]; exact pk_lRem (a := v_33) (b := R) (by omega) (by omega) (by omega)) ?_
                  refine lv_l2i hx hb dX6_drawn_144 rfl ?_
                  refine wt_top (z := nI v_46) (lN_i _) ?_
                  refine wt_goV (wr := [(md, .inr (6, [.int 0, vm_1, vm_2, vm_3, vm_4, .ref hs, vm_6, .ref tn, vm_8, vm_9, vm_10, vm_11, vm_12, vm_13, vm_14, vm_15, vm_16, vm_17, vm_18, vm_19, vm_20, vm_21, vm_22, vm_23])), (hs, .inl (cI, 45, .inl f))]) (wt_runS (As := [.ref tn, .int (nI v_34), .int 1, .int (nI v_46)]) (rest := []) ⟨hx, hb, hml, hown, hts⟩ (c_X6_be_1 l D cI cZ cH tn R T g2_20_23 v_34 v_46 (by first | assumption | omega) (by first | assumption | omega) (by first | assumption | omega) (by first | assumption | omega) (by first | assumption | omega)) (va_cwS 4 hts gX6_drawn_X6_be rfl rfl rfl (by decide +kernel) ⟨Nat.le_of_ble_eq_true rfl, Nat.le_of_ble_eq_true rfl⟩) hK hP hD [2] rfl (by decide) rfl hl.1 rfl (Nat.le_of_ble_eq_true rfl) dX6_drawn_145 ⟨Nat.le_of_ble_eq_true rfl, Nat.le_of_ble_eq_true rfl⟩) hP hD hS hA [2] [0, 1] rfl rfl (by decide) (by decide) (fun w_48 H locs h_49 hP hD hS => ?_)
                  obtain ⟨f2_50, rfl, x_51⟩ := h_49
                  have hP : va_P D vwCl [(md, .inr (6, [.int 0, vm_1, vm_2, vm_3, vm_4, .ref hs, vm_6, .ref tn, vm_8, vm_9, vm_10, vm_11, vm_12, vm_13, vm_14, vm_15, vm_16, vm_17, vm_18, vm_19, vm_20, vm_21, vm_22, vm_23])), (hs, .inl (cI, 45, .inl f)), (tn, .inl (cI, 45, .inl f2_50))] H := hP
                  have hD : va_D A [(md, .inr (6, [.int 0, vm_1, vm_2, vm_3, vm_4, .ref hs, vm_6, .ref tn, vm_8, vm_9, vm_10, vm_11, vm_12, vm_13, vm_14, vm_15, vm_16, vm_17, vm_18, vm_19, vm_20, vm_21, vm_22, vm_23])), (hs, .inl (cI, 45, .inl f)), (tn, .inl (cI, 45, .inl f2_50))] := hD
                  refine lv_aload_n hx hb dX6_drawn_148 rfl (lv_at hl 3 rfl) ?_
                  refine va_get (D := D) (ci := 6) (v := .ref tn) (C := RX6) (T := TX6) (N := 24) hx hb hts hi6 hown hK.1 hP 0 rfl rfl 7 (by decide) wf25 (fun _ h9 => h9) rfl dX6_drawn_149 ?_
                  refine wt_goV (wr := [(md, .inr (6, [.int 0, vm_1, vm_2, vm_3, vm_4, .ref hs, vm_6, .ref tn, vm_8, vm_9, vm_10, vm_11, vm_12, vm_13, vm_14, vm_15, vm_16, vm_17, vm_18, vm_19, vm_20, vm_21, vm_22, vm_23])), (hs, .inl (cI, 45, .inl f))]) (wt_runS (As := [.ref tn]) (rest := []) ⟨hx, hb, hml, hown, hts⟩ (c_X6_minute l D cI cZ cH tn R T f2_50 (by first | assumption | omega) (by first | assumption | omega) (by first | assumption | omega)) (va_cwS 1 hts gX6_drawn_X6_minute rfl rfl rfl (by decide +kernel) ⟨Nat.le_of_ble_eq_true rfl, Nat.le_of_ble_eq_true rfl⟩) hK hP hD [2] rfl (by decide) rfl hl.1 rfl (Nat.le_of_ble_eq_true rfl) dX6_drawn_152 ⟨Nat.le_of_ble_eq_true rfl, Nat.le_of_ble_eq_true rfl⟩) hP hD hS hA [2] [0, 1] rfl rfl (by decide) (by decide) (fun w_53 H locs h_54 hP hD hS => ?_)
                  obtain ⟨f2_55, rfl, x_56⟩ := h_54
                  have hP : va_P D vwCl [(md, .inr (6, [.int 0, vm_1, vm_2, vm_3, vm_4, .ref hs, vm_6, .ref tn, vm_8, vm_9, vm_10, vm_11, vm_12, vm_13, vm_14, vm_15, vm_16, vm_17, vm_18, vm_19, vm_20, vm_21, vm_22, vm_23])), (hs, .inl (cI, 45, .inl f)), (tn, .inl (cI, 45, .inl f2_55))] H := hP
                  have hD : va_D A [(md, .inr (6, [.int 0, vm_1, vm_2, vm_3, vm_4, .ref hs, vm_6, .ref tn, vm_8, vm_9, vm_10, vm_11, vm_12, vm_13, vm_14, vm_15, vm_16, vm_17, vm_18, vm_19, vm_20, vm_21, vm_22, vm_23])), (hs, .inl (cI, 45, .inl f)), (tn, .inl (cI, 45, .inl f2_55))] := hD
                  refine lv_iinc (v := nI (i_22 + 1)) (lv' := [(6, .int (nI (i_22 + 1))), (7, .int (nI v_34)), (4, .long (lN v_33)), (0, .ref md), (1, .int (nI j_8)), (2, .int (nI j_12)), (3, .int (nI j_16))]) hx hb dX6_drawn_155 hl (k := 2) rfl (nI_add i_22 1) (by decide) rfl (fun ls hl => ?_)
                  refine lv_goto (tgt := 63) hx hb dX6_drawn_158 (by decide) ?_
                  exact ih63 ((i_22 + 1)) f2_55 v_33 H locs ls (by omega) (by omega) x_56 hP hD hS (lv_sub hl [0, 2, 3, 4, 5, 6] rfl)
              · skip
                refine lv_aload_n hx hb dX6_drawn_105 rfl (lv_at hl 3 rfl) ?_
                refine va_get (D := D) (ci := 6) (v := .ref tn) (C := RX6) (T := TX6) (N := 24) hx hb hts hi6 hown hK.1 hP 0 rfl rfl 7 (by decide) wf25 (fun _ h9 => h9) rfl dX6_drawn_106 ?_
                refine lv_iload hx hb dX6_drawn_109 (lv_at hl 0 rfl) ?_
                refine wt_goI (wr := [(md, .inr (6, [.int 0, vm_1, vm_2, vm_3, vm_4, .ref hs, vm_6, .ref tn, vm_8, vm_9, vm_10, vm_11, vm_12, vm_13, vm_14, vm_15, vm_16, vm_17, vm_18, vm_19, vm_20, vm_21, vm_22, vm_23])), (hs, .inl (cI, 45, .inl f))]) (wt_runS (As := [.ref tn, .int (nI v_34)]) (rest := []) ⟨hx, hb, hml, hown, hts⟩ (c_X6_shaken l D cI cZ cH tn R T g2_20_23 v_34 (by first | assumption | omega) (by first | assumption | omega) (by first | assumption | omega) (by first | assumption | omega)) (va_cwS 2 hts gX6_drawn_X6_shaken rfl rfl rfl (by decide +kernel) ⟨Nat.le_of_ble_eq_true rfl, Nat.le_of_ble_eq_true rfl⟩) hK hP hD [2] rfl (by decide) rfl hl.1 rfl (Nat.le_of_ble_eq_true rfl) dX6_drawn_111 ⟨Nat.le_of_ble_eq_true rfl, Nat.le_of_ble_eq_true rfl⟩) hP hD hS hA [2] [0, 1] rfl rfl (by decide) (by decide) (fun r_57 w_58 H locs h_59 hP hD hS => ?_)
                obtain ⟨f2_60, rfl, x_61⟩ := h_59
                have hP : va_P D vwCl [(md, .inr (6, [.int 0, vm_1, vm_2, vm_3, vm_4, .ref hs, vm_6, .ref tn, vm_8, vm_9, vm_10, vm_11, vm_12, vm_13, vm_14, vm_15, vm_16, vm_17, vm_18, vm_19, vm_20, vm_21, vm_22, vm_23])), (hs, .inl (cI, 45, .inl f)), (tn, .inl (cI, 45, .inl f2_60))] H := hP
                have hD : va_D A [(md, .inr (6, [.int 0, vm_1, vm_2, vm_3, vm_4, .ref hs, vm_6, .ref tn, vm_8, vm_9, vm_10, vm_11, vm_12, vm_13, vm_14, vm_15, vm_16, vm_17, vm_18, vm_19, vm_20, vm_21, vm_22, vm_23])), (hs, .inl (cI, 45, .inl f)), (tn, .inl (cI, 45, .inl f2_60))] := hD
                refine lv_istore (lv' := [(8, .int r_57), (7, .int (nI v_34)), (4, .long (lN v_33)), (6, .int (nI i_22)), (0, .ref md), (1, .int (nI j_8)), (2, .int (nI j_12)), (3, .int (nI j_16))]) hx hb dX6_drawn_114 hl (by decide) rfl (fun ls hl => ?_)
                refine lv_lload hx hb dX6_drawn_116 (lv_at hl 2 rfl) ?_
                refine lv_ldc2 hx hb hown wl284 dX6_drawn_118 ?_
                refine lv_lrem hx hb dX6_drawn_121 (by decide) ?_
                obtain ⟨v_62, hv_62, ev_62⟩ : ∃ v : Nat, v < 5 ∧ v_33 % 5 = v := ⟨_, Nat.mod_lt _ (by omega), rfl⟩
                refine wt_topl (z := lN v_62) (by rw [← ev_62]; exact pk_lRem (a := v_33) (b := 5) (by omega) (by omega) (by omega)) ?_
                refine lv_lconst (v := 0) hx hb dX6_drawn_122 (by decide) ?_
                refine W.lcmp hx hb dX6_drawn_123 ?_
                refine lv_topi (fun ov_63 _ => ?_)
                refine lv_if_ne (tgt := 148) hx hb dX6_drawn_124 (by decide) (fun c_64 => ?_) (fun c_64 => ?_)
                · skip
                  refine lv_aload_n hx hb dX6_drawn_148 rfl (lv_at hl 4 rfl) ?_
                  refine va_get (D := D) (ci := 6) (v := .ref tn) (C := RX6) (T := TX6) (N := 24) hx hb hts hi6 hown hK.1 hP 0 rfl rfl 7 (by decide) wf25 (fun _ h9 => h9) rfl dX6_drawn_149 ?_
                  refine wt_goV (wr := [(md, .inr (6, [.int 0, vm_1, vm_2, vm_3, vm_4, .ref hs, vm_6, .ref tn, vm_8, vm_9, vm_10, vm_11, vm_12, vm_13, vm_14, vm_15, vm_16, vm_17, vm_18, vm_19, vm_20, vm_21, vm_22, vm_23])), (hs, .inl (cI, 45, .inl f))]) (wt_runS (As := [.ref tn]) (rest := []) ⟨hx, hb, hml, hown, hts⟩ (c_X6_minute l D cI cZ cH tn R T f2_60 (by first | assumption | omega) (by first | assumption | omega) (by first | assumption | omega)) (va_cwS 1 hts gX6_drawn_X6_minute rfl rfl rfl (by decide +kernel) ⟨Nat.le_of_ble_eq_true rfl, Nat.le_of_ble_eq_true rfl⟩) hK hP hD [2] rfl (by decide) rfl hl.1 rfl (Nat.le_of_ble_eq_true rfl) dX6_drawn_152 ⟨Nat.le_of_ble_eq_true rfl, Nat.le_of_ble_eq_true rfl⟩) hP hD hS hA [2] [0, 1] rfl rfl (by decide) (by decide) (fun w_66 H locs h_67 hP hD hS => ?_)
                  obtain ⟨f2_68, rfl, x_69⟩ := h_67
                  have hP : va_P D vwCl [(md, .inr (6, [.int 0, vm_1, vm_2, vm_3, vm_4, .ref hs, vm_6, .ref tn, vm_8, vm_9, vm_10, vm_11, vm_12, vm_13, vm_14, vm_15, vm_16, vm_17, vm_18, vm_19, vm_20, vm_21, vm_22, vm_23])), (hs, .inl (cI, 45, .inl f)), (tn, .inl (cI, 45, .inl f2_68))] H := hP
                  have hD : va_D A [(md, .inr (6, [.int 0, vm_1, vm_2, vm_3, vm_4, .ref hs, vm_6, .ref tn, vm_8, vm_9, vm_10, vm_11, vm_12, vm_13, vm_14, vm_15, vm_16, vm_17, vm_18, vm_19, vm_20, vm_21, vm_22, vm_23])), (hs, .inl (cI, 45, .inl f)), (tn, .inl (cI, 45, .inl f2_68))] := hD
                  refine lv_iinc (v := nI (i_22 + 1)) (lv' := [(6, .int (nI (i_22 + 1))), (8, .int r_57), (7, .int (nI v_34)), (4, .long (lN v_33)), (0, .ref md), (1, .int (nI j_8)), (2, .int (nI j_12)), (3, .int (nI j_16))]) hx hb dX6_drawn_155 hl (k := 3) rfl (nI_add i_22 1) (by decide) rfl (fun ls hl => ?_)
                  refine lv_goto (tgt := 63) hx hb dX6_drawn_158 (by decide) ?_
                  exact ih63 ((i_22 + 1)) f2_68 v_33 H locs ls (by omega) (by omega) x_69 hP hD hS (lv_sub hl [0, 3, 4, 5, 6, 7] rfl)
                · skip
                  refine lv_aload_n hx hb dX6_drawn_127 rfl (lv_at hl 4 rfl) ?_
                  refine va_get (D := D) (ci := 6) (v := .ref tn) (C := RX6) (T := TX6) (N := 24) hx hb hts hi6 hown hK.1 hP 0 rfl rfl 7 (by decide) wf25 (fun _ h9 => h9) rfl dX6_drawn_128 ?_
                  refine lv_iload hx hb dX6_drawn_131 (lv_at hl 1 rfl) ?_
                  refine lv_iconst (v := 1) hx hb dX6_drawn_133 (by decide) ?_
                  refine lv_lload hx hb dX6_drawn_134 (lv_at hl 2 rfl) ?_
                  refine lv_aload_n hx hb dX6_drawn_136 rfl (lv_at hl 4 rfl) ?_
                  refine va_get (D := D) (ci := 6) (v := .ref tn) (C := RX6) (T := TX6) (N := 24) hx hb hts hi6 hown hK.1 hP 0 rfl rfl 7 (by decide) wf25 (fun _ h9 => h9) rfl dX6_drawn_137 ?_
                  refine lv_iconst (v := 0) hx hb dX6_drawn_140 (by decide) ?_
                  refine va_iald hx hb hK.1 hP 2 0 rfl rfl (by rw [vp_in_iff]; decide) dX6_drawn_141 ?_
                  refine wt_top (z := nI R) (x_61.1) ?_
                  refine lv_i2l hx hb dX6_drawn_142 rfl ?_
                  refine wt_topl (z := lN R) (nI_l (by omega)) ?_
                  refine lv_lrem hx hb dX6_drawn_143 (wt_lne (by omega) (by omega)) ?_
                  obtain ⟨v_70, hv_70, ev_70⟩ : ∃ v : Nat, v < R ∧ v_33 % R = v := ⟨_, Nat.mod_lt _ (by omega), rfl⟩
                  refine wt_topl (z := lN v_70) (by rw [← ev_70]; exact pk_lRem (a := v_33) (b := R) (by omega) (by omega) (by omega)) ?_
                  refine lv_l2i hx hb dX6_drawn_144 rfl ?_
                  refine wt_top (z := nI v_70) (lN_i _) ?_
                  refine wt_goV (wr := [(md, .inr (6, [.int 0, vm_1, vm_2, vm_3, vm_4, .ref hs, vm_6, .ref tn, vm_8, vm_9, vm_10, vm_11, vm_12, vm_13, vm_14, vm_15, vm_16, vm_17, vm_18, vm_19, vm_20, vm_21, vm_22, vm_23])), (hs, .inl (cI, 45, .inl f))]) (wt_runS (As := [.ref tn, .int (nI v_34), .int 1, .int (nI v_70)]) (rest := []) ⟨hx, hb, hml, hown, hts⟩ (c_X6_be_1 l D cI cZ cH tn R T f2_60 v_34 v_70 (by first | assumption | omega) (by first | assumption | omega) (by first | assumption | omega) (by first | assumption | omega) (by first | assumption | omega)) (va_cwS 4 hts gX6_drawn_X6_be rfl rfl rfl (by decide +kernel) ⟨Nat.le_of_ble_eq_true rfl, Nat.le_of_ble_eq_true rfl⟩) hK hP hD [2] rfl (by decide) rfl hl.1 rfl (Nat.le_of_ble_eq_true rfl) dX6_drawn_145 ⟨Nat.le_of_ble_eq_true rfl, Nat.le_of_ble_eq_true rfl⟩) hP hD hS hA [2] [0, 1] rfl rfl (by decide) (by decide) (fun w_72 H locs h_73 hP hD hS => ?_)
                  obtain ⟨f2_74, rfl, x_75⟩ := h_73
                  have hP : va_P D vwCl [(md, .inr (6, [.int 0, vm_1, vm_2, vm_3, vm_4, .ref hs, vm_6, .ref tn, vm_8, vm_9, vm_10, vm_11, vm_12, vm_13, vm_14, vm_15, vm_16, vm_17, vm_18, vm_19, vm_20, vm_21, vm_22, vm_23])), (hs, .inl (cI, 45, .inl f)), (tn, .inl (cI, 45, .inl f2_74))] H := hP
                  have hD : va_D A [(md, .inr (6, [.int 0, vm_1, vm_2, vm_3, vm_4, .ref hs, vm_6, .ref tn, vm_8, vm_9, vm_10, vm_11, vm_12, vm_13, vm_14, vm_15, vm_16, vm_17, vm_18, vm_19, vm_20, vm_21, vm_22, vm_23])), (hs, .inl (cI, 45, .inl f)), (tn, .inl (cI, 45, .inl f2_74))] := hD
                  refine lv_aload_n hx hb dX6_drawn_148 rfl (lv_at hl 4 rfl) ?_
                  refine va_get (D := D) (ci := 6) (v := .ref tn) (C := RX6) (T := TX6) (N := 24) hx hb hts hi6 hown hK.1 hP 0 rfl rfl 7 (by decide) wf25 (fun _ h9 => h9) rfl dX6_drawn_149 ?_
                  refine wt_goV (wr := [(md, .inr (6, [.int 0, vm_1, vm_2, vm_3, vm_4, .ref hs, vm_6, .ref tn, vm_8, vm_9, vm_10, vm_11, vm_12, vm_13, vm_14, vm_15, vm_16, vm_17, vm_18, vm_19, vm_20, vm_21, vm_22, vm_23])), (hs, .inl (cI, 45, .inl f))]) (wt_runS (As := [.ref tn]) (rest := []) ⟨hx, hb, hml, hown, hts⟩ (c_X6_minute l D cI cZ cH tn R T f2_74 (by first | assumption | omega) (by first | assumption | omega) (by first | assumption | omega)) (va_cwS 1 hts gX6_drawn_X6_minute rfl rfl rfl (by decide +kernel) ⟨Nat.le_of_ble_eq_true rfl, Nat.le_of_ble_eq_true rfl⟩) hK hP hD [2] rfl (by decide) rfl hl.1 rfl (Nat.le_of_ble_eq_true rfl) dX6_drawn_152 ⟨Nat.le_of_ble_eq_true rfl, Nat.le_of_ble_eq_true rfl⟩) hP hD hS hA [2] [0, 1] rfl rfl (by decide) (by decide) (fun w_77 H locs h_78 hP hD hS => ?_)
                  obtain ⟨f2_79, rfl, x_80⟩ := h_78
                  have hP : va_P D vwCl [(md, .inr (6, [.int 0, vm_1, vm_2, vm_3, vm_4, .ref hs, vm_6, .ref tn, vm_8, vm_9, vm_10, vm_11, vm_12, vm_13, vm_14, vm_15, vm_16, vm_17, vm_18, vm_19, vm_20, vm_21, vm_22, vm_23])), (hs, .inl (cI, 45, .inl f)), (tn, .inl (cI, 45, .inl f2_79))] H := hP
                  have hD : va_D A [(md, .inr (6, [.int 0, vm_1, vm_2, vm_3, vm_4, .ref hs, vm_6, .ref tn, vm_8, vm_9, vm_10, vm_11, vm_12, vm_13, vm_14, vm_15, vm_16, vm_17, vm_18, vm_19, vm_20, vm_21, vm_22, vm_23])), (hs, .inl (cI, 45, .inl f)), (tn, .inl (cI, 45, .inl f2_79))] := hD
                  refine lv_iinc (v := nI (i_22 + 1)) (lv' := [(6, .int (nI (i_22 + 1))), (8, .int r_57), (7, .int (nI v_34)), (4, .long (lN v_33)), (0, .ref md), (1, .int (nI j_8)), (2, .int (nI j_12)), (3, .int (nI j_16))]) hx hb dX6_drawn_155 hl (k := 3) rfl (nI_add i_22 1) (by decide) rfl (fun ls hl => ?_)
                  refine lv_goto (tgt := 63) hx hb dX6_drawn_158 (by decide) ?_
                  exact ih63 ((i_22 + 1)) f2_79 v_33 H locs ls (by omega) (by omega) x_80 hP hD hS (lv_sub hl [0, 3, 4, 5, 6, 7] rfl)
          exact loop63 (j_8 - 0) (0) g2_20 j_12 _ _ ls (by omega) (by omega) x_21 hP hD hS hl
        · skip
          refine lv_ldc hx hb hown wc67 dX6_drawn_49 ?_
          have hP9 := hP.sub (ws' := [(md, .inr (6, [.int 0, vm_1, vm_2, vm_3, vm_4, .ref hs, vm_6, .ref tn, vm_8, vm_9, vm_10, vm_11, vm_12, vm_13, vm_14, vm_15, vm_16, vm_17, vm_18, vm_19, vm_20, vm_21, vm_22, vm_23])), (hs, .inl (cI, 45, .inl f)), (tn, .inl (cI, 45, .inl g))]) [0, 1, 2] rfl
          have hD9 := hD.sub (ws' := [(md, .inr (6, [.int 0, vm_1, vm_2, vm_3, vm_4, .ref hs, vm_6, .ref tn, vm_8, vm_9, vm_10, vm_11, vm_12, vm_13, vm_14, vm_15, vm_16, vm_17, vm_18, vm_19, vm_20, vm_21, vm_22, vm_23])), (hs, .inl (cI, 45, .inl f)), (tn, .inl (cI, 45, .inl g))]) [0, 1, 2] (by decide) rfl
          exact wt_iret hx hb hr hlocks hP9 hD9 hS ⟨g, rfl⟩ dX6_drawn_51
  · skip
    refine lv_ldc hx hb hown wc189 dX6_drawn_12 ?_
    have hP9 := hP.sub (ws' := [(md, .inr (6, [.int 0, vm_1, vm_2, vm_3, vm_4, .ref hs, vm_6, .ref tn, vm_8, vm_9, vm_10, vm_11, vm_12, vm_13, vm_14, vm_15, vm_16, vm_17, vm_18, vm_19, vm_20, vm_21, vm_22, vm_23])), (hs, .inl (cI, 45, .inl f)), (tn, .inl (cI, 45, .inl g))]) [0, 1, 2] rfl
    have hD9 := hD.sub (ws' := [(md, .inr (6, [.int 0, vm_1, vm_2, vm_3, vm_4, .ref hs, vm_6, .ref tn, vm_8, vm_9, vm_10, vm_11, vm_12, vm_13, vm_14, vm_15, vm_16, vm_17, vm_18, vm_19, vm_20, vm_21, vm_22, vm_23])), (hs, .inl (cI, 45, .inl f)), (tn, .inl (cI, 45, .inl g))]) [0, 1, 2] (by decide) rfl
    exact wt_iret hx hb hr hlocks hP9 hD9 hS ⟨g, rfl⟩ dX6_drawn_14
set_option maxHeartbeats 4000000 in
set_option maxRecDepth 100000 in
theorem c_X6_count (l : Launch) (D : va_G) (cI cZ cH : ClassId) (md hs : Nat) (R T : Nat) (f : Nat → Int32) (ln ac tl : Nat) (lf : Nat → Int32) (a1 : Int32) (vm_0 vm_1 vm_3 vm_4 vm_6 vm_7 vm_8 vm_10 vm_12 vm_13 vm_14 vm_15 vm_16 vm_17 vm_18 vm_19 vm_20 vm_21 vm_22 vm_23 : Value) (hR5 : R ≤ 5) (hT6 : T ≤ 6) (hrk : rk R T f) : wt_M l yX6_count wsX6_count ({ frames := 3, cells := 0, slots := 0, locals := 64 } : Room) D (wt_T cI cZ cH) [.ref md, .int a1] [(md, .inr (6, [vm_0, vm_1, .ref ln, vm_3, vm_4, .ref hs, vm_6, vm_7, vm_8, .int (nI ac), vm_10, .int (nI tl), vm_12, vm_13, vm_14, vm_15, vm_16, vm_17, vm_18, vm_19, vm_20, vm_21, vm_22, vm_23])), (hs, .inl (cI, 45, .inl f)), (ln, .inl (cI, 8, .inl lf))] (wt_QI D (fun r w => w = [(md, .inr (6, [.int 0, vm_1, .ref ln, vm_3, vm_4, .ref hs, vm_6, vm_7, vm_8, .int (nI ac), vm_10, .int (nI tl), vm_12, vm_13, vm_14, vm_15, vm_16, vm_17, vm_18, vm_19, vm_20, vm_21, vm_22, vm_23])), (hs, .inl (cI, 45, .inl f)), (ln, .inl (cI, 8, .inl lf))])) := by
  refine wt_M.ofW (cc := cX6_count) (maxL := 4) (ret := (some .int)) (by decide) rfl (Nat.le_of_ble_eq_true rfl) ?_
  intro p e s m below meth c A ls hx hb hr hts hown hlocks hml hnm hP hK hD hA hS hl
  have hP : va_P D vwCl [(md, .inr (6, [vm_0, vm_1, .ref ln, vm_3, vm_4, .ref hs, vm_6, vm_7, vm_8, .int (nI ac), vm_10, .int (nI tl), vm_12, vm_13, vm_14, vm_15, vm_16, vm_17, vm_18, vm_19, vm_20, vm_21, vm_22, vm_23])), (hs, .inl (cI, 45, .inl f)), (ln, .inl (cI, 8, .inl lf))] s.heap := hP
  have hown : s.vm.findClass RX6 = some m.cls := hown
  have hl : lv_has ls 4 [(0, .ref md), (1, .int a1)] := hl
  have hi6 : ∀ w ∈ u_ws RX6 TX6 24, w ∈ wsX6_count := by decide +kernel
  have wc67 := hts (.constant RX6 67 (-1000001)) (by decide +kernel)
  have wf149 := hts (.fieldLink RX6 149 "WarmTubesModel" "acts" "I") (by decide +kernel)
  have wf19 := hts (.fieldLink RX6 19 "WarmTubesModel" "house" "[I") (by decide +kernel)
  have wf47 := hts (.fieldLink RX6 47 "WarmTubesModel" "thrown" "I") (by decide +kernel)
  have wf7 := hts (.fieldLink RX6 7 "WarmTubesModel" "lane" "[I") (by decide +kernel)
  have wf74 := hts (.fieldLink RX6 74 "WarmTubesModel" "taped" "I") (by decide +kernel)
  refine lv_aload_n hx hb dX6_count_0 rfl (lv_at hl 0 rfl) ?_
  refine lv_iconst (v := 0) hx hb dX6_count_1 (by decide) ?_
  refine va_put (D := D) (ci := 6) (v := .int 0) (ty := .int) (C := RX6) (T := TX6) (N := 24) hx hb hts hi6 tyX6 tyX6_ok nmX6 hown hK.1 hP hD hS 0 rfl rfl 0 (by decide) wf47 (fun _ h9 => h9) rfl (by decide +kernel) rfl rfl (Nat.le_of_ble_eq_true rfl) dX6_count_2 (fun H locs hP hD hS => ?_)
  have hP : va_P D vwCl [(md, .inr (6, [.int 0, vm_1, .ref ln, vm_3, vm_4, .ref hs, vm_6, vm_7, vm_8, .int (nI ac), vm_10, .int (nI tl), vm_12, vm_13, vm_14, vm_15, vm_16, vm_17, vm_18, vm_19, vm_20, vm_21, vm_22, vm_23])), (hs, .inl (cI, 45, .inl f)), (ln, .inl (cI, 8, .inl lf))] H := hP
  have hD : va_D A [(md, .inr (6, [.int 0, vm_1, .ref ln, vm_3, vm_4, .ref hs, vm_6, vm_7, vm_8, .int (nI ac), vm_10, .int (nI tl), vm_12, vm_13, vm_14, vm_15, vm_16, vm_17, vm_18, vm_19, vm_20, vm_21, vm_22, vm_23])), (hs, .inl (cI, 45, .inl f)), (ln, .inl (cI, 8, .inl lf))] := hD
  refine lv_iconst (v := 0) hx hb dX6_count_5 (by decide) ?_
  refine lv_istore_n (lv' := [(2, .int 0), (0, .ref md), (1, .int a1)]) hx hb dX6_count_6 rfl hl (by decide) rfl (fun ls hl => ?_)
  refine lv_iload_n hx hb dX6_count_7 rfl (lv_at hl 2 rfl) ?_
  rcases wt_dec (a1) 0 with c_2 | c_2
  · subst c_2
    refine lv_tableIn (off := 48) (tgt := 56) hx hb dX6_count_8 (by decide) (by decide) rfl (by decide) ?_
    refine lv_iconst (v := 0) hx hb dX6_count_56 (by decide) ?_
    refine lv_istore_n (lv' := [(3, .int 0), (2, .int 0), (0, .ref md), (1, .int 0)]) hx hb dX6_count_57 rfl hl (by decide) rfl (fun ls hl => ?_)
    have loop58 : ∀ (k i_3 : Nat) (y_4 : Int32) (H : Heap) (locs : List Loc) (ls : Array Slot), i_3 + k = 8 → va_P D vwCl [(md, .inr (6, [.int 0, vm_1, .ref ln, vm_3, vm_4, .ref hs, vm_6, vm_7, vm_8, .int (nI ac), vm_10, .int (nI tl), vm_12, vm_13, vm_14, vm_15, vm_16, vm_17, vm_18, vm_19, vm_20, vm_21, vm_22, vm_23])), (hs, .inl (cI, 45, .inl f)), (ln, .inl (cI, 8, .inl lf))] H → va_D A [(md, .inr (6, [.int 0, vm_1, .ref ln, vm_3, vm_4, .ref hs, vm_6, vm_7, vm_8, .int (nI ac), vm_10, .int (nI tl), vm_12, vm_13, vm_14, vm_15, vm_16, vm_17, vm_18, vm_19, vm_20, vm_21, vm_22, vm_23])), (hs, .inl (cI, 45, .inl f)), (ln, .inl (cI, 8, .inl lf))] → va_S A s.heap H locs → lv_has ls 4 [(3, .int (nI i_3)), (2, .int y_4), (0, .ref md), (1, .int 0)] → W p l e ({ frames := 3, cells := 0, slots := 0, locals := 64 } : Room) s m ([.ref md, .int 0] : List Value).toArray below meth c H locs 0 0 (MQ below (wt_QI D (fun r w => w = [(md, .inr (6, [.int 0, vm_1, .ref ln, vm_3, vm_4, .ref hs, vm_6, vm_7, vm_8, .int (nI ac), vm_10, .int (nI tl), vm_12, vm_13, vm_14, vm_15, vm_16, vm_17, vm_18, vm_19, vm_20, vm_21, vm_22, vm_23])), (hs, .inl (cI, 45, .inl f)), (ln, .inl (cI, 8, .inl lf))]) A) ([.ref md, .int 0] : List Value).toArray s 0 0 A) (F0 m 58 ls []) := by
      intro k
      induction k with
      | zero =>
        intro i_3 y_4 H locs ls hik  hP hD hS hl
        refine lv_iload_n hx hb dX6_count_58 rfl (lv_at hl 0 rfl) ?_
        refine lv_bipush (v := 8) hx hb dX6_count_59 (by decide) ?_
        refine lv_icmp_ge (tgt := 87) hx hb dX6_count_61 (by decide) (fun _ => ?_) (fun h => absurd (nI_le (a := 8) (b := i_3) (by omega) (by omega)) h)
        refine lv_iload_n hx hb dX6_count_87 rfl (lv_at hl 1 rfl) ?_
        have hP9 := hP.sub (ws' := [(md, .inr (6, [.int 0, vm_1, .ref ln, vm_3, vm_4, .ref hs, vm_6, vm_7, vm_8, .int (nI ac), vm_10, .int (nI tl), vm_12, vm_13, vm_14, vm_15, vm_16, vm_17, vm_18, vm_19, vm_20, vm_21, vm_22, vm_23])), (hs, .inl (cI, 45, .inl f)), (ln, .inl (cI, 8, .inl lf))]) [0, 1, 2] rfl
        have hD9 := hD.sub (ws' := [(md, .inr (6, [.int 0, vm_1, .ref ln, vm_3, vm_4, .ref hs, vm_6, vm_7, vm_8, .int (nI ac), vm_10, .int (nI tl), vm_12, vm_13, vm_14, vm_15, vm_16, vm_17, vm_18, vm_19, vm_20, vm_21, vm_22, vm_23])), (hs, .inl (cI, 45, .inl f)), (ln, .inl (cI, 8, .inl lf))]) [0, 1, 2] (by decide) rfl
        exact wt_iret hx hb hr hlocks hP9 hD9 hS rfl dX6_count_88
      | succ k ih58 =>
        intro i_3 y_4 H locs ls hik  hP hD hS hl
        refine lv_iload_n hx hb dX6_count_58 rfl (lv_at hl 0 rfl) ?_
        refine lv_bipush (v := 8) hx hb dX6_count_59 (by decide) ?_
        refine lv_icmp_ge (tgt := 87) hx hb dX6_count_61 (by decide) (fun h => absurd h (nI_ge (a := i_3) (b := 8) (by omega) (by omega))) (fun _ => ?_)
        refine lv_iload_n hx hb dX6_count_64 rfl (lv_at hl 1 rfl) ?_
        refine lv_aload_n hx hb dX6_count_65 rfl (lv_at hl 2 rfl) ?_
        refine va_get (D := D) (ci := 6) (v := .ref ln) (C := RX6) (T := TX6) (N := 24) hx hb hts hi6 hown hK.1 hP 0 rfl rfl 2 (by decide) wf7 (fun _ h9 => h9) rfl dX6_count_66 ?_
        refine lv_iload_n hx hb dX6_count_69 rfl (lv_at hl 0 rfl) ?_
        refine va_iald hx hb hK.1 hP 2 0 rfl rfl (vp_in_nI (by omega) (by omega)) dX6_count_70 ?_
        refine lv_topi (fun ov_5 _ => ?_)
        refine lv_if_lt (tgt := 78) hx hb dX6_count_71 (by decide) (fun c_6 => ?_) (fun c_6 => ?_)
        · skip
          refine lv_iconst (v := 0) hx hb dX6_count_78 (by decide) ?_
          refine lv_iadd hx hb dX6_count_79 ?_
          refine lv_topi (fun ov_7 _ => ?_)
          refine lv_istore_n (lv' := [(2, .int ov_7), (3, .int (nI i_3)), (0, .ref md), (1, .int 0)]) hx hb dX6_count_80 rfl hl (by decide) rfl (fun ls hl => ?_)
          refine lv_iinc (v := nI (i_3 + 1)) (lv' := [(3, .int (nI (i_3 + 1))), (2, .int ov_7), (0, .ref md), (1, .int 0)]) hx hb dX6_count_81 hl (k := 1) rfl (nI_add i_3 1) (by decide) rfl (fun ls hl => ?_)
          refine lv_goto (tgt := 58) hx hb dX6_count_84 (by decide) ?_
          exact ih58 ((i_3 + 1)) ov_7 H locs ls (by omega)  hP hD hS (lv_sub hl [0, 1, 2, 3] rfl)
        · skip
          refine lv_iconst (v := 1) hx hb dX6_count_74 (by decide) ?_
          refine lv_goto (tgt := 79) hx hb dX6_count_75 (by decide) ?_
          refine lv_iadd hx hb dX6_count_79 ?_
          refine lv_topi (fun ov_8 _ => ?_)
          refine lv_istore_n (lv' := [(2, .int ov_8), (3, .int (nI i_3)), (0, .ref md), (1, .int 0)]) hx hb dX6_count_80 rfl hl (by decide) rfl (fun ls hl => ?_)
          refine lv_iinc (v := nI (i_3 + 1)) (lv' := [(3, .int (nI (i_3 + 1))), (2, .int ov_8), (0, .ref md), (1, .int 0)]) hx hb dX6_count_81 hl (k := 1) rfl (nI_add i_3 1) (by decide) rfl (fun ls hl => ?_)
          refine lv_goto (tgt := 58) hx hb dX6_count_84 (by decide) ?_
          exact ih58 ((i_3 + 1)) ov_8 H locs ls (by omega)  hP hD hS (lv_sub hl [0, 1, 2, 3] rfl)
    exact loop58 (8 - 0) (0) 0 _ _ ls (by omega)  hP hD hS hl
  rcases wt_dec (a1) 1 with c_9 | c_9
  · subst c_9
    refine lv_tableIn (off := 81) (tgt := 89) hx hb dX6_count_8 (by decide) (by decide) rfl (by decide) ?_
    refine lv_aload_n hx hb dX6_count_89 rfl (lv_at hl 1 rfl) ?_
    refine va_get (D := D) (ci := 6) (v := .ref hs) (C := RX6) (T := TX6) (N := 24) hx hb hts hi6 hown hK.1 hP 0 rfl rfl 5 (by decide) wf19 (fun _ h9 => h9) rfl dX6_count_90 ?_
    refine lv_iconst (v := 0) hx hb dX6_count_93 (by decide) ?_
    refine va_iald hx hb hK.1 hP 1 0 rfl rfl (by rw [vp_in_iff]; decide) dX6_count_94 ?_
    refine wt_top (z := nI R) (hrk.1) ?_
    have hP9 := hP.sub (ws' := [(md, .inr (6, [.int 0, vm_1, .ref ln, vm_3, vm_4, .ref hs, vm_6, vm_7, vm_8, .int (nI ac), vm_10, .int (nI tl), vm_12, vm_13, vm_14, vm_15, vm_16, vm_17, vm_18, vm_19, vm_20, vm_21, vm_22, vm_23])), (hs, .inl (cI, 45, .inl f)), (ln, .inl (cI, 8, .inl lf))]) [0, 1, 2] rfl
    have hD9 := hD.sub (ws' := [(md, .inr (6, [.int 0, vm_1, .ref ln, vm_3, vm_4, .ref hs, vm_6, vm_7, vm_8, .int (nI ac), vm_10, .int (nI tl), vm_12, vm_13, vm_14, vm_15, vm_16, vm_17, vm_18, vm_19, vm_20, vm_21, vm_22, vm_23])), (hs, .inl (cI, 45, .inl f)), (ln, .inl (cI, 8, .inl lf))]) [0, 1, 2] (by decide) rfl
    exact wt_iret hx hb hr hlocks hP9 hD9 hS rfl dX6_count_95
  rcases wt_dec (a1) 2 with c_10 | c_10
  · subst c_10
    refine lv_tableIn (off := 88) (tgt := 96) hx hb dX6_count_8 (by decide) (by decide) rfl (by decide) ?_
    refine lv_aload_n hx hb dX6_count_96 rfl (lv_at hl 1 rfl) ?_
    refine va_get (D := D) (ci := 6) (v := .ref hs) (C := RX6) (T := TX6) (N := 24) hx hb hts hi6 hown hK.1 hP 0 rfl rfl 5 (by decide) wf19 (fun _ h9 => h9) rfl dX6_count_97 ?_
    refine lv_iconst (v := 1) hx hb dX6_count_100 (by decide) ?_
    refine va_iald hx hb hK.1 hP 1 0 rfl rfl (by rw [vp_in_iff]; decide) dX6_count_101 ?_
    refine wt_top (z := nI T) (hrk.2.1) ?_
    have hP9 := hP.sub (ws' := [(md, .inr (6, [.int 0, vm_1, .ref ln, vm_3, vm_4, .ref hs, vm_6, vm_7, vm_8, .int (nI ac), vm_10, .int (nI tl), vm_12, vm_13, vm_14, vm_15, vm_16, vm_17, vm_18, vm_19, vm_20, vm_21, vm_22, vm_23])), (hs, .inl (cI, 45, .inl f)), (ln, .inl (cI, 8, .inl lf))]) [0, 1, 2] rfl
    have hD9 := hD.sub (ws' := [(md, .inr (6, [.int 0, vm_1, .ref ln, vm_3, vm_4, .ref hs, vm_6, vm_7, vm_8, .int (nI ac), vm_10, .int (nI tl), vm_12, vm_13, vm_14, vm_15, vm_16, vm_17, vm_18, vm_19, vm_20, vm_21, vm_22, vm_23])), (hs, .inl (cI, 45, .inl f)), (ln, .inl (cI, 8, .inl lf))]) [0, 1, 2] (by decide) rfl
    exact wt_iret hx hb hr hlocks hP9 hD9 hS rfl dX6_count_102
  rcases wt_dec (a1) 3 with c_11 | c_11
  · subst c_11
    refine lv_tableIn (off := 95) (tgt := 103) hx hb dX6_count_8 (by decide) (by decide) rfl (by decide) ?_
    refine lv_aload_n hx hb dX6_count_103 rfl (lv_at hl 1 rfl) ?_
    refine va_get (D := D) (ci := 6) (v := .ref hs) (C := RX6) (T := TX6) (N := 24) hx hb hts hi6 hown hK.1 hP 0 rfl rfl 5 (by decide) wf19 (fun _ h9 => h9) rfl dX6_count_104 ?_
    refine lv_iconst (v := 4) hx hb dX6_count_107 (by decide) ?_
    refine va_iald hx hb hK.1 hP 1 0 rfl rfl (by rw [vp_in_iff]; decide) dX6_count_108 ?_
    refine lv_topi (fun ov_12 _ => ?_)
    have hP9 := hP.sub (ws' := [(md, .inr (6, [.int 0, vm_1, .ref ln, vm_3, vm_4, .ref hs, vm_6, vm_7, vm_8, .int (nI ac), vm_10, .int (nI tl), vm_12, vm_13, vm_14, vm_15, vm_16, vm_17, vm_18, vm_19, vm_20, vm_21, vm_22, vm_23])), (hs, .inl (cI, 45, .inl f)), (ln, .inl (cI, 8, .inl lf))]) [0, 1, 2] rfl
    have hD9 := hD.sub (ws' := [(md, .inr (6, [.int 0, vm_1, .ref ln, vm_3, vm_4, .ref hs, vm_6, vm_7, vm_8, .int (nI ac), vm_10, .int (nI tl), vm_12, vm_13, vm_14, vm_15, vm_16, vm_17, vm_18, vm_19, vm_20, vm_21, vm_22, vm_23])), (hs, .inl (cI, 45, .inl f)), (ln, .inl (cI, 8, .inl lf))]) [0, 1, 2] (by decide) rfl
    exact wt_iret hx hb hr hlocks hP9 hD9 hS rfl dX6_count_109
  rcases wt_dec (a1) 4 with c_13 | c_13
  · subst c_13
    refine lv_tableIn (off := 102) (tgt := 110) hx hb dX6_count_8 (by decide) (by decide) rfl (by decide) ?_
    refine lv_aload_n hx hb dX6_count_110 rfl (lv_at hl 1 rfl) ?_
    refine va_get (D := D) (ci := 6) (v := .ref hs) (C := RX6) (T := TX6) (N := 24) hx hb hts hi6 hown hK.1 hP 0 rfl rfl 5 (by decide) wf19 (fun _ h9 => h9) rfl dX6_count_111 ?_
    refine wt_rS (As := [.ref hs]) (rest := []) ⟨hx, hb, hml, hown, hts⟩ (c_X6_colds l D cI cZ cH hs R T f (by first | assumption | omega) (by first | assumption | omega) (by first | assumption | omega)) (va_cwS 1 hts gX6_count_X6_colds rfl rfl rfl (by decide +kernel) ⟨Nat.le_of_ble_eq_true rfl, Nat.le_of_ble_eq_true rfl⟩) hK hP [1] rfl rfl hl.1 rfl (Nat.le_of_ble_eq_true rfl) dX6_count_114 ⟨Nat.le_of_ble_eq_true rfl, Nat.le_of_ble_eq_true rfl⟩ (fun r_14 e_15 => ?_)
    have hP9 := hP.sub (ws' := [(md, .inr (6, [.int 0, vm_1, .ref ln, vm_3, vm_4, .ref hs, vm_6, vm_7, vm_8, .int (nI ac), vm_10, .int (nI tl), vm_12, vm_13, vm_14, vm_15, vm_16, vm_17, vm_18, vm_19, vm_20, vm_21, vm_22, vm_23])), (hs, .inl (cI, 45, .inl f)), (ln, .inl (cI, 8, .inl lf))]) [0, 1, 2] rfl
    have hD9 := hD.sub (ws' := [(md, .inr (6, [.int 0, vm_1, .ref ln, vm_3, vm_4, .ref hs, vm_6, vm_7, vm_8, .int (nI ac), vm_10, .int (nI tl), vm_12, vm_13, vm_14, vm_15, vm_16, vm_17, vm_18, vm_19, vm_20, vm_21, vm_22, vm_23])), (hs, .inl (cI, 45, .inl f)), (ln, .inl (cI, 8, .inl lf))]) [0, 1, 2] (by decide) rfl
    exact wt_iret hx hb hr hlocks hP9 hD9 hS rfl dX6_count_117
  rcases wt_dec (a1) 5 with c_16 | c_16
  · subst c_16
    refine lv_tableIn (off := 110) (tgt := 118) hx hb dX6_count_8 (by decide) (by decide) rfl (by decide) ?_
    refine lv_aload_n hx hb dX6_count_118 rfl (lv_at hl 1 rfl) ?_
    refine va_get (D := D) (ci := 6) (v := .ref hs) (C := RX6) (T := TX6) (N := 24) hx hb hts hi6 hown hK.1 hP 0 rfl rfl 5 (by decide) wf19 (fun _ h9 => h9) rfl dX6_count_119 ?_
    refine wt_rS (As := [.ref hs]) (rest := []) ⟨hx, hb, hml, hown, hts⟩ (c_X6_upOf l D cI cZ cH hs R T f (by first | assumption | omega) (by first | assumption | omega) (by first | assumption | omega)) (va_cwS 1 hts gX6_count_X6_upOf rfl rfl rfl (by decide +kernel) ⟨Nat.le_of_ble_eq_true rfl, Nat.le_of_ble_eq_true rfl⟩) hK hP [1] rfl rfl hl.1 rfl (Nat.le_of_ble_eq_true rfl) dX6_count_122 ⟨Nat.le_of_ble_eq_true rfl, Nat.le_of_ble_eq_true rfl⟩ (fun r_17 e_18 => ?_)
    have hP9 := hP.sub (ws' := [(md, .inr (6, [.int 0, vm_1, .ref ln, vm_3, vm_4, .ref hs, vm_6, vm_7, vm_8, .int (nI ac), vm_10, .int (nI tl), vm_12, vm_13, vm_14, vm_15, vm_16, vm_17, vm_18, vm_19, vm_20, vm_21, vm_22, vm_23])), (hs, .inl (cI, 45, .inl f)), (ln, .inl (cI, 8, .inl lf))]) [0, 1, 2] rfl
    have hD9 := hD.sub (ws' := [(md, .inr (6, [.int 0, vm_1, .ref ln, vm_3, vm_4, .ref hs, vm_6, vm_7, vm_8, .int (nI ac), vm_10, .int (nI tl), vm_12, vm_13, vm_14, vm_15, vm_16, vm_17, vm_18, vm_19, vm_20, vm_21, vm_22, vm_23])), (hs, .inl (cI, 45, .inl f)), (ln, .inl (cI, 8, .inl lf))]) [0, 1, 2] (by decide) rfl
    exact wt_iret hx hb hr hlocks hP9 hD9 hS rfl dX6_count_125
  rcases wt_dec (a1) 6 with c_19 | c_19
  · subst c_19
    refine lv_tableIn (off := 118) (tgt := 126) hx hb dX6_count_8 (by decide) (by decide) rfl (by decide) ?_
    refine lv_aload_n hx hb dX6_count_126 rfl (lv_at hl 1 rfl) ?_
    refine va_get (D := D) (ci := 6) (v := .int (nI ac)) (C := RX6) (T := TX6) (N := 24) hx hb hts hi6 hown hK.1 hP 0 rfl rfl 9 (by decide) wf149 (fun _ h9 => h9) rfl dX6_count_127 ?_
    have hP9 := hP.sub (ws' := [(md, .inr (6, [.int 0, vm_1, .ref ln, vm_3, vm_4, .ref hs, vm_6, vm_7, vm_8, .int (nI ac), vm_10, .int (nI tl), vm_12, vm_13, vm_14, vm_15, vm_16, vm_17, vm_18, vm_19, vm_20, vm_21, vm_22, vm_23])), (hs, .inl (cI, 45, .inl f)), (ln, .inl (cI, 8, .inl lf))]) [0, 1, 2] rfl
    have hD9 := hD.sub (ws' := [(md, .inr (6, [.int 0, vm_1, .ref ln, vm_3, vm_4, .ref hs, vm_6, vm_7, vm_8, .int (nI ac), vm_10, .int (nI tl), vm_12, vm_13, vm_14, vm_15, vm_16, vm_17, vm_18, vm_19, vm_20, vm_21, vm_22, vm_23])), (hs, .inl (cI, 45, .inl f)), (ln, .inl (cI, 8, .inl lf))]) [0, 1, 2] (by decide) rfl
    exact wt_iret hx hb hr hlocks hP9 hD9 hS rfl dX6_count_130
  rcases wt_dec (a1) 7 with c_20 | c_20
  · subst c_20
    refine lv_tableIn (off := 123) (tgt := 131) hx hb dX6_count_8 (by decide) (by decide) rfl (by decide) ?_
    refine lv_aload_n hx hb dX6_count_131 rfl (lv_at hl 1 rfl) ?_
    refine va_get (D := D) (ci := 6) (v := .int (nI tl)) (C := RX6) (T := TX6) (N := 24) hx hb hts hi6 hown hK.1 hP 0 rfl rfl 11 (by decide) wf74 (fun _ h9 => h9) rfl dX6_count_132 ?_
    have hP9 := hP.sub (ws' := [(md, .inr (6, [.int 0, vm_1, .ref ln, vm_3, vm_4, .ref hs, vm_6, vm_7, vm_8, .int (nI ac), vm_10, .int (nI tl), vm_12, vm_13, vm_14, vm_15, vm_16, vm_17, vm_18, vm_19, vm_20, vm_21, vm_22, vm_23])), (hs, .inl (cI, 45, .inl f)), (ln, .inl (cI, 8, .inl lf))]) [0, 1, 2] rfl
    have hD9 := hD.sub (ws' := [(md, .inr (6, [.int 0, vm_1, .ref ln, vm_3, vm_4, .ref hs, vm_6, vm_7, vm_8, .int (nI ac), vm_10, .int (nI tl), vm_12, vm_13, vm_14, vm_15, vm_16, vm_17, vm_18, vm_19, vm_20, vm_21, vm_22, vm_23])), (hs, .inl (cI, 45, .inl f)), (ln, .inl (cI, 8, .inl lf))]) [0, 1, 2] (by decide) rfl
    exact wt_iret hx hb hr hlocks hP9 hD9 hS rfl dX6_count_135
  refine lv_tableOut (tgt := 136) hx hb dX6_count_8 (by have := lv_neT (a := 0) c_2 rfl; have := lv_neT (a := 1) c_9 rfl; have := lv_neT (a := 2) c_10 rfl; have := lv_neT (a := 3) c_11 rfl; have := lv_neT (a := 4) c_13 rfl; have := lv_neT (a := 5) c_16 rfl; have := lv_neT (a := 6) c_19 rfl; have := lv_neT (a := 7) c_20 rfl; omega) (by decide) ?_
  refine lv_ldc hx hb hown wc67 dX6_count_136 ?_
  have hP9 := hP.sub (ws' := [(md, .inr (6, [.int 0, vm_1, .ref ln, vm_3, vm_4, .ref hs, vm_6, vm_7, vm_8, .int (nI ac), vm_10, .int (nI tl), vm_12, vm_13, vm_14, vm_15, vm_16, vm_17, vm_18, vm_19, vm_20, vm_21, vm_22, vm_23])), (hs, .inl (cI, 45, .inl f)), (ln, .inl (cI, 8, .inl lf))]) [0, 1, 2] rfl
  have hD9 := hD.sub (ws' := [(md, .inr (6, [.int 0, vm_1, .ref ln, vm_3, vm_4, .ref hs, vm_6, vm_7, vm_8, .int (nI ac), vm_10, .int (nI tl), vm_12, vm_13, vm_14, vm_15, vm_16, vm_17, vm_18, vm_19, vm_20, vm_21, vm_22, vm_23])), (hs, .inl (cI, 45, .inl f)), (ln, .inl (cI, 8, .inl lf))]) [0, 1, 2] (by decide) rfl
  exact wt_iret hx hb hr hlocks hP9 hD9 hS rfl dX6_count_138
set_option maxHeartbeats 4000000 in
set_option maxRecDepth 100000 in
theorem c_X6_status (l : Launch) (D : va_G) (cI cZ cH : ClassId) (md : Nat) (sv : Int32) (vm_0 vm_2 vm_3 vm_4 vm_5 vm_6 vm_7 vm_8 vm_9 vm_10 vm_11 vm_12 vm_13 vm_14 vm_15 vm_16 vm_17 vm_18 vm_19 vm_20 vm_21 vm_22 vm_23 : Value) : wt_M l yX6_status wsX6_status ({ frames := 0, cells := 0, slots := 0, locals := 0 } : Room) D (wt_T cI cZ cH) [.ref md] [(md, .inr (6, [vm_0, .int sv, vm_2, vm_3, vm_4, vm_5, vm_6, vm_7, vm_8, vm_9, vm_10, vm_11, vm_12, vm_13, vm_14, vm_15, vm_16, vm_17, vm_18, vm_19, vm_20, vm_21, vm_22, vm_23]))] (wt_QI D (fun r w => w = [(md, .inr (6, [.int 0, .int sv, vm_2, vm_3, vm_4, vm_5, vm_6, vm_7, vm_8, vm_9, vm_10, vm_11, vm_12, vm_13, vm_14, vm_15, vm_16, vm_17, vm_18, vm_19, vm_20, vm_21, vm_22, vm_23]))] ∧ r = sv)) := by
  refine wt_M.ofW (cc := cX6_status) (maxL := 1) (ret := (some .int)) (by decide) rfl (Nat.le_of_ble_eq_true rfl) ?_
  intro p e s m below meth c A ls hx hb hr hts hown hlocks hml hnm hP hK hD hA hS hl
  have hP : va_P D vwCl [(md, .inr (6, [vm_0, .int sv, vm_2, vm_3, vm_4, vm_5, vm_6, vm_7, vm_8, vm_9, vm_10, vm_11, vm_12, vm_13, vm_14, vm_15, vm_16, vm_17, vm_18, vm_19, vm_20, vm_21, vm_22, vm_23]))] s.heap := hP
  have hown : s.vm.findClass RX6 = some m.cls := hown
  have hl : lv_has ls 1 [(0, .ref md)] := hl
  have hi6 : ∀ w ∈ u_ws RX6 TX6 24, w ∈ wsX6_status := by decide +kernel
  have wf47 := hts (.fieldLink RX6 47 "WarmTubesModel" "thrown" "I") (by decide +kernel)
  have wf51 := hts (.fieldLink RX6 51 "WarmTubesModel" "status" "I") (by decide +kernel)
  refine lv_aload_n hx hb dX6_status_0 rfl (lv_at hl 0 rfl) ?_
  refine lv_iconst (v := 0) hx hb dX6_status_1 (by decide) ?_
  refine va_put (D := D) (ci := 6) (v := .int 0) (ty := .int) (C := RX6) (T := TX6) (N := 24) hx hb hts hi6 tyX6 tyX6_ok nmX6 hown hK.1 hP hD hS 0 rfl rfl 0 (by decide) wf47 (fun _ h9 => h9) rfl (by decide +kernel) rfl rfl (Nat.le_of_ble_eq_true rfl) dX6_status_2 (fun H locs hP hD hS => ?_)
  have hP : va_P D vwCl [(md, .inr (6, [.int 0, .int sv, vm_2, vm_3, vm_4, vm_5, vm_6, vm_7, vm_8, vm_9, vm_10, vm_11, vm_12, vm_13, vm_14, vm_15, vm_16, vm_17, vm_18, vm_19, vm_20, vm_21, vm_22, vm_23]))] H := hP
  have hD : va_D A [(md, .inr (6, [.int 0, .int sv, vm_2, vm_3, vm_4, vm_5, vm_6, vm_7, vm_8, vm_9, vm_10, vm_11, vm_12, vm_13, vm_14, vm_15, vm_16, vm_17, vm_18, vm_19, vm_20, vm_21, vm_22, vm_23]))] := hD
  refine lv_aload_n hx hb dX6_status_5 rfl (lv_at hl 0 rfl) ?_
  refine va_get (D := D) (ci := 6) (v := .int sv) (C := RX6) (T := TX6) (N := 24) hx hb hts hi6 hown hK.1 hP 0 rfl rfl 1 (by decide) wf51 (fun _ h9 => h9) rfl dX6_status_6 ?_
  have hP9 := hP.sub (ws' := [(md, .inr (6, [.int 0, .int sv, vm_2, vm_3, vm_4, vm_5, vm_6, vm_7, vm_8, vm_9, vm_10, vm_11, vm_12, vm_13, vm_14, vm_15, vm_16, vm_17, vm_18, vm_19, vm_20, vm_21, vm_22, vm_23]))]) [0] rfl
  have hD9 := hD.sub (ws' := [(md, .inr (6, [.int 0, .int sv, vm_2, vm_3, vm_4, vm_5, vm_6, vm_7, vm_8, vm_9, vm_10, vm_11, vm_12, vm_13, vm_14, vm_15, vm_16, vm_17, vm_18, vm_19, vm_20, vm_21, vm_22, vm_23]))]) [0] (by decide) rfl
  exact wt_iret hx hb hr hlocks hP9 hD9 hS ⟨rfl, (by rfl)⟩ dX6_status_9
set_option maxHeartbeats 4000000 in
set_option maxRecDepth 100000 in
theorem c_X6_fault (l : Launch) (D : va_G) (cI cZ cH : ClassId) (md : Nat) (sv : Int32) (vm_0 vm_1 vm_2 vm_3 vm_4 vm_5 vm_6 vm_7 vm_8 vm_9 vm_10 vm_11 vm_12 vm_13 vm_14 vm_15 vm_16 vm_17 vm_19 vm_20 vm_21 vm_22 vm_23 : Value) : wt_M l yX6_fault wsX6_fault ({ frames := 0, cells := 0, slots := 0, locals := 0 } : Room) D (wt_T cI cZ cH) [.ref md] [(md, .inr (6, [vm_0, vm_1, vm_2, vm_3, vm_4, vm_5, vm_6, vm_7, vm_8, vm_9, vm_10, vm_11, vm_12, vm_13, vm_14, vm_15, vm_16, vm_17, .int sv, vm_19, vm_20, vm_21, vm_22, vm_23]))] (wt_QI D (fun r w => w = [(md, .inr (6, [.int 0, vm_1, vm_2, vm_3, vm_4, vm_5, vm_6, vm_7, vm_8, vm_9, vm_10, vm_11, vm_12, vm_13, vm_14, vm_15, vm_16, vm_17, .int sv, vm_19, vm_20, vm_21, vm_22, vm_23]))] ∧ r = sv)) := by
  refine wt_M.ofW (cc := cX6_fault) (maxL := 1) (ret := (some .int)) (by decide) rfl (Nat.le_of_ble_eq_true rfl) ?_
  intro p e s m below meth c A ls hx hb hr hts hown hlocks hml hnm hP hK hD hA hS hl
  have hP : va_P D vwCl [(md, .inr (6, [vm_0, vm_1, vm_2, vm_3, vm_4, vm_5, vm_6, vm_7, vm_8, vm_9, vm_10, vm_11, vm_12, vm_13, vm_14, vm_15, vm_16, vm_17, .int sv, vm_19, vm_20, vm_21, vm_22, vm_23]))] s.heap := hP
  have hown : s.vm.findClass RX6 = some m.cls := hown
  have hl : lv_has ls 1 [(0, .ref md)] := hl
  have hi6 : ∀ w ∈ u_ws RX6 TX6 24, w ∈ wsX6_fault := by decide +kernel
  have wf116 := hts (.fieldLink RX6 116 "WarmTubesModel" "latest" "I") (by decide +kernel)
  have wf47 := hts (.fieldLink RX6 47 "WarmTubesModel" "thrown" "I") (by decide +kernel)
  refine lv_aload_n hx hb dX6_fault_0 rfl (lv_at hl 0 rfl) ?_
  refine lv_iconst (v := 0) hx hb dX6_fault_1 (by decide) ?_
  refine va_put (D := D) (ci := 6) (v := .int 0) (ty := .int) (C := RX6) (T := TX6) (N := 24) hx hb hts hi6 tyX6 tyX6_ok nmX6 hown hK.1 hP hD hS 0 rfl rfl 0 (by decide) wf47 (fun _ h9 => h9) rfl (by decide +kernel) rfl rfl (Nat.le_of_ble_eq_true rfl) dX6_fault_2 (fun H locs hP hD hS => ?_)
  have hP : va_P D vwCl [(md, .inr (6, [.int 0, vm_1, vm_2, vm_3, vm_4, vm_5, vm_6, vm_7, vm_8, vm_9, vm_10, vm_11, vm_12, vm_13, vm_14, vm_15, vm_16, vm_17, .int sv, vm_19, vm_20, vm_21, vm_22, vm_23]))] H := hP
  have hD : va_D A [(md, .inr (6, [.int 0, vm_1, vm_2, vm_3, vm_4, vm_5, vm_6, vm_7, vm_8, vm_9, vm_10, vm_11, vm_12, vm_13, vm_14, vm_15, vm_16, vm_17, .int sv, vm_19, vm_20, vm_21, vm_22, vm_23]))] := hD
  refine lv_aload_n hx hb dX6_fault_5 rfl (lv_at hl 0 rfl) ?_
  refine va_get (D := D) (ci := 6) (v := .int sv) (C := RX6) (T := TX6) (N := 24) hx hb hts hi6 hown hK.1 hP 0 rfl rfl 18 (by decide) wf116 (fun _ h9 => h9) rfl dX6_fault_6 ?_
  have hP9 := hP.sub (ws' := [(md, .inr (6, [.int 0, vm_1, vm_2, vm_3, vm_4, vm_5, vm_6, vm_7, vm_8, vm_9, vm_10, vm_11, vm_12, vm_13, vm_14, vm_15, vm_16, vm_17, .int sv, vm_19, vm_20, vm_21, vm_22, vm_23]))]) [0] rfl
  have hD9 := hD.sub (ws' := [(md, .inr (6, [.int 0, vm_1, vm_2, vm_3, vm_4, vm_5, vm_6, vm_7, vm_8, vm_9, vm_10, vm_11, vm_12, vm_13, vm_14, vm_15, vm_16, vm_17, .int sv, vm_19, vm_20, vm_21, vm_22, vm_23]))]) [0] (by decide) rfl
  exact wt_iret hx hb hr hlocks hP9 hD9 hS ⟨rfl, (by rfl)⟩ dX6_fault_9

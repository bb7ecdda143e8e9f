set_option maxHeartbeats 4000000 in
set_option maxRecDepth 100000 in
theorem c_X5_canPour_0 (l : Launch) (D : va_G) (cI cZ cH : ClassId) (ho aP aH aU : Nat) (R T j d n : Nat) (fP fH fU : Nat → Int32) (sp : Nat) (qf : Nat → Int32) (w : Int32) (vz_0 vz_1 vz_4 vz_5 vz_6 vz_7 vz_9 : Value) (hR5 : R ≤ 5) (hT6 : T ≤ 6) (hwP : hw R T fP) (hjT : j < T) (hnd : n = d + 0) (hn3 : n ≤ 3) : wt_M l yX5_canPour wsX5_canPour ({ frames := 0, cells := 0, slots := 0, locals := 0 } : Room) D (wt_T cI cZ cH) [.ref ho, .ref sp, .int (nI j), .int w, .int (nI d), .int (nI n)] [(ho, .inr (0, [vz_0, vz_1, .int (nI R), .int (nI T), vz_4, vz_5, vz_6, vz_7, .ref aP, vz_9, .ref aH, .ref aU])), (aP, .inl (cI, 6, .inl fP)), (aH, .inl (cI, 6, .inl fH)), (aU, .inl (cI, 6, .inl fU)), (sp, .inl (cI, 3, .inl qf))] (wt_QI D (fun r w => ∃ (fU2 qf2 : Nat → Int32), w = [(ho, .inr (0, [vz_0, vz_1, .int (nI R), .int (nI T), vz_4, vz_5, vz_6, vz_7, .ref aP, vz_9, .ref aH, .ref aU])), (aP, .inl (cI, 6, .inl fP)), (aH, .inl (cI, 6, .inl fH)), (aU, .inl (cI, 6, .inl fU2)), (sp, .inl (cI, 3, .inl qf2))])) := by
  refine wt_M.ofW (cc := cX5_canPour) (maxL := 12) (ret := (some .boolean)) (by decide) rfl (Nat.le_of_ble_eq_true rfl) ?_
  intro p e s m below meth c A ls hx hb hr hts hown hlocks hml hnm hP hK hD hA hS hl
  have hP : va_P D vwCl [(ho, .inr (0, [vz_0, vz_1, .int (nI R), .int (nI T), vz_4, vz_5, vz_6, vz_7, .ref aP, vz_9, .ref aH, .ref aU])), (aP, .inl (cI, 6, .inl fP)), (aH, .inl (cI, 6, .inl fH)), (aU, .inl (cI, 6, .inl fU)), (sp, .inl (cI, 3, .inl qf))] s.heap := hP
  have hown : s.vm.findClass RX5 = some m.cls := hown
  have hl : lv_has ls 12 [(0, .ref ho), (1, .ref sp), (2, .int (nI j)), (3, .int w), (4, .int (nI d)), (5, .int (nI n))] := hl
  have hi0 : ∀ w ∈ u_ws RX0 TX0 12, w ∈ wsX5_canPour := by decide +kernel
  have wf175 := hts (.fieldLink RX5 175 "WarmTubes$House" "up" "[I") (by decide +kernel)
  refine lv_iload hx hb dX5_canPour_0 (lv_at hl 4 rfl) ?_
  refine lv_iload hx hb dX5_canPour_2 (lv_at hl 5 rfl) ?_
  refine lv_icmp_ge (tgt := 14) hx hb dX5_canPour_4 (by decide) (fun _ => ?_) (fun h => absurd (nI_le (a := n) (b := d) (by omega) (by omega)) h)
  refine lv_aload_n hx hb dX5_canPour_14 rfl (lv_at hl 0 rfl) ?_
  refine va_get (D := D) (ci := 0) (v := .ref aU) (C := RX0) (T := TX0) (N := 12) hx hb hts hi0 hown hK.1 hP 0 rfl rfl 11 (by decide) wf175 (fun _ h9 => h9) rfl dX5_canPour_15 ?_
  refine lv_iload_n hx hb dX5_canPour_18 rfl (lv_at hl 2 rfl) ?_
  refine va_iald hx hb hK.1 hP 3 0 rfl rfl (vp_in_nI (by omega) (by omega)) dX5_canPour_19 ?_
  refine lv_topi (fun ov_1 _ => ?_)
  refine lv_iload_n hx hb dX5_canPour_20 rfl (lv_at hl 3 rfl) ?_
  refine lv_icmp_ne (tgt := 28) hx hb dX5_canPour_21 (by decide) (fun c_2 => ?_) (fun c_2 => ?_)
  · skip
    refine lv_iconst (v := 0) hx hb dX5_canPour_28 (by decide) ?_
    have hP9 := hP.sub (ws' := [(ho, .inr (0, [vz_0, vz_1, .int (nI R), .int (nI T), vz_4, vz_5, vz_6, vz_7, .ref aP, vz_9, .ref aH, .ref aU])), (aP, .inl (cI, 6, .inl fP)), (aH, .inl (cI, 6, .inl fH)), (aU, .inl (cI, 6, .inl fU)), (sp, .inl (cI, 3, .inl qf))]) [0, 1, 2, 3, 4] rfl
    have hD9 := hD.sub (ws' := [(ho, .inr (0, [vz_0, vz_1, .int (nI R), .int (nI T), vz_4, vz_5, vz_6, vz_7, .ref aP, vz_9, .ref aH, .ref aU])), (aP, .inl (cI, 6, .inl fP)), (aH, .inl (cI, 6, .inl fH)), (aU, .inl (cI, 6, .inl fU)), (sp, .inl (cI, 3, .inl qf))]) [0, 1, 2, 3, 4] (by decide) rfl
    exact wt_zret hx hb hr hlocks (by decide) hP9 hD9 hS ⟨fU, qf, rfl⟩ dX5_canPour_29
  · skip
    refine lv_iconst (v := 1) hx hb dX5_canPour_24 (by decide) ?_
    refine lv_goto (tgt := 29) hx hb dX5_canPour_25 (by decide) ?_
    have hP9 := hP.sub (ws' := [(ho, .inr (0, [vz_0, vz_1, .int (nI R), .int (nI T), vz_4, vz_5, vz_6, vz_7, .ref aP, vz_9, .ref aH, .ref aU])), (aP, .inl (cI, 6, .inl fP)), (aH, .inl (cI, 6, .inl fH)), (aU, .inl (cI, 6, .inl fU)), (sp, .inl (cI, 3, .inl qf))]) [0, 1, 2, 3, 4] rfl
    have hD9 := hD.sub (ws' := [(ho, .inr (0, [vz_0, vz_1, .int (nI R), .int (nI T), vz_4, vz_5, vz_6, vz_7, .ref aP, vz_9, .ref aH, .ref aU])), (aP, .inl (cI, 6, .inl fP)), (aH, .inl (cI, 6, .inl fH)), (aU, .inl (cI, 6, .inl fU)), (sp, .inl (cI, 3, .inl qf))]) [0, 1, 2, 3, 4] (by decide) rfl
    exact wt_zret hx hb hr hlocks (by decide) hP9 hD9 hS ⟨fU, qf, rfl⟩ dX5_canPour_29
set_option maxHeartbeats 4000000 in
set_option maxRecDepth 100000 in
theorem c_X5_canPour_1 (l : Launch) (D : va_G) (cI cZ cH : ClassId) (ho aP aH aU : Nat) (R T j d n : Nat) (fP fH fU : Nat → Int32) (sp : Nat) (qf : Nat → Int32) (w : Int32) (vz_0 vz_1 vz_4 vz_5 vz_6 vz_7 vz_9 : Value) (hR5 : R ≤ 5) (hT6 : T ≤ 6) (hwP : hw R T fP) (hjT : j < T) (hnd : n = d + 1) (hn3 : n ≤ 3) : wt_M l yX5_canPour wsX5_canPour ({ frames := 2, cells := 0, slots := 0, locals := 62 } : Room) D (wt_T cI cZ cH) [.ref ho, .ref sp, .int (nI j), .int w, .int (nI d), .int (nI n)] [(ho, .inr (0, [vz_0, vz_1, .int (nI R), .int (nI T), vz_4, vz_5, vz_6, vz_7, .ref aP, vz_9, .ref aH, .ref aU])), (aP, .inl (cI, 6, .inl fP)), (aH, .inl (cI, 6, .inl fH)), (aU, .inl (cI, 6, .inl fU)), (sp, .inl (cI, 3, .inl qf))] (wt_QI D (fun r w => ∃ (fU2 qf2 : Nat → Int32), w = [(ho, .inr (0, [vz_0, vz_1, .int (nI R), .int (nI T), vz_4, vz_5, vz_6, vz_7, .ref aP, vz_9, .ref aH, .ref aU])), (aP, .inl (cI, 6, .inl fP)), (aH, .inl (cI, 6, .inl fH)), (aU, .inl (cI, 6, .inl fU2)), (sp, .inl (cI, 3, .inl qf2))])) := by
  refine wt_M.ofW (cc := cX5_canPour) (maxL := 12) (ret := (some .boolean)) (by decide) rfl (Nat.le_of_ble_eq_true rfl) ?_
  intro p e s m below meth c A ls hx hb hr hts hown hlocks hml hnm hP hK hD hA hS hl
  have hP : va_P D vwCl [(ho, .inr (0, [vz_0, vz_1, .int (nI R), .int (nI T), vz_4, vz_5, vz_6, vz_7, .ref aP, vz_9, .ref aH, .ref aU])), (aP, .inl (cI, 6, .inl fP)), (aH, .inl (cI, 6, .inl fH)), (aU, .inl (cI, 6, .inl fU)), (sp, .inl (cI, 3, .inl qf))] s.heap := hP
  have hown : s.vm.findClass RX5 = some m.cls := hown
  have hl : lv_has ls 12 [(0, .ref ho), (1, .ref sp), (2, .int (nI j)), (3, .int w), (4, .int (nI d)), (5, .int (nI n))] := hl
  have hi0 : ∀ w ∈ u_ws RX0 TX0 12, w ∈ wsX5_canPour := by decide +kernel
  have wf140 := hts (.fieldLink RX5 140 "WarmTubes$House" "tubes" "I") (by decide +kernel)
  have wf172 := hts (.fieldLink RX5 172 "WarmTubes$House" "where" "[I") (by decide +kernel)
  refine lv_iload hx hb dX5_canPour_0 (lv_at hl 4 rfl) ?_
  refine lv_iload hx hb dX5_canPour_2 (lv_at hl 5 rfl) ?_
  refine lv_icmp_ge (tgt := 14) hx hb dX5_canPour_4 (by decide) (fun h => absurd h (nI_ge (a := d) (b := n) (by omega) (by omega))) (fun _ => ?_)
  refine lv_iload hx hb dX5_canPour_7 (lv_at hl 4 rfl) ?_
  refine lv_aload_n hx hb dX5_canPour_9 rfl (lv_at hl 1 rfl) ?_
  refine va_alen (v := 3) hx hb hK.1 hP 4 0 rfl rfl rfl dX5_canPour_10 ?_
  refine lv_icmp_lt (tgt := 30) hx hb dX5_canPour_11 (by decide) (fun _ => ?_) (fun h => absurd (nI_lt (a := d) (b := 3) (by omega) (by omega)) h)
  refine lv_iload hx hb dX5_canPour_30 (lv_at hl 4 rfl) ?_
  refine lv_iload hx hb dX5_canPour_32 (lv_at hl 5 rfl) ?_
  refine lv_iconst (v := 1) hx hb dX5_canPour_34 (by decide) ?_
  refine lv_isub hx hb dX5_canPour_35 ?_
  refine wt_top (z := nI (n - 1)) (pk_sub (a := n) (b := 1) (by omega)) ?_
  refine lv_icmp_ne (tgt := 43) hx hb dX5_canPour_36 (by decide) (fun c_1 => ?_) (fun c_1 => ?_)
  · skip
    have c_1 : ¬ (d = (n - 1)) := fun h => c_1 ((nI_eq (a := d) (b := (n - 1)) (by omega) (by omega)).mpr h)
    refine lv_iconst (v := 0) hx hb dX5_canPour_43 (by decide) ?_
    refine lv_istore (lv' := [(6, .int 0), (0, .ref ho), (1, .ref sp), (2, .int (nI j)), (3, .int w), (4, .int (nI d)), (5, .int (nI n))]) hx hb dX5_canPour_44 hl (by decide) rfl (fun ls hl => ?_)
    refine lv_aload_n hx hb dX5_canPour_46 rfl (lv_at hl 1 rfl) ?_
    refine lv_aload_n hx hb dX5_canPour_47 rfl (lv_at hl 1 rfl) ?_
    refine va_get (D := D) (ci := 0) (v := .ref aP) (C := RX0) (T := TX0) (N := 12) hx hb hts hi0 hown hK.1 hP 0 rfl rfl 8 (by decide) wf172 (fun _ h9 => h9) rfl dX5_canPour_48 ?_
    refine lv_iload_n hx hb dX5_canPour_51 rfl (lv_at hl 3 rfl) ?_
    refine va_iald hx hb hK.1 hP 1 0 rfl rfl (vp_in_nI (by omega) (by omega)) dX5_canPour_52 ?_
    obtain ⟨q_2, hq_2, eq_2⟩ := hwP j (by omega)
    refine wt_top (z := nI q_2) (by rw [nI_clamp (by omega)]; exact eq_2) ?_
    refine wt_rV (As := [.int (nI q_2)]) (rest := []) ⟨hx, hb, hml, hown, hts⟩ (c_X0_tubesAt l D cI cZ cH ho aP T fP (nI q_2) vz_0 vz_1 (.int (nI R)) vz_4 vz_5 vz_6 vz_7 vz_9 (.ref aH) (.ref aU) (by first | assumption | omega)) (cwV 1 hts gX5_canPour_X0_tubesAt rfl rfl rfl (by decide +kernel) ⟨Nat.le_of_ble_eq_true rfl, Nat.le_of_ble_eq_true rfl⟩) hK hP [0, 1] rfl (va_recv hK.1 hP (ci := 0) (q0 := 0) rfl rfl) rfl hl.1 rfl (Nat.le_of_ble_eq_true rfl) dX5_canPour_53 ⟨Nat.le_of_ble_eq_true rfl, Nat.le_of_ble_eq_true rfl⟩ (fun r_3 e_4 => ?_)
    obtain ⟨b_5, e_4, rfl⟩ := e_4
    refine lv_istore (lv' := [(7, .int (nI b_5)), (6, .int 0), (0, .ref ho), (1, .ref sp), (2, .int (nI j)), (3, .int w), (4, .int (nI d)), (5, .int (nI n))]) hx hb dX5_canPour_56 hl (by decide) rfl (fun ls hl => ?_)
    refine lv_iconst (v := 0) hx hb dX5_canPour_58 (by decide) ?_
    refine lv_istore (lv' := [(8, .int 0), (7, .int (nI b_5)), (6, .int 0), (0, .ref ho), (1, .ref sp), (2, .int (nI j)), (3, .int w), (4, .int (nI d)), (5, .int (nI n))]) hx hb dX5_canPour_59 hl (by decide) rfl (fun ls hl => ?_)
    have loop61 : ∀ (k i_6 : Nat) (fU_7 : Nat → Int32) (qf_8 : Nat → Int32) (H : Heap) (locs : List Loc) (ls : Array Slot), i_6 + k = T → va_P D vwCl [(ho, .inr (0, [vz_0, vz_1, .int (nI R), .int (nI T), vz_4, vz_5, vz_6, vz_7, .ref aP, vz_9, .ref aH, .ref aU])), (aP, .inl (cI, 6, .inl fP)), (aH, .inl (cI, 6, .inl fH)), (aU, .inl (cI, 6, .inl fU_7)), (sp, .inl (cI, 3, .inl qf_8))] H → va_D A [(ho, .inr (0, [vz_0, vz_1, .int (nI R), .int (nI T), vz_4, vz_5, vz_6, vz_7, .ref aP, vz_9, .ref aH, .ref aU])), (aP, .inl (cI, 6, .inl fP)), (aH, .inl (cI, 6, .inl fH)), (aU, .inl (cI, 6, .inl fU_7)), (sp, .inl (cI, 3, .inl qf_8))] → va_S A s.heap H locs → lv_has ls 12 [(8, .int (nI i_6)), (7, .int (nI b_5)), (6, .int 0), (0, .ref ho), (1, .ref sp), (2, .int (nI j)), (3, .int w), (4, .int (nI d)), (5, .int (nI n))] → W p l e ({ frames := 2, cells := 0, slots := 0, locals := 62 } : Room) s m ([.ref ho, .ref sp, .int (nI j), .int w, .int (nI d), .int (nI n)] : List Value).toArray below meth c H locs 0 0 (MQ below (wt_QI D (fun r w => ∃ (fU2 qf2 : Nat → Int32), w = [(ho, .inr (0, [vz_0, vz_1, .int (nI R), .int (nI T), vz_4, vz_5, vz_6, vz_7, .ref aP, vz_9, .ref aH, .ref aU])), (aP, .inl (cI, 6, .inl fP)), (aH, .inl (cI, 6, .inl fH)), (aU, .inl (cI, 6, .inl fU2)), (sp, .inl (cI, 3, .inl qf2))]) A) ([.ref ho, .ref sp, .int (nI j), .int w, .int (nI d), .int (nI n)] : List Value).toArray s 0 0 A) (F0 m 61 ls []) := by
      intro k
      induction k with
      | zero =>
        intro i_6 fU_7 qf_8 H locs ls hik  hP hD hS hl
        refine lv_iload hx hb dX5_canPour_61 (lv_at hl 0 rfl) ?_
        refine lv_aload_n hx hb dX5_canPour_63 rfl (lv_at hl 3 rfl) ?_
        refine va_get (D := D) (ci := 0) (v := .int (nI T)) (C := RX0) (T := TX0) (N := 12) hx hb hts hi0 hown hK.1 hP 0 rfl rfl 3 (by decide) wf140 (fun _ h9 => h9) rfl dX5_canPour_64 ?_
        refine lv_icmp_ge (tgt := 209) hx hb dX5_canPour_67 (by decide) (fun _ => ?_) (fun h => absurd (nI_le (a := T) (b := i_6) (by omega) (by omega)) h)
        refine lv_iconst (v := 0) hx hb dX5_canPour_209 (by decide) ?_
        have hP9 := hP.sub (ws' := [(ho, .inr (0, [vz_0, vz_1, .int (nI R), .int (nI T), vz_4, vz_5, vz_6, vz_7, .ref aP, vz_9, .ref aH, .ref aU])), (aP, .inl (cI, 6, .inl fP)), (aH, .inl (cI, 6, .inl fH)), (aU, .inl (cI, 6, .inl fU_7)), (sp, .inl (cI, 3, .inl qf_8))]) [0, 1, 2, 3, 4] rfl
        have hD9 := hD.sub (ws' := [(ho, .inr (0, [vz_0, vz_1, .int (nI R), .int (nI T), vz_4, vz_5, vz_6, vz_7, .ref aP, vz_9, .ref aH, .ref aU])), (aP, .inl (cI, 6, .inl fP)), (aH, .inl (cI, 6, .inl fH)), (aU, .inl (cI, 6, .inl fU_7)), (sp, .inl (cI, 3, .inl qf_8))]) [0, 1, 2, 3, 4] (by decide) rfl
        exact wt_zret hx hb hr hlocks (by decide) hP9 hD9 hS ⟨fU_7, qf_8, rfl⟩ dX5_canPour_210
      | succ k ih61 =>
        intro i_6 fU_7 qf_8 H locs ls hik  hP hD hS hl
        refine lv_iload hx hb dX5_canPour_61 (lv_at hl 0 rfl) ?_
        refine lv_aload_n hx hb dX5_canPour_63 rfl (lv_at hl 3 rfl) ?_
        refine va_get (D := D) (ci := 0) (v := .int (nI T)) (C := RX0) (T := TX0) (N := 12) hx hb hts hi0 hown hK.1 hP 0 rfl rfl 3 (by decide) wf140 (fun _ h9 => h9) rfl dX5_canPour_64 ?_
        refine lv_icmp_ge (tgt := 209) hx hb dX5_canPour_67 (by decide) (fun h => absurd h (nI_ge (a := i_6) (b := T) (by omega) (by omega))) (fun _ => ?_)
        refine lv_iconst (v := 0) hx hb dX5_canPour_70 (by decide) ?_
        refine lv_istore (lv' := [(9, .int 0), (8, .int (nI i_6)), (7, .int (nI b_5)), (6, .int 0), (0, .ref ho), (1, .ref sp), (2, .int (nI j)), (3, .int w), (4, .int (nI d)), (5, .int (nI n))]) hx hb dX5_canPour_71 hl (by decide) rfl (fun ls hl => ?_)
        have loop73 : ∀ (k i_9 : Nat) (fU_7_10 : Nat → Int32) (qf_8_11 : Nat → Int32) (H : Heap) (locs : List Loc) (ls : Array Slot), i_9 + k = T → va_P D vwCl [(ho, .inr (0, [vz_0, vz_1, .int (nI R), .int (nI T), vz_4, vz_5, vz_6, vz_7, .ref aP, vz_9, .ref aH, .ref aU])), (aP, .inl (cI, 6, .inl fP)), (aH, .inl (cI, 6, .inl fH)), (aU, .inl (cI, 6, .inl fU_7_10)), (sp, .inl (cI, 3, .inl qf_8_11))] H → va_D A [(ho, .inr (0, [vz_0, vz_1, .int (nI R), .int (nI T), vz_4, vz_5, vz_6, vz_7, .ref aP, vz_9, .ref aH, .ref aU])), (aP, .inl (cI, 6, .inl fP)), (aH, .inl (cI, 6, .inl fH)), (aU, .inl (cI, 6, .inl fU_7_10)), (sp, .inl (cI, 3, .inl qf_8_11))] → va_S A s.heap H locs → lv_has ls 12 [(9, .int (nI i_9)), (8, .int (nI i_6)), (7, .int (nI b_5)), (6, .int 0), (0, .ref ho), (1, .ref sp), (2, .int (nI j)), (3, .int w), (4, .int (nI d)), (5, .int (nI n))] → W p l e ({ frames := 2, cells := 0, slots := 0, locals := 62 } : Room) s m ([.ref ho, .ref sp, .int (nI j), .int w, .int (nI d), .int (nI n)] : List Value).toArray below meth c H locs 0 0 (MQ below (wt_QI D (fun r w => ∃ (fU2 qf2 : Nat → Int32), w = [(ho, .inr (0, [vz_0, vz_1, .int (nI R), .int (nI T), vz_4, vz_5, vz_6, vz_7, .ref aP, vz_9, .ref aH, .ref aU])), (aP, .inl (cI, 6, .inl fP)), (aH, .inl (cI, 6, .inl fH)), (aU, .inl (cI, 6, .inl fU2)), (sp, .inl (cI, 3, .inl qf2))]) A) ([.ref ho, .ref sp, .int (nI j), .int w, .int (nI d), .int (nI n)] : List Value).toArray s 0 0 A) (F0 m 73 ls []) := by
          intro k
          induction k with
          | zero =>
            intro i_9 fU_7_10 qf_8_11 H locs ls hik  hP hD hS hl
            refine lv_iload hx hb dX5_canPour_73 (lv_at hl 0 rfl) ?_
            refine lv_aload_n hx hb dX5_canPour_75 rfl (lv_at hl 4 rfl) ?_
            refine va_get (D := D) (ci := 0) (v := .int (nI T)) (C := RX0) (T := TX0) (N := 12) hx hb hts hi0 hown hK.1 hP 0 rfl rfl 3 (by decide) wf140 (fun _ h9 => h9) rfl dX5_canPour_76 ?_
            refine lv_icmp_ge (tgt := 203) hx hb dX5_canPour_79 (by decide) (fun _ => ?_) (fun h => absurd (nI_le (a := T) (b := i_9) (by omega) (by omega)) h)
            refine lv_iinc (v := nI (i_6 + 1)) (lv' := [(8, .int (nI (i_6 + 1))), (9, .int (nI i_9)), (7, .int (nI b_5)), (6, .int 0), (0, .ref ho), (1, .ref sp), (2, .int (nI j)), (3, .int w), (4, .int (nI d)), (5, .int (nI n))]) hx hb dX5_canPour_203 hl (k := 1) rfl (nI_add i_6 1) (by decide) rfl (fun ls hl => ?_)
            refine lv_goto (tgt := 61) hx hb dX5_canPour_206 (by decide) ?_
            exact ih61 ((i_6 + 1)) fU_7_10 qf_8_11 H locs ls (by omega)  hP hD hS (lv_sub hl [0, 2, 3, 4, 5, 6, 7, 8, 9] rfl)
          | succ k ih73 =>
            intro i_9 fU_7_10 qf_8_11 H locs ls hik  hP hD hS hl
            refine lv_iload hx hb dX5_canPour_73 (lv_at hl 0 rfl) ?_
            refine lv_aload_n hx hb dX5_canPour_75 rfl (lv_at hl 4 rfl) ?_
            refine va_get (D := D) (ci := 0) (v := .int (nI T)) (C := RX0) (T := TX0) (N := 12) hx hb hts hi0 hown hK.1 hP 0 rfl rfl 3 (by decide) wf140 (fun _ h9 => h9) rfl dX5_canPour_76 ?_
            refine lv_icmp_ge (tgt := 203) hx hb dX5_canPour_79 (by decide) (fun h => absurd h (nI_ge (a := i_9) (b := T) (by omega) (by omega))) (fun _ => ?_)
            refine lv_iconst (v := 1) hx hb dX5_canPour_82 (by decide) ?_
            refine lv_iload hx hb dX5_canPour_83 (lv_at hl 1 rfl) ?_
            refine lv_ishl hx hb dX5_canPour_85 ?_
            refine wt_top (z := nI (2 ^ i_6)) (wt_shl1 (by omega)) ?_
            refine lv_iconst (v := 1) hx hb dX5_canPour_86 (by decide) ?_
            refine lv_iload hx hb dX5_canPour_87 (lv_at hl 0 rfl) ?_
            refine lv_ishl hx hb dX5_canPour_89 ?_
            refine wt_top (z := nI (2 ^ i_9)) (wt_shl1 (by omega)) ?_
            refine lv_ior hx hb dX5_canPour_90 ?_
            refine wt_top (z := nI ((2 ^ i_6) ||| (2 ^ i_9))) (wt_or (2 ^ i_6) (2 ^ i_9)) ?_
            refine lv_iload hx hb dX5_canPour_91 (lv_at hl 2 rfl) ?_
            refine wt_rS (As := [.int (nI ((2 ^ i_6) ||| (2 ^ i_9))), .int (nI b_5)]) (rest := []) ⟨hx, hb, hml, hown, hts⟩ (c_X5_isPart l D cI cZ cH (nI ((2 ^ i_6) ||| (2 ^ i_9))) (nI b_5)) (va_cwS 2 hts gX5_canPour_X5_isPart rfl rfl rfl (by decide +kernel) ⟨Nat.le_of_ble_eq_true rfl, Nat.le_of_ble_eq_true rfl⟩) hK hP [] rfl rfl hl.1 rfl (Nat.le_of_ble_eq_true rfl) dX5_canPour_93 ⟨Nat.le_of_ble_eq_true rfl, Nat.le_of_ble_eq_true rfl⟩ (fun r_12 e_13 => ?_)
            refine lv_if_eq (tgt := 120) hx hb dX5_canPour_96 (by decide) (fun c_14 => ?_) (fun c_14 => ?_)
            · skip
              refine lv_iconst (v := 0) hx hb dX5_canPour_120 (by decide) ?_
              refine lv_istore (lv' := [(10, .int 0), (9, .int (nI i_9)), (8, .int (nI i_6)), (7, .int (nI b_5)), (6, .int 0), (0, .ref ho), (1, .ref sp), (2, .int (nI j)), (3, .int w), (4, .int (nI d)), (5, .int (nI n))]) hx hb dX5_canPour_121 hl (by decide) rfl (fun ls hl => ?_)
              refine lv_iload hx hb dX5_canPour_123 (lv_at hl 0 rfl) ?_
              refine lv_if_eq (tgt := 139) hx hb dX5_canPour_125 (by decide) (fun _ => ?_) (fun h => absurd h (by decide))
              refine lv_iconst (v := 0) hx hb dX5_canPour_139 (by decide) ?_
              refine lv_istore (lv' := [(11, .int 0), (10, .int 0), (9, .int (nI i_9)), (8, .int (nI i_6)), (7, .int (nI b_5)), (6, .int 0), (0, .ref ho), (1, .ref sp), (2, .int (nI j)), (3, .int w), (4, .int (nI d)), (5, .int (nI n))]) hx hb dX5_canPour_140 hl (by decide) rfl (fun ls hl => ?_)
              refine lv_iload hx hb dX5_canPour_142 (lv_at hl 0 rfl) ?_
              refine lv_if_le (tgt := 197) hx hb dX5_canPour_144 (by decide) (fun _ => ?_) (fun h => absurd h (by decide))
              refine lv_iinc (v := nI (i_9 + 1)) (lv' := [(9, .int (nI (i_9 + 1))), (11, .int 0), (10, .int 0), (8, .int (nI i_6)), (7, .int (nI b_5)), (6, .int 0), (0, .ref ho), (1, .ref sp), (2, .int (nI j)), (3, .int w), (4, .int (nI d)), (5, .int (nI n))]) hx hb dX5_canPour_197 hl (k := 2) rfl (nI_add i_9 1) (by decide) rfl (fun ls hl => ?_)
              refine lv_goto (tgt := 73) hx hb dX5_canPour_200 (by decide) ?_
              exact ih73 ((i_9 + 1)) fU_7_10 qf_8_11 H locs ls (by omega)  hP hD hS (lv_sub hl [0, 3, 4, 5, 6, 7, 8, 9, 10, 11] rfl)
            · skip
              refine lv_iload hx hb dX5_canPour_99 (lv_at hl 3 rfl) ?_
              refine lv_if_eq (tgt := 116) hx hb dX5_canPour_101 (by decide) (fun _ => ?_) (fun h => absurd h (by decide))
              refine lv_iconst (v := 1) hx hb dX5_canPour_116 (by decide) ?_
              refine lv_goto (tgt := 121) hx hb dX5_canPour_117 (by decide) ?_
              refine lv_istore (lv' := [(10, .int 1), (9, .int (nI i_9)), (8, .int (nI i_6)), (7, .int (nI b_5)), (6, .int 0), (0, .ref ho), (1, .ref sp), (2, .int (nI j)), (3, .int w), (4, .int (nI d)), (5, .int (nI n))]) hx hb dX5_canPour_121 hl (by decide) rfl (fun ls hl => ?_)
              refine lv_iload hx hb dX5_canPour_123 (lv_at hl 0 rfl) ?_
              refine lv_if_eq (tgt := 139) hx hb dX5_canPour_125 (by decide) (fun h => absurd h (by decide)) (fun _ => ?_)
              refine lv_aload_n hx hb dX5_canPour_128 rfl (lv_at hl 5 rfl) ?_
              refine lv_iload hx hb dX5_canPour_129 (lv_at hl 2 rfl) ?_
              refine lv_iload hx hb dX5_canPour_131 (lv_at hl 1 rfl) ?_
              refine wt_rV (As := [.int (nI i_6), .int (nI i_9)]) (rest := []) ⟨hx, hb, hml, hown, hts⟩ (c_X0_pourable l D cI cZ cH ho aP aH aU R T i_6 i_9 fP fH fU_7_10 vz_0 vz_1 vz_4 vz_5 vz_6 vz_7 vz_9 (by first | assumption | omega) (by first | assumption | omega) (by first | assumption | omega) (by first | assumption | omega) (by first | assumption | omega)) (cwV 2 hts gX5_canPour_X0_pourable rfl rfl rfl (by decide +kernel) ⟨Nat.le_of_ble_eq_true rfl, Nat.le_of_ble_eq_true rfl⟩) hK hP [0, 1, 2, 3] rfl (va_recv hK.1 hP (ci := 0) (q0 := 0) rfl rfl) rfl hl.1 rfl (Nat.le_of_ble_eq_true rfl) dX5_canPour_133 ⟨Nat.le_of_ble_eq_true rfl, Nat.le_of_ble_eq_true rfl⟩ (fun r_15 e_16 => ?_)
              refine lv_goto (tgt := 140) hx hb dX5_canPour_136 (by decide) ?_
              refine lv_istore (lv' := [(11, .int r_15), (10, .int 1), (9, .int (nI i_9)), (8, .int (nI i_6)), (7, .int (nI b_5)), (6, .int 0), (0, .ref ho), (1, .ref sp), (2, .int (nI j)), (3, .int w), (4, .int (nI d)), (5, .int (nI n))]) hx hb dX5_canPour_140 hl (by decide) rfl (fun ls hl => ?_)
              refine lv_iload hx hb dX5_canPour_142 (lv_at hl 0 rfl) ?_
              refine lv_if_le (tgt := 197) hx hb dX5_canPour_144 (by decide) (fun c_17 => ?_) (fun c_17 => ?_)
              · skip
                refine lv_iinc (v := nI (i_9 + 1)) (lv' := [(9, .int (nI (i_9 + 1))), (11, .int r_15), (10, .int 1), (8, .int (nI i_6)), (7, .int (nI b_5)), (6, .int 0), (0, .ref ho), (1, .ref sp), (2, .int (nI j)), (3, .int w), (4, .int (nI d)), (5, .int (nI n))]) hx hb dX5_canPour_197 hl (k := 2) rfl (nI_add i_9 1) (by decide) rfl (fun ls hl => ?_)
                refine lv_goto (tgt := 73) hx hb dX5_canPour_200 (by decide) ?_
                exact ih73 ((i_9 + 1)) fU_7_10 qf_8_11 H locs ls (by omega)  hP hD hS (lv_sub hl [0, 3, 4, 5, 6, 7, 8, 9, 10, 11] rfl)
              · skip
                refine lv_aload_n hx hb dX5_canPour_147 rfl (lv_at hl 7 rfl) ?_
                refine lv_iload hx hb dX5_canPour_148 (lv_at hl 10 rfl) ?_
                refine lv_bipush (v := 10) hx hb dX5_canPour_150 (by decide) ?_
                refine lv_iload hx hb dX5_canPour_152 (lv_at hl 3 rfl) ?_
                refine lv_imul hx hb dX5_canPour_154 ?_
                refine wt_top (z := nI (10 * i_6)) (pk_mul 10 i_6) ?_
                refine lv_iload hx hb dX5_canPour_155 (lv_at hl 2 rfl) ?_
                refine lv_iadd hx hb dX5_canPour_157 ?_
                refine wt_top (z := nI ((10 * i_6) + i_9)) (nI_add (10 * i_6) i_9) ?_
                refine va_iast hx hb hK.1 hP hD hS 4 0 rfl rfl (vp_in_nI (by omega) (by omega)) dX5_canPour_158 (fun H locs hP hD hS => ?_)
                have hP : va_P D vwCl [(ho, .inr (0, [vz_0, vz_1, .int (nI R), .int (nI T), vz_4, vz_5, vz_6, vz_7, .ref aP, vz_9, .ref aH, .ref aU])), (aP, .inl (cI, 6, .inl fP)), (aH, .inl (cI, 6, .inl fH)), (aU, .inl (cI, 6, .inl fU_7_10)), (sp, .inl (cI, 3, .inl (upd qf_8_11 ((nI d).toNatClampNeg) (nI ((10 * i_6) + i_9)))))] H := hP
                have hD : va_D A [(ho, .inr (0, [vz_0, vz_1, .int (nI R), .int (nI T), vz_4, vz_5, vz_6, vz_7, .ref aP, vz_9, .ref aH, .ref aU])), (aP, .inl (cI, 6, .inl fP)), (aH, .inl (cI, 6, .inl fH)), (aU, .inl (cI, 6, .inl fU_7_10)), (sp, .inl (cI, 3, .inl (upd qf_8_11 ((nI d).toNatClampNeg) (nI ((10 * i_6) + i_9)))))] := hD
                generalize upd qf_8_11 ((nI d).toNatClampNeg) (nI ((10 * i_6) + i_9)) = qf_8_18 at hP hD
                refine lv_aload_n hx hb dX5_canPour_159 rfl (lv_at hl 6 rfl) ?_
                refine lv_iload hx hb dX5_canPour_160 (lv_at hl 3 rfl) ?_
                refine lv_iload hx hb dX5_canPour_162 (lv_at hl 2 rfl) ?_
                refine lv_iload hx hb dX5_canPour_164 (lv_at hl 0 rfl) ?_
                refine wt_goV (wr := [(aP, .inl (cI, 6, .inl fP)), (aH, .inl (cI, 6, .inl fH)), (sp, .inl (cI, 3, .inl qf_8_18))]) (wt_runV (As := [.int (nI i_6), .int (nI i_9), .int r_15]) (rest := []) ⟨hx, hb, hml, hown, hts⟩ (c_X0_shift l D cI cZ cH ho aU T i_6 i_9 fU_7_10 r_15 vz_0 vz_1 (.int (nI R)) vz_4 vz_5 vz_6 vz_7 (.ref aP) vz_9 (.ref aH) (by first | assumption | omega) (by first | assumption | omega) (by first | assumption | omega)) (cwV 3 hts gX5_canPour_X0_shift rfl rfl rfl (by decide +kernel) ⟨Nat.le_of_ble_eq_true rfl, Nat.le_of_ble_eq_true rfl⟩) hK hP hD [0, 3] rfl (by decide) (va_recv hK.1 hP (ci := 0) (q0 := 0) rfl rfl) rfl hl.1 rfl (Nat.le_of_ble_eq_true rfl) dX5_canPour_166 ⟨Nat.le_of_ble_eq_true rfl, Nat.le_of_ble_eq_true rfl⟩) hP hD hS hA [0, 3] [1, 2, 4] rfl rfl (by decide) (by decide) (fun w_20 H locs h_21 hP hD hS => ?_)
                obtain ⟨fU2_22, rfl⟩ := h_21
                have hP : va_P D vwCl [(aP, .inl (cI, 6, .inl fP)), (aH, .inl (cI, 6, .inl fH)), (sp, .inl (cI, 3, .inl qf_8_18)), (ho, .inr (0, [vz_0, vz_1, .int (nI R), .int (nI T), vz_4, vz_5, vz_6, vz_7, .ref aP, vz_9, .ref aH, .ref aU])), (aU, .inl (cI, 6, .inl fU2_22))] H := hP
                have hD : va_D A [(aP, .inl (cI, 6, .inl fP)), (aH, .inl (cI, 6, .inl fH)), (sp, .inl (cI, 3, .inl qf_8_18)), (ho, .inr (0, [vz_0, vz_1, .int (nI R), .int (nI T), vz_4, vz_5, vz_6, vz_7, .ref aP, vz_9, .ref aH, .ref aU])), (aU, .inl (cI, 6, .inl fU2_22))] := hD
                refine lv_aload_n hx hb dX5_canPour_169 rfl (lv_at hl 6 rfl) ?_
                refine lv_aload_n hx hb dX5_canPour_170 rfl (lv_at hl 7 rfl) ?_
                refine lv_iload_n hx hb dX5_canPour_171 rfl (lv_at hl 8 rfl) ?_
                refine lv_iload_n hx hb dX5_canPour_172 rfl (lv_at hl 9 rfl) ?_
                refine lv_iload hx hb dX5_canPour_173 (lv_at hl 10 rfl) ?_
                refine lv_iconst (v := 1) hx hb dX5_canPour_175 (by decide) ?_
                refine lv_iadd hx hb dX5_canPour_176 ?_
                refine wt_top (z := nI (d + 1)) (nI_add d 1) ?_
                refine lv_iload hx hb dX5_canPour_177 (lv_at hl 11 rfl) ?_
                refine wt_goI (wr := []) (wt_runS (As := [.ref ho, .ref sp, .int (nI j), .int w, .int (nI (d + 1)), .int (nI n)]) (rest := []) ⟨hx, hb, hml, hown, hts⟩ (c_X5_canPour_0 l D cI cZ cH ho aP aH aU R T j (d + 1) n fP fH fU2_22 sp qf_8_18 w vz_0 vz_1 vz_4 vz_5 vz_6 vz_7 vz_9 (by first | assumption | omega) (by first | assumption | omega) (by first | assumption | omega) (by first | assumption | omega) (by first | assumption | omega) (by first | assumption | omega)) (va_cwS 6 hts gX5_canPour_X5_canPour rfl rfl rfl (by decide +kernel) ⟨Nat.le_of_ble_eq_true rfl, Nat.le_of_ble_eq_true rfl⟩) hK hP hD [3, 0, 1, 4, 2] rfl (by decide) rfl hl.1 rfl (Nat.le_of_ble_eq_true rfl) dX5_canPour_179 ⟨Nat.le_of_ble_eq_true rfl, Nat.le_of_ble_eq_true rfl⟩) hP hD hS hA [3, 0, 1, 4, 2] [] rfl rfl (by decide) (by decide) (fun r_23 w_24 H locs h_25 hP hD hS => ?_)
                obtain ⟨fU2_26, qf2_27, rfl⟩ := h_25
                have hP : va_P D vwCl [(ho, .inr (0, [vz_0, vz_1, .int (nI R), .int (nI T), vz_4, vz_5, vz_6, vz_7, .ref aP, vz_9, .ref aH, .ref aU])), (aP, .inl (cI, 6, .inl fP)), (aH, .inl (cI, 6, .inl fH)), (aU, .inl (cI, 6, .inl fU2_26)), (sp, .inl (cI, 3, .inl qf2_27))] H := hP
                have hD : va_D A [(ho, .inr (0, [vz_0, vz_1, .int (nI R), .int (nI T), vz_4, vz_5, vz_6, vz_7, .ref aP, vz_9, .ref aH, .ref aU])), (aP, .inl (cI, 6, .inl fP)), (aH, .inl (cI, 6, .inl fH)), (aU, .inl (cI, 6, .inl fU2_26)), (sp, .inl (cI, 3, .inl qf2_27))] := hD
                refine lv_if_eq (tgt := 187) hx hb dX5_canPour_182 (by decide) (fun c_28 => ?_) (fun c_28 => ?_)
                · skip
                  refine lv_aload_n hx hb dX5_canPour_187 rfl (lv_at hl 6 rfl) ?_
                  refine lv_iload hx hb dX5_canPour_188 (lv_at hl 2 rfl) ?_
                  refine lv_iload hx hb dX5_canPour_190 (lv_at hl 3 rfl) ?_
                  refine lv_iload hx hb dX5_canPour_192 (lv_at hl 0 rfl) ?_
                  refine wt_goV (wr := [(aP, .inl (cI, 6, .inl fP)), (aH, .inl (cI, 6, .inl fH)), (sp, .inl (cI, 3, .inl qf2_27))]) (wt_runV (As := [.int (nI i_9), .int (nI i_6), .int r_15]) (rest := []) ⟨hx, hb, hml, hown, hts⟩ (c_X0_shift l D cI cZ cH ho aU T i_9 i_6 fU2_26 r_15 vz_0 vz_1 (.int (nI R)) vz_4 vz_5 vz_6 vz_7 (.ref aP) vz_9 (.ref aH) (by first | assumption | omega) (by first | assumption | omega) (by first | assumption | omega)) (cwV 3 hts gX5_canPour_X0_shift rfl rfl rfl (by decide +kernel) ⟨Nat.le_of_ble_eq_true rfl, Nat.le_of_ble_eq_true rfl⟩) hK hP hD [0, 3] rfl (by decide) (va_recv hK.1 hP (ci := 0) (q0 := 0) rfl rfl) rfl hl.1 rfl (Nat.le_of_ble_eq_true rfl) dX5_canPour_194 ⟨Nat.le_of_ble_eq_true rfl, Nat.le_of_ble_eq_true rfl⟩) hP hD hS hA [0, 3] [1, 2, 4] rfl rfl (by decide) (by decide) (fun w_30 H locs h_31 hP hD hS => ?_)
                  obtain ⟨fU2_32, rfl⟩ := h_31
                  have hP : va_P D vwCl [(aP, .inl (cI, 6, .inl fP)), (aH, .inl (cI, 6, .inl fH)), (sp, .inl (cI, 3, .inl qf2_27)), (ho, .inr (0, [vz_0, vz_1, .int (nI R), .int (nI T), vz_4, vz_5, vz_6, vz_7, .ref aP, vz_9, .ref aH, .ref aU])), (aU, .inl (cI, 6, .inl fU2_32))] H := hP
                  have hD : va_D A [(aP, .inl (cI, 6, .inl fP)), (aH, .inl (cI, 6, .inl fH)), (sp, .inl (cI, 3, .inl qf2_27)), (ho, .inr (0, [vz_0, vz_1, .int (nI R), .int (nI T), vz_4, vz_5, vz_6, vz_7, .ref aP, vz_9, .ref aH, .ref aU])), (aU, .inl (cI, 6, .inl fU2_32))] := hD
                  refine lv_iinc (v := nI (i_9 + 1)) (lv' := [(9, .int (nI (i_9 + 1))), (11, .int r_15), (10, .int 1), (8, .int (nI i_6)), (7, .int (nI b_5)), (6, .int 0), (0, .ref ho), (1, .ref sp), (2, .int (nI j)), (3, .int w), (4, .int (nI d)), (5, .int (nI n))]) hx hb dX5_canPour_197 hl (k := 2) rfl (nI_add i_9 1) (by decide) rfl (fun ls hl => ?_)
                  refine lv_goto (tgt := 73) hx hb dX5_canPour_200 (by decide) ?_
                  exact ih73 ((i_9 + 1)) fU2_32 qf2_27 H locs ls (by omega)  (hP.sub [3, 0, 1, 4, 2] rfl) (hD.sub [3, 0, 1, 4, 2] (by decide) rfl) hS (lv_sub hl [0, 3, 4, 5, 6, 7, 8, 9, 10, 11] rfl)
                · skip
                  refine lv_iconst (v := 1) hx hb dX5_canPour_185 (by decide) ?_
                  have hP9 := hP.sub (ws' := [(ho, .inr (0, [vz_0, vz_1, .int (nI R), .int (nI T), vz_4, vz_5, vz_6, vz_7, .ref aP, vz_9, .ref aH, .ref aU])), (aP, .inl (cI, 6, .inl fP)), (aH, .inl (cI, 6, .inl fH)), (aU, .inl (cI, 6, .inl fU2_26)), (sp, .inl (cI, 3, .inl qf2_27))]) [0, 1, 2, 3, 4] rfl
                  have hD9 := hD.sub (ws' := [(ho, .inr (0, [vz_0, vz_1, .int (nI R), .int (nI T), vz_4, vz_5, vz_6, vz_7, .ref aP, vz_9, .ref aH, .ref aU])), (aP, .inl (cI, 6, .inl fP)), (aH, .inl (cI, 6, .inl fH)), (aU, .inl (cI, 6, .inl fU2_26)), (sp, .inl (cI, 3, .inl qf2_27))]) [0, 1, 2, 3, 4] (by decide) rfl
                  exact wt_zret hx hb hr hlocks (by decide) hP9 hD9 hS ⟨fU2_26, qf2_27, rfl⟩ dX5_canPour_186
        exact loop73 (T - 0) (0) fU_7 qf_8 _ _ ls (by omega)  hP hD hS hl
    exact loop61 (T - 0) (0) fU qf _ _ ls (by omega)  hP hD hS hl
  · skip
    have c_1 : d = (n - 1) := (nI_eq (a := d) (b := (n - 1)) (by omega) (by omega)).mp c_1
    refine lv_iconst (v := 1) hx hb dX5_canPour_39 (by decide) ?_
    refine lv_goto (tgt := 44) hx hb dX5_canPour_40 (by decide) ?_
    refine lv_istore (lv' := [(6, .int 1), (0, .ref ho), (1, .ref sp), (2, .int (nI j)), (3, .int w), (4, .int (nI d)), (5, .int (nI n))]) hx hb dX5_canPour_44 hl (by decide) rfl (fun ls hl => ?_)
    refine lv_aload_n hx hb dX5_canPour_46 rfl (lv_at hl 1 rfl) ?_
    refine lv_aload_n hx hb dX5_canPour_47 rfl (lv_at hl 1 rfl) ?_
    refine va_get (D := D) (ci := 0) (v := .ref aP) (C := RX0) (T := TX0) (N := 12) hx hb hts hi0 hown hK.1 hP 0 rfl rfl 8 (by decide) wf172 (fun _ h9 => h9) rfl dX5_canPour_48 ?_
    refine lv_iload_n hx hb dX5_canPour_51 rfl (lv_at hl 3 rfl) ?_
    refine va_iald hx hb hK.1 hP 1 0 rfl rfl (vp_in_nI (by omega) (by omega)) dX5_canPour_52 ?_
    obtain ⟨q_33, hq_33, eq_33⟩ := hwP j (by omega)
    refine wt_top (z := nI q_33) (by rw [nI_clamp (by omega)]; exact eq_33) ?_
    refine wt_rV (As := [.int (nI q_33)]) (rest := []) ⟨hx, hb, hml, hown, hts⟩ (c_X0_tubesAt l D cI cZ cH ho aP T fP (nI q_33) vz_0 vz_1 (.int (nI R)) vz_4 vz_5 vz_6 vz_7 vz_9 (.ref aH) (.ref aU) (by first | assumption | omega)) (cwV 1 hts gX5_canPour_X0_tubesAt rfl rfl rfl (by decide +kernel) ⟨Nat.le_of_ble_eq_true rfl, Nat.le_of_ble_eq_true rfl⟩) hK hP [0, 1] rfl (va_recv hK.1 hP (ci := 0) (q0 := 0) rfl rfl) rfl hl.1 rfl (Nat.le_of_ble_eq_true rfl) dX5_canPour_53 ⟨Nat.le_of_ble_eq_true rfl, Nat.le_of_ble_eq_true rfl⟩ (fun r_34 e_35 => ?_)
    obtain ⟨b_36, e_35, rfl⟩ := e_35
    refine lv_istore (lv' := [(7, .int (nI b_36)), (6, .int 1), (0, .ref ho), (1, .ref sp), (2, .int (nI j)), (3, .int w), (4, .int (nI d)), (5, .int (nI n))]) hx hb dX5_canPour_56 hl (by decide) rfl (fun ls hl => ?_)
    refine lv_iconst (v := 0) hx hb dX5_canPour_58 (by decide) ?_
    refine lv_istore (lv' := [(8, .int 0), (7, .int (nI b_36)), (6, .int 1), (0, .ref ho), (1, .ref sp), (2, .int (nI j)), (3, .int w), (4, .int (nI d)), (5, .int (nI n))]) hx hb dX5_canPour_59 hl (by decide) rfl (fun ls hl => ?_)
    have loop61 : ∀ (k i_37 : Nat) (fU_38 : Nat → Int32) (qf_39 : Nat → Int32) (H : Heap) (locs : List Loc) (ls : Array Slot), i_37 + k = T → va_P D vwCl [(ho, .inr (0, [vz_0, vz_1, .int (nI R), .int (nI T), vz_4, vz_5, vz_6, vz_7, .ref aP, vz_9, .ref aH, .ref aU])), (aP, .inl (cI, 6, .inl fP)), (aH, .inl (cI, 6, .inl fH)), (aU, .inl (cI, 6, .inl fU_38)), (sp, .inl (cI, 3, .inl qf_39))] H → va_D A [(ho, .inr (0, [vz_0, vz_1, .int (nI R), .int (nI T), vz_4, vz_5, vz_6, vz_7, .ref aP, vz_9, .ref aH, .ref aU])), (aP, .inl (cI, 6, .inl fP)), (aH, .inl (cI, 6, .inl fH)), (aU, .inl (cI, 6, .inl fU_38)), (sp, .inl (cI, 3, .inl qf_39))] → va_S A s.heap H locs → lv_has ls 12 [(8, .int (nI i_37)), (7, .int (nI b_36)), (6, .int 1), (0, .ref ho), (1, .ref sp), (2, .int (nI j)), (3, .int w), (4, .int (nI d)), (5, .int (nI n))] → W p l e ({ frames := 2, cells := 0, slots := 0, locals := 62 } : Room) s m ([.ref ho, .ref sp, .int (nI j), .int w, .int (nI d), .int (nI n)] : List Value).toArray below meth c H locs 0 0 (MQ below (wt_QI D (fun r w => ∃ (fU2 qf2 : Nat → Int32), w = [(ho, .inr (0, [vz_0, vz_1, .int (nI R), .int (nI T), vz_4, vz_5, vz_6, vz_7, .ref aP, vz_9, .ref aH, .ref aU])), (aP, .inl (cI, 6, .inl fP)), (aH, .inl (cI, 6, .inl fH)), (aU, .inl (cI, 6, .inl fU2)), (sp, .inl (cI, 3, .inl qf2))]) A) ([.ref ho, .ref sp, .int (nI j), .int w, .int (nI d), .int (nI n)] : List Value).toArray s 0 0 A) (F0 m 61 ls []) := by
      intro k
      induction k with
      | zero =>
        intro i_37 fU_38 qf_39 H locs ls hik  hP hD hS hl
        refine lv_iload hx hb dX5_canPour_61 (lv_at hl 0 rfl) ?_
        refine lv_aload_n hx hb dX5_canPour_63 rfl (lv_at hl 3 rfl) ?_
        refine va_get (D := D) (ci := 0) (v := .int (nI T)) (C := RX0) (T := TX0) (N := 12) hx hb hts hi0 hown hK.1 hP 0 rfl rfl 3 (by decide) wf140 (fun _ h9 => h9) rfl dX5_canPour_64 ?_
        refine lv_icmp_ge (tgt := 209) hx hb dX5_canPour_67 (by decide) (fun _ => ?_) (fun h => absurd (nI_le (a := T) (b := i_37) (by omega) (by omega)) h)
        refine lv_iconst (v := 0) hx hb dX5_canPour_209 (by decide) ?_
        have hP9 := hP.sub (ws' := [(ho, .inr (0, [vz_0, vz_1, .int (nI R), .int (nI T), vz_4, vz_5, vz_6, vz_7, .ref aP, vz_9, .ref aH, .ref aU])), (aP, .inl (cI, 6, .inl fP)), (aH, .inl (cI, 6, .inl fH)), (aU, .inl (cI, 6, .inl fU_38)), (sp, .inl (cI, 3, .inl qf_39))]) [0, 1, 2, 3, 4] rfl
        have hD9 := hD.sub (ws' := [(ho, .inr (0, [vz_0, vz_1, .int (nI R), .int (nI T), vz_4, vz_5, vz_6, vz_7, .ref aP, vz_9, .ref aH, .ref aU])), (aP, .inl (cI, 6, .inl fP)), (aH, .inl (cI, 6, .inl fH)), (aU, .inl (cI, 6, .inl fU_38)), (sp, .inl (cI, 3, .inl qf_39))]) [0, 1, 2, 3, 4] (by decide) rfl
        exact wt_zret hx hb hr hlocks (by decide) hP9 hD9 hS ⟨fU_38, qf_39, rfl⟩ dX5_canPour_210
      | succ k ih61 =>
        intro i_37 fU_38 qf_39 H locs ls hik  hP hD hS hl
        refine lv_iload hx hb dX5_canPour_61 (lv_at hl 0 rfl) ?_
        refine lv_aload_n hx hb dX5_canPour_63 rfl (lv_at hl 3 rfl) ?_
        refine va_get (D := D) (ci := 0) (v := .int (nI T)) (C := RX0) (T := TX0) (N := 12) hx hb hts hi0 hown hK.1 hP 0 rfl rfl 3 (by decide) wf140 (fun _ h9 => h9) rfl dX5_canPour_64 ?_
        refine lv_icmp_ge (tgt := 209) hx hb dX5_canPour_67 (by decide) (fun h => absurd h (nI_ge (a := i_37) (b := T) (by omega) (by omega))) (fun _ => ?_)
        refine lv_iconst (v := 0) hx hb dX5_canPour_70 (by decide) ?_
        refine lv_istore (lv' := [(9, .int 0), (8, .int (nI i_37)), (7, .int (nI b_36)), (6, .int 1), (0, .ref ho), (1, .ref sp), (2, .int (nI j)), (3, .int w), (4, .int (nI d)), (5, .int (nI n))]) hx hb dX5_canPour_71 hl (by decide) rfl (fun ls hl => ?_)
        have loop73 : ∀ (k i_40 : Nat) (fU_38_41 : Nat → Int32) (qf_39_42 : Nat → Int32) (H : Heap) (locs : List Loc) (ls : Array Slot), i_40 + k = T → va_P D vwCl [(ho, .inr (0, [vz_0, vz_1, .int (nI R), .int (nI T), vz_4, vz_5, vz_6, vz_7, .ref aP, vz_9, .ref aH, .ref aU])), (aP, .inl (cI, 6, .inl fP)), (aH, .inl (cI, 6, .inl fH)), (aU, .inl (cI, 6, .inl fU_38_41)), (sp, .inl (cI, 3, .inl qf_39_42))] H → va_D A [(ho, .inr (0, [vz_0, vz_1, .int (nI R), .int (nI T), vz_4, vz_5, vz_6, vz_7, .ref aP, vz_9, .ref aH, .ref aU])), (aP, .inl (cI, 6, .inl fP)), (aH, .inl (cI, 6, .inl fH)), (aU, .inl (cI, 6, .inl fU_38_41)), (sp, .inl (cI, 3, .inl qf_39_42))] → va_S A s.heap H locs → lv_has ls 12 [(9, .int (nI i_40)), (8, .int (nI i_37)), (7, .int (nI b_36)), (6, .int 1), (0, .ref ho), (1, .ref sp), (2, .int (nI j)), (3, .int w), (4, .int (nI d)), (5, .int (nI n))] → W p l e ({ frames := 2, cells := 0, slots := 0, locals := 62 } : Room) s m ([.ref ho, .ref sp, .int (nI j), .int w, .int (nI d), .int (nI n)] : List Value).toArray below meth c H locs 0 0 (MQ below (wt_QI D (fun r w => ∃ (fU2 qf2 : Nat → Int32), w = [(ho, .inr (0, [vz_0, vz_1, .int (nI R), .int (nI T), vz_4, vz_5, vz_6, vz_7, .ref aP, vz_9, .ref aH, .ref aU])), (aP, .inl (cI, 6, .inl fP)), (aH, .inl (cI, 6, .inl fH)), (aU, .inl (cI, 6, .inl fU2)), (sp, .inl (cI, 3, .inl qf2))]) A) ([.ref ho, .ref sp, .int (nI j), .int w, .int (nI d), .int (nI n)] : List Value).toArray s 0 0 A) (F0 m 73 ls []) := by
          intro k
          induction k with
          | zero =>
            intro i_40 fU_38_41 qf_39_42 H locs ls hik  hP hD hS hl
            refine lv_iload hx hb dX5_canPour_73 (lv_at hl 0 rfl) ?_
            refine lv_aload_n hx hb dX5_canPour_75 rfl (lv_at hl 4 rfl) ?_
            refine va_get (D := D) (ci := 0) (v := .int (nI T)) (C := RX0) (T := TX0) (N := 12) hx hb hts hi0 hown hK.1 hP 0 rfl rfl 3 (by decide) wf140 (fun _ h9 => h9) rfl dX5_canPour_76 ?_
            refine lv_icmp_ge (tgt := 203) hx hb dX5_canPour_79 (by decide) (fun _ => ?_) (fun h => absurd (nI_le (a := T) (b := i_40) (by omega) (by omega)) h)
            refine lv_iinc (v := nI (i_37 + 1)) (lv' := [(8, .int (nI (i_37 + 1))), (9, .int (nI i_40)), (7, .int (nI b_36)), (6, .int 1), (0, .ref ho), (1, .ref sp), (2, .int (nI j)), (3, .int w), (4, .int (nI d)), (5, .int (nI n))]) hx hb dX5_canPour_203 hl (k := 1) rfl (nI_add i_37 1) (by decide) rfl (fun ls hl => ?_)
            refine lv_goto (tgt := 61) hx hb dX5_canPour_206 (by decide) ?_
            exact ih61 ((i_37 + 1)) fU_38_41 qf_39_42 H locs ls (by omega)  hP hD hS (lv_sub hl [0, 2, 3, 4, 5, 6, 7, 8, 9] rfl)
          | succ k ih73 =>
            intro i_40 fU_38_41 qf_39_42 H locs ls hik  hP hD hS hl
            refine lv_iload hx hb dX5_canPour_73 (lv_at hl 0 rfl) ?_
            refine lv_aload_n hx hb dX5_canPour_75 rfl (lv_at hl 4 rfl) ?_
            refine va_get (D := D) (ci := 0) (v := .int (nI T)) (C := RX0) (T := TX0) (N := 12) hx hb hts hi0 hown hK.1 hP 0 rfl rfl 3 (by decide) wf140 (fun _ h9 => h9) rfl dX5_canPour_76 ?_
            refine lv_icmp_ge (tgt := 203) hx hb dX5_canPour_79 (by decide) (fun h => absurd h (nI_ge (a := i_40) (b := T) (by omega) (by omega))) (fun _ => ?_)
            refine lv_iconst (v := 1) hx hb dX5_canPour_82 (by decide) ?_
            refine lv_iload hx hb dX5_canPour_83 (lv_at hl 1 rfl) ?_
            refine lv_ishl hx hb dX5_canPour_85 ?_
            refine wt_top (z := nI (2 ^ i_37)) (wt_shl1 (by omega)) ?_
            refine lv_iconst (v := 1) hx hb dX5_canPour_86 (by decide) ?_
            refine lv_iload hx hb dX5_canPour_87 (lv_at hl 0 rfl) ?_
            refine lv_ishl hx hb dX5_canPour_89 ?_
            refine wt_top (z := nI (2 ^ i_40)) (wt_shl1 (by omega)) ?_
            refine lv_ior hx hb dX5_canPour_90 ?_
            refine wt_top (z := nI ((2 ^ i_37) ||| (2 ^ i_40))) (wt_or (2 ^ i_37) (2 ^ i_40)) ?_
            refine lv_iload hx hb dX5_canPour_91 (lv_at hl 2 rfl) ?_
            refine wt_rS (As := [.int (nI ((2 ^ i_37) ||| (2 ^ i_40))), .int (nI b_36)]) (rest := []) ⟨hx, hb, hml, hown, hts⟩ (c_X5_isPart l D cI cZ cH (nI ((2 ^ i_37) ||| (2 ^ i_40))) (nI b_36)) (va_cwS 2 hts gX5_canPour_X5_isPart rfl rfl rfl (by decide +kernel) ⟨Nat.le_of_ble_eq_true rfl, Nat.le_of_ble_eq_true rfl⟩) hK hP [] rfl rfl hl.1 rfl (Nat.le_of_ble_eq_true rfl) dX5_canPour_93 ⟨Nat.le_of_ble_eq_true rfl, Nat.le_of_ble_eq_true rfl⟩ (fun r_43 e_44 => ?_)
            refine lv_if_eq (tgt := 120) hx hb dX5_canPour_96 (by decide) (fun c_45 => ?_) (fun c_45 => ?_)
            · skip
              refine lv_iconst (v := 0) hx hb dX5_canPour_120 (by decide) ?_
              refine lv_istore (lv' := [(10, .int 0), (9, .int (nI i_40)), (8, .int (nI i_37)), (7, .int (nI b_36)), (6, .int 1), (0, .ref ho), (1, .ref sp), (2, .int (nI j)), (3, .int w), (4, .int (nI d)), (5, .int (nI n))]) hx hb dX5_canPour_121 hl (by decide) rfl (fun ls hl => ?_)
              refine lv_iload hx hb dX5_canPour_123 (lv_at hl 0 rfl) ?_
              refine lv_if_eq (tgt := 139) hx hb dX5_canPour_125 (by decide) (fun _ => ?_) (fun h => absurd h (by decide))
              refine lv_iconst (v := 0) hx hb dX5_canPour_139 (by decide) ?_
              refine lv_istore (lv' := [(11, .int 0), (10, .int 0), (9, .int (nI i_40)), (8, .int (nI i_37)), (7, .int (nI b_36)), (6, .int 1), (0, .ref ho), (1, .ref sp), (2, .int (nI j)), (3, .int w), (4, .int (nI d)), (5, .int (nI n))]) hx hb dX5_canPour_140 hl (by decide) rfl (fun ls hl => ?_)
              refine lv_iload hx hb dX5_canPour_142 (lv_at hl 0 rfl) ?_
              refine lv_if_le (tgt := 197) hx hb dX5_canPour_144 (by decide) (fun _ => ?_) (fun h => absurd h (by decide))
              refine lv_iinc (v := nI (i_40 + 1)) (lv' := [(9, .int (nI (i_40 + 1))), (11, .int 0), (10, .int 0), (8, .int (nI i_37)), (7, .int (nI b_36)), (6, .int 1), (0, .ref ho), (1, .ref sp), (2, .int (nI j)), (3, .int w), (4, .int (nI d)), (5, .int (nI n))]) hx hb dX5_canPour_197 hl (k := 2) rfl (nI_add i_40 1) (by decide) rfl (fun ls hl => ?_)
              refine lv_goto (tgt := 73) hx hb dX5_canPour_200 (by decide) ?_
              exact ih73 ((i_40 + 1)) fU_38_41 qf_39_42 H locs ls (by omega)  hP hD hS (lv_sub hl [0, 3, 4, 5, 6, 7, 8, 9, 10, 11] rfl)
            · skip
              refine lv_iload hx hb dX5_canPour_99 (lv_at hl 3 rfl) ?_
              refine lv_if_eq (tgt := 116) hx hb dX5_canPour_101 (by decide) (fun h => absurd h (by decide)) (fun _ => ?_)
              refine lv_iload hx hb dX5_canPour_104 (lv_at hl 1 rfl) ?_
              refine lv_iload_n hx hb dX5_canPour_106 rfl (lv_at hl 6 rfl) ?_
              refine lv_icmp_eq (tgt := 116) hx hb dX5_canPour_107 (by decide) (fun c_46 => ?_) (fun c_46 => ?_)
              · skip
                have c_46 : i_37 = j := (nI_eq (a := i_37) (b := j) (by omega) (by omega)).mp c_46
                refine lv_iconst (v := 1) hx hb dX5_canPour_116 (by decide) ?_
                refine lv_goto (tgt := 121) hx hb dX5_canPour_117 (by decide) ?_
                refine lv_istore (lv' := [(10, .int 1), (9, .int (nI i_40)), (8, .int (nI i_37)), (7, .int (nI b_36)), (6, .int 1), (0, .ref ho), (1, .ref sp), (2, .int (nI j)), (3, .int w), (4, .int (nI d)), (5, .int (nI n))]) hx hb dX5_canPour_121 hl (by decide) rfl (fun ls hl => ?_)
                refine lv_iload hx hb dX5_canPour_123 (lv_at hl 0 rfl) ?_
                refine lv_if_eq (tgt := 139) hx hb dX5_canPour_125 (by decide) (fun h => absurd h (by decide)) (fun _ => ?_)
                refine lv_aload_n hx hb dX5_canPour_128 rfl (lv_at hl 5 rfl) ?_
                refine lv_iload hx hb dX5_canPour_129 (lv_at hl 2 rfl) ?_
                refine lv_iload hx hb dX5_canPour_131 (lv_at hl 1 rfl) ?_
                refine wt_rV (As := [.int (nI i_37), .int (nI i_40)]) (rest := []) ⟨hx, hb, hml, hown, hts⟩ (c_X0_pourable l D cI cZ cH ho aP aH aU R T i_37 i_40 fP fH fU_38_41 vz_0 vz_1 vz_4 vz_5 vz_6 vz_7 vz_9 (by first | assumption | omega) (by first | assumption | omega) (by first | assumption | omega) (by first | assumption | omega) (by first | assumption | omega)) (cwV 2 hts gX5_canPour_X0_pourable rfl rfl rfl (by decide +kernel) ⟨Nat.le_of_ble_eq_true rfl, Nat.le_of_ble_eq_true rfl⟩) hK hP [0, 1, 2, 3] rfl (va_recv hK.1 hP (ci := 0) (q0 := 0) rfl rfl) rfl hl.1 rfl (Nat.le_of_ble_eq_true rfl) dX5_canPour_133 ⟨Nat.le_of_ble_eq_true rfl, Nat.le_of_ble_eq_true rfl⟩ (fun r_47 e_48 => ?_)
                refine lv_goto (tgt := 140) hx hb dX5_canPour_136 (by decide) ?_
                refine lv_istore (lv' := [(11, .int r_47), (10, .int 1), (9, .int (nI i_40)), (8, .int (nI i_37)), (7, .int (nI b_36)), (6, .int 1), (0, .ref ho), (1, .ref sp), (2, .int (nI j)), (3, .int w), (4, .int (nI d)), (5, .int (nI n))]) hx hb dX5_canPour_140 hl (by decide) rfl (fun ls hl => ?_)
                refine lv_iload hx hb dX5_canPour_142 (lv_at hl 0 rfl) ?_
                refine lv_if_le (tgt := 197) hx hb dX5_canPour_144 (by decide) (fun c_49 => ?_) (fun c_49 => ?_)
                · skip
                  refine lv_iinc (v := nI (i_40 + 1)) (lv' := [(9, .int (nI (i_40 + 1))), (11, .int r_47), (10, .int 1), (8, .int (nI i_37)), (7, .int (nI b_36)), (6, .int 1), (0, .ref ho), (1, .ref sp), (2, .int (nI j)), (3, .int w), (4, .int (nI d)), (5, .int (nI n))]) hx hb dX5_canPour_197 hl (k := 2) rfl (nI_add i_40 1) (by decide) rfl (fun ls hl => ?_)
                  refine lv_goto (tgt := 73) hx hb dX5_canPour_200 (by decide) ?_
                  exact ih73 ((i_40 + 1)) fU_38_41 qf_39_42 H locs ls (by omega)  hP hD hS (lv_sub hl [0, 3, 4, 5, 6, 7, 8, 9, 10, 11] rfl)
                · skip
                  refine lv_aload_n hx hb dX5_canPour_147 rfl (lv_at hl 7 rfl) ?_
                  refine lv_iload hx hb dX5_canPour_148 (lv_at hl 10 rfl) ?_
                  refine lv_bipush (v := 10) hx hb dX5_canPour_150 (by decide) ?_
                  refine lv_iload hx hb dX5_canPour_152 (lv_at hl 3 rfl) ?_
                  refine lv_imul hx hb dX5_canPour_154 ?_
                  refine wt_top (z := nI (10 * i_37)) (pk_mul 10 i_37) ?_
                  refine lv_iload hx hb dX5_canPour_155 (lv_at hl 2 rfl) ?_
                  refine lv_iadd hx hb dX5_canPour_157 ?_
                  refine wt_top (z := nI ((10 * i_37) + i_40)) (nI_add (10 * i_37) i_40) ?_
                  refine va_iast hx hb hK.1 hP hD hS 4 0 rfl rfl (vp_in_nI (by omega) (by omega)) dX5_canPour_158 (fun H locs hP hD hS => ?_)
                  have hP : va_P D vwCl [(ho, .inr (0, [vz_0, vz_1, .int (nI R), .int (nI T), vz_4, vz_5, vz_6, vz_7, .ref aP, vz_9, .ref aH, .ref aU])), (aP, .inl (cI, 6, .inl fP)), (aH, .inl (cI, 6, .inl fH)), (aU, .inl (cI, 6, .inl fU_38_41)), (sp, .inl (cI, 3, .inl (upd qf_39_42 ((nI d).toNatClampNeg) (nI ((10 * i_37) + i_40)))))] H := hP
                  have hD : va_D A [(ho, .inr (0, [vz_0, vz_1, .int (nI R), .int (nI T), vz_4, vz_5, vz_6, vz_7, .ref aP, vz_9, .ref aH, .ref aU])), (aP, .inl (cI, 6, .inl fP)), (aH, .inl (cI, 6, .inl fH)), (aU, .inl (cI, 6, .inl fU_38_41)), (sp, .inl (cI, 3, .inl (upd qf_39_42 ((nI d).toNatClampNeg) (nI ((10 * i_37) + i_40)))))] := hD
                  generalize upd qf_39_42 ((nI d).toNatClampNeg) (nI ((10 * i_37) + i_40)) = qf_39_50 at hP hD
                  refine lv_aload_n hx hb dX5_canPour_159 rfl (lv_at hl 6 rfl) ?_
                  refine lv_iload hx hb dX5_canPour_160 (lv_at hl 3 rfl) ?_
                  refine lv_iload hx hb dX5_canPour_162 (lv_at hl 2 rfl) ?_
                  refine lv_iload hx hb dX5_canPour_164 (lv_at hl 0 rfl) ?_
                  refine wt_goV (wr := [(aP, .inl (cI, 6, .inl fP)), (aH, .inl (cI, 6, .inl fH)), (sp, .inl (cI, 3, .inl qf_39_50))]) (wt_runV (As := [.int (nI i_37), .int (nI i_40), .int r_47]) (rest := []) ⟨hx, hb, hml, hown, hts⟩ (c_X0_shift l D cI cZ cH ho aU T i_37 i_40 fU_38_41 r_47 vz_0 vz_1 (.int (nI R)) vz_4 vz_5 vz_6 vz_7 (.ref aP) vz_9 (.ref aH) (by first | assumption | omega) (by first | assumption | omega) (by first | assumption | omega)) (cwV 3 hts gX5_canPour_X0_shift rfl rfl rfl (by decide +kernel) ⟨Nat.le_of_ble_eq_true rfl, Nat.le_of_ble_eq_true rfl⟩) hK hP hD [0, 3] rfl (by decide) (va_recv hK.1 hP (ci := 0) (q0 := 0) rfl rfl) rfl hl.1 rfl (Nat.le_of_ble_eq_true rfl) dX5_canPour_166 ⟨Nat.le_of_ble_eq_true rfl, Nat.le_of_ble_eq_true rfl⟩) hP hD hS hA [0, 3] [1, 2, 4] rfl rfl (by decide) (by decide) (fun w_52 H locs h_53 hP hD hS => ?_)
                  obtain ⟨fU2_54, rfl⟩ := h_53
                  have hP : va_P D vwCl [(aP, .inl (cI, 6, .inl fP)), (aH, .inl (cI, 6, .inl fH)), (sp, .inl (cI, 3, .inl qf_39_50)), (ho, .inr (0, [vz_0, vz_1, .int (nI R), .int (nI T), vz_4, vz_5, vz_6, vz_7, .ref aP, vz_9, .ref aH, .ref aU])), (aU, .inl (cI, 6, .inl fU2_54))] H := hP
                  have hD : va_D A [(aP, .inl (cI, 6, .inl fP)), (aH, .inl (cI, 6, .inl fH)), (sp, .inl (cI, 3, .inl qf_39_50)), (ho, .inr (0, [vz_0, vz_1, .int (nI R), .int (nI T), vz_4, vz_5, vz_6, vz_7, .ref aP, vz_9, .ref aH, .ref aU])), (aU, .inl (cI, 6, .inl fU2_54))] := hD
                  refine lv_aload_n hx hb dX5_canPour_169 rfl (lv_at hl 6 rfl) ?_
                  refine lv_aload_n hx hb dX5_canPour_170 rfl (lv_at hl 7 rfl) ?_
                  refine lv_iload_n hx hb dX5_canPour_171 rfl (lv_at hl 8 rfl) ?_
                  refine lv_iload_n hx hb dX5_canPour_172 rfl (lv_at hl 9 rfl) ?_
                  refine lv_iload hx hb dX5_canPour_173 (lv_at hl 10 rfl) ?_
                  refine lv_iconst (v := 1) hx hb dX5_canPour_175 (by decide) ?_
                  refine lv_iadd hx hb dX5_canPour_176 ?_
                  refine wt_top (z := nI (d + 1)) (nI_add d 1) ?_
                  refine lv_iload hx hb dX5_canPour_177 (lv_at hl 11 rfl) ?_
                  refine wt_goI (wr := []) (wt_runS (As := [.ref ho, .ref sp, .int (nI j), .int w, .int (nI (d + 1)), .int (nI n)]) (rest := []) ⟨hx, hb, hml, hown, hts⟩ (c_X5_canPour_0 l D cI cZ cH ho aP aH aU R T j (d + 1) n fP fH fU2_54 sp qf_39_50 w vz_0 vz_1 vz_4 vz_5 vz_6 vz_7 vz_9 (by first | assumption | omega) (by first | assumption | omega) (by first | assumption | omega) (by first | assumption | omega) (by first | assumption | omega) (by first | assumption | omega)) (va_cwS 6 hts gX5_canPour_X5_canPour rfl rfl rfl (by decide +kernel) ⟨Nat.le_of_ble_eq_true rfl, Nat.le_of_ble_eq_true rfl⟩) hK hP hD [3, 0, 1, 4, 2] rfl (by decide) rfl hl.1 rfl (Nat.le_of_ble_eq_true rfl) dX5_canPour_179 ⟨Nat.le_of_ble_eq_true rfl, Nat.le_of_ble_eq_true rfl⟩) hP hD hS hA [3, 0, 1, 4, 2] [] rfl rfl (by decide) (by decide) (fun r_55 w_56 H locs h_57 hP hD hS => ?_)
                  obtain ⟨fU2_58, qf2_59, rfl⟩ := h_57
                  have hP : va_P D vwCl [(ho, .inr (0, [vz_0, vz_1, .int (nI R), .int (nI T), vz_4, vz_5, vz_6, vz_7, .ref aP, vz_9, .ref aH, .ref aU])), (aP, .inl (cI, 6, .inl fP)), (aH, .inl (cI, 6, .inl fH)), (aU, .inl (cI, 6, .inl fU2_58)), (sp, .inl (cI, 3, .inl qf2_59))] H := hP
                  have hD : va_D A [(ho, .inr (0, [vz_0, vz_1, .int (nI R), .int (nI T), vz_4, vz_5, vz_6, vz_7, .ref aP, vz_9, .ref aH, .ref aU])), (aP, .inl (cI, 6, .inl fP)), (aH, .inl (cI, 6, .inl fH)), (aU, .inl (cI, 6, .inl fU2_58)), (sp, .inl (cI, 3, .inl qf2_59))] := hD
                  refine lv_if_eq (tgt := 187) hx hb dX5_canPour_182 (by decide) (fun c_60 => ?_) (fun c_60 => ?_)
                  · skip
                    refine lv_aload_n hx hb dX5_canPour_187 rfl (lv_at hl 6 rfl) ?_
                    refine lv_iload hx hb dX5_canPour_188 (lv_at hl 2 rfl) ?_
                    refine lv_iload hx hb dX5_canPour_190 (lv_at hl 3 rfl) ?_
                    refine lv_iload hx hb dX5_canPour_192 (lv_at hl 0 rfl) ?_
                    refine wt_goV (wr := [(aP, .inl (cI, 6, .inl fP)), (aH, .inl (cI, 6, .inl fH)), (sp, .inl (cI, 3, .inl qf2_59))]) (wt_runV (As := [.int (nI i_40), .int (nI i_37), .int r_47]) (rest := []) ⟨hx, hb, hml, hown, hts⟩ (c_X0_shift l D cI cZ cH ho aU T i_40 i_37 fU2_58 r_47 vz_0 vz_1 (.int (nI R)) vz_4 vz_5 vz_6 vz_7 (.ref aP) vz_9 (.ref aH) (by first | assumption | omega) (by first | assumption | omega) (by first | assumption | omega)) (cwV 3 hts gX5_canPour_X0_shift rfl rfl rfl (by decide +kernel) ⟨Nat.le_of_ble_eq_true rfl, Nat.le_of_ble_eq_true rfl⟩) hK hP hD [0, 3] rfl (by decide) (va_recv hK.1 hP (ci := 0) (q0 := 0) rfl rfl) rfl hl.1 rfl (Nat.le_of_ble_eq_true rfl) dX5_canPour_194 ⟨Nat.le_of_ble_eq_true rfl, Nat.le_of_ble_eq_true rfl⟩) hP hD hS hA [0, 3] [1, 2, 4] rfl rfl (by decide) (by decide) (fun w_62 H locs h_63 hP hD hS => ?_)
                    obtain ⟨fU2_64, rfl⟩ := h_63
                    have hP : va_P D vwCl [(aP, .inl (cI, 6, .inl fP)), (aH, .inl (cI, 6, .inl fH)), (sp, .inl (cI, 3, .inl qf2_59)), (ho, .inr (0, [vz_0, vz_1, .int (nI R), .int (nI T), vz_4, vz_5, vz_6, vz_7, .ref aP, vz_9, .ref aH, .ref aU])), (aU, .inl (cI, 6, .inl fU2_64))] H := hP
                    have hD : va_D A [(aP, .inl (cI, 6, .inl fP)), (aH, .inl (cI, 6, .inl fH)), (sp, .inl (cI, 3, .inl qf2_59)), (ho, .inr (0, [vz_0, vz_1, .int (nI R), .int (nI T), vz_4, vz_5, vz_6, vz_7, .ref aP, vz_9, .ref aH, .ref aU])), (aU, .inl (cI, 6, .inl fU2_64))] := hD
                    refine lv_iinc (v := nI (i_40 + 1)) (lv' := [(9, .int (nI (i_40 + 1))), (11, .int r_47), (10, .int 1), (8, .int (nI i_37)), (7, .int (nI b_36)), (6, .int 1), (0, .ref ho), (1, .ref sp), (2, .int (nI j)), (3, .int w), (4, .int (nI d)), (5, .int (nI n))]) hx hb dX5_canPour_197 hl (k := 2) rfl (nI_add i_40 1) (by decide) rfl (fun ls hl => ?_)
                    refine lv_goto (tgt := 73) hx hb dX5_canPour_200 (by decide) ?_
                    exact ih73 ((i_40 + 1)) fU2_64 qf2_59 H locs ls (by omega)  (hP.sub [3, 0, 1, 4, 2] rfl) (hD.sub [3, 0, 1, 4, 2] (by decide) rfl) hS (lv_sub hl [0, 3, 4, 5, 6, 7, 8, 9, 10, 11] rfl)
                  · skip
                    refine lv_iconst (v := 1) hx hb dX5_canPour_185 (by decide) ?_
                    have hP9 := hP.sub (ws' := [(ho, .inr (0, [vz_0, vz_1, .int (nI R), .int (nI T), vz_4, vz_5, vz_6, vz_7, .ref aP, vz_9, .ref aH, .ref aU])), (aP, .inl (cI, 6, .inl fP)), (aH, .inl (cI, 6, .inl fH)), (aU, .inl (cI, 6, .inl fU2_58)), (sp, .inl (cI, 3, .inl qf2_59))]) [0, 1, 2, 3, 4] rfl
                    have hD9 := hD.sub (ws' := [(ho, .inr (0, [vz_0, vz_1, .int (nI R), .int (nI T), vz_4, vz_5, vz_6, vz_7, .ref aP, vz_9, .ref aH, .ref aU])), (aP, .inl (cI, 6, .inl fP)), (aH, .inl (cI, 6, .inl fH)), (aU, .inl (cI, 6, .inl fU2_58)), (sp, .inl (cI, 3, .inl qf2_59))]) [0, 1, 2, 3, 4] (by decide) rfl
                    exact wt_zret hx hb hr hlocks (by decide) hP9 hD9 hS ⟨fU2_58, qf2_59, rfl⟩ dX5_canPour_186
              · skip
                have c_46 : ¬ (i_37 = j) := fun h => c_46 ((nI_eq (a := i_37) (b := j) (by omega) (by omega)).mpr h)
                refine lv_iload hx hb dX5_canPour_110 (lv_at hl 0 rfl) ?_
                refine lv_iload_n hx hb dX5_canPour_112 rfl (lv_at hl 6 rfl) ?_
                refine lv_icmp_ne (tgt := 120) hx hb dX5_canPour_113 (by decide) (fun c_65 => ?_) (fun c_65 => ?_)
                · skip
                  have c_65 : ¬ (i_40 = j) := fun h => c_65 ((nI_eq (a := i_40) (b := j) (by omega) (by omega)).mpr h)
                  refine lv_iconst (v := 0) hx hb dX5_canPour_120 (by decide) ?_
                  refine lv_istore (lv' := [(10, .int 0), (9, .int (nI i_40)), (8, .int (nI i_37)), (7, .int (nI b_36)), (6, .int 1), (0, .ref ho), (1, .ref sp), (2, .int (nI j)), (3, .int w), (4, .int (nI d)), (5, .int (nI n))]) hx hb dX5_canPour_121 hl (by decide) rfl (fun ls hl => ?_)
                  refine lv_iload hx hb dX5_canPour_123 (lv_at hl 0 rfl) ?_
                  refine lv_if_eq (tgt := 139) hx hb dX5_canPour_125 (by decide) (fun _ => ?_) (fun h => absurd h (by decide))
                  refine lv_iconst (v := 0) hx hb dX5_canPour_139 (by decide) ?_
                  refine lv_istore (lv' := [(11, .int 0), (10, .int 0), (9, .int (nI i_40)), (8, .int (nI i_37)), (7, .int (nI b_36)), (6, .int 1), (0, .ref ho), (1, .ref sp), (2, .int (nI j)), (3, .int w), (4, .int (nI d)), (5, .int (nI n))]) hx hb dX5_canPour_140 hl (by decide) rfl (fun ls hl => ?_)
                  refine lv_iload hx hb dX5_canPour_142 (lv_at hl 0 rfl) ?_
                  refine lv_if_le (tgt := 197) hx hb dX5_canPour_144 (by decide) (fun _ => ?_) (fun h => absurd h (by decide))
                  refine lv_iinc (v := nI (i_40 + 1)) (lv' := [(9, .int (nI (i_40 + 1))), (11, .int 0), (10, .int 0), (8, .int (nI i_37)), (7, .int (nI b_36)), (6, .int 1), (0, .ref ho), (1, .ref sp), (2, .int (nI j)), (3, .int w), (4, .int (nI d)), (5, .int (nI n))]) hx hb dX5_canPour_197 hl (k := 2) rfl (nI_add i_40 1) (by decide) rfl (fun ls hl => ?_)
                  refine lv_goto (tgt := 73) hx hb dX5_canPour_200 (by decide) ?_
                  exact ih73 ((i_40 + 1)) fU_38_41 qf_39_42 H locs ls (by omega)  hP hD hS (lv_sub hl [0, 3, 4, 5, 6, 7, 8, 9, 10, 11] rfl)
                · skip
                  have c_65 : i_40 = j := (nI_eq (a := i_40) (b := j) (by omega) (by omega)).mp c_65
                  refine lv_iconst (v := 1) hx hb dX5_canPour_116 (by decide) ?_
                  refine lv_goto (tgt := 121) hx hb dX5_canPour_117 (by decide) ?_
                  refine lv_istore (lv' := [(10, .int 1), (9, .int (nI i_40)), (8, .int (nI i_37)), (7, .int (nI b_36)), (6, .int 1), (0, .ref ho), (1, .ref sp), (2, .int (nI j)), (3, .int w), (4, .int (nI d)), (5, .int (nI n))]) hx hb dX5_canPour_121 hl (by decide) rfl (fun ls hl => ?_)
                  refine lv_iload hx hb dX5_canPour_123 (lv_at hl 0 rfl) ?_
                  refine lv_if_eq (tgt := 139) hx hb dX5_canPour_125 (by decide) (fun h => absurd h (by decide)) (fun _ => ?_)
                  refine lv_aload_n hx hb dX5_canPour_128 rfl (lv_at hl 5 rfl) ?_
                  refine lv_iload hx hb dX5_canPour_129 (lv_at hl 2 rfl) ?_
                  refine lv_iload hx hb dX5_canPour_131 (lv_at hl 1 rfl) ?_
                  refine wt_rV (As := [.int (nI i_37), .int (nI i_40)]) (rest := []) ⟨hx, hb, hml, hown, hts⟩ (c_X0_pourable l D cI cZ cH ho aP aH aU R T i_37 i_40 fP fH fU_38_41 vz_0 vz_1 vz_4 vz_5 vz_6 vz_7 vz_9 (by first | assumption | omega) (by first | assumption | omega) (by first | assumption | omega) (by first | assumption | omega) (by first | assumption | omega)) (cwV 2 hts gX5_canPour_X0_pourable rfl rfl rfl (by decide +kernel) ⟨Nat.le_of_ble_eq_true rfl, Nat.le_of_ble_eq_true rfl⟩) hK hP [0, 1, 2, 3] rfl (va_recv hK.1 hP (ci := 0) (q0 := 0) rfl rfl) rfl hl.1 rfl (Nat.le_of_ble_eq_true rfl) dX5_canPour_133 ⟨Nat.le_of_ble_eq_true rfl, Nat.le_of_ble_eq_true rfl⟩ (fun r_66 e_67 => ?_)
                  refine lv_goto (tgt := 140) hx hb dX5_canPour_136 (by decide) ?_
                  refine lv_istore (lv' := [(11, .int r_66), (10, .int 1), (9, .int (nI i_40)), (8, .int (nI i_37)), (7, .int (nI b_36)), (6, .int 1), (0, .ref ho), (1, .ref sp), (2, .int (nI j)), (3, .int w), (4, .int (nI d)), (5, .int (nI n))]) hx hb dX5_canPour_140 hl (by decide) rfl (fun ls hl => ?_)
                  refine lv_iload hx hb dX5_canPour_142 (lv_at hl 0 rfl) ?_
                  refine lv_if_le (tgt := 197) hx hb dX5_canPour_144 (by decide) (fun c_68 => ?_) (fun c_68 => ?_)
                  · skip
                    refine lv_iinc (v := nI (i_40 + 1)) (lv' := [(9, .int (nI (i_40 + 1))), (11, .int r_66), (10, .int 1), (8, .int (nI i_37)), (7, .int (nI b_36)), (6, .int 1), (0, .ref ho), (1, .ref sp), (2, .int (nI j)), (3, .int w), (4, .int (nI d)), (5, .int (nI n))]) hx hb dX5_canPour_197 hl (k := 2) rfl (nI_add i_40 1) (by decide) rfl (fun ls hl => ?_)
                    refine lv_goto (tgt := 73) hx hb dX5_canPour_200 (by decide) ?_
                    exact ih73 ((i_40 + 1)) fU_38_41 qf_39_42 H locs ls (by omega)  hP hD hS (lv_sub hl [0, 3, 4, 5, 6, 7, 8, 9, 10, 11] rfl)
                  · skip
                    refine lv_aload_n hx hb dX5_canPour_147 rfl (lv_at hl 7 rfl) ?_
                    refine lv_iload hx hb dX5_canPour_148 (lv_at hl 10 rfl) ?_
                    refine lv_bipush (v := 10) hx hb dX5_canPour_150 (by decide) ?_
                    refine lv_iload hx hb dX5_canPour_152 (lv_at hl 3 rfl) ?_
                    refine lv_imul hx hb dX5_canPour_154 ?_
                    refine wt_top (z := nI (10 * i_37)) (pk_mul 10 i_37) ?_
                    refine lv_iload hx hb dX5_canPour_155 (lv_at hl 2 rfl) ?_
                    refine lv_iadd hx hb dX5_canPour_157 ?_
                    refine wt_top (z := nI ((10 * i_37) + i_40)) (nI_add (10 * i_37) i_40) ?_
                    refine va_iast hx hb hK.1 hP hD hS 4 0 rfl rfl (vp_in_nI (by omega) (by omega)) dX5_canPour_158 (fun H locs hP hD hS => ?_)
                    have hP : va_P D vwCl [(ho, .inr (0, [vz_0, vz_1, .int (nI R), .int (nI T), vz_4, vz_5, vz_6, vz_7, .ref aP, vz_9, .ref aH, .ref aU])), (aP, .inl (cI, 6, .inl fP)), (aH, .inl (cI, 6, .inl fH)), (aU, .inl (cI, 6, .inl fU_38_41)), (sp, .inl (cI, 3, .inl (upd qf_39_42 ((nI d).toNatClampNeg) (nI ((10 * i_37) + i_40)))))] H := hP
                    have hD : va_D A [(ho, .inr (0, [vz_0, vz_1, .int (nI R), .int (nI T), vz_4, vz_5, vz_6, vz_7, .ref aP, vz_9, .ref aH, .ref aU])), (aP, .inl (cI, 6, .inl fP)), (aH, .inl (cI, 6, .inl fH)), (aU, .inl (cI, 6, .inl fU_38_41)), (sp, .inl (cI, 3, .inl (upd qf_39_42 ((nI d).toNatClampNeg) (nI ((10 * i_37) + i_40)))))] := hD
                    generalize upd qf_39_42 ((nI d).toNatClampNeg) (nI ((10 * i_37) + i_40)) = qf_39_69 at hP hD
                    refine lv_aload_n hx hb dX5_canPour_159 rfl (lv_at hl 6 rfl) ?_
                    refine lv_iload hx hb dX5_canPour_160 (lv_at hl 3 rfl) ?_
                    refine lv_iload hx hb dX5_canPour_162 (lv_at hl 2 rfl) ?_
                    refine lv_iload hx hb dX5_canPour_164 (lv_at hl 0 rfl) ?_
                    refine wt_goV (wr := [(aP, .inl (cI, 6, .inl fP)), (aH, .inl (cI, 6, .inl fH)), (sp, .inl (cI, 3, .inl qf_39_69))]) (wt_runV (As := [.int (nI i_37), .int (nI i_40), .int r_66]) (rest := []) ⟨hx, hb, hml, hown, hts⟩ (c_X0_shift l D cI cZ cH ho aU T i_37 i_40 fU_38_41 r_66 vz_0 vz_1 (.int (nI R)) vz_4 vz_5 vz_6 vz_7 (.ref aP) vz_9 (.ref aH) (by first | assumption | omega) (by first | assumption | omega) (by first | assumption | omega)) (cwV 3 hts gX5_canPour_X0_shift rfl rfl rfl (by decide +kernel) ⟨Nat.le_of_ble_eq_true rfl, Nat.le_of_ble_eq_true rfl⟩) hK hP hD [0, 3] rfl (by decide) (va_recv hK.1 hP (ci := 0) (q0 := 0) rfl rfl) rfl hl.1 rfl (Nat.le_of_ble_eq_true rfl) dX5_canPour_166 ⟨Nat.le_of_ble_eq_true rfl, Nat.le_of_ble_eq_true rfl⟩) hP hD hS hA [0, 3] [1, 2, 4] rfl rfl (by decide) (by decide) (fun w_71 H locs h_72 hP hD hS => ?_)
                    obtain ⟨fU2_73, rfl⟩ := h_72
                    have hP : va_P D vwCl [(aP, .inl (cI, 6, .inl fP)), (aH, .inl (cI, 6, .inl fH)), (sp, .inl (cI, 3, .inl qf_39_69)), (ho, .inr (0, [vz_0, vz_1, .int (nI R), .int (nI T), vz_4, vz_5, vz_6, vz_7, .ref aP, vz_9, .ref aH, .ref aU])), (aU, .inl (cI, 6, .inl fU2_73))] H := hP
                    have hD : va_D A [(aP, .inl (cI, 6, .inl fP)), (aH, .inl (cI, 6, .inl fH)), (sp, .inl (cI, 3, .inl qf_39_69)), (ho, .inr (0, [vz_0, vz_1, .int (nI R), .int (nI T), vz_4, vz_5, vz_6, vz_7, .ref aP, vz_9, .ref aH, .ref aU])), (aU, .inl (cI, 6, .inl fU2_73))] := hD
                    refine lv_aload_n hx hb dX5_canPour_169 rfl (lv_at hl 6 rfl) ?_
                    refine lv_aload_n hx hb dX5_canPour_170 rfl (lv_at hl 7 rfl) ?_
                    refine lv_iload_n hx hb dX5_canPour_171 rfl (lv_at hl 8 rfl) ?_
                    refine lv_iload_n hx hb dX5_canPour_172 rfl (lv_at hl 9 rfl) ?_
                    refine lv_iload hx hb dX5_canPour_173 (lv_at hl 10 rfl) ?_
                    refine lv_iconst (v := 1) hx hb dX5_canPour_175 (by decide) ?_
                    refine lv_iadd hx hb dX5_canPour_176 ?_
                    refine wt_top (z := nI (d + 1)) (nI_add d 1) ?_
                    refine lv_iload hx hb dX5_canPour_177 (lv_at hl 11 rfl) ?_
                    refine wt_goI (wr := []) (wt_runS (As := [.ref ho, .ref sp, .int (nI j), .int w, .int (nI (d + 1)), .int (nI n)]) (rest := []) ⟨hx, hb, hml, hown, hts⟩ (c_X5_canPour_0 l D cI cZ cH ho aP aH aU R T j (d + 1) n fP fH fU2_73 sp qf_39_69 w vz_0 vz_1 vz_4 vz_5 vz_6 vz_7 vz_9 (by first | assumption | omega) (by first | assumption | omega) (by first | assumption | omega) (by first | assumption | omega) (by first | assumption | omega) (by first | assumption | omega)) (va_cwS 6 hts gX5_canPour_X5_canPour rfl rfl rfl (by decide +kernel) ⟨Nat.le_of_ble_eq_true rfl, Nat.le_of_ble_eq_true rfl⟩) hK hP hD [3, 0, 1, 4, 2] rfl (by decide) rfl hl.1 rfl (Nat.le_of_ble_eq_true rfl) dX5_canPour_179 ⟨Nat.le_of_ble_eq_true rfl, Nat.le_of_ble_eq_true rfl⟩) hP hD hS hA [3, 0, 1, 4, 2] [] rfl rfl (by decide) (by decide) (fun r_74 w_75 H locs h_76 hP hD hS => ?_)
                    obtain ⟨fU2_77, qf2_78, rfl⟩ := h_76
                    have hP : va_P D vwCl [(ho, .inr (0, [vz_0, vz_1, .int (nI R), .int (nI T), vz_4, vz_5, vz_6, vz_7, .ref aP, vz_9, .ref aH, .ref aU])), (aP, .inl (cI, 6, .inl fP)), (aH, .inl (cI, 6, .inl fH)), (aU, .inl (cI, 6, .inl fU2_77)), (sp, .inl (cI, 3, .inl qf2_78))] H := hP
                    have hD : va_D A [(ho, .inr (0, [vz_0, vz_1, .int (nI R), .int (nI T), vz_4, vz_5, vz_6, vz_7, .ref aP, vz_9, .ref aH, .ref aU])), (aP, .inl (cI, 6, .inl fP)), (aH, .inl (cI, 6, .inl fH)), (aU, .inl (cI, 6, .inl fU2_77)), (sp, .inl (cI, 3, .inl qf2_78))] := hD
                    refine lv_if_eq (tgt := 187) hx hb dX5_canPour_182 (by decide) (fun c_79 => ?_) (fun c_79 => ?_)
                    · skip
                      refine lv_aload_n hx hb dX5_canPour_187 rfl (lv_at hl 6 rfl) ?_
                      refine lv_iload hx hb dX5_canPour_188 (lv_at hl 2 rfl) ?_
                      refine lv_iload hx hb dX5_canPour_190 (lv_at hl 3 rfl) ?_
                      refine lv_iload hx hb dX5_canPour_192 (lv_at hl 0 rfl) ?_
                      refine wt_goV (wr := [(aP, .inl (cI, 6, .inl fP)), (aH, .inl (cI, 6, .inl fH)), (sp, .inl (cI, 3, .inl qf2_78))]) (wt_runV (As := [.int (nI i_40), .int (nI i_37), .int r_66]) (rest := []) ⟨hx, hb, hml, hown, hts⟩ (c_X0_shift l D cI cZ cH ho aU T i_40 i_37 fU2_77 r_66 vz_0 vz_1 (.int (nI R)) vz_4 vz_5 vz_6 vz_7 (.ref aP) vz_9 (.ref aH) (by first | assumption | omega) (by first | assumption | omega) (by first | assumption | omega)) (cwV 3 hts gX5_canPour_X0_shift rfl rfl rfl (by decide +kernel) ⟨Nat.le_of_ble_eq_true rfl, Nat.le_of_ble_eq_true rfl⟩) hK hP hD [0, 3] rfl (by decide) (va_recv hK.1 hP (ci := 0) (q0 := 0) rfl rfl) rfl hl.1 rfl (Nat.le_of_ble_eq_true rfl) dX5_canPour_194 ⟨Nat.le_of_ble_eq_true rfl, Nat.le_of_ble_eq_true rfl⟩) hP hD hS hA [0, 3] [1, 2, 4] rfl rfl (by decide) (by decide) (fun w_81 H locs h_82 hP hD hS => ?_)
                      obtain ⟨fU2_83, rfl⟩ := h_82
                      have hP : va_P D vwCl [(aP, .inl (cI, 6, .inl fP)), (aH, .inl (cI, 6, .inl fH)), (sp, .inl (cI, 3, .inl qf2_78)), (ho, .inr (0, [vz_0, vz_1, .int (nI R), .int (nI T), vz_4, vz_5, vz_6, vz_7, .ref aP, vz_9, .ref aH, .ref aU])), (aU, .inl (cI, 6, .inl fU2_83))] H := hP
                      have hD : va_D A [(aP, .inl (cI, 6, .inl fP)), (aH, .inl (cI, 6, .inl fH)), (sp, .inl (cI, 3, .inl qf2_78)), (ho, .inr (0, [vz_0, vz_1, .int (nI R), .int (nI T), vz_4, vz_5, vz_6, vz_7, .ref aP, vz_9, .ref aH, .ref aU])), (aU, .inl (cI, 6, .inl fU2_83))] := hD
                      refine lv_iinc (v := nI (i_40 + 1)) (lv' := [(9, .int (nI (i_40 + 1))), (11, .int r_66), (10, .int 1), (8, .int (nI i_37)), (7, .int (nI b_36)), (6, .int 1), (0, .ref ho), (1, .ref sp), (2, .int (nI j)), (3, .int w), (4, .int (nI d)), (5, .int (nI n))]) hx hb dX5_canPour_197 hl (k := 2) rfl (nI_add i_40 1) (by decide) rfl (fun ls hl => ?_)
                      refine lv_goto (tgt := 73) hx hb dX5_canPour_200 (by decide) ?_
                      exact ih73 ((i_40 + 1)) fU2_83 qf2_78 H locs ls (by omega)  (hP.sub [3, 0, 1, 4, 2] rfl) (hD.sub [3, 0, 1, 4, 2] (by decide) rfl) hS (lv_sub hl [0, 3, 4, 5, 6, 7, 8, 9, 10, 11] rfl)
                    · skip
                      refine lv_iconst (v := 1) hx hb dX5_canPour_185 (by decide) ?_
                      have hP9 := hP.sub (ws' := [(ho, .inr (0, [vz_0, vz_1, .int (nI R), .int (nI T), vz_4, vz_5, vz_6, vz_7, .ref aP, vz_9, .ref aH, .ref aU])), (aP, .inl (cI, 6, .inl fP)), (aH, .inl (cI, 6, .inl fH)), (aU, .inl (cI, 6, .inl fU2_77)), (sp, .inl (cI, 3, .inl qf2_78))]) [0, 1, 2, 3, 4] rfl
                      have hD9 := hD.sub (ws' := [(ho, .inr (0, [vz_0, vz_1, .int (nI R), .int (nI T), vz_4, vz_5, vz_6, vz_7, .ref aP, vz_9, .ref aH, .ref aU])), (aP, .inl (cI, 6, .inl fP)), (aH, .inl (cI, 6, .inl fH)), (aU, .inl (cI, 6, .inl fU2_77)), (sp, .inl (cI, 3, .inl qf2_78))]) [0, 1, 2, 3, 4] (by decide) rfl
                      exact wt_zret hx hb hr hlocks (by decide) hP9 hD9 hS ⟨fU2_77, qf2_78, rfl⟩ dX5_canPour_186
        exact loop73 (T - 0) (0) fU_38 qf_39 _ _ ls (by omega)  hP hD hS hl
    exact loop61 (T - 0) (0) fU qf _ _ ls (by omega)  hP hD hS hl
set_option maxHeartbeats 4000000 in
set_option maxRecDepth 100000 in
theorem c_X5_canPour_2 (l : Launch) (D : va_G) (cI cZ cH : ClassId) (ho aP aH aU : Nat) (R T j d n : Nat) (fP fH fU : Nat → Int32) (sp : Nat) (qf : Nat → Int32) (w : Int32) (vz_0 vz_1 vz_4 vz_5 vz_6 vz_7 vz_9 : Value) (hR5 : R ≤ 5) (hT6 : T ≤ 6) (hwP : hw R T fP) (hjT : j < T) (hnd : n = d + 2) (hn3 : n ≤ 3) : wt_M l yX5_canPour wsX5_canPour ({ frames := 3, cells := 0, slots := 0, locals := 93 } : Room) D (wt_T cI cZ cH) [.ref ho, .ref sp, .int (nI j), .int w, .int (nI d), .int (nI n)] [(ho, .inr (0, [vz_0, vz_1, .int (nI R), .int (nI T), vz_4, vz_5, vz_6, vz_7, .ref aP, vz_9, .ref aH, .ref aU])), (aP, .inl (cI, 6, .inl fP)), (aH, .inl (cI, 6, .inl fH)), (aU, .inl (cI, 6, .inl fU)), (sp, .inl (cI, 3, .inl qf))] (wt_QI D (fun r w => ∃ (fU2 qf2 : Nat → Int32), w = [(ho, .inr (0, [vz_0, vz_1, .int (nI R), .int (nI T), vz_4, vz_5, vz_6, vz_7, .ref aP, vz_9, .ref aH, .ref aU])), (aP, .inl (cI, 6, .inl fP)), (aH, .inl (cI, 6, .inl fH)), (aU, .inl (cI, 6, .inl fU2)), (sp, .inl (cI, 3, .inl qf2))])) := by
  refine wt_M.ofW (cc := cX5_canPour) (maxL := 12) (ret := (some .boolean)) (by decide) rfl (Nat.le_of_ble_eq_true rfl) ?_
  intro p e s m below meth c A ls hx hb hr hts hown hlocks hml hnm hP hK hD hA hS hl
  have hP : va_P D vwCl [(ho, .inr (0, [vz_0, vz_1, .int (nI R), .int (nI T), vz_4, vz_5, vz_6, vz_7, .ref aP, vz_9, .ref aH, .ref aU])), (aP, .inl (cI, 6, .inl fP)), (aH, .inl (cI, 6, .inl fH)), (aU, .inl (cI, 6, .inl fU)), (sp, .inl (cI, 3, .inl qf))] s.heap := hP
  have hown : s.vm.findClass RX5 = some m.cls := hown
  have hl : lv_has ls 12 [(0, .ref ho), (1, .ref sp), (2, .int (nI j)), (3, .int w), (4, .int (nI d)), (5, .int (nI n))] := hl
  have hi0 : ∀ w ∈ u_ws RX0 TX0 12, w ∈ wsX5_canPour := by decide +kernel
  have wf140 := hts (.fieldLink RX5 140 "WarmTubes$House" "tubes" "I") (by decide +kernel)
  have wf172 := hts (.fieldLink RX5 172 "WarmTubes$House" "where" "[I") (by decide +kernel)
  refine lv_iload hx hb dX5_canPour_0 (lv_at hl 4 rfl) ?_
  refine lv_iload hx hb dX5_canPour_2 (lv_at hl 5 rfl) ?_
  refine lv_icmp_ge (tgt := 14) hx hb dX5_canPour_4 (by decide) (fun h => absurd h (nI_ge (a := d) (b := n) (by omega) (by omega))) (fun _ => ?_)
  refine lv_iload hx hb dX5_canPour_7 (lv_at hl 4 rfl) ?_
  refine lv_aload_n hx hb dX5_canPour_9 rfl (lv_at hl 1 rfl) ?_
  refine va_alen (v := 3) hx hb hK.1 hP 4 0 rfl rfl rfl dX5_canPour_10 ?_
  refine lv_icmp_lt (tgt := 30) hx hb dX5_canPour_11 (by decide) (fun _ => ?_) (fun h => absurd (nI_lt (a := d) (b := 3) (by omega) (by omega)) h)
  refine lv_iload hx hb dX5_canPour_30 (lv_at hl 4 rfl) ?_
  refine lv_iload hx hb dX5_canPour_32 (lv_at hl 5 rfl) ?_
  refine lv_iconst (v := 1) hx hb dX5_canPour_34 (by decide) ?_
  refine lv_isub hx hb dX5_canPour_35 ?_
  refine wt_top (z := nI (n - 1)) (pk_sub (a := n) (b := 1) (by omega)) ?_
  refine lv_icmp_ne (tgt := 43) hx hb dX5_canPour_36 (by decide) (fun c_1 => ?_) (fun c_1 => ?_)
  · skip
    have c_1 : ¬ (d = (n - 1)) := fun h => c_1 ((nI_eq (a := d) (b := (n - 1)) (by omega) (by omega)).mpr h)
    refine lv_iconst (v := 0) hx hb dX5_canPour_43 (by decide) ?_
    refine lv_istore (lv' := [(6, .int 0), (0, .ref ho), (1, .ref sp), (2, .int (nI j)), (3, .int w), (4, .int (nI d)), (5, .int (nI n))]) hx hb dX5_canPour_44 hl (by decide) rfl (fun ls hl => ?_)
    refine lv_aload_n hx hb dX5_canPour_46 rfl (lv_at hl 1 rfl) ?_
    refine lv_aload_n hx hb dX5_canPour_47 rfl (lv_at hl 1 rfl) ?_
    refine va_get (D := D) (ci := 0) (v := .ref aP) (C := RX0) (T := TX0) (N := 12) hx hb hts hi0 hown hK.1 hP 0 rfl rfl 8 (by decide) wf172 (fun _ h9 => h9) rfl dX5_canPour_48 ?_
    refine lv_iload_n hx hb dX5_canPour_51 rfl (lv_at hl 3 rfl) ?_
    refine va_iald hx hb hK.1 hP 1 0 rfl rfl (vp_in_nI (by omega) (by omega)) dX5_canPour_52 ?_
    obtain ⟨q_2, hq_2, eq_2⟩ := hwP j (by omega)
    refine wt_top (z := nI q_2) (by rw [nI_clamp (by omega)]; exact eq_2) ?_
    refine wt_rV (As := [.int (nI q_2)]) (rest := []) ⟨hx, hb, hml, hown, hts⟩ (c_X0_tubesAt l D cI cZ cH ho aP T fP (nI q_2) vz_0 vz_1 (.int (nI R)) vz_4 vz_5 vz_6 vz_7 vz_9 (.ref aH) (.ref aU) (by first | assumption | omega)) (cwV 1 hts gX5_canPour_X0_tubesAt rfl rfl rfl (by decide +kernel) ⟨Nat.le_of_ble_eq_true rfl, Nat.le_of_ble_eq_true rfl⟩) hK hP [0, 1] rfl (va_recv hK.1 hP (ci := 0) (q0 := 0) rfl rfl) rfl hl.1 rfl (Nat.le_of_ble_eq_true rfl) dX5_canPour_53 ⟨Nat.le_of_ble_eq_true rfl, Nat.le_of_ble_eq_true rfl⟩ (fun r_3 e_4 => ?_)
    obtain ⟨b_5, e_4, rfl⟩ := e_4
    refine lv_istore (lv' := [(7, .int (nI b_5)), (6, .int 0), (0, .ref ho), (1, .ref sp), (2, .int (nI j)), (3, .int w), (4, .int (nI d)), (5, .int (nI n))]) hx hb dX5_canPour_56 hl (by decide) rfl (fun ls hl => ?_)
    refine lv_iconst (v := 0) hx hb dX5_canPour_58 (by decide) ?_
    refine lv_istore (lv' := [(8, .int 0), (7, .int (nI b_5)), (6, .int 0), (0, .ref ho), (1, .ref sp), (2, .int (nI j)), (3, .int w), (4, .int (nI d)), (5, .int (nI n))]) hx hb dX5_canPour_59 hl (by decide) rfl (fun ls hl => ?_)
    have loop61 : ∀ (k i_6 : Nat) (fU_7 : Nat → Int32) (qf_8 : Nat → Int32) (H : Heap) (locs : List Loc) (ls : Array Slot), i_6 + k = T → va_P D vwCl [(ho, .inr (0, [vz_0, vz_1, .int (nI R), .int (nI T), vz_4, vz_5, vz_6, vz_7, .ref aP, vz_9, .ref aH, .ref aU])), (aP, .inl (cI, 6, .inl fP)), (aH, .inl (cI, 6, .inl fH)), (aU, .inl (cI, 6, .inl fU_7)), (sp, .inl (cI, 3, .inl qf_8))] H → va_D A [(ho, .inr (0, [vz_0, vz_1, .int (nI R), .int (nI T), vz_4, vz_5, vz_6, vz_7, .ref aP, vz_9, .ref aH, .ref aU])), (aP, .inl (cI, 6, .inl fP)), (aH, .inl (cI, 6, .inl fH)), (aU, .inl (cI, 6, .inl fU_7)), (sp, .inl (cI, 3, .inl qf_8))] → va_S A s.heap H locs → lv_has ls 12 [(8, .int (nI i_6)), (7, .int (nI b_5)), (6, .int 0), (0, .ref ho), (1, .ref sp), (2, .int (nI j)), (3, .int w), (4, .int (nI d)), (5, .int (nI n))] → W p l e ({ frames := 3, cells := 0, slots := 0, locals := 93 } : Room) s m ([.ref ho, .ref sp, .int (nI j), .int w, .int (nI d), .int (nI n)] : List Value).toArray below meth c H locs 0 0 (MQ below (wt_QI D (fun r w => ∃ (fU2 qf2 : Nat → Int32), w = [(ho, .inr (0, [vz_0, vz_1, .int (nI R), .int (nI T), vz_4, vz_5, vz_6, vz_7, .ref aP, vz_9, .ref aH, .ref aU])), (aP, .inl (cI, 6, .inl fP)), (aH, .inl (cI, 6, .inl fH)), (aU, .inl (cI, 6, .inl fU2)), (sp, .inl (cI, 3, .inl qf2))]) A) ([.ref ho, .ref sp, .int (nI j), .int w, .int (nI d), .int (nI n)] : List Value).toArray s 0 0 A) (F0 m 61 ls []) := by
      intro k
      induction k with
      | zero =>
        intro i_6 fU_7 qf_8 H locs ls hik  hP hD hS hl
        refine lv_iload hx hb dX5_canPour_61 (lv_at hl 0 rfl) ?_
        refine lv_aload_n hx hb dX5_canPour_63 rfl (lv_at hl 3 rfl) ?_
        refine va_get (D := D) (ci := 0) (v := .int (nI T)) (C := RX0) (T := TX0) (N := 12) hx hb hts hi0 hown hK.1 hP 0 rfl rfl 3 (by decide) wf140 (fun _ h9 => h9) rfl dX5_canPour_64 ?_
        refine lv_icmp_ge (tgt := 209) hx hb dX5_canPour_67 (by decide) (fun _ => ?_) (fun h => absurd (nI_le (a := T) (b := i_6) (by omega) (by omega)) h)
        refine lv_iconst (v := 0) hx hb dX5_canPour_209 (by decide) ?_
        have hP9 := hP.sub (ws' := [(ho, .inr (0, [vz_0, vz_1, .int (nI R), .int (nI T), vz_4, vz_5, vz_6, vz_7, .ref aP, vz_9, .ref aH, .ref aU])), (aP, .inl (cI, 6, .inl fP)), (aH, .inl (cI, 6, .inl fH)), (aU, .inl (cI, 6, .inl fU_7)), (sp, .inl (cI, 3, .inl qf_8))]) [0, 1, 2, 3, 4] rfl
        have hD9 := hD.sub (ws' := [(ho, .inr (0, [vz_0, vz_1, .int (nI R), .int (nI T), vz_4, vz_5, vz_6, vz_7, .ref aP, vz_9, .ref aH, .ref aU])), (aP, .inl (cI, 6, .inl fP)), (aH, .inl (cI, 6, .inl fH)), (aU, .inl (cI, 6, .inl fU_7)), (sp, .inl (cI, 3, .inl qf_8))]) [0, 1, 2, 3, 4] (by decide) rfl
        exact wt_zret hx hb hr hlocks (by decide) hP9 hD9 hS ⟨fU_7, qf_8, rfl⟩ dX5_canPour_210
      | succ k ih61 =>
        intro i_6 fU_7 qf_8 H locs ls hik  hP hD hS hl
        refine lv_iload hx hb dX5_canPour_61 (lv_at hl 0 rfl) ?_
        refine lv_aload_n hx hb dX5_canPour_63 rfl (lv_at hl 3 rfl) ?_
        refine va_get (D := D) (ci := 0) (v := .int (nI T)) (C := RX0) (T := TX0) (N := 12) hx hb hts hi0 hown hK.1 hP 0 rfl rfl 3 (by decide) wf140 (fun _ h9 => h9) rfl dX5_canPour_64 ?_
        refine lv_icmp_ge (tgt := 209) hx hb dX5_canPour_67 (by decide) (fun h => absurd h (nI_ge (a := i_6) (b := T) (by omega) (by omega))) (fun _ => ?_)
        refine lv_iconst (v := 0) hx hb dX5_canPour_70 (by decide) ?_
        refine lv_istore (lv' := [(9, .int 0), (8, .int (nI i_6)), (7, .int (nI b_5)), (6, .int 0), (0, .ref ho), (1, .ref sp), (2, .int (nI j)), (3, .int w), (4, .int (nI d)), (5, .int (nI n))]) hx hb dX5_canPour_71 hl (by decide) rfl (fun ls hl => ?_)
        have loop73 : ∀ (k i_9 : Nat) (fU_7_10 : Nat → Int32) (qf_8_11 : Nat → Int32) (H : Heap) (locs : List Loc) (ls : Array Slot), i_9 + k = T → va_P D vwCl [(ho, .inr (0, [vz_0, vz_1, .int (nI R), .int (nI T), vz_4, vz_5, vz_6, vz_7, .ref aP, vz_9, .ref aH, .ref aU])), (aP, .inl (cI, 6, .inl fP)), (aH, .inl (cI, 6, .inl fH)), (aU, .inl (cI, 6, .inl fU_7_10)), (sp, .inl (cI, 3, .inl qf_8_11))] H → va_D A [(ho, .inr (0, [vz_0, vz_1, .int (nI R), .int (nI T), vz_4, vz_5, vz_6, vz_7, .ref aP, vz_9, .ref aH, .ref aU])), (aP, .inl (cI, 6, .inl fP)), (aH, .inl (cI, 6, .inl fH)), (aU, .inl (cI, 6, .inl fU_7_10)), (sp, .inl (cI, 3, .inl qf_8_11))] → va_S A s.heap H locs → lv_has ls 12 [(9, .int (nI i_9)), (8, .int (nI i_6)), (7, .int (nI b_5)), (6, .int 0), (0, .ref ho), (1, .ref sp), (2, .int (nI j)), (3, .int w), (4, .int (nI d)), (5, .int (nI n))] → W p l e ({ frames := 3, cells := 0, slots := 0, locals := 93 } : Room) s m ([.ref ho, .ref sp, .int (nI j), .int w, .int (nI d), .int (nI n)] : List Value).toArray below meth c H locs 0 0 (MQ below (wt_QI D (fun r w => ∃ (fU2 qf2 : Nat → Int32), w = [(ho, .inr (0, [vz_0, vz_1, .int (nI R), .int (nI T), vz_4, vz_5, vz_6, vz_7, .ref aP, vz_9, .ref aH, .ref aU])), (aP, .inl (cI, 6, .inl fP)), (aH, .inl (cI, 6, .inl fH)), (aU, .inl (cI, 6, .inl fU2)), (sp, .inl (cI, 3, .inl qf2))]) A) ([.ref ho, .ref sp, .int (nI j), .int w, .int (nI d), .int (nI n)] : List Value).toArray s 0 0 A) (F0 m 73 ls []) := by
          intro k
          induction k with
          | zero =>
            intro i_9 fU_7_10 qf_8_11 H locs ls hik  hP hD hS hl
            refine lv_iload hx hb dX5_canPour_73 (lv_at hl 0 rfl) ?_
            refine lv_aload_n hx hb dX5_canPour_75 rfl (lv_at hl 4 rfl) ?_
            refine va_get (D := D) (ci := 0) (v := .int (nI T)) (C := RX0) (T := TX0) (N := 12) hx hb hts hi0 hown hK.1 hP 0 rfl rfl 3 (by decide) wf140 (fun _ h9 => h9) rfl dX5_canPour_76 ?_
            refine lv_icmp_ge (tgt := 203) hx hb dX5_canPour_79 (by decide) (fun _ => ?_) (fun h => absurd (nI_le (a := T) (b := i_9) (by omega) (by omega)) h)
            refine lv_iinc (v := nI (i_6 + 1)) (lv' := [(8, .int (nI (i_6 + 1))), (9, .int (nI i_9)), (7, .int (nI b_5)), (6, .int 0), (0, .ref ho), (1, .ref sp), (2, .int (nI j)), (3, .int w), (4, .int (nI d)), (5, .int (nI n))]) hx hb dX5_canPour_203 hl (k := 1) rfl (nI_add i_6 1) (by decide) rfl (fun ls hl => ?_)
            refine lv_goto (tgt := 61) hx hb dX5_canPour_206 (by decide) ?_
            exact ih61 ((i_6 + 1)) fU_7_10 qf_8_11 H locs ls (by omega)  hP hD hS (lv_sub hl [0, 2, 3, 4, 5, 6, 7, 8, 9] rfl)
          | succ k ih73 =>
            intro i_9 fU_7_10 qf_8_11 H locs ls hik  hP hD hS hl
            refine lv_iload hx hb dX5_canPour_73 (lv_at hl 0 rfl) ?_
            refine lv_aload_n hx hb dX5_canPour_75 rfl (lv_at hl 4 rfl) ?_
            refine va_get (D := D) (ci := 0) (v := .int (nI T)) (C := RX0) (T := TX0) (N := 12) hx hb hts hi0 hown hK.1 hP 0 rfl rfl 3 (by decide) wf140 (fun _ h9 => h9) rfl dX5_canPour_76 ?_
            refine lv_icmp_ge (tgt := 203) hx hb dX5_canPour_79 (by decide) (fun h => absurd h (nI_ge (a := i_9) (b := T) (by omega) (by omega))) (fun _ => ?_)
            refine lv_iconst (v := 1) hx hb dX5_canPour_82 (by decide) ?_
            refine lv_iload hx hb dX5_canPour_83 (lv_at hl 1 rfl) ?_
            refine lv_ishl hx hb dX5_canPour_85 ?_
            refine wt_top (z := nI (2 ^ i_6)) (wt_shl1 (by omega)) ?_
            refine lv_iconst (v := 1) hx hb dX5_canPour_86 (by decide) ?_
            refine lv_iload hx hb dX5_canPour_87 (lv_at hl 0 rfl) ?_
            refine lv_ishl hx hb dX5_canPour_89 ?_
            refine wt_top (z := nI (2 ^ i_9)) (wt_shl1 (by omega)) ?_
            refine lv_ior hx hb dX5_canPour_90 ?_
            refine wt_top (z := nI ((2 ^ i_6) ||| (2 ^ i_9))) (wt_or (2 ^ i_6) (2 ^ i_9)) ?_
            refine lv_iload hx hb dX5_canPour_91 (lv_at hl 2 rfl) ?_
            refine wt_rS (As := [.int (nI ((2 ^ i_6) ||| (2 ^ i_9))), .int (nI b_5)]) (rest := []) ⟨hx, hb, hml, hown, hts⟩ (c_X5_isPart l D cI cZ cH (nI ((2 ^ i_6) ||| (2 ^ i_9))) (nI b_5)) (va_cwS 2 hts gX5_canPour_X5_isPart rfl rfl rfl (by decide +kernel) ⟨Nat.le_of_ble_eq_true rfl, Nat.le_of_ble_eq_true rfl⟩) hK hP [] rfl rfl hl.1 rfl (Nat.le_of_ble_eq_true rfl) dX5_canPour_93 ⟨Nat.le_of_ble_eq_true rfl, Nat.le_of_ble_eq_true rfl⟩ (fun r_12 e_13 => ?_)
            refine lv_if_eq (tgt := 120) hx hb dX5_canPour_96 (by decide) (fun c_14 => ?_) (fun c_14 => ?_)
            · skip
              refine lv_iconst (v := 0) hx hb dX5_canPour_120 (by decide) ?_
              refine lv_istore (lv' := [(10, .int 0), (9, .int (nI i_9)), (8, .int (nI i_6)), (7, .int (nI b_5)), (6, .int 0), (0, .ref ho), (1, .ref sp), (2, .int (nI j)), (3, .int w), (4, .int (nI d)), (5, .int (nI n))]) hx hb dX5_canPour_121 hl (by decide) rfl (fun ls hl => ?_)
              refine lv_iload hx hb dX5_canPour_123 (lv_at hl 0 rfl) ?_
              refine lv_if_eq (tgt := 139) hx hb dX5_canPour_125 (by decide) (fun _ => ?_) (fun h => absurd h (by decide))
              refine lv_iconst (v := 0) hx hb dX5_canPour_139 (by decide) ?_
              refine lv_istore (lv' := [(11, .int 0), (10, .int 0), (9, .int (nI i_9)), (8, .int (nI i_6)), (7, .int (nI b_5)), (6, .int 0), (0, .ref ho), (1, .ref sp), (2, .int (nI j)), (3, .int w), (4, .int (nI d)), (5, .int (nI n))]) hx hb dX5_canPour_140 hl (by decide) rfl (fun ls hl => ?_)
              refine lv_iload hx hb dX5_canPour_142 (lv_at hl 0 rfl) ?_
              refine lv_if_le (tgt := 197) hx hb dX5_canPour_144 (by decide) (fun _ => ?_) (fun h => absurd h (by decide))
              refine lv_iinc (v := nI (i_9 + 1)) (lv' := [(9, .int (nI (i_9 + 1))), (11, .int 0), (10, .int 0), (8, .int (nI i_6)), (7, .int (nI b_5)), (6, .int 0), (0, .ref ho), (1, .ref sp), (2, .int (nI j)), (3, .int w), (4, .int (nI d)), (5, .int (nI n))]) hx hb dX5_canPour_197 hl (k := 2) rfl (nI_add i_9 1) (by decide) rfl (fun ls hl => ?_)
              refine lv_goto (tgt := 73) hx hb dX5_canPour_200 (by decide) ?_
              exact ih73 ((i_9 + 1)) fU_7_10 qf_8_11 H locs ls (by omega)  hP hD hS (lv_sub hl [0, 3, 4, 5, 6, 7, 8, 9, 10, 11] rfl)
            · skip
              refine lv_iload hx hb dX5_canPour_99 (lv_at hl 3 rfl) ?_
              refine lv_if_eq (tgt := 116) hx hb dX5_canPour_101 (by decide) (fun _ => ?_) (fun h => absurd h (by decide))
              refine lv_iconst (v := 1) hx hb dX5_canPour_116 (by decide) ?_
              refine lv_goto (tgt := 121) hx hb dX5_canPour_117 (by decide) ?_
              refine lv_istore (lv' := [(10, .int 1), (9, .int (nI i_9)), (8, .int (nI i_6)), (7, .int (nI b_5)), (6, .int 0), (0, .ref ho), (1, .ref sp), (2, .int (nI j)), (3, .int w), (4, .int (nI d)), (5, .int (nI n))]) hx hb dX5_canPour_121 hl (by decide) rfl (fun ls hl => ?_)
              refine lv_iload hx hb dX5_canPour_123 (lv_at hl 0 rfl) ?_
              refine lv_if_eq (tgt := 139) hx hb dX5_canPour_125 (by decide) (fun h => absurd h (by decide)) (fun _ => ?_)
              refine lv_aload_n hx hb dX5_canPour_128 rfl (lv_at hl 5 rfl) ?_
              refine lv_iload hx hb dX5_canPour_129 (lv_at hl 2 rfl) ?_
              refine lv_iload hx hb dX5_canPour_131 (lv_at hl 1 rfl) ?_
              refine wt_rV (As := [.int (nI i_6), .int (nI i_9)]) (rest := []) ⟨hx, hb, hml, hown, hts⟩ (c_X0_pourable l D cI cZ cH ho aP aH aU R T i_6 i_9 fP fH fU_7_10 vz_0 vz_1 vz_4 vz_5 vz_6 vz_7 vz_9 (by first | assumption | omega) (by first | assumption | omega) (by first | assumption | omega) (by first | assumption | omega) (by first | assumption | omega)) (cwV 2 hts gX5_canPour_X0_pourable rfl rfl rfl (by decide +kernel) ⟨Nat.le_of_ble_eq_true rfl, Nat.le_of_ble_eq_true rfl⟩) hK hP [0, 1, 2, 3] rfl (va_recv hK.1 hP (ci := 0) (q0 := 0) rfl rfl) rfl hl.1 rfl (Nat.le_of_ble_eq_true rfl) dX5_canPour_133 ⟨Nat.le_of_ble_eq_true rfl, Nat.le_of_ble_eq_true rfl⟩ (fun r_15 e_16 => ?_)
              refine lv_goto (tgt := 140) hx hb dX5_canPour_136 (by decide) ?_
              refine lv_istore (lv' := [(11, .int r_15), (10, .int 1), (9, .int (nI i_9)), (8, .int (nI i_6)), (7, .int (nI b_5)), (6, .int 0), (0, .ref ho), (1, .ref sp), (2, .int (nI j)), (3, .int w), (4, .int (nI d)), (5, .int (nI n))]) hx hb dX5_canPour_140 hl (by decide) rfl (fun ls hl => ?_)
              refine lv_iload hx hb dX5_canPour_142 (lv_at hl 0 rfl) ?_
              refine lv_if_le (tgt := 197) hx hb dX5_canPour_144 (by decide) (fun c_17 => ?_) (fun c_17 => ?_)
              · skip
                refine lv_iinc (v := nI (i_9 + 1)) (lv' := [(9, .int (nI (i_9 + 1))), (11, .int r_15), (10, .int 1), (8, .int (nI i_6)), (7, .int (nI b_5)), (6, .int 0), (0, .ref ho), (1, .ref sp), (2, .int (nI j)), (3, .int w), (4, .int (nI d)), (5, .int (nI n))]) hx hb dX5_canPour_197 hl (k := 2) rfl (nI_add i_9 1) (by decide) rfl (fun ls hl => ?_)
                refine lv_goto (tgt := 73) hx hb dX5_canPour_200 (by decide) ?_
                exact ih73 ((i_9 + 1)) fU_7_10 qf_8_11 H locs ls (by omega)  hP hD hS (lv_sub hl [0, 3, 4, 5, 6, 7, 8, 9, 10, 11] rfl)
              · skip
                refine lv_aload_n hx hb dX5_canPour_147 rfl (lv_at hl 7 rfl) ?_
                refine lv_iload hx hb dX5_canPour_148 (lv_at hl 10 rfl) ?_
                refine lv_bipush (v := 10) hx hb dX5_canPour_150 (by decide) ?_
                refine lv_iload hx hb dX5_canPour_152 (lv_at hl 3 rfl) ?_
                refine lv_imul hx hb dX5_canPour_154 ?_
                refine wt_top (z := nI (10 * i_6)) (pk_mul 10 i_6) ?_
                refine lv_iload hx hb dX5_canPour_155 (lv_at hl 2 rfl) ?_
                refine lv_iadd hx hb dX5_canPour_157 ?_
                refine wt_top (z := nI ((10 * i_6) + i_9)) (nI_add (10 * i_6) i_9) ?_
                refine va_iast hx hb hK.1 hP hD hS 4 0 rfl rfl (vp_in_nI (by omega) (by omega)) dX5_canPour_158 (fun H locs hP hD hS => ?_)
                have hP : va_P D vwCl [(ho, .inr (0, [vz_0, vz_1, .int (nI R), .int (nI T), vz_4, vz_5, vz_6, vz_7, .ref aP, vz_9, .ref aH, .ref aU])), (aP, .inl (cI, 6, .inl fP)), (aH, .inl (cI, 6, .inl fH)), (aU, .inl (cI, 6, .inl fU_7_10)), (sp, .inl (cI, 3, .inl (upd qf_8_11 ((nI d).toNatClampNeg) (nI ((10 * i_6) + i_9)))))] H := hP
                have hD : va_D A [(ho, .inr (0, [vz_0, vz_1, .int (nI R), .int (nI T), vz_4, vz_5, vz_6, vz_7, .ref aP, vz_9, .ref aH, .ref aU])), (aP, .inl (cI, 6, .inl fP)), (aH, .inl (cI, 6, .inl fH)), (aU, .inl (cI, 6, .inl fU_7_10)), (sp, .inl (cI, 3, .inl (upd qf_8_11 ((nI d).toNatClampNeg) (nI ((10 * i_6) + i_9)))))] := hD
                generalize upd qf_8_11 ((nI d).toNatClampNeg) (nI ((10 * i_6) + i_9)) = qf_8_18 at hP hD
                refine lv_aload_n hx hb dX5_canPour_159 rfl (lv_at hl 6 rfl) ?_
                refine lv_iload hx hb dX5_canPour_160 (lv_at hl 3 rfl) ?_
                refine lv_iload hx hb dX5_canPour_162 (lv_at hl 2 rfl) ?_
                refine lv_iload hx hb dX5_canPour_164 (lv_at hl 0 rfl) ?_
                refine wt_goV (wr := [(aP, .inl (cI, 6, .inl fP)), (aH, .inl (cI, 6, .inl fH)), (sp, .inl (cI, 3, .inl qf_8_18))]) (wt_runV (As := [.int (nI i_6), .int (nI i_9), .int r_15]) (rest := []) ⟨hx, hb, hml, hown, hts⟩ (c_X0_shift l D cI cZ cH ho aU T i_6 i_9 fU_7_10 r_15 vz_0 vz_1 (.int (nI R)) vz_4 vz_5 vz_6 vz_7 (.ref aP) vz_9 (.ref aH) (by first | assumption | omega) (by first | assumption | omega) (by first | assumption | omega)) (cwV 3 hts gX5_canPour_X0_shift rfl rfl rfl (by decide +kernel) ⟨Nat.le_of_ble_eq_true rfl, Nat.le_of_ble_eq_true rfl⟩) hK hP hD [0, 3] rfl (by decide) (va_recv hK.1 hP (ci := 0) (q0 := 0) rfl rfl) rfl hl.1 rfl (Nat.le_of_ble_eq_true rfl) dX5_canPour_166 ⟨Nat.le_of_ble_eq_true rfl, Nat.le_of_ble_eq_true rfl⟩) hP hD hS hA [0, 3] [1, 2, 4] rfl rfl (by decide) (by decide) (fun w_20 H locs h_21 hP hD hS => ?_)
                obtain ⟨fU2_22, rfl⟩ := h_21
                have hP : va_P D vwCl [(aP, .inl (cI, 6, .inl fP)), (aH, .inl (cI, 6, .inl fH)), (sp, .inl (cI, 3, .inl qf_8_18)), (ho, .inr (0, [vz_0, vz_1, .int (nI R), .int (nI T), vz_4, vz_5, vz_6, vz_7, .ref aP, vz_9, .ref aH, .ref aU])), (aU, .inl (cI, 6, .inl fU2_22))] H := hP
                have hD : va_D A [(aP, .inl (cI, 6, .inl fP)), (aH, .inl (cI, 6, .inl fH)), (sp, .inl (cI, 3, .inl qf_8_18)), (ho, .inr (0, [vz_0, vz_1, .int (nI R), .int (nI T), vz_4, vz_5, vz_6, vz_7, .ref aP, vz_9, .ref aH, .ref aU])), (aU, .inl (cI, 6, .inl fU2_22))] := hD
                refine lv_aload_n hx hb dX5_canPour_169 rfl (lv_at hl 6 rfl) ?_
                refine lv_aload_n hx hb dX5_canPour_170 rfl (lv_at hl 7 rfl) ?_
                refine lv_iload_n hx hb dX5_canPour_171 rfl (lv_at hl 8 rfl) ?_
                refine lv_iload_n hx hb dX5_canPour_172 rfl (lv_at hl 9 rfl) ?_
                refine lv_iload hx hb dX5_canPour_173 (lv_at hl 10 rfl) ?_
                refine lv_iconst (v := 1) hx hb dX5_canPour_175 (by decide) ?_
                refine lv_iadd hx hb dX5_canPour_176 ?_
                refine wt_top (z := nI (d + 1)) (nI_add d 1) ?_
                refine lv_iload hx hb dX5_canPour_177 (lv_at hl 11 rfl) ?_
                refine wt_goI (wr := []) (wt_runS (As := [.ref ho, .ref sp, .int (nI j), .int w, .int (nI (d + 1)), .int (nI n)]) (rest := []) ⟨hx, hb, hml, hown, hts⟩ (c_X5_canPour_1 l D cI cZ cH ho aP aH aU R T j (d + 1) n fP fH fU2_22 sp qf_8_18 w vz_0 vz_1 vz_4 vz_5 vz_6 vz_7 vz_9 (by first | assumption | omega) (by first | assumption | omega) (by first | assumption | omega) (by first | assumption | omega) (by first | assumption | omega) (by first | assumption | omega)) (va_cwS 6 hts gX5_canPour_X5_canPour rfl rfl rfl (by decide +kernel) ⟨Nat.le_of_ble_eq_true rfl, Nat.le_of_ble_eq_true rfl⟩) hK hP hD [3, 0, 1, 4, 2] rfl (by decide) rfl hl.1 rfl (Nat.le_of_ble_eq_true rfl) dX5_canPour_179 ⟨Nat.le_of_ble_eq_true rfl, Nat.le_of_ble_eq_true rfl⟩) hP hD hS hA [3, 0, 1, 4, 2] [] rfl rfl (by decide) (by decide) (fun r_23 w_24 H locs h_25 hP hD hS => ?_)
                obtain ⟨fU2_26, qf2_27, rfl⟩ := h_25
                have hP : va_P D vwCl [(ho, .inr (0, [vz_0, vz_1, .int (nI R), .int (nI T), vz_4, vz_5, vz_6, vz_7, .ref aP, vz_9, .ref aH, .ref aU])), (aP, .inl (cI, 6, .inl fP)), (aH, .inl (cI, 6, .inl fH)), (aU, .inl (cI, 6, .inl fU2_26)), (sp, .inl (cI, 3, .inl qf2_27))] H := hP
                have hD : va_D A [(ho, .inr (0, [vz_0, vz_1, .int (nI R), .int (nI T), vz_4, vz_5, vz_6, vz_7, .ref aP, vz_9, .ref aH, .ref aU])), (aP, .inl (cI, 6, .inl fP)), (aH, .inl (cI, 6, .inl fH)), (aU, .inl (cI, 6, .inl fU2_26)), (sp, .inl (cI, 3, .inl qf2_27))] := hD
                refine lv_if_eq (tgt := 187) hx hb dX5_canPour_182 (by decide) (fun c_28 => ?_) (fun c_28 => ?_)
                · skip
                  refine lv_aload_n hx hb dX5_canPour_187 rfl (lv_at hl 6 rfl) ?_
                  refine lv_iload hx hb dX5_canPour_188 (lv_at hl 2 rfl) ?_
                  refine lv_iload hx hb dX5_canPour_190 (lv_at hl 3 rfl) ?_
                  refine lv_iload hx hb dX5_canPour_192 (lv_at hl 0 rfl) ?_
                  refine wt_goV (wr := [(aP, .inl (cI, 6, .inl fP)), (aH, .inl (cI, 6, .inl fH)), (sp, .inl (cI, 3, .inl qf2_27))]) (wt_runV (As := [.int (nI i_9), .int (nI i_6), .int r_15]) (rest := []) ⟨hx, hb, hml, hown, hts⟩ (c_X0_shift l D cI cZ cH ho aU T i_9 i_6 fU2_26 r_15 vz_0 vz_1 (.int (nI R)) vz_4 vz_5 vz_6 vz_7 (.ref aP) vz_9 (.ref aH) (by first | assumption | omega) (by first | assumption | omega) (by first | assumption | omega)) (cwV 3 hts gX5_canPour_X0_shift rfl rfl rfl (by decide +kernel) ⟨Nat.le_of_ble_eq_true rfl, Nat.le_of_ble_eq_true rfl⟩) hK hP hD [0, 3] rfl (by decide) (va_recv hK.1 hP (ci := 0) (q0 := 0) rfl rfl) rfl hl.1 rfl (Nat.le_of_ble_eq_true rfl) dX5_canPour_194 ⟨Nat.le_of_ble_eq_true rfl, Nat.le_of_ble_eq_true rfl⟩) hP hD hS hA [0, 3] [1, 2, 4] rfl rfl (by decide) (by decide) (fun w_30 H locs h_31 hP hD hS => ?_)
                  obtain ⟨fU2_32, rfl⟩ := h_31
                  have hP : va_P D vwCl [(aP, .inl (cI, 6, .inl fP)), (aH, .inl (cI, 6, .inl fH)), (sp, .inl (cI, 3, .inl qf2_27)), (ho, .inr (0, [vz_0, vz_1, .int (nI R), .int (nI T), vz_4, vz_5, vz_6, vz_7, .ref aP, vz_9, .ref aH, .ref aU])), (aU, .inl (cI, 6, .inl fU2_32))] H := hP
                  have hD : va_D A [(aP, .inl (cI, 6, .inl fP)), (aH, .inl (cI, 6, .inl fH)), (sp, .inl (cI, 3, .inl qf2_27)), (ho, .inr (0, [vz_0, vz_1, .int (nI R), .int (nI T), vz_4, vz_5, vz_6, vz_7, .ref aP, vz_9, .ref aH, .ref aU])), (aU, .inl (cI, 6, .inl fU2_32))] := hD
                  refine lv_iinc (v := nI (i_9 + 1)) (lv' := [(9, .int (nI (i_9 + 1))), (11, .int r_15), (10, .int 1), (8, .int (nI i_6)), (7, .int (nI b_5)), (6, .int 0), (0, .ref ho), (1, .ref sp), (2, .int (nI j)), (3, .int w), (4, .int (nI d)), (5, .int (nI n))]) hx hb dX5_canPour_197 hl (k := 2) rfl (nI_add i_9 1) (by decide) rfl (fun ls hl => ?_)
                  refine lv_goto (tgt := 73) hx hb dX5_canPour_200 (by decide) ?_
                  exact ih73 ((i_9 + 1)) fU2_32 qf2_27 H locs ls (by omega)  (hP.sub [3, 0, 1, 4, 2] rfl) (hD.sub [3, 0, 1, 4, 2] (by decide) rfl) hS (lv_sub hl [0, 3, 4, 5, 6, 7, 8, 9, 10, 11] rfl)
                · skip
                  refine lv_iconst (v := 1) hx hb dX5_canPour_185 (by decide) ?_
                  have hP9 := hP.sub (ws' := [(ho, .inr (0, [vz_0, vz_1, .int (nI R), .int (nI T), vz_4, vz_5, vz_6, vz_7, .ref aP, vz_9, .ref aH, .ref aU])), (aP, .inl (cI, 6, .inl fP)), (aH, .inl (cI, 6, .inl fH)), (aU, .inl (cI, 6, .inl fU2_26)), (sp, .inl (cI, 3, .inl qf2_27))]) [0, 1, 2, 3, 4] rfl
                  have hD9 := hD.sub (ws' := [(ho, .inr (0, [vz_0, vz_1, .int (nI R), .int (nI T), vz_4, vz_5, vz_6, vz_7, .ref aP, vz_9, .ref aH, .ref aU])), (aP, .inl (cI, 6, .inl fP)), (aH, .inl (cI, 6, .inl fH)), (aU, .inl (cI, 6, .inl fU2_26)), (sp, .inl (cI, 3, .inl qf2_27))]) [0, 1, 2, 3, 4] (by decide) rfl
                  exact wt_zret hx hb hr hlocks (by decide) hP9 hD9 hS ⟨fU2_26, qf2_27, rfl⟩ dX5_canPour_186
        exact loop73 (T - 0) (0) fU_7 qf_8 _ _ ls (by omega)  hP hD hS hl
    exact loop61 (T - 0) (0) fU qf _ _ ls (by omega)  hP hD hS hl
  · skip
    have c_1 : d = (n - 1) := (nI_eq (a := d) (b := (n - 1)) (by omega) (by omega)).mp c_1
    refine lv_iconst (v := 1) hx hb dX5_canPour_39 (by decide) ?_
    refine lv_goto (tgt := 44) hx hb dX5_canPour_40 (by decide) ?_
    refine lv_istore (lv' := [(6, .int 1), (0, .ref ho), (1, .ref sp), (2, .int (nI j)), (3, .int w), (4, .int (nI d)), (5, .int (nI n))]) hx hb dX5_canPour_44 hl (by decide) rfl (fun ls hl => ?_)
    refine lv_aload_n hx hb dX5_canPour_46 rfl (lv_at hl 1 rfl) ?_
    refine lv_aload_n hx hb dX5_canPour_47 rfl (lv_at hl 1 rfl) ?_
    refine va_get (D := D) (ci := 0) (v := .ref aP) (C := RX0) (T := TX0) (N := 12) hx hb hts hi0 hown hK.1 hP 0 rfl rfl 8 (by decide) wf172 (fun _ h9 => h9) rfl dX5_canPour_48 ?_
    refine lv_iload_n hx hb dX5_canPour_51 rfl (lv_at hl 3 rfl) ?_
    refine va_iald hx hb hK.1 hP 1 0 rfl rfl (vp_in_nI (by omega) (by omega)) dX5_canPour_52 ?_
    obtain ⟨q_33, hq_33, eq_33⟩ := hwP j (by omega)
    refine wt_top (z := nI q_33) (by rw [nI_clamp (by omega)]; exact eq_33) ?_
    refine wt_rV (As := [.int (nI q_33)]) (rest := []) ⟨hx, hb, hml, hown, hts⟩ (c_X0_tubesAt l D cI cZ cH ho aP T fP (nI q_33) vz_0 vz_1 (.int (nI R)) vz_4 vz_5 vz_6 vz_7 vz_9 (.ref aH) (.ref aU) (by first | assumption | omega)) (cwV 1 hts gX5_canPour_X0_tubesAt rfl rfl rfl (by decide +kernel) ⟨Nat.le_of_ble_eq_true rfl, Nat.le_of_ble_eq_true rfl⟩) hK hP [0, 1] rfl (va_recv hK.1 hP (ci := 0) (q0 := 0) rfl rfl) rfl hl.1 rfl (Nat.le_of_ble_eq_true rfl) dX5_canPour_53 ⟨Nat.le_of_ble_eq_true rfl, Nat.le_of_ble_eq_true rfl⟩ (fun r_34 e_35 => ?_)
    obtain ⟨b_36, e_35, rfl⟩ := e_35
    refine lv_istore (lv' := [(7, .int (nI b_36)), (6, .int 1), (0, .ref ho), (1, .ref sp), (2, .int (nI j)), (3, .int w), (4, .int (nI d)), (5, .int (nI n))]) hx hb dX5_canPour_56 hl (by decide) rfl (fun ls hl => ?_)
    refine lv_iconst (v := 0) hx hb dX5_canPour_58 (by decide) ?_
    refine lv_istore (lv' := [(8, .int 0), (7, .int (nI b_36)), (6, .int 1), (0, .ref ho), (1, .ref sp), (2, .int (nI j)), (3, .int w), (4, .int (nI d)), (5, .int (nI n))]) hx hb dX5_canPour_59 hl (by decide) rfl (fun ls hl => ?_)
    have loop61 : ∀ (k i_37 : Nat) (fU_38 : Nat → Int32) (qf_39 : Nat → Int32) (H : Heap) (locs : List Loc) (ls : Array Slot), i_37 + k = T → va_P D vwCl [(ho, .inr (0, [vz_0, vz_1, .int (nI R), .int (nI T), vz_4, vz_5, vz_6, vz_7, .ref aP, vz_9, .ref aH, .ref aU])), (aP, .inl (cI, 6, .inl fP)), (aH, .inl (cI, 6, .inl fH)), (aU, .inl (cI, 6, .inl fU_38)), (sp, .inl (cI, 3, .inl qf_39))] H → va_D A [(ho, .inr (0, [vz_0, vz_1, .int (nI R), .int (nI T), vz_4, vz_5, vz_6, vz_7, .ref aP, vz_9, .ref aH, .ref aU])), (aP, .inl (cI, 6, .inl fP)), (aH, .inl (cI, 6, .inl fH)), (aU, .inl (cI, 6, .inl fU_38)), (sp, .inl (cI, 3, .inl qf_39))] → va_S A s.heap H locs → lv_has ls 12 [(8, .int (nI i_37)), (7, .int (nI b_36)), (6, .int 1), (0, .ref ho), (1, .ref sp), (2, .int (nI j)), (3, .int w), (4, .int (nI d)), (5, .int (nI n))] → W p l e ({ frames := 3, cells := 0, slots := 0, locals := 93 } : Room) s m ([.ref ho, .ref sp, .int (nI j), .int w, .int (nI d), .int (nI n)] : List Value).toArray below meth c H locs 0 0 (MQ below (wt_QI D (fun r w => ∃ (fU2 qf2 : Nat → Int32), w = [(ho, .inr (0, [vz_0, vz_1, .int (nI R), .int (nI T), vz_4, vz_5, vz_6, vz_7, .ref aP, vz_9, .ref aH, .ref aU])), (aP, .inl (cI, 6, .inl fP)), (aH, .inl (cI, 6, .inl fH)), (aU, .inl (cI, 6, .inl fU2)), (sp, .inl (cI, 3, .inl qf2))]) A) ([.ref ho, .ref sp, .int (nI j), .int w, .int (nI d), .int (nI n)] : List Value).toArray s 0 0 A) (F0 m 61 ls []) := by
      intro k
      induction k with
      | zero =>
        intro i_37 fU_38 qf_39 H locs ls hik  hP hD hS hl
        refine lv_iload hx hb dX5_canPour_61 (lv_at hl 0 rfl) ?_
        refine lv_aload_n hx hb dX5_canPour_63 rfl (lv_at hl 3 rfl) ?_
        refine va_get (D := D) (ci := 0) (v := .int (nI T)) (C := RX0) (T := TX0) (N := 12) hx hb hts hi0 hown hK.1 hP 0 rfl rfl 3 (by decide) wf140 (fun _ h9 => h9) rfl dX5_canPour_64 ?_
        refine lv_icmp_ge (tgt := 209) hx hb dX5_canPour_67 (by decide) (fun _ => ?_) (fun h => absurd (nI_le (a := T) (b := i_37) (by omega) (by omega)) h)
        refine lv_iconst (v := 0) hx hb dX5_canPour_209 (by decide) ?_
        have hP9 := hP.sub (ws' := [(ho, .inr (0, [vz_0, vz_1, .int (nI R), .int (nI T), vz_4, vz_5, vz_6, vz_7, .ref aP, vz_9, .ref aH, .ref aU])), (aP, .inl (cI, 6, .inl fP)), (aH, .inl (cI, 6, .inl fH)), (aU, .inl (cI, 6, .inl fU_38)), (sp, .inl (cI, 3, .inl qf_39))]) [0, 1, 2, 3, 4] rfl
        have hD9 := hD.sub (ws' := [(ho, .inr (0, [vz_0, vz_1, .int (nI R), .int (nI T), vz_4, vz_5, vz_6, vz_7, .ref aP, vz_9, .ref aH, .ref aU])), (aP, .inl (cI, 6, .inl fP)), (aH, .inl (cI, 6, .inl fH)), (aU, .inl (cI, 6, .inl fU_38)), (sp, .inl (cI, 3, .inl qf_39))]) [0, 1, 2, 3, 4] (by decide) rfl
        exact wt_zret hx hb hr hlocks (by decide) hP9 hD9 hS ⟨fU_38, qf_39, rfl⟩ dX5_canPour_210
      | succ k ih61 =>
        intro i_37 fU_38 qf_39 H locs ls hik  hP hD hS hl
        refine lv_iload hx hb dX5_canPour_61 (lv_at hl 0 rfl) ?_
        refine lv_aload_n hx hb dX5_canPour_63 rfl (lv_at hl 3 rfl) ?_
        refine va_get (D := D) (ci := 0) (v := .int (nI T)) (C := RX0) (T := TX0) (N := 12) hx hb hts hi0 hown hK.1 hP 0 rfl rfl 3 (by decide) wf140 (fun _ h9 => h9) rfl dX5_canPour_64 ?_
        refine lv_icmp_ge (tgt := 209) hx hb dX5_canPour_67 (by decide) (fun h => absurd h (nI_ge (a := i_37) (b := T) (by omega) (by omega))) (fun _ => ?_)
        refine lv_iconst (v := 0) hx hb dX5_canPour_70 (by decide) ?_
        refine lv_istore (lv' := [(9, .int 0), (8, .int (nI i_37)), (7, .int (nI b_36)), (6, .int 1), (0, .ref ho), (1, .ref sp), (2, .int (nI j)), (3, .int w), (4, .int (nI d)), (5, .int (nI n))]) hx hb dX5_canPour_71 hl (by decide) rfl (fun ls hl => ?_)
        have loop73 : ∀ (k i_40 : Nat) (fU_38_41 : Nat → Int32) (qf_39_42 : Nat → Int32) (H : Heap) (locs : List Loc) (ls : Array Slot), i_40 + k = T → va_P D vwCl [(ho, .inr (0, [vz_0, vz_1, .int (nI R), .int (nI T), vz_4, vz_5, vz_6, vz_7, .ref aP, vz_9, .ref aH, .ref aU])), (aP, .inl (cI, 6, .inl fP)), (aH, .inl (cI, 6, .inl fH)), (aU, .inl (cI, 6, .inl fU_38_41)), (sp, .inl (cI, 3, .inl qf_39_42))] H → va_D A [(ho, .inr (0, [vz_0, vz_1, .int (nI R), .int (nI T), vz_4, vz_5, vz_6, vz_7, .ref aP, vz_9, .ref aH, .ref aU])), (aP, .inl (cI, 6, .inl fP)), (aH, .inl (cI, 6, .inl fH)), (aU, .inl (cI, 6, .inl fU_38_41)), (sp, .inl (cI, 3, .inl qf_39_42))] → va_S A s.heap H locs → lv_has ls 12 [(9, .int (nI i_40)), (8, .int (nI i_37)), (7, .int (nI b_36)), (6, .int 1), (0, .ref ho), (1, .ref sp), (2, .int (nI j)), (3, .int w), (4, .int (nI d)), (5, .int (nI n))] → W p l e ({ frames := 3, cells := 0, slots := 0, locals := 93 } : Room) s m ([.ref ho, .ref sp, .int (nI j), .int w, .int (nI d), .int (nI n)] : List Value).toArray below meth c H locs 0 0 (MQ below (wt_QI D (fun r w => ∃ (fU2 qf2 : Nat → Int32), w = [(ho, .inr (0, [vz_0, vz_1, .int (nI R), .int (nI T), vz_4, vz_5, vz_6, vz_7, .ref aP, vz_9, .ref aH, .ref aU])), (aP, .inl (cI, 6, .inl fP)), (aH, .inl (cI, 6, .inl fH)), (aU, .inl (cI, 6, .inl fU2)), (sp, .inl (cI, 3, .inl qf2))]) A) ([.ref ho, .ref sp, .int (nI j), .int w, .int (nI d), .int (nI n)] : List Value).toArray s 0 0 A) (F0 m 73 ls []) := by
          intro k
          induction k with
          | zero =>
            intro i_40 fU_38_41 qf_39_42 H locs ls hik  hP hD hS hl
            refine lv_iload hx hb dX5_canPour_73 (lv_at hl 0 rfl) ?_
            refine lv_aload_n hx hb dX5_canPour_75 rfl (lv_at hl 4 rfl) ?_
            refine va_get (D := D) (ci := 0) (v := .int (nI T)) (C := RX0) (T := TX0) (N := 12) hx hb hts hi0 hown hK.1 hP 0 rfl rfl 3 (by decide) wf140 (fun _ h9 => h9) rfl dX5_canPour_76 ?_
            refine lv_icmp_ge (tgt := 203) hx hb dX5_canPour_79 (by decide) (fun _ => ?_) (fun h => absurd (nI_le (a := T) (b := i_40) (by omega) (by omega)) h)
            refine lv_iinc (v := nI (i_37 + 1)) (lv' := [(8, .int (nI (i_37 + 1))), (9, .int (nI i_40)), (7, .int (nI b_36)), (6, .int 1), (0, .ref ho), (1, .ref sp), (2, .int (nI j)), (3, .int w), (4, .int (nI d)), (5, .int (nI n))]) hx hb dX5_canPour_203 hl (k := 1) rfl (nI_add i_37 1) (by decide) rfl (fun ls hl => ?_)
            refine lv_goto (tgt := 61) hx hb dX5_canPour_206 (by decide) ?_
            exact ih61 ((i_37 + 1)) fU_38_41 qf_39_42 H locs ls (by omega)  hP hD hS (lv_sub hl [0, 2, 3, 4, 5, 6, 7, 8, 9] rfl)
          | succ k ih73 =>
            intro i_40 fU_38_41 qf_39_42 H locs ls hik  hP hD hS hl
            refine lv_iload hx hb dX5_canPour_73 (lv_at hl 0 rfl) ?_
            refine lv_aload_n hx hb dX5_canPour_75 rfl (lv_at hl 4 rfl) ?_
            refine va_get (D := D) (ci := 0) (v := .int (nI T)) (C := RX0) (T := TX0) (N := 12) hx hb hts hi0 hown hK.1 hP 0 rfl rfl 3 (by decide) wf140 (fun _ h9 => h9) rfl dX5_canPour_76 ?_
            refine lv_icmp_ge (tgt := 203) hx hb dX5_canPour_79 (by decide) (fun h => absurd h (nI_ge (a := i_40) (b := T) (by omega) (by omega))) (fun _ => ?_)
            refine lv_iconst (v := 1) hx hb dX5_canPour_82 (by decide) ?_
            refine lv_iload hx hb dX5_canPour_83 (lv_at hl 1 rfl) ?_
            refine lv_ishl hx hb dX5_canPour_85 ?_
            refine wt_top (z := nI (2 ^ i_37)) (wt_shl1 (by omega)) ?_
            refine lv_iconst (v := 1) hx hb dX5_canPour_86 (by decide) ?_
            refine lv_iload hx hb dX5_canPour_87 (lv_at hl 0 rfl) ?_
            refine lv_ishl hx hb dX5_canPour_89 ?_
            refine wt_top (z := nI (2 ^ i_40)) (wt_shl1 (by omega)) ?_
            refine lv_ior hx hb dX5_canPour_90 ?_
            refine wt_top (z := nI ((2 ^ i_37) ||| (2 ^ i_40))) (wt_or (2 ^ i_37) (2 ^ i_40)) ?_
            refine lv_iload hx hb dX5_canPour_91 (lv_at hl 2 rfl) ?_
            refine wt_rS (As := [.int (nI ((2 ^ i_37) ||| (2 ^ i_40))), .int (nI b_36)]) (rest := []) ⟨hx, hb, hml, hown, hts⟩ (c_X5_isPart l D cI cZ cH (nI ((2 ^ i_37) ||| (2 ^ i_40))) (nI b_36)) (va_cwS 2 hts gX5_canPour_X5_isPart rfl rfl rfl (by decide +kernel) ⟨Nat.le_of_ble_eq_true rfl, Nat.le_of_ble_eq_true rfl⟩) hK hP [] rfl rfl hl.1 rfl (Nat.le_of_ble_eq_true rfl) dX5_canPour_93 ⟨Nat.le_of_ble_eq_true rfl, Nat.le_of_ble_eq_true rfl⟩ (fun r_43 e_44 => ?_)
            refine lv_if_eq (tgt := 120) hx hb dX5_canPour_96 (by decide) (fun c_45 => ?_) (fun c_45 => ?_)
            · skip
              refine lv_iconst (v := 0) hx hb dX5_canPour_120 (by decide) ?_
              refine lv_istore (lv' := [(10, .int 0), (9, .int (nI i_40)), (8, .int (nI i_37)), (7, .int (nI b_36)), (6, .int 1), (0, .ref ho), (1, .ref sp), (2, .int (nI j)), (3, .int w), (4, .int (nI d)), (5, .int (nI n))]) hx hb dX5_canPour_121 hl (by decide) rfl (fun ls hl => ?_)
              refine lv_iload hx hb dX5_canPour_123 (lv_at hl 0 rfl) ?_
              refine lv_if_eq (tgt := 139) hx hb dX5_canPour_125 (by decide) (fun _ => ?_) (fun h => absurd h (by decide))
              refine lv_iconst (v := 0) hx hb dX5_canPour_139 (by decide) ?_
              refine lv_istore (lv' := [(11, .int 0), (10, .int 0), (9, .int (nI i_40)), (8, .int (nI i_37)), (7, .int (nI b_36)), (6, .int 1), (0, .ref ho), (1, .ref sp), (2, .int (nI j)), (3, .int w), (4, .int (nI d)), (5, .int (nI n))]) hx hb dX5_canPour_140 hl (by decide) rfl (fun ls hl => ?_)
              refine lv_iload hx hb dX5_canPour_142 (lv_at hl 0 rfl) ?_
              refine lv_if_le (tgt := 197) hx hb dX5_canPour_144 (by decide) (fun _ => ?_) (fun h => absurd h (by decide))
              refine lv_iinc (v := nI (i_40 + 1)) (lv' := [(9, .int (nI (i_40 + 1))), (11, .int 0), (10, .int 0), (8, .int (nI i_37)), (7, .int (nI b_36)), (6, .int 1), (0, .ref ho), (1, .ref sp), (2, .int (nI j)), (3, .int w), (4, .int (nI d)), (5, .int (nI n))]) hx hb dX5_canPour_197 hl (k := 2) rfl (nI_add i_40 1) (by decide) rfl (fun ls hl => ?_)
              refine lv_goto (tgt := 73) hx hb dX5_canPour_200 (by decide) ?_
              exact ih73 ((i_40 + 1)) fU_38_41 qf_39_42 H locs ls (by omega)  hP hD hS (lv_sub hl [0, 3, 4, 5, 6, 7, 8, 9, 10, 11] rfl)
            · skip
              refine lv_iload hx hb dX5_canPour_99 (lv_at hl 3 rfl) ?_
              refine lv_if_eq (tgt := 116) hx hb dX5_canPour_101 (by decide) (fun h => absurd h (by decide)) (fun _ => ?_)
              refine lv_iload hx hb dX5_canPour_104 (lv_at hl 1 rfl) ?_
              refine lv_iload_n hx hb dX5_canPour_106 rfl (lv_at hl 6 rfl) ?_
              refine lv_icmp_eq (tgt := 116) hx hb dX5_canPour_107 (by decide) (fun c_46 => ?_) (fun c_46 => ?_)
              · skip
                have c_46 : i_37 = j := (nI_eq (a := i_37) (b := j) (by omega) (by omega)).mp c_46
                refine lv_iconst (v := 1) hx hb dX5_canPour_116 (by decide) ?_
                refine lv_goto (tgt := 121) hx hb dX5_canPour_117 (by decide) ?_
                refine lv_istore (lv' := [(10, .int 1), (9, .int (nI i_40)), (8, .int (nI i_37)), (7, .int (nI b_36)), (6, .int 1), (0, .ref ho), (1, .ref sp), (2, .int (nI j)), (3, .int w), (4, .int (nI d)), (5, .int (nI n))]) hx hb dX5_canPour_121 hl (by decide) rfl (fun ls hl => ?_)
                refine lv_iload hx hb dX5_canPour_123 (lv_at hl 0 rfl) ?_
                refine lv_if_eq (tgt := 139) hx hb dX5_canPour_125 (by decide) (fun h => absurd h (by decide)) (fun _ => ?_)
                refine lv_aload_n hx hb dX5_canPour_128 rfl (lv_at hl 5 rfl) ?_
                refine lv_iload hx hb dX5_canPour_129 (lv_at hl 2 rfl) ?_
                refine lv_iload hx hb dX5_canPour_131 (lv_at hl 1 rfl) ?_
                refine wt_rV (As := [.int (nI i_37), .int (nI i_40)]) (rest := []) ⟨hx, hb, hml, hown, hts⟩ (c_X0_pourable l D cI cZ cH ho aP aH aU R T i_37 i_40 fP fH fU_38_41 vz_0 vz_1 vz_4 vz_5 vz_6 vz_7 vz_9 (by first | assumption | omega) (by first | assumption | omega) (by first | assumption | omega) (by first | assumption | omega) (by first | assumption | omega)) (cwV 2 hts gX5_canPour_X0_pourable rfl rfl rfl (by decide +kernel) ⟨Nat.le_of_ble_eq_true rfl, Nat.le_of_ble_eq_true rfl⟩) hK hP [0, 1, 2, 3] rfl (va_recv hK.1 hP (ci := 0) (q0 := 0) rfl rfl) rfl hl.1 rfl (Nat.le_of_ble_eq_true rfl) dX5_canPour_133 ⟨Nat.le_of_ble_eq_true rfl, Nat.le_of_ble_eq_true rfl⟩ (fun r_47 e_48 => ?_)
                refine lv_goto (tgt := 140) hx hb dX5_canPour_136 (by decide) ?_
                refine lv_istore (lv' := [(11, .int r_47), (10, .int 1), (9, .int (nI i_40)), (8, .int (nI i_37)), (7, .int (nI b_36)), (6, .int 1), (0, .ref ho), (1, .ref sp), (2, .int (nI j)), (3, .int w), (4, .int (nI d)), (5, .int (nI n))]) hx hb dX5_canPour_140 hl (by decide) rfl (fun ls hl => ?_)
                refine lv_iload hx hb dX5_canPour_142 (lv_at hl 0 rfl) ?_
                refine lv_if_le (tgt := 197) hx hb dX5_canPour_144 (by decide) (fun c_49 => ?_) (fun c_49 => ?_)
                · skip
                  refine lv_iinc (v := nI (i_40 + 1)) (lv' := [(9, .int (nI (i_40 + 1))), (11, .int r_47), (10, .int 1), (8, .int (nI i_37)), (7, .int (nI b_36)), (6, .int 1), (0, .ref ho), (1, .ref sp), (2, .int (nI j)), (3, .int w), (4, .int (nI d)), (5, .int (nI n))]) hx hb dX5_canPour_197 hl (k := 2) rfl (nI_add i_40 1) (by decide) rfl (fun ls hl => ?_)
                  refine lv_goto (tgt := 73) hx hb dX5_canPour_200 (by decide) ?_
                  exact ih73 ((i_40 + 1)) fU_38_41 qf_39_42 H locs ls (by omega)  hP hD hS (lv_sub hl [0, 3, 4, 5, 6, 7, 8, 9, 10, 11] rfl)
                · skip
                  refine lv_aload_n hx hb dX5_canPour_147 rfl (lv_at hl 7 rfl) ?_
                  refine lv_iload hx hb dX5_canPour_148 (lv_at hl 10 rfl) ?_
                  refine lv_bipush (v := 10) hx hb dX5_canPour_150 (by decide) ?_
                  refine lv_iload hx hb dX5_canPour_152 (lv_at hl 3 rfl) ?_
                  refine lv_imul hx hb dX5_canPour_154 ?_
                  refine wt_top (z := nI (10 * i_37)) (pk_mul 10 i_37) ?_
                  refine lv_iload hx hb dX5_canPour_155 (lv_at hl 2 rfl) ?_
                  refine lv_iadd hx hb dX5_canPour_157 ?_
                  refine wt_top (z := nI ((10 * i_37) + i_40)) (nI_add (10 * i_37) i_40) ?_
                  refine va_iast hx hb hK.1 hP hD hS 4 0 rfl rfl (vp_in_nI (by omega) (by omega)) dX5_canPour_158 (fun H locs hP hD hS => ?_)
                  have hP : va_P D vwCl [(ho, .inr (0, [vz_0, vz_1, .int (nI R), .int (nI T), vz_4, vz_5, vz_6, vz_7, .ref aP, vz_9, .ref aH, .ref aU])), (aP, .inl (cI, 6, .inl fP)), (aH, .inl (cI, 6, .inl fH)), (aU, .inl (cI, 6, .inl fU_38_41)), (sp, .inl (cI, 3, .inl (upd qf_39_42 ((nI d).toNatClampNeg) (nI ((10 * i_37) + i_40)))))] H := hP
                  have hD : va_D A [(ho, .inr (0, [vz_0, vz_1, .int (nI R), .int (nI T), vz_4, vz_5, vz_6, vz_7, .ref aP, vz_9, .ref aH, .ref aU])), (aP, .inl (cI, 6, .inl fP)), (aH, .inl (cI, 6, .inl fH)), (aU, .inl (cI, 6, .inl fU_38_41)), (sp, .inl (cI, 3, .inl (upd qf_39_42 ((nI d).toNatClampNeg) (nI ((10 * i_37) + i_40)))))] := hD
                  generalize upd qf_39_42 ((nI d).toNatClampNeg) (nI ((10 * i_37) + i_40)) = qf_39_50 at hP hD
                  refine lv_aload_n hx hb dX5_canPour_159 rfl (lv_at hl 6 rfl) ?_
                  refine lv_iload hx hb dX5_canPour_160 (lv_at hl 3 rfl) ?_
                  refine lv_iload hx hb dX5_canPour_162 (lv_at hl 2 rfl) ?_
                  refine lv_iload hx hb dX5_canPour_164 (lv_at hl 0 rfl) ?_
                  refine wt_goV (wr := [(aP, .inl (cI, 6, .inl fP)), (aH, .inl (cI, 6, .inl fH)), (sp, .inl (cI, 3, .inl qf_39_50))]) (wt_runV (As := [.int (nI i_37), .int (nI i_40), .int r_47]) (rest := []) ⟨hx, hb, hml, hown, hts⟩ (c_X0_shift l D cI cZ cH ho aU T i_37 i_40 fU_38_41 r_47 vz_0 vz_1 (.int (nI R)) vz_4 vz_5 vz_6 vz_7 (.ref aP) vz_9 (.ref aH) (by first | assumption | omega) (by first | assumption | omega) (by first | assumption | omega)) (cwV 3 hts gX5_canPour_X0_shift rfl rfl rfl (by decide +kernel) ⟨Nat.le_of_ble_eq_true rfl, Nat.le_of_ble_eq_true rfl⟩) hK hP hD [0, 3] rfl (by decide) (va_recv hK.1 hP (ci := 0) (q0 := 0) rfl rfl) rfl hl.1 rfl (Nat.le_of_ble_eq_true rfl) dX5_canPour_166 ⟨Nat.le_of_ble_eq_true rfl, Nat.le_of_ble_eq_true rfl⟩) hP hD hS hA [0, 3] [1, 2, 4] rfl rfl (by decide) (by decide) (fun w_52 H locs h_53 hP hD hS => ?_)
                  obtain ⟨fU2_54, rfl⟩ := h_53
                  have hP : va_P D vwCl [(aP, .inl (cI, 6, .inl fP)), (aH, .inl (cI, 6, .inl fH)), (sp, .inl (cI, 3, .inl qf_39_50)), (ho, .inr (0, [vz_0, vz_1, .int (nI R), .int (nI T), vz_4, vz_5, vz_6, vz_7, .ref aP, vz_9, .ref aH, .ref aU])), (aU, .inl (cI, 6, .inl fU2_54))] H := hP
                  have hD : va_D A [(aP, .inl (cI, 6, .inl fP)), (aH, .inl (cI, 6, .inl fH)), (sp, .inl (cI, 3, .inl qf_39_50)), (ho, .inr (0, [vz_0, vz_1, .int (nI R), .int (nI T), vz_4, vz_5, vz_6, vz_7, .ref aP, vz_9, .ref aH, .ref aU])), (aU, .inl (cI, 6, .inl fU2_54))] := hD
                  refine lv_aload_n hx hb dX5_canPour_169 rfl (lv_at hl 6 rfl) ?_
                  refine lv_aload_n hx hb dX5_canPour_170 rfl (lv_at hl 7 rfl) ?_
                  refine lv_iload_n hx hb dX5_canPour_171 rfl (lv_at hl 8 rfl) ?_
                  refine lv_iload_n hx hb dX5_canPour_172 rfl (lv_at hl 9 rfl) ?_
                  refine lv_iload hx hb dX5_canPour_173 (lv_at hl 10 rfl) ?_
                  refine lv_iconst (v := 1) hx hb dX5_canPour_175 (by decide) ?_
                  refine lv_iadd hx hb dX5_canPour_176 ?_
                  refine wt_top (z := nI (d + 1)) (nI_add d 1) ?_
                  refine lv_iload hx hb dX5_canPour_177 (lv_at hl 11 rfl) ?_
                  refine wt_goI (wr := []) (wt_runS (As := [.ref ho, .ref sp, .int (nI j), .int w, .int (nI (d + 1)), .int (nI n)]) (rest := []) ⟨hx, hb, hml, hown, hts⟩ (c_X5_canPour_1 l D cI cZ cH ho aP aH aU R T j (d + 1) n fP fH fU2_54 sp qf_39_50 w vz_0 vz_1 vz_4 vz_5 vz_6 vz_7 vz_9 (by first | assumption | omega) (by first | assumption | omega) (by first | assumption | omega) (by first | assumption | omega) (by first | assumption | omega) (by first | assumption | omega)) (va_cwS 6 hts gX5_canPour_X5_canPour rfl rfl rfl (by decide +kernel) ⟨Nat.le_of_ble_eq_true rfl, Nat.le_of_ble_eq_true rfl⟩) hK hP hD [3, 0, 1, 4, 2] rfl (by decide) rfl hl.1 rfl (Nat.le_of_ble_eq_true rfl) dX5_canPour_179 ⟨Nat.le_of_ble_eq_true rfl, Nat.le_of_ble_eq_true rfl⟩) hP hD hS hA [3, 0, 1, 4, 2] [] rfl rfl (by decide) (by decide) (fun r_55 w_56 H locs h_57 hP hD hS => ?_)
                  obtain ⟨fU2_58, qf2_59, rfl⟩ := h_57
                  have hP : va_P D vwCl [(ho, .inr (0, [vz_0, vz_1, .int (nI R), .int (nI T), vz_4, vz_5, vz_6, vz_7, .ref aP, vz_9, .ref aH, .ref aU])), (aP, .inl (cI, 6, .inl fP)), (aH, .inl (cI, 6, .inl fH)), (aU, .inl (cI, 6, .inl fU2_58)), (sp, .inl (cI, 3, .inl qf2_59))] H := hP
                  have hD : va_D A [(ho, .inr (0, [vz_0, vz_1, .int (nI R), .int (nI T), vz_4, vz_5, vz_6, vz_7, .ref aP, vz_9, .ref aH, .ref aU])), (aP, .inl (cI, 6, .inl fP)), (aH, .inl (cI, 6, .inl fH)), (aU, .inl (cI, 6, .inl fU2_58)), (sp, .inl (cI, 3, .inl qf2_59))] := hD
                  refine lv_if_eq (tgt := 187) hx hb dX5_canPour_182 (by decide) (fun c_60 => ?_) (fun c_60 => ?_)
                  · skip
                    refine lv_aload_n hx hb dX5_canPour_187 rfl (lv_at hl 6 rfl) ?_
                    refine lv_iload hx hb dX5_canPour_188 (lv_at hl 2 rfl) ?_
                    refine lv_iload hx hb dX5_canPour_190 (lv_at hl 3 rfl) ?_
                    refine lv_iload hx hb dX5_canPour_192 (lv_at hl 0 rfl) ?_
                    refine wt_goV (wr := [(aP, .inl (cI, 6, .inl fP)), (aH, .inl (cI, 6, .inl fH)), (sp, .inl (cI, 3, .inl qf2_59))]) (wt_runV (As := [.int (nI i_40), .int (nI i_37), .int r_47]) (rest := []) ⟨hx, hb, hml, hown, hts⟩ (c_X0_shift l D cI cZ cH ho aU T i_40 i_37 fU2_58 r_47 vz_0 vz_1 (.int (nI R)) vz_4 vz_5 vz_6 vz_7 (.ref aP) vz_9 (.ref aH) (by first | assumption | omega) (by first | assumption | omega) (by first | assumption | omega)) (cwV 3 hts gX5_canPour_X0_shift rfl rfl rfl (by decide +kernel) ⟨Nat.le_of_ble_eq_true rfl, Nat.le_of_ble_eq_true rfl⟩) hK hP hD [0, 3] rfl (by decide) (va_recv hK.1 hP (ci := 0) (q0 := 0) rfl rfl) rfl hl.1 rfl (Nat.le_of_ble_eq_true rfl) dX5_canPour_194 ⟨Nat.le_of_ble_eq_true rfl, Nat.le_of_ble_eq_true rfl⟩) hP hD hS hA [0, 3] [1, 2, 4] rfl rfl (by decide) (by decide) (fun w_62 H locs h_63 hP hD hS => ?_)
                    obtain ⟨fU2_64, rfl⟩ := h_63
                    have hP : va_P D vwCl [(aP, .inl (cI, 6, .inl fP)), (aH, .inl (cI, 6, .inl fH)), (sp, .inl (cI, 3, .inl qf2_59)), (ho, .inr (0, [vz_0, vz_1, .int (nI R), .int (nI T), vz_4, vz_5, vz_6, vz_7, .ref aP, vz_9, .ref aH, .ref aU])), (aU, .inl (cI, 6, .inl fU2_64))] H := hP
                    have hD : va_D A [(aP, .inl (cI, 6, .inl fP)), (aH, .inl (cI, 6, .inl fH)), (sp, .inl (cI, 3, .inl qf2_59)), (ho, .inr (0, [vz_0, vz_1, .int (nI R), .int (nI T), vz_4, vz_5, vz_6, vz_7, .ref aP, vz_9, .ref aH, .ref aU])), (aU, .inl (cI, 6, .inl fU2_64))] := hD
                    refine lv_iinc (v := nI (i_40 + 1)) (lv' := [(9, .int (nI (i_40 + 1))), (11, .int r_47), (10, .int 1), (8, .int (nI i_37)), (7, .int (nI b_36)), (6, .int 1), (0, .ref ho), (1, .ref sp), (2, .int (nI j)), (3, .int w), (4, .int (nI d)), (5, .int (nI n))]) hx hb dX5_canPour_197 hl (k := 2) rfl (nI_add i_40 1) (by decide) rfl (fun ls hl => ?_)
                    refine lv_goto (tgt := 73) hx hb dX5_canPour_200 (by decide) ?_
                    exact ih73 ((i_40 + 1)) fU2_64 qf2_59 H locs ls (by omega)  (hP.sub [3, 0, 1, 4, 2] rfl) (hD.sub [3, 0, 1, 4, 2] (by decide) rfl) hS (lv_sub hl [0, 3, 4, 5, 6, 7, 8, 9, 10, 11] rfl)
                  · skip
                    refine lv_iconst (v := 1) hx hb dX5_canPour_185 (by decide) ?_
                    have hP9 := hP.sub (ws' := [(ho, .inr (0, [vz_0, vz_1, .int (nI R), .int (nI T), vz_4, vz_5, vz_6, vz_7, .ref aP, vz_9, .ref aH, .ref aU])), (aP, .inl (cI, 6, .inl fP)), (aH, .inl (cI, 6, .inl fH)), (aU, .inl (cI, 6, .inl fU2_58)), (sp, .inl (cI, 3, .inl qf2_59))]) [0, 1, 2, 3, 4] rfl
                    have hD9 := hD.sub (ws' := [(ho, .inr (0, [vz_0, vz_1, .int (nI R), .int (nI T), vz_4, vz_5, vz_6, vz_7, .ref aP, vz_9, .ref aH, .ref aU])), (aP, .inl (cI, 6, .inl fP)), (aH, .inl (cI, 6, .inl fH)), (aU, .inl (cI, 6, .inl fU2_58)), (sp, .inl (cI, 3, .inl qf2_59))]) [0, 1, 2, 3, 4] (by decide) rfl
                    exact wt_zret hx hb hr hlocks (by decide) hP9 hD9 hS ⟨fU2_58, qf2_59, rfl⟩ dX5_canPour_186
              · skip
                have c_46 : ¬ (i_37 = j) := fun h => c_46 ((nI_eq (a := i_37) (b := j) (by omega) (by omega)).mpr h)
                refine lv_iload hx hb dX5_canPour_110 (lv_at hl 0 rfl) ?_
                refine lv_iload_n hx hb dX5_canPour_112 rfl (lv_at hl 6 rfl) ?_
                refine lv_icmp_ne (tgt := 120) hx hb dX5_canPour_113 (by decide) (fun c_65 => ?_) (fun c_65 => ?_)
                · skip
                  have c_65 : ¬ (i_40 = j) := fun h => c_65 ((nI_eq (a := i_40) (b := j) (by omega) (by omega)).mpr h)
                  refine lv_iconst (v := 0) hx hb dX5_canPour_120 (by decide) ?_
                  refine lv_istore (lv' := [(10, .int 0), (9, .int (nI i_40)), (8, .int (nI i_37)), (7, .int (nI b_36)), (6, .int 1), (0, .ref ho), (1, .ref sp), (2, .int (nI j)), (3, .int w), (4, .int (nI d)), (5, .int (nI n))]) hx hb dX5_canPour_121 hl (by decide) rfl (fun ls hl => ?_)
                  refine lv_iload hx hb dX5_canPour_123 (lv_at hl 0 rfl) ?_
                  refine lv_if_eq (tgt := 139) hx hb dX5_canPour_125 (by decide) (fun _ => ?_) (fun h => absurd h (by decide))
                  refine lv_iconst (v := 0) hx hb dX5_canPour_139 (by decide) ?_
                  refine lv_istore (lv' := [(11, .int 0), (10, .int 0), (9, .int (nI i_40)), (8, .int (nI i_37)), (7, .int (nI b_36)), (6, .int 1), (0, .ref ho), (1, .ref sp), (2, .int (nI j)), (3, .int w), (4, .int (nI d)), (5, .int (nI n))]) hx hb dX5_canPour_140 hl (by decide) rfl (fun ls hl => ?_)
                  refine lv_iload hx hb dX5_canPour_142 (lv_at hl 0 rfl) ?_
                  refine lv_if_le (tgt := 197) hx hb dX5_canPour_144 (by decide) (fun _ => ?_) (fun h => absurd h (by decide))
                  refine lv_iinc (v := nI (i_40 + 1)) (lv' := [(9, .int (nI (i_40 + 1))), (11, .int 0), (10, .int 0), (8, .int (nI i_37)), (7, .int (nI b_36)), (6, .int 1), (0, .ref ho), (1, .ref sp), (2, .int (nI j)), (3, .int w), (4, .int (nI d)), (5, .int (nI n))]) hx hb dX5_canPour_197 hl (k := 2) rfl (nI_add i_40 1) (by decide) rfl (fun ls hl => ?_)
                  refine lv_goto (tgt := 73) hx hb dX5_canPour_200 (by decide) ?_
                  exact ih73 ((i_40 + 1)) fU_38_41 qf_39_42 H locs ls (by omega)  hP hD hS (lv_sub hl [0, 3, 4, 5, 6, 7, 8, 9, 10, 11] rfl)
                · skip
                  have c_65 : i_40 = j := (nI_eq (a := i_40) (b := j) (by omega) (by omega)).mp c_65
                  refine lv_iconst (v := 1) hx hb dX5_canPour_116 (by decide) ?_
                  refine lv_goto (tgt := 121) hx hb dX5_canPour_117 (by decide) ?_
                  refine lv_istore (lv' := [(10, .int 1), (9, .int (nI i_40)), (8, .int (nI i_37)), (7, .int (nI b_36)), (6, .int 1), (0, .ref ho), (1, .ref sp), (2, .int (nI j)), (3, .int w), (4, .int (nI d)), (5, .int (nI n))]) hx hb dX5_canPour_121 hl (by decide) rfl (fun ls hl => ?_)
                  refine lv_iload hx hb dX5_canPour_123 (lv_at hl 0 rfl) ?_
                  refine lv_if_eq (tgt := 139) hx hb dX5_canPour_125 (by decide) (fun h => absurd h (by decide)) (fun _ => ?_)
                  refine lv_aload_n hx hb dX5_canPour_128 rfl (lv_at hl 5 rfl) ?_
                  refine lv_iload hx hb dX5_canPour_129 (lv_at hl 2 rfl) ?_
                  refine lv_iload hx hb dX5_canPour_131 (lv_at hl 1 rfl) ?_
                  refine wt_rV (As := [.int (nI i_37), .int (nI i_40)]) (rest := []) ⟨hx, hb, hml, hown, hts⟩ (c_X0_pourable l D cI cZ cH ho aP aH aU R T i_37 i_40 fP fH fU_38_41 vz_0 vz_1 vz_4 vz_5 vz_6 vz_7 vz_9 (by first | assumption | omega) (by first | assumption | omega) (by first | assumption | omega) (by first | assumption | omega) (by first | assumption | omega)) (cwV 2 hts gX5_canPour_X0_pourable rfl rfl rfl (by decide +kernel) ⟨Nat.le_of_ble_eq_true rfl, Nat.le_of_ble_eq_true rfl⟩) hK hP [0, 1, 2, 3] rfl (va_recv hK.1 hP (ci := 0) (q0 := 0) rfl rfl) rfl hl.1 rfl (Nat.le_of_ble_eq_true rfl) dX5_canPour_133 ⟨Nat.le_of_ble_eq_true rfl, Nat.le_of_ble_eq_true rfl⟩ (fun r_66 e_67 => ?_)
                  refine lv_goto (tgt := 140) hx hb dX5_canPour_136 (by decide) ?_
                  refine lv_istore (lv' := [(11, .int r_66), (10, .int 1), (9, .int (nI i_40)), (8, .int (nI i_37)), (7, .int (nI b_36)), (6, .int 1), (0, .ref ho), (1, .ref sp), (2, .int (nI j)), (3, .int w), (4, .int (nI d)), (5, .int (nI n))]) hx hb dX5_canPour_140 hl (by decide) rfl (fun ls hl => ?_)
                  refine lv_iload hx hb dX5_canPour_142 (lv_at hl 0 rfl) ?_
                  refine lv_if_le (tgt := 197) hx hb dX5_canPour_144 (by decide) (fun c_68 => ?_) (fun c_68 => ?_)
                  · skip
                    refine lv_iinc (v := nI (i_40 + 1)) (lv' := [(9, .int (nI (i_40 + 1))), (11, .int r_66), (10, .int 1), (8, .int (nI i_37)), (7, .int (nI b_36)), (6, .int 1), (0, .ref ho), (1, .ref sp), (2, .int (nI j)), (3, .int w), (4, .int (nI d)), (5, .int (nI n))]) hx hb dX5_canPour_197 hl (k := 2) rfl (nI_add i_40 1) (by decide) rfl (fun ls hl => ?_)
                    refine lv_goto (tgt := 73) hx hb dX5_canPour_200 (by decide) ?_
                    exact ih73 ((i_40 + 1)) fU_38_41 qf_39_42 H locs ls (by omega)  hP hD hS (lv_sub hl [0, 3, 4, 5, 6, 7, 8, 9, 10, 11] rfl)
                  · skip
                    refine lv_aload_n hx hb dX5_canPour_147 rfl (lv_at hl 7 rfl) ?_
                    refine lv_iload hx hb dX5_canPour_148 (lv_at hl 10 rfl) ?_
                    refine lv_bipush (v := 10) hx hb dX5_canPour_150 (by decide) ?_
                    refine lv_iload hx hb dX5_canPour_152 (lv_at hl 3 rfl) ?_
                    refine lv_imul hx hb dX5_canPour_154 ?_
                    refine wt_top (z := nI (10 * i_37)) (pk_mul 10 i_37) ?_
                    refine lv_iload hx hb dX5_canPour_155 (lv_at hl 2 rfl) ?_
                    refine lv_iadd hx hb dX5_canPour_157 ?_
                    refine wt_top (z := nI ((10 * i_37) + i_40)) (nI_add (10 * i_37) i_40) ?_
                    refine va_iast hx hb hK.1 hP hD hS 4 0 rfl rfl (vp_in_nI (by omega) (by omega)) dX5_canPour_158 (fun H locs hP hD hS => ?_)
                    have hP : va_P D vwCl [(ho, .inr (0, [vz_0, vz_1, .int (nI R), .int (nI T), vz_4, vz_5, vz_6, vz_7, .ref aP, vz_9, .ref aH, .ref aU])), (aP, .inl (cI, 6, .inl fP)), (aH, .inl (cI, 6, .inl fH)), (aU, .inl (cI, 6, .inl fU_38_41)), (sp, .inl (cI, 3, .inl (upd qf_39_42 ((nI d).toNatClampNeg) (nI ((10 * i_37) + i_40)))))] H := hP
                    have hD : va_D A [(ho, .inr (0, [vz_0, vz_1, .int (nI R), .int (nI T), vz_4, vz_5, vz_6, vz_7, .ref aP, vz_9, .ref aH, .ref aU])), (aP, .inl (cI, 6, .inl fP)), (aH, .inl (cI, 6, .inl fH)), (aU, .inl (cI, 6, .inl fU_38_41)), (sp, .inl (cI, 3, .inl (upd qf_39_42 ((nI d).toNatClampNeg) (nI ((10 * i_37) + i_40)))))] := hD
                    generalize upd qf_39_42 ((nI d).toNatClampNeg) (nI ((10 * i_37) + i_40)) = qf_39_69 at hP hD
                    refine lv_aload_n hx hb dX5_canPour_159 rfl (lv_at hl 6 rfl) ?_
                    refine lv_iload hx hb dX5_canPour_160 (lv_at hl 3 rfl) ?_
                    refine lv_iload hx hb dX5_canPour_162 (lv_at hl 2 rfl) ?_
                    refine lv_iload hx hb dX5_canPour_164 (lv_at hl 0 rfl) ?_
                    refine wt_goV (wr := [(aP, .inl (cI, 6, .inl fP)), (aH, .inl (cI, 6, .inl fH)), (sp, .inl (cI, 3, .inl qf_39_69))]) (wt_runV (As := [.int (nI i_37), .int (nI i_40), .int r_66]) (rest := []) ⟨hx, hb, hml, hown, hts⟩ (c_X0_shift l D cI cZ cH ho aU T i_37 i_40 fU_38_41 r_66 vz_0 vz_1 (.int (nI R)) vz_4 vz_5 vz_6 vz_7 (.ref aP) vz_9 (.ref aH) (by first | assumption | omega) (by first | assumption | omega) (by first | assumption | omega)) (cwV 3 hts gX5_canPour_X0_shift rfl rfl rfl (by decide +kernel) ⟨Nat.le_of_ble_eq_true rfl, Nat.le_of_ble_eq_true rfl⟩) hK hP hD [0, 3] rfl (by decide) (va_recv hK.1 hP (ci := 0) (q0 := 0) rfl rfl) rfl hl.1 rfl (Nat.le_of_ble_eq_true rfl) dX5_canPour_166 ⟨Nat.le_of_ble_eq_true rfl, Nat.le_of_ble_eq_true rfl⟩) hP hD hS hA [0, 3] [1, 2, 4] rfl rfl (by decide) (by decide) (fun w_71 H locs h_72 hP hD hS => ?_)
                    obtain ⟨fU2_73, rfl⟩ := h_72
                    have hP : va_P D vwCl [(aP, .inl (cI, 6, .inl fP)), (aH, .inl (cI, 6, .inl fH)), (sp, .inl (cI, 3, .inl qf_39_69)), (ho, .inr (0, [vz_0, vz_1, .int (nI R), .int (nI T), vz_4, vz_5, vz_6, vz_7, .ref aP, vz_9, .ref aH, .ref aU])), (aU, .inl (cI, 6, .inl fU2_73))] H := hP
                    have hD : va_D A [(aP, .inl (cI, 6, .inl fP)), (aH, .inl (cI, 6, .inl fH)), (sp, .inl (cI, 3, .inl qf_39_69)), (ho, .inr (0, [vz_0, vz_1, .int (nI R), .int (nI T), vz_4, vz_5, vz_6, vz_7, .ref aP, vz_9, .ref aH, .ref aU])), (aU, .inl (cI, 6, .inl fU2_73))] := hD
                    refine lv_aload_n hx hb dX5_canPour_169 rfl (lv_at hl 6 rfl) ?_
                    refine lv_aload_n hx hb dX5_canPour_170 rfl (lv_at hl 7 rfl) ?_
                    refine lv_iload_n hx hb dX5_canPour_171 rfl (lv_at hl 8 rfl) ?_
                    refine lv_iload_n hx hb dX5_canPour_172 rfl (lv_at hl 9 rfl) ?_
                    refine lv_iload hx hb dX5_canPour_173 (lv_at hl 10 rfl) ?_
                    refine lv_iconst (v := 1) hx hb dX5_canPour_175 (by decide) ?_
                    refine lv_iadd hx hb dX5_canPour_176 ?_
                    refine wt_top (z := nI (d + 1)) (nI_add d 1) ?_
                    refine lv_iload hx hb dX5_canPour_177 (lv_at hl 11 rfl) ?_
                    refine wt_goI (wr := []) (wt_runS (As := [.ref ho, .ref sp, .int (nI j), .int w, .int (nI (d + 1)), .int (nI n)]) (rest := []) ⟨hx, hb, hml, hown, hts⟩ (c_X5_canPour_1 l D cI cZ cH ho aP aH aU R T j (d + 1) n fP fH fU2_73 sp qf_39_69 w vz_0 vz_1 vz_4 vz_5 vz_6 vz_7 vz_9 (by first | assumption | omega) (by first | assumption | omega) (by first | assumption | omega) (by first | assumption | omega) (by first | assumption | omega) (by first | assumption | omega)) (va_cwS 6 hts gX5_canPour_X5_canPour rfl rfl rfl (by decide +kernel) ⟨Nat.le_of_ble_eq_true rfl, Nat.le_of_ble_eq_true rfl⟩) hK hP hD [3, 0, 1, 4, 2] rfl (by decide) rfl hl.1 rfl (Nat.le_of_ble_eq_true rfl) dX5_canPour_179 ⟨Nat.le_of_ble_eq_true rfl, Nat.le_of_ble_eq_true rfl⟩) hP hD hS hA [3, 0, 1, 4, 2] [] rfl rfl (by decide) (by decide) (fun r_74 w_75 H locs h_76 hP hD hS => ?_)
                    obtain ⟨fU2_77, qf2_78, rfl⟩ := h_76
                    have hP : va_P D vwCl [(ho, .inr (0, [vz_0, vz_1, .int (nI R), .int (nI T), vz_4, vz_5, vz_6, vz_7, .ref aP, vz_9, .ref aH, .ref aU])), (aP, .inl (cI, 6, .inl fP)), (aH, .inl (cI, 6, .inl fH)), (aU, .inl (cI, 6, .inl fU2_77)), (sp, .inl (cI, 3, .inl qf2_78))] H := hP
                    have hD : va_D A [(ho, .inr (0, [vz_0, vz_1, .int (nI R), .int (nI T), vz_4, vz_5, vz_6, vz_7, .ref aP, vz_9, .ref aH, .ref aU])), (aP, .inl (cI, 6, .inl fP)), (aH, .inl (cI, 6, .inl fH)), (aU, .inl (cI, 6, .inl fU2_77)), (sp, .inl (cI, 3, .inl qf2_78))] := hD
                    refine lv_if_eq (tgt := 187) hx hb dX5_canPour_182 (by decide) (fun c_79 => ?_) (fun c_79 => ?_)
                    · skip
                      refine lv_aload_n hx hb dX5_canPour_187 rfl (lv_at hl 6 rfl) ?_
                      refine lv_iload hx hb dX5_canPour_188 (lv_at hl 2 rfl) ?_
                      refine lv_iload hx hb dX5_canPour_190 (lv_at hl 3 rfl) ?_
                      refine lv_iload hx hb dX5_canPour_192 (lv_at hl 0 rfl) ?_
                      refine wt_goV (wr := [(aP, .inl (cI, 6, .inl fP)), (aH, .inl (cI, 6, .inl fH)), (sp, .inl (cI, 3, .inl qf2_78))]) (wt_runV (As := [.int (nI i_40), .int (nI i_37), .int r_66]) (rest := []) ⟨hx, hb, hml, hown, hts⟩ (c_X0_shift l D cI cZ cH ho aU T i_40 i_37 fU2_77 r_66 vz_0 vz_1 (.int (nI R)) vz_4 vz_5 vz_6 vz_7 (.ref aP) vz_9 (.ref aH) (by first | assumption | omega) (by first | assumption | omega) (by first | assumption | omega)) (cwV 3 hts gX5_canPour_X0_shift rfl rfl rfl (by decide +kernel) ⟨Nat.le_of_ble_eq_true rfl, Nat.le_of_ble_eq_true rfl⟩) hK hP hD [0, 3] rfl (by decide) (va_recv hK.1 hP (ci := 0) (q0 := 0) rfl rfl) rfl hl.1 rfl (Nat.le_of_ble_eq_true rfl) dX5_canPour_194 ⟨Nat.le_of_ble_eq_true rfl, Nat.le_of_ble_eq_true rfl⟩) hP hD hS hA [0, 3] [1, 2, 4] rfl rfl (by decide) (by decide) (fun w_81 H locs h_82 hP hD hS => ?_)
                      obtain ⟨fU2_83, rfl⟩ := h_82
                      have hP : va_P D vwCl [(aP, .inl (cI, 6, .inl fP)), (aH, .inl (cI, 6, .inl fH)), (sp, .inl (cI, 3, .inl qf2_78)), (ho, .inr (0, [vz_0, vz_1, .int (nI R), .int (nI T), vz_4, vz_5, vz_6, vz_7, .ref aP, vz_9, .ref aH, .ref aU])), (aU, .inl (cI, 6, .inl fU2_83))] H := hP
                      have hD : va_D A [(aP, .inl (cI, 6, .inl fP)), (aH, .inl (cI, 6, .inl fH)), (sp, .inl (cI, 3, .inl qf2_78)), (ho, .inr (0, [vz_0, vz_1, .int (nI R), .int (nI T), vz_4, vz_5, vz_6, vz_7, .ref aP, vz_9, .ref aH, .ref aU])), (aU, .inl (cI, 6, .inl fU2_83))] := hD
                      refine lv_iinc (v := nI (i_40 + 1)) (lv' := [(9, .int (nI (i_40 + 1))), (11, .int r_66), (10, .int 1), (8, .int (nI i_37)), (7, .int (nI b_36)), (6, .int 1), (0, .ref ho), (1, .ref sp), (2, .int (nI j)), (3, .int w), (4, .int (nI d)), (5, .int (nI n))]) hx hb dX5_canPour_197 hl (k := 2) rfl (nI_add i_40 1) (by decide) rfl (fun ls hl => ?_)
                      refine lv_goto (tgt := 73) hx hb dX5_canPour_200 (by decide) ?_
                      exact ih73 ((i_40 + 1)) fU2_83 qf2_78 H locs ls (by omega)  (hP.sub [3, 0, 1, 4, 2] rfl) (hD.sub [3, 0, 1, 4, 2] (by decide) rfl) hS (lv_sub hl [0, 3, 4, 5, 6, 7, 8, 9, 10, 11] rfl)
                    · skip
                      refine lv_iconst (v := 1) hx hb dX5_canPour_185 (by decide) ?_
                      have hP9 := hP.sub (ws' := [(ho, .inr (0, [vz_0, vz_1, .int (nI R), .int (nI T), vz_4, vz_5, vz_6, vz_7, .ref aP, vz_9, .ref aH, .ref aU])), (aP, .inl (cI, 6, .inl fP)), (aH, .inl (cI, 6, .inl fH)), (aU, .inl (cI, 6, .inl fU2_77)), (sp, .inl (cI, 3, .inl qf2_78))]) [0, 1, 2, 3, 4] rfl
                      have hD9 := hD.sub (ws' := [(ho, .inr (0, [vz_0, vz_1, .int (nI R), .int (nI T), vz_4, vz_5, vz_6, vz_7, .ref aP, vz_9, .ref aH, .ref aU])), (aP, .inl (cI, 6, .inl fP)), (aH, .inl (cI, 6, .inl fH)), (aU, .inl (cI, 6, .inl fU2_77)), (sp, .inl (cI, 3, .inl qf2_78))]) [0, 1, 2, 3, 4] (by decide) rfl
                      exact wt_zret hx hb hr hlocks (by decide) hP9 hD9 hS ⟨fU2_77, qf2_78, rfl⟩ dX5_canPour_186
        exact loop73 (T - 0) (0) fU_38 qf_39 _ _ ls (by omega)  hP hD hS hl
    exact loop61 (T - 0) (0) fU qf _ _ ls (by omega)  hP hD hS hl
set_option maxHeartbeats 4000000 in
set_option maxRecDepth 100000 in
theorem c_X5_canPour_3 (l : Launch) (D : va_G) (cI cZ cH : ClassId) (ho aP aH aU : Nat) (R T j d n : Nat) (fP fH fU : Nat → Int32) (sp : Nat) (qf : Nat → Int32) (w : Int32) (vz_0 vz_1 vz_4 vz_5 vz_6 vz_7 vz_9 : Value) (hR5 : R ≤ 5) (hT6 : T ≤ 6) (hwP : hw R T fP) (hjT : j < T) (hnd : n = d + 3) (hn3 : n ≤ 3) : wt_M l yX5_canPour wsX5_canPour ({ frames := 4, cells := 0, slots := 0, locals := 124 } : Room) D (wt_T cI cZ cH) [.ref ho, .ref sp, .int (nI j), .int w, .int (nI d), .int (nI n)] [(ho, .inr (0, [vz_0, vz_1, .int (nI R), .int (nI T), vz_4, vz_5, vz_6, vz_7, .ref aP, vz_9, .ref aH, .ref aU])), (aP, .inl (cI, 6, .inl fP)), (aH, .inl (cI, 6, .inl fH)), (aU, .inl (cI, 6, .inl fU)), (sp, .inl (cI, 3, .inl qf))] (wt_QI D (fun r w => ∃ (fU2 qf2 : Nat → Int32), w = [(ho, .inr (0, [vz_0, vz_1, .int (nI R), .int (nI T), vz_4, vz_5, vz_6, vz_7, .ref aP, vz_9, .ref aH, .ref aU])), (aP, .inl (cI, 6, .inl fP)), (aH, .inl (cI, 6, .inl fH)), (aU, .inl (cI, 6, .inl fU2)), (sp, .inl (cI, 3, .inl qf2))])) := by
  refine wt_M.ofW (cc := cX5_canPour) (maxL := 12) (ret := (some .boolean)) (by decide) rfl (Nat.le_of_ble_eq_true rfl) ?_
  intro p e s m below meth c A ls hx hb hr hts hown hlocks hml hnm hP hK hD hA hS hl
  have hP : va_P D vwCl [(ho, .inr (0, [vz_0, vz_1, .int (nI R), .int (nI T), vz_4, vz_5, vz_6, vz_7, .ref aP, vz_9, .ref aH, .ref aU])), (aP, .inl (cI, 6, .inl fP)), (aH, .inl (cI, 6, .inl fH)), (aU, .inl (cI, 6, .inl fU)), (sp, .inl (cI, 3, .inl qf))] s.heap := hP
  have hown : s.vm.findClass RX5 = some m.cls := hown
  have hl : lv_has ls 12 [(0, .ref ho), (1, .ref sp), (2, .int (nI j)), (3, .int w), (4, .int (nI d)), (5, .int (nI n))] := hl
  have hi0 : ∀ w ∈ u_ws RX0 TX0 12, w ∈ wsX5_canPour := by decide +kernel
  have wf140 := hts (.fieldLink RX5 140 "WarmTubes$House" "tubes" "I") (by decide +kernel)
  have wf172 := hts (.fieldLink RX5 172 "WarmTubes$House" "where" "[I") (by decide +kernel)
  refine lv_iload hx hb dX5_canPour_0 (lv_at hl 4 rfl) ?_
  refine lv_iload hx hb dX5_canPour_2 (lv_at hl 5 rfl) ?_
  refine lv_icmp_ge (tgt := 14) hx hb dX5_canPour_4 (by decide) (fun h => absurd h (nI_ge (a := d) (b := n) (by omega) (by omega))) (fun _ => ?_)
  refine lv_iload hx hb dX5_canPour_7 (lv_at hl 4 rfl) ?_
  refine lv_aload_n hx hb dX5_canPour_9 rfl (lv_at hl 1 rfl) ?_
  refine va_alen (v := 3) hx hb hK.1 hP 4 0 rfl rfl rfl dX5_canPour_10 ?_
  refine lv_icmp_lt (tgt := 30) hx hb dX5_canPour_11 (by decide) (fun _ => ?_) (fun h => absurd (nI_lt (a := d) (b := 3) (by omega) (by omega)) h)
  refine lv_iload hx hb dX5_canPour_30 (lv_at hl 4 rfl) ?_
  refine lv_iload hx hb dX5_canPour_32 (lv_at hl 5 rfl) ?_
  refine lv_iconst (v := 1) hx hb dX5_canPour_34 (by decide) ?_
  refine lv_isub hx hb dX5_canPour_35 ?_
  refine wt_top (z := nI (n - 1)) (pk_sub (a := n) (b := 1) (by omega)) ?_
  refine lv_icmp_ne (tgt := 43) hx hb dX5_canPour_36 (by decide) (fun c_1 => ?_) (fun c_1 => ?_)
  · skip
    have c_1 : ¬ (d = (n - 1)) := fun h => c_1 ((nI_eq (a := d) (b := (n - 1)) (by omega) (by omega)).mpr h)
    refine lv_iconst (v := 0) hx hb dX5_canPour_43 (by decide) ?_
    refine lv_istore (lv' := [(6, .int 0), (0, .ref ho), (1, .ref sp), (2, .int (nI j)), (3, .int w), (4, .int (nI d)), (5, .int (nI n))]) hx hb dX5_canPour_44 hl (by decide) rfl (fun ls hl => ?_)
    refine lv_aload_n hx hb dX5_canPour_46 rfl (lv_at hl 1 rfl) ?_
    refine lv_aload_n hx hb dX5_canPour_47 rfl (lv_at hl 1 rfl) ?_
    refine va_get (D := D) (ci := 0) (v := .ref aP) (C := RX0) (T := TX0) (N := 12) hx hb hts hi0 hown hK.1 hP 0 rfl rfl 8 (by decide) wf172 (fun _ h9 => h9) rfl dX5_canPour_48 ?_
    refine lv_iload_n hx hb dX5_canPour_51 rfl (lv_at hl 3 rfl) ?_
    refine va_iald hx hb hK.1 hP 1 0 rfl rfl (vp_in_nI (by omega) (by omega)) dX5_canPour_52 ?_
    obtain ⟨q_2, hq_2, eq_2⟩ := hwP j (by omega)
    refine wt_top (z := nI q_2) (by rw [nI_clamp (by omega)]; exact eq_2) ?_
    refine wt_rV (As := [.int (nI q_2)]) (rest := []) ⟨hx, hb, hml, hown, hts⟩ (c_X0_tubesAt l D cI cZ cH ho aP T fP (nI q_2) vz_0 vz_1 (.int (nI R)) vz_4 vz_5 vz_6 vz_7 vz_9 (.ref aH) (.ref aU) (by first | assumption | omega)) (cwV 1 hts gX5_canPour_X0_tubesAt rfl rfl rfl (by decide +kernel) ⟨Nat.le_of_ble_eq_true rfl, Nat.le_of_ble_eq_true rfl⟩) hK hP [0, 1] rfl (va_recv hK.1 hP (ci := 0) (q0 := 0) rfl rfl) rfl hl.1 rfl (Nat.le_of_ble_eq_true rfl) dX5_canPour_53 ⟨Nat.le_of_ble_eq_true rfl, Nat.le_of_ble_eq_true rfl⟩ (fun r_3 e_4 => ?_)
    obtain ⟨b_5, e_4, rfl⟩ := e_4
    refine lv_istore (lv' := [(7, .int (nI b_5)), (6, .int 0), (0, .ref ho), (1, .ref sp), (2, .int (nI j)), (3, .int w), (4, .int (nI d)), (5, .int (nI n))]) hx hb dX5_canPour_56 hl (by decide) rfl (fun ls hl => ?_)
    refine lv_iconst (v := 0) hx hb dX5_canPour_58 (by decide) ?_
    refine lv_istore (lv' := [(8, .int 0), (7, .int (nI b_5)), (6, .int 0), (0, .ref ho), (1, .ref sp), (2, .int (nI j)), (3, .int w), (4, .int (nI d)), (5, .int (nI n))]) hx hb dX5_canPour_59 hl (by decide) rfl (fun ls hl => ?_)
    have loop61 : ∀ (k i_6 : Nat) (fU_7 : Nat → Int32) (qf_8 : Nat → Int32) (H : Heap) (locs : List Loc) (ls : Array Slot), i_6 + k = T → va_P D vwCl [(ho, .inr (0, [vz_0, vz_1, .int (nI R), .int (nI T), vz_4, vz_5, vz_6, vz_7, .ref aP, vz_9, .ref aH, .ref aU])), (aP, .inl (cI, 6, .inl fP)), (aH, .inl (cI, 6, .inl fH)), (aU, .inl (cI, 6, .inl fU_7)), (sp, .inl (cI, 3, .inl qf_8))] H → va_D A [(ho, .inr (0, [vz_0, vz_1, .int (nI R), .int (nI T), vz_4, vz_5, vz_6, vz_7, .ref aP, vz_9, .ref aH, .ref aU])), (aP, .inl (cI, 6, .inl fP)), (aH, .inl (cI, 6, .inl fH)), (aU, .inl (cI, 6, .inl fU_7)), (sp, .inl (cI, 3, .inl qf_8))] → va_S A s.heap H locs → lv_has ls 12 [(8, .int (nI i_6)), (7, .int (nI b_5)), (6, .int 0), (0, .ref ho), (1, .ref sp), (2, .int (nI j)), (3, .int w), (4, .int (nI d)), (5, .int (nI n))] → W p l e ({ frames := 4, cells := 0, slots := 0, locals := 124 } : Room) s m ([.ref ho, .ref sp, .int (nI j), .int w, .int (nI d), .int (nI n)] : List Value).toArray below meth c H locs 0 0 (MQ below (wt_QI D (fun r w => ∃ (fU2 qf2 : Nat → Int32), w = [(ho, .inr (0, [vz_0, vz_1, .int (nI R), .int (nI T), vz_4, vz_5, vz_6, vz_7, .ref aP, vz_9, .ref aH, .ref aU])), (aP, .inl (cI, 6, .inl fP)), (aH, .inl (cI, 6, .inl fH)), (aU, .inl (cI, 6, .inl fU2)), (sp, .inl (cI, 3, .inl qf2))]) A) ([.ref ho, .ref sp, .int (nI j), .int w, .int (nI d), .int (nI n)] : List Value).toArray s 0 0 A) (F0 m 61 ls []) := by
      intro k
      induction k with
      | zero =>
        intro i_6 fU_7 qf_8 H locs ls hik  hP hD hS hl
        refine lv_iload hx hb dX5_canPour_61 (lv_at hl 0 rfl) ?_
        refine lv_aload_n hx hb dX5_canPour_63 rfl (lv_at hl 3 rfl) ?_
        refine va_get (D := D) (ci := 0) (v := .int (nI T)) (C := RX0) (T := TX0) (N := 12) hx hb hts hi0 hown hK.1 hP 0 rfl rfl 3 (by decide) wf140 (fun _ h9 => h9) rfl dX5_canPour_64 ?_
        refine lv_icmp_ge (tgt := 209) hx hb dX5_canPour_67 (by decide) (fun _ => ?_) (fun h => absurd (nI_le (a := T) (b := i_6) (by omega) (by omega)) h)
        refine lv_iconst (v := 0) hx hb dX5_canPour_209 (by decide) ?_
        have hP9 := hP.sub (ws' := [(ho, .inr (0, [vz_0, vz_1, .int (nI R), .int (nI T), vz_4, vz_5, vz_6, vz_7, .ref aP, vz_9, .ref aH, .ref aU])), (aP, .inl (cI, 6, .inl fP)), (aH, .inl (cI, 6, .inl fH)), (aU, .inl (cI, 6, .inl fU_7)), (sp, .inl (cI, 3, .inl qf_8))]) [0, 1, 2, 3, 4] rfl
        have hD9 := hD.sub (ws' := [(ho, .inr (0, [vz_0, vz_1, .int (nI R), .int (nI T), vz_4, vz_5, vz_6, vz_7, .ref aP, vz_9, .ref aH, .ref aU])), (aP, .inl (cI, 6, .inl fP)), (aH, .inl (cI, 6, .inl fH)), (aU, .inl (cI, 6, .inl fU_7)), (sp, .inl (cI, 3, .inl qf_8))]) [0, 1, 2, 3, 4] (by decide) rfl
        exact wt_zret hx hb hr hlocks (by decide) hP9 hD9 hS ⟨fU_7, qf_8, rfl⟩ dX5_canPour_210
      | succ k ih61 =>
        intro i_6 fU_7 qf_8 H locs ls hik  hP hD hS hl
        refine lv_iload hx hb dX5_canPour_61 (lv_at hl 0 rfl) ?_
        refine lv_aload_n hx hb dX5_canPour_63 rfl (lv_at hl 3 rfl) ?_
        refine va_get (D := D) (ci := 0) (v := .int (nI T)) (C := RX0) (T := TX0) (N := 12) hx hb hts hi0 hown hK.1 hP 0 rfl rfl 3 (by decide) wf140 (fun _ h9 => h9) rfl dX5_canPour_64 ?_
        refine lv_icmp_ge (tgt := 209) hx hb dX5_canPour_67 (by decide) (fun h => absurd h (nI_ge (a := i_6) (b := T) (by omega) (by omega))) (fun _ => ?_)
        refine lv_iconst (v := 0) hx hb dX5_canPour_70 (by decide) ?_
        refine lv_istore (lv' := [(9, .int 0), (8, .int (nI i_6)), (7, .int (nI b_5)), (6, .int 0), (0, .ref ho), (1, .ref sp), (2, .int (nI j)), (3, .int w), (4, .int (nI d)), (5, .int (nI n))]) hx hb dX5_canPour_71 hl (by decide) rfl (fun ls hl => ?_)
        have loop73 : ∀ (k i_9 : Nat) (fU_7_10 : Nat → Int32) (qf_8_11 : Nat → Int32) (H : Heap) (locs : List Loc) (ls : Array Slot), i_9 + k = T → va_P D vwCl [(ho, .inr (0, [vz_0, vz_1, .int (nI R), .int (nI T), vz_4, vz_5, vz_6, vz_7, .ref aP, vz_9, .ref aH, .ref aU])), (aP, .inl (cI, 6, .inl fP)), (aH, .inl (cI, 6, .inl fH)), (aU, .inl (cI, 6, .inl fU_7_10)), (sp, .inl (cI, 3, .inl qf_8_11))] H → va_D A [(ho, .inr (0, [vz_0, vz_1, .int (nI R), .int (nI T), vz_4, vz_5, vz_6, vz_7, .ref aP, vz_9, .ref aH, .ref aU])), (aP, .inl (cI, 6, .inl fP)), (aH, .inl (cI, 6, .inl fH)), (aU, .inl (cI, 6, .inl fU_7_10)), (sp, .inl (cI, 3, .inl qf_8_11))] → va_S A s.heap H locs → lv_has ls 12 [(9, .int (nI i_9)), (8, .int (nI i_6)), (7, .int (nI b_5)), (6, .int 0), (0, .ref ho), (1, .ref sp), (2, .int (nI j)), (3, .int w), (4, .int (nI d)), (5, .int (nI n))] → W p l e ({ frames := 4, cells := 0, slots := 0, locals := 124 } : Room) s m ([.ref ho, .ref sp, .int (nI j), .int w, .int (nI d), .int (nI n)] : List Value).toArray below meth c H locs 0 0 (MQ below (wt_QI D (fun r w => ∃ (fU2 qf2 : Nat → Int32), w = [(ho, .inr (0, [vz_0, vz_1, .int (nI R), .int (nI T), vz_4, vz_5, vz_6, vz_7, .ref aP, vz_9, .ref aH, .ref aU])), (aP, .inl (cI, 6, .inl fP)), (aH, .inl (cI, 6, .inl fH)), (aU, .inl (cI, 6, .inl fU2)), (sp, .inl (cI, 3, .inl qf2))]) A) ([.ref ho, .ref sp, .int (nI j), .int w, .int (nI d), .int (nI n)] : List Value).toArray s 0 0 A) (F0 m 73 ls []) := by
          intro k
          induction k with
          | zero =>
            intro i_9 fU_7_10 qf_8_11 H locs ls hik  hP hD hS hl
            refine lv_iload hx hb dX5_canPour_73 (lv_at hl 0 rfl) ?_
            refine lv_aload_n hx hb dX5_canPour_75 rfl (lv_at hl 4 rfl) ?_
            refine va_get (D := D) (ci := 0) (v := .int (nI T)) (C := RX0) (T := TX0) (N := 12) hx hb hts hi0 hown hK.1 hP 0 rfl rfl 3 (by decide) wf140 (fun _ h9 => h9) rfl dX5_canPour_76 ?_
            refine lv_icmp_ge (tgt := 203) hx hb dX5_canPour_79 (by decide) (fun _ => ?_) (fun h => absurd (nI_le (a := T) (b := i_9) (by omega) (by omega)) h)
            refine lv_iinc (v := nI (i_6 + 1)) (lv' := [(8, .int (nI (i_6 + 1))), (9, .int (nI i_9)), (7, .int (nI b_5)), (6, .int 0), (0, .ref ho), (1, .ref sp), (2, .int (nI j)), (3, .int w), (4, .int (nI d)), (5, .int (nI n))]) hx hb dX5_canPour_203 hl (k := 1) rfl (nI_add i_6 1) (by decide) rfl (fun ls hl => ?_)
            refine lv_goto (tgt := 61) hx hb dX5_canPour_206 (by decide) ?_
            exact ih61 ((i_6 + 1)) fU_7_10 qf_8_11 H locs ls (by omega)  hP hD hS (lv_sub hl [0, 2, 3, 4, 5, 6, 7, 8, 9] rfl)
          | succ k ih73 =>
            intro i_9 fU_7_10 qf_8_11 H locs ls hik  hP hD hS hl
            refine lv_iload hx hb dX5_canPour_73 (lv_at hl 0 rfl) ?_
            refine lv_aload_n hx hb dX5_canPour_75 rfl (lv_at hl 4 rfl) ?_
            refine va_get (D := D) (ci := 0) (v := .int (nI T)) (C := RX0) (T := TX0) (N := 12) hx hb hts hi0 hown hK.1 hP 0 rfl rfl 3 (by decide) wf140 (fun _ h9 => h9) rfl dX5_canPour_76 ?_
            refine lv_icmp_ge (tgt := 203) hx hb dX5_canPour_79 (by decide) (fun h => absurd h (nI_ge (a := i_9) (b := T) (by omega) (by omega))) (fun _ => ?_)
            refine lv_iconst (v := 1) hx hb dX5_canPour_82 (by decide) ?_
            refine lv_iload hx hb dX5_canPour_83 (lv_at hl 1 rfl) ?_
            refine lv_ishl hx hb dX5_canPour_85 ?_
            refine wt_top (z := nI (2 ^ i_6)) (wt_shl1 (by omega)) ?_
            refine lv_iconst (v := 1) hx hb dX5_canPour_86 (by decide) ?_
            refine lv_iload hx hb dX5_canPour_87 (lv_at hl 0 rfl) ?_
            refine lv_ishl hx hb dX5_canPour_89 ?_
            refine wt_top (z := nI (2 ^ i_9)) (wt_shl1 (by omega)) ?_
            refine lv_ior hx hb dX5_canPour_90 ?_
            refine wt_top (z := nI ((2 ^ i_6) ||| (2 ^ i_9))) (wt_or (2 ^ i_6) (2 ^ i_9)) ?_
            refine lv_iload hx hb dX5_canPour_91 (lv_at hl 2 rfl) ?_
            refine wt_rS (As := [.int (nI ((2 ^ i_6) ||| (2 ^ i_9))), .int (nI b_5)]) (rest := []) ⟨hx, hb, hml, hown, hts⟩ (c_X5_isPart l D cI cZ cH (nI ((2 ^ i_6) ||| (2 ^ i_9))) (nI b_5)) (va_cwS 2 hts gX5_canPour_X5_isPart rfl rfl rfl (by decide +kernel) ⟨Nat.le_of_ble_eq_true rfl, Nat.le_of_ble_eq_true rfl⟩) hK hP [] rfl rfl hl.1 rfl (Nat.le_of_ble_eq_true rfl) dX5_canPour_93 ⟨Nat.le_of_ble_eq_true rfl, Nat.le_of_ble_eq_true rfl⟩ (fun r_12 e_13 => ?_)
            refine lv_if_eq (tgt := 120) hx hb dX5_canPour_96 (by decide) (fun c_14 => ?_) (fun c_14 => ?_)
            · skip
              refine lv_iconst (v := 0) hx hb dX5_canPour_120 (by decide) ?_
              refine lv_istore (lv' := [(10, .int 0), (9, .int (nI i_9)), (8, .int (nI i_6)), (7, .int (nI b_5)), (6, .int 0), (0, .ref ho), (1, .ref sp), (2, .int (nI j)), (3, .int w), (4, .int (nI d)), (5, .int (nI n))]) hx hb dX5_canPour_121 hl (by decide) rfl (fun ls hl => ?_)
              refine lv_iload hx hb dX5_canPour_123 (lv_at hl 0 rfl) ?_
              refine lv_if_eq (tgt := 139) hx hb dX5_canPour_125 (by decide) (fun _ => ?_) (fun h => absurd h (by decide))
              refine lv_iconst (v := 0) hx hb dX5_canPour_139 (by decide) ?_
              refine lv_istore (lv' := [(11, .int 0), (10, .int 0), (9, .int (nI i_9)), (8, .int (nI i_6)), (7, .int (nI b_5)), (6, .int 0), (0, .ref ho), (1, .ref sp), (2, .int (nI j)), (3, .int w), (4, .int (nI d)), (5, .int (nI n))]) hx hb dX5_canPour_140 hl (by decide) rfl (fun ls hl => ?_)
              refine lv_iload hx hb dX5_canPour_142 (lv_at hl 0 rfl) ?_
              refine lv_if_le (tgt := 197) hx hb dX5_canPour_144 (by decide) (fun _ => ?_) (fun h => absurd h (by decide))
              refine lv_iinc (v := nI (i_9 + 1)) (lv' := [(9, .int (nI (i_9 + 1))), (11, .int 0), (10, .int 0), (8, .int (nI i_6)), (7, .int (nI b_5)), (6, .int 0), (0, .ref ho), (1, .ref sp), (2, .int (nI j)), (3, .int w), (4, .int (nI d)), (5, .int (nI n))]) hx hb dX5_canPour_197 hl (k := 2) rfl (nI_add i_9 1) (by decide) rfl (fun ls hl => ?_)
              refine lv_goto (tgt := 73) hx hb dX5_canPour_200 (by decide) ?_
              exact ih73 ((i_9 + 1)) fU_7_10 qf_8_11 H locs ls (by omega)  hP hD hS (lv_sub hl [0, 3, 4, 5, 6, 7, 8, 9, 10, 11] rfl)
            · skip
              refine lv_iload hx hb dX5_canPour_99 (lv_at hl 3 rfl) ?_
              refine lv_if_eq (tgt := 116) hx hb dX5_canPour_101 (by decide) (fun _ => ?_) (fun h => absurd h (by decide))
              refine lv_iconst (v := 1) hx hb dX5_canPour_116 (by decide) ?_
              refine lv_goto (tgt := 121) hx hb dX5_canPour_117 (by decide) ?_
              refine lv_istore (lv' := [(10, .int 1), (9, .int (nI i_9)), (8, .int (nI i_6)), (7, .int (nI b_5)), (6, .int 0), (0, .ref ho), (1, .ref sp), (2, .int (nI j)), (3, .int w), (4, .int (nI d)), (5, .int (nI n))]) hx hb dX5_canPour_121 hl (by decide) rfl (fun ls hl => ?_)
              refine lv_iload hx hb dX5_canPour_123 (lv_at hl 0 rfl) ?_
              refine lv_if_eq (tgt := 139) hx hb dX5_canPour_125 (by decide) (fun h => absurd h (by decide)) (fun _ => ?_)
              refine lv_aload_n hx hb dX5_canPour_128 rfl (lv_at hl 5 rfl) ?_
              refine lv_iload hx hb dX5_canPour_129 (lv_at hl 2 rfl) ?_
              refine lv_iload hx hb dX5_canPour_131 (lv_at hl 1 rfl) ?_
              refine wt_rV (As := [.int (nI i_6), .int (nI i_9)]) (rest := []) ⟨hx, hb, hml, hown, hts⟩ (c_X0_pourable l D cI cZ cH ho aP aH aU R T i_6 i_9 fP fH fU_7_10 vz_0 vz_1 vz_4 vz_5 vz_6 vz_7 vz_9 (by first | assumption | omega) (by first | assumption | omega) (by first | assumption | omega) (by first | assumption | omega) (by first | assumption | omega)) (cwV 2 hts gX5_canPour_X0_pourable rfl rfl rfl (by decide +kernel) ⟨Nat.le_of_ble_eq_true rfl, Nat.le_of_ble_eq_true rfl⟩) hK hP [0, 1, 2, 3] rfl (va_recv hK.1 hP (ci := 0) (q0 := 0) rfl rfl) rfl hl.1 rfl (Nat.le_of_ble_eq_true rfl) dX5_canPour_133 ⟨Nat.le_of_ble_eq_true rfl, Nat.le_of_ble_eq_true rfl⟩ (fun r_15 e_16 => ?_)
              refine lv_goto (tgt := 140) hx hb dX5_canPour_136 (by decide) ?_
              refine lv_istore (lv' := [(11, .int r_15), (10, .int 1), (9, .int (nI i_9)), (8, .int (nI i_6)), (7, .int (nI b_5)), (6, .int 0), (0, .ref ho), (1, .ref sp), (2, .int (nI j)), (3, .int w), (4, .int (nI d)), (5, .int (nI n))]) hx hb dX5_canPour_140 hl (by decide) rfl (fun ls hl => ?_)
              refine lv_iload hx hb dX5_canPour_142 (lv_at hl 0 rfl) ?_
              refine lv_if_le (tgt := 197) hx hb dX5_canPour_144 (by decide) (fun c_17 => ?_) (fun c_17 => ?_)
              · skip
                refine lv_iinc (v := nI (i_9 + 1)) (lv' := [(9, .int (nI (i_9 + 1))), (11, .int r_15), (10, .int 1), (8, .int (nI i_6)), (7, .int (nI b_5)), (6, .int 0), (0, .ref ho), (1, .ref sp), (2, .int (nI j)), (3, .int w), (4, .int (nI d)), (5, .int (nI n))]) hx hb dX5_canPour_197 hl (k := 2) rfl (nI_add i_9 1) (by decide) rfl (fun ls hl => ?_)
                refine lv_goto (tgt := 73) hx hb dX5_canPour_200 (by decide) ?_
                exact ih73 ((i_9 + 1)) fU_7_10 qf_8_11 H locs ls (by omega)  hP hD hS (lv_sub hl [0, 3, 4, 5, 6, 7, 8, 9, 10, 11] rfl)
              · skip
                refine lv_aload_n hx hb dX5_canPour_147 rfl (lv_at hl 7 rfl) ?_
                refine lv_iload hx hb dX5_canPour_148 (lv_at hl 10 rfl) ?_
                refine lv_bipush (v := 10) hx hb dX5_canPour_150 (by decide) ?_
                refine lv_iload hx hb dX5_canPour_152 (lv_at hl 3 rfl) ?_
                refine lv_imul hx hb dX5_canPour_154 ?_
                refine wt_top (z := nI (10 * i_6)) (pk_mul 10 i_6) ?_
                refine lv_iload hx hb dX5_canPour_155 (lv_at hl 2 rfl) ?_
                refine lv_iadd hx hb dX5_canPour_157 ?_
                refine wt_top (z := nI ((10 * i_6) + i_9)) (nI_add (10 * i_6) i_9) ?_
                refine va_iast hx hb hK.1 hP hD hS 4 0 rfl rfl (vp_in_nI (by omega) (by omega)) dX5_canPour_158 (fun H locs hP hD hS => ?_)
                have hP : va_P D vwCl [(ho, .inr (0, [vz_0, vz_1, .int (nI R), .int (nI T), vz_4, vz_5, vz_6, vz_7, .ref aP, vz_9, .ref aH, .ref aU])), (aP, .inl (cI, 6, .inl fP)), (aH, .inl (cI, 6, .inl fH)), (aU, .inl (cI, 6, .inl fU_7_10)), (sp, .inl (cI, 3, .inl (upd qf_8_11 ((nI d).toNatClampNeg) (nI ((10 * i_6) + i_9)))))] H := hP
                have hD : va_D A [(ho, .inr (0, [vz_0, vz_1, .int (nI R), .int (nI T), vz_4, vz_5, vz_6, vz_7, .ref aP, vz_9, .ref aH, .ref aU])), (aP, .inl (cI, 6, .inl fP)), (aH, .inl (cI, 6, .inl fH)), (aU, .inl (cI, 6, .inl fU_7_10)), (sp, .inl (cI, 3, .inl (upd qf_8_11 ((nI d).toNatClampNeg) (nI ((10 * i_6) + i_9)))))] := hD
                generalize upd qf_8_11 ((nI d).toNatClampNeg) (nI ((10 * i_6) + i_9)) = qf_8_18 at hP hD
                refine lv_aload_n hx hb dX5_canPour_159 rfl (lv_at hl 6 rfl) ?_
                refine lv_iload hx hb dX5_canPour_160 (lv_at hl 3 rfl) ?_
                refine lv_iload hx hb dX5_canPour_162 (lv_at hl 2 rfl) ?_
                refine lv_iload hx hb dX5_canPour_164 (lv_at hl 0 rfl) ?_
                refine wt_goV (wr := [(aP, .inl (cI, 6, .inl fP)), (aH, .inl (cI, 6, .inl fH)), (sp, .inl (cI, 3, .inl qf_8_18))]) (wt_runV (As := [.int (nI i_6), .int (nI i_9), .int r_15]) (rest := []) ⟨hx, hb, hml, hown, hts⟩ (c_X0_shift l D cI cZ cH ho aU T i_6 i_9 fU_7_10 r_15 vz_0 vz_1 (.int (nI R)) vz_4 vz_5 vz_6 vz_7 (.ref aP) vz_9 (.ref aH) (by first | assumption | omega) (by first | assumption | omega) (by first | assumption | omega)) (cwV 3 hts gX5_canPour_X0_shift rfl rfl rfl (by decide +kernel) ⟨Nat.le_of_ble_eq_true rfl, Nat.le_of_ble_eq_true rfl⟩) hK hP hD [0, 3] rfl (by decide) (va_recv hK.1 hP (ci := 0) (q0 := 0) rfl rfl) rfl hl.1 rfl (Nat.le_of_ble_eq_true rfl) dX5_canPour_166 ⟨Nat.le_of_ble_eq_true rfl, Nat.le_of_ble_eq_true rfl⟩) hP hD hS hA [0, 3] [1, 2, 4] rfl rfl (by decide) (by decide) (fun w_20 H locs h_21 hP hD hS => ?_)
                obtain ⟨fU2_22, rfl⟩ := h_21
                have hP : va_P D vwCl [(aP, .inl (cI, 6, .inl fP)), (aH, .inl (cI, 6, .inl fH)), (sp, .inl (cI, 3, .inl qf_8_18)), (ho, .inr (0, [vz_0, vz_1, .int (nI R), .int (nI T), vz_4, vz_5, vz_6, vz_7, .ref aP, vz_9, .ref aH, .ref aU])), (aU, .inl (cI, 6, .inl fU2_22))] H := hP
                have hD : va_D A [(aP, .inl (cI, 6, .inl fP)), (aH, .inl (cI, 6, .inl fH)), (sp, .inl (cI, 3, .inl qf_8_18)), (ho, .inr (0, [vz_0, vz_1, .int (nI R), .int (nI T), vz_4, vz_5, vz_6, vz_7, .ref aP, vz_9, .ref aH, .ref aU])), (aU, .inl (cI, 6, .inl fU2_22))] := hD
                refine lv_aload_n hx hb dX5_canPour_169 rfl (lv_at hl 6 rfl) ?_
                refine lv_aload_n hx hb dX5_canPour_170 rfl (lv_at hl 7 rfl) ?_
                refine lv_iload_n hx hb dX5_canPour_171 rfl (lv_at hl 8 rfl) ?_
                refine lv_iload_n hx hb dX5_canPour_172 rfl (lv_at hl 9 rfl) ?_
                refine lv_iload hx hb dX5_canPour_173 (lv_at hl 10 rfl) ?_
                refine lv_iconst (v := 1) hx hb dX5_canPour_175 (by decide) ?_
                refine lv_iadd hx hb dX5_canPour_176 ?_
                refine wt_top (z := nI (d + 1)) (nI_add d 1) ?_
                refine lv_iload hx hb dX5_canPour_177 (lv_at hl 11 rfl) ?_
                refine wt_goI (wr := []) (wt_runS (As := [.ref ho, .ref sp, .int (nI j), .int w, .int (nI (d + 1)), .int (nI n)]) (rest := []) ⟨hx, hb, hml, hown, hts⟩ (c_X5_canPour_2 l D cI cZ cH ho aP aH aU R T j (d + 1) n fP fH fU2_22 sp qf_8_18 w vz_0 vz_1 vz_4 vz_5 vz_6 vz_7 vz_9 (by first | assumption | omega) (by first | assumption | omega) (by first | assumption | omega) (by first | assumption | omega) (by first | assumption | omega) (by first | assumption | omega)) (va_cwS 6 hts gX5_canPour_X5_canPour rfl rfl rfl (by decide +kernel) ⟨Nat.le_of_ble_eq_true rfl, Nat.le_of_ble_eq_true rfl⟩) hK hP hD [3, 0, 1, 4, 2] rfl (by decide) rfl hl.1 rfl (Nat.le_of_ble_eq_true rfl) dX5_canPour_179 ⟨Nat.le_of_ble_eq_true rfl, Nat.le_of_ble_eq_true rfl⟩) hP hD hS hA [3, 0, 1, 4, 2] [] rfl rfl (by decide) (by decide) (fun r_23 w_24 H locs h_25 hP hD hS => ?_)
                obtain ⟨fU2_26, qf2_27, rfl⟩ := h_25
                have hP : va_P D vwCl [(ho, .inr (0, [vz_0, vz_1, .int (nI R), .int (nI T), vz_4, vz_5, vz_6, vz_7, .ref aP, vz_9, .ref aH, .ref aU])), (aP, .inl (cI, 6, .inl fP)), (aH, .inl (cI, 6, .inl fH)), (aU, .inl (cI, 6, .inl fU2_26)), (sp, .inl (cI, 3, .inl qf2_27))] H := hP
                have hD : va_D A [(ho, .inr (0, [vz_0, vz_1, .int (nI R), .int (nI T), vz_4, vz_5, vz_6, vz_7, .ref aP, vz_9, .ref aH, .ref aU])), (aP, .inl (cI, 6, .inl fP)), (aH, .inl (cI, 6, .inl fH)), (aU, .inl (cI, 6, .inl fU2_26)), (sp, .inl (cI, 3, .inl qf2_27))] := hD
                refine lv_if_eq (tgt := 187) hx hb dX5_canPour_182 (by decide) (fun c_28 => ?_) (fun c_28 => ?_)
                · skip
                  refine lv_aload_n hx hb dX5_canPour_187 rfl (lv_at hl 6 rfl) ?_
                  refine lv_iload hx hb dX5_canPour_188 (lv_at hl 2 rfl) ?_
                  refine lv_iload hx hb dX5_canPour_190 (lv_at hl 3 rfl) ?_
                  refine lv_iload hx hb dX5_canPour_192 (lv_at hl 0 rfl) ?_
                  refine wt_goV (wr := [(aP, .inl (cI, 6, .inl fP)), (aH, .inl (cI, 6, .inl fH)), (sp, .inl (cI, 3, .inl qf2_27))]) (wt_runV (As := [.int (nI i_9), .int (nI i_6), .int r_15]) (rest := []) ⟨hx, hb, hml, hown, hts⟩ (c_X0_shift l D cI cZ cH ho aU T i_9 i_6 fU2_26 r_15 vz_0 vz_1 (.int (nI R)) vz_4 vz_5 vz_6 vz_7 (.ref aP) vz_9 (.ref aH) (by first | assumption | omega) (by first | assumption | omega) (by first | assumption | omega)) (cwV 3 hts gX5_canPour_X0_shift rfl rfl rfl (by decide +kernel) ⟨Nat.le_of_ble_eq_true rfl, Nat.le_of_ble_eq_true rfl⟩) hK hP hD [0, 3] rfl (by decide) (va_recv hK.1 hP (ci := 0) (q0 := 0) rfl rfl) rfl hl.1 rfl (Nat.le_of_ble_eq_true rfl) dX5_canPour_194 ⟨Nat.le_of_ble_eq_true rfl, Nat.le_of_ble_eq_true rfl⟩) hP hD hS hA [0, 3] [1, 2, 4] rfl rfl (by decide) (by decide) (fun w_30 H locs h_31 hP hD hS => ?_)
                  obtain ⟨fU2_32, rfl⟩ := h_31
                  have hP : va_P D vwCl [(aP, .inl (cI, 6, .inl fP)), (aH, .inl (cI, 6, .inl fH)), (sp, .inl (cI, 3, .inl qf2_27)), (ho, .inr (0, [vz_0, vz_1, .int (nI R), .int (nI T), vz_4, vz_5, vz_6, vz_7, .ref aP, vz_9, .ref aH, .ref aU])), (aU, .inl (cI, 6, .inl fU2_32))] H := hP
                  have hD : va_D A [(aP, .inl (cI, 6, .inl fP)), (aH, .inl (cI, 6, .inl fH)), (sp, .inl (cI, 3, .inl qf2_27)), (ho, .inr (0, [vz_0, vz_1, .int (nI R), .int (nI T), vz_4, vz_5, vz_6, vz_7, .ref aP, vz_9, .ref aH, .ref aU])), (aU, .inl (cI, 6, .inl fU2_32))] := hD
                  refine lv_iinc (v := nI (i_9 + 1)) (lv' := [(9, .int (nI (i_9 + 1))), (11, .int r_15), (10, .int 1), (8, .int (nI i_6)), (7, .int (nI b_5)), (6, .int 0), (0, .ref ho), (1, .ref sp), (2, .int (nI j)), (3, .int w), (4, .int (nI d)), (5, .int (nI n))]) hx hb dX5_canPour_197 hl (k := 2) rfl (nI_add i_9 1) (by decide) rfl (fun ls hl => ?_)
                  refine lv_goto (tgt := 73) hx hb dX5_canPour_200 (by decide) ?_
                  exact ih73 ((i_9 + 1)) fU2_32 qf2_27 H locs ls (by omega)  (hP.sub [3, 0, 1, 4, 2] rfl) (hD.sub [3, 0, 1, 4, 2] (by decide) rfl) hS (lv_sub hl [0, 3, 4, 5, 6, 7, 8, 9, 10, 11] rfl)
                · skip
                  refine lv_iconst (v := 1) hx hb dX5_canPour_185 (by decide) ?_
                  have hP9 := hP.sub (ws' := [(ho, .inr (0, [vz_0, vz_1, .int (nI R), .int (nI T), vz_4, vz_5, vz_6, vz_7, .ref aP, vz_9, .ref aH, .ref aU])), (aP, .inl (cI, 6, .inl fP)), (aH, .inl (cI, 6, .inl fH)), (aU, .inl (cI, 6, .inl fU2_26)), (sp, .inl (cI, 3, .inl qf2_27))]) [0, 1, 2, 3, 4] rfl
                  have hD9 := hD.sub (ws' := [(ho, .inr (0, [vz_0, vz_1, .int (nI R), .int (nI T), vz_4, vz_5, vz_6, vz_7, .ref aP, vz_9, .ref aH, .ref aU])), (aP, .inl (cI, 6, .inl fP)), (aH, .inl (cI, 6, .inl fH)), (aU, .inl (cI, 6, .inl fU2_26)), (sp, .inl (cI, 3, .inl qf2_27))]) [0, 1, 2, 3, 4] (by decide) rfl
                  exact wt_zret hx hb hr hlocks (by decide) hP9 hD9 hS ⟨fU2_26, qf2_27, rfl⟩ dX5_canPour_186
        exact loop73 (T - 0) (0) fU_7 qf_8 _ _ ls (by omega)  hP hD hS hl
    exact loop61 (T - 0) (0) fU qf _ _ ls (by omega)  hP hD hS hl
  · skip
    have c_1 : d = (n - 1) := (nI_eq (a := d) (b := (n - 1)) (by omega) (by omega)).mp c_1
    refine lv_iconst (v := 1) hx hb dX5_canPour_39 (by decide) ?_
    refine lv_goto (tgt := 44) hx hb dX5_canPour_40 (by decide) ?_
    refine lv_istore (lv' := [(6, .int 1), (0, .ref ho), (1, .ref sp), (2, .int (nI j)), (3, .int w), (4, .int (nI d)), (5, .int (nI n))]) hx hb dX5_canPour_44 hl (by decide) rfl (fun ls hl => ?_)
    refine lv_aload_n hx hb dX5_canPour_46 rfl (lv_at hl 1 rfl) ?_
    refine lv_aload_n hx hb dX5_canPour_47 rfl (lv_at hl 1 rfl) ?_
    refine va_get (D := D) (ci := 0) (v := .ref aP) (C := RX0) (T := TX0) (N := 12) hx hb hts hi0 hown hK.1 hP 0 rfl rfl 8 (by decide) wf172 (fun _ h9 => h9) rfl dX5_canPour_48 ?_
    refine lv_iload_n hx hb dX5_canPour_51 rfl (lv_at hl 3 rfl) ?_
    refine va_iald hx hb hK.1 hP 1 0 rfl rfl (vp_in_nI (by omega) (by omega)) dX5_canPour_52 ?_
    obtain ⟨q_33, hq_33, eq_33⟩ := hwP j (by omega)
    refine wt_top (z := nI q_33) (by rw [nI_clamp (by omega)]; exact eq_33) ?_
    refine wt_rV (As := [.int (nI q_33)]) (rest := []) ⟨hx, hb, hml, hown, hts⟩ (c_X0_tubesAt l D cI cZ cH ho aP T fP (nI q_33) vz_0 vz_1 (.int (nI R)) vz_4 vz_5 vz_6 vz_7 vz_9 (.ref aH) (.ref aU) (by first | assumption | omega)) (cwV 1 hts gX5_canPour_X0_tubesAt rfl rfl rfl (by decide +kernel) ⟨Nat.le_of_ble_eq_true rfl, Nat.le_of_ble_eq_true rfl⟩) hK hP [0, 1] rfl (va_recv hK.1 hP (ci := 0) (q0 := 0) rfl rfl) rfl hl.1 rfl (Nat.le_of_ble_eq_true rfl) dX5_canPour_53 ⟨Nat.le_of_ble_eq_true rfl, Nat.le_of_ble_eq_true rfl⟩ (fun r_34 e_35 => ?_)
    obtain ⟨b_36, e_35, rfl⟩ := e_35
    refine lv_istore (lv' := [(7, .int (nI b_36)), (6, .int 1), (0, .ref ho), (1, .ref sp), (2, .int (nI j)), (3, .int w), (4, .int (nI d)), (5, .int (nI n))]) hx hb dX5_canPour_56 hl (by decide) rfl (fun ls hl => ?_)
    refine lv_iconst (v := 0) hx hb dX5_canPour_58 (by decide) ?_
    refine lv_istore (lv' := [(8, .int 0), (7, .int (nI b_36)), (6, .int 1), (0, .ref ho), (1, .ref sp), (2, .int (nI j)), (3, .int w), (4, .int (nI d)), (5, .int (nI n))]) hx hb dX5_canPour_59 hl (by decide) rfl (fun ls hl => ?_)
    have loop61 : ∀ (k i_37 : Nat) (fU_38 : Nat → Int32) (qf_39 : Nat → Int32) (H : Heap) (locs : List Loc) (ls : Array Slot), i_37 + k = T → va_P D vwCl [(ho, .inr (0, [vz_0, vz_1, .int (nI R), .int (nI T), vz_4, vz_5, vz_6, vz_7, .ref aP, vz_9, .ref aH, .ref aU])), (aP, .inl (cI, 6, .inl fP)), (aH, .inl (cI, 6, .inl fH)), (aU, .inl (cI, 6, .inl fU_38)), (sp, .inl (cI, 3, .inl qf_39))] H → va_D A [(ho, .inr (0, [vz_0, vz_1, .int (nI R), .int (nI T), vz_4, vz_5, vz_6, vz_7, .ref aP, vz_9, .ref aH, .ref aU])), (aP, .inl (cI, 6, .inl fP)), (aH, .inl (cI, 6, .inl fH)), (aU, .inl (cI, 6, .inl fU_38)), (sp, .inl (cI, 3, .inl qf_39))] → va_S A s.heap H locs → lv_has ls 12 [(8, .int (nI i_37)), (7, .int (nI b_36)), (6, .int 1), (0, .ref ho), (1, .ref sp), (2, .int (nI j)), (3, .int w), (4, .int (nI d)), (5, .int (nI n))] → W p l e ({ frames := 4, cells := 0, slots := 0, locals := 124 } : Room) s m ([.ref ho, .ref sp, .int (nI j), .int w, .int (nI d), .int (nI n)] : List Value).toArray below meth c H locs 0 0 (MQ below (wt_QI D (fun r w => ∃ (fU2 qf2 : Nat → Int32), w = [(ho, .inr (0, [vz_0, vz_1, .int (nI R), .int (nI T), vz_4, vz_5, vz_6, vz_7, .ref aP, vz_9, .ref aH, .ref aU])), (aP, .inl (cI, 6, .inl fP)), (aH, .inl (cI, 6, .inl fH)), (aU, .inl (cI, 6, .inl fU2)), (sp, .inl (cI, 3, .inl qf2))]) A) ([.ref ho, .ref sp, .int (nI j), .int w, .int (nI d), .int (nI n)] : List Value).toArray s 0 0 A) (F0 m 61 ls []) := by
      intro k
      induction k with
      | zero =>
        intro i_37 fU_38 qf_39 H locs ls hik  hP hD hS hl
        refine lv_iload hx hb dX5_canPour_61 (lv_at hl 0 rfl) ?_
        refine lv_aload_n hx hb dX5_canPour_63 rfl (lv_at hl 3 rfl) ?_
        refine va_get (D := D) (ci := 0) (v := .int (nI T)) (C := RX0) (T := TX0) (N := 12) hx hb hts hi0 hown hK.1 hP 0 rfl rfl 3 (by decide) wf140 (fun _ h9 => h9) rfl dX5_canPour_64 ?_
        refine lv_icmp_ge (tgt := 209) hx hb dX5_canPour_67 (by decide) (fun _ => ?_) (fun h => absurd (nI_le (a := T) (b := i_37) (by omega) (by omega)) h)
        refine lv_iconst (v := 0) hx hb dX5_canPour_209 (by decide) ?_
        have hP9 := hP.sub (ws' := [(ho, .inr (0, [vz_0, vz_1, .int (nI R), .int (nI T), vz_4, vz_5, vz_6, vz_7, .ref aP, vz_9, .ref aH, .ref aU])), (aP, .inl (cI, 6, .inl fP)), (aH, .inl (cI, 6, .inl fH)), (aU, .inl (cI, 6, .inl fU_38)), (sp, .inl (cI, 3, .inl qf_39))]) [0, 1, 2, 3, 4] rfl
        have hD9 := hD.sub (ws' := [(ho, .inr (0, [vz_0, vz_1, .int (nI R), .int (nI T), vz_4, vz_5, vz_6, vz_7, .ref aP, vz_9, .ref aH, .ref aU])), (aP, .inl (cI, 6, .inl fP)), (aH, .inl (cI, 6, .inl fH)), (aU, .inl (cI, 6, .inl fU_38)), (sp, .inl (cI, 3, .inl qf_39))]) [0, 1, 2, 3, 4] (by decide) rfl
        exact wt_zret hx hb hr hlocks (by decide) hP9 hD9 hS ⟨fU_38, qf_39, rfl⟩ dX5_canPour_210
      | succ k ih61 =>
        intro i_37 fU_38 qf_39 H locs ls hik  hP hD hS hl
        refine lv_iload hx hb dX5_canPour_61 (lv_at hl 0 rfl) ?_
        refine lv_aload_n hx hb dX5_canPour_63 rfl (lv_at hl 3 rfl) ?_
        refine va_get (D := D) (ci := 0) (v := .int (nI T)) (C := RX0) (T := TX0) (N := 12) hx hb hts hi0 hown hK.1 hP 0 rfl rfl 3 (by decide) wf140 (fun _ h9 => h9) rfl dX5_canPour_64 ?_
        refine lv_icmp_ge (tgt := 209) hx hb dX5_canPour_67 (by decide) (fun h => absurd h (nI_ge (a := i_37) (b := T) (by omega) (by omega))) (fun _ => ?_)
        refine lv_iconst (v := 0) hx hb dX5_canPour_70 (by decide) ?_
        refine lv_istore (lv' := [(9, .int 0), (8, .int (nI i_37)), (7, .int (nI b_36)), (6, .int 1), (0, .ref ho), (1, .ref sp), (2, .int (nI j)), (3, .int w), (4, .int (nI d)), (5, .int (nI n))]) hx hb dX5_canPour_71 hl (by decide) rfl (fun ls hl => ?_)
        have loop73 : ∀ (k i_40 : Nat) (fU_38_41 : Nat → Int32) (qf_39_42 : Nat → Int32) (H : Heap) (locs : List Loc) (ls : Array Slot), i_40 + k = T → va_P D vwCl [(ho, .inr (0, [vz_0, vz_1, .int (nI R), .int (nI T), vz_4, vz_5, vz_6, vz_7, .ref aP, vz_9, .ref aH, .ref aU])), (aP, .inl (cI, 6, .inl fP)), (aH, .inl (cI, 6, .inl fH)), (aU, .inl (cI, 6, .inl fU_38_41)), (sp, .inl (cI, 3, .inl qf_39_42))] H → va_D A [(ho, .inr (0, [vz_0, vz_1, .int (nI R), .int (nI T), vz_4, vz_5, vz_6, vz_7, .ref aP, vz_9, .ref aH, .ref aU])), (aP, .inl (cI, 6, .inl fP)), (aH, .inl (cI, 6, .inl fH)), (aU, .inl (cI, 6, .inl fU_38_41)), (sp, .inl (cI, 3, .inl qf_39_42))] → va_S A s.heap H locs → lv_has ls 12 [(9, .int (nI i_40)), (8, .int (nI i_37)), (7, .int (nI b_36)), (6, .int 1), (0, .ref ho), (1, .ref sp), (2, .int (nI j)), (3, .int w), (4, .int (nI d)), (5, .int (nI n))] → W p l e ({ frames := 4, cells := 0, slots := 0, locals := 124 } : Room) s m ([.ref ho, .ref sp, .int (nI j), .int w, .int (nI d), .int (nI n)] : List Value).toArray below meth c H locs 0 0 (MQ below (wt_QI D (fun r w => ∃ (fU2 qf2 : Nat → Int32), w = [(ho, .inr (0, [vz_0, vz_1, .int (nI R), .int (nI T), vz_4, vz_5, vz_6, vz_7, .ref aP, vz_9, .ref aH, .ref aU])), (aP, .inl (cI, 6, .inl fP)), (aH, .inl (cI, 6, .inl fH)), (aU, .inl (cI, 6, .inl fU2)), (sp, .inl (cI, 3, .inl qf2))]) A) ([.ref ho, .ref sp, .int (nI j), .int w, .int (nI d), .int (nI n)] : List Value).toArray s 0 0 A) (F0 m 73 ls []) := by
          intro k
          induction k with
          | zero =>
            intro i_40 fU_38_41 qf_39_42 H locs ls hik  hP hD hS hl
            refine lv_iload hx hb dX5_canPour_73 (lv_at hl 0 rfl) ?_
            refine lv_aload_n hx hb dX5_canPour_75 rfl (lv_at hl 4 rfl) ?_
            refine va_get (D := D) (ci := 0) (v := .int (nI T)) (C := RX0) (T := TX0) (N := 12) hx hb hts hi0 hown hK.1 hP 0 rfl rfl 3 (by decide) wf140 (fun _ h9 => h9) rfl dX5_canPour_76 ?_
            refine lv_icmp_ge (tgt := 203) hx hb dX5_canPour_79 (by decide) (fun _ => ?_) (fun h => absurd (nI_le (a := T) (b := i_40) (by omega) (by omega)) h)
            refine lv_iinc (v := nI (i_37 + 1)) (lv' := [(8, .int (nI (i_37 + 1))), (9, .int (nI i_40)), (7, .int (nI b_36)), (6, .int 1), (0, .ref ho), (1, .ref sp), (2, .int (nI j)), (3, .int w), (4, .int (nI d)), (5, .int (nI n))]) hx hb dX5_canPour_203 hl (k := 1) rfl (nI_add i_37 1) (by decide) rfl (fun ls hl => ?_)
            refine lv_goto (tgt := 61) hx hb dX5_canPour_206 (by decide) ?_
            exact ih61 ((i_37 + 1)) fU_38_41 qf_39_42 H locs ls (by omega)  hP hD hS (lv_sub hl [0, 2, 3, 4, 5, 6, 7, 8, 9] rfl)
          | succ k ih73 =>
            intro i_40 fU_38_41 qf_39_42 H locs ls hik  hP hD hS hl
            refine lv_iload hx hb dX5_canPour_73 (lv_at hl 0 rfl) ?_
            refine lv_aload_n hx hb dX5_canPour_75 rfl (lv_at hl 4 rfl) ?_
            refine va_get (D := D) (ci := 0) (v := .int (nI T)) (C := RX0) (T := TX0) (N := 12) hx hb hts hi0 hown hK.1 hP 0 rfl rfl 3 (by decide) wf140 (fun _ h9 => h9) rfl dX5_canPour_76 ?_
            refine lv_icmp_ge (tgt := 203) hx hb dX5_canPour_79 (by decide) (fun h => absurd h (nI_ge (a := i_40) (b := T) (by omega) (by omega))) (fun _ => ?_)
            refine lv_iconst (v := 1) hx hb dX5_canPour_82 (by decide) ?_
            refine lv_iload hx hb dX5_canPour_83 (lv_at hl 1 rfl) ?_
            refine lv_ishl hx hb dX5_canPour_85 ?_
            refine wt_top (z := nI (2 ^ i_37)) (wt_shl1 (by omega)) ?_
            refine lv_iconst (v := 1) hx hb dX5_canPour_86 (by decide) ?_
            refine lv_iload hx hb dX5_canPour_87 (lv_at hl 0 rfl) ?_
            refine lv_ishl hx hb dX5_canPour_89 ?_
            refine wt_top (z := nI (2 ^ i_40)) (wt_shl1 (by omega)) ?_
            refine lv_ior hx hb dX5_canPour_90 ?_
            refine wt_top (z := nI ((2 ^ i_37) ||| (2 ^ i_40))) (wt_or (2 ^ i_37) (2 ^ i_40)) ?_
            refine lv_iload hx hb dX5_canPour_91 (lv_at hl 2 rfl) ?_
            refine wt_rS (As := [.int (nI ((2 ^ i_37) ||| (2 ^ i_40))), .int (nI b_36)]) (rest := []) ⟨hx, hb, hml, hown, hts⟩ (c_X5_isPart l D cI cZ cH (nI ((2 ^ i_37) ||| (2 ^ i_40))) (nI b_36)) (va_cwS 2 hts gX5_canPour_X5_isPart rfl rfl rfl (by decide +kernel) ⟨Nat.le_of_ble_eq_true rfl, Nat.le_of_ble_eq_true rfl⟩) hK hP [] rfl rfl hl.1 rfl (Nat.le_of_ble_eq_true rfl) dX5_canPour_93 ⟨Nat.le_of_ble_eq_true rfl, Nat.le_of_ble_eq_true rfl⟩ (fun r_43 e_44 => ?_)
            refine lv_if_eq (tgt := 120) hx hb dX5_canPour_96 (by decide) (fun c_45 => ?_) (fun c_45 => ?_)
            · skip
              refine lv_iconst (v := 0) hx hb dX5_canPour_120 (by decide) ?_
              refine lv_istore (lv' := [(10, .int 0), (9, .int (nI i_40)), (8, .int (nI i_37)), (7, .int (nI b_36)), (6, .int 1), (0, .ref ho), (1, .ref sp), (2, .int (nI j)), (3, .int w), (4, .int (nI d)), (5, .int (nI n))]) hx hb dX5_canPour_121 hl (by decide) rfl (fun ls hl => ?_)
              refine lv_iload hx hb dX5_canPour_123 (lv_at hl 0 rfl) ?_
              refine lv_if_eq (tgt := 139) hx hb dX5_canPour_125 (by decide) (fun _ => ?_) (fun h => absurd h (by decide))
              refine lv_iconst (v := 0) hx hb dX5_canPour_139 (by decide) ?_
              refine lv_istore (lv' := [(11, .int 0), (10, .int 0), (9, .int (nI i_40)), (8, .int (nI i_37)), (7, .int (nI b_36)), (6, .int 1), (0, .ref ho), (1, .ref sp), (2, .int (nI j)), (3, .int w), (4, .int (nI d)), (5, .int (nI n))]) hx hb dX5_canPour_140 hl (by decide) rfl (fun ls hl => ?_)
              refine lv_iload hx hb dX5_canPour_142 (lv_at hl 0 rfl) ?_
              refine lv_if_le (tgt := 197) hx hb dX5_canPour_144 (by decide) (fun _ => ?_) (fun h => absurd h (by decide))
              refine lv_iinc (v := nI (i_40 + 1)) (lv' := [(9, .int (nI (i_40 + 1))), (11, .int 0), (10, .int 0), (8, .int (nI i_37)), (7, .int (nI b_36)), (6, .int 1), (0, .ref ho), (1, .ref sp), (2, .int (nI j)), (3, .int w), (4, .int (nI d)), (5, .int (nI n))]) hx hb dX5_canPour_197 hl (k := 2) rfl (nI_add i_40 1) (by decide) rfl (fun ls hl => ?_)
              refine lv_goto (tgt := 73) hx hb dX5_canPour_200 (by decide) ?_
              exact ih73 ((i_40 + 1)) fU_38_41 qf_39_42 H locs ls (by omega)  hP hD hS (lv_sub hl [0, 3, 4, 5, 6, 7, 8, 9, 10, 11] rfl)
            · skip
              refine lv_iload hx hb dX5_canPour_99 (lv_at hl 3 rfl) ?_
              refine lv_if_eq (tgt := 116) hx hb dX5_canPour_101 (by decide) (fun h => absurd h (by decide)) (fun _ => ?_)
              refine lv_iload hx hb dX5_canPour_104 (lv_at hl 1 rfl) ?_
              refine lv_iload_n hx hb dX5_canPour_106 rfl (lv_at hl 6 rfl) ?_
              refine lv_icmp_eq (tgt := 116) hx hb dX5_canPour_107 (by decide) (fun c_46 => ?_) (fun c_46 => ?_)
              · skip
                have c_46 : i_37 = j := (nI_eq (a := i_37) (b := j) (by omega) (by omega)).mp c_46
                refine lv_iconst (v := 1) hx hb dX5_canPour_116 (by decide) ?_
                refine lv_goto (tgt := 121) hx hb dX5_canPour_117 (by decide) ?_
                refine lv_istore (lv' := [(10, .int 1), (9, .int (nI i_40)), (8, .int (nI i_37)), (7, .int (nI b_36)), (6, .int 1), (0, .ref ho), (1, .ref sp), (2, .int (nI j)), (3, .int w), (4, .int (nI d)), (5, .int (nI n))]) hx hb dX5_canPour_121 hl (by decide) rfl (fun ls hl => ?_)
                refine lv_iload hx hb dX5_canPour_123 (lv_at hl 0 rfl) ?_
                refine lv_if_eq (tgt := 139) hx hb dX5_canPour_125 (by decide) (fun h => absurd h (by decide)) (fun _ => ?_)
                refine lv_aload_n hx hb dX5_canPour_128 rfl (lv_at hl 5 rfl) ?_
                refine lv_iload hx hb dX5_canPour_129 (lv_at hl 2 rfl) ?_
                refine lv_iload hx hb dX5_canPour_131 (lv_at hl 1 rfl) ?_
                refine wt_rV (As := [.int (nI i_37), .int (nI i_40)]) (rest := []) ⟨hx, hb, hml, hown, hts⟩ (c_X0_pourable l D cI cZ cH ho aP aH aU R T i_37 i_40 fP fH fU_38_41 vz_0 vz_1 vz_4 vz_5 vz_6 vz_7 vz_9 (by first | assumption | omega) (by first | assumption | omega) (by first | assumption | omega) (by first | assumption | omega) (by first | assumption | omega)) (cwV 2 hts gX5_canPour_X0_pourable rfl rfl rfl (by decide +kernel) ⟨Nat.le_of_ble_eq_true rfl, Nat.le_of_ble_eq_true rfl⟩) hK hP [0, 1, 2, 3] rfl (va_recv hK.1 hP (ci := 0) (q0 := 0) rfl rfl) rfl hl.1 rfl (Nat.le_of_ble_eq_true rfl) dX5_canPour_133 ⟨Nat.le_of_ble_eq_true rfl, Nat.le_of_ble_eq_true rfl⟩ (fun r_47 e_48 => ?_)
                refine lv_goto (tgt := 140) hx hb dX5_canPour_136 (by decide) ?_
                refine lv_istore (lv' := [(11, .int r_47), (10, .int 1), (9, .int (nI i_40)), (8, .int (nI i_37)), (7, .int (nI b_36)), (6, .int 1), (0, .ref ho), (1, .ref sp), (2, .int (nI j)), (3, .int w), (4, .int (nI d)), (5, .int (nI n))]) hx hb dX5_canPour_140 hl (by decide) rfl (fun ls hl => ?_)
                refine lv_iload hx hb dX5_canPour_142 (lv_at hl 0 rfl) ?_
                refine lv_if_le (tgt := 197) hx hb dX5_canPour_144 (by decide) (fun c_49 => ?_) (fun c_49 => ?_)
                · skip
                  refine lv_iinc (v := nI (i_40 + 1)) (lv' := [(9, .int (nI (i_40 + 1))), (11, .int r_47), (10, .int 1), (8, .int (nI i_37)), (7, .int (nI b_36)), (6, .int 1), (0, .ref ho), (1, .ref sp), (2, .int (nI j)), (3, .int w), (4, .int (nI d)), (5, .int (nI n))]) hx hb dX5_canPour_197 hl (k := 2) rfl (nI_add i_40 1) (by decide) rfl (fun ls hl => ?_)
                  refine lv_goto (tgt := 73) hx hb dX5_canPour_200 (by decide) ?_
                  exact ih73 ((i_40 + 1)) fU_38_41 qf_39_42 H locs ls (by omega)  hP hD hS (lv_sub hl [0, 3, 4, 5, 6, 7, 8, 9, 10, 11] rfl)
                · skip
                  refine lv_aload_n hx hb dX5_canPour_147 rfl (lv_at hl 7 rfl) ?_
                  refine lv_iload hx hb dX5_canPour_148 (lv_at hl 10 rfl) ?_
                  refine lv_bipush (v := 10) hx hb dX5_canPour_150 (by decide) ?_
                  refine lv_iload hx hb dX5_canPour_152 (lv_at hl 3 rfl) ?_
                  refine lv_imul hx hb dX5_canPour_154 ?_
                  refine wt_top (z := nI (10 * i_37)) (pk_mul 10 i_37) ?_
                  refine lv_iload hx hb dX5_canPour_155 (lv_at hl 2 rfl) ?_
                  refine lv_iadd hx hb dX5_canPour_157 ?_
                  refine wt_top (z := nI ((10 * i_37) + i_40)) (nI_add (10 * i_37) i_40) ?_
                  refine va_iast hx hb hK.1 hP hD hS 4 0 rfl rfl (vp_in_nI (by omega) (by omega)) dX5_canPour_158 (fun H locs hP hD hS => ?_)
                  have hP : va_P D vwCl [(ho, .inr (0, [vz_0, vz_1, .int (nI R), .int (nI T), vz_4, vz_5, vz_6, vz_7, .ref aP, vz_9, .ref aH, .ref aU])), (aP, .inl (cI, 6, .inl fP)), (aH, .inl (cI, 6, .inl fH)), (aU, .inl (cI, 6, .inl fU_38_41)), (sp, .inl (cI, 3, .inl (upd qf_39_42 ((nI d).toNatClampNeg) (nI ((10 * i_37) + i_40)))))] H := hP
                  have hD : va_D A [(ho, .inr (0, [vz_0, vz_1, .int (nI R), .int (nI T), vz_4, vz_5, vz_6, vz_7, .ref aP, vz_9, .ref aH, .ref aU])), (aP, .inl (cI, 6, .inl fP)), (aH, .inl (cI, 6, .inl fH)), (aU, .inl (cI, 6, .inl fU_38_41)), (sp, .inl (cI, 3, .inl (upd qf_39_42 ((nI d).toNatClampNeg) (nI ((10 * i_37) + i_40)))))] := hD
                  generalize upd qf_39_42 ((nI d).toNatClampNeg) (nI ((10 * i_37) + i_40)) = qf_39_50 at hP hD
                  refine lv_aload_n hx hb dX5_canPour_159 rfl (lv_at hl 6 rfl) ?_
                  refine lv_iload hx hb dX5_canPour_160 (lv_at hl 3 rfl) ?_
                  refine lv_iload hx hb dX5_canPour_162 (lv_at hl 2 rfl) ?_
                  refine lv_iload hx hb dX5_canPour_164 (lv_at hl 0 rfl) ?_
                  refine wt_goV (wr := [(aP, .inl (cI, 6, .inl fP)), (aH, .inl (cI, 6, .inl fH)), (sp, .inl (cI, 3, .inl qf_39_50))]) (wt_runV (As := [.int (nI i_37), .int (nI i_40), .int r_47]) (rest := []) ⟨hx, hb, hml, hown, hts⟩ (c_X0_shift l D cI cZ cH ho aU T i_37 i_40 fU_38_41 r_47 vz_0 vz_1 (.int (nI R)) vz_4 vz_5 vz_6 vz_7 (.ref aP) vz_9 (.ref aH) (by first | assumption | omega) (by first | assumption | omega) (by first | assumption | omega)) (cwV 3 hts gX5_canPour_X0_shift rfl rfl rfl (by decide +kernel) ⟨Nat.le_of_ble_eq_true rfl, Nat.le_of_ble_eq_true rfl⟩) hK hP hD [0, 3] rfl (by decide) (va_recv hK.1 hP (ci := 0) (q0 := 0) rfl rfl) rfl hl.1 rfl (Nat.le_of_ble_eq_true rfl) dX5_canPour_166 ⟨Nat.le_of_ble_eq_true rfl, Nat.le_of_ble_eq_true rfl⟩) hP hD hS hA [0, 3] [1, 2, 4] rfl rfl (by decide) (by decide) (fun w_52 H locs h_53 hP hD hS => ?_)
                  obtain ⟨fU2_54, rfl⟩ := h_53
                  have hP : va_P D vwCl [(aP, .inl (cI, 6, .inl fP)), (aH, .inl (cI, 6, .inl fH)), (sp, .inl (cI, 3, .inl qf_39_50)), (ho, .inr (0, [vz_0, vz_1, .int (nI R), .int (nI T), vz_4, vz_5, vz_6, vz_7, .ref aP, vz_9, .ref aH, .ref aU])), (aU, .inl (cI, 6, .inl fU2_54))] H := hP
                  have hD : va_D A [(aP, .inl (cI, 6, .inl fP)), (aH, .inl (cI, 6, .inl fH)), (sp, .inl (cI, 3, .inl qf_39_50)), (ho, .inr (0, [vz_0, vz_1, .int (nI R), .int (nI T), vz_4, vz_5, vz_6, vz_7, .ref aP, vz_9, .ref aH, .ref aU])), (aU, .inl (cI, 6, .inl fU2_54))] := hD
                  refine lv_aload_n hx hb dX5_canPour_169 rfl (lv_at hl 6 rfl) ?_
                  refine lv_aload_n hx hb dX5_canPour_170 rfl (lv_at hl 7 rfl) ?_
                  refine lv_iload_n hx hb dX5_canPour_171 rfl (lv_at hl 8 rfl) ?_
                  refine lv_iload_n hx hb dX5_canPour_172 rfl (lv_at hl 9 rfl) ?_
                  refine lv_iload hx hb dX5_canPour_173 (lv_at hl 10 rfl) ?_
                  refine lv_iconst (v := 1) hx hb dX5_canPour_175 (by decide) ?_
                  refine lv_iadd hx hb dX5_canPour_176 ?_
                  refine wt_top (z := nI (d + 1)) (nI_add d 1) ?_
                  refine lv_iload hx hb dX5_canPour_177 (lv_at hl 11 rfl) ?_
                  refine wt_goI (wr := []) (wt_runS (As := [.ref ho, .ref sp, .int (nI j), .int w, .int (nI (d + 1)), .int (nI n)]) (rest := []) ⟨hx, hb, hml, hown, hts⟩ (c_X5_canPour_2 l D cI cZ cH ho aP aH aU R T j (d + 1) n fP fH fU2_54 sp qf_39_50 w vz_0 vz_1 vz_4 vz_5 vz_6 vz_7 vz_9 (by first | assumption | omega) (by first | assumption | omega) (by first | assumption | omega) (by first | assumption | omega) (by first | assumption | omega) (by first | assumption | omega)) (va_cwS 6 hts gX5_canPour_X5_canPour rfl rfl rfl (by decide +kernel) ⟨Nat.le_of_ble_eq_true rfl, Nat.le_of_ble_eq_true rfl⟩) hK hP hD [3, 0, 1, 4, 2] rfl (by decide) rfl hl.1 rfl (Nat.le_of_ble_eq_true rfl) dX5_canPour_179 ⟨Nat.le_of_ble_eq_true rfl, Nat.le_of_ble_eq_true rfl⟩) hP hD hS hA [3, 0, 1, 4, 2] [] rfl rfl (by decide) (by decide) (fun r_55 w_56 H locs h_57 hP hD hS => ?_)
                  obtain ⟨fU2_58, qf2_59, rfl⟩ := h_57
                  have hP : va_P D vwCl [(ho, .inr (0, [vz_0, vz_1, .int (nI R), .int (nI T), vz_4, vz_5, vz_6, vz_7, .ref aP, vz_9, .ref aH, .ref aU])), (aP, .inl (cI, 6, .inl fP)), (aH, .inl (cI, 6, .inl fH)), (aU, .inl (cI, 6, .inl fU2_58)), (sp, .inl (cI, 3, .inl qf2_59))] H := hP
                  have hD : va_D A [(ho, .inr (0, [vz_0, vz_1, .int (nI R), .int (nI T), vz_4, vz_5, vz_6, vz_7, .ref aP, vz_9, .ref aH, .ref aU])), (aP, .inl (cI, 6, .inl fP)), (aH, .inl (cI, 6, .inl fH)), (aU, .inl (cI, 6, .inl fU2_58)), (sp, .inl (cI, 3, .inl qf2_59))] := hD
                  refine lv_if_eq (tgt := 187) hx hb dX5_canPour_182 (by decide) (fun c_60 => ?_) (fun c_60 => ?_)
                  · skip
                    refine lv_aload_n hx hb dX5_canPour_187 rfl (lv_at hl 6 rfl) ?_
                    refine lv_iload hx hb dX5_canPour_188 (lv_at hl 2 rfl) ?_
                    refine lv_iload hx hb dX5_canPour_190 (lv_at hl 3 rfl) ?_
                    refine lv_iload hx hb dX5_canPour_192 (lv_at hl 0 rfl) ?_
                    refine wt_goV (wr := [(aP, .inl (cI, 6, .inl fP)), (aH, .inl (cI, 6, .inl fH)), (sp, .inl (cI, 3, .inl qf2_59))]) (wt_runV (As := [.int (nI i_40), .int (nI i_37), .int r_47]) (rest := []) ⟨hx, hb, hml, hown, hts⟩ (c_X0_shift l D cI cZ cH ho aU T i_40 i_37 fU2_58 r_47 vz_0 vz_1 (.int (nI R)) vz_4 vz_5 vz_6 vz_7 (.ref aP) vz_9 (.ref aH) (by first | assumption | omega) (by first | assumption | omega) (by first | assumption | omega)) (cwV 3 hts gX5_canPour_X0_shift rfl rfl rfl (by decide +kernel) ⟨Nat.le_of_ble_eq_true rfl, Nat.le_of_ble_eq_true rfl⟩) hK hP hD [0, 3] rfl (by decide) (va_recv hK.1 hP (ci := 0) (q0 := 0) rfl rfl) rfl hl.1 rfl (Nat.le_of_ble_eq_true rfl) dX5_canPour_194 ⟨Nat.le_of_ble_eq_true rfl, Nat.le_of_ble_eq_true rfl⟩) hP hD hS hA [0, 3] [1, 2, 4] rfl rfl (by decide) (by decide) (fun w_62 H locs h_63 hP hD hS => ?_)
                    obtain ⟨fU2_64, rfl⟩ := h_63
                    have hP : va_P D vwCl [(aP, .inl (cI, 6, .inl fP)), (aH, .inl (cI, 6, .inl fH)), (sp, .inl (cI, 3, .inl qf2_59)), (ho, .inr (0, [vz_0, vz_1, .int (nI R), .int (nI T), vz_4, vz_5, vz_6, vz_7, .ref aP, vz_9, .ref aH, .ref aU])), (aU, .inl (cI, 6, .inl fU2_64))] H := hP
                    have hD : va_D A [(aP, .inl (cI, 6, .inl fP)), (aH, .inl (cI, 6, .inl fH)), (sp, .inl (cI, 3, .inl qf2_59)), (ho, .inr (0, [vz_0, vz_1, .int (nI R), .int (nI T), vz_4, vz_5, vz_6, vz_7, .ref aP, vz_9, .ref aH, .ref aU])), (aU, .inl (cI, 6, .inl fU2_64))] := hD
                    refine lv_iinc (v := nI (i_40 + 1)) (lv' := [(9, .int (nI (i_40 + 1))), (11, .int r_47), (10, .int 1), (8, .int (nI i_37)), (7, .int (nI b_36)), (6, .int 1), (0, .ref ho), (1, .ref sp), (2, .int (nI j)), (3, .int w), (4, .int (nI d)), (5, .int (nI n))]) hx hb dX5_canPour_197 hl (k := 2) rfl (nI_add i_40 1) (by decide) rfl (fun ls hl => ?_)
                    refine lv_goto (tgt := 73) hx hb dX5_canPour_200 (by decide) ?_
                    exact ih73 ((i_40 + 1)) fU2_64 qf2_59 H locs ls (by omega)  (hP.sub [3, 0, 1, 4, 2] rfl) (hD.sub [3, 0, 1, 4, 2] (by decide) rfl) hS (lv_sub hl [0, 3, 4, 5, 6, 7, 8, 9, 10, 11] rfl)
                  · skip
                    refine lv_iconst (v := 1) hx hb dX5_canPour_185 (by decide) ?_
                    have hP9 := hP.sub (ws' := [(ho, .inr (0, [vz_0, vz_1, .int (nI R), .int (nI T), vz_4, vz_5, vz_6, vz_7, .ref aP, vz_9, .ref aH, .ref aU])), (aP, .inl (cI, 6, .inl fP)), (aH, .inl (cI, 6, .inl fH)), (aU, .inl (cI, 6, .inl fU2_58)), (sp, .inl (cI, 3, .inl qf2_59))]) [0, 1, 2, 3, 4] rfl
                    have hD9 := hD.sub (ws' := [(ho, .inr (0, [vz_0, vz_1, .int (nI R), .int (nI T), vz_4, vz_5, vz_6, vz_7, .ref aP, vz_9, .ref aH, .ref aU])), (aP, .inl (cI, 6, .inl fP)), (aH, .inl (cI, 6, .inl fH)), (aU, .inl (cI, 6, .inl fU2_58)), (sp, .inl (cI, 3, .inl qf2_59))]) [0, 1, 2, 3, 4] (by decide) rfl
                    exact wt_zret hx hb hr hlocks (by decide) hP9 hD9 hS ⟨fU2_58, qf2_59, rfl⟩ dX5_canPour_186
              · skip
                have c_46 : ¬ (i_37 = j) := fun h => c_46 ((nI_eq (a := i_37) (b := j) (by omega) (by omega)).mpr h)
                refine lv_iload hx hb dX5_canPour_110 (lv_at hl 0 rfl) ?_
                refine lv_iload_n hx hb dX5_canPour_112 rfl (lv_at hl 6 rfl) ?_
                refine lv_icmp_ne (tgt := 120) hx hb dX5_canPour_113 (by decide) (fun c_65 => ?_) (fun c_65 => ?_)
                · skip
                  have c_65 : ¬ (i_40 = j) := fun h => c_65 ((nI_eq (a := i_40) (b := j) (by omega) (by omega)).mpr h)
                  refine lv_iconst (v := 0) hx hb dX5_canPour_120 (by decide) ?_
                  refine lv_istore (lv' := [(10, .int 0), (9, .int (nI i_40)), (8, .int (nI i_37)), (7, .int (nI b_36)), (6, .int 1), (0, .ref ho), (1, .ref sp), (2, .int (nI j)), (3, .int w), (4, .int (nI d)), (5, .int (nI n))]) hx hb dX5_canPour_121 hl (by decide) rfl (fun ls hl => ?_)
                  refine lv_iload hx hb dX5_canPour_123 (lv_at hl 0 rfl) ?_
                  refine lv_if_eq (tgt := 139) hx hb dX5_canPour_125 (by decide) (fun _ => ?_) (fun h => absurd h (by decide))
                  refine lv_iconst (v := 0) hx hb dX5_canPour_139 (by decide) ?_
                  refine lv_istore (lv' := [(11, .int 0), (10, .int 0), (9, .int (nI i_40)), (8, .int (nI i_37)), (7, .int (nI b_36)), (6, .int 1), (0, .ref ho), (1, .ref sp), (2, .int (nI j)), (3, .int w), (4, .int (nI d)), (5, .int (nI n))]) hx hb dX5_canPour_140 hl (by decide) rfl (fun ls hl => ?_)
                  refine lv_iload hx hb dX5_canPour_142 (lv_at hl 0 rfl) ?_
                  refine lv_if_le (tgt := 197) hx hb dX5_canPour_144 (by decide) (fun _ => ?_) (fun h => absurd h (by decide))
                  refine lv_iinc (v := nI (i_40 + 1)) (lv' := [(9, .int (nI (i_40 + 1))), (11, .int 0), (10, .int 0), (8, .int (nI i_37)), (7, .int (nI b_36)), (6, .int 1), (0, .ref ho), (1, .ref sp), (2, .int (nI j)), (3, .int w), (4, .int (nI d)), (5, .int (nI n))]) hx hb dX5_canPour_197 hl (k := 2) rfl (nI_add i_40 1) (by decide) rfl (fun ls hl => ?_)
                  refine lv_goto (tgt := 73) hx hb dX5_canPour_200 (by decide) ?_
                  exact ih73 ((i_40 + 1)) fU_38_41 qf_39_42 H locs ls (by omega)  hP hD hS (lv_sub hl [0, 3, 4, 5, 6, 7, 8, 9, 10, 11] rfl)
                · skip
                  have c_65 : i_40 = j := (nI_eq (a := i_40) (b := j) (by omega) (by omega)).mp c_65
                  refine lv_iconst (v := 1) hx hb dX5_canPour_116 (by decide) ?_
                  refine lv_goto (tgt := 121) hx hb dX5_canPour_117 (by decide) ?_
                  refine lv_istore (lv' := [(10, .int 1), (9, .int (nI i_40)), (8, .int (nI i_37)), (7, .int (nI b_36)), (6, .int 1), (0, .ref ho), (1, .ref sp), (2, .int (nI j)), (3, .int w), (4, .int (nI d)), (5, .int (nI n))]) hx hb dX5_canPour_121 hl (by decide) rfl (fun ls hl => ?_)
                  refine lv_iload hx hb dX5_canPour_123 (lv_at hl 0 rfl) ?_
                  refine lv_if_eq (tgt := 139) hx hb dX5_canPour_125 (by decide) (fun h => absurd h (by decide)) (fun _ => ?_)
                  refine lv_aload_n hx hb dX5_canPour_128 rfl (lv_at hl 5 rfl) ?_
                  refine lv_iload hx hb dX5_canPour_129 (lv_at hl 2 rfl) ?_
                  refine lv_iload hx hb dX5_canPour_131 (lv_at hl 1 rfl) ?_
                  refine wt_rV (As := [.int (nI i_37), .int (nI i_40)]) (rest := []) ⟨hx, hb, hml, hown, hts⟩ (c_X0_pourable l D cI cZ cH ho aP aH aU R T i_37 i_40 fP fH fU_38_41 vz_0 vz_1 vz_4 vz_5 vz_6 vz_7 vz_9 (by first | assumption | omega) (by first | assumption | omega) (by first | assumption | omega) (by first | assumption | omega) (by first | assumption | omega)) (cwV 2 hts gX5_canPour_X0_pourable rfl rfl rfl (by decide +kernel) ⟨Nat.le_of_ble_eq_true rfl, Nat.le_of_ble_eq_true rfl⟩) hK hP [0, 1, 2, 3] rfl (va_recv hK.1 hP (ci := 0) (q0 := 0) rfl rfl) rfl hl.1 rfl (Nat.le_of_ble_eq_true rfl) dX5_canPour_133 ⟨Nat.le_of_ble_eq_true rfl, Nat.le_of_ble_eq_true rfl⟩ (fun r_66 e_67 => ?_)
                  refine lv_goto (tgt := 140) hx hb dX5_canPour_136 (by decide) ?_
                  refine lv_istore (lv' := [(11, .int r_66), (10, .int 1), (9, .int (nI i_40)), (8, .int (nI i_37)), (7, .int (nI b_36)), (6, .int 1), (0, .ref ho), (1, .ref sp), (2, .int (nI j)), (3, .int w), (4, .int (nI d)), (5, .int (nI n))]) hx hb dX5_canPour_140 hl (by decide) rfl (fun ls hl => ?_)
                  refine lv_iload hx hb dX5_canPour_142 (lv_at hl 0 rfl) ?_
                  refine lv_if_le (tgt := 197) hx hb dX5_canPour_144 (by decide) (fun c_68 => ?_) (fun c_68 => ?_)
                  · skip
                    refine lv_iinc (v := nI (i_40 + 1)) (lv' := [(9, .int (nI (i_40 + 1))), (11, .int r_66), (10, .int 1), (8, .int (nI i_37)), (7, .int (nI b_36)), (6, .int 1), (0, .ref ho), (1, .ref sp), (2, .int (nI j)), (3, .int w), (4, .int (nI d)), (5, .int (nI n))]) hx hb dX5_canPour_197 hl (k := 2) rfl (nI_add i_40 1) (by decide) rfl (fun ls hl => ?_)
                    refine lv_goto (tgt := 73) hx hb dX5_canPour_200 (by decide) ?_
                    exact ih73 ((i_40 + 1)) fU_38_41 qf_39_42 H locs ls (by omega)  hP hD hS (lv_sub hl [0, 3, 4, 5, 6, 7, 8, 9, 10, 11] rfl)
                  · skip
                    refine lv_aload_n hx hb dX5_canPour_147 rfl (lv_at hl 7 rfl) ?_
                    refine lv_iload hx hb dX5_canPour_148 (lv_at hl 10 rfl) ?_
                    refine lv_bipush (v := 10) hx hb dX5_canPour_150 (by decide) ?_
                    refine lv_iload hx hb dX5_canPour_152 (lv_at hl 3 rfl) ?_
                    refine lv_imul hx hb dX5_canPour_154 ?_
                    refine wt_top (z := nI (10 * i_37)) (pk_mul 10 i_37) ?_
                    refine lv_iload hx hb dX5_canPour_155 (lv_at hl 2 rfl) ?_
                    refine lv_iadd hx hb dX5_canPour_157 ?_
                    refine wt_top (z := nI ((10 * i_37) + i_40)) (nI_add (10 * i_37) i_40) ?_
                    refine va_iast hx hb hK.1 hP hD hS 4 0 rfl rfl (vp_in_nI (by omega) (by omega)) dX5_canPour_158 (fun H locs hP hD hS => ?_)
                    have hP : va_P D vwCl [(ho, .inr (0, [vz_0, vz_1, .int (nI R), .int (nI T), vz_4, vz_5, vz_6, vz_7, .ref aP, vz_9, .ref aH, .ref aU])), (aP, .inl (cI, 6, .inl fP)), (aH, .inl (cI, 6, .inl fH)), (aU, .inl (cI, 6, .inl fU_38_41)), (sp, .inl (cI, 3, .inl (upd qf_39_42 ((nI d).toNatClampNeg) (nI ((10 * i_37) + i_40)))))] H := hP
                    have hD : va_D A [(ho, .inr (0, [vz_0, vz_1, .int (nI R), .int (nI T), vz_4, vz_5, vz_6, vz_7, .ref aP, vz_9, .ref aH, .ref aU])), (aP, .inl (cI, 6, .inl fP)), (aH, .inl (cI, 6, .inl fH)), (aU, .inl (cI, 6, .inl fU_38_41)), (sp, .inl (cI, 3, .inl (upd qf_39_42 ((nI d).toNatClampNeg) (nI ((10 * i_37) + i_40)))))] := hD
                    generalize upd qf_39_42 ((nI d).toNatClampNeg) (nI ((10 * i_37) + i_40)) = qf_39_69 at hP hD
                    refine lv_aload_n hx hb dX5_canPour_159 rfl (lv_at hl 6 rfl) ?_
                    refine lv_iload hx hb dX5_canPour_160 (lv_at hl 3 rfl) ?_
                    refine lv_iload hx hb dX5_canPour_162 (lv_at hl 2 rfl) ?_
                    refine lv_iload hx hb dX5_canPour_164 (lv_at hl 0 rfl) ?_
                    refine wt_goV (wr := [(aP, .inl (cI, 6, .inl fP)), (aH, .inl (cI, 6, .inl fH)), (sp, .inl (cI, 3, .inl qf_39_69))]) (wt_runV (As := [.int (nI i_37), .int (nI i_40), .int r_66]) (rest := []) ⟨hx, hb, hml, hown, hts⟩ (c_X0_shift l D cI cZ cH ho aU T i_37 i_40 fU_38_41 r_66 vz_0 vz_1 (.int (nI R)) vz_4 vz_5 vz_6 vz_7 (.ref aP) vz_9 (.ref aH) (by first | assumption | omega) (by first | assumption | omega) (by first | assumption | omega)) (cwV 3 hts gX5_canPour_X0_shift rfl rfl rfl (by decide +kernel) ⟨Nat.le_of_ble_eq_true rfl, Nat.le_of_ble_eq_true rfl⟩) hK hP hD [0, 3] rfl (by decide) (va_recv hK.1 hP (ci := 0) (q0 := 0) rfl rfl) rfl hl.1 rfl (Nat.le_of_ble_eq_true rfl) dX5_canPour_166 ⟨Nat.le_of_ble_eq_true rfl, Nat.le_of_ble_eq_true rfl⟩) hP hD hS hA [0, 3] [1, 2, 4] rfl rfl (by decide) (by decide) (fun w_71 H locs h_72 hP hD hS => ?_)
                    obtain ⟨fU2_73, rfl⟩ := h_72
                    have hP : va_P D vwCl [(aP, .inl (cI, 6, .inl fP)), (aH, .inl (cI, 6, .inl fH)), (sp, .inl (cI, 3, .inl qf_39_69)), (ho, .inr (0, [vz_0, vz_1, .int (nI R), .int (nI T), vz_4, vz_5, vz_6, vz_7, .ref aP, vz_9, .ref aH, .ref aU])), (aU, .inl (cI, 6, .inl fU2_73))] H := hP
                    have hD : va_D A [(aP, .inl (cI, 6, .inl fP)), (aH, .inl (cI, 6, .inl fH)), (sp, .inl (cI, 3, .inl qf_39_69)), (ho, .inr (0, [vz_0, vz_1, .int (nI R), .int (nI T), vz_4, vz_5, vz_6, vz_7, .ref aP, vz_9, .ref aH, .ref aU])), (aU, .inl (cI, 6, .inl fU2_73))] := hD
                    refine lv_aload_n hx hb dX5_canPour_169 rfl (lv_at hl 6 rfl) ?_
                    refine lv_aload_n hx hb dX5_canPour_170 rfl (lv_at hl 7 rfl) ?_
                    refine lv_iload_n hx hb dX5_canPour_171 rfl (lv_at hl 8 rfl) ?_
                    refine lv_iload_n hx hb dX5_canPour_172 rfl (lv_at hl 9 rfl) ?_
                    refine lv_iload hx hb dX5_canPour_173 (lv_at hl 10 rfl) ?_
                    refine lv_iconst (v := 1) hx hb dX5_canPour_175 (by decide) ?_
                    refine lv_iadd hx hb dX5_canPour_176 ?_
                    refine wt_top (z := nI (d + 1)) (nI_add d 1) ?_
                    refine lv_iload hx hb dX5_canPour_177 (lv_at hl 11 rfl) ?_
                    refine wt_goI (wr := []) (wt_runS (As := [.ref ho, .ref sp, .int (nI j), .int w, .int (nI (d + 1)), .int (nI n)]) (rest := []) ⟨hx, hb, hml, hown, hts⟩ (c_X5_canPour_2 l D cI cZ cH ho aP aH aU R T j (d + 1) n fP fH fU2_73 sp qf_39_69 w vz_0 vz_1 vz_4 vz_5 vz_6 vz_7 vz_9 (by first | assumption | omega) (by first | assumption | omega) (by first | assumption | omega) (by first | assumption | omega) (by first | assumption | omega) (by first | assumption | omega)) (va_cwS 6 hts gX5_canPour_X5_canPour rfl rfl rfl (by decide +kernel) ⟨Nat.le_of_ble_eq_true rfl, Nat.le_of_ble_eq_true rfl⟩) hK hP hD [3, 0, 1, 4, 2] rfl (by decide) rfl hl.1 rfl (Nat.le_of_ble_eq_true rfl) dX5_canPour_179 ⟨Nat.le_of_ble_eq_true rfl, Nat.le_of_ble_eq_true rfl⟩) hP hD hS hA [3, 0, 1, 4, 2] [] rfl rfl (by decide) (by decide) (fun r_74 w_75 H locs h_76 hP hD hS => ?_)
                    obtain ⟨fU2_77, qf2_78, rfl⟩ := h_76
                    have hP : va_P D vwCl [(ho, .inr (0, [vz_0, vz_1, .int (nI R), .int (nI T), vz_4, vz_5, vz_6, vz_7, .ref aP, vz_9, .ref aH, .ref aU])), (aP, .inl (cI, 6, .inl fP)), (aH, .inl (cI, 6, .inl fH)), (aU, .inl (cI, 6, .inl fU2_77)), (sp, .inl (cI, 3, .inl qf2_78))] H := hP
                    have hD : va_D A [(ho, .inr (0, [vz_0, vz_1, .int (nI R), .int (nI T), vz_4, vz_5, vz_6, vz_7, .ref aP, vz_9, .ref aH, .ref aU])), (aP, .inl (cI, 6, .inl fP)), (aH, .inl (cI, 6, .inl fH)), (aU, .inl (cI, 6, .inl fU2_77)), (sp, .inl (cI, 3, .inl qf2_78))] := hD
                    refine lv_if_eq (tgt := 187) hx hb dX5_canPour_182 (by decide) (fun c_79 => ?_) (fun c_79 => ?_)
                    · skip
                      refine lv_aload_n hx hb dX5_canPour_187 rfl (lv_at hl 6 rfl) ?_
                      refine lv_iload hx hb dX5_canPour_188 (lv_at hl 2 rfl) ?_
                      refine lv_iload hx hb dX5_canPour_190 (lv_at hl 3 rfl) ?_
                      refine lv_iload hx hb dX5_canPour_192 (lv_at hl 0 rfl) ?_
                      refine wt_goV (wr := [(aP, .inl (cI, 6, .inl fP)), (aH, .inl (cI, 6, .inl fH)), (sp, .inl (cI, 3, .inl qf2_78))]) (wt_runV (As := [.int (nI i_40), .int (nI i_37), .int r_66]) (rest := []) ⟨hx, hb, hml, hown, hts⟩ (c_X0_shift l D cI cZ cH ho aU T i_40 i_37 fU2_77 r_66 vz_0 vz_1 (.int (nI R)) vz_4 vz_5 vz_6 vz_7 (.ref aP) vz_9 (.ref aH) (by first | assumption | omega) (by first | assumption | omega) (by first | assumption | omega)) (cwV 3 hts gX5_canPour_X0_shift rfl rfl rfl (by decide +kernel) ⟨Nat.le_of_ble_eq_true rfl, Nat.le_of_ble_eq_true rfl⟩) hK hP hD [0, 3] rfl (by decide) (va_recv hK.1 hP (ci := 0) (q0 := 0) rfl rfl) rfl hl.1 rfl (Nat.le_of_ble_eq_true rfl) dX5_canPour_194 ⟨Nat.le_of_ble_eq_true rfl, Nat.le_of_ble_eq_true rfl⟩) hP hD hS hA [0, 3] [1, 2, 4] rfl rfl (by decide) (by decide) (fun w_81 H locs h_82 hP hD hS => ?_)
                      obtain ⟨fU2_83, rfl⟩ := h_82
                      have hP : va_P D vwCl [(aP, .inl (cI, 6, .inl fP)), (aH, .inl (cI, 6, .inl fH)), (sp, .inl (cI, 3, .inl qf2_78)), (ho, .inr (0, [vz_0, vz_1, .int (nI R), .int (nI T), vz_4, vz_5, vz_6, vz_7, .ref aP, vz_9, .ref aH, .ref aU])), (aU, .inl (cI, 6, .inl fU2_83))] H := hP
                      have hD : va_D A [(aP, .inl (cI, 6, .inl fP)), (aH, .inl (cI, 6, .inl fH)), (sp, .inl (cI, 3, .inl qf2_78)), (ho, .inr (0, [vz_0, vz_1, .int (nI R), .int (nI T), vz_4, vz_5, vz_6, vz_7, .ref aP, vz_9, .ref aH, .ref aU])), (aU, .inl (cI, 6, .inl fU2_83))] := hD
                      refine lv_iinc (v := nI (i_40 + 1)) (lv' := [(9, .int (nI (i_40 + 1))), (11, .int r_66), (10, .int 1), (8, .int (nI i_37)), (7, .int (nI b_36)), (6, .int 1), (0, .ref ho), (1, .ref sp), (2, .int (nI j)), (3, .int w), (4, .int (nI d)), (5, .int (nI n))]) hx hb dX5_canPour_197 hl (k := 2) rfl (nI_add i_40 1) (by decide) rfl (fun ls hl => ?_)
                      refine lv_goto (tgt := 73) hx hb dX5_canPour_200 (by decide) ?_
                      exact ih73 ((i_40 + 1)) fU2_83 qf2_78 H locs ls (by omega)  (hP.sub [3, 0, 1, 4, 2] rfl) (hD.sub [3, 0, 1, 4, 2] (by decide) rfl) hS (lv_sub hl [0, 3, 4, 5, 6, 7, 8, 9, 10, 11] rfl)
                    · skip
                      refine lv_iconst (v := 1) hx hb dX5_canPour_185 (by decide) ?_
                      have hP9 := hP.sub (ws' := [(ho, .inr (0, [vz_0, vz_1, .int (nI R), .int (nI T), vz_4, vz_5, vz_6, vz_7, .ref aP, vz_9, .ref aH, .ref aU])), (aP, .inl (cI, 6, .inl fP)), (aH, .inl (cI, 6, .inl fH)), (aU, .inl (cI, 6, .inl fU2_77)), (sp, .inl (cI, 3, .inl qf2_78))]) [0, 1, 2, 3, 4] rfl
                      have hD9 := hD.sub (ws' := [(ho, .inr (0, [vz_0, vz_1, .int (nI R), .int (nI T), vz_4, vz_5, vz_6, vz_7, .ref aP, vz_9, .ref aH, .ref aU])), (aP, .inl (cI, 6, .inl fP)), (aH, .inl (cI, 6, .inl fH)), (aU, .inl (cI, 6, .inl fU2_77)), (sp, .inl (cI, 3, .inl qf2_78))]) [0, 1, 2, 3, 4] (by decide) rfl
                      exact wt_zret hx hb hr hlocks (by decide) hP9 hD9 hS ⟨fU2_77, qf2_78, rfl⟩ dX5_canPour_186
        exact loop73 (T - 0) (0) fU_38 qf_39 _ _ ls (by omega)  hP hD hS hl
    exact loop61 (T - 0) (0) fU qf _ _ ls (by omega)  hP hD hS hl
set_option maxHeartbeats 4000000 in
set_option maxRecDepth 100000 in
theorem c_X5_pours (l : Launch) (D : va_G) (cI cZ cH : ClassId) (x : Nat) (ho aW aS aK aP aT aH aU : Nat) (R T : Nat) (fr co mi : Int32) (fW fS fK fP fT fH fU : Nat → Int32) (th tW tS tK tP tT tH tU : Nat) (t0 t1 t2 t3 t4 : Int32) (eW eS eK eP eT eH eU : Nat → Int32) (pr : Nat) (qf : Nat → Int32) (a1 a2 a3 : Int32) (vx_0 vx_1 vx_4 vx_5 vx_7 vx_8 vx_9 : Value) (hR5 : R ≤ 5) (hT6 : T ≤ 6) (hwP : hw R T fP) : wt_M l yX5_pours wsX5_pours ({ frames := 5, cells := 0, slots := 0, locals := 155 } : Room) D (wt_T cI cZ cH) [.ref x, .int a1, .int a2, .int a3] [(x, .inr (5, [vx_0, vx_1, .ref ho, .ref th, vx_4, vx_5, .ref pr, vx_7, vx_8, vx_9])), (ho, .inr (0, [.int fr, .int co, .int (nI R), .int (nI T), .int mi, .ref aW, .ref aS, .ref aK, .ref aP, .ref aT, .ref aH, .ref aU])), (aW, .inl (cI, 5, .inl fW)), (aS, .inl (cI, 5, .inl fS)), (aK, .inl (cI, 6, .inl fK)), (aP, .inl (cI, 6, .inl fP)), (aT, .inl (cI, 6, .inl fT)), (aH, .inl (cI, 6, .inl fH)), (aU, .inl (cI, 6, .inl fU)), (th, .inr (0, [.int t0, .int t1, .int t2, .int t3, .int t4, .ref tW, .ref tS, .ref tK, .ref tP, .ref tT, .ref tH, .ref tU])), (tW, .inl (cI, 5, .inl eW)), (tS, .inl (cI, 5, .inl eS)), (tK, .inl (cI, 6, .inl eK)), (tP, .inl (cI, 6, .inl eP)), (tT, .inl (cI, 6, .inl eT)), (tH, .inl (cI, 6, .inl eH)), (tU, .inl (cI, 6, .inl eU)), (pr, .inl (cI, 3, .inl qf))] (wt_QI D (fun r w => ∃ (eW2 eS2 eK2 eP2 eT2 eH2 eU2 qf2 : Nat → Int32) (th_f0 th_f1 th_f2 th_f3 th_f4 : Int32), w = [(x, .inr (5, [vx_0, vx_1, .ref ho, .ref th, vx_4, vx_5, .ref pr, vx_7, vx_8, vx_9])), (ho, .inr (0, [.int fr, .int co, .int (nI R), .int (nI T), .int mi, .ref aW, .ref aS, .ref aK, .ref aP, .ref aT, .ref aH, .ref aU])), (aW, .inl (cI, 5, .inl fW)), (aS, .inl (cI, 5, .inl fS)), (aK, .inl (cI, 6, .inl fK)), (aP, .inl (cI, 6, .inl fP)), (aT, .inl (cI, 6, .inl fT)), (aH, .inl (cI, 6, .inl fH)), (aU, .inl (cI, 6, .inl fU)), (th, .inr (0, [.int th_f0, .int th_f1, .int th_f2, .int th_f3, .int th_f4, .ref tW, .ref tS, .ref tK, .ref tP, .ref tT, .ref tH, .ref tU])), (tW, .inl (cI, 5, .inl eW2)), (tS, .inl (cI, 5, .inl eS2)), (tK, .inl (cI, 6, .inl eK2)), (tP, .inl (cI, 6, .inl eP2)), (tT, .inl (cI, 6, .inl eT2)), (tH, .inl (cI, 6, .inl eH2)), (tU, .inl (cI, 6, .inl eU2)), (pr, .inl (cI, 3, .inl qf2))])) := by
  refine wt_M.ofW (cc := cX5_pours) (maxL := 5) (ret := (some .int)) (by decide) rfl (Nat.le_of_ble_eq_true rfl) ?_
  intro p e s m below meth c A ls hx hb hr hts hown hlocks hml hnm hP hK hD hA hS hl
  have hP : va_P D vwCl [(x, .inr (5, [vx_0, vx_1, .ref ho, .ref th, vx_4, vx_5, .ref pr, vx_7, vx_8, vx_9])), (ho, .inr (0, [.int fr, .int co, .int (nI R), .int (nI T), .int mi, .ref aW, .ref aS, .ref aK, .ref aP, .ref aT, .ref aH, .ref aU])), (aW, .inl (cI, 5, .inl fW)), (aS, .inl (cI, 5, .inl fS)), (aK, .inl (cI, 6, .inl fK)), (aP, .inl (cI, 6, .inl fP)), (aT, .inl (cI, 6, .inl fT)), (aH, .inl (cI, 6, .inl fH)), (aU, .inl (cI, 6, .inl fU)), (th, .inr (0, [.int t0, .int t1, .int t2, .int t3, .int t4, .ref tW, .ref tS, .ref tK, .ref tP, .ref tT, .ref tH, .ref tU])), (tW, .inl (cI, 5, .inl eW)), (tS, .inl (cI, 5, .inl eS)), (tK, .inl (cI, 6, .inl eK)), (tP, .inl (cI, 6, .inl eP)), (tT, .inl (cI, 6, .inl eT)), (tH, .inl (cI, 6, .inl eH)), (tU, .inl (cI, 6, .inl eU)), (pr, .inl (cI, 3, .inl qf))] s.heap := hP
  have hown : s.vm.findClass RX5 = some m.cls := hown
  have hl : lv_has ls 5 [(0, .ref x), (1, .int a1), (2, .int a2), (3, .int a3)] := hl
  have hi5 : ∀ w ∈ u_ws RX5 TX5 10, w ∈ wsX5_pours := by decide +kernel
  have wc217 := hts (.constant RX5 217 (-1000000)) (by decide +kernel)
  have wc70 := hts (.constant RX5 70 (-1000001)) (by decide +kernel)
  have wf26 := hts (.fieldLink RX5 26 "WarmTubes" "now" "LWarmTubes$House;") (by decide +kernel)
  have wf30 := hts (.fieldLink RX5 30 "WarmTubes" "then" "LWarmTubes$House;") (by decide +kernel)
  have wf44 := hts (.fieldLink RX5 44 "WarmTubes" "pourings" "[I") (by decide +kernel)
  refine lv_aload_n hx hb dX5_pours_0 rfl (lv_at hl 0 rfl) ?_
  refine lv_iload_n hx hb dX5_pours_1 rfl (lv_at hl 1 rfl) ?_
  refine wt_rV (As := [.int a1]) (rest := []) ⟨hx, hb, hml, hown, hts⟩ (c_X5_isTube l D cI cZ cH x ho T a1 vx_0 vx_1 (.ref th) vx_4 vx_5 (.ref pr) vx_7 vx_8 vx_9 (.int fr) (.int co) (.int (nI R)) (.int mi) (.ref aW) (.ref aS) (.ref aK) (.ref aP) (.ref aT) (.ref aH) (.ref aU)) (cwV 1 hts gX5_pours_X5_isTube rfl rfl rfl (by decide +kernel) ⟨Nat.le_of_ble_eq_true rfl, Nat.le_of_ble_eq_true rfl⟩) hK hP [0, 1] rfl (va_recv hK.1 hP (ci := 5) (q0 := 0) rfl rfl) rfl hl.1 rfl (Nat.le_of_ble_eq_true rfl) dX5_pours_2 ⟨Nat.le_of_ble_eq_true rfl, Nat.le_of_ble_eq_true rfl⟩ (fun r_1 e_2 => ?_)
  subst e_2
  refine lv_if_eq (tgt := 23) hx hb dX5_pours_5 (by decide) (fun c_3 => ?_) (fun c_3 => ?_)
  · skip
    refine lv_ldc hx hb hown wc70 dX5_pours_23 ?_
    have hP9 := hP.sub (ws' := [(x, .inr (5, [vx_0, vx_1, .ref ho, .ref th, vx_4, vx_5, .ref pr, vx_7, vx_8, vx_9])), (ho, .inr (0, [.int fr, .int co, .int (nI R), .int (nI T), .int mi, .ref aW, .ref aS, .ref aK, .ref aP, .ref aT, .ref aH, .ref aU])), (aW, .inl (cI, 5, .inl fW)), (aS, .inl (cI, 5, .inl fS)), (aK, .inl (cI, 6, .inl fK)), (aP, .inl (cI, 6, .inl fP)), (aT, .inl (cI, 6, .inl fT)), (aH, .inl (cI, 6, .inl fH)), (aU, .inl (cI, 6, .inl fU)), (th, .inr (0, [.int t0, .int t1, .int t2, .int t3, .int t4, .ref tW, .ref tS, .ref tK, .ref tP, .ref tT, .ref tH, .ref tU])), (tW, .inl (cI, 5, .inl eW)), (tS, .inl (cI, 5, .inl eS)), (tK, .inl (cI, 6, .inl eK)), (tP, .inl (cI, 6, .inl eP)), (tT, .inl (cI, 6, .inl eT)), (tH, .inl (cI, 6, .inl eH)), (tU, .inl (cI, 6, .inl eU)), (pr, .inl (cI, 3, .inl qf))]) [0, 1, 2, 3, 4, 5, 6, 7, 8, 9, 10, 11, 12, 13, 14, 15, 16, 17] rfl
    have hD9 := hD.sub (ws' := [(x, .inr (5, [vx_0, vx_1, .ref ho, .ref th, vx_4, vx_5, .ref pr, vx_7, vx_8, vx_9])), (ho, .inr (0, [.int fr, .int co, .int (nI R), .int (nI T), .int mi, .ref aW, .ref aS, .ref aK, .ref aP, .ref aT, .ref aH, .ref aU])), (aW, .inl (cI, 5, .inl fW)), (aS, .inl (cI, 5, .inl fS)), (aK, .inl (cI, 6, .inl fK)), (aP, .inl (cI, 6, .inl fP)), (aT, .inl (cI, 6, .inl fT)), (aH, .inl (cI, 6, .inl fH)), (aU, .inl (cI, 6, .inl fU)), (th, .inr (0, [.int t0, .int t1, .int t2, .int t3, .int t4, .ref tW, .ref tS, .ref tK, .ref tP, .ref tT, .ref tH, .ref tU])), (tW, .inl (cI, 5, .inl eW)), (tS, .inl (cI, 5, .inl eS)), (tK, .inl (cI, 6, .inl eK)), (tP, .inl (cI, 6, .inl eP)), (tT, .inl (cI, 6, .inl eT)), (tH, .inl (cI, 6, .inl eH)), (tU, .inl (cI, 6, .inl eU)), (pr, .inl (cI, 3, .inl qf))]) [0, 1, 2, 3, 4, 5, 6, 7, 8, 9, 10, 11, 12, 13, 14, 15, 16, 17] (by decide) rfl
    exact wt_iret hx hb hr hlocks hP9 hD9 hS ⟨eW, eS, eK, eP, eT, eH, eU, qf, t0, t1, t2, t3, t4, rfl⟩ dX5_pours_25
  · skip
    obtain ⟨j_4, hj_4, rfl⟩ := wI_natT (T := T) (by omega) c_3
    refine lv_iload_n hx hb dX5_pours_8 rfl (lv_at hl 2 rfl) ?_
    refine lv_iconst (v := 0) hx hb dX5_pours_9 (by decide) ?_
    refine lv_bipush (v := 40) hx hb dX5_pours_10 (by decide) ?_
    refine wt_rS (As := [.int a2, .int 0, .int 40]) (rest := []) ⟨hx, hb, hml, hown, hts⟩ (c_X5_within l D cI cZ cH a2 0 40) (va_cwS 3 hts gX5_pours_X5_within rfl rfl rfl (by decide +kernel) ⟨Nat.le_of_ble_eq_true rfl, Nat.le_of_ble_eq_true rfl⟩) hK hP [] rfl rfl hl.1 rfl (Nat.le_of_ble_eq_true rfl) dX5_pours_12 ⟨Nat.le_of_ble_eq_true rfl, Nat.le_of_ble_eq_true rfl⟩ (fun r_5 e_6 => ?_)
    subst e_6
    refine lv_if_eq (tgt := 23) hx hb dX5_pours_15 (by decide) (fun c_7 => ?_) (fun c_7 => ?_)
    · skip
      refine lv_ldc hx hb hown wc70 dX5_pours_23 ?_
      have hP9 := hP.sub (ws' := [(x, .inr (5, [vx_0, vx_1, .ref ho, .ref th, vx_4, vx_5, .ref pr, vx_7, vx_8, vx_9])), (ho, .inr (0, [.int fr, .int co, .int (nI R), .int (nI T), .int mi, .ref aW, .ref aS, .ref aK, .ref aP, .ref aT, .ref aH, .ref aU])), (aW, .inl (cI, 5, .inl fW)), (aS, .inl (cI, 5, .inl fS)), (aK, .inl (cI, 6, .inl fK)), (aP, .inl (cI, 6, .inl fP)), (aT, .inl (cI, 6, .inl fT)), (aH, .inl (cI, 6, .inl fH)), (aU, .inl (cI, 6, .inl fU)), (th, .inr (0, [.int t0, .int t1, .int t2, .int t3, .int t4, .ref tW, .ref tS, .ref tK, .ref tP, .ref tT, .ref tH, .ref tU])), (tW, .inl (cI, 5, .inl eW)), (tS, .inl (cI, 5, .inl eS)), (tK, .inl (cI, 6, .inl eK)), (tP, .inl (cI, 6, .inl eP)), (tT, .inl (cI, 6, .inl eT)), (tH, .inl (cI, 6, .inl eH)), (tU, .inl (cI, 6, .inl eU)), (pr, .inl (cI, 3, .inl qf))]) [0, 1, 2, 3, 4, 5, 6, 7, 8, 9, 10, 11, 12, 13, 14, 15, 16, 17] rfl
      have hD9 := hD.sub (ws' := [(x, .inr (5, [vx_0, vx_1, .ref ho, .ref th, vx_4, vx_5, .ref pr, vx_7, vx_8, vx_9])), (ho, .inr (0, [.int fr, .int co, .int (nI R), .int (nI T), .int mi, .ref aW, .ref aS, .ref aK, .ref aP, .ref aT, .ref aH, .ref aU])), (aW, .inl (cI, 5, .inl fW)), (aS, .inl (cI, 5, .inl fS)), (aK, .inl (cI, 6, .inl fK)), (aP, .inl (cI, 6, .inl fP)), (aT, .inl (cI, 6, .inl fT)), (aH, .inl (cI, 6, .inl fH)), (aU, .inl (cI, 6, .inl fU)), (th, .inr (0, [.int t0, .int t1, .int t2, .int t3, .int t4, .ref tW, .ref tS, .ref tK, .ref tP, .ref tT, .ref tH, .ref tU])), (tW, .inl (cI, 5, .inl eW)), (tS, .inl (cI, 5, .inl eS)), (tK, .inl (cI, 6, .inl eK)), (tP, .inl (cI, 6, .inl eP)), (tT, .inl (cI, 6, .inl eT)), (tH, .inl (cI, 6, .inl eH)), (tU, .inl (cI, 6, .inl eU)), (pr, .inl (cI, 3, .inl qf))]) [0, 1, 2, 3, 4, 5, 6, 7, 8, 9, 10, 11, 12, 13, 14, 15, 16, 17] (by decide) rfl
      exact wt_iret hx hb hr hlocks hP9 hD9 hS ⟨eW, eS, eK, eP, eT, eH, eU, qf, t0, t1, t2, t3, t4, rfl⟩ dX5_pours_25
    · skip
      obtain ⟨j_8, hj_8, hj_8b, rfl⟩ := wI_nat (a := 0) (b := 40) (by omega) (by omega) c_7
      refine lv_iload_n hx hb dX5_pours_18 rfl (lv_at hl 3 rfl) ?_
      refine lv_iconst (v := (-1)) hx hb dX5_pours_19 (by decide) ?_
      refine lv_icmp_ge (tgt := 26) hx hb dX5_pours_20 (by decide) (fun c_9 => ?_) (fun c_9 => ?_)
      · skip
        refine lv_aload_n hx hb dX5_pours_26 rfl (lv_at hl 0 rfl) ?_
        refine va_get (D := D) (ci := 5) (v := .ref th) (C := RX5) (T := TX5) (N := 10) hx hb hts hi5 hown hK.1 hP 0 rfl rfl 3 (by decide) wf30 (fun _ h9 => h9) rfl dX5_pours_27 ?_
        refine lv_aload_n hx hb dX5_pours_30 rfl (lv_at hl 0 rfl) ?_
        refine va_get (D := D) (ci := 5) (v := .ref ho) (C := RX5) (T := TX5) (N := 10) hx hb hts hi5 hown hK.1 hP 0 rfl rfl 2 (by decide) wf26 (fun _ h9 => h9) rfl dX5_pours_31 ?_
        refine wt_goV (wr := [(x, .inr (5, [vx_0, vx_1, .ref ho, .ref th, vx_4, vx_5, .ref pr, vx_7, vx_8, vx_9])), (pr, .inl (cI, 3, .inl qf))]) (wt_runV (As := [.ref ho]) (rest := []) ⟨hx, hb, hml, hown, hts⟩ (c_X0_become l D cI cZ cH th tW tS tK tP tT tH tU ho aW aS aK aP aT aH aU R T fr co mi fW fS fK fP fT fH fU eW eS eK eP eT eH eU (.int t0) (.int t1) (.int t2) (.int t3) (.int t4) (by first | assumption | omega) (by first | assumption | omega) (by first | assumption | omega)) (cwV 1 hts gX5_pours_X0_become rfl rfl rfl (by decide +kernel) ⟨Nat.le_of_ble_eq_true rfl, Nat.le_of_ble_eq_true rfl⟩) hK hP hD [9, 10, 11, 12, 13, 14, 15, 16, 1, 2, 3, 4, 5, 6, 7, 8] rfl (by decide) (va_recv hK.1 hP (ci := 0) (q0 := 9) rfl rfl) rfl hl.1 rfl (Nat.le_of_ble_eq_true rfl) dX5_pours_34 ⟨Nat.le_of_ble_eq_true rfl, Nat.le_of_ble_eq_true rfl⟩) hP hD hS hA [9, 10, 11, 12, 13, 14, 15, 16, 1, 2, 3, 4, 5, 6, 7, 8] [0, 17] rfl rfl (by decide) (by decide) (fun w_11 H locs h_12 hP hD hS => ?_)
        obtain ⟨gW2_13, gS2_14, gK2_15, gP2_16, gT2_17, gH2_18, gU2_19, rfl, x_20⟩ := h_12
        have hP : va_P D vwCl [(x, .inr (5, [vx_0, vx_1, .ref ho, .ref th, vx_4, vx_5, .ref pr, vx_7, vx_8, vx_9])), (pr, .inl (cI, 3, .inl qf)), (th, .inr (0, [.int fr, .int co, .int (nI R), .int (nI T), .int mi, .ref tW, .ref tS, .ref tK, .ref tP, .ref tT, .ref tH, .ref tU])), (tW, .inl (cI, 5, .inl gW2_13)), (tS, .inl (cI, 5, .inl gS2_14)), (tK, .inl (cI, 6, .inl gK2_15)), (tP, .inl (cI, 6, .inl gP2_16)), (tT, .inl (cI, 6, .inl gT2_17)), (tH, .inl (cI, 6, .inl gH2_18)), (tU, .inl (cI, 6, .inl gU2_19)), (ho, .inr (0, [.int fr, .int co, .int (nI R), .int (nI T), .int mi, .ref aW, .ref aS, .ref aK, .ref aP, .ref aT, .ref aH, .ref aU])), (aW, .inl (cI, 5, .inl fW)), (aS, .inl (cI, 5, .inl fS)), (aK, .inl (cI, 6, .inl fK)), (aP, .inl (cI, 6, .inl fP)), (aT, .inl (cI, 6, .inl fT)), (aH, .inl (cI, 6, .inl fH)), (aU, .inl (cI, 6, .inl fU))] H := hP
        have hD : va_D A [(x, .inr (5, [vx_0, vx_1, .ref ho, .ref th, vx_4, vx_5, .ref pr, vx_7, vx_8, vx_9])), (pr, .inl (cI, 3, .inl qf)), (th, .inr (0, [.int fr, .int co, .int (nI R), .int (nI T), .int mi, .ref tW, .ref tS, .ref tK, .ref tP, .ref tT, .ref tH, .ref tU])), (tW, .inl (cI, 5, .inl gW2_13)), (tS, .inl (cI, 5, .inl gS2_14)), (tK, .inl (cI, 6, .inl gK2_15)), (tP, .inl (cI, 6, .inl gP2_16)), (tT, .inl (cI, 6, .inl gT2_17)), (tH, .inl (cI, 6, .inl gH2_18)), (tU, .inl (cI, 6, .inl gU2_19)), (ho, .inr (0, [.int fr, .int co, .int (nI R), .int (nI T), .int mi, .ref aW, .ref aS, .ref aK, .ref aP, .ref aT, .ref aH, .ref aU])), (aW, .inl (cI, 5, .inl fW)), (aS, .inl (cI, 5, .inl fS)), (aK, .inl (cI, 6, .inl fK)), (aP, .inl (cI, 6, .inl fP)), (aT, .inl (cI, 6, .inl fT)), (aH, .inl (cI, 6, .inl fH)), (aU, .inl (cI, 6, .inl fU))] := hD
        refine lv_iconst (v := 0) hx hb dX5_pours_37 (by decide) ?_
        refine lv_istore (lv' := [(4, .int 0), (0, .ref x), (1, .int (nI j_4)), (2, .int (nI j_8)), (3, .int a3)]) hx hb dX5_pours_38 hl (by decide) rfl (fun ls hl => ?_)
        refine lv_iload hx hb dX5_pours_40 (lv_at hl 0 rfl) ?_
        refine lv_iconst (v := 3) hx hb dX5_pours_42 (by decide) ?_
        refine lv_icmp_gt (tgt := 99) hx hb dX5_pours_43 (by decide) (fun h => absurd h (by decide)) (fun _ => ?_)
        refine lv_aload_n hx hb dX5_pours_46 rfl (lv_at hl 1 rfl) ?_
        refine va_get (D := D) (ci := 5) (v := .ref th) (C := RX5) (T := TX5) (N := 10) hx hb hts hi5 hown hK.1 hP 0 rfl rfl 3 (by decide) wf30 (fun _ h9 => h9) rfl dX5_pours_47 ?_
        refine lv_aload_n hx hb dX5_pours_50 rfl (lv_at hl 1 rfl) ?_
        refine va_get (D := D) (ci := 5) (v := .ref pr) (C := RX5) (T := TX5) (N := 10) hx hb hts hi5 hown hK.1 hP 0 rfl rfl 6 (by decide) wf44 (fun _ h9 => h9) rfl dX5_pours_51 ?_
        refine lv_iload_n hx hb dX5_pours_54 rfl (lv_at hl 2 rfl) ?_
        refine lv_iload_n hx hb dX5_pours_55 rfl (lv_at hl 3 rfl) ?_
        refine lv_iconst (v := 0) hx hb dX5_pours_56 (by decide) ?_
        refine lv_iload hx hb dX5_pours_57 (lv_at hl 0 rfl) ?_
        refine wt_goI (wr := [(x, .inr (5, [vx_0, vx_1, .ref ho, .ref th, vx_4, vx_5, .ref pr, vx_7, vx_8, vx_9])), (tW, .inl (cI, 5, .inl gW2_13)), (tS, .inl (cI, 5, .inl gS2_14)), (tK, .inl (cI, 6, .inl gK2_15)), (tT, .inl (cI, 6, .inl gT2_17)), (ho, .inr (0, [.int fr, .int co, .int (nI R), .int (nI T), .int mi, .ref aW, .ref aS, .ref aK, .ref aP, .ref aT, .ref aH, .ref aU])), (aW, .inl (cI, 5, .inl fW)), (aS, .inl (cI, 5, .inl fS)), (aK, .inl (cI, 6, .inl fK)), (aP, .inl (cI, 6, .inl fP)), (aT, .inl (cI, 6, .inl fT)), (aH, .inl (cI, 6, .inl fH)), (aU, .inl (cI, 6, .inl fU))]) (wt_runS (As := [.ref th, .ref pr, .int (nI j_4), .int (nI j_8), .int 0, .int 0]) (rest := []) ⟨hx, hb, hml, hown, hts⟩ (c_X5_canPour_0 l D cI cZ cH th tP tH tU R T j_4 0 0 gP2_16 gH2_18 gU2_19 pr qf (nI j_8) (.int fr) (.int co) (.int mi) (.ref tW) (.ref tS) (.ref tK) (.ref tT) (by first | assumption | omega) (by first | assumption | omega) (by first | assumption | omega) (by first | assumption | omega) (by first | assumption | omega) (by first | assumption | omega)) (va_cwS 6 hts gX5_pours_X5_canPour rfl rfl rfl (by decide +kernel) ⟨Nat.le_of_ble_eq_true rfl, Nat.le_of_ble_eq_true rfl⟩) hK hP hD [2, 6, 8, 9, 1] rfl (by decide) rfl hl.1 rfl (Nat.le_of_ble_eq_true rfl) dX5_pours_59 ⟨Nat.le_of_ble_eq_true rfl, Nat.le_of_ble_eq_true rfl⟩) hP hD hS hA [2, 6, 8, 9, 1] [0, 3, 4, 5, 7, 10, 11, 12, 13, 14, 15, 16, 17] rfl rfl (by decide) (by decide) (fun r_21 w_22 H locs h_23 hP hD hS => ?_)
        obtain ⟨fU2_24, qf2_25, rfl⟩ := h_23
        have hP : va_P D vwCl [(x, .inr (5, [vx_0, vx_1, .ref ho, .ref th, vx_4, vx_5, .ref pr, vx_7, vx_8, vx_9])), (tW, .inl (cI, 5, .inl gW2_13)), (tS, .inl (cI, 5, .inl gS2_14)), (tK, .inl (cI, 6, .inl gK2_15)), (tT, .inl (cI, 6, .inl gT2_17)), (ho, .inr (0, [.int fr, .int co, .int (nI R), .int (nI T), .int mi, .ref aW, .ref aS, .ref aK, .ref aP, .ref aT, .ref aH, .ref aU])), (aW, .inl (cI, 5, .inl fW)), (aS, .inl (cI, 5, .inl fS)), (aK, .inl (cI, 6, .inl fK)), (aP, .inl (cI, 6, .inl fP)), (aT, .inl (cI, 6, .inl fT)), (aH, .inl (cI, 6, .inl fH)), (aU, .inl (cI, 6, .inl fU)), (th, .inr (0, [.int fr, .int co, .int (nI R), .int (nI T), .int mi, .ref tW, .ref tS, .ref tK, .ref tP, .ref tT, .ref tH, .ref tU])), (tP, .inl (cI, 6, .inl gP2_16)), (tH, .inl (cI, 6, .inl gH2_18)), (tU, .inl (cI, 6, .inl fU2_24)), (pr, .inl (cI, 3, .inl qf2_25))] H := hP
        have hD : va_D A [(x, .inr (5, [vx_0, vx_1, .ref ho, .ref th, vx_4, vx_5, .ref pr, vx_7, vx_8, vx_9])), (tW, .inl (cI, 5, .inl gW2_13)), (tS, .inl (cI, 5, .inl gS2_14)), (tK, .inl (cI, 6, .inl gK2_15)), (tT, .inl (cI, 6, .inl gT2_17)), (ho, .inr (0, [.int fr, .int co, .int (nI R), .int (nI T), .int mi, .ref aW, .ref aS, .ref aK, .ref aP, .ref aT, .ref aH, .ref aU])), (aW, .inl (cI, 5, .inl fW)), (aS, .inl (cI, 5, .inl fS)), (aK, .inl (cI, 6, .inl fK)), (aP, .inl (cI, 6, .inl fP)), (aT, .inl (cI, 6, .inl fT)), (aH, .inl (cI, 6, .inl fH)), (aU, .inl (cI, 6, .inl fU)), (th, .inr (0, [.int fr, .int co, .int (nI R), .int (nI T), .int mi, .ref tW, .ref tS, .ref tK, .ref tP, .ref tT, .ref tH, .ref tU])), (tP, .inl (cI, 6, .inl gP2_16)), (tH, .inl (cI, 6, .inl gH2_18)), (tU, .inl (cI, 6, .inl fU2_24)), (pr, .inl (cI, 3, .inl qf2_25))] := hD
        refine lv_if_eq (tgt := 93) hx hb dX5_pours_62 (by decide) (fun c_26 => ?_) (fun c_26 => ?_)
        · skip
          refine lv_iinc (v := 1) (lv' := [(4, .int 1), (0, .ref x), (1, .int (nI j_4)), (2, .int (nI j_8)), (3, .int a3)]) hx hb dX5_pours_93 hl (k := 0) rfl (by decide) (by decide) rfl (fun ls hl => ?_)
          refine lv_goto (tgt := 40) hx hb dX5_pours_96 (by decide) ?_
          refine lv_iload hx hb dX5_pours_40 (lv_at hl 0 rfl) ?_
          refine lv_iconst (v := 3) hx hb dX5_pours_42 (by decide) ?_
          refine lv_icmp_gt (tgt := 99) hx hb dX5_pours_43 (by decide) (fun h => absurd h (by decide)) (fun _ => ?_)
          refine lv_aload_n hx hb dX5_pours_46 rfl (lv_at hl 1 rfl) ?_
          refine va_get (D := D) (ci := 5) (v := .ref th) (C := RX5) (T := TX5) (N := 10) hx hb hts hi5 hown hK.1 hP 0 rfl rfl 3 (by decide) wf30 (fun _ h9 => h9) rfl dX5_pours_47 ?_
          refine lv_aload_n hx hb dX5_pours_50 rfl (lv_at hl 1 rfl) ?_
          refine va_get (D := D) (ci := 5) (v := .ref pr) (C := RX5) (T := TX5) (N := 10) hx hb hts hi5 hown hK.1 hP 0 rfl rfl 6 (by decide) wf44 (fun _ h9 => h9) rfl dX5_pours_51 ?_
          refine lv_iload_n hx hb dX5_pours_54 rfl (lv_at hl 2 rfl) ?_
          refine lv_iload_n hx hb dX5_pours_55 rfl (lv_at hl 3 rfl) ?_
          refine lv_iconst (v := 0) hx hb dX5_pours_56 (by decide) ?_
          refine lv_iload hx hb dX5_pours_57 (lv_at hl 0 rfl) ?_
          refine wt_goI (wr := [(x, .inr (5, [vx_0, vx_1, .ref ho, .ref th, vx_4, vx_5, .ref pr, vx_7, vx_8, vx_9])), (tW, .inl (cI, 5, .inl gW2_13)), (tS, .inl (cI, 5, .inl gS2_14)), (tK, .inl (cI, 6, .inl gK2_15)), (tT, .inl (cI, 6, .inl gT2_17)), (ho, .inr (0, [.int fr, .int co, .int (nI R), .int (nI T), .int mi, .ref aW, .ref aS, .ref aK, .ref aP, .ref aT, .ref aH, .ref aU])), (aW, .inl (cI, 5, .inl fW)), (aS, .inl (cI, 5, .inl fS)), (aK, .inl (cI, 6, .inl fK)), (aP, .inl (cI, 6, .inl fP)), (aT, .inl (cI, 6, .inl fT)), (aH, .inl (cI, 6, .inl fH)), (aU, .inl (cI, 6, .inl fU))]) (wt_runS (As := [.ref th, .ref pr, .int (nI j_4), .int (nI j_8), .int 0, .int 1]) (rest := []) ⟨hx, hb, hml, hown, hts⟩ (c_X5_canPour_1 l D cI cZ cH th tP tH tU R T j_4 0 1 gP2_16 gH2_18 fU2_24 pr qf2_25 (nI j_8) (.int fr) (.int co) (.int mi) (.ref tW) (.ref tS) (.ref tK) (.ref tT) (by first | assumption | omega) (by first | assumption | omega) (by first | assumption | omega) (by first | assumption | omega) (by first | assumption | omega) (by first | assumption | omega)) (va_cwS 6 hts gX5_pours_X5_canPour rfl rfl rfl (by decide +kernel) ⟨Nat.le_of_ble_eq_true rfl, Nat.le_of_ble_eq_true rfl⟩) hK hP hD [13, 14, 15, 16, 17] rfl (by decide) rfl hl.1 rfl (Nat.le_of_ble_eq_true rfl) dX5_pours_59 ⟨Nat.le_of_ble_eq_true rfl, Nat.le_of_ble_eq_true rfl⟩) hP hD hS hA [13, 14, 15, 16, 17] [0, 1, 2, 3, 4, 5, 6, 7, 8, 9, 10, 11, 12] rfl rfl (by decide) (by decide) (fun r_27 w_28 H locs h_29 hP hD hS => ?_)
          obtain ⟨fU2_30, qf2_31, rfl⟩ := h_29
          have hP : va_P D vwCl [(x, .inr (5, [vx_0, vx_1, .ref ho, .ref th, vx_4, vx_5, .ref pr, vx_7, vx_8, vx_9])), (tW, .inl (cI, 5, .inl gW2_13)), (tS, .inl (cI, 5, .inl gS2_14)), (tK, .inl (cI, 6, .inl gK2_15)), (tT, .inl (cI, 6, .inl gT2_17)), (ho, .inr (0, [.int fr, .int co, .int (nI R), .int (nI T), .int mi, .ref aW, .ref aS, .ref aK, .ref aP, .ref aT, .ref aH, .ref aU])), (aW, .inl (cI, 5, .inl fW)), (aS, .inl (cI, 5, .inl fS)), (aK, .inl (cI, 6, .inl fK)), (aP, .inl (cI, 6, .inl fP)), (aT, .inl (cI, 6, .inl fT)), (aH, .inl (cI, 6, .inl fH)), (aU, .inl (cI, 6, .inl fU)), (th, .inr (0, [.int fr, .int co, .int (nI R), .int (nI T), .int mi, .ref tW, .ref tS, .ref tK, .ref tP, .ref tT, .ref tH, .ref tU])), (tP, .inl (cI, 6, .inl gP2_16)), (tH, .inl (cI, 6, .inl gH2_18)), (tU, .inl (cI, 6, .inl fU2_30)), (pr, .inl (cI, 3, .inl qf2_31))] H := hP
          have hD : va_D A [(x, .inr (5, [vx_0, vx_1, .ref ho, .ref th, vx_4, vx_5, .ref pr, vx_7, vx_8, vx_9])), (tW, .inl (cI, 5, .inl gW2_13)), (tS, .inl (cI, 5, .inl gS2_14)), (tK, .inl (cI, 6, .inl gK2_15)), (tT, .inl (cI, 6, .inl gT2_17)), (ho, .inr (0, [.int fr, .int co, .int (nI R), .int (nI T), .int mi, .ref aW, .ref aS, .ref aK, .ref aP, .ref aT, .ref aH, .ref aU])), (aW, .inl (cI, 5, .inl fW)), (aS, .inl (cI, 5, .inl fS)), (aK, .inl (cI, 6, .inl fK)), (aP, .inl (cI, 6, .inl fP)), (aT, .inl (cI, 6, .inl fT)), (aH, .inl (cI, 6, .inl fH)), (aU, .inl (cI, 6, .inl fU)), (th, .inr (0, [.int fr, .int co, .int (nI R), .int (nI T), .int mi, .ref tW, .ref tS, .ref tK, .ref tP, .ref tT, .ref tH, .ref tU])), (tP, .inl (cI, 6, .inl gP2_16)), (tH, .inl (cI, 6, .inl gH2_18)), (tU, .inl (cI, 6, .inl fU2_30)), (pr, .inl (cI, 3, .inl qf2_31))] := hD
          refine lv_if_eq (tgt := 93) hx hb dX5_pours_62 (by decide) (fun c_32 => ?_) (fun c_32 => ?_)
          · skip
            refine lv_iinc (v := 2) (lv' := [(4, .int 2), (0, .ref x), (1, .int (nI j_4)), (2, .int (nI j_8)), (3, .int a3)]) hx hb dX5_pours_93 hl (k := 0) rfl (by decide) (by decide) rfl (fun ls hl => ?_)
            refine lv_goto (tgt := 40) hx hb dX5_pours_96 (by decide) ?_
            refine lv_iload hx hb dX5_pours_40 (lv_at hl 0 rfl) ?_
            refine lv_iconst (v := 3) hx hb dX5_pours_42 (by decide) ?_
            refine lv_icmp_gt (tgt := 99) hx hb dX5_pours_43 (by decide) (fun h => absurd h (by decide)) (fun _ => ?_)
            refine lv_aload_n hx hb dX5_pours_46 rfl (lv_at hl 1 rfl) ?_
            refine va_get (D := D) (ci := 5) (v := .ref th) (C := RX5) (T := TX5) (N := 10) hx hb hts hi5 hown hK.1 hP 0 rfl rfl 3 (by decide) wf30 (fun _ h9 => h9) rfl dX5_pours_47 ?_
            refine lv_aload_n hx hb dX5_pours_50 rfl (lv_at hl 1 rfl) ?_
            refine va_get (D := D) (ci := 5) (v := .ref pr) (C := RX5) (T := TX5) (N := 10) hx hb hts hi5 hown hK.1 hP 0 rfl rfl 6 (by decide) wf44 (fun _ h9 => h9) rfl dX5_pours_51 ?_
            refine lv_iload_n hx hb dX5_pours_54 rfl (lv_at hl 2 rfl) ?_
            refine lv_iload_n hx hb dX5_pours_55 rfl (lv_at hl 3 rfl) ?_
            refine lv_iconst (v := 0) hx hb dX5_pours_56 (by decide) ?_
            refine lv_iload hx hb dX5_pours_57 (lv_at hl 0 rfl) ?_
            refine wt_goI (wr := [(x, .inr (5, [vx_0, vx_1, .ref ho, .ref th, vx_4, vx_5, .ref pr, vx_7, vx_8, vx_9])), (tW, .inl (cI, 5, .inl gW2_13)), (tS, .inl (cI, 5, .inl gS2_14)), (tK, .inl (cI, 6, .inl gK2_15)), (tT, .inl (cI, 6, .inl gT2_17)), (ho, .inr (0, [.int fr, .int co, .int (nI R), .int (nI T), .int mi, .ref aW, .ref aS, .ref aK, .ref aP, .ref aT, .ref aH, .ref aU])), (aW, .inl (cI, 5, .inl fW)), (aS, .inl (cI, 5, .inl fS)), (aK, .inl (cI, 6, .inl fK)), (aP, .inl (cI, 6, .inl fP)), (aT, .inl (cI, 6, .inl fT)), (aH, .inl (cI, 6, .inl fH)), (aU, .inl (cI, 6, .inl fU))]) (wt_runS (As := [.ref th, .ref pr, .int (nI j_4), .int (nI j_8), .int 0, .int 2]) (rest := []) ⟨hx, hb, hml, hown, hts⟩ (c_X5_canPour_2 l D cI cZ cH th tP tH tU R T j_4 0 2 gP2_16 gH2_18 fU2_30 pr qf2_31 (nI j_8) (.int fr) (.int co) (.int mi) (.ref tW) (.ref tS) (.ref tK) (.ref tT) (by first | assumption | omega) (by first | assumption | omega) (by first | assumption | omega) (by first | assumption | omega) (by first | assumption | omega) (by first | assumption | omega)) (va_cwS 6 hts gX5_pours_X5_canPour rfl rfl rfl (by decide +kernel) ⟨Nat.le_of_ble_eq_true rfl, Nat.le_of_ble_eq_true rfl⟩) hK hP hD [13, 14, 15, 16, 17] rfl (by decide) rfl hl.1 rfl (Nat.le_of_ble_eq_true rfl) dX5_pours_59 ⟨Nat.le_of_ble_eq_true rfl, Nat.le_of_ble_eq_true rfl⟩) hP hD hS hA [13, 14, 15, 16, 17] [0, 1, 2, 3, 4, 5, 6, 7, 8, 9, 10, 11, 12] rfl rfl (by decide) (by decide) (fun r_33 w_34 H locs h_35 hP hD hS => ?_)
            obtain ⟨fU2_36, qf2_37, rfl⟩ := h_35
            have hP : va_P D vwCl [(x, .inr (5, [vx_0, vx_1, .ref ho, .ref th, vx_4, vx_5, .ref pr, vx_7, vx_8, vx_9])), (tW, .inl (cI, 5, .inl gW2_13)), (tS, .inl (cI, 5, .inl gS2_14)), (tK, .inl (cI, 6, .inl gK2_15)), (tT, .inl (cI, 6, .inl gT2_17)), (ho, .inr (0, [.int fr, .int co, .int (nI R), .int (nI T), .int mi, .ref aW, .ref aS, .ref aK, .ref aP, .ref aT, .ref aH, .ref aU])), (aW, .inl (cI, 5, .inl fW)), (aS, .inl (cI, 5, .inl fS)), (aK, .inl (cI, 6, .inl fK)), (aP, .inl (cI, 6, .inl fP)), (aT, .inl (cI, 6, .inl fT)), (aH, .inl (cI, 6, .inl fH)), (aU, .inl (cI, 6, .inl fU)), (th, .inr (0, [.int fr, .int co, .int (nI R), .int (nI T), .int mi, .ref tW, .ref tS, .ref tK, .ref tP, .ref tT, .ref tH, .ref tU])), (tP, .inl (cI, 6, .inl gP2_16)), (tH, .inl (cI, 6, .inl gH2_18)), (tU, .inl (cI, 6, .inl fU2_36)), (pr, .inl (cI, 3, .inl qf2_37))] H := hP
            have hD : va_D A [(x, .inr (5, [vx_0, vx_1, .ref ho, .ref th, vx_4, vx_5, .ref pr, vx_7, vx_8, vx_9])), (tW, .inl (cI, 5, .inl gW2_13)), (tS, .inl (cI, 5, .inl gS2_14)), (tK, .inl (cI, 6, .inl gK2_15)), (tT, .inl (cI, 6, .inl gT2_17)), (ho, .inr (0, [.int fr, .int co, .int (nI R), .int (nI T), .int mi, .ref aW, .ref aS, .ref aK, .ref aP, .ref aT, .ref aH, .ref aU])), (aW, .inl (cI, 5, .inl fW)), (aS, .inl (cI, 5, .inl fS)), (aK, .inl (cI, 6, .inl fK)), (aP, .inl (cI, 6, .inl fP)), (aT, .inl (cI, 6, .inl fT)), (aH, .inl (cI, 6, .inl fH)), (aU, .inl (cI, 6, .inl fU)), (th, .inr (0, [.int fr, .int co, .int (nI R), .int (nI T), .int mi, .ref tW, .ref tS, .ref tK, .ref tP, .ref tT, .ref tH, .ref tU])), (tP, .inl (cI, 6, .inl gP2_16)), (tH, .inl (cI, 6, .inl gH2_18)), (tU, .inl (cI, 6, .inl fU2_36)), (pr, .inl (cI, 3, .inl qf2_37))] := hD
            refine lv_if_eq (tgt := 93) hx hb dX5_pours_62 (by decide) (fun c_38 => ?_) (fun c_38 => ?_)
            · skip
              refine lv_iinc (v := 3) (lv' := [(4, .int 3), (0, .ref x), (1, .int (nI j_4)), (2, .int (nI j_8)), (3, .int a3)]) hx hb dX5_pours_93 hl (k := 0) rfl (by decide) (by decide) rfl (fun ls hl => ?_)
              refine lv_goto (tgt := 40) hx hb dX5_pours_96 (by decide) ?_
              refine lv_iload hx hb dX5_pours_40 (lv_at hl 0 rfl) ?_
              refine lv_iconst (v := 3) hx hb dX5_pours_42 (by decide) ?_
              refine lv_icmp_gt (tgt := 99) hx hb dX5_pours_43 (by decide) (fun h => absurd h (by decide)) (fun _ => ?_)
              refine lv_aload_n hx hb dX5_pours_46 rfl (lv_at hl 1 rfl) ?_
              refine va_get (D := D) (ci := 5) (v := .ref th) (C := RX5) (T := TX5) (N := 10) hx hb hts hi5 hown hK.1 hP 0 rfl rfl 3 (by decide) wf30 (fun _ h9 => h9) rfl dX5_pours_47 ?_
              refine lv_aload_n hx hb dX5_pours_50 rfl (lv_at hl 1 rfl) ?_
              refine va_get (D := D) (ci := 5) (v := .ref pr) (C := RX5) (T := TX5) (N := 10) hx hb hts hi5 hown hK.1 hP 0 rfl rfl 6 (by decide) wf44 (fun _ h9 => h9) rfl dX5_pours_51 ?_
              refine lv_iload_n hx hb dX5_pours_54 rfl (lv_at hl 2 rfl) ?_
              refine lv_iload_n hx hb dX5_pours_55 rfl (lv_at hl 3 rfl) ?_
              refine lv_iconst (v := 0) hx hb dX5_pours_56 (by decide) ?_
              refine lv_iload hx hb dX5_pours_57 (lv_at hl 0 rfl) ?_
              refine wt_goI (wr := [(x, .inr (5, [vx_0, vx_1, .ref ho, .ref th, vx_4, vx_5, .ref pr, vx_7, vx_8, vx_9])), (tW, .inl (cI, 5, .inl gW2_13)), (tS, .inl (cI, 5, .inl gS2_14)), (tK, .inl (cI, 6, .inl gK2_15)), (tT, .inl (cI, 6, .inl gT2_17)), (ho, .inr (0, [.int fr, .int co, .int (nI R), .int (nI T), .int mi, .ref aW, .ref aS, .ref aK, .ref aP, .ref aT, .ref aH, .ref aU])), (aW, .inl (cI, 5, .inl fW)), (aS, .inl (cI, 5, .inl fS)), (aK, .inl (cI, 6, .inl fK)), (aP, .inl (cI, 6, .inl fP)), (aT, .inl (cI, 6, .inl fT)), (aH, .inl (cI, 6, .inl fH)), (aU, .inl (cI, 6, .inl fU))]) (wt_runS (As := [.ref th, .ref pr, .int (nI j_4), .int (nI j_8), .int 0, .int 3]) (rest := []) ⟨hx, hb, hml, hown, hts⟩ (c_X5_canPour_3 l D cI cZ cH th tP tH tU R T j_4 0 3 gP2_16 gH2_18 fU2_36 pr qf2_37 (nI j_8) (.int fr) (.int co) (.int mi) (.ref tW) (.ref tS) (.ref tK) (.ref tT) (by first | assumption | omega) (by first | assumption | omega) (by first | assumption | omega) (by first | assumption | omega) (by first | assumption | omega) (by first | assumption | omega)) (va_cwS 6 hts gX5_pours_X5_canPour rfl rfl rfl (by decide +kernel) ⟨Nat.le_of_ble_eq_true rfl, Nat.le_of_ble_eq_true rfl⟩) hK hP hD [13, 14, 15, 16, 17] rfl (by decide) rfl hl.1 rfl (Nat.le_of_ble_eq_true rfl) dX5_pours_59 ⟨Nat.le_of_ble_eq_true rfl, Nat.le_of_ble_eq_true rfl⟩) hP hD hS hA [13, 14, 15, 16, 17] [0, 1, 2, 3, 4, 5, 6, 7, 8, 9, 10, 11, 12] rfl rfl (by decide) (by decide) (fun r_39 w_40 H locs h_41 hP hD hS => ?_)
              obtain ⟨fU2_42, qf2_43, rfl⟩ := h_41
              have hP : va_P D vwCl [(x, .inr (5, [vx_0, vx_1, .ref ho, .ref th, vx_4, vx_5, .ref pr, vx_7, vx_8, vx_9])), (tW, .inl (cI, 5, .inl gW2_13)), (tS, .inl (cI, 5, .inl gS2_14)), (tK, .inl (cI, 6, .inl gK2_15)), (tT, .inl (cI, 6, .inl gT2_17)), (ho, .inr (0, [.int fr, .int co, .int (nI R), .int (nI T), .int mi, .ref aW, .ref aS, .ref aK, .ref aP, .ref aT, .ref aH, .ref aU])), (aW, .inl (cI, 5, .inl fW)), (aS, .inl (cI, 5, .inl fS)), (aK, .inl (cI, 6, .inl fK)), (aP, .inl (cI, 6, .inl fP)), (aT, .inl (cI, 6, .inl fT)), (aH, .inl (cI, 6, .inl fH)), (aU, .inl (cI, 6, .inl fU)), (th, .inr (0, [.int fr, .int co, .int (nI R), .int (nI T), .int mi, .ref tW, .ref tS, .ref tK, .ref tP, .ref tT, .ref tH, .ref tU])), (tP, .inl (cI, 6, .inl gP2_16)), (tH, .inl (cI, 6, .inl gH2_18)), (tU, .inl (cI, 6, .inl fU2_42)), (pr, .inl (cI, 3, .inl qf2_43))] H := hP
              have hD : va_D A [(x, .inr (5, [vx_0, vx_1, .ref ho, .ref th, vx_4, vx_5, .ref pr, vx_7, vx_8, vx_9])), (tW, .inl (cI, 5, .inl gW2_13)), (tS, .inl (cI, 5, .inl gS2_14)), (tK, .inl (cI, 6, .inl gK2_15)), (tT, .inl (cI, 6, .inl gT2_17)), (ho, .inr (0, [.int fr, .int co, .int (nI R), .int (nI T), .int mi, .ref aW, .ref aS, .ref aK, .ref aP, .ref aT, .ref aH, .ref aU])), (aW, .inl (cI, 5, .inl fW)), (aS, .inl (cI, 5, .inl fS)), (aK, .inl (cI, 6, .inl fK)), (aP, .inl (cI, 6, .inl fP)), (aT, .inl (cI, 6, .inl fT)), (aH, .inl (cI, 6, .inl fH)), (aU, .inl (cI, 6, .inl fU)), (th, .inr (0, [.int fr, .int co, .int (nI R), .int (nI T), .int mi, .ref tW, .ref tS, .ref tK, .ref tP, .ref tT, .ref tH, .ref tU])), (tP, .inl (cI, 6, .inl gP2_16)), (tH, .inl (cI, 6, .inl gH2_18)), (tU, .inl (cI, 6, .inl fU2_42)), (pr, .inl (cI, 3, .inl qf2_43))] := hD
              refine lv_if_eq (tgt := 93) hx hb dX5_pours_62 (by decide) (fun c_44 => ?_) (fun c_44 => ?_)
              · skip
                refine lv_iinc (v := 4) (lv' := [(4, .int 4), (0, .ref x), (1, .int (nI j_4)), (2, .int (nI j_8)), (3, .int a3)]) hx hb dX5_pours_93 hl (k := 0) rfl (by decide) (by decide) rfl (fun ls hl => ?_)
                refine lv_goto (tgt := 40) hx hb dX5_pours_96 (by decide) ?_
                refine lv_iload hx hb dX5_pours_40 (lv_at hl 0 rfl) ?_
                refine lv_iconst (v := 3) hx hb dX5_pours_42 (by decide) ?_
                refine lv_icmp_gt (tgt := 99) hx hb dX5_pours_43 (by decide) (fun _ => ?_) (fun h => absurd h (by decide))
                refine lv_ldc hx hb hown wc217 dX5_pours_99 ?_
                have hP9 := hP.sub (ws' := [(x, .inr (5, [vx_0, vx_1, .ref ho, .ref th, vx_4, vx_5, .ref pr, vx_7, vx_8, vx_9])), (ho, .inr (0, [.int fr, .int co, .int (nI R), .int (nI T), .int mi, .ref aW, .ref aS, .ref aK, .ref aP, .ref aT, .ref aH, .ref aU])), (aW, .inl (cI, 5, .inl fW)), (aS, .inl (cI, 5, .inl fS)), (aK, .inl (cI, 6, .inl fK)), (aP, .inl (cI, 6, .inl fP)), (aT, .inl (cI, 6, .inl fT)), (aH, .inl (cI, 6, .inl fH)), (aU, .inl (cI, 6, .inl fU)), (th, .inr (0, [.int fr, .int co, .int (nI R), .int (nI T), .int mi, .ref tW, .ref tS, .ref tK, .ref tP, .ref tT, .ref tH, .ref tU])), (tW, .inl (cI, 5, .inl gW2_13)), (tS, .inl (cI, 5, .inl gS2_14)), (tK, .inl (cI, 6, .inl gK2_15)), (tP, .inl (cI, 6, .inl gP2_16)), (tT, .inl (cI, 6, .inl gT2_17)), (tH, .inl (cI, 6, .inl gH2_18)), (tU, .inl (cI, 6, .inl fU2_42)), (pr, .inl (cI, 3, .inl qf2_43))]) [0, 5, 6, 7, 8, 9, 10, 11, 12, 13, 1, 2, 3, 14, 4, 15, 16, 17] rfl
                have hD9 := hD.sub (ws' := [(x, .inr (5, [vx_0, vx_1, .ref ho, .ref th, vx_4, vx_5, .ref pr, vx_7, vx_8, vx_9])), (ho, .inr (0, [.int fr, .int co, .int (nI R), .int (nI T), .int mi, .ref aW, .ref aS, .ref aK, .ref aP, .ref aT, .ref aH, .ref aU])), (aW, .inl (cI, 5, .inl fW)), (aS, .inl (cI, 5, .inl fS)), (aK, .inl (cI, 6, .inl fK)), (aP, .inl (cI, 6, .inl fP)), (aT, .inl (cI, 6, .inl fT)), (aH, .inl (cI, 6, .inl fH)), (aU, .inl (cI, 6, .inl fU)), (th, .inr (0, [.int fr, .int co, .int (nI R), .int (nI T), .int mi, .ref tW, .ref tS, .ref tK, .ref tP, .ref tT, .ref tH, .ref tU])), (tW, .inl (cI, 5, .inl gW2_13)), (tS, .inl (cI, 5, .inl gS2_14)), (tK, .inl (cI, 6, .inl gK2_15)), (tP, .inl (cI, 6, .inl gP2_16)), (tT, .inl (cI, 6, .inl gT2_17)), (tH, .inl (cI, 6, .inl gH2_18)), (tU, .inl (cI, 6, .inl fU2_42)), (pr, .inl (cI, 3, .inl qf2_43))]) [0, 5, 6, 7, 8, 9, 10, 11, 12, 13, 1, 2, 3, 14, 4, 15, 16, 17] (by decide) rfl
                exact wt_iret hx hb hr hlocks hP9 hD9 hS ⟨gW2_13, gS2_14, gK2_15, gP2_16, gT2_17, gH2_18, fU2_42, qf2_43, fr, co, (nI R), (nI T), mi, rfl⟩ dX5_pours_101
              · skip
                refine lv_iload_n hx hb dX5_pours_65 rfl (lv_at hl 4 rfl) ?_
                refine lv_iconst (v := (-1)) hx hb dX5_pours_66 (by decide) ?_
                refine lv_icmp_ne (tgt := 75) hx hb dX5_pours_67 (by decide) (fun c_45 => ?_) (fun c_45 => ?_)
                · skip
                  refine lv_iload_n hx hb dX5_pours_75 rfl (lv_at hl 4 rfl) ?_
                  refine lv_iload hx hb dX5_pours_76 (lv_at hl 0 rfl) ?_
                  refine lv_icmp_ge (tgt := 90) hx hb dX5_pours_78 (by decide) (fun c_46 => ?_) (fun c_46 => ?_)
                  · skip
                    refine lv_ldc hx hb hown wc217 dX5_pours_90 ?_
                    have hP9 := hP.sub (ws' := [(x, .inr (5, [vx_0, vx_1, .ref ho, .ref th, vx_4, vx_5, .ref pr, vx_7, vx_8, vx_9])), (ho, .inr (0, [.int fr, .int co, .int (nI R), .int (nI T), .int mi, .ref aW, .ref aS, .ref aK, .ref aP, .ref aT, .ref aH, .ref aU])), (aW, .inl (cI, 5, .inl fW)), (aS, .inl (cI, 5, .inl fS)), (aK, .inl (cI, 6, .inl fK)), (aP, .inl (cI, 6, .inl fP)), (aT, .inl (cI, 6, .inl fT)), (aH, .inl (cI, 6, .inl fH)), (aU, .inl (cI, 6, .inl fU)), (th, .inr (0, [.int fr, .int co, .int (nI R), .int (nI T), .int mi, .ref tW, .ref tS, .ref tK, .ref tP, .ref tT, .ref tH, .ref tU])), (tW, .inl (cI, 5, .inl gW2_13)), (tS, .inl (cI, 5, .inl gS2_14)), (tK, .inl (cI, 6, .inl gK2_15)), (tP, .inl (cI, 6, .inl gP2_16)), (tT, .inl (cI, 6, .inl gT2_17)), (tH, .inl (cI, 6, .inl gH2_18)), (tU, .inl (cI, 6, .inl fU2_42)), (pr, .inl (cI, 3, .inl qf2_43))]) [0, 5, 6, 7, 8, 9, 10, 11, 12, 13, 1, 2, 3, 14, 4, 15, 16, 17] rfl
                    have hD9 := hD.sub (ws' := [(x, .inr (5, [vx_0, vx_1, .ref ho, .ref th, vx_4, vx_5, .ref pr, vx_7, vx_8, vx_9])), (ho, .inr (0, [.int fr, .int co, .int (nI R), .int (nI T), .int mi, .ref aW, .ref aS, .ref aK, .ref aP, .ref aT, .ref aH, .ref aU])), (aW, .inl (cI, 5, .inl fW)), (aS, .inl (cI, 5, .inl fS)), (aK, .inl (cI, 6, .inl fK)), (aP, .inl (cI, 6, .inl fP)), (aT, .inl (cI, 6, .inl fT)), (aH, .inl (cI, 6, .inl fH)), (aU, .inl (cI, 6, .inl fU)), (th, .inr (0, [.int fr, .int co, .int (nI R), .int (nI T), .int mi, .ref tW, .ref tS, .ref tK, .ref tP, .ref tT, .ref tH, .ref tU])), (tW, .inl (cI, 5, .inl gW2_13)), (tS, .inl (cI, 5, .inl gS2_14)), (tK, .inl (cI, 6, .inl gK2_15)), (tP, .inl (cI, 6, .inl gP2_16)), (tT, .inl (cI, 6, .inl gT2_17)), (tH, .inl (cI, 6, .inl gH2_18)), (tU, .inl (cI, 6, .inl fU2_42)), (pr, .inl (cI, 3, .inl qf2_43))]) [0, 5, 6, 7, 8, 9, 10, 11, 12, 13, 1, 2, 3, 14, 4, 15, 16, 17] (by decide) rfl
                    exact wt_iret hx hb hr hlocks hP9 hD9 hS ⟨gW2_13, gS2_14, gK2_15, gP2_16, gT2_17, gH2_18, fU2_42, qf2_43, fr, co, (nI R), (nI T), mi, rfl⟩ dX5_pours_92
                  · skip
                    refine lv_aload_n hx hb dX5_pours_81 rfl (lv_at hl 1 rfl) ?_
                    refine va_get (D := D) (ci := 5) (v := .ref pr) (C := RX5) (T := TX5) (N := 10) hx hb hts hi5 hown hK.1 hP 0 rfl rfl 6 (by decide) wf44 (fun _ h9 => h9) rfl dX5_pours_82 ?_
                    refine lv_iload_n hx hb dX5_pours_85 rfl (lv_at hl 4 rfl) ?_
                    refine va_iald hx hb hK.1 hP 17 0 rfl rfl (wt_ix3 (d := 3) c_9 c_45 c_46 (by decide)) dX5_pours_86 ?_
                    refine lv_topi (fun ov_47 _ => ?_)
                    refine lv_goto (tgt := 92) hx hb dX5_pours_87 (by decide) ?_
                    have hP9 := hP.sub (ws' := [(x, .inr (5, [vx_0, vx_1, .ref ho, .ref th, vx_4, vx_5, .ref pr, vx_7, vx_8, vx_9])), (ho, .inr (0, [.int fr, .int co, .int (nI R), .int (nI T), .int mi, .ref aW, .ref aS, .ref aK, .ref aP, .ref aT, .ref aH, .ref aU])), (aW, .inl (cI, 5, .inl fW)), (aS, .inl (cI, 5, .inl fS)), (aK, .inl (cI, 6, .inl fK)), (aP, .inl (cI, 6, .inl fP)), (aT, .inl (cI, 6, .inl fT)), (aH, .inl (cI, 6, .inl fH)), (aU, .inl (cI, 6, .inl fU)), (th, .inr (0, [.int fr, .int co, .int (nI R), .int (nI T), .int mi, .ref tW, .ref tS, .ref tK, .ref tP, .ref tT, .ref tH, .ref tU])), (tW, .inl (cI, 5, .inl gW2_13)), (tS, .inl (cI, 5, .inl gS2_14)), (tK, .inl (cI, 6, .inl gK2_15)), (tP, .inl (cI, 6, .inl gP2_16)), (tT, .inl (cI, 6, .inl gT2_17)), (tH, .inl (cI, 6, .inl gH2_18)), (tU, .inl (cI, 6, .inl fU2_42)), (pr, .inl (cI, 3, .inl qf2_43))]) [0, 5, 6, 7, 8, 9, 10, 11, 12, 13, 1, 2, 3, 14, 4, 15, 16, 17] rfl
                    have hD9 := hD.sub (ws' := [(x, .inr (5, [vx_0, vx_1, .ref ho, .ref th, vx_4, vx_5, .ref pr, vx_7, vx_8, vx_9])), (ho, .inr (0, [.int fr, .int co, .int (nI R), .int (nI T), .int mi, .ref aW, .ref aS, .ref aK, .ref aP, .ref aT, .ref aH, .ref aU])), (aW, .inl (cI, 5, .inl fW)), (aS, .inl (cI, 5, .inl fS)), (aK, .inl (cI, 6, .inl fK)), (aP, .inl (cI, 6, .inl fP)), (aT, .inl (cI, 6, .inl fT)), (aH, .inl (cI, 6, .inl fH)), (aU, .inl (cI, 6, .inl fU)), (th, .inr (0, [.int fr, .int co, .int (nI R), .int (nI T), .int mi, .ref tW, .ref tS, .ref tK, .ref tP, .ref tT, .ref tH, .ref tU])), (tW, .inl (cI, 5, .inl gW2_13)), (tS, .inl (cI, 5, .inl gS2_14)), (tK, .inl (cI, 6, .inl gK2_15)), (tP, .inl (cI, 6, .inl gP2_16)), (tT, .inl (cI, 6, .inl gT2_17)), (tH, .inl (cI, 6, .inl gH2_18)), (tU, .inl (cI, 6, .inl fU2_42)), (pr, .inl (cI, 3, .inl qf2_43))]) [0, 5, 6, 7, 8, 9, 10, 11, 12, 13, 1, 2, 3, 14, 4, 15, 16, 17] (by decide) rfl
                    exact wt_iret hx hb hr hlocks hP9 hD9 hS ⟨gW2_13, gS2_14, gK2_15, gP2_16, gT2_17, gH2_18, fU2_42, qf2_43, fr, co, (nI R), (nI T), mi, rfl⟩ dX5_pours_92
                · skip
                  refine lv_iload hx hb dX5_pours_70 (lv_at hl 0 rfl) ?_
                  refine lv_goto (tgt := 92) hx hb dX5_pours_72 (by decide) ?_
                  have hP9 := hP.sub (ws' := [(x, .inr (5, [vx_0, vx_1, .ref ho, .ref th, vx_4, vx_5, .ref pr, vx_7, vx_8, vx_9])), (ho, .inr (0, [.int fr, .int co, .int (nI R), .int (nI T), .int mi, .ref aW, .ref aS, .ref aK, .ref aP, .ref aT, .ref aH, .ref aU])), (aW, .inl (cI, 5, .inl fW)), (aS, .inl (cI, 5, .inl fS)), (aK, .inl (cI, 6, .inl fK)), (aP, .inl (cI, 6, .inl fP)), (aT, .inl (cI, 6, .inl fT)), (aH, .inl (cI, 6, .inl fH)), (aU, .inl (cI, 6, .inl fU)), (th, .inr (0, [.int fr, .int co, .int (nI R), .int (nI T), .int mi, .ref tW, .ref tS, .ref tK, .ref tP, .ref tT, .ref tH, .ref tU])), (tW, .inl (cI, 5, .inl gW2_13)), (tS, .inl (cI, 5, .inl gS2_14)), (tK, .inl (cI, 6, .inl gK2_15)), (tP, .inl (cI, 6, .inl gP2_16)), (tT, .inl (cI, 6, .inl gT2_17)), (tH, .inl (cI, 6, .inl gH2_18)), (tU, .inl (cI, 6, .inl fU2_42)), (pr, .inl (cI, 3, .inl qf2_43))]) [0, 5, 6, 7, 8, 9, 10, 11, 12, 13, 1, 2, 3, 14, 4, 15, 16, 17] rfl
                  have hD9 := hD.sub (ws' := [(x, .inr (5, [vx_0, vx_1, .ref ho, .ref th, vx_4, vx_5, .ref pr, vx_7, vx_8, vx_9])), (ho, .inr (0, [.int fr, .int co, .int (nI R), .int (nI T), .int mi, .ref aW, .ref aS, .ref aK, .ref aP, .ref aT, .ref aH, .ref aU])), (aW, .inl (cI, 5, .inl fW)), (aS, .inl (cI, 5, .inl fS)), (aK, .inl (cI, 6, .inl fK)), (aP, .inl (cI, 6, .inl fP)), (aT, .inl (cI, 6, .inl fT)), (aH, .inl (cI, 6, .inl fH)), (aU, .inl (cI, 6, .inl fU)), (th, .inr (0, [.int fr, .int co, .int (nI R), .int (nI T), .int mi, .ref tW, .ref tS, .ref tK, .ref tP, .ref tT, .ref tH, .ref tU])), (tW, .inl (cI, 5, .inl gW2_13)), (tS, .inl (cI, 5, .inl gS2_14)), (tK, .inl (cI, 6, .inl gK2_15)), (tP, .inl (cI, 6, .inl gP2_16)), (tT, .inl (cI, 6, .inl gT2_17)), (tH, .inl (cI, 6, .inl gH2_18)), (tU, .inl (cI, 6, .inl fU2_42)), (pr, .inl (cI, 3, .inl qf2_43))]) [0, 5, 6, 7, 8, 9, 10, 11, 12, 13, 1, 2, 3, 14, 4, 15, 16, 17] (by decide) rfl
                  exact wt_iret hx hb hr hlocks hP9 hD9 hS ⟨gW2_13, gS2_14, gK2_15, gP2_16, gT2_17, gH2_18, fU2_42, qf2_43, fr, co, (nI R), (nI T), mi, rfl⟩ dX5_pours_92
            · skip
              refine lv_iload_n hx hb dX5_pours_65 rfl (lv_at hl 4 rfl) ?_
              refine lv_iconst (v := (-1)) hx hb dX5_pours_66 (by decide) ?_
              refine lv_icmp_ne (tgt := 75) hx hb dX5_pours_67 (by decide) (fun c_48 => ?_) (fun c_48 => ?_)
              · skip
                refine lv_iload_n hx hb dX5_pours_75 rfl (lv_at hl 4 rfl) ?_
                refine lv_iload hx hb dX5_pours_76 (lv_at hl 0 rfl) ?_
                refine lv_icmp_ge (tgt := 90) hx hb dX5_pours_78 (by decide) (fun c_49 => ?_) (fun c_49 => ?_)
                · skip
                  refine lv_ldc hx hb hown wc217 dX5_pours_90 ?_
                  have hP9 := hP.sub (ws' := [(x, .inr (5, [vx_0, vx_1, .ref ho, .ref th, vx_4, vx_5, .ref pr, vx_7, vx_8, vx_9])), (ho, .inr (0, [.int fr, .int co, .int (nI R), .int (nI T), .int mi, .ref aW, .ref aS, .ref aK, .ref aP, .ref aT, .ref aH, .ref aU])), (aW, .inl (cI, 5, .inl fW)), (aS, .inl (cI, 5, .inl fS)), (aK, .inl (cI, 6, .inl fK)), (aP, .inl (cI, 6, .inl fP)), (aT, .inl (cI, 6, .inl fT)), (aH, .inl (cI, 6, .inl fH)), (aU, .inl (cI, 6, .inl fU)), (th, .inr (0, [.int fr, .int co, .int (nI R), .int (nI T), .int mi, .ref tW, .ref tS, .ref tK, .ref tP, .ref tT, .ref tH, .ref tU])), (tW, .inl (cI, 5, .inl gW2_13)), (tS, .inl (cI, 5, .inl gS2_14)), (tK, .inl (cI, 6, .inl gK2_15)), (tP, .inl (cI, 6, .inl gP2_16)), (tT, .inl (cI, 6, .inl gT2_17)), (tH, .inl (cI, 6, .inl gH2_18)), (tU, .inl (cI, 6, .inl fU2_36)), (pr, .inl (cI, 3, .inl qf2_37))]) [0, 5, 6, 7, 8, 9, 10, 11, 12, 13, 1, 2, 3, 14, 4, 15, 16, 17] rfl
                  have hD9 := hD.sub (ws' := [(x, .inr (5, [vx_0, vx_1, .ref ho, .ref th, vx_4, vx_5, .ref pr, vx_7, vx_8, vx_9])), (ho, .inr (0, [.int fr, .int co, .int (nI R), .int (nI T), .int mi, .ref aW, .ref aS, .ref aK, .ref aP, .ref aT, .ref aH, .ref aU])), (aW, .inl (cI, 5, .inl fW)), (aS, .inl (cI, 5, .inl fS)), (aK, .inl (cI, 6, .inl fK)), (aP, .inl (cI, 6, .inl fP)), (aT, .inl (cI, 6, .inl fT)), (aH, .inl (cI, 6, .inl fH)), (aU, .inl (cI, 6, .inl fU)), (th, .inr (0, [.int fr, .int co, .int (nI R), .int (nI T), .int mi, .ref tW, .ref tS, .ref tK, .ref tP, .ref tT, .ref tH, .ref tU])), (tW, .inl (cI, 5, .inl gW2_13)), (tS, .inl (cI, 5, .inl gS2_14)), (tK, .inl (cI, 6, .inl gK2_15)), (tP, .inl (cI, 6, .inl gP2_16)), (tT, .inl (cI, 6, .inl gT2_17)), (tH, .inl (cI, 6, .inl gH2_18)), (tU, .inl (cI, 6, .inl fU2_36)), (pr, .inl (cI, 3, .inl qf2_37))]) [0, 5, 6, 7, 8, 9, 10, 11, 12, 13, 1, 2, 3, 14, 4, 15, 16, 17] (by decide) rfl
                  exact wt_iret hx hb hr hlocks hP9 hD9 hS ⟨gW2_13, gS2_14, gK2_15, gP2_16, gT2_17, gH2_18, fU2_36, qf2_37, fr, co, (nI R), (nI T), mi, rfl⟩ dX5_pours_92
                · skip
                  refine lv_aload_n hx hb dX5_pours_81 rfl (lv_at hl 1 rfl) ?_
                  refine va_get (D := D) (ci := 5) (v := .ref pr) (C := RX5) (T := TX5) (N := 10) hx hb hts hi5 hown hK.1 hP 0 rfl rfl 6 (by decide) wf44 (fun _ h9 => h9) rfl dX5_pours_82 ?_
                  refine lv_iload_n hx hb dX5_pours_85 rfl (lv_at hl 4 rfl) ?_
                  refine va_iald hx hb hK.1 hP 17 0 rfl rfl (wt_ix3 (d := 2) c_9 c_48 c_49 (by decide)) dX5_pours_86 ?_
                  refine lv_topi (fun ov_50 _ => ?_)
                  refine lv_goto (tgt := 92) hx hb dX5_pours_87 (by decide) ?_
                  have hP9 := hP.sub (ws' := [(x, .inr (5, [vx_0, vx_1, .ref ho, .ref th, vx_4, vx_5, .ref pr, vx_7, vx_8, vx_9])), (ho, .inr (0, [.int fr, .int co, .int (nI R), .int (nI T), .int mi, .ref aW, .ref aS, .ref aK, .ref aP, .ref aT, .ref aH, .ref aU])), (aW, .inl (cI, 5, .inl fW)), (aS, .inl (cI, 5, .inl fS)), (aK, .inl (cI, 6, .inl fK)), (aP, .inl (cI, 6, .inl fP)), (aT, .inl (cI, 6, .inl fT)), (aH, .inl (cI, 6, .inl fH)), (aU, .inl (cI, 6, .inl fU)), (th, .inr (0, [.int fr, .int co, .int (nI R), .int (nI T), .int mi, .ref tW, .ref tS, .ref tK, .ref tP, .ref tT, .ref tH, .ref tU])), (tW, .inl (cI, 5, .inl gW2_13)), (tS, .inl (cI, 5, .inl gS2_14)), (tK, .inl (cI, 6, .inl gK2_15)), (tP, .inl (cI, 6, .inl gP2_16)), (tT, .inl (cI, 6, .inl gT2_17)), (tH, .inl (cI, 6, .inl gH2_18)), (tU, .inl (cI, 6, .inl fU2_36)), (pr, .inl (cI, 3, .inl qf2_37))]) [0, 5, 6, 7, 8, 9, 10, 11, 12, 13, 1, 2, 3, 14, 4, 15, 16, 17] rfl
                  have hD9 := hD.sub (ws' := [(x, .inr (5, [vx_0, vx_1, .ref ho, .ref th, vx_4, vx_5, .ref pr, vx_7, vx_8, vx_9])), (ho, .inr (0, [.int fr, .int co, .int (nI R), .int (nI T), .int mi, .ref aW, .ref aS, .ref aK, .ref aP, .ref aT, .ref aH, .ref aU])), (aW, .inl (cI, 5, .inl fW)), (aS, .inl (cI, 5, .inl fS)), (aK, .inl (cI, 6, .inl fK)), (aP, .inl (cI, 6, .inl fP)), (aT, .inl (cI, 6, .inl fT)), (aH, .inl (cI, 6, .inl fH)), (aU, .inl (cI, 6, .inl fU)), (th, .inr (0, [.int fr, .int co, .int (nI R), .int (nI T), .int mi, .ref tW, .ref tS, .ref tK, .ref tP, .ref tT, .ref tH, .ref tU])), (tW, .inl (cI, 5, .inl gW2_13)), (tS, .inl (cI, 5, .inl gS2_14)), (tK, .inl (cI, 6, .inl gK2_15)), (tP, .inl (cI, 6, .inl gP2_16)), (tT, .inl (cI, 6, .inl gT2_17)), (tH, .inl (cI, 6, .inl gH2_18)), (tU, .inl (cI, 6, .inl fU2_36)), (pr, .inl (cI, 3, .inl qf2_37))]) [0, 5, 6, 7, 8, 9, 10, 11, 12, 13, 1, 2, 3, 14, 4, 15, 16, 17] (by decide) rfl
                  exact wt_iret hx hb hr hlocks hP9 hD9 hS ⟨gW2_13, gS2_14, gK2_15, gP2_16, gT2_17, gH2_18, fU2_36, qf2_37, fr, co, (nI R), (nI T), mi, rfl⟩ dX5_pours_92
              · skip
                refine lv_iload hx hb dX5_pours_70 (lv_at hl 0 rfl) ?_
                refine lv_goto (tgt := 92) hx hb dX5_pours_72 (by decide) ?_
                have hP9 := hP.sub (ws' := [(x, .inr (5, [vx_0, vx_1, .ref ho, .ref th, vx_4, vx_5, .ref pr, vx_7, vx_8, vx_9])), (ho, .inr (0, [.int fr, .int co, .int (nI R), .int (nI T), .int mi, .ref aW, .ref aS, .ref aK, .ref aP, .ref aT, .ref aH, .ref aU])), (aW, .inl (cI, 5, .inl fW)), (aS, .inl (cI, 5, .inl fS)), (aK, .inl (cI, 6, .inl fK)), (aP, .inl (cI, 6, .inl fP)), (aT, .inl (cI, 6, .inl fT)), (aH, .inl (cI, 6, .inl fH)), (aU, .inl (cI, 6, .inl fU)), (th, .inr (0, [.int fr, .int co, .int (nI R), .int (nI T), .int mi, .ref tW, .ref tS, .ref tK, .ref tP, .ref tT, .ref tH, .ref tU])), (tW, .inl (cI, 5, .inl gW2_13)), (tS, .inl (cI, 5, .inl gS2_14)), (tK, .inl (cI, 6, .inl gK2_15)), (tP, .inl (cI, 6, .inl gP2_16)), (tT, .inl (cI, 6, .inl gT2_17)), (tH, .inl (cI, 6, .inl gH2_18)), (tU, .inl (cI, 6, .inl fU2_36)), (pr, .inl (cI, 3, .inl qf2_37))]) [0, 5, 6, 7, 8, 9, 10, 11, 12, 13, 1, 2, 3, 14, 4, 15, 16, 17] rfl
                have hD9 := hD.sub (ws' := [(x, .inr (5, [vx_0, vx_1, .ref ho, .ref th, vx_4, vx_5, .ref pr, vx_7, vx_8, vx_9])), (ho, .inr (0, [.int fr, .int co, .int (nI R), .int (nI T), .int mi, .ref aW, .ref aS, .ref aK, .ref aP, .ref aT, .ref aH, .ref aU])), (aW, .inl (cI, 5, .inl fW)), (aS, .inl (cI, 5, .inl fS)), (aK, .inl (cI, 6, .inl fK)), (aP, .inl (cI, 6, .inl fP)), (aT, .inl (cI, 6, .inl fT)), (aH, .inl (cI, 6, .inl fH)), (aU, .inl (cI, 6, .inl fU)), (th, .inr (0, [.int fr, .int co, .int (nI R), .int (nI T), .int mi, .ref tW, .ref tS, .ref tK, .ref tP, .ref tT, .ref tH, .ref tU])), (tW, .inl (cI, 5, .inl gW2_13)), (tS, .inl (cI, 5, .inl gS2_14)), (tK, .inl (cI, 6, .inl gK2_15)), (tP, .inl (cI, 6, .inl gP2_16)), (tT, .inl (cI, 6, .inl gT2_17)), (tH, .inl (cI, 6, .inl gH2_18)), (tU, .inl (cI, 6, .inl fU2_36)), (pr, .inl (cI, 3, .inl qf2_37))]) [0, 5, 6, 7, 8, 9, 10, 11, 12, 13, 1, 2, 3, 14, 4, 15, 16, 17] (by decide) rfl
                exact wt_iret hx hb hr hlocks hP9 hD9 hS ⟨gW2_13, gS2_14, gK2_15, gP2_16, gT2_17, gH2_18, fU2_36, qf2_37, fr, co, (nI R), (nI T), mi, rfl⟩ dX5_pours_92
          · skip
            refine lv_iload_n hx hb dX5_pours_65 rfl (lv_at hl 4 rfl) ?_
            refine lv_iconst (v := (-1)) hx hb dX5_pours_66 (by decide) ?_
            refine lv_icmp_ne (tgt := 75) hx hb dX5_pours_67 (by decide) (fun c_51 => ?_) (fun c_51 => ?_)
            · skip
              refine lv_iload_n hx hb dX5_pours_75 rfl (lv_at hl 4 rfl) ?_
              refine lv_iload hx hb dX5_pours_76 (lv_at hl 0 rfl) ?_
              refine lv_icmp_ge (tgt := 90) hx hb dX5_pours_78 (by decide) (fun c_52 => ?_) (fun c_52 => ?_)
              · skip
                refine lv_ldc hx hb hown wc217 dX5_pours_90 ?_
                have hP9 := hP.sub (ws' := [(x, .inr (5, [vx_0, vx_1, .ref ho, .ref th, vx_4, vx_5, .ref pr, vx_7, vx_8, vx_9])), (ho, .inr (0, [.int fr, .int co, .int (nI R), .int (nI T), .int mi, .ref aW, .ref aS, .ref aK, .ref aP, .ref aT, .ref aH, .ref aU])), (aW, .inl (cI, 5, .inl fW)), (aS, .inl (cI, 5, .inl fS)), (aK, .inl (cI, 6, .inl fK)), (aP, .inl (cI, 6, .inl fP)), (aT, .inl (cI, 6, .inl fT)), (aH, .inl (cI, 6, .inl fH)), (aU, .inl (cI, 6, .inl fU)), (th, .inr (0, [.int fr, .int co, .int (nI R), .int (nI T), .int mi, .ref tW, .ref tS, .ref tK, .ref tP, .ref tT, .ref tH, .ref tU])), (tW, .inl (cI, 5, .inl gW2_13)), (tS, .inl (cI, 5, .inl gS2_14)), (tK, .inl (cI, 6, .inl gK2_15)), (tP, .inl (cI, 6, .inl gP2_16)), (tT, .inl (cI, 6, .inl gT2_17)), (tH, .inl (cI, 6, .inl gH2_18)), (tU, .inl (cI, 6, .inl fU2_30)), (pr, .inl (cI, 3, .inl qf2_31))]) [0, 5, 6, 7, 8, 9, 10, 11, 12, 13, 1, 2, 3, 14, 4, 15, 16, 17] rfl
                have hD9 := hD.sub (ws' := [(x, .inr (5, [vx_0, vx_1, .ref ho, .ref th, vx_4, vx_5, .ref pr, vx_7, vx_8, vx_9])), (ho, .inr (0, [.int fr, .int co, .int (nI R), .int (nI T), .int mi, .ref aW, .ref aS, .ref aK, .ref aP, .ref aT, .ref aH, .ref aU])), (aW, .inl (cI, 5, .inl fW)), (aS, .inl (cI, 5, .inl fS)), (aK, .inl (cI, 6, .inl fK)), (aP, .inl (cI, 6, .inl fP)), (aT, .inl (cI, 6, .inl fT)), (aH, .inl (cI, 6, .inl fH)), (aU, .inl (cI, 6, .inl fU)), (th, .inr (0, [.int fr, .int co, .int (nI R), .int (nI T), .int mi, .ref tW, .ref tS, .ref tK, .ref tP, .ref tT, .ref tH, .ref tU])), (tW, .inl (cI, 5, .inl gW2_13)), (tS, .inl (cI, 5, .inl gS2_14)), (tK, .inl (cI, 6, .inl gK2_15)), (tP, .inl (cI, 6, .inl gP2_16)), (tT, .inl (cI, 6, .inl gT2_17)), (tH, .inl (cI, 6, .inl gH2_18)), (tU, .inl (cI, 6, .inl fU2_30)), (pr, .inl (cI, 3, .inl qf2_31))]) [0, 5, 6, 7, 8, 9, 10, 11, 12, 13, 1, 2, 3, 14, 4, 15, 16, 17] (by decide) rfl
                exact wt_iret hx hb hr hlocks hP9 hD9 hS ⟨gW2_13, gS2_14, gK2_15, gP2_16, gT2_17, gH2_18, fU2_30, qf2_31, fr, co, (nI R), (nI T), mi, rfl⟩ dX5_pours_92
              · skip
                refine lv_aload_n hx hb dX5_pours_81 rfl (lv_at hl 1 rfl) ?_
                refine va_get (D := D) (ci := 5) (v := .ref pr) (C := RX5) (T := TX5) (N := 10) hx hb hts hi5 hown hK.1 hP 0 rfl rfl 6 (by decide) wf44 (fun _ h9 => h9) rfl dX5_pours_82 ?_
                refine lv_iload_n hx hb dX5_pours_85 rfl (lv_at hl 4 rfl) ?_
                refine va_iald hx hb hK.1 hP 17 0 rfl rfl (wt_ix3 (d := 1) c_9 c_51 c_52 (by decide)) dX5_pours_86 ?_
                refine lv_topi (fun ov_53 _ => ?_)
                refine lv_goto (tgt := 92) hx hb dX5_pours_87 (by decide) ?_
                have hP9 := hP.sub (ws' := [(x, .inr (5, [vx_0, vx_1, .ref ho, .ref th, vx_4, vx_5, .ref pr, vx_7, vx_8, vx_9])), (ho, .inr (0, [.int fr, .int co, .int (nI R), .int (nI T), .int mi, .ref aW, .ref aS, .ref aK, .ref aP, .ref aT, .ref aH, .ref aU])), (aW, .inl (cI, 5, .inl fW)), (aS, .inl (cI, 5, .inl fS)), (aK, .inl (cI, 6, .inl fK)), (aP, .inl (cI, 6, .inl fP)), (aT, .inl (cI, 6, .inl fT)), (aH, .inl (cI, 6, .inl fH)), (aU, .inl (cI, 6, .inl fU)), (th, .inr (0, [.int fr, .int co, .int (nI R), .int (nI T), .int mi, .ref tW, .ref tS, .ref tK, .ref tP, .ref tT, .ref tH, .ref tU])), (tW, .inl (cI, 5, .inl gW2_13)), (tS, .inl (cI, 5, .inl gS2_14)), (tK, .inl (cI, 6, .inl gK2_15)), (tP, .inl (cI, 6, .inl gP2_16)), (tT, .inl (cI, 6, .inl gT2_17)), (tH, .inl (cI, 6, .inl gH2_18)), (tU, .inl (cI, 6, .inl fU2_30)), (pr, .inl (cI, 3, .inl qf2_31))]) [0, 5, 6, 7, 8, 9, 10, 11, 12, 13, 1, 2, 3, 14, 4, 15, 16, 17] rfl
                have hD9 := hD.sub (ws' := [(x, .inr (5, [vx_0, vx_1, .ref ho, .ref th, vx_4, vx_5, .ref pr, vx_7, vx_8, vx_9])), (ho, .inr (0, [.int fr, .int co, .int (nI R), .int (nI T), .int mi, .ref aW, .ref aS, .ref aK, .ref aP, .ref aT, .ref aH, .ref aU])), (aW, .inl (cI, 5, .inl fW)), (aS, .inl (cI, 5, .inl fS)), (aK, .inl (cI, 6, .inl fK)), (aP, .inl (cI, 6, .inl fP)), (aT, .inl (cI, 6, .inl fT)), (aH, .inl (cI, 6, .inl fH)), (aU, .inl (cI, 6, .inl fU)), (th, .inr (0, [.int fr, .int co, .int (nI R), .int (nI T), .int mi, .ref tW, .ref tS, .ref tK, .ref tP, .ref tT, .ref tH, .ref tU])), (tW, .inl (cI, 5, .inl gW2_13)), (tS, .inl (cI, 5, .inl gS2_14)), (tK, .inl (cI, 6, .inl gK2_15)), (tP, .inl (cI, 6, .inl gP2_16)), (tT, .inl (cI, 6, .inl gT2_17)), (tH, .inl (cI, 6, .inl gH2_18)), (tU, .inl (cI, 6, .inl fU2_30)), (pr, .inl (cI, 3, .inl qf2_31))]) [0, 5, 6, 7, 8, 9, 10, 11, 12, 13, 1, 2, 3, 14, 4, 15, 16, 17] (by decide) rfl
                exact wt_iret hx hb hr hlocks hP9 hD9 hS ⟨gW2_13, gS2_14, gK2_15, gP2_16, gT2_17, gH2_18, fU2_30, qf2_31, fr, co, (nI R), (nI T), mi, rfl⟩ dX5_pours_92
            · skip
              refine lv_iload hx hb dX5_pours_70 (lv_at hl 0 rfl) ?_
              refine lv_goto (tgt := 92) hx hb dX5_pours_72 (by decide) ?_
              have hP9 := hP.sub (ws' := [(x, .inr (5, [vx_0, vx_1, .ref ho, .ref th, vx_4, vx_5, .ref pr, vx_7, vx_8, vx_9])), (ho, .inr (0, [.int fr, .int co, .int (nI R), .int (nI T), .int mi, .ref aW, .ref aS, .ref aK, .ref aP, .ref aT, .ref aH, .ref aU])), (aW, .inl (cI, 5, .inl fW)), (aS, .inl (cI, 5, .inl fS)), (aK, .inl (cI, 6, .inl fK)), (aP, .inl (cI, 6, .inl fP)), (aT, .inl (cI, 6, .inl fT)), (aH, .inl (cI, 6, .inl fH)), (aU, .inl (cI, 6, .inl fU)), (th, .inr (0, [.int fr, .int co, .int (nI R), .int (nI T), .int mi, .ref tW, .ref tS, .ref tK, .ref tP, .ref tT, .ref tH, .ref tU])), (tW, .inl (cI, 5, .inl gW2_13)), (tS, .inl (cI, 5, .inl gS2_14)), (tK, .inl (cI, 6, .inl gK2_15)), (tP, .inl (cI, 6, .inl gP2_16)), (tT, .inl (cI, 6, .inl gT2_17)), (tH, .inl (cI, 6, .inl gH2_18)), (tU, .inl (cI, 6, .inl fU2_30)), (pr, .inl (cI, 3, .inl qf2_31))]) [0, 5, 6, 7, 8, 9, 10, 11, 12, 13, 1, 2, 3, 14, 4, 15, 16, 17] rfl
              have hD9 := hD.sub (ws' := [(x, .inr (5, [vx_0, vx_1, .ref ho, .ref th, vx_4, vx_5, .ref pr, vx_7, vx_8, vx_9])), (ho, .inr (0, [.int fr, .int co, .int (nI R), .int (nI T), .int mi, .ref aW, .ref aS, .ref aK, .ref aP, .ref aT, .ref aH, .ref aU])), (aW, .inl (cI, 5, .inl fW)), (aS, .inl (cI, 5, .inl fS)), (aK, .inl (cI, 6, .inl fK)), (aP, .inl (cI, 6, .inl fP)), (aT, .inl (cI, 6, .inl fT)), (aH, .inl (cI, 6, .inl fH)), (aU, .inl (cI, 6, .inl fU)), (th, .inr (0, [.int fr, .int co, .int (nI R), .int (nI T), .int mi, .ref tW, .ref tS, .ref tK, .ref tP, .ref tT, .ref tH, .ref tU])), (tW, .inl (cI, 5, .inl gW2_13)), (tS, .inl (cI, 5, .inl gS2_14)), (tK, .inl (cI, 6, .inl gK2_15)), (tP, .inl (cI, 6, .inl gP2_16)), (tT, .inl (cI, 6, .inl gT2_17)), (tH, .inl (cI, 6, .inl gH2_18)), (tU, .inl (cI, 6, .inl fU2_30)), (pr, .inl (cI, 3, .inl qf2_31))]) [0, 5, 6, 7, 8, 9, 10, 11, 12, 13, 1, 2, 3, 14, 4, 15, 16, 17] (by decide) rfl
              exact wt_iret hx hb hr hlocks hP9 hD9 hS ⟨gW2_13, gS2_14, gK2_15, gP2_16, gT2_17, gH2_18, fU2_30, qf2_31, fr, co, (nI R), (nI T), mi, rfl⟩ dX5_pours_92
        · skip
          refine lv_iload_n hx hb dX5_pours_65 rfl (lv_at hl 4 rfl) ?_
          refine lv_iconst (v := (-1)) hx hb dX5_pours_66 (by decide) ?_
          refine lv_icmp_ne (tgt := 75) hx hb dX5_pours_67 (by decide) (fun c_54 => ?_) (fun c_54 => ?_)
          · skip
            refine lv_iload_n hx hb dX5_pours_75 rfl (lv_at hl 4 rfl) ?_
            refine lv_iload hx hb dX5_pours_76 (lv_at hl 0 rfl) ?_
            refine lv_icmp_ge (tgt := 90) hx hb dX5_pours_78 (by decide) (fun c_55 => ?_) (fun c_55 => ?_)
            · skip
              refine lv_ldc hx hb hown wc217 dX5_pours_90 ?_
              have hP9 := hP.sub (ws' := [(x, .inr (5, [vx_0, vx_1, .ref ho, .ref th, vx_4, vx_5, .ref pr, vx_7, vx_8, vx_9])), (ho, .inr (0, [.int fr, .int co, .int (nI R), .int (nI T), .int mi, .ref aW, .ref aS, .ref aK, .ref aP, .ref aT, .ref aH, .ref aU])), (aW, .inl (cI, 5, .inl fW)), (aS, .inl (cI, 5, .inl fS)), (aK, .inl (cI, 6, .inl fK)), (aP, .inl (cI, 6, .inl fP)), (aT, .inl (cI, 6, .inl fT)), (aH, .inl (cI, 6, .inl fH)), (aU, .inl (cI, 6, .inl fU)), (th, .inr (0, [.int fr, .int co, .int (nI R), .int (nI T), .int mi, .ref tW, .ref tS, .ref tK, .ref tP, .ref tT, .ref tH, .ref tU])), (tW, .inl (cI, 5, .inl gW2_13)), (tS, .inl (cI, 5, .inl gS2_14)), (tK, .inl (cI, 6, .inl gK2_15)), (tP, .inl (cI, 6, .inl gP2_16)), (tT, .inl (cI, 6, .inl gT2_17)), (tH, .inl (cI, 6, .inl gH2_18)), (tU, .inl (cI, 6, .inl fU2_24)), (pr, .inl (cI, 3, .inl qf2_25))]) [0, 5, 6, 7, 8, 9, 10, 11, 12, 13, 1, 2, 3, 14, 4, 15, 16, 17] rfl
              have hD9 := hD.sub (ws' := [(x, .inr (5, [vx_0, vx_1, .ref ho, .ref th, vx_4, vx_5, .ref pr, vx_7, vx_8, vx_9])), (ho, .inr (0, [.int fr, .int co, .int (nI R), .int (nI T), .int mi, .ref aW, .ref aS, .ref aK, .ref aP, .ref aT, .ref aH, .ref aU])), (aW, .inl (cI, 5, .inl fW)), (aS, .inl (cI, 5, .inl fS)), (aK, .inl (cI, 6, .inl fK)), (aP, .inl (cI, 6, .inl fP)), (aT, .inl (cI, 6, .inl fT)), (aH, .inl (cI, 6, .inl fH)), (aU, .inl (cI, 6, .inl fU)), (th, .inr (0, [.int fr, .int co, .int (nI R), .int (nI T), .int mi, .ref tW, .ref tS, .ref tK, .ref tP, .ref tT, .ref tH, .ref tU])), (tW, .inl (cI, 5, .inl gW2_13)), (tS, .inl (cI, 5, .inl gS2_14)), (tK, .inl (cI, 6, .inl gK2_15)), (tP, .inl (cI, 6, .inl gP2_16)), (tT, .inl (cI, 6, .inl gT2_17)), (tH, .inl (cI, 6, .inl gH2_18)), (tU, .inl (cI, 6, .inl fU2_24)), (pr, .inl (cI, 3, .inl qf2_25))]) [0, 5, 6, 7, 8, 9, 10, 11, 12, 13, 1, 2, 3, 14, 4, 15, 16, 17] (by decide) rfl
              exact wt_iret hx hb hr hlocks hP9 hD9 hS ⟨gW2_13, gS2_14, gK2_15, gP2_16, gT2_17, gH2_18, fU2_24, qf2_25, fr, co, (nI R), (nI T), mi, rfl⟩ dX5_pours_92
            · skip
              refine lv_aload_n hx hb dX5_pours_81 rfl (lv_at hl 1 rfl) ?_
              refine va_get (D := D) (ci := 5) (v := .ref pr) (C := RX5) (T := TX5) (N := 10) hx hb hts hi5 hown hK.1 hP 0 rfl rfl 6 (by decide) wf44 (fun _ h9 => h9) rfl dX5_pours_82 ?_
              refine lv_iload_n hx hb dX5_pours_85 rfl (lv_at hl 4 rfl) ?_
              refine va_iald hx hb hK.1 hP 17 0 rfl rfl (wt_ix3 (d := 0) c_9 c_54 c_55 (by decide)) dX5_pours_86 ?_
              refine lv_topi (fun ov_56 _ => ?_)
              refine lv_goto (tgt := 92) hx hb dX5_pours_87 (by decide) ?_
              have hP9 := hP.sub (ws' := [(x, .inr (5, [vx_0, vx_1, .ref ho, .ref th, vx_4, vx_5, .ref pr, vx_7, vx_8, vx_9])), (ho, .inr (0, [.int fr, .int co, .int (nI R), .int (nI T), .int mi, .ref aW, .ref aS, .ref aK, .ref aP, .ref aT, .ref aH, .ref aU])), (aW, .inl (cI, 5, .inl fW)), (aS, .inl (cI, 5, .inl fS)), (aK, .inl (cI, 6, .inl fK)), (aP, .inl (cI, 6, .inl fP)), (aT, .inl (cI, 6, .inl fT)), (aH, .inl (cI, 6, .inl fH)), (aU, .inl (cI, 6, .inl fU)), (th, .inr (0, [.int fr, .int co, .int (nI R), .int (nI T), .int mi, .ref tW, .ref tS, .ref tK, .ref tP, .ref tT, .ref tH, .ref tU])), (tW, .inl (cI, 5, .inl gW2_13)), (tS, .inl (cI, 5, .inl gS2_14)), (tK, .inl (cI, 6, .inl gK2_15)), (tP, .inl (cI, 6, .inl gP2_16)), (tT, .inl (cI, 6, .inl gT2_17)), (tH, .inl (cI, 6, .inl gH2_18)), (tU, .inl (cI, 6, .inl fU2_24)), (pr, .inl (cI, 3, .inl qf2_25))]) [0, 5, 6, 7, 8, 9, 10, 11, 12, 13, 1, 2, 3, 14, 4, 15, 16, 17] rfl
              have hD9 := hD.sub (ws' := [(x, .inr (5, [vx_0, vx_1, .ref ho, .ref th, vx_4, vx_5, .ref pr, vx_7, vx_8, vx_9])), (ho, .inr (0, [.int fr, .int co, .int (nI R), .int (nI T), .int mi, .ref aW, .ref aS, .ref aK, .ref aP, .ref aT, .ref aH, .ref aU])), (aW, .inl (cI, 5, .inl fW)), (aS, .inl (cI, 5, .inl fS)), (aK, .inl (cI, 6, .inl fK)), (aP, .inl (cI, 6, .inl fP)), (aT, .inl (cI, 6, .inl fT)), (aH, .inl (cI, 6, .inl fH)), (aU, .inl (cI, 6, .inl fU)), (th, .inr (0, [.int fr, .int co, .int (nI R), .int (nI T), .int mi, .ref tW, .ref tS, .ref tK, .ref tP, .ref tT, .ref tH, .ref tU])), (tW, .inl (cI, 5, .inl gW2_13)), (tS, .inl (cI, 5, .inl gS2_14)), (tK, .inl (cI, 6, .inl gK2_15)), (tP, .inl (cI, 6, .inl gP2_16)), (tT, .inl (cI, 6, .inl gT2_17)), (tH, .inl (cI, 6, .inl gH2_18)), (tU, .inl (cI, 6, .inl fU2_24)), (pr, .inl (cI, 3, .inl qf2_25))]) [0, 5, 6, 7, 8, 9, 10, 11, 12, 13, 1, 2, 3, 14, 4, 15, 16, 17] (by decide) rfl
              exact wt_iret hx hb hr hlocks hP9 hD9 hS ⟨gW2_13, gS2_14, gK2_15, gP2_16, gT2_17, gH2_18, fU2_24, qf2_25, fr, co, (nI R), (nI T), mi, rfl⟩ dX5_pours_92
          · skip
            refine lv_iload hx hb dX5_pours_70 (lv_at hl 0 rfl) ?_
            refine lv_goto (tgt := 92) hx hb dX5_pours_72 (by decide) ?_
            have hP9 := hP.sub (ws' := [(x, .inr (5, [vx_0, vx_1, .ref ho, .ref th, vx_4, vx_5, .ref pr, vx_7, vx_8, vx_9])), (ho, .inr (0, [.int fr, .int co, .int (nI R), .int (nI T), .int mi, .ref aW, .ref aS, .ref aK, .ref aP, .ref aT, .ref aH, .ref aU])), (aW, .inl (cI, 5, .inl fW)), (aS, .inl (cI, 5, .inl fS)), (aK, .inl (cI, 6, .inl fK)), (aP, .inl (cI, 6, .inl fP)), (aT, .inl (cI, 6, .inl fT)), (aH, .inl (cI, 6, .inl fH)), (aU, .inl (cI, 6, .inl fU)), (th, .inr (0, [.int fr, .int co, .int (nI R), .int (nI T), .int mi, .ref tW, .ref tS, .ref tK, .ref tP, .ref tT, .ref tH, .ref tU])), (tW, .inl (cI, 5, .inl gW2_13)), (tS, .inl (cI, 5, .inl gS2_14)), (tK, .inl (cI, 6, .inl gK2_15)), (tP, .inl (cI, 6, .inl gP2_16)), (tT, .inl (cI, 6, .inl gT2_17)), (tH, .inl (cI, 6, .inl gH2_18)), (tU, .inl (cI, 6, .inl fU2_24)), (pr, .inl (cI, 3, .inl qf2_25))]) [0, 5, 6, 7, 8, 9, 10, 11, 12, 13, 1, 2, 3, 14, 4, 15, 16, 17] rfl
            have hD9 := hD.sub (ws' := [(x, .inr (5, [vx_0, vx_1, .ref ho, .ref th, vx_4, vx_5, .ref pr, vx_7, vx_8, vx_9])), (ho, .inr (0, [.int fr, .int co, .int (nI R), .int (nI T), .int mi, .ref aW, .ref aS, .ref aK, .ref aP, .ref aT, .ref aH, .ref aU])), (aW, .inl (cI, 5, .inl fW)), (aS, .inl (cI, 5, .inl fS)), (aK, .inl (cI, 6, .inl fK)), (aP, .inl (cI, 6, .inl fP)), (aT, .inl (cI, 6, .inl fT)), (aH, .inl (cI, 6, .inl fH)), (aU, .inl (cI, 6, .inl fU)), (th, .inr (0, [.int fr, .int co, .int (nI R), .int (nI T), .int mi, .ref tW, .ref tS, .ref tK, .ref tP, .ref tT, .ref tH, .ref tU])), (tW, .inl (cI, 5, .inl gW2_13)), (tS, .inl (cI, 5, .inl gS2_14)), (tK, .inl (cI, 6, .inl gK2_15)), (tP, .inl (cI, 6, .inl gP2_16)), (tT, .inl (cI, 6, .inl gT2_17)), (tH, .inl (cI, 6, .inl gH2_18)), (tU, .inl (cI, 6, .inl fU2_24)), (pr, .inl (cI, 3, .inl qf2_25))]) [0, 5, 6, 7, 8, 9, 10, 11, 12, 13, 1, 2, 3, 14, 4, 15, 16, 17] (by decide) rfl
            exact wt_iret hx hb hr hlocks hP9 hD9 hS ⟨gW2_13, gS2_14, gK2_15, gP2_16, gT2_17, gH2_18, fU2_24, qf2_25, fr, co, (nI R), (nI T), mi, rfl⟩ dX5_pours_92
      · skip
        refine lv_ldc hx hb hown wc70 dX5_pours_23 ?_
        have hP9 := hP.sub (ws' := [(x, .inr (5, [vx_0, vx_1, .ref ho, .ref th, vx_4, vx_5, .ref pr, vx_7, vx_8, vx_9])), (ho, .inr (0, [.int fr, .int co, .int (nI R), .int (nI T), .int mi, .ref aW, .ref aS, .ref aK, .ref aP, .ref aT, .ref aH, .ref aU])), (aW, .inl (cI, 5, .inl fW)), (aS, .inl (cI, 5, .inl fS)), (aK, .inl (cI, 6, .inl fK)), (aP, .inl (cI, 6, .inl fP)), (aT, .inl (cI, 6, .inl fT)), (aH, .inl (cI, 6, .inl fH)), (aU, .inl (cI, 6, .inl fU)), (th, .inr (0, [.int t0, .int t1, .int t2, .int t3, .int t4, .ref tW, .ref tS, .ref tK, .ref tP, .ref tT, .ref tH, .ref tU])), (tW, .inl (cI, 5, .inl eW)), (tS, .inl (cI, 5, .inl eS)), (tK, .inl (cI, 6, .inl eK)), (tP, .inl (cI, 6, .inl eP)), (tT, .inl (cI, 6, .inl eT)), (tH, .inl (cI, 6, .inl eH)), (tU, .inl (cI, 6, .inl eU)), (pr, .inl (cI, 3, .inl qf))]) [0, 1, 2, 3, 4, 5, 6, 7, 8, 9, 10, 11, 12, 13, 14, 15, 16, 17] rfl
        have hD9 := hD.sub (ws' := [(x, .inr (5, [vx_0, vx_1, .ref ho, .ref th, vx_4, vx_5, .ref pr, vx_7, vx_8, vx_9])), (ho, .inr (0, [.int fr, .int co, .int (nI R), .int (nI T), .int mi, .ref aW, .ref aS, .ref aK, .ref aP, .ref aT, .ref aH, .ref aU])), (aW, .inl (cI, 5, .inl fW)), (aS, .inl (cI, 5, .inl fS)), (aK, .inl (cI, 6, .inl fK)), (aP, .inl (cI, 6, .inl fP)), (aT, .inl (cI, 6, .inl fT)), (aH, .inl (cI, 6, .inl fH)), (aU, .inl (cI, 6, .inl fU)), (th, .inr (0, [.int t0, .int t1, .int t2, .int t3, .int t4, .ref tW, .ref tS, .ref tK, .ref tP, .ref tT, .ref tH, .ref tU])), (tW, .inl (cI, 5, .inl eW)), (tS, .inl (cI, 5, .inl eS)), (tK, .inl (cI, 6, .inl eK)), (tP, .inl (cI, 6, .inl eP)), (tT, .inl (cI, 6, .inl eT)), (tH, .inl (cI, 6, .inl eH)), (tU, .inl (cI, 6, .inl eU)), (pr, .inl (cI, 3, .inl qf))]) [0, 1, 2, 3, 4, 5, 6, 7, 8, 9, 10, 11, 12, 13, 14, 15, 16, 17] (by decide) rfl
        exact wt_iret hx hb hr hlocks hP9 hD9 hS ⟨eW, eS, eK, eP, eT, eH, eU, qf, t0, t1, t2, t3, t4, rfl⟩ dX5_pours_25
set_option maxHeartbeats 4000000 in
set_option maxRecDepth 100000 in
theorem c_X4_leave (l : Launch) (D : va_G) (cI cZ cH : ClassId) (tr bg tc : Nat) (gf : Nat → Int32) (k : Int32) (htc : tc ≤ 16) : wt_M l yX4_leave wsX4_leave ({ frames := 0, cells := 0, slots := 0, locals := 0 } : Room) D (wt_T cI cZ cH) [.ref tr, .int k] [(tr, .inr (4, [.ref bg, .int (nI tc)])), (bg, .inl (cI, 16, .inl gf))] (wt_QV D (fun w => ∃ (gf2 : Nat → Int32) (tc2 : Nat), w = [(tr, .inr (4, [.ref bg, .int (nI tc2)])), (bg, .inl (cI, 16, .inl gf2))] ∧ tc2 ≤ 16)) := by
  refine wt_M.ofW (cc := cX4_leave) (maxL := 2) (ret := none) (by decide) rfl (Nat.le_of_ble_eq_true rfl) ?_
  intro p e s m below meth c A ls hx hb hr hts hown hlocks hml hnm hP hK hD hA hS hl
  have hP : va_P D vwCl [(tr, .inr (4, [.ref bg, .int (nI tc)])), (bg, .inl (cI, 16, .inl gf))] s.heap := hP
  have hown : s.vm.findClass RX4 = some m.cls := hown
  have hl : lv_has ls 2 [(0, .ref tr), (1, .int k)] := hl
  have hi4 : ∀ w ∈ u_ws RX4 TX4 2, w ∈ wsX4_leave := by decide +kernel
  have wf13 := hts (.fieldLink RX4 13 "WarmTubes$Trace" "length" "I") (by decide +kernel)
  have wf9 := hts (.fieldLink RX4 9 "WarmTubes$Trace" "begun" "[I") (by decide +kernel)
  refine lv_aload_n hx hb dX4_leave_0 rfl (lv_at hl 0 rfl) ?_
  refine va_get (D := D) (ci := 4) (v := .int (nI tc)) (C := RX4) (T := TX4) (N := 2) hx hb hts hi4 hown hK.1 hP 0 rfl rfl 1 (by decide) wf13 (fun _ h9 => h9) rfl dX4_leave_1 ?_
  refine lv_bipush (v := 16) hx hb dX4_leave_4 (by decide) ?_
  refine lv_icmp_ge (tgt := 29) hx hb dX4_leave_6 (by decide) (fun c_1 => ?_) (fun c_1 => ?_)
  · skip
    have c_1 : 16 ≤ tc := (nI_leI (a := 16) (b := tc) (by omega) (by omega)).mp c_1
    have hP9 := hP.sub (ws' := [(tr, .inr (4, [.ref bg, .int (nI tc)])), (bg, .inl (cI, 16, .inl gf))]) [0, 1] rfl
    have hD9 := hD.sub (ws' := [(tr, .inr (4, [.ref bg, .int (nI tc)])), (bg, .inl (cI, 16, .inl gf))]) [0, 1] (by decide) rfl
    exact wt_vret hx hb hr hlocks hP9 hD9 hS ⟨gf, tc, rfl, (by omega)⟩ dX4_leave_29
  · skip
    have c_1 : ¬ (16 ≤ tc) := fun h => c_1 ((nI_leI (a := 16) (b := tc) (by omega) (by omega)).mpr h)
    refine lv_aload_n hx hb dX4_leave_9 rfl (lv_at hl 0 rfl) ?_
    refine va_get (D := D) (ci := 4) (v := .ref bg) (C := RX4) (T := TX4) (N := 2) hx hb hts hi4 hown hK.1 hP 0 rfl rfl 0 (by decide) wf9 (fun _ h9 => h9) rfl dX4_leave_10 ?_
    refine lv_aload_n hx hb dX4_leave_13 rfl (lv_at hl 0 rfl) ?_
    refine va_get (D := D) (ci := 4) (v := .int (nI tc)) (C := RX4) (T := TX4) (N := 2) hx hb hts hi4 hown hK.1 hP 0 rfl rfl 1 (by decide) wf13 (fun _ h9 => h9) rfl dX4_leave_14 ?_
    refine lv_iload_n hx hb dX4_leave_17 rfl (lv_at hl 1 rfl) ?_
    refine va_iast hx hb hK.1 hP hD hS 1 0 rfl rfl (vp_in_nI (by omega) (by omega)) dX4_leave_18 (fun H locs hP hD hS => ?_)
    have hP : va_P D vwCl [(tr, .inr (4, [.ref bg, .int (nI tc)])), (bg, .inl (cI, 16, .inl (upd gf ((nI tc).toNatClampNeg) k)))] H := hP
    have hD : va_D A [(tr, .inr (4, [.ref bg, .int (nI tc)])), (bg, .inl (cI, 16, .inl (upd gf ((nI tc).toNatClampNeg) k)))] := hD
    generalize upd gf ((nI tc).toNatClampNeg) k = gf_2 at hP hD
    refine lv_aload_n hx hb dX4_leave_19 rfl (lv_at hl 0 rfl) ?_
    refine lv_dup hx hb dX4_leave_20 rfl ?_
    refine va_get (D := D) (ci := 4) (v := .int (nI tc)) (C := RX4) (T := TX4) (N := 2) hx hb hts hi4 hown hK.1 hP 0 rfl rfl 1 (by decide) wf13 (fun _ h9 => h9) rfl dX4_leave_21 ?_
    refine lv_iconst (v := 1) hx hb dX4_leave_24 (by decide) ?_
    refine lv_iadd hx hb dX4_leave_25 ?_
    refine wt_top (z := nI (tc + 1)) (nI_add tc 1) ?_
    refine va_put (D := D) (ci := 4) (v := .int (nI (tc + 1))) (ty := .int) (C := RX4) (T := TX4) (N := 2) hx hb hts hi4 tyX4 tyX4_ok nmX4 hown hK.1 hP hD hS 0 rfl rfl 1 (by decide) wf13 (fun _ h9 => h9) rfl (by decide +kernel) rfl rfl (Nat.le_of_ble_eq_true rfl) dX4_leave_26 (fun H locs hP hD hS => ?_)
    have hP : va_P D vwCl [(tr, .inr (4, [.ref bg, .int (nI (tc + 1))])), (bg, .inl (cI, 16, .inl gf_2))] H := hP
    have hD : va_D A [(tr, .inr (4, [.ref bg, .int (nI (tc + 1))])), (bg, .inl (cI, 16, .inl gf_2))] := hD
    have hP9 := hP.sub (ws' := [(tr, .inr (4, [.ref bg, .int (nI (tc + 1))])), (bg, .inl (cI, 16, .inl gf_2))]) [0, 1] rfl
    have hD9 := hD.sub (ws' := [(tr, .inr (4, [.ref bg, .int (nI (tc + 1))])), (bg, .inl (cI, 16, .inl gf_2))]) [0, 1] (by decide) rfl
    exact wt_vret hx hb hr hlocks hP9 hD9 hS ⟨gf_2, (tc + 1), rfl, (by omega)⟩ dX4_leave_29

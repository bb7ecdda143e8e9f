set_option maxHeartbeats 4000000 in
set_option maxRecDepth 100000 in
theorem c_X0_isCold (l : Launch) (D : va_G) (cI cZ cH : ClassId) (ho aW : Nat) (R q : Nat) (co : Int32) (fW : Nat → Int32) (vz_0 vz_3 vz_4 vz_6 vz_7 vz_8 vz_9 vz_10 vz_11 : Value) (hR5 : R ≤ 5) (hq5 : q ≤ 5) : wt_R l yX0_isCold wsX0_isCold ({ frames := 0, cells := 0, slots := 0, locals := 0 } : Room) D (wt_T cI cZ cH) [.ref ho, .int (nI q)] [(ho, .inr (0, [vz_0, .int co, .int (nI R), vz_3, vz_4, .ref aW, vz_6, vz_7, vz_8, vz_9, vz_10, vz_11])), (aW, .inl (cI, 5, .inl fW))] (vp_Si (fun r => True)) := by
  refine wt_R.ofW (cc := cX0_isCold) (maxL := 2) (ret := (some .boolean)) (by decide) rfl (Nat.le_of_ble_eq_true rfl) ?_
  intro p e s m below meth c ls hx hb hr hts hown hlocks hml hP hK hl
  have hown : s.vm.findClass RX0 = some m.cls := hown
  have hl : lv_has ls 2 [(0, .ref ho), (1, .int (nI q))] := hl
  have hi0 : ∀ w ∈ u_ws RX0 TX0 12, w ∈ wsX0_isCold := by decide +kernel
  have wf15 := hts (.fieldLink RX0 15 "WarmTubes$House" "cold" "I") (by decide +kernel)
  have wf18 := hts (.fieldLink RX0 18 "WarmTubes$House" "rooms" "I") (by decide +kernel)
  have wf27 := hts (.fieldLink RX0 27 "WarmTubes$House" "warmth" "[I") (by decide +kernel)
  refine lv_iload_n hx hb dX0_isCold_0 rfl (lv_at hl 1 rfl) ?_
  refine lv_aload_n hx hb dX0_isCold_1 rfl (lv_at hl 0 rfl) ?_
  refine va_get (D := D) (ci := 0) (v := .int (nI R)) (C := RX0) (T := TX0) (N := 12) hx hb hts hi0 hown hK.1 hP 0 rfl rfl 2 (by decide) wf18 (fun _ h9 => h9) rfl dX0_isCold_2 ?_
  refine lv_icmp_ge (tgt := 21) hx hb dX0_isCold_5 (by decide) (fun c_1 => ?_) (fun c_1 => ?_)
  · skip
    have c_1 : R ≤ q := (nI_leI (a := R) (b := q) (by omega) (by omega)).mp c_1
    refine lv_iconst (v := 1) hx hb dX0_isCold_21 (by decide) ?_
    refine lv_goto (tgt := 26) hx hb dX0_isCold_22 (by decide) ?_
    exact wt_szret hx hb hr hlocks (by decide) (by trivial) dX0_isCold_26
  · skip
    have c_1 : ¬ (R ≤ q) := fun h => c_1 ((nI_leI (a := R) (b := q) (by omega) (by omega)).mpr h)
    refine lv_aload_n hx hb dX0_isCold_8 rfl (lv_at hl 0 rfl) ?_
    refine va_get (D := D) (ci := 0) (v := .ref aW) (C := RX0) (T := TX0) (N := 12) hx hb hts hi0 hown hK.1 hP 0 rfl rfl 5 (by decide) wf27 (fun _ h9 => h9) rfl dX0_isCold_9 ?_
    refine lv_iload_n hx hb dX0_isCold_12 rfl (lv_at hl 1 rfl) ?_
    refine va_iald hx hb hK.1 hP 1 0 rfl rfl (vp_in_nI (by omega) (by omega)) dX0_isCold_13 ?_
    refine lv_topi (fun ov_2 _ => ?_)
    refine lv_aload_n hx hb dX0_isCold_14 rfl (lv_at hl 0 rfl) ?_
    refine va_get (D := D) (ci := 0) (v := .int co) (C := RX0) (T := TX0) (N := 12) hx hb hts hi0 hown hK.1 hP 0 rfl rfl 1 (by decide) wf15 (fun _ h9 => h9) rfl dX0_isCold_15 ?_
    refine lv_icmp_gt (tgt := 25) hx hb dX0_isCold_18 (by decide) (fun c_3 => ?_) (fun c_3 => ?_)
    · skip
      refine lv_iconst (v := 0) hx hb dX0_isCold_25 (by decide) ?_
      exact wt_szret hx hb hr hlocks (by decide) (by trivial) dX0_isCold_26
    · skip
      refine lv_iconst (v := 1) hx hb dX0_isCold_21 (by decide) ?_
      refine lv_goto (tgt := 26) hx hb dX0_isCold_22 (by decide) ?_
      exact wt_szret hx hb hr hlocks (by decide) (by trivial) dX0_isCold_26
set_option maxHeartbeats 4000000 in
set_option maxRecDepth 100000 in
theorem c_X0_coldRooms (l : Launch) (D : va_G) (cI cZ cH : ClassId) (ho aW : Nat) (R : Nat) (co : Int32) (fW : Nat → Int32) (vz_0 vz_3 vz_4 vz_6 vz_7 vz_8 vz_9 vz_10 vz_11 : Value) (hR5 : R ≤ 5) : wt_R l yX0_coldRooms wsX0_coldRooms ({ frames := 0, cells := 0, slots := 0, locals := 0 } : Room) D (wt_T cI cZ cH) [.ref ho] [(ho, .inr (0, [vz_0, .int co, .int (nI R), vz_3, vz_4, .ref aW, vz_6, vz_7, vz_8, vz_9, vz_10, vz_11])), (aW, .inl (cI, 5, .inl fW))] (vp_Si (fun r => True)) := by
  refine wt_R.ofW (cc := cX0_coldRooms) (maxL := 3) (ret := (some .int)) (by decide) rfl (Nat.le_of_ble_eq_true rfl) ?_
  intro p e s m below meth c ls hx hb hr hts hown hlocks hml hP hK hl
  have hown : s.vm.findClass RX0 = some m.cls := hown
  have hl : lv_has ls 3 [(0, .ref ho)] := hl
  have hi0 : ∀ w ∈ u_ws RX0 TX0 12, w ∈ wsX0_coldRooms := by decide +kernel
  have wf15 := hts (.fieldLink RX0 15 "WarmTubes$House" "cold" "I") (by decide +kernel)
  have wf18 := hts (.fieldLink RX0 18 "WarmTubes$House" "rooms" "I") (by decide +kernel)
  have wf27 := hts (.fieldLink RX0 27 "WarmTubes$House" "warmth" "[I") (by decide +kernel)
  refine lv_iconst (v := 0) hx hb dX0_coldRooms_0 (by decide) ?_
  refine lv_istore_n (lv' := [(1, .int 0), (0, .ref ho)]) hx hb dX0_coldRooms_1 rfl hl (by decide) rfl (fun ls hl => ?_)
  refine lv_iconst (v := 0) hx hb dX0_coldRooms_2 (by decide) ?_
  refine lv_istore_n (lv' := [(2, .int 0), (1, .int 0), (0, .ref ho)]) hx hb dX0_coldRooms_3 rfl hl (by decide) rfl (fun ls hl => ?_)
  have loop4 : ∀ (k i_1 : Nat) (y_2 : Int32) (ls : Array Slot), i_1 + k = R → lv_has ls 3 [(2, .int (nI i_1)), (1, .int y_2), (0, .ref ho)] → W p l e ({ frames := 0, cells := 0, slots := 0, locals := 0 } : Room) s m ([.ref ho] : List Value).toArray below meth c s.heap [] 0 0 (MQ below (vp_Si (fun r => True)) ([.ref ho] : List Value).toArray s 0 0 (fun _ => False)) (F0 m 4 ls []) := by
    intro k
    induction k with
    | zero =>
      intro i_1 y_2 ls hik  hl
      refine lv_iload_n hx hb dX0_coldRooms_4 rfl (lv_at hl 0 rfl) ?_
      refine lv_aload_n hx hb dX0_coldRooms_5 rfl (lv_at hl 2 rfl) ?_
      refine va_get (D := D) (ci := 0) (v := .int (nI R)) (C := RX0) (T := TX0) (N := 12) hx hb hts hi0 hown hK.1 hP 0 rfl rfl 2 (by decide) wf18 (fun _ h9 => h9) rfl dX0_coldRooms_6 ?_
      refine lv_icmp_ge (tgt := 37) hx hb dX0_coldRooms_9 (by decide) (fun _ => ?_) (fun h => absurd (nI_le (a := R) (b := i_1) (by omega) (by omega)) h)
      refine lv_iload_n hx hb dX0_coldRooms_37 rfl (lv_at hl 1 rfl) ?_
      exact wt_siret hx hb hr hlocks (by trivial) dX0_coldRooms_38
    | succ k ih =>
      intro i_1 y_2 ls hik  hl
      refine lv_iload_n hx hb dX0_coldRooms_4 rfl (lv_at hl 0 rfl) ?_
      refine lv_aload_n hx hb dX0_coldRooms_5 rfl (lv_at hl 2 rfl) ?_
      refine va_get (D := D) (ci := 0) (v := .int (nI R)) (C := RX0) (T := TX0) (N := 12) hx hb hts hi0 hown hK.1 hP 0 rfl rfl 2 (by decide) wf18 (fun _ h9 => h9) rfl dX0_coldRooms_6 ?_
      refine lv_icmp_ge (tgt := 37) hx hb dX0_coldRooms_9 (by decide) (fun h => absurd h (nI_ge (a := i_1) (b := R) (by omega) (by omega))) (fun _ => ?_)
      refine lv_aload_n hx hb dX0_coldRooms_12 rfl (lv_at hl 2 rfl) ?_
      refine va_get (D := D) (ci := 0) (v := .ref aW) (C := RX0) (T := TX0) (N := 12) hx hb hts hi0 hown hK.1 hP 0 rfl rfl 5 (by decide) wf27 (fun _ h9 => h9) rfl dX0_coldRooms_13 ?_
      refine lv_iload_n hx hb dX0_coldRooms_16 rfl (lv_at hl 0 rfl) ?_
      refine va_iald hx hb hK.1 hP 1 0 rfl rfl (vp_in_nI (by omega) (by omega)) dX0_coldRooms_17 ?_
      refine lv_topi (fun ov_3 _ => ?_)
      refine lv_aload_n hx hb dX0_coldRooms_18 rfl (lv_at hl 2 rfl) ?_
      refine va_get (D := D) (ci := 0) (v := .int co) (C := RX0) (T := TX0) (N := 12) hx hb hts hi0 hown hK.1 hP 0 rfl rfl 1 (by decide) wf15 (fun _ h9 => h9) rfl dX0_coldRooms_19 ?_
      refine lv_icmp_gt (tgt := 31) hx hb dX0_coldRooms_22 (by decide) (fun c_4 => ?_) (fun c_4 => ?_)
      · skip
        refine lv_iinc (v := nI (i_1 + 1)) (lv' := [(2, .int (nI (i_1 + 1))), (1, .int y_2), (0, .ref ho)]) hx hb dX0_coldRooms_31 hl (k := 0) rfl (nI_add i_1 1) (by decide) rfl (fun ls hl => ?_)
        refine lv_goto (tgt := 4) hx hb dX0_coldRooms_34 (by decide) ?_
        exact ih ((i_1 + 1)) y_2 ls (by omega)  (lv_sub hl [0, 1, 2] rfl)
      · skip
        refine lv_iload_n hx hb dX0_coldRooms_25 rfl (lv_at hl 1 rfl) ?_
        refine lv_iconst (v := 1) hx hb dX0_coldRooms_26 (by decide) ?_
        refine lv_iload_n hx hb dX0_coldRooms_27 rfl (lv_at hl 0 rfl) ?_
        refine lv_ishl hx hb dX0_coldRooms_28 ?_
        refine wt_top (z := nI (2 ^ i_1)) (wt_shl1 (by omega)) ?_
        refine lv_ior hx hb dX0_coldRooms_29 ?_
        refine lv_topi (fun ov_5 _ => ?_)
        refine lv_istore_n (lv' := [(1, .int ov_5), (2, .int (nI i_1)), (0, .ref ho)]) hx hb dX0_coldRooms_30 rfl hl (by decide) rfl (fun ls hl => ?_)
        refine lv_iinc (v := nI (i_1 + 1)) (lv' := [(2, .int (nI (i_1 + 1))), (1, .int ov_5), (0, .ref ho)]) hx hb dX0_coldRooms_31 hl (k := 1) rfl (nI_add i_1 1) (by decide) rfl (fun ls hl => ?_)
        refine lv_goto (tgt := 4) hx hb dX0_coldRooms_34 (by decide) ?_
        exact ih ((i_1 + 1)) ov_5 ls (by omega)  (lv_sub hl [0, 1, 2] rfl)
  exact loop4 (R - 0) (0) 0 ls (by omega)  hl
set_option maxHeartbeats 4000000 in
set_option maxRecDepth 100000 in
theorem c_X0_tubesAt (l : Launch) (D : va_G) (cI cZ cH : ClassId) (ho aP : Nat) (T : Nat) (fP : Nat → Int32) (pl : Int32) (vz_0 vz_1 vz_2 vz_4 vz_5 vz_6 vz_7 vz_9 vz_10 vz_11 : Value) (hT6 : T ≤ 6) : wt_R l yX0_tubesAt wsX0_tubesAt ({ frames := 0, cells := 0, slots := 0, locals := 0 } : Room) D (wt_T cI cZ cH) [.ref ho, .int pl] [(ho, .inr (0, [vz_0, vz_1, vz_2, .int (nI T), vz_4, vz_5, vz_6, vz_7, .ref aP, vz_9, vz_10, vz_11])), (aP, .inl (cI, 6, .inl fP))] (vp_Si (fun r => ∃ b : Nat, b < 64 ∧ r = nI b)) := by
  refine wt_R.ofW (cc := cX0_tubesAt) (maxL := 4) (ret := (some .int)) (by decide) rfl (Nat.le_of_ble_eq_true rfl) ?_
  intro p e s m below meth c ls hx hb hr hts hown hlocks hml hP hK hl
  have hown : s.vm.findClass RX0 = some m.cls := hown
  have hl : lv_has ls 4 [(0, .ref ho), (1, .int pl)] := hl
  have hi0 : ∀ w ∈ u_ws RX0 TX0 12, w ∈ wsX0_tubesAt := by decide +kernel
  have wf21 := hts (.fieldLink RX0 21 "WarmTubes$House" "tubes" "I") (by decide +kernel)
  have wf37 := hts (.fieldLink RX0 37 "WarmTubes$House" "where" "[I") (by decide +kernel)
  refine lv_iconst (v := 0) hx hb dX0_tubesAt_0 (by decide) ?_
  refine lv_istore_n (lv' := [(2, .int 0), (0, .ref ho), (1, .int pl)]) hx hb dX0_tubesAt_1 rfl hl (by decide) rfl (fun ls hl => ?_)
  refine lv_iconst (v := 0) hx hb dX0_tubesAt_2 (by decide) ?_
  refine lv_istore_n (lv' := [(3, .int 0), (2, .int 0), (0, .ref ho), (1, .int pl)]) hx hb dX0_tubesAt_3 rfl hl (by decide) rfl (fun ls hl => ?_)
  have loop4 : ∀ (k i_1 : Nat) (n_2 : Nat) (ls : Array Slot), i_1 + k = T → (n_2 < 64) → lv_has ls 4 [(3, .int (nI i_1)), (2, .int (nI n_2)), (0, .ref ho), (1, .int pl)] → W p l e ({ frames := 0, cells := 0, slots := 0, locals := 0 } : Room) s m ([.ref ho, .int pl] : List Value).toArray below meth c s.heap [] 0 0 (MQ below (vp_Si (fun r => ∃ b : Nat, b < 64 ∧ r = nI b)) ([.ref ho, .int pl] : List Value).toArray s 0 0 (fun _ => False)) (F0 m 4 ls []) := by
    intro k
    induction k with
    | zero =>
      intro i_1 n_2 ls hik hn2 hl
      refine lv_iload_n hx hb dX0_tubesAt_4 rfl (lv_at hl 0 rfl) ?_
      refine lv_aload_n hx hb dX0_tubesAt_5 rfl (lv_at hl 2 rfl) ?_
      refine va_get (D := D) (ci := 0) (v := .int (nI T)) (C := RX0) (T := TX0) (N := 12) hx hb hts hi0 hown hK.1 hP 0 rfl rfl 3 (by decide) wf21 (fun _ h9 => h9) rfl dX0_tubesAt_6 ?_
      refine lv_icmp_ge (tgt := 34) hx hb dX0_tubesAt_9 (by decide) (fun _ => ?_) (fun h => absurd (nI_le (a := T) (b := i_1) (by omega) (by omega)) h)
      refine lv_iload_n hx hb dX0_tubesAt_34 rfl (lv_at hl 1 rfl) ?_
      exact wt_siret hx hb hr hlocks (by exact ⟨n_2, by omega, rfl⟩) dX0_tubesAt_35
    | succ k ih =>
      intro i_1 n_2 ls hik hn2 hl
      refine lv_iload_n hx hb dX0_tubesAt_4 rfl (lv_at hl 0 rfl) ?_
      refine lv_aload_n hx hb dX0_tubesAt_5 rfl (lv_at hl 2 rfl) ?_
      refine va_get (D := D) (ci := 0) (v := .int (nI T)) (C := RX0) (T := TX0) (N := 12) hx hb hts hi0 hown hK.1 hP 0 rfl rfl 3 (by decide) wf21 (fun _ h9 => h9) rfl dX0_tubesAt_6 ?_
      refine lv_icmp_ge (tgt := 34) hx hb dX0_tubesAt_9 (by decide) (fun h => absurd h (nI_ge (a := i_1) (b := T) (by omega) (by omega))) (fun _ => ?_)
      refine lv_aload_n hx hb dX0_tubesAt_12 rfl (lv_at hl 2 rfl) ?_
      refine va_get (D := D) (ci := 0) (v := .ref aP) (C := RX0) (T := TX0) (N := 12) hx hb hts hi0 hown hK.1 hP 0 rfl rfl 8 (by decide) wf37 (fun _ h9 => h9) rfl dX0_tubesAt_13 ?_
      refine lv_iload_n hx hb dX0_tubesAt_16 rfl (lv_at hl 0 rfl) ?_
      refine va_iald hx hb hK.1 hP 1 0 rfl rfl (vp_in_nI (by omega) (by omega)) dX0_tubesAt_17 ?_
      refine lv_topi (fun ov_3 _ => ?_)
      refine lv_iload_n hx hb dX0_tubesAt_18 rfl (lv_at hl 3 rfl) ?_
      refine lv_icmp_ne (tgt := 28) hx hb dX0_tubesAt_19 (by decide) (fun c_4 => ?_) (fun c_4 => ?_)
      · skip
        refine lv_iinc (v := nI (i_1 + 1)) (lv' := [(3, .int (nI (i_1 + 1))), (2, .int (nI n_2)), (0, .ref ho), (1, .int pl)]) hx hb dX0_tubesAt_28 hl (k := 0) rfl (nI_add i_1 1) (by decide) rfl (fun ls hl => ?_)
        refine lv_goto (tgt := 4) hx hb dX0_tubesAt_31 (by decide) ?_
        exact ih ((i_1 + 1)) n_2 ls (by omega) (by first | omega | exact wt_or64 (by omega) (by omega)) (lv_sub hl [0, 1, 2, 3] rfl)
      · skip
        refine lv_iload_n hx hb dX0_tubesAt_22 rfl (lv_at hl 1 rfl) ?_
        refine lv_iconst (v := 1) hx hb dX0_tubesAt_23 (by decide) ?_
        refine lv_iload_n hx hb dX0_tubesAt_24 rfl (lv_at hl 0 rfl) ?_
        refine lv_ishl hx hb dX0_tubesAt_25 ?_
        refine wt_top (z := nI (2 ^ i_1)) (wt_shl1 (by omega)) ?_
        refine lv_ior hx hb dX0_tubesAt_26 ?_
        refine wt_top (z := nI (n_2 ||| (2 ^ i_1))) (wt_or n_2 (2 ^ i_1)) ?_
        refine lv_istore_n (lv' := [(2, .int (nI (n_2 ||| (2 ^ i_1)))), (3, .int (nI i_1)), (0, .ref ho), (1, .int pl)]) hx hb dX0_tubesAt_27 rfl hl (by decide) rfl (fun ls hl => ?_)
        refine lv_iinc (v := nI (i_1 + 1)) (lv' := [(3, .int (nI (i_1 + 1))), (2, .int (nI (n_2 ||| (2 ^ i_1)))), (0, .ref ho), (1, .int pl)]) hx hb dX0_tubesAt_28 hl (k := 1) rfl (nI_add i_1 1) (by decide) rfl (fun ls hl => ?_)
        refine lv_goto (tgt := 4) hx hb dX0_tubesAt_31 (by decide) ?_
        exact ih ((i_1 + 1)) (n_2 ||| (2 ^ i_1)) ls (by omega) (by first | omega | exact wt_or64 (by omega) (by omega)) (lv_sub hl [0, 1, 2, 3] rfl)
  exact loop4 (T - 0) (0) 0 ls (by omega) (by omega) hl
set_option maxHeartbeats 4000000 in
set_option maxRecDepth 100000 in
theorem c_X0_upIn (l : Launch) (D : va_G) (cI cZ cH : ClassId) (ho aU : Nat) (T : Nat) (fU : Nat → Int32) (set : Int32) (vz_0 vz_1 vz_2 vz_4 vz_5 vz_6 vz_7 vz_8 vz_9 vz_10 : Value) (hT6 : T ≤ 6) : wt_R l yX0_upIn wsX0_upIn ({ frames := 0, cells := 0, slots := 0, locals := 0 } : Room) D (wt_T cI cZ cH) [.ref ho, .int set] [(ho, .inr (0, [vz_0, vz_1, vz_2, .int (nI T), vz_4, vz_5, vz_6, vz_7, vz_8, vz_9, vz_10, .ref aU])), (aU, .inl (cI, 6, .inl fU))] (vp_Si (fun r => True)) := by
  refine wt_R.ofW (cc := cX0_upIn) (maxL := 4) (ret := (some .int)) (by decide) rfl (Nat.le_of_ble_eq_true rfl) ?_
  intro p e s m below meth c ls hx hb hr hts hown hlocks hml hP hK hl
  have hown : s.vm.findClass RX0 = some m.cls := hown
  have hl : lv_has ls 4 [(0, .ref ho), (1, .int set)] := hl
  have hi0 : ∀ w ∈ u_ws RX0 TX0 12, w ∈ wsX0_upIn := by decide +kernel
  have wf21 := hts (.fieldLink RX0 21 "WarmTubes$House" "tubes" "I") (by decide +kernel)
  have wf46 := hts (.fieldLink RX0 46 "WarmTubes$House" "up" "[I") (by decide +kernel)
  refine lv_iconst (v := 0) hx hb dX0_upIn_0 (by decide) ?_
  refine lv_istore_n (lv' := [(2, .int 0), (0, .ref ho), (1, .int set)]) hx hb dX0_upIn_1 rfl hl (by decide) rfl (fun ls hl => ?_)
  refine lv_iconst (v := 0) hx hb dX0_upIn_2 (by decide) ?_
  refine lv_istore_n (lv' := [(3, .int 0), (2, .int 0), (0, .ref ho), (1, .int set)]) hx hb dX0_upIn_3 rfl hl (by decide) rfl (fun ls hl => ?_)
  have loop4 : ∀ (k i_1 : Nat) (y_2 : Int32) (ls : Array Slot), i_1 + k = T → lv_has ls 4 [(3, .int (nI i_1)), (2, .int y_2), (0, .ref ho), (1, .int set)] → W p l e ({ frames := 0, cells := 0, slots := 0, locals := 0 } : Room) s m ([.ref ho, .int set] : List Value).toArray below meth c s.heap [] 0 0 (MQ below (vp_Si (fun r => True)) ([.ref ho, .int set] : List Value).toArray s 0 0 (fun _ => False)) (F0 m 4 ls []) := by
    intro k
    induction k with
    | zero =>
      intro i_1 y_2 ls hik  hl
      refine lv_iload_n hx hb dX0_upIn_4 rfl (lv_at hl 0 rfl) ?_
      refine lv_aload_n hx hb dX0_upIn_5 rfl (lv_at hl 2 rfl) ?_
      refine va_get (D := D) (ci := 0) (v := .int (nI T)) (C := RX0) (T := TX0) (N := 12) hx hb hts hi0 hown hK.1 hP 0 rfl rfl 3 (by decide) wf21 (fun _ h9 => h9) rfl dX0_upIn_6 ?_
      refine lv_icmp_ge (tgt := 35) hx hb dX0_upIn_9 (by decide) (fun _ => ?_) (fun h => absurd (nI_le (a := T) (b := i_1) (by omega) (by omega)) h)
      refine lv_iload_n hx hb dX0_upIn_35 rfl (lv_at hl 1 rfl) ?_
      exact wt_siret hx hb hr hlocks (by trivial) dX0_upIn_36
    | succ k ih =>
      intro i_1 y_2 ls hik  hl
      refine lv_iload_n hx hb dX0_upIn_4 rfl (lv_at hl 0 rfl) ?_
      refine lv_aload_n hx hb dX0_upIn_5 rfl (lv_at hl 2 rfl) ?_
      refine va_get (D := D) (ci := 0) (v := .int (nI T)) (C := RX0) (T := TX0) (N := 12) hx hb hts hi0 hown hK.1 hP 0 rfl rfl 3 (by decide) wf21 (fun _ h9 => h9) rfl dX0_upIn_6 ?_
      refine lv_icmp_ge (tgt := 35) hx hb dX0_upIn_9 (by decide) (fun h => absurd h (nI_ge (a := i_1) (b := T) (by omega) (by omega))) (fun _ => ?_)
      refine lv_iload_n hx hb dX0_upIn_12 rfl (lv_at hl 3 rfl) ?_
      refine lv_iload_n hx hb dX0_upIn_13 rfl (lv_at hl 0 rfl) ?_
      refine lv_ishr hx hb dX0_upIn_14 ?_
      refine lv_topi (fun ov_3 _ => ?_)
      refine lv_iconst (v := 1) hx hb dX0_upIn_15 (by decide) ?_
      refine lv_iand hx hb dX0_upIn_16 ?_
      refine lv_topi (fun ov_4 _ => ?_)
      refine lv_if_eq (tgt := 29) hx hb dX0_upIn_17 (by decide) (fun c_5 => ?_) (fun c_5 => ?_)
      · skip
        refine lv_iinc (v := nI (i_1 + 1)) (lv' := [(3, .int (nI (i_1 + 1))), (2, .int y_2), (0, .ref ho), (1, .int set)]) hx hb dX0_upIn_29 hl (k := 0) rfl (nI_add i_1 1) (by decide) rfl (fun ls hl => ?_)
        refine lv_goto (tgt := 4) hx hb dX0_upIn_32 (by decide) ?_
        exact ih ((i_1 + 1)) y_2 ls (by omega)  (lv_sub hl [0, 1, 2, 3] rfl)
      · skip
        refine lv_iload_n hx hb dX0_upIn_20 rfl (lv_at hl 1 rfl) ?_
        refine lv_aload_n hx hb dX0_upIn_21 rfl (lv_at hl 2 rfl) ?_
        refine va_get (D := D) (ci := 0) (v := .ref aU) (C := RX0) (T := TX0) (N := 12) hx hb hts hi0 hown hK.1 hP 0 rfl rfl 11 (by decide) wf46 (fun _ h9 => h9) rfl dX0_upIn_22 ?_
        refine lv_iload_n hx hb dX0_upIn_25 rfl (lv_at hl 0 rfl) ?_
        refine va_iald hx hb hK.1 hP 1 0 rfl rfl (vp_in_nI (by omega) (by omega)) dX0_upIn_26 ?_
        refine lv_topi (fun ov_6 _ => ?_)
        refine lv_iadd hx hb dX0_upIn_27 ?_
        refine lv_topi (fun ov_7 _ => ?_)
        refine lv_istore_n (lv' := [(2, .int ov_7), (3, .int (nI i_1)), (0, .ref ho), (1, .int set)]) hx hb dX0_upIn_28 rfl hl (by decide) rfl (fun ls hl => ?_)
        refine lv_iinc (v := nI (i_1 + 1)) (lv' := [(3, .int (nI (i_1 + 1))), (2, .int ov_7), (0, .ref ho), (1, .int set)]) hx hb dX0_upIn_29 hl (k := 1) rfl (nI_add i_1 1) (by decide) rfl (fun ls hl => ?_)
        refine lv_goto (tgt := 4) hx hb dX0_upIn_32 (by decide) ?_
        exact ih ((i_1 + 1)) ov_7 ls (by omega)  (lv_sub hl [0, 1, 2, 3] rfl)
  exact loop4 (T - 0) (0) 0 ls (by omega)  hl
set_option maxHeartbeats 4000000 in
set_option maxRecDepth 100000 in
theorem c_X0_all (l : Launch) (D : va_G) (cI cZ cH : ClassId) (ho aW aU : Nat) (R T : Nat) (fW fU : Nat → Int32) (vz_0 vz_1 vz_4 vz_6 vz_7 vz_8 vz_9 vz_10 : Value) (hR5 : R ≤ 5) (hT6 : T ≤ 6) : wt_R l yX0_all wsX0_all ({ frames := 1, cells := 0, slots := 0, locals := 23 } : Room) D (wt_T cI cZ cH) [.ref ho] [(ho, .inr (0, [vz_0, vz_1, .int (nI R), .int (nI T), vz_4, .ref aW, vz_6, vz_7, vz_8, vz_9, vz_10, .ref aU])), (aW, .inl (cI, 5, .inl fW)), (aU, .inl (cI, 6, .inl fU))] (vp_Si (fun r => True)) := by
  refine wt_R.ofW (cc := cX0_all) (maxL := 3) (ret := (some .int)) (by decide) rfl (Nat.le_of_ble_eq_true rfl) ?_
  intro p e s m below meth c ls hx hb hr hts hown hlocks hml hP hK hl
  have hown : s.vm.findClass RX0 = some m.cls := hown
  have hl : lv_has ls 3 [(0, .ref ho)] := hl
  have hi0 : ∀ w ∈ u_ws RX0 TX0 12, w ∈ wsX0_all := by decide +kernel
  have wf18 := hts (.fieldLink RX0 18 "WarmTubes$House" "rooms" "I") (by decide +kernel)
  have wf27 := hts (.fieldLink RX0 27 "WarmTubes$House" "warmth" "[I") (by decide +kernel)
  refine lv_aload_n hx hb dX0_all_0 rfl (lv_at hl 0 rfl) ?_
  refine lv_iconst (v := (-1)) hx hb dX0_all_1 (by decide) ?_
  refine wt_rV (As := [.int (-1)]) (rest := []) ⟨hx, hb, hml, hown, hts⟩ (c_X0_upIn l D cI cZ cH ho aU T fU (-1) vz_0 vz_1 (.int (nI R)) vz_4 (.ref aW) vz_6 vz_7 vz_8 vz_9 vz_10 (by first | assumption | omega)) (cwV 1 hts gX0_all_X0_upIn rfl rfl rfl (by decide +kernel) ⟨Nat.le_of_ble_eq_true rfl, Nat.le_of_ble_eq_true rfl⟩) hK hP [0, 2] rfl (va_recv hK.1 hP (ci := 0) (q0 := 0) rfl rfl) rfl hl.1 rfl (Nat.le_of_ble_eq_true rfl) dX0_all_2 ⟨Nat.le_of_ble_eq_true rfl, Nat.le_of_ble_eq_true rfl⟩ (fun r_1 e_2 => ?_)
  refine lv_istore_n (lv' := [(1, .int r_1), (0, .ref ho)]) hx hb dX0_all_5 rfl hl (by decide) rfl (fun ls hl => ?_)
  refine lv_iconst (v := 0) hx hb dX0_all_6 (by decide) ?_
  refine lv_istore_n (lv' := [(2, .int 0), (1, .int r_1), (0, .ref ho)]) hx hb dX0_all_7 rfl hl (by decide) rfl (fun ls hl => ?_)
  have loop8 : ∀ (k i_3 : Nat) (y_4 : Int32) (ls : Array Slot), i_3 + k = R → lv_has ls 3 [(2, .int (nI i_3)), (1, .int y_4), (0, .ref ho)] → W p l e ({ frames := 1, cells := 0, slots := 0, locals := 23 } : Room) s m ([.ref ho] : List Value).toArray below meth c s.heap [] 0 0 (MQ below (vp_Si (fun r => True)) ([.ref ho] : List Value).toArray s 0 0 (fun _ => False)) (F0 m 8 ls []) := by
    intro k
    induction k with
    | zero =>
      intro i_3 y_4 ls hik  hl
      refine lv_iload_n hx hb dX0_all_8 rfl (lv_at hl 0 rfl) ?_
      refine lv_aload_n hx hb dX0_all_9 rfl (lv_at hl 2 rfl) ?_
      refine va_get (D := D) (ci := 0) (v := .int (nI R)) (C := RX0) (T := TX0) (N := 12) hx hb hts hi0 hown hK.1 hP 0 rfl rfl 2 (by decide) wf18 (fun _ h9 => h9) rfl dX0_all_10 ?_
      refine lv_icmp_ge (tgt := 31) hx hb dX0_all_13 (by decide) (fun _ => ?_) (fun h => absurd (nI_le (a := R) (b := i_3) (by omega) (by omega)) h)
      refine lv_iload_n hx hb dX0_all_31 rfl (lv_at hl 1 rfl) ?_
      exact wt_siret hx hb hr hlocks (by trivial) dX0_all_32
    | succ k ih =>
      intro i_3 y_4 ls hik  hl
      refine lv_iload_n hx hb dX0_all_8 rfl (lv_at hl 0 rfl) ?_
      refine lv_aload_n hx hb dX0_all_9 rfl (lv_at hl 2 rfl) ?_
      refine va_get (D := D) (ci := 0) (v := .int (nI R)) (C := RX0) (T := TX0) (N := 12) hx hb hts hi0 hown hK.1 hP 0 rfl rfl 2 (by decide) wf18 (fun _ h9 => h9) rfl dX0_all_10 ?_
      refine lv_icmp_ge (tgt := 31) hx hb dX0_all_13 (by decide) (fun h => absurd h (nI_ge (a := i_3) (b := R) (by omega) (by omega))) (fun _ => ?_)
      refine lv_iload_n hx hb dX0_all_16 rfl (lv_at hl 1 rfl) ?_
      refine lv_aload_n hx hb dX0_all_17 rfl (lv_at hl 2 rfl) ?_
      refine va_get (D := D) (ci := 0) (v := .ref aW) (C := RX0) (T := TX0) (N := 12) hx hb hts hi0 hown hK.1 hP 0 rfl rfl 5 (by decide) wf27 (fun _ h9 => h9) rfl dX0_all_18 ?_
      refine lv_iload_n hx hb dX0_all_21 rfl (lv_at hl 0 rfl) ?_
      refine va_iald hx hb hK.1 hP 1 0 rfl rfl (vp_in_nI (by omega) (by omega)) dX0_all_22 ?_
      refine lv_topi (fun ov_5 _ => ?_)
      refine lv_iadd hx hb dX0_all_23 ?_
      refine lv_topi (fun ov_6 _ => ?_)
      refine lv_istore_n (lv' := [(1, .int ov_6), (2, .int (nI i_3)), (0, .ref ho)]) hx hb dX0_all_24 rfl hl (by decide) rfl (fun ls hl => ?_)
      refine lv_iinc (v := nI (i_3 + 1)) (lv' := [(2, .int (nI (i_3 + 1))), (1, .int ov_6), (0, .ref ho)]) hx hb dX0_all_25 hl (k := 1) rfl (nI_add i_3 1) (by decide) rfl (fun ls hl => ?_)
      refine lv_goto (tgt := 8) hx hb dX0_all_28 (by decide) ?_
      exact ih ((i_3 + 1)) ov_6 ls (by omega)  (lv_sub hl [0, 1, 2] rfl)
  exact loop8 (R - 0) (0) r_1 ls (by omega)  hl
set_option maxHeartbeats 4000000 in
set_option maxRecDepth 100000 in
theorem c_X0_wants (l : Launch) (D : va_G) (cI cZ cH : ClassId) (ho aW aK aP aT aU : Nat) (R T j : Nat) (co mi : Int32) (fW fK fP fT fU : Nat → Int32) (vz_0 vz_6 vz_10 : Value) (hR5 : R ≤ 5) (hT6 : T ≤ 6) (hwP : hw R T fP) (hjT : j < T) : wt_R l yX0_wants wsX0_wants ({ frames := 1, cells := 0, slots := 0, locals := 21 } : Room) D (wt_T cI cZ cH) [.ref ho, .int (nI j)] [(ho, .inr (0, [vz_0, .int co, .int (nI R), .int (nI T), .int mi, .ref aW, vz_6, .ref aK, .ref aP, .ref aT, vz_10, .ref aU])), (aW, .inl (cI, 5, .inl fW)), (aK, .inl (cI, 6, .inl fK)), (aP, .inl (cI, 6, .inl fP)), (aT, .inl (cI, 6, .inl fT)), (aU, .inl (cI, 6, .inl fU))] (vp_Si (fun r => True)) := by
  refine wt_R.ofW (cc := cX0_wants) (maxL := 2) (ret := (some .int)) (by decide) rfl (Nat.le_of_ble_eq_true rfl) ?_
  intro p e s m below meth c ls hx hb hr hts hown hlocks hml hP hK hl
  have hown : s.vm.findClass RX0 = some m.cls := hown
  have hl : lv_has ls 2 [(0, .ref ho), (1, .int (nI j))] := hl
  have hi0 : ∀ w ∈ u_ws RX0 TX0 12, w ∈ wsX0_wants := by decide +kernel
  have wf24 := hts (.fieldLink RX0 24 "WarmTubes$House" "minute" "I") (by decide +kernel)
  have wf34 := hts (.fieldLink RX0 34 "WarmTubes$House" "sort" "[I") (by decide +kernel)
  have wf37 := hts (.fieldLink RX0 37 "WarmTubes$House" "where" "[I") (by decide +kernel)
  have wf40 := hts (.fieldLink RX0 40 "WarmTubes$House" "takes" "[I") (by decide +kernel)
  have wf46 := hts (.fieldLink RX0 46 "WarmTubes$House" "up" "[I") (by decide +kernel)
  refine lv_aload_n hx hb dX0_wants_0 rfl (lv_at hl 0 rfl) ?_
  refine va_get (D := D) (ci := 0) (v := .ref aK) (C := RX0) (T := TX0) (N := 12) hx hb hts hi0 hown hK.1 hP 0 rfl rfl 7 (by decide) wf34 (fun _ h9 => h9) rfl dX0_wants_1 ?_
  refine lv_iload_n hx hb dX0_wants_4 rfl (lv_at hl 1 rfl) ?_
  refine va_iald hx hb hK.1 hP 2 0 rfl rfl (vp_in_nI (by omega) (by omega)) dX0_wants_5 ?_
  refine lv_topi (fun ov_1 _ => ?_)
  rcases wt_dec (ov_1) 2 with c_3 | c_3
  · subst c_3
    refine lv_tableIn (off := 30) (tgt := 36) hx hb dX0_wants_6 (by decide) (by decide) rfl (by decide) ?_
    refine lv_aload_n hx hb dX0_wants_36 rfl (lv_at hl 0 rfl) ?_
    refine va_get (D := D) (ci := 0) (v := .ref aT) (C := RX0) (T := TX0) (N := 12) hx hb hts hi0 hown hK.1 hP 0 rfl rfl 9 (by decide) wf40 (fun _ h9 => h9) rfl dX0_wants_37 ?_
    refine lv_iload_n hx hb dX0_wants_40 rfl (lv_at hl 1 rfl) ?_
    refine va_iald hx hb hK.1 hP 4 0 rfl rfl (vp_in_nI (by omega) (by omega)) dX0_wants_41 ?_
    refine lv_topi (fun ov_4 _ => ?_)
    refine lv_aload_n hx hb dX0_wants_42 rfl (lv_at hl 0 rfl) ?_
    refine va_get (D := D) (ci := 0) (v := .ref aU) (C := RX0) (T := TX0) (N := 12) hx hb hts hi0 hown hK.1 hP 0 rfl rfl 11 (by decide) wf46 (fun _ h9 => h9) rfl dX0_wants_43 ?_
    refine lv_iload_n hx hb dX0_wants_46 rfl (lv_at hl 1 rfl) ?_
    refine va_iald hx hb hK.1 hP 5 0 rfl rfl (vp_in_nI (by omega) (by omega)) dX0_wants_47 ?_
    refine lv_topi (fun ov_5 _ => ?_)
    refine lv_bipush (v := 10) hx hb dX0_wants_48 (by decide) ?_
    refine lv_idiv hx hb dX0_wants_50 (by decide) ?_
    refine lv_topi (fun ov_6 _ => ?_)
    refine lv_iadd hx hb dX0_wants_51 ?_
    refine lv_topi (fun ov_7 _ => ?_)
    exact wt_siret hx hb hr hlocks (by trivial) dX0_wants_52
  rcases wt_dec (ov_1) 3 with c_8 | c_8
  · subst c_8
    refine lv_tableIn (off := 47) (tgt := 53) hx hb dX0_wants_6 (by decide) (by decide) rfl (by decide) ?_
    refine lv_aload_n hx hb dX0_wants_53 rfl (lv_at hl 0 rfl) ?_
    refine va_get (D := D) (ci := 0) (v := .int mi) (C := RX0) (T := TX0) (N := 12) hx hb hts hi0 hown hK.1 hP 0 rfl rfl 4 (by decide) wf24 (fun _ h9 => h9) rfl dX0_wants_54 ?_
    refine lv_iconst (v := 2) hx hb dX0_wants_57 (by decide) ?_
    refine lv_irem hx hb dX0_wants_58 (by decide) ?_
    refine lv_topi (fun ov_9 _ => ?_)
    refine lv_if_ne (tgt := 71) hx hb dX0_wants_59 (by decide) (fun c_10 => ?_) (fun c_10 => ?_)
    · skip
      refine lv_iconst (v := 0) hx hb dX0_wants_71 (by decide) ?_
      exact wt_siret hx hb hr hlocks (by trivial) dX0_wants_72
    · skip
      refine lv_aload_n hx hb dX0_wants_62 rfl (lv_at hl 0 rfl) ?_
      refine va_get (D := D) (ci := 0) (v := .ref aT) (C := RX0) (T := TX0) (N := 12) hx hb hts hi0 hown hK.1 hP 0 rfl rfl 9 (by decide) wf40 (fun _ h9 => h9) rfl dX0_wants_63 ?_
      refine lv_iload_n hx hb dX0_wants_66 rfl (lv_at hl 1 rfl) ?_
      refine va_iald hx hb hK.1 hP 4 0 rfl rfl (vp_in_nI (by omega) (by omega)) dX0_wants_67 ?_
      refine lv_topi (fun ov_11 _ => ?_)
      refine lv_goto (tgt := 72) hx hb dX0_wants_68 (by decide) ?_
      exact wt_siret hx hb hr hlocks (by trivial) dX0_wants_72
  rcases wt_dec (ov_1) 4 with c_12 | c_12
  · subst c_12
    refine lv_tableIn (off := 67) (tgt := 73) hx hb dX0_wants_6 (by decide) (by decide) rfl (by decide) ?_
    refine lv_aload_n hx hb dX0_wants_73 rfl (lv_at hl 0 rfl) ?_
    refine lv_aload_n hx hb dX0_wants_74 rfl (lv_at hl 0 rfl) ?_
    refine va_get (D := D) (ci := 0) (v := .ref aP) (C := RX0) (T := TX0) (N := 12) hx hb hts hi0 hown hK.1 hP 0 rfl rfl 8 (by decide) wf37 (fun _ h9 => h9) rfl dX0_wants_75 ?_
    refine lv_iload_n hx hb dX0_wants_78 rfl (lv_at hl 1 rfl) ?_
    refine va_iald hx hb hK.1 hP 3 0 rfl rfl (vp_in_nI (by omega) (by omega)) dX0_wants_79 ?_
    obtain ⟨q_13, hq_13, eq_13⟩ := hwP j (by omega)
    refine wt_top (z := nI q_13) (by rw [nI_clamp (by omega)]; exact eq_13) ?_
    refine wt_rV (As := [.int (nI q_13)]) (rest := []) ⟨hx, hb, hml, hown, hts⟩ (c_X0_isCold l D cI cZ cH ho aW R q_13 co fW vz_0 (.int (nI T)) (.int mi) vz_6 (.ref aK) (.ref aP) (.ref aT) vz_10 (.ref aU) (by first | assumption | omega) (by first | assumption | omega)) (cwV 1 hts gX0_wants_X0_isCold rfl rfl rfl (by decide +kernel) ⟨Nat.le_of_ble_eq_true rfl, Nat.le_of_ble_eq_true rfl⟩) hK hP [0, 1] rfl (va_recv hK.1 hP (ci := 0) (q0 := 0) rfl rfl) rfl hl.1 rfl (Nat.le_of_ble_eq_true rfl) dX0_wants_80 ⟨Nat.le_of_ble_eq_true rfl, Nat.le_of_ble_eq_true rfl⟩ (fun r_14 e_15 => ?_)
    refine lv_if_eq (tgt := 90) hx hb dX0_wants_83 (by decide) (fun c_16 => ?_) (fun c_16 => ?_)
    · skip
      refine lv_aload_n hx hb dX0_wants_90 rfl (lv_at hl 0 rfl) ?_
      refine va_get (D := D) (ci := 0) (v := .ref aT) (C := RX0) (T := TX0) (N := 12) hx hb hts hi0 hown hK.1 hP 0 rfl rfl 9 (by decide) wf40 (fun _ h9 => h9) rfl dX0_wants_91 ?_
      refine lv_iload_n hx hb dX0_wants_94 rfl (lv_at hl 1 rfl) ?_
      refine va_iald hx hb hK.1 hP 4 0 rfl rfl (vp_in_nI (by omega) (by omega)) dX0_wants_95 ?_
      refine lv_topi (fun ov_17 _ => ?_)
      exact wt_siret hx hb hr hlocks (by trivial) dX0_wants_96
    · skip
      refine lv_iconst (v := 0) hx hb dX0_wants_86 (by decide) ?_
      refine lv_goto (tgt := 96) hx hb dX0_wants_87 (by decide) ?_
      exact wt_siret hx hb hr hlocks (by trivial) dX0_wants_96
  rcases wt_dec (ov_1) 5 with c_18 | c_18
  · subst c_18
    refine lv_tableIn (off := 67) (tgt := 73) hx hb dX0_wants_6 (by decide) (by decide) rfl (by decide) ?_
    refine lv_aload_n hx hb dX0_wants_73 rfl (lv_at hl 0 rfl) ?_
    refine lv_aload_n hx hb dX0_wants_74 rfl (lv_at hl 0 rfl) ?_
    refine va_get (D := D) (ci := 0) (v := .ref aP) (C := RX0) (T := TX0) (N := 12) hx hb hts hi0 hown hK.1 hP 0 rfl rfl 8 (by decide) wf37 (fun _ h9 => h9) rfl dX0_wants_75 ?_
    refine lv_iload_n hx hb dX0_wants_78 rfl (lv_at hl 1 rfl) ?_
    refine va_iald hx hb hK.1 hP 3 0 rfl rfl (vp_in_nI (by omega) (by omega)) dX0_wants_79 ?_
    obtain ⟨q_19, hq_19, eq_19⟩ := hwP j (by omega)
    refine wt_top (z := nI q_19) (by rw [nI_clamp (by omega)]; exact eq_19) ?_
    refine wt_rV (As := [.int (nI q_19)]) (rest := []) ⟨hx, hb, hml, hown, hts⟩ (c_X0_isCold l D cI cZ cH ho aW R q_19 co fW vz_0 (.int (nI T)) (.int mi) vz_6 (.ref aK) (.ref aP) (.ref aT) vz_10 (.ref aU) (by first | assumption | omega) (by first | assumption | omega)) (cwV 1 hts gX0_wants_X0_isCold rfl rfl rfl (by decide +kernel) ⟨Nat.le_of_ble_eq_true rfl, Nat.le_of_ble_eq_true rfl⟩) hK hP [0, 1] rfl (va_recv hK.1 hP (ci := 0) (q0 := 0) rfl rfl) rfl hl.1 rfl (Nat.le_of_ble_eq_true rfl) dX0_wants_80 ⟨Nat.le_of_ble_eq_true rfl, Nat.le_of_ble_eq_true rfl⟩ (fun r_20 e_21 => ?_)
    refine lv_if_eq (tgt := 90) hx hb dX0_wants_83 (by decide) (fun c_22 => ?_) (fun c_22 => ?_)
    · skip
      refine lv_aload_n hx hb dX0_wants_90 rfl (lv_at hl 0 rfl) ?_
      refine va_get (D := D) (ci := 0) (v := .ref aT) (C := RX0) (T := TX0) (N := 12) hx hb hts hi0 hown hK.1 hP 0 rfl rfl 9 (by decide) wf40 (fun _ h9 => h9) rfl dX0_wants_91 ?_
      refine lv_iload_n hx hb dX0_wants_94 rfl (lv_at hl 1 rfl) ?_
      refine va_iald hx hb hK.1 hP 4 0 rfl rfl (vp_in_nI (by omega) (by omega)) dX0_wants_95 ?_
      refine lv_topi (fun ov_23 _ => ?_)
      exact wt_siret hx hb hr hlocks (by trivial) dX0_wants_96
    · skip
      refine lv_iconst (v := 0) hx hb dX0_wants_86 (by decide) ?_
      refine lv_goto (tgt := 96) hx hb dX0_wants_87 (by decide) ?_
      exact wt_siret hx hb hr hlocks (by trivial) dX0_wants_96
  refine lv_tableOut (tgt := 97) hx hb dX0_wants_6 (by have := lv_neT (a := 2) c_3 rfl; have := lv_neT (a := 3) c_8 rfl; have := lv_neT (a := 4) c_12 rfl; have := lv_neT (a := 5) c_18 rfl; omega) (by decide) ?_
  refine lv_aload_n hx hb dX0_wants_97 rfl (lv_at hl 0 rfl) ?_
  refine va_get (D := D) (ci := 0) (v := .ref aT) (C := RX0) (T := TX0) (N := 12) hx hb hts hi0 hown hK.1 hP 0 rfl rfl 9 (by decide) wf40 (fun _ h9 => h9) rfl dX0_wants_98 ?_
  refine lv_iload_n hx hb dX0_wants_101 rfl (lv_at hl 1 rfl) ?_
  refine va_iald hx hb hK.1 hP 4 0 rfl rfl (vp_in_nI (by omega) (by omega)) dX0_wants_102 ?_
  refine lv_topi (fun ov_24 _ => ?_)
  exact wt_siret hx hb hr hlocks (by trivial) dX0_wants_103
set_option maxHeartbeats 4000000 in
set_option maxRecDepth 100000 in
theorem c_X0_giveBack (l : Launch) (D : va_G) (cI cZ cH : ClassId) (ho aW aK aP aU : Nat) (R T j : Nat) (fW fK fP fU : Nat → Int32) (vz_0 vz_1 vz_4 vz_6 vz_9 vz_10 : Value) (hR5 : R ≤ 5) (hT6 : T ≤ 6) (hwP : hw R T fP) (hjT : j < T) : wt_M l yX0_giveBack wsX0_giveBack ({ frames := 0, cells := 0, slots := 0, locals := 0 } : Room) D (wt_T cI cZ cH) [.ref ho, .int (nI j)] [(ho, .inr (0, [vz_0, vz_1, .int (nI R), .int (nI T), vz_4, .ref aW, vz_6, .ref aK, .ref aP, vz_9, vz_10, .ref aU])), (aW, .inl (cI, 5, .inl fW)), (aK, .inl (cI, 6, .inl fK)), (aP, .inl (cI, 6, .inl fP)), (aU, .inl (cI, 6, .inl fU))] (wt_QV D (fun w => ∃ (fW2 fU2 : Nat → Int32), w = [(ho, .inr (0, [vz_0, vz_1, .int (nI R), .int (nI T), vz_4, .ref aW, vz_6, .ref aK, .ref aP, vz_9, vz_10, .ref aU])), (aW, .inl (cI, 5, .inl fW2)), (aK, .inl (cI, 6, .inl fK)), (aP, .inl (cI, 6, .inl fP)), (aU, .inl (cI, 6, .inl fU2))])) := by
  refine wt_M.ofW (cc := cX0_giveBack) (maxL := 2) (ret := none) (by decide) rfl (Nat.le_of_ble_eq_true rfl) ?_
  intro p e s m below meth c A ls hx hb hr hts hown hlocks hml hnm hP hK hD hA hS hl
  have hP : va_P D vwCl [(ho, .inr (0, [vz_0, vz_1, .int (nI R), .int (nI T), vz_4, .ref aW, vz_6, .ref aK, .ref aP, vz_9, vz_10, .ref aU])), (aW, .inl (cI, 5, .inl fW)), (aK, .inl (cI, 6, .inl fK)), (aP, .inl (cI, 6, .inl fP)), (aU, .inl (cI, 6, .inl fU))] s.heap := hP
  have hown : s.vm.findClass RX0 = some m.cls := hown
  have hl : lv_has ls 2 [(0, .ref ho), (1, .int (nI j))] := hl
  have hi0 : ∀ w ∈ u_ws RX0 TX0 12, w ∈ wsX0_giveBack := by decide +kernel
  have wf18 := hts (.fieldLink RX0 18 "WarmTubes$House" "rooms" "I") (by decide +kernel)
  have wf27 := hts (.fieldLink RX0 27 "WarmTubes$House" "warmth" "[I") (by decide +kernel)
  have wf34 := hts (.fieldLink RX0 34 "WarmTubes$House" "sort" "[I") (by decide +kernel)
  have wf37 := hts (.fieldLink RX0 37 "WarmTubes$House" "where" "[I") (by decide +kernel)
  have wf46 := hts (.fieldLink RX0 46 "WarmTubes$House" "up" "[I") (by decide +kernel)
  refine lv_aload_n hx hb dX0_giveBack_0 rfl (lv_at hl 0 rfl) ?_
  refine va_get (D := D) (ci := 0) (v := .ref aK) (C := RX0) (T := TX0) (N := 12) hx hb hts hi0 hown hK.1 hP 0 rfl rfl 7 (by decide) wf34 (fun _ h9 => h9) rfl dX0_giveBack_1 ?_
  refine lv_iload_n hx hb dX0_giveBack_4 rfl (lv_at hl 1 rfl) ?_
  refine va_iald hx hb hK.1 hP 2 0 rfl rfl (vp_in_nI (by omega) (by omega)) dX0_giveBack_5 ?_
  refine lv_topi (fun ov_1 _ => ?_)
  refine lv_iconst (v := 5) hx hb dX0_giveBack_6 (by decide) ?_
  refine lv_icmp_ne (tgt := 19) hx hb dX0_giveBack_7 (by decide) (fun c_2 => ?_) (fun c_2 => ?_)
  · skip
    have hP9 := hP.sub (ws' := [(ho, .inr (0, [vz_0, vz_1, .int (nI R), .int (nI T), vz_4, .ref aW, vz_6, .ref aK, .ref aP, vz_9, vz_10, .ref aU])), (aW, .inl (cI, 5, .inl fW)), (aK, .inl (cI, 6, .inl fK)), (aP, .inl (cI, 6, .inl fP)), (aU, .inl (cI, 6, .inl fU))]) [0, 1, 2, 3, 4] rfl
    have hD9 := hD.sub (ws' := [(ho, .inr (0, [vz_0, vz_1, .int (nI R), .int (nI T), vz_4, .ref aW, vz_6, .ref aK, .ref aP, vz_9, vz_10, .ref aU])), (aW, .inl (cI, 5, .inl fW)), (aK, .inl (cI, 6, .inl fK)), (aP, .inl (cI, 6, .inl fP)), (aU, .inl (cI, 6, .inl fU))]) [0, 1, 2, 3, 4] (by decide) rfl
    exact wt_vret hx hb hr hlocks hP9 hD9 hS ⟨fW, fU, rfl⟩ dX0_giveBack_19
  · skip
    refine lv_aload_n hx hb dX0_giveBack_10 rfl (lv_at hl 0 rfl) ?_
    refine va_get (D := D) (ci := 0) (v := .ref aU) (C := RX0) (T := TX0) (N := 12) hx hb hts hi0 hown hK.1 hP 0 rfl rfl 11 (by decide) wf46 (fun _ h9 => h9) rfl dX0_giveBack_11 ?_
    refine lv_iload_n hx hb dX0_giveBack_14 rfl (lv_at hl 1 rfl) ?_
    refine va_iald hx hb hK.1 hP 4 0 rfl rfl (vp_in_nI (by omega) (by omega)) dX0_giveBack_15 ?_
    refine lv_topi (fun ov_3 _ => ?_)
    refine lv_if_ne (tgt := 20) hx hb dX0_giveBack_16 (by decide) (fun c_4 => ?_) (fun c_4 => ?_)
    · skip
      refine lv_aload_n hx hb dX0_giveBack_20 rfl (lv_at hl 0 rfl) ?_
      refine va_get (D := D) (ci := 0) (v := .ref aU) (C := RX0) (T := TX0) (N := 12) hx hb hts hi0 hown hK.1 hP 0 rfl rfl 11 (by decide) wf46 (fun _ h9 => h9) rfl dX0_giveBack_21 ?_
      refine lv_iload_n hx hb dX0_giveBack_24 rfl (lv_at hl 1 rfl) ?_
      refine lv_dup2_11 hx hb dX0_giveBack_25 rfl rfl ?_
      refine va_iald hx hb hK.1 hP 4 0 rfl rfl (vp_in_nI (by omega) (by omega)) dX0_giveBack_26 ?_
      refine lv_topi (fun ov_5 _ => ?_)
      refine lv_iconst (v := 1) hx hb dX0_giveBack_27 (by decide) ?_
      refine lv_isub hx hb dX0_giveBack_28 ?_
      refine lv_topi (fun ov_6 _ => ?_)
      refine va_iast hx hb hK.1 hP hD hS 4 0 rfl rfl (vp_in_nI (by omega) (by omega)) dX0_giveBack_29 (fun H locs hP hD hS => ?_)
      have hP : va_P D vwCl [(ho, .inr (0, [vz_0, vz_1, .int (nI R), .int (nI T), vz_4, .ref aW, vz_6, .ref aK, .ref aP, vz_9, vz_10, .ref aU])), (aW, .inl (cI, 5, .inl fW)), (aK, .inl (cI, 6, .inl fK)), (aP, .inl (cI, 6, .inl fP)), (aU, .inl (cI, 6, .inl (upd fU ((nI j).toNatClampNeg) ov_6)))] H := hP
      have hD : va_D A [(ho, .inr (0, [vz_0, vz_1, .int (nI R), .int (nI T), vz_4, .ref aW, vz_6, .ref aK, .ref aP, vz_9, vz_10, .ref aU])), (aW, .inl (cI, 5, .inl fW)), (aK, .inl (cI, 6, .inl fK)), (aP, .inl (cI, 6, .inl fP)), (aU, .inl (cI, 6, .inl (upd fU ((nI j).toNatClampNeg) ov_6)))] := hD
      generalize upd fU ((nI j).toNatClampNeg) ov_6 = fU_7 at hP hD
      refine lv_aload_n hx hb dX0_giveBack_30 rfl (lv_at hl 0 rfl) ?_
      refine va_get (D := D) (ci := 0) (v := .ref aP) (C := RX0) (T := TX0) (N := 12) hx hb hts hi0 hown hK.1 hP 0 rfl rfl 8 (by decide) wf37 (fun _ h9 => h9) rfl dX0_giveBack_31 ?_
      refine lv_iload_n hx hb dX0_giveBack_34 rfl (lv_at hl 1 rfl) ?_
      refine va_iald hx hb hK.1 hP 3 0 rfl rfl (vp_in_nI (by omega) (by omega)) dX0_giveBack_35 ?_
      obtain ⟨q_8, hq_8, eq_8⟩ := hwP j (by omega)
      refine wt_top (z := nI q_8) (by rw [nI_clamp (by omega)]; exact eq_8) ?_
      refine lv_aload_n hx hb dX0_giveBack_36 rfl (lv_at hl 0 rfl) ?_
      refine va_get (D := D) (ci := 0) (v := .int (nI R)) (C := RX0) (T := TX0) (N := 12) hx hb hts hi0 hown hK.1 hP 0 rfl rfl 2 (by decide) wf18 (fun _ h9 => h9) rfl dX0_giveBack_37 ?_
      refine lv_icmp_ge (tgt := 58) hx hb dX0_giveBack_40 (by decide) (fun c_9 => ?_) (fun c_9 => ?_)
      · skip
        have c_9 : R ≤ q_8 := (nI_leI (a := R) (b := q_8) (by omega) (by omega)).mp c_9
        have hP9 := hP.sub (ws' := [(ho, .inr (0, [vz_0, vz_1, .int (nI R), .int (nI T), vz_4, .ref aW, vz_6, .ref aK, .ref aP, vz_9, vz_10, .ref aU])), (aW, .inl (cI, 5, .inl fW)), (aK, .inl (cI, 6, .inl fK)), (aP, .inl (cI, 6, .inl fP)), (aU, .inl (cI, 6, .inl fU_7))]) [0, 1, 2, 3, 4] rfl
        have hD9 := hD.sub (ws' := [(ho, .inr (0, [vz_0, vz_1, .int (nI R), .int (nI T), vz_4, .ref aW, vz_6, .ref aK, .ref aP, vz_9, vz_10, .ref aU])), (aW, .inl (cI, 5, .inl fW)), (aK, .inl (cI, 6, .inl fK)), (aP, .inl (cI, 6, .inl fP)), (aU, .inl (cI, 6, .inl fU_7))]) [0, 1, 2, 3, 4] (by decide) rfl
        exact wt_vret hx hb hr hlocks hP9 hD9 hS ⟨fW, fU_7, rfl⟩ dX0_giveBack_58
      · skip
        have c_9 : ¬ (R ≤ q_8) := fun h => c_9 ((nI_leI (a := R) (b := q_8) (by omega) (by omega)).mpr h)
        refine lv_aload_n hx hb dX0_giveBack_43 rfl (lv_at hl 0 rfl) ?_
        refine va_get (D := D) (ci := 0) (v := .ref aW) (C := RX0) (T := TX0) (N := 12) hx hb hts hi0 hown hK.1 hP 0 rfl rfl 5 (by decide) wf27 (fun _ h9 => h9) rfl dX0_giveBack_44 ?_
        refine lv_aload_n hx hb dX0_giveBack_47 rfl (lv_at hl 0 rfl) ?_
        refine va_get (D := D) (ci := 0) (v := .ref aP) (C := RX0) (T := TX0) (N := 12) hx hb hts hi0 hown hK.1 hP 0 rfl rfl 8 (by decide) wf37 (fun _ h9 => h9) rfl dX0_giveBack_48 ?_
        refine lv_iload_n hx hb dX0_giveBack_51 rfl (lv_at hl 1 rfl) ?_
        refine va_iald hx hb hK.1 hP 3 0 rfl rfl (vp_in_nI (by omega) (by omega)) dX0_giveBack_52 ?_
        refine wt_top (z := nI q_8) (by rw [nI_clamp (by omega)]; exact eq_8) ?_
        refine lv_dup2_11 hx hb dX0_giveBack_53 rfl rfl ?_
        refine va_iald hx hb hK.1 hP 1 0 rfl rfl (vp_in_nI (by omega) (by omega)) dX0_giveBack_54 ?_
        refine lv_topi (fun ov_10 _ => ?_)
        refine lv_iconst (v := 1) hx hb dX0_giveBack_55 (by decide) ?_
        refine lv_iadd hx hb dX0_giveBack_56 ?_
        refine lv_topi (fun ov_11 _ => ?_)
        refine va_iast hx hb hK.1 hP hD hS 1 0 rfl rfl (vp_in_nI (by omega) (by omega)) dX0_giveBack_57 (fun H locs hP hD hS => ?_)
        have hP : va_P D vwCl [(ho, .inr (0, [vz_0, vz_1, .int (nI R), .int (nI T), vz_4, .ref aW, vz_6, .ref aK, .ref aP, vz_9, vz_10, .ref aU])), (aW, .inl (cI, 5, .inl (upd fW ((nI q_8).toNatClampNeg) ov_11))), (aK, .inl (cI, 6, .inl fK)), (aP, .inl (cI, 6, .inl fP)), (aU, .inl (cI, 6, .inl fU_7))] H := hP
        have hD : va_D A [(ho, .inr (0, [vz_0, vz_1, .int (nI R), .int (nI T), vz_4, .ref aW, vz_6, .ref aK, .ref aP, vz_9, vz_10, .ref aU])), (aW, .inl (cI, 5, .inl (upd fW ((nI q_8).toNatClampNeg) ov_11))), (aK, .inl (cI, 6, .inl fK)), (aP, .inl (cI, 6, .inl fP)), (aU, .inl (cI, 6, .inl fU_7))] := hD
        generalize upd fW ((nI q_8).toNatClampNeg) ov_11 = fW_12 at hP hD
        have hP9 := hP.sub (ws' := [(ho, .inr (0, [vz_0, vz_1, .int (nI R), .int (nI T), vz_4, .ref aW, vz_6, .ref aK, .ref aP, vz_9, vz_10, .ref aU])), (aW, .inl (cI, 5, .inl fW_12)), (aK, .inl (cI, 6, .inl fK)), (aP, .inl (cI, 6, .inl fP)), (aU, .inl (cI, 6, .inl fU_7))]) [0, 1, 2, 3, 4] rfl
        have hD9 := hD.sub (ws' := [(ho, .inr (0, [vz_0, vz_1, .int (nI R), .int (nI T), vz_4, .ref aW, vz_6, .ref aK, .ref aP, vz_9, vz_10, .ref aU])), (aW, .inl (cI, 5, .inl fW_12)), (aK, .inl (cI, 6, .inl fK)), (aP, .inl (cI, 6, .inl fP)), (aU, .inl (cI, 6, .inl fU_7))]) [0, 1, 2, 3, 4] (by decide) rfl
        exact wt_vret hx hb hr hlocks hP9 hD9 hS ⟨fW_12, fU_7, rfl⟩ dX0_giveBack_58
    · skip
      have hP9 := hP.sub (ws' := [(ho, .inr (0, [vz_0, vz_1, .int (nI R), .int (nI T), vz_4, .ref aW, vz_6, .ref aK, .ref aP, vz_9, vz_10, .ref aU])), (aW, .inl (cI, 5, .inl fW)), (aK, .inl (cI, 6, .inl fK)), (aP, .inl (cI, 6, .inl fP)), (aU, .inl (cI, 6, .inl fU))]) [0, 1, 2, 3, 4] rfl
      have hD9 := hD.sub (ws' := [(ho, .inr (0, [vz_0, vz_1, .int (nI R), .int (nI T), vz_4, .ref aW, vz_6, .ref aK, .ref aP, vz_9, vz_10, .ref aU])), (aW, .inl (cI, 5, .inl fW)), (aK, .inl (cI, 6, .inl fK)), (aP, .inl (cI, 6, .inl fP)), (aU, .inl (cI, 6, .inl fU))]) [0, 1, 2, 3, 4] (by decide) rfl
      exact wt_vret hx hb hr hlocks hP9 hD9 hS ⟨fW, fU, rfl⟩ dX0_giveBack_19
set_option maxHeartbeats 4000000 in
set_option maxRecDepth 100000 in
theorem c_X0_drawUp (l : Launch) (D : va_G) (cI cZ cH : ClassId) (ho aW aK aP aT aH aU : Nat) (R T j : Nat) (co mi : Int32) (fW fK fP fT fH fU : Nat → Int32) (vz_0 vz_6 : Value) (hR5 : R ≤ 5) (hT6 : T ≤ 6) (hwP : hw R T fP) (hjT : j < T) : wt_M l yX0_drawUp wsX0_drawUp ({ frames := 2, cells := 0, slots := 0, locals := 42 } : Room) D (wt_T cI cZ cH) [.ref ho, .int (nI j)] [(ho, .inr (0, [vz_0, .int co, .int (nI R), .int (nI T), .int mi, .ref aW, vz_6, .ref aK, .ref aP, .ref aT, .ref aH, .ref aU])), (aW, .inl (cI, 5, .inl fW)), (aK, .inl (cI, 6, .inl fK)), (aP, .inl (cI, 6, .inl fP)), (aT, .inl (cI, 6, .inl fT)), (aH, .inl (cI, 6, .inl fH)), (aU, .inl (cI, 6, .inl fU))] (wt_QV D (fun w => ∃ (fW2 fU2 : Nat → Int32), w = [(ho, .inr (0, [vz_0, .int co, .int (nI R), .int (nI T), .int mi, .ref aW, vz_6, .ref aK, .ref aP, .ref aT, .ref aH, .ref aU])), (aW, .inl (cI, 5, .inl fW2)), (aK, .inl (cI, 6, .inl fK)), (aP, .inl (cI, 6, .inl fP)), (aT, .inl (cI, 6, .inl fT)), (aH, .inl (cI, 6, .inl fH)), (aU, .inl (cI, 6, .inl fU2))])) := by
  refine wt_M.ofW (cc := cX0_drawUp) (maxL := 4) (ret := none) (by decide) rfl (Nat.le_of_ble_eq_true rfl) ?_
  intro p e s m below meth c A ls hx hb hr hts hown hlocks hml hnm hP hK hD hA hS hl
  have hP : va_P D vwCl [(ho, .inr (0, [vz_0, .int co, .int (nI R), .int (nI T), .int mi, .ref aW, vz_6, .ref aK, .ref aP, .ref aT, .ref aH, .ref aU])), (aW, .inl (cI, 5, .inl fW)), (aK, .inl (cI, 6, .inl fK)), (aP, .inl (cI, 6, .inl fP)), (aT, .inl (cI, 6, .inl fT)), (aH, .inl (cI, 6, .inl fH)), (aU, .inl (cI, 6, .inl fU))] s.heap := hP
  have hown : s.vm.findClass RX0 = some m.cls := hown
  have hl : lv_has ls 4 [(0, .ref ho), (1, .int (nI j))] := hl
  have hi0 : ∀ w ∈ u_ws RX0 TX0 12, w ∈ wsX0_drawUp := by decide +kernel
  have wf18 := hts (.fieldLink RX0 18 "WarmTubes$House" "rooms" "I") (by decide +kernel)
  have wf27 := hts (.fieldLink RX0 27 "WarmTubes$House" "warmth" "[I") (by decide +kernel)
  have wf37 := hts (.fieldLink RX0 37 "WarmTubes$House" "where" "[I") (by decide +kernel)
  have wf43 := hts (.fieldLink RX0 43 "WarmTubes$House" "holds" "[I") (by decide +kernel)
  have wf46 := hts (.fieldLink RX0 46 "WarmTubes$House" "up" "[I") (by decide +kernel)
  have wy76 := hts (.methodLink RX0 76 Lib.Math.min.name) (by decide +kernel)
  have wycmin := hts (.code Lib.Math.min.name Lib.Math.min.code 2 (some .int)) (by decide +kernel)
  have wym := hts (.initialized "java/lang/Math") (by decide +kernel)
  have wysmin := hts (.static Lib.Math.min.name) (by decide +kernel)
  refine lv_aload_n hx hb dX0_drawUp_0 rfl (lv_at hl 0 rfl) ?_
  refine va_get (D := D) (ci := 0) (v := .ref aP) (C := RX0) (T := TX0) (N := 12) hx hb hts hi0 hown hK.1 hP 0 rfl rfl 8 (by decide) wf37 (fun _ h9 => h9) rfl dX0_drawUp_1 ?_
  refine lv_iload_n hx hb dX0_drawUp_4 rfl (lv_at hl 1 rfl) ?_
  refine va_iald hx hb hK.1 hP 3 0 rfl rfl (vp_in_nI (by omega) (by omega)) dX0_drawUp_5 ?_
  obtain ⟨q_1, hq_1, eq_1⟩ := hwP j (by omega)
  refine wt_top (z := nI q_1) (by rw [nI_clamp (by omega)]; exact eq_1) ?_
  refine lv_istore_n (lv' := [(2, .int (nI q_1)), (0, .ref ho), (1, .int (nI j))]) hx hb dX0_drawUp_6 rfl hl (by decide) rfl (fun ls hl => ?_)
  refine lv_iload_n hx hb dX0_drawUp_7 rfl (lv_at hl 0 rfl) ?_
  refine lv_aload_n hx hb dX0_drawUp_8 rfl (lv_at hl 1 rfl) ?_
  refine va_get (D := D) (ci := 0) (v := .int (nI R)) (C := RX0) (T := TX0) (N := 12) hx hb hts hi0 hown hK.1 hP 0 rfl rfl 2 (by decide) wf18 (fun _ h9 => h9) rfl dX0_drawUp_9 ?_
  refine lv_icmp_lt (tgt := 16) hx hb dX0_drawUp_12 (by decide) (fun c_2 => ?_) (fun c_2 => ?_)
  · skip
    have c_2 : q_1 < R := (nI_ltI (a := q_1) (b := R) (by omega) (by omega)).mp c_2
    refine lv_aload_n hx hb dX0_drawUp_16 rfl (lv_at hl 1 rfl) ?_
    refine lv_iload_n hx hb dX0_drawUp_17 rfl (lv_at hl 2 rfl) ?_
    refine wt_rV (As := [.int (nI j)]) (rest := []) ⟨hx, hb, hml, hown, hts⟩ (c_X0_wants l D cI cZ cH ho aW aK aP aT aU R T j co mi fW fK fP fT fU vz_0 vz_6 (.ref aH) (by first | assumption | omega) (by first | assumption | omega) (by first | assumption | omega) (by first | assumption | omega)) (cwV 1 hts gX0_drawUp_X0_wants rfl rfl rfl (by decide +kernel) ⟨Nat.le_of_ble_eq_true rfl, Nat.le_of_ble_eq_true rfl⟩) hK hP [0, 1, 2, 3, 4, 6] rfl (va_recv hK.1 hP (ci := 0) (q0 := 0) rfl rfl) rfl hl.1 rfl (Nat.le_of_ble_eq_true rfl) dX0_drawUp_18 ⟨Nat.le_of_ble_eq_true rfl, Nat.le_of_ble_eq_true rfl⟩ (fun r_3 e_4 => ?_)
    refine lv_aload_n hx hb dX0_drawUp_21 rfl (lv_at hl 1 rfl) ?_
    refine va_get (D := D) (ci := 0) (v := .ref aW) (C := RX0) (T := TX0) (N := 12) hx hb hts hi0 hown hK.1 hP 0 rfl rfl 5 (by decide) wf27 (fun _ h9 => h9) rfl dX0_drawUp_22 ?_
    refine lv_iload_n hx hb dX0_drawUp_25 rfl (lv_at hl 0 rfl) ?_
    refine va_iald hx hb hK.1 hP 1 0 rfl rfl (vp_in_nI (by omega) (by omega)) dX0_drawUp_26 ?_
    refine lv_topi (fun ov_5 _ => ?_)
    refine lv_aload_n hx hb dX0_drawUp_27 rfl (lv_at hl 1 rfl) ?_
    refine va_get (D := D) (ci := 0) (v := .ref aH) (C := RX0) (T := TX0) (N := 12) hx hb hts hi0 hown hK.1 hP 0 rfl rfl 10 (by decide) wf43 (fun _ h9 => h9) rfl dX0_drawUp_28 ?_
    refine lv_iload_n hx hb dX0_drawUp_31 rfl (lv_at hl 2 rfl) ?_
    refine va_iald hx hb hK.1 hP 5 0 rfl rfl (vp_in_nI (by omega) (by omega)) dX0_drawUp_32 ?_
    refine lv_topi (fun ov_6 _ => ?_)
    refine lv_aload_n hx hb dX0_drawUp_33 rfl (lv_at hl 1 rfl) ?_
    refine va_get (D := D) (ci := 0) (v := .ref aU) (C := RX0) (T := TX0) (N := 12) hx hb hts hi0 hown hK.1 hP 0 rfl rfl 11 (by decide) wf46 (fun _ h9 => h9) rfl dX0_drawUp_34 ?_
    refine lv_iload_n hx hb dX0_drawUp_37 rfl (lv_at hl 2 rfl) ?_
    refine va_iald hx hb hK.1 hP 6 0 rfl rfl (vp_in_nI (by omega) (by omega)) dX0_drawUp_38 ?_
    refine lv_topi (fun ov_7 _ => ?_)
    refine lv_isub hx hb dX0_drawUp_39 ?_
    refine lv_topi (fun ov_8 _ => ?_)
    refine va_mmin hx hb (hml.trans hl.1.symm) hown wy76 wysmin wym wycmin (Nat.le_of_ble_eq_true rfl) (Nat.le_of_ble_eq_true rfl) (Nat.zero_le _) (Nat.zero_le _) dX0_drawUp_40 ?_
    refine lv_topi (fun ov_9 _ => ?_)
    refine va_mmin hx hb (hml.trans hl.1.symm) hown wy76 wysmin wym wycmin (Nat.le_of_ble_eq_true rfl) (Nat.le_of_ble_eq_true rfl) (Nat.zero_le _) (Nat.zero_le _) dX0_drawUp_43 ?_
    refine lv_topi (fun ov_10 _ => ?_)
    refine lv_istore_n (lv' := [(3, .int ov_10), (2, .int (nI q_1)), (0, .ref ho), (1, .int (nI j))]) hx hb dX0_drawUp_46 rfl hl (by decide) rfl (fun ls hl => ?_)
    refine lv_aload_n hx hb dX0_drawUp_47 rfl (lv_at hl 2 rfl) ?_
    refine va_get (D := D) (ci := 0) (v := .ref aU) (C := RX0) (T := TX0) (N := 12) hx hb hts hi0 hown hK.1 hP 0 rfl rfl 11 (by decide) wf46 (fun _ h9 => h9) rfl dX0_drawUp_48 ?_
    refine lv_iload_n hx hb dX0_drawUp_51 rfl (lv_at hl 3 rfl) ?_
    refine lv_dup2_11 hx hb dX0_drawUp_52 rfl rfl ?_
    refine va_iald hx hb hK.1 hP 6 0 rfl rfl (vp_in_nI (by omega) (by omega)) dX0_drawUp_53 ?_
    refine lv_topi (fun ov_11 _ => ?_)
    refine lv_iload_n hx hb dX0_drawUp_54 rfl (lv_at hl 0 rfl) ?_
    refine lv_iadd hx hb dX0_drawUp_55 ?_
    refine lv_topi (fun ov_12 _ => ?_)
    refine va_iast hx hb hK.1 hP hD hS 6 0 rfl rfl (vp_in_nI (by omega) (by omega)) dX0_drawUp_56 (fun H locs hP hD hS => ?_)
    have hP : va_P D vwCl [(ho, .inr (0, [vz_0, .int co, .int (nI R), .int (nI T), .int mi, .ref aW, vz_6, .ref aK, .ref aP, .ref aT, .ref aH, .ref aU])), (aW, .inl (cI, 5, .inl fW)), (aK, .inl (cI, 6, .inl fK)), (aP, .inl (cI, 6, .inl fP)), (aT, .inl (cI, 6, .inl fT)), (aH, .inl (cI, 6, .inl fH)), (aU, .inl (cI, 6, .inl (upd fU ((nI j).toNatClampNeg) ov_12)))] H := hP
    have hD : va_D A [(ho, .inr (0, [vz_0, .int co, .int (nI R), .int (nI T), .int mi, .ref aW, vz_6, .ref aK, .ref aP, .ref aT, .ref aH, .ref aU])), (aW, .inl (cI, 5, .inl fW)), (aK, .inl (cI, 6, .inl fK)), (aP, .inl (cI, 6, .inl fP)), (aT, .inl (cI, 6, .inl fT)), (aH, .inl (cI, 6, .inl fH)), (aU, .inl (cI, 6, .inl (upd fU ((nI j).toNatClampNeg) ov_12)))] := hD
    generalize upd fU ((nI j).toNatClampNeg) ov_12 = fU_13 at hP hD
    refine lv_aload_n hx hb dX0_drawUp_57 rfl (lv_at hl 2 rfl) ?_
    refine va_get (D := D) (ci := 0) (v := .ref aW) (C := RX0) (T := TX0) (N := 12) hx hb hts hi0 hown hK.1 hP 0 rfl rfl 5 (by decide) wf27 (fun _ h9 => h9) rfl dX0_drawUp_58 ?_
    refine lv_iload_n hx hb dX0_drawUp_61 rfl (lv_at hl 1 rfl) ?_
    refine lv_dup2_11 hx hb dX0_drawUp_62 rfl rfl ?_
    refine va_iald hx hb hK.1 hP 1 0 rfl rfl (vp_in_nI (by omega) (by omega)) dX0_drawUp_63 ?_
    refine lv_topi (fun ov_14 _ => ?_)
    refine lv_iload_n hx hb dX0_drawUp_64 rfl (lv_at hl 0 rfl) ?_
    refine lv_isub hx hb dX0_drawUp_65 ?_
    refine lv_topi (fun ov_15 _ => ?_)
    refine va_iast hx hb hK.1 hP hD hS 1 0 rfl rfl (vp_in_nI (by omega) (by omega)) dX0_drawUp_66 (fun H locs hP hD hS => ?_)
    have hP : va_P D vwCl [(ho, .inr (0, [vz_0, .int co, .int (nI R), .int (nI T), .int mi, .ref aW, vz_6, .ref aK, .ref aP, .ref aT, .ref aH, .ref aU])), (aW, .inl (cI, 5, .inl (upd fW ((nI q_1).toNatClampNeg) ov_15))), (aK, .inl (cI, 6, .inl fK)), (aP, .inl (cI, 6, .inl fP)), (aT, .inl (cI, 6, .inl fT)), (aH, .inl (cI, 6, .inl fH)), (aU, .inl (cI, 6, .inl fU_13))] H := hP
    have hD : va_D A [(ho, .inr (0, [vz_0, .int co, .int (nI R), .int (nI T), .int mi, .ref aW, vz_6, .ref aK, .ref aP, .ref aT, .ref aH, .ref aU])), (aW, .inl (cI, 5, .inl (upd fW ((nI q_1).toNatClampNeg) ov_15))), (aK, .inl (cI, 6, .inl fK)), (aP, .inl (cI, 6, .inl fP)), (aT, .inl (cI, 6, .inl fT)), (aH, .inl (cI, 6, .inl fH)), (aU, .inl (cI, 6, .inl fU_13))] := hD
    generalize upd fW ((nI q_1).toNatClampNeg) ov_15 = fW_16 at hP hD
    have hP9 := hP.sub (ws' := [(ho, .inr (0, [vz_0, .int co, .int (nI R), .int (nI T), .int mi, .ref aW, vz_6, .ref aK, .ref aP, .ref aT, .ref aH, .ref aU])), (aW, .inl (cI, 5, .inl fW_16)), (aK, .inl (cI, 6, .inl fK)), (aP, .inl (cI, 6, .inl fP)), (aT, .inl (cI, 6, .inl fT)), (aH, .inl (cI, 6, .inl fH)), (aU, .inl (cI, 6, .inl fU_13))]) [0, 1, 2, 3, 4, 5, 6] rfl
    have hD9 := hD.sub (ws' := [(ho, .inr (0, [vz_0, .int co, .int (nI R), .int (nI T), .int mi, .ref aW, vz_6, .ref aK, .ref aP, .ref aT, .ref aH, .ref aU])), (aW, .inl (cI, 5, .inl fW_16)), (aK, .inl (cI, 6, .inl fK)), (aP, .inl (cI, 6, .inl fP)), (aT, .inl (cI, 6, .inl fT)), (aH, .inl (cI, 6, .inl fH)), (aU, .inl (cI, 6, .inl fU_13))]) [0, 1, 2, 3, 4, 5, 6] (by decide) rfl
    exact wt_vret hx hb hr hlocks hP9 hD9 hS ⟨fW_16, fU_13, rfl⟩ dX0_drawUp_67
  · skip
    have c_2 : ¬ (q_1 < R) := fun h => c_2 ((nI_ltI (a := q_1) (b := R) (by omega) (by omega)).mpr h)
    have hP9 := hP.sub (ws' := [(ho, .inr (0, [vz_0, .int co, .int (nI R), .int (nI T), .int mi, .ref aW, vz_6, .ref aK, .ref aP, .ref aT, .ref aH, .ref aU])), (aW, .inl (cI, 5, .inl fW)), (aK, .inl (cI, 6, .inl fK)), (aP, .inl (cI, 6, .inl fP)), (aT, .inl (cI, 6, .inl fT)), (aH, .inl (cI, 6, .inl fH)), (aU, .inl (cI, 6, .inl fU))]) [0, 1, 2, 3, 4, 5, 6] rfl
    have hD9 := hD.sub (ws' := [(ho, .inr (0, [vz_0, .int co, .int (nI R), .int (nI T), .int mi, .ref aW, vz_6, .ref aK, .ref aP, .ref aT, .ref aH, .ref aU])), (aW, .inl (cI, 5, .inl fW)), (aK, .inl (cI, 6, .inl fK)), (aP, .inl (cI, 6, .inl fP)), (aT, .inl (cI, 6, .inl fT)), (aH, .inl (cI, 6, .inl fH)), (aU, .inl (cI, 6, .inl fU))]) [0, 1, 2, 3, 4, 5, 6] (by decide) rfl
    exact wt_vret hx hb hr hlocks hP9 hD9 hS ⟨fW, fU, rfl⟩ dX0_drawUp_15
set_option maxHeartbeats 4000000 in
set_option maxRecDepth 100000 in
theorem c_X0_letDown (l : Launch) (D : va_G) (cI cZ cH : ClassId) (ho aW aP aU : Nat) (R T j : Nat) (fW fP fU : Nat → Int32) (vz_0 vz_1 vz_4 vz_6 vz_7 vz_9 vz_10 : Value) (hR5 : R ≤ 5) (hT6 : T ≤ 6) (hwP : hw R T fP) (hjT : j < T) : wt_M l yX0_letDown wsX0_letDown ({ frames := 1, cells := 0, slots := 0, locals := 40 } : Room) D (wt_T cI cZ cH) [.ref ho, .int (nI j)] [(ho, .inr (0, [vz_0, vz_1, .int (nI R), .int (nI T), vz_4, .ref aW, vz_6, vz_7, .ref aP, vz_9, vz_10, .ref aU])), (aW, .inl (cI, 5, .inl fW)), (aP, .inl (cI, 6, .inl fP)), (aU, .inl (cI, 6, .inl fU))] (wt_QV D (fun w => ∃ (fW2 fU2 : Nat → Int32), w = [(ho, .inr (0, [vz_0, vz_1, .int (nI R), .int (nI T), vz_4, .ref aW, vz_6, vz_7, .ref aP, vz_9, vz_10, .ref aU])), (aW, .inl (cI, 5, .inl fW2)), (aP, .inl (cI, 6, .inl fP)), (aU, .inl (cI, 6, .inl fU2))])) := by
  refine wt_M.ofW (cc := cX0_letDown) (maxL := 3) (ret := none) (by decide) rfl (Nat.le_of_ble_eq_true rfl) ?_
  intro p e s m below meth c A ls hx hb hr hts hown hlocks hml hnm hP hK hD hA hS hl
  have hP : va_P D vwCl [(ho, .inr (0, [vz_0, vz_1, .int (nI R), .int (nI T), vz_4, .ref aW, vz_6, vz_7, .ref aP, vz_9, vz_10, .ref aU])), (aW, .inl (cI, 5, .inl fW)), (aP, .inl (cI, 6, .inl fP)), (aU, .inl (cI, 6, .inl fU))] s.heap := hP
  have hown : s.vm.findClass RX0 = some m.cls := hown
  have hl : lv_has ls 3 [(0, .ref ho), (1, .int (nI j))] := hl
  have hi0 : ∀ w ∈ u_ws RX0 TX0 12, w ∈ wsX0_letDown := by decide +kernel
  have wf18 := hts (.fieldLink RX0 18 "WarmTubes$House" "rooms" "I") (by decide +kernel)
  have wf27 := hts (.fieldLink RX0 27 "WarmTubes$House" "warmth" "[I") (by decide +kernel)
  have wf37 := hts (.fieldLink RX0 37 "WarmTubes$House" "where" "[I") (by decide +kernel)
  have wf46 := hts (.fieldLink RX0 46 "WarmTubes$House" "up" "[I") (by decide +kernel)
  have wy76 := hts (.methodLink RX0 76 Lib.Math.min.name) (by decide +kernel)
  have wycmin := hts (.code Lib.Math.min.name Lib.Math.min.code 2 (some .int)) (by decide +kernel)
  have wym := hts (.initialized "java/lang/Math") (by decide +kernel)
  have wysmin := hts (.static Lib.Math.min.name) (by decide +kernel)
  refine lv_aload_n hx hb dX0_letDown_0 rfl (lv_at hl 0 rfl) ?_
  refine va_get (D := D) (ci := 0) (v := .ref aP) (C := RX0) (T := TX0) (N := 12) hx hb hts hi0 hown hK.1 hP 0 rfl rfl 8 (by decide) wf37 (fun _ h9 => h9) rfl dX0_letDown_1 ?_
  refine lv_iload_n hx hb dX0_letDown_4 rfl (lv_at hl 1 rfl) ?_
  refine va_iald hx hb hK.1 hP 2 0 rfl rfl (vp_in_nI (by omega) (by omega)) dX0_letDown_5 ?_
  obtain ⟨q_1, hq_1, eq_1⟩ := hwP j (by omega)
  refine wt_top (z := nI q_1) (by rw [nI_clamp (by omega)]; exact eq_1) ?_
  refine lv_istore_n (lv' := [(2, .int (nI q_1)), (0, .ref ho), (1, .int (nI j))]) hx hb dX0_letDown_6 rfl hl (by decide) rfl (fun ls hl => ?_)
  refine lv_iload_n hx hb dX0_letDown_7 rfl (lv_at hl 0 rfl) ?_
  refine lv_aload_n hx hb dX0_letDown_8 rfl (lv_at hl 1 rfl) ?_
  refine va_get (D := D) (ci := 0) (v := .int (nI R)) (C := RX0) (T := TX0) (N := 12) hx hb hts hi0 hown hK.1 hP 0 rfl rfl 2 (by decide) wf18 (fun _ h9 => h9) rfl dX0_letDown_9 ?_
  refine lv_icmp_ge (tgt := 40) hx hb dX0_letDown_12 (by decide) (fun c_2 => ?_) (fun c_2 => ?_)
  · skip
    have c_2 : R ≤ q_1 := (nI_leI (a := R) (b := q_1) (by omega) (by omega)).mp c_2
    refine lv_aload_n hx hb dX0_letDown_40 rfl (lv_at hl 1 rfl) ?_
    refine va_get (D := D) (ci := 0) (v := .ref aU) (C := RX0) (T := TX0) (N := 12) hx hb hts hi0 hown hK.1 hP 0 rfl rfl 11 (by decide) wf46 (fun _ h9 => h9) rfl dX0_letDown_41 ?_
    refine lv_iload_n hx hb dX0_letDown_44 rfl (lv_at hl 2 rfl) ?_
    refine lv_iconst (v := 0) hx hb dX0_letDown_45 (by decide) ?_
    refine va_iast hx hb hK.1 hP hD hS 3 0 rfl rfl (vp_in_nI (by omega) (by omega)) dX0_letDown_46 (fun H locs hP hD hS => ?_)
    have hP : va_P D vwCl [(ho, .inr (0, [vz_0, vz_1, .int (nI R), .int (nI T), vz_4, .ref aW, vz_6, vz_7, .ref aP, vz_9, vz_10, .ref aU])), (aW, .inl (cI, 5, .inl fW)), (aP, .inl (cI, 6, .inl fP)), (aU, .inl (cI, 6, .inl (upd fU ((nI j).toNatClampNeg) 0)))] H := hP
    have hD : va_D A [(ho, .inr (0, [vz_0, vz_1, .int (nI R), .int (nI T), vz_4, .ref aW, vz_6, vz_7, .ref aP, vz_9, vz_10, .ref aU])), (aW, .inl (cI, 5, .inl fW)), (aP, .inl (cI, 6, .inl fP)), (aU, .inl (cI, 6, .inl (upd fU ((nI j).toNatClampNeg) 0)))] := hD
    generalize upd fU ((nI j).toNatClampNeg) 0 = fU_3 at hP hD
    have hP9 := hP.sub (ws' := [(ho, .inr (0, [vz_0, vz_1, .int (nI R), .int (nI T), vz_4, .ref aW, vz_6, vz_7, .ref aP, vz_9, vz_10, .ref aU])), (aW, .inl (cI, 5, .inl fW)), (aP, .inl (cI, 6, .inl fP)), (aU, .inl (cI, 6, .inl fU_3))]) [0, 1, 2, 3] rfl
    have hD9 := hD.sub (ws' := [(ho, .inr (0, [vz_0, vz_1, .int (nI R), .int (nI T), vz_4, .ref aW, vz_6, vz_7, .ref aP, vz_9, vz_10, .ref aU])), (aW, .inl (cI, 5, .inl fW)), (aP, .inl (cI, 6, .inl fP)), (aU, .inl (cI, 6, .inl fU_3))]) [0, 1, 2, 3] (by decide) rfl
    exact wt_vret hx hb hr hlocks hP9 hD9 hS ⟨fW, fU_3, rfl⟩ dX0_letDown_47
  · skip
    have c_2 : ¬ (R ≤ q_1) := fun h => c_2 ((nI_leI (a := R) (b := q_1) (by omega) (by omega)).mpr h)
    refine lv_aload_n hx hb dX0_letDown_15 rfl (lv_at hl 1 rfl) ?_
    refine va_get (D := D) (ci := 0) (v := .ref aW) (C := RX0) (T := TX0) (N := 12) hx hb hts hi0 hown hK.1 hP 0 rfl rfl 5 (by decide) wf27 (fun _ h9 => h9) rfl dX0_letDown_16 ?_
    refine lv_iload_n hx hb dX0_letDown_19 rfl (lv_at hl 0 rfl) ?_
    refine lv_sipush (v := 999) hx hb dX0_letDown_20 (by decide) ?_
    refine lv_aload_n hx hb dX0_letDown_23 rfl (lv_at hl 1 rfl) ?_
    refine va_get (D := D) (ci := 0) (v := .ref aW) (C := RX0) (T := TX0) (N := 12) hx hb hts hi0 hown hK.1 hP 0 rfl rfl 5 (by decide) wf27 (fun _ h9 => h9) rfl dX0_letDown_24 ?_
    refine lv_iload_n hx hb dX0_letDown_27 rfl (lv_at hl 0 rfl) ?_
    refine va_iald hx hb hK.1 hP 1 0 rfl rfl (vp_in_nI (by omega) (by omega)) dX0_letDown_28 ?_
    refine lv_topi (fun ov_4 _ => ?_)
    refine lv_aload_n hx hb dX0_letDown_29 rfl (lv_at hl 1 rfl) ?_
    refine va_get (D := D) (ci := 0) (v := .ref aU) (C := RX0) (T := TX0) (N := 12) hx hb hts hi0 hown hK.1 hP 0 rfl rfl 11 (by decide) wf46 (fun _ h9 => h9) rfl dX0_letDown_30 ?_
    refine lv_iload_n hx hb dX0_letDown_33 rfl (lv_at hl 2 rfl) ?_
    refine va_iald hx hb hK.1 hP 3 0 rfl rfl (vp_in_nI (by omega) (by omega)) dX0_letDown_34 ?_
    refine lv_topi (fun ov_5 _ => ?_)
    refine lv_iadd hx hb dX0_letDown_35 ?_
    refine lv_topi (fun ov_6 _ => ?_)
    refine va_mmin hx hb (hml.trans hl.1.symm) hown wy76 wysmin wym wycmin (Nat.le_of_ble_eq_true rfl) (Nat.le_of_ble_eq_true rfl) (Nat.zero_le _) (Nat.zero_le _) dX0_letDown_36 ?_
    refine lv_topi (fun ov_7 _ => ?_)
    refine va_iast hx hb hK.1 hP hD hS 1 0 rfl rfl (vp_in_nI (by omega) (by omega)) dX0_letDown_39 (fun H locs hP hD hS => ?_)
    have hP : va_P D vwCl [(ho, .inr (0, [vz_0, vz_1, .int (nI R), .int (nI T), vz_4, .ref aW, vz_6, vz_7, .ref aP, vz_9, vz_10, .ref aU])), (aW, .inl (cI, 5, .inl (upd fW ((nI q_1).toNatClampNeg) ov_7))), (aP, .inl (cI, 6, .inl fP)), (aU, .inl (cI, 6, .inl fU))] H := hP
    have hD : va_D A [(ho, .inr (0, [vz_0, vz_1, .int (nI R), .int (nI T), vz_4, .ref aW, vz_6, vz_7, .ref aP, vz_9, vz_10, .ref aU])), (aW, .inl (cI, 5, .inl (upd fW ((nI q_1).toNatClampNeg) ov_7))), (aP, .inl (cI, 6, .inl fP)), (aU, .inl (cI, 6, .inl fU))] := hD
    generalize upd fW ((nI q_1).toNatClampNeg) ov_7 = fW_8 at hP hD
    refine lv_aload_n hx hb dX0_letDown_40 rfl (lv_at hl 1 rfl) ?_
    refine va_get (D := D) (ci := 0) (v := .ref aU) (C := RX0) (T := TX0) (N := 12) hx hb hts hi0 hown hK.1 hP 0 rfl rfl 11 (by decide) wf46 (fun _ h9 => h9) rfl dX0_letDown_41 ?_
    refine lv_iload_n hx hb dX0_letDown_44 rfl (lv_at hl 2 rfl) ?_
    refine lv_iconst (v := 0) hx hb dX0_letDown_45 (by decide) ?_
    refine va_iast hx hb hK.1 hP hD hS 3 0 rfl rfl (vp_in_nI (by omega) (by omega)) dX0_letDown_46 (fun H locs hP hD hS => ?_)
    have hP : va_P D vwCl [(ho, .inr (0, [vz_0, vz_1, .int (nI R), .int (nI T), vz_4, .ref aW, vz_6, vz_7, .ref aP, vz_9, vz_10, .ref aU])), (aW, .inl (cI, 5, .inl fW_8)), (aP, .inl (cI, 6, .inl fP)), (aU, .inl (cI, 6, .inl (upd fU ((nI j).toNatClampNeg) 0)))] H := hP
    have hD : va_D A [(ho, .inr (0, [vz_0, vz_1, .int (nI R), .int (nI T), vz_4, .ref aW, vz_6, vz_7, .ref aP, vz_9, vz_10, .ref aU])), (aW, .inl (cI, 5, .inl fW_8)), (aP, .inl (cI, 6, .inl fP)), (aU, .inl (cI, 6, .inl (upd fU ((nI j).toNatClampNeg) 0)))] := hD
    generalize upd fU ((nI j).toNatClampNeg) 0 = fU_9 at hP hD
    have hP9 := hP.sub (ws' := [(ho, .inr (0, [vz_0, vz_1, .int (nI R), .int (nI T), vz_4, .ref aW, vz_6, vz_7, .ref aP, vz_9, vz_10, .ref aU])), (aW, .inl (cI, 5, .inl fW_8)), (aP, .inl (cI, 6, .inl fP)), (aU, .inl (cI, 6, .inl fU_9))]) [0, 1, 2, 3] rfl
    have hD9 := hD.sub (ws' := [(ho, .inr (0, [vz_0, vz_1, .int (nI R), .int (nI T), vz_4, .ref aW, vz_6, vz_7, .ref aP, vz_9, vz_10, .ref aU])), (aW, .inl (cI, 5, .inl fW_8)), (aP, .inl (cI, 6, .inl fP)), (aU, .inl (cI, 6, .inl fU_9))]) [0, 1, 2, 3] (by decide) rfl
    exact wt_vret hx hb hr hlocks hP9 hD9 hS ⟨fW_8, fU_9, rfl⟩ dX0_letDown_47
set_option maxHeartbeats 4000000 in
set_option maxRecDepth 100000 in
theorem c_X0_passMinute (l : Launch) (D : va_G) (cI cZ cH : ClassId) (ho aW aS aK aP aT aH aU : Nat) (R T : Nat) (fr co mi : Int32) (fW fS fK fP fT fH fU : Nat → Int32) (hR5 : R ≤ 5) (hT6 : T ≤ 6) (hwP : hw R T fP) : wt_M l yX0_passMinute wsX0_passMinute ({ frames := 3, cells := 0, slots := 0, locals := 65 } : Room) D (wt_T cI cZ cH) [.ref ho] [(ho, .inr (0, [.int fr, .int co, .int (nI R), .int (nI T), .int mi, .ref aW, .ref aS, .ref aK, .ref aP, .ref aT, .ref aH, .ref aU])), (aW, .inl (cI, 5, .inl fW)), (aS, .inl (cI, 5, .inl fS)), (aK, .inl (cI, 6, .inl fK)), (aP, .inl (cI, 6, .inl fP)), (aT, .inl (cI, 6, .inl fT)), (aH, .inl (cI, 6, .inl fH)), (aU, .inl (cI, 6, .inl fU))] (wt_QV D (fun w => ∃ (fW2 fU2 : Nat → Int32) (ho_f4 : Int32), w = [(ho, .inr (0, [.int fr, .int co, .int (nI R), .int (nI T), .int ho_f4, .ref aW, .ref aS, .ref aK, .ref aP, .ref aT, .ref aH, .ref aU])), (aW, .inl (cI, 5, .inl fW2)), (aS, .inl (cI, 5, .inl fS)), (aK, .inl (cI, 6, .inl fK)), (aP, .inl (cI, 6, .inl fP)), (aT, .inl (cI, 6, .inl fT)), (aH, .inl (cI, 6, .inl fH)), (aU, .inl (cI, 6, .inl fU2))])) := by
  refine wt_M.ofW (cc := cX0_passMinute) (maxL := 2) (ret := none) (by decide) rfl (Nat.le_of_ble_eq_true rfl) ?_
  intro p e s m below meth c A ls hx hb hr hts hown hlocks hml hnm hP hK hD hA hS hl
  have hP : va_P D vwCl [(ho, .inr (0, [.int fr, .int co, .int (nI R), .int (nI T), .int mi, .ref aW, .ref aS, .ref aK, .ref aP, .ref aT, .ref aH, .ref aU])), (aW, .inl (cI, 5, .inl fW)), (aS, .inl (cI, 5, .inl fS)), (aK, .inl (cI, 6, .inl fK)), (aP, .inl (cI, 6, .inl fP)), (aT, .inl (cI, 6, .inl fT)), (aH, .inl (cI, 6, .inl fH)), (aU, .inl (cI, 6, .inl fU))] s.heap := hP
  have hown : s.vm.findClass RX0 = some m.cls := hown
  have hl : lv_has ls 2 [(0, .ref ho)] := hl
  have hi0 : ∀ w ∈ u_ws RX0 TX0 12, w ∈ wsX0_passMinute := by decide +kernel
  have wf18 := hts (.fieldLink RX0 18 "WarmTubes$House" "rooms" "I") (by decide +kernel)
  have wf21 := hts (.fieldLink RX0 21 "WarmTubes$House" "tubes" "I") (by decide +kernel)
  have wf24 := hts (.fieldLink RX0 24 "WarmTubes$House" "minute" "I") (by decide +kernel)
  have wf27 := hts (.fieldLink RX0 27 "WarmTubes$House" "warmth" "[I") (by decide +kernel)
  have wf31 := hts (.fieldLink RX0 31 "WarmTubes$House" "stove" "[I") (by decide +kernel)
  have wf9 := hts (.fieldLink RX0 9 "WarmTubes$House" "frost" "I") (by decide +kernel)
  have wy70 := hts (.methodLink RX0 70 Lib.Math.max.name) (by decide +kernel)
  have wy76 := hts (.methodLink RX0 76 Lib.Math.min.name) (by decide +kernel)
  have wycmax := hts (.code Lib.Math.max.name Lib.Math.max.code 2 (some .int)) (by decide +kernel)
  have wycmin := hts (.code Lib.Math.min.name Lib.Math.min.code 2 (some .int)) (by decide +kernel)
  have wym := hts (.initialized "java/lang/Math") (by decide +kernel)
  have wysmax := hts (.static Lib.Math.max.name) (by decide +kernel)
  have wysmin := hts (.static Lib.Math.min.name) (by decide +kernel)
  refine lv_iconst (v := 0) hx hb dX0_passMinute_0 (by decide) ?_
  refine lv_istore_n (lv' := [(1, .int 0), (0, .ref ho)]) hx hb dX0_passMinute_1 rfl hl (by decide) rfl (fun ls hl => ?_)
  have loop2 : ∀ (k i_1 : Nat) (fW_2 : Nat → Int32) (fU_3 : Nat → Int32) (H : Heap) (locs : List Loc) (ls : Array Slot), i_1 + k = T → va_P D vwCl [(ho, .inr (0, [.int fr, .int co, .int (nI R), .int (nI T), .int mi, .ref aW, .ref aS, .ref aK, .ref aP, .ref aT, .ref aH, .ref aU])), (aW, .inl (cI, 5, .inl fW_2)), (aS, .inl (cI, 5, .inl fS)), (aK, .inl (cI, 6, .inl fK)), (aP, .inl (cI, 6, .inl fP)), (aT, .inl (cI, 6, .inl fT)), (aH, .inl (cI, 6, .inl fH)), (aU, .inl (cI, 6, .inl fU_3))] H → va_D A [(ho, .inr (0, [.int fr, .int co, .int (nI R), .int (nI T), .int mi, .ref aW, .ref aS, .ref aK, .ref aP, .ref aT, .ref aH, .ref aU])), (aW, .inl (cI, 5, .inl fW_2)), (aS, .inl (cI, 5, .inl fS)), (aK, .inl (cI, 6, .inl fK)), (aP, .inl (cI, 6, .inl fP)), (aT, .inl (cI, 6, .inl fT)), (aH, .inl (cI, 6, .inl fH)), (aU, .inl (cI, 6, .inl fU_3))] → va_S A s.heap H locs → lv_has ls 2 [(1, .int (nI i_1)), (0, .ref ho)] → W p l e ({ frames := 3, cells := 0, slots := 0, locals := 65 } : Room) s m ([.ref ho] : List Value).toArray below meth c H locs 0 0 (MQ below (wt_QV D (fun w => ∃ (fW2 fU2 : Nat → Int32) (ho_f4 : Int32), w = [(ho, .inr (0, [.int fr, .int co, .int (nI R), .int (nI T), .int ho_f4, .ref aW, .ref aS, .ref aK, .ref aP, .ref aT, .ref aH, .ref aU])), (aW, .inl (cI, 5, .inl fW2)), (aS, .inl (cI, 5, .inl fS)), (aK, .inl (cI, 6, .inl fK)), (aP, .inl (cI, 6, .inl fP)), (aT, .inl (cI, 6, .inl fT)), (aH, .inl (cI, 6, .inl fH)), (aU, .inl (cI, 6, .inl fU2))]) A) ([.ref ho] : List Value).toArray s 0 0 A) (F0 m 2 ls []) := by
    intro k
    induction k with
    | zero =>
      intro i_1 fW_2 fU_3 H locs ls hik  hP hD hS hl
      refine lv_iload_n hx hb dX0_passMinute_2 rfl (lv_at hl 0 rfl) ?_
      refine lv_aload_n hx hb dX0_passMinute_3 rfl (lv_at hl 1 rfl) ?_
      refine va_get (D := D) (ci := 0) (v := .int (nI T)) (C := RX0) (T := TX0) (N := 12) hx hb hts hi0 hown hK.1 hP 0 rfl rfl 3 (by decide) wf21 (fun _ h9 => h9) rfl dX0_passMinute_4 ?_
      refine lv_icmp_ge (tgt := 26) hx hb dX0_passMinute_7 (by decide) (fun _ => ?_) (fun h => absurd (nI_le (a := T) (b := i_1) (by omega) (by omega)) h)
      refine lv_iconst (v := 0) hx hb dX0_passMinute_26 (by decide) ?_
      refine lv_istore_n (lv' := [(1, .int 0), (0, .ref ho)]) hx hb dX0_passMinute_27 rfl hl (by decide) rfl (fun ls hl => ?_)
      have loop28 : ∀ (k i_4 : Nat) (fW_2_5 : Nat → Int32) (H : Heap) (locs : List Loc) (ls : Array Slot), i_4 + k = R → va_P D vwCl [(ho, .inr (0, [.int fr, .int co, .int (nI R), .int (nI T), .int mi, .ref aW, .ref aS, .ref aK, .ref aP, .ref aT, .ref aH, .ref aU])), (aW, .inl (cI, 5, .inl fW_2_5)), (aS, .inl (cI, 5, .inl fS)), (aK, .inl (cI, 6, .inl fK)), (aP, .inl (cI, 6, .inl fP)), (aT, .inl (cI, 6, .inl fT)), (aH, .inl (cI, 6, .inl fH)), (aU, .inl (cI, 6, .inl fU_3))] H → va_D A [(ho, .inr (0, [.int fr, .int co, .int (nI R), .int (nI T), .int mi, .ref aW, .ref aS, .ref aK, .ref aP, .ref aT, .ref aH, .ref aU])), (aW, .inl (cI, 5, .inl fW_2_5)), (aS, .inl (cI, 5, .inl fS)), (aK, .inl (cI, 6, .inl fK)), (aP, .inl (cI, 6, .inl fP)), (aT, .inl (cI, 6, .inl fT)), (aH, .inl (cI, 6, .inl fH)), (aU, .inl (cI, 6, .inl fU_3))] → va_S A s.heap H locs → lv_has ls 2 [(1, .int (nI i_4)), (0, .ref ho)] → W p l e ({ frames := 3, cells := 0, slots := 0, locals := 65 } : Room) s m ([.ref ho] : List Value).toArray below meth c H locs 0 0 (MQ below (wt_QV D (fun w => ∃ (fW2 fU2 : Nat → Int32) (ho_f4 : Int32), w = [(ho, .inr (0, [.int fr, .int co, .int (nI R), .int (nI T), .int ho_f4, .ref aW, .ref aS, .ref aK, .ref aP, .ref aT, .ref aH, .ref aU])), (aW, .inl (cI, 5, .inl fW2)), (aS, .inl (cI, 5, .inl fS)), (aK, .inl (cI, 6, .inl fK)), (aP, .inl (cI, 6, .inl fP)), (aT, .inl (cI, 6, .inl fT)), (aH, .inl (cI, 6, .inl fH)), (aU, .inl (cI, 6, .inl fU2))]) A) ([.ref ho] : List Value).toArray s 0 0 A) (F0 m 28 ls []) := by
        intro k
        induction k with
        | zero =>
          intro i_4 fW_2_5 H locs ls hik  hP hD hS hl
          refine lv_iload_n hx hb dX0_passMinute_28 rfl (lv_at hl 0 rfl) ?_
          refine lv_aload_n hx hb dX0_passMinute_29 rfl (lv_at hl 1 rfl) ?_
          refine va_get (D := D) (ci := 0) (v := .int (nI R)) (C := RX0) (T := TX0) (N := 12) hx hb hts hi0 hown hK.1 hP 0 rfl rfl 2 (by decide) wf18 (fun _ h9 => h9) rfl dX0_passMinute_30 ?_
          refine lv_icmp_ge (tgt := 76) hx hb dX0_passMinute_33 (by decide) (fun _ => ?_) (fun h => absurd (nI_le (a := R) (b := i_4) (by omega) (by omega)) h)
          refine lv_aload_n hx hb dX0_passMinute_76 rfl (lv_at hl 1 rfl) ?_
          refine lv_dup hx hb dX0_passMinute_77 rfl ?_
          refine va_get (D := D) (ci := 0) (v := .int mi) (C := RX0) (T := TX0) (N := 12) hx hb hts hi0 hown hK.1 hP 0 rfl rfl 4 (by decide) wf24 (fun _ h9 => h9) rfl dX0_passMinute_78 ?_
          refine lv_iconst (v := 1) hx hb dX0_passMinute_81 (by decide) ?_
          refine lv_iadd hx hb dX0_passMinute_82 ?_
          refine lv_topi (fun ov_6 _ => ?_)
          refine va_put (D := D) (ci := 0) (v := .int ov_6) (ty := .int) (C := RX0) (T := TX0) (N := 12) hx hb hts hi0 tyX0 tyX0_ok nmX0 hown hK.1 hP hD hS 0 rfl rfl 4 (by decide) wf24 (fun _ h9 => h9) rfl (by decide +kernel) rfl rfl (Nat.le_of_ble_eq_true rfl) dX0_passMinute_83 (fun H locs hP hD hS => ?_)
          have hP : va_P D vwCl [(ho, .inr (0, [.int fr, .int co, .int (nI R), .int (nI T), .int ov_6, .ref aW, .ref aS, .ref aK, .ref aP, .ref aT, .ref aH, .ref aU])), (aW, .inl (cI, 5, .inl fW_2_5)), (aS, .inl (cI, 5, .inl fS)), (aK, .inl (cI, 6, .inl fK)), (aP, .inl (cI, 6, .inl fP)), (aT, .inl (cI, 6, .inl fT)), (aH, .inl (cI, 6, .inl fH)), (aU, .inl (cI, 6, .inl fU_3))] H := hP
          have hD : va_D A [(ho, .inr (0, [.int fr, .int co, .int (nI R), .int (nI T), .int ov_6, .ref aW, .ref aS, .ref aK, .ref aP, .ref aT, .ref aH, .ref aU])), (aW, .inl (cI, 5, .inl fW_2_5)), (aS, .inl (cI, 5, .inl fS)), (aK, .inl (cI, 6, .inl fK)), (aP, .inl (cI, 6, .inl fP)), (aT, .inl (cI, 6, .inl fT)), (aH, .inl (cI, 6, .inl fH)), (aU, .inl (cI, 6, .inl fU_3))] := hD
          have hP9 := hP.sub (ws' := [(ho, .inr (0, [.int fr, .int co, .int (nI R), .int (nI T), .int ov_6, .ref aW, .ref aS, .ref aK, .ref aP, .ref aT, .ref aH, .ref aU])), (aW, .inl (cI, 5, .inl fW_2_5)), (aS, .inl (cI, 5, .inl fS)), (aK, .inl (cI, 6, .inl fK)), (aP, .inl (cI, 6, .inl fP)), (aT, .inl (cI, 6, .inl fT)), (aH, .inl (cI, 6, .inl fH)), (aU, .inl (cI, 6, .inl fU_3))]) [0, 1, 2, 3, 4, 5, 6, 7] rfl
          have hD9 := hD.sub (ws' := [(ho, .inr (0, [.int fr, .int co, .int (nI R), .int (nI T), .int ov_6, .ref aW, .ref aS, .ref aK, .ref aP, .ref aT, .ref aH, .ref aU])), (aW, .inl (cI, 5, .inl fW_2_5)), (aS, .inl (cI, 5, .inl fS)), (aK, .inl (cI, 6, .inl fK)), (aP, .inl (cI, 6, .inl fP)), (aT, .inl (cI, 6, .inl fT)), (aH, .inl (cI, 6, .inl fH)), (aU, .inl (cI, 6, .inl fU_3))]) [0, 1, 2, 3, 4, 5, 6, 7] (by decide) rfl
          exact wt_vret hx hb hr hlocks hP9 hD9 hS ⟨fW_2_5, fU_3, ov_6, rfl⟩ dX0_passMinute_86
        | succ k ih =>
          intro i_4 fW_2_5 H locs ls hik  hP hD hS hl
          refine lv_iload_n hx hb dX0_passMinute_28 rfl (lv_at hl 0 rfl) ?_
          refine lv_aload_n hx hb dX0_passMinute_29 rfl (lv_at hl 1 rfl) ?_
          refine va_get (D := D) (ci := 0) (v := .int (nI R)) (C := RX0) (T := TX0) (N := 12) hx hb hts hi0 hown hK.1 hP 0 rfl rfl 2 (by decide) wf18 (fun _ h9 => h9) rfl dX0_passMinute_30 ?_
          refine lv_icmp_ge (tgt := 76) hx hb dX0_passMinute_33 (by decide) (fun h => absurd h (nI_ge (a := i_4) (b := R) (by omega) (by omega))) (fun _ => ?_)
          refine lv_aload_n hx hb dX0_passMinute_36 rfl (lv_at hl 1 rfl) ?_
          refine va_get (D := D) (ci := 0) (v := .ref aW) (C := RX0) (T := TX0) (N := 12) hx hb hts hi0 hown hK.1 hP 0 rfl rfl 5 (by decide) wf27 (fun _ h9 => h9) rfl dX0_passMinute_37 ?_
          refine lv_iload_n hx hb dX0_passMinute_40 rfl (lv_at hl 0 rfl) ?_
          refine lv_sipush (v := 999) hx hb dX0_passMinute_41 (by decide) ?_
          refine lv_iconst (v := 0) hx hb dX0_passMinute_44 (by decide) ?_
          refine lv_aload_n hx hb dX0_passMinute_45 rfl (lv_at hl 1 rfl) ?_
          refine va_get (D := D) (ci := 0) (v := .ref aW) (C := RX0) (T := TX0) (N := 12) hx hb hts hi0 hown hK.1 hP 0 rfl rfl 5 (by decide) wf27 (fun _ h9 => h9) rfl dX0_passMinute_46 ?_
          refine lv_iload_n hx hb dX0_passMinute_49 rfl (lv_at hl 0 rfl) ?_
          refine va_iald hx hb hK.1 hP 1 0 rfl rfl (vp_in_nI (by omega) (by omega)) dX0_passMinute_50 ?_
          refine lv_topi (fun ov_7 _ => ?_)
          refine lv_aload_n hx hb dX0_passMinute_51 rfl (lv_at hl 1 rfl) ?_
          refine va_get (D := D) (ci := 0) (v := .int fr) (C := RX0) (T := TX0) (N := 12) hx hb hts hi0 hown hK.1 hP 0 rfl rfl 0 (by decide) wf9 (fun _ h9 => h9) rfl dX0_passMinute_52 ?_
          refine lv_isub hx hb dX0_passMinute_55 ?_
          refine lv_topi (fun ov_8 _ => ?_)
          refine va_mmax hx hb (hml.trans hl.1.symm) hown wy70 wysmax wym wycmax (Nat.le_of_ble_eq_true rfl) (Nat.le_of_ble_eq_true rfl) (Nat.zero_le _) (Nat.zero_le _) dX0_passMinute_56 ?_
          refine lv_topi (fun ov_9 _ => ?_)
          refine lv_aload_n hx hb dX0_passMinute_59 rfl (lv_at hl 1 rfl) ?_
          refine va_get (D := D) (ci := 0) (v := .ref aS) (C := RX0) (T := TX0) (N := 12) hx hb hts hi0 hown hK.1 hP 0 rfl rfl 6 (by decide) wf31 (fun _ h9 => h9) rfl dX0_passMinute_60 ?_
          refine lv_iload_n hx hb dX0_passMinute_63 rfl (lv_at hl 0 rfl) ?_
          refine va_iald hx hb hK.1 hP 2 0 rfl rfl (vp_in_nI (by omega) (by omega)) dX0_passMinute_64 ?_
          refine lv_topi (fun ov_10 _ => ?_)
          refine lv_iadd hx hb dX0_passMinute_65 ?_
          refine lv_topi (fun ov_11 _ => ?_)
          refine va_mmin hx hb (hml.trans hl.1.symm) hown wy76 wysmin wym wycmin (Nat.le_of_ble_eq_true rfl) (Nat.le_of_ble_eq_true rfl) (Nat.zero_le _) (Nat.zero_le _) dX0_passMinute_66 ?_
          refine lv_topi (fun ov_12 _ => ?_)
          refine va_iast hx hb hK.1 hP hD hS 1 0 rfl rfl (vp_in_nI (by omega) (by omega)) dX0_passMinute_69 (fun H locs hP hD hS => ?_)
          have hP : va_P D vwCl [(ho, .inr (0, [.int fr, .int co, .int (nI R), .int (nI T), .int mi, .ref aW, .ref aS, .ref aK, .ref aP, .ref aT, .ref aH, .ref aU])), (aW, .inl (cI, 5, .inl (upd fW_2_5 ((nI i_4).toNatClampNeg) ov_12))), (aS, .inl (cI, 5, .inl fS)), (aK, .inl (cI, 6, .inl fK)), (aP, .inl (cI, 6, .inl fP)), (aT, .inl (cI, 6, .inl fT)), (aH, .inl (cI, 6, .inl fH)), (aU, .inl (cI, 6, .inl fU_3))] H := hP
          have hD : va_D A [(ho, .inr (0, [.int fr, .int co, .int (nI R), .int (nI T), .int mi, .ref aW, .ref aS, .ref aK, .ref aP, .ref aT, .ref aH, .ref aU])), (aW, .inl (cI, 5, .inl (upd fW_2_5 ((nI i_4).toNatClampNeg) ov_12))), (aS, .inl (cI, 5, .inl fS)), (aK, .inl (cI, 6, .inl fK)), (aP, .inl (cI, 6, .inl fP)), (aT, .inl (cI, 6, .inl fT)), (aH, .inl (cI, 6, .inl fH)), (aU, .inl (cI, 6, .inl fU_3))] := hD
          generalize upd fW_2_5 ((nI i_4).toNatClampNeg) ov_12 = fW_2_13 at hP hD
          refine lv_iinc (v := nI (i_4 + 1)) (lv' := [(1, .int (nI (i_4 + 1))), (0, .ref ho)]) hx hb dX0_passMinute_70 hl (k := 0) rfl (nI_add i_4 1) (by decide) rfl (fun ls hl => ?_)
          refine lv_goto (tgt := 28) hx hb dX0_passMinute_73 (by decide) ?_
          exact ih ((i_4 + 1)) fW_2_13 H locs ls (by omega)  hP hD hS (lv_sub hl [0, 1] rfl)
      exact loop28 (R - 0) (0) fW_2 _ _ ls (by omega)  hP hD hS hl
    | succ k ih =>
      intro i_1 fW_2 fU_3 H locs ls hik  hP hD hS hl
      refine lv_iload_n hx hb dX0_passMinute_2 rfl (lv_at hl 0 rfl) ?_
      refine lv_aload_n hx hb dX0_passMinute_3 rfl (lv_at hl 1 rfl) ?_
      refine va_get (D := D) (ci := 0) (v := .int (nI T)) (C := RX0) (T := TX0) (N := 12) hx hb hts hi0 hown hK.1 hP 0 rfl rfl 3 (by decide) wf21 (fun _ h9 => h9) rfl dX0_passMinute_4 ?_
      refine lv_icmp_ge (tgt := 26) hx hb dX0_passMinute_7 (by decide) (fun h => absurd h (nI_ge (a := i_1) (b := T) (by omega) (by omega))) (fun _ => ?_)
      refine lv_aload_n hx hb dX0_passMinute_10 rfl (lv_at hl 1 rfl) ?_
      refine lv_iload_n hx hb dX0_passMinute_11 rfl (lv_at hl 0 rfl) ?_
      refine wt_goV (wr := [(aS, .inl (cI, 5, .inl fS)), (aT, .inl (cI, 6, .inl fT)), (aH, .inl (cI, 6, .inl fH))]) (wt_runV (As := [.int (nI i_1)]) (rest := []) ⟨hx, hb, hml, hown, hts⟩ (c_X0_giveBack l D cI cZ cH ho aW aK aP aU R T i_1 fW_2 fK fP fU_3 (.int fr) (.int co) (.int mi) (.ref aS) (.ref aT) (.ref aH) (by first | assumption | omega) (by first | assumption | omega) (by first | assumption | omega) (by first | assumption | omega)) (cwV 1 hts gX0_passMinute_X0_giveBack rfl rfl rfl (by decide +kernel) ⟨Nat.le_of_ble_eq_true rfl, Nat.le_of_ble_eq_true rfl⟩) hK hP hD [0, 1, 3, 4, 7] rfl (by decide) (va_recv hK.1 hP (ci := 0) (q0 := 0) rfl rfl) rfl hl.1 rfl (Nat.le_of_ble_eq_true rfl) dX0_passMinute_12 ⟨Nat.le_of_ble_eq_true rfl, Nat.le_of_ble_eq_true rfl⟩) hP hD hS hA [0, 1, 3, 4, 7] [2, 5, 6] rfl rfl (by decide) (by decide) (fun w_15 H locs h_16 hP hD hS => ?_)
      obtain ⟨fW2_17, fU2_18, rfl⟩ := h_16
      have hP : va_P D vwCl [(aS, .inl (cI, 5, .inl fS)), (aT, .inl (cI, 6, .inl fT)), (aH, .inl (cI, 6, .inl fH)), (ho, .inr (0, [.int fr, .int co, .int (nI R), .int (nI T), .int mi, .ref aW, .ref aS, .ref aK, .ref aP, .ref aT, .ref aH, .ref aU])), (aW, .inl (cI, 5, .inl fW2_17)), (aK, .inl (cI, 6, .inl fK)), (aP, .inl (cI, 6, .inl fP)), (aU, .inl (cI, 6, .inl fU2_18))] H := hP
      have hD : va_D A [(aS, .inl (cI, 5, .inl fS)), (aT, .inl (cI, 6, .inl fT)), (aH, .inl (cI, 6, .inl fH)), (ho, .inr (0, [.int fr, .int co, .int (nI R), .int (nI T), .int mi, .ref aW, .ref aS, .ref aK, .ref aP, .ref aT, .ref aH, .ref aU])), (aW, .inl (cI, 5, .inl fW2_17)), (aK, .inl (cI, 6, .inl fK)), (aP, .inl (cI, 6, .inl fP)), (aU, .inl (cI, 6, .inl fU2_18))] := hD
      refine lv_aload_n hx hb dX0_passMinute_15 rfl (lv_at hl 1 rfl) ?_
      refine lv_iload_n hx hb dX0_passMinute_16 rfl (lv_at hl 0 rfl) ?_
      refine wt_goV (wr := [(aS, .inl (cI, 5, .inl fS))]) (wt_runV (As := [.int (nI i_1)]) (rest := []) ⟨hx, hb, hml, hown, hts⟩ (c_X0_drawUp l D cI cZ cH ho aW aK aP aT aH aU R T i_1 co mi fW2_17 fK fP fT fH fU2_18 (.int fr) (.ref aS) (by first | assumption | omega) (by first | assumption | omega) (by first | assumption | omega) (by first | assumption | omega)) (cwV 1 hts gX0_passMinute_X0_drawUp rfl rfl rfl (by decide +kernel) ⟨Nat.le_of_ble_eq_true rfl, Nat.le_of_ble_eq_true rfl⟩) hK hP hD [3, 4, 5, 6, 1, 2, 7] rfl (by decide) (va_recv hK.1 hP (ci := 0) (q0 := 3) rfl rfl) rfl hl.1 rfl (Nat.le_of_ble_eq_true rfl) dX0_passMinute_17 ⟨Nat.le_of_ble_eq_true rfl, Nat.le_of_ble_eq_true rfl⟩) hP hD hS hA [3, 4, 5, 6, 1, 2, 7] [0] rfl rfl (by decide) (by decide) (fun w_20 H locs h_21 hP hD hS => ?_)
      obtain ⟨fW2_22, fU2_23, rfl⟩ := h_21
      have hP : va_P D vwCl [(aS, .inl (cI, 5, .inl fS)), (ho, .inr (0, [.int fr, .int co, .int (nI R), .int (nI T), .int mi, .ref aW, .ref aS, .ref aK, .ref aP, .ref aT, .ref aH, .ref aU])), (aW, .inl (cI, 5, .inl fW2_22)), (aK, .inl (cI, 6, .inl fK)), (aP, .inl (cI, 6, .inl fP)), (aT, .inl (cI, 6, .inl fT)), (aH, .inl (cI, 6, .inl fH)), (aU, .inl (cI, 6, .inl fU2_23))] H := hP
      have hD : va_D A [(aS, .inl (cI, 5, .inl fS)), (ho, .inr (0, [.int fr, .int co, .int (nI R), .int (nI T), .int mi, .ref aW, .ref aS, .ref aK, .ref aP, .ref aT, .ref aH, .ref aU])), (aW, .inl (cI, 5, .inl fW2_22)), (aK, .inl (cI, 6, .inl fK)), (aP, .inl (cI, 6, .inl fP)), (aT, .inl (cI, 6, .inl fT)), (aH, .inl (cI, 6, .inl fH)), (aU, .inl (cI, 6, .inl fU2_23))] := hD
      refine lv_iinc (v := nI (i_1 + 1)) (lv' := [(1, .int (nI (i_1 + 1))), (0, .ref ho)]) hx hb dX0_passMinute_20 hl (k := 0) rfl (nI_add i_1 1) (by decide) rfl (fun ls hl => ?_)
      refine lv_goto (tgt := 2) hx hb dX0_passMinute_23 (by decide) ?_
      exact ih ((i_1 + 1)) fW2_22 fU2_23 H locs ls (by omega)  (hP.sub [1, 2, 0, 3, 4, 5, 6, 7] rfl) (hD.sub [1, 2, 0, 3, 4, 5, 6, 7] (by decide) rfl) hS (lv_sub hl [0, 1] rfl)
  exact loop2 (T - 0) (0) fW fU _ _ ls (by omega)  hP hD hS hl
set_option maxHeartbeats 4000000 in
set_option maxRecDepth 100000 in
theorem c_X0_passMinutes (l : Launch) (D : va_G) (cI cZ cH : ClassId) (ho aW aS aK aP aT aH aU : Nat) (R T n : Nat) (fr co mi : Int32) (fW fS fK fP fT fH fU : Nat → Int32) (hR5 : R ≤ 5) (hT6 : T ≤ 6) (hwP : hw R T fP) (hn : n ≤ 60) : wt_M l yX0_passMinutes wsX0_passMinutes ({ frames := 4, cells := 0, slots := 0, locals := 86 } : Room) D (wt_T cI cZ cH) [.ref ho, .int (nI n)] [(ho, .inr (0, [.int fr, .int co, .int (nI R), .int (nI T), .int mi, .ref aW, .ref aS, .ref aK, .ref aP, .ref aT, .ref aH, .ref aU])), (aW, .inl (cI, 5, .inl fW)), (aS, .inl (cI, 5, .inl fS)), (aK, .inl (cI, 6, .inl fK)), (aP, .inl (cI, 6, .inl fP)), (aT, .inl (cI, 6, .inl fT)), (aH, .inl (cI, 6, .inl fH)), (aU, .inl (cI, 6, .inl fU))] (wt_QV D (fun w => ∃ (fW2 fU2 : Nat → Int32) (ho_f4 : Int32), w = [(ho, .inr (0, [.int fr, .int co, .int (nI R), .int (nI T), .int ho_f4, .ref aW, .ref aS, .ref aK, .ref aP, .ref aT, .ref aH, .ref aU])), (aW, .inl (cI, 5, .inl fW2)), (aS, .inl (cI, 5, .inl fS)), (aK, .inl (cI, 6, .inl fK)), (aP, .inl (cI, 6, .inl fP)), (aT, .inl (cI, 6, .inl fT)), (aH, .inl (cI, 6, .inl fH)), (aU, .inl (cI, 6, .inl fU2))])) := by
  refine wt_M.ofW (cc := cX0_passMinutes) (maxL := 3) (ret := none) (by decide) rfl (Nat.le_of_ble_eq_true rfl) ?_
  intro p e s m below meth c A ls hx hb hr hts hown hlocks hml hnm hP hK hD hA hS hl
  have hP : va_P D vwCl [(ho, .inr (0, [.int fr, .int co, .int (nI R), .int (nI T), .int mi, .ref aW, .ref aS, .ref aK, .ref aP, .ref aT, .ref aH, .ref aU])), (aW, .inl (cI, 5, .inl fW)), (aS, .inl (cI, 5, .inl fS)), (aK, .inl (cI, 6, .inl fK)), (aP, .inl (cI, 6, .inl fP)), (aT, .inl (cI, 6, .inl fT)), (aH, .inl (cI, 6, .inl fH)), (aU, .inl (cI, 6, .inl fU))] s.heap := hP
  have hown : s.vm.findClass RX0 = some m.cls := hown
  have hl : lv_has ls 3 [(0, .ref ho), (1, .int (nI n))] := hl
  refine lv_iconst (v := 0) hx hb dX0_passMinutes_0 (by decide) ?_
  refine lv_istore_n (lv' := [(2, .int 0), (0, .ref ho), (1, .int (nI n))]) hx hb dX0_passMinutes_1 rfl hl (by decide) rfl (fun ls hl => ?_)
  have loop2 : ∀ (k i_1 : Nat) (fW_2 : Nat → Int32) (fU_3 : Nat → Int32) (v_4 : Int32) (H : Heap) (locs : List Loc) (ls : Array Slot), i_1 + k = n → va_P D vwCl [(ho, .inr (0, [.int fr, .int co, .int (nI R), .int (nI T), .int v_4, .ref aW, .ref aS, .ref aK, .ref aP, .ref aT, .ref aH, .ref aU])), (aW, .inl (cI, 5, .inl fW_2)), (aS, .inl (cI, 5, .inl fS)), (aK, .inl (cI, 6, .inl fK)), (aP, .inl (cI, 6, .inl fP)), (aT, .inl (cI, 6, .inl fT)), (aH, .inl (cI, 6, .inl fH)), (aU, .inl (cI, 6, .inl fU_3))] H → va_D A [(ho, .inr (0, [.int fr, .int co, .int (nI R), .int (nI T), .int v_4, .ref aW, .ref aS, .ref aK, .ref aP, .ref aT, .ref aH, .ref aU])), (aW, .inl (cI, 5, .inl fW_2)), (aS, .inl (cI, 5, .inl fS)), (aK, .inl (cI, 6, .inl fK)), (aP, .inl (cI, 6, .inl fP)), (aT, .inl (cI, 6, .inl fT)), (aH, .inl (cI, 6, .inl fH)), (aU, .inl (cI, 6, .inl fU_3))] → va_S A s.heap H locs → lv_has ls 3 [(2, .int (nI i_1)), (0, .ref ho), (1, .int (nI n))] → W p l e ({ frames := 4, cells := 0, slots := 0, locals := 86 } : Room) s m ([.ref ho, .int (nI n)] : List Value).toArray below meth c H locs 0 0 (MQ below (wt_QV D (fun w => ∃ (fW2 fU2 : Nat → Int32) (ho_f4 : Int32), w = [(ho, .inr (0, [.int fr, .int co, .int (nI R), .int (nI T), .int ho_f4, .ref aW, .ref aS, .ref aK, .ref aP, .ref aT, .ref aH, .ref aU])), (aW, .inl (cI, 5, .inl fW2)), (aS, .inl (cI, 5, .inl fS)), (aK, .inl (cI, 6, .inl fK)), (aP, .inl (cI, 6, .inl fP)), (aT, .inl (cI, 6, .inl fT)), (aH, .inl (cI, 6, .inl fH)), (aU, .inl (cI, 6, .inl fU2))]) A) ([.ref ho, .int (nI n)] : List Value).toArray s 0 0 A) (F0 m 2 ls []) := by
    intro k
    induction k with
    | zero =>
      intro i_1 fW_2 fU_3 v_4 H locs ls hik  hP hD hS hl
      refine lv_iload_n hx hb dX0_passMinutes_2 rfl (lv_at hl 0 rfl) ?_
      refine lv_iload_n hx hb dX0_passMinutes_3 rfl (lv_at hl 2 rfl) ?_
      refine lv_icmp_ge (tgt := 17) hx hb dX0_passMinutes_4 (by decide) (fun _ => ?_) (fun h => absurd (nI_le (a := n) (b := i_1) (by omega) (by omega)) h)
      have hP9 := hP.sub (ws' := [(ho, .inr (0, [.int fr, .int co, .int (nI R), .int (nI T), .int v_4, .ref aW, .ref aS, .ref aK, .ref aP, .ref aT, .ref aH, .ref aU])), (aW, .inl (cI, 5, .inl fW_2)), (aS, .inl (cI, 5, .inl fS)), (aK, .inl (cI, 6, .inl fK)), (aP, .inl (cI, 6, .inl fP)), (aT, .inl (cI, 6, .inl fT)), (aH, .inl (cI, 6, .inl fH)), (aU, .inl (cI, 6, .inl fU_3))]) [0, 1, 2, 3, 4, 5, 6, 7] rfl
      have hD9 := hD.sub (ws' := [(ho, .inr (0, [.int fr, .int co, .int (nI R), .int (nI T), .int v_4, .ref aW, .ref aS, .ref aK, .ref aP, .ref aT, .ref aH, .ref aU])), (aW, .inl (cI, 5, .inl fW_2)), (aS, .inl (cI, 5, .inl fS)), (aK, .inl (cI, 6, .inl fK)), (aP, .inl (cI, 6, .inl fP)), (aT, .inl (cI, 6, .inl fT)), (aH, .inl (cI, 6, .inl fH)), (aU, .inl (cI, 6, .inl fU_3))]) [0, 1, 2, 3, 4, 5, 6, 7] (by decide) rfl
      exact wt_vret hx hb hr hlocks hP9 hD9 hS ⟨fW_2, fU_3, v_4, rfl⟩ dX0_passMinutes_17
    | succ k ih =>
      intro i_1 fW_2 fU_3 v_4 H locs ls hik  hP hD hS hl
      refine lv_iload_n hx hb dX0_passMinutes_2 rfl (lv_at hl 0 rfl) ?_
      refine lv_iload_n hx hb dX0_passMinutes_3 rfl (lv_at hl 2 rfl) ?_
      refine lv_icmp_ge (tgt := 17) hx hb dX0_passMinutes_4 (by decide) (fun h => absurd h (nI_ge (a := i_1) (b := n) (by omega) (by omega))) (fun _ => ?_)
      refine lv_aload_n hx hb dX0_passMinutes_7 rfl (lv_at hl 1 rfl) ?_
      refine wt_goV (wr := []) (wt_runV (As := []) (rest := []) ⟨hx, hb, hml, hown, hts⟩ (c_X0_passMinute l D cI cZ cH ho aW aS aK aP aT aH aU R T fr co v_4 fW_2 fS fK fP fT fH fU_3 (by first | assumption | omega) (by first | assumption | omega) (by first | assumption | omega)) (cwV 0 hts gX0_passMinutes_X0_passMinute rfl rfl rfl (by decide +kernel) ⟨Nat.le_of_ble_eq_true rfl, Nat.le_of_ble_eq_true rfl⟩) hK hP hD [0, 1, 2, 3, 4, 5, 6, 7] rfl (by decide) (va_recv hK.1 hP (ci := 0) (q0 := 0) rfl rfl) rfl hl.1 rfl (Nat.le_of_ble_eq_true rfl) dX0_passMinutes_8 ⟨Nat.le_of_ble_eq_true rfl, Nat.le_of_ble_eq_true rfl⟩) hP hD hS hA [0, 1, 2, 3, 4, 5, 6, 7] [] rfl rfl (by decide) (by decide) (fun w_6 H locs h_7 hP hD hS => ?_)
      obtain ⟨fW2_8, fU2_9, ho_f4_10, rfl⟩ := h_7
      have hP : va_P D vwCl [(ho, .inr (0, [.int fr, .int co, .int (nI R), .int (nI T), .int ho_f4_10, .ref aW, .ref aS, .ref aK, .ref aP, .ref aT, .ref aH, .ref aU])), (aW, .inl (cI, 5, .inl fW2_8)), (aS, .inl (cI, 5, .inl fS)), (aK, .inl (cI, 6, .inl fK)), (aP, .inl (cI, 6, .inl fP)), (aT, .inl (cI, 6, .inl fT)), (aH, .inl (cI, 6, .inl fH)), (aU, .inl (cI, 6, .inl fU2_9))] H := hP
      have hD : va_D A [(ho, .inr (0, [.int fr, .int co, .int (nI R), .int (nI T), .int ho_f4_10, .ref aW, .ref aS, .ref aK, .ref aP, .ref aT, .ref aH, .ref aU])), (aW, .inl (cI, 5, .inl fW2_8)), (aS, .inl (cI, 5, .inl fS)), (aK, .inl (cI, 6, .inl fK)), (aP, .inl (cI, 6, .inl fP)), (aT, .inl (cI, 6, .inl fT)), (aH, .inl (cI, 6, .inl fH)), (aU, .inl (cI, 6, .inl fU2_9))] := hD
      refine lv_iinc (v := nI (i_1 + 1)) (lv' := [(2, .int (nI (i_1 + 1))), (0, .ref ho), (1, .int (nI n))]) hx hb dX0_passMinutes_11 hl (k := 0) rfl (nI_add i_1 1) (by decide) rfl (fun ls hl => ?_)
      refine lv_goto (tgt := 2) hx hb dX0_passMinutes_14 (by decide) ?_
      exact ih ((i_1 + 1)) fW2_8 fU2_9 ho_f4_10 H locs ls (by omega)  hP hD hS (lv_sub hl [0, 1, 2] rfl)
  exact loop2 (n - 0) (0) fW fU mi _ _ ls (by omega)  hP hD hS hl
set_option maxHeartbeats 4000000 in
set_option maxRecDepth 100000 in
theorem c_X0_letDownAll (l : Launch) (D : va_G) (cI cZ cH : ClassId) (ho aW aP aU : Nat) (R T : Nat) (fW fP fU : Nat → Int32) (set : Int32) (vz_0 vz_1 vz_4 vz_6 vz_7 vz_9 vz_10 : Value) (hR5 : R ≤ 5) (hT6 : T ≤ 6) (hwP : hw R T fP) : wt_M l yX0_letDownAll wsX0_letDownAll ({ frames := 2, cells := 0, slots := 0, locals := 62 } : Room) D (wt_T cI cZ cH) [.ref ho, .int set] [(ho, .inr (0, [vz_0, vz_1, .int (nI R), .int (nI T), vz_4, .ref aW, vz_6, vz_7, .ref aP, vz_9, vz_10, .ref aU])), (aW, .inl (cI, 5, .inl fW)), (aP, .inl (cI, 6, .inl fP)), (aU, .inl (cI, 6, .inl fU))] (wt_QV D (fun w => ∃ (fW2 fU2 : Nat → Int32), w = [(ho, .inr (0, [vz_0, vz_1, .int (nI R), .int (nI T), vz_4, .ref aW, vz_6, vz_7, .ref aP, vz_9, vz_10, .ref aU])), (aW, .inl (cI, 5, .inl fW2)), (aP, .inl (cI, 6, .inl fP)), (aU, .inl (cI, 6, .inl fU2))])) := by
  refine wt_M.ofW (cc := cX0_letDownAll) (maxL := 3) (ret := none) (by decide) rfl (Nat.le_of_ble_eq_true rfl) ?_
  intro p e s m below meth c A ls hx hb hr hts hown hlocks hml hnm hP hK hD hA hS hl
  have hP : va_P D vwCl [(ho, .inr (0, [vz_0, vz_1, .int (nI R), .int (nI T), vz_4, .ref aW, vz_6, vz_7, .ref aP, vz_9, vz_10, .ref aU])), (aW, .inl (cI, 5, .inl fW)), (aP, .inl (cI, 6, .inl fP)), (aU, .inl (cI, 6, .inl fU))] s.heap := hP
  have hown : s.vm.findClass RX0 = some m.cls := hown
  have hl : lv_has ls 3 [(0, .ref ho), (1, .int set)] := hl
  have hi0 : ∀ w ∈ u_ws RX0 TX0 12, w ∈ wsX0_letDownAll := by decide +kernel
  have wf21 := hts (.fieldLink RX0 21 "WarmTubes$House" "tubes" "I") (by decide +kernel)
  refine lv_iconst (v := 0) hx hb dX0_letDownAll_0 (by decide) ?_
  refine lv_istore_n (lv' := [(2, .int 0), (0, .ref ho), (1, .int set)]) hx hb dX0_letDownAll_1 rfl hl (by decide) rfl (fun ls hl => ?_)
  have loop2 : ∀ (k i_1 : Nat) (fW_2 : Nat → Int32) (fU_3 : Nat → Int32) (H : Heap) (locs : List Loc) (ls : Array Slot), i_1 + k = T → va_P D vwCl [(ho, .inr (0, [vz_0, vz_1, .int (nI R), .int (nI T), vz_4, .ref aW, vz_6, vz_7, .ref aP, vz_9, vz_10, .ref aU])), (aW, .inl (cI, 5, .inl fW_2)), (aP, .inl (cI, 6, .inl fP)), (aU, .inl (cI, 6, .inl fU_3))] H → va_D A [(ho, .inr (0, [vz_0, vz_1, .int (nI R), .int (nI T), vz_4, .ref aW, vz_6, vz_7, .ref aP, vz_9, vz_10, .ref aU])), (aW, .inl (cI, 5, .inl fW_2)), (aP, .inl (cI, 6, .inl fP)), (aU, .inl (cI, 6, .inl fU_3))] → va_S A s.heap H locs → lv_has ls 3 [(2, .int (nI i_1)), (0, .ref ho), (1, .int set)] → W p l e ({ frames := 2, cells := 0, slots := 0, locals := 62 } : Room) s m ([.ref ho, .int set] : List Value).toArray below meth c H locs 0 0 (MQ below (wt_QV D (fun w => ∃ (fW2 fU2 : Nat → Int32), w = [(ho, .inr (0, [vz_0, vz_1, .int (nI R), .int (nI T), vz_4, .ref aW, vz_6, vz_7, .ref aP, vz_9, vz_10, .ref aU])), (aW, .inl (cI, 5, .inl fW2)), (aP, .inl (cI, 6, .inl fP)), (aU, .inl (cI, 6, .inl fU2))]) A) ([.ref ho, .int set] : List Value).toArray s 0 0 A) (F0 m 2 ls []) := by
    intro k
    induction k with
    | zero =>
      intro i_1 fW_2 fU_3 H locs ls hik  hP hD hS hl
      refine lv_iload_n hx hb dX0_letDownAll_2 rfl (lv_at hl 0 rfl) ?_
      refine lv_aload_n hx hb dX0_letDownAll_3 rfl (lv_at hl 1 rfl) ?_
      refine va_get (D := D) (ci := 0) (v := .int (nI T)) (C := RX0) (T := TX0) (N := 12) hx hb hts hi0 hown hK.1 hP 0 rfl rfl 3 (by decide) wf21 (fun _ h9 => h9) rfl dX0_letDownAll_4 ?_
      refine lv_icmp_ge (tgt := 29) hx hb dX0_letDownAll_7 (by decide) (fun _ => ?_) (fun h => absurd (nI_le (a := T) (b := i_1) (by omega) (by omega)) h)
      have hP9 := hP.sub (ws' := [(ho, .inr (0, [vz_0, vz_1, .int (nI R), .int (nI T), vz_4, .ref aW, vz_6, vz_7, .ref aP, vz_9, vz_10, .ref aU])), (aW, .inl (cI, 5, .inl fW_2)), (aP, .inl (cI, 6, .inl fP)), (aU, .inl (cI, 6, .inl fU_3))]) [0, 1, 2, 3] rfl
      have hD9 := hD.sub (ws' := [(ho, .inr (0, [vz_0, vz_1, .int (nI R), .int (nI T), vz_4, .ref aW, vz_6, vz_7, .ref aP, vz_9, vz_10, .ref aU])), (aW, .inl (cI, 5, .inl fW_2)), (aP, .inl (cI, 6, .inl fP)), (aU, .inl (cI, 6, .inl fU_3))]) [0, 1, 2, 3] (by decide) rfl
      exact wt_vret hx hb hr hlocks hP9 hD9 hS ⟨fW_2, fU_3, rfl⟩ dX0_letDownAll_29
    | succ k ih =>
      intro i_1 fW_2 fU_3 H locs ls hik  hP hD hS hl
      refine lv_iload_n hx hb dX0_letDownAll_2 rfl (lv_at hl 0 rfl) ?_
      refine lv_aload_n hx hb dX0_letDownAll_3 rfl (lv_at hl 1 rfl) ?_
      refine va_get (D := D) (ci := 0) (v := .int (nI T)) (C := RX0) (T := TX0) (N := 12) hx hb hts hi0 hown hK.1 hP 0 rfl rfl 3 (by decide) wf21 (fun _ h9 => h9) rfl dX0_letDownAll_4 ?_
      refine lv_icmp_ge (tgt := 29) hx hb dX0_letDownAll_7 (by decide) (fun h => absurd h (nI_ge (a := i_1) (b := T) (by omega) (by omega))) (fun _ => ?_)
      refine lv_iload_n hx hb dX0_letDownAll_10 rfl (lv_at hl 2 rfl) ?_
      refine lv_iload_n hx hb dX0_letDownAll_11 rfl (lv_at hl 0 rfl) ?_
      refine lv_ishr hx hb dX0_letDownAll_12 ?_
      refine lv_topi (fun ov_4 _ => ?_)
      refine lv_iconst (v := 1) hx hb dX0_letDownAll_13 (by decide) ?_
      refine lv_iand hx hb dX0_letDownAll_14 ?_
      refine lv_topi (fun ov_5 _ => ?_)
      refine lv_if_eq (tgt := 23) hx hb dX0_letDownAll_15 (by decide) (fun c_6 => ?_) (fun c_6 => ?_)
      · skip
        refine lv_iinc (v := nI (i_1 + 1)) (lv' := [(2, .int (nI (i_1 + 1))), (0, .ref ho), (1, .int set)]) hx hb dX0_letDownAll_23 hl (k := 0) rfl (nI_add i_1 1) (by decide) rfl (fun ls hl => ?_)
        refine lv_goto (tgt := 2) hx hb dX0_letDownAll_26 (by decide) ?_
        exact ih ((i_1 + 1)) fW_2 fU_3 H locs ls (by omega)  hP hD hS (lv_sub hl [0, 1, 2] rfl)
      · skip
        refine lv_aload_n hx hb dX0_letDownAll_18 rfl (lv_at hl 1 rfl) ?_
        refine lv_iload_n hx hb dX0_letDownAll_19 rfl (lv_at hl 0 rfl) ?_
        refine wt_goV (wr := []) (wt_runV (As := [.int (nI i_1)]) (rest := []) ⟨hx, hb, hml, hown, hts⟩ (c_X0_letDown l D cI cZ cH ho aW aP aU R T i_1 fW_2 fP fU_3 vz_0 vz_1 vz_4 vz_6 vz_7 vz_9 vz_10 (by first | assumption | omega) (by first | assumption | omega) (by first | assumption | omega) (by first | assumption | omega)) (cwV 1 hts gX0_letDownAll_X0_letDown rfl rfl rfl (by decide +kernel) ⟨Nat.le_of_ble_eq_true rfl, Nat.le_of_ble_eq_true rfl⟩) hK hP hD [0, 1, 2, 3] rfl (by decide) (va_recv hK.1 hP (ci := 0) (q0 := 0) rfl rfl) rfl hl.1 rfl (Nat.le_of_ble_eq_true rfl) dX0_letDownAll_20 ⟨Nat.le_of_ble_eq_true rfl, Nat.le_of_ble_eq_true rfl⟩) hP hD hS hA [0, 1, 2, 3] [] rfl rfl (by decide) (by decide) (fun w_8 H locs h_9 hP hD hS => ?_)
        obtain ⟨fW2_10, fU2_11, rfl⟩ := h_9
        have hP : va_P D vwCl [(ho, .inr (0, [vz_0, vz_1, .int (nI R), .int (nI T), vz_4, .ref aW, vz_6, vz_7, .ref aP, vz_9, vz_10, .ref aU])), (aW, .inl (cI, 5, .inl fW2_10)), (aP, .inl (cI, 6, .inl fP)), (aU, .inl (cI, 6, .inl fU2_11))] H := hP
        have hD : va_D A [(ho, .inr (0, [vz_0, vz_1, .int (nI R), .int (nI T), vz_4, .ref aW, vz_6, vz_7, .ref aP, vz_9, vz_10, .ref aU])), (aW, .inl (cI, 5, .inl fW2_10)), (aP, .inl (cI, 6, .inl fP)), (aU, .inl (cI, 6, .inl fU2_11))] := hD
        refine lv_iinc (v := nI (i_1 + 1)) (lv' := [(2, .int (nI (i_1 + 1))), (0, .ref ho), (1, .int set)]) hx hb dX0_letDownAll_23 hl (k := 0) rfl (nI_add i_1 1) (by decide) rfl (fun ls hl => ?_)
        refine lv_goto (tgt := 2) hx hb dX0_letDownAll_26 (by decide) ?_
        exact ih ((i_1 + 1)) fW2_10 fU2_11 H locs ls (by omega)  hP hD hS (lv_sub hl [0, 1, 2] rfl)
  exact loop2 (T - 0) (0) fW fU _ _ ls (by omega)  hP hD hS hl
set_option maxHeartbeats 4000000 in
set_option maxRecDepth 100000 in
theorem c_X0_carryOut (l : Launch) (D : va_G) (cI cZ cH : ClassId) (ho aP : Nat) (R T : Nat) (fP : Nat → Int32) (set : Int32) (vz_0 vz_1 vz_4 vz_5 vz_6 vz_7 vz_9 vz_10 vz_11 : Value) (hR5 : R ≤ 5) (hT6 : T ≤ 6) (hwP : hw R T fP) : wt_M l yX0_carryOut wsX0_carryOut ({ frames := 0, cells := 0, slots := 0, locals := 0 } : Room) D (wt_T cI cZ cH) [.ref ho, .int set] [(ho, .inr (0, [vz_0, vz_1, .int (nI R), .int (nI T), vz_4, vz_5, vz_6, vz_7, .ref aP, vz_9, vz_10, vz_11])), (aP, .inl (cI, 6, .inl fP))] (wt_QV D (fun w => ∃ (fP2 : Nat → Int32), w = [(ho, .inr (0, [vz_0, vz_1, .int (nI R), .int (nI T), vz_4, vz_5, vz_6, vz_7, .ref aP, vz_9, vz_10, vz_11])), (aP, .inl (cI, 6, .inl fP2))] ∧ hw R T fP2)) := by
  refine wt_M.ofW (cc := cX0_carryOut) (maxL := 3) (ret := none) (by decide) rfl (Nat.le_of_ble_eq_true rfl) ?_
  intro p e s m below meth c A ls hx hb hr hts hown hlocks hml hnm hP hK hD hA hS hl
  have hP : va_P D vwCl [(ho, .inr (0, [vz_0, vz_1, .int (nI R), .int (nI T), vz_4, vz_5, vz_6, vz_7, .ref aP, vz_9, vz_10, vz_11])), (aP, .inl (cI, 6, .inl fP))] s.heap := hP
  have hown : s.vm.findClass RX0 = some m.cls := hown
  have hl : lv_has ls 3 [(0, .ref ho), (1, .int set)] := hl
  have hi0 : ∀ w ∈ u_ws RX0 TX0 12, w ∈ wsX0_carryOut := by decide +kernel
  have wf18 := hts (.fieldLink RX0 18 "WarmTubes$House" "rooms" "I") (by decide +kernel)
  have wf21 := hts (.fieldLink RX0 21 "WarmTubes$House" "tubes" "I") (by decide +kernel)
  have wf37 := hts (.fieldLink RX0 37 "WarmTubes$House" "where" "[I") (by decide +kernel)
  refine lv_iconst (v := 0) hx hb dX0_carryOut_0 (by decide) ?_
  refine lv_istore_n (lv' := [(2, .int 0), (0, .ref ho), (1, .int set)]) hx hb dX0_carryOut_1 rfl hl (by decide) rfl (fun ls hl => ?_)
  have loop2 : ∀ (k i_1 : Nat) (fP_2 : Nat → Int32) (H : Heap) (locs : List Loc) (ls : Array Slot), i_1 + k = T → (hw R T fP_2) → va_P D vwCl [(ho, .inr (0, [vz_0, vz_1, .int (nI R), .int (nI T), vz_4, vz_5, vz_6, vz_7, .ref aP, vz_9, vz_10, vz_11])), (aP, .inl (cI, 6, .inl fP_2))] H → va_D A [(ho, .inr (0, [vz_0, vz_1, .int (nI R), .int (nI T), vz_4, vz_5, vz_6, vz_7, .ref aP, vz_9, vz_10, vz_11])), (aP, .inl (cI, 6, .inl fP_2))] → va_S A s.heap H locs → lv_has ls 3 [(2, .int (nI i_1)), (0, .ref ho), (1, .int set)] → W p l e ({ frames := 0, cells := 0, slots := 0, locals := 0 } : Room) s m ([.ref ho, .int set] : List Value).toArray below meth c H locs 0 0 (MQ below (wt_QV D (fun w => ∃ (fP2 : Nat → Int32), w = [(ho, .inr (0, [vz_0, vz_1, .int (nI R), .int (nI T), vz_4, vz_5, vz_6, vz_7, .ref aP, vz_9, vz_10, vz_11])), (aP, .inl (cI, 6, .inl fP2))] ∧ hw R T fP2) A) ([.ref ho, .int set] : List Value).toArray s 0 0 A) (F0 m 2 ls []) := by
    intro k
    induction k with
    | zero =>
      intro i_1 fP_2 H locs ls hik hw_3 hP hD hS hl
      refine lv_iload_n hx hb dX0_carryOut_2 rfl (lv_at hl 0 rfl) ?_
      refine lv_aload_n hx hb dX0_carryOut_3 rfl (lv_at hl 1 rfl) ?_
      refine va_get (D := D) (ci := 0) (v := .int (nI T)) (C := RX0) (T := TX0) (N := 12) hx hb hts hi0 hown hK.1 hP 0 rfl rfl 3 (by decide) wf21 (fun _ h9 => h9) rfl dX0_carryOut_4 ?_
      refine lv_icmp_ge (tgt := 34) hx hb dX0_carryOut_7 (by decide) (fun _ => ?_) (fun h => absurd (nI_le (a := T) (b := i_1) (by omega) (by omega)) h)
      have hP9 := hP.sub (ws' := [(ho, .inr (0, [vz_0, vz_1, .int (nI R), .int (nI T), vz_4, vz_5, vz_6, vz_7, .ref aP, vz_9, vz_10, vz_11])), (aP, .inl (cI, 6, .inl fP_2))]) [0, 1] rfl
      have hD9 := hD.sub (ws' := [(ho, .inr (0, [vz_0, vz_1, .int (nI R), .int (nI T), vz_4, vz_5, vz_6, vz_7, .ref aP, vz_9, vz_10, vz_11])), (aP, .inl (cI, 6, .inl fP_2))]) [0, 1] (by decide) rfl
      exact wt_vret hx hb hr hlocks hP9 hD9 hS ⟨fP_2, rfl, hw_3⟩ dX0_carryOut_34
    | succ k ih =>
      intro i_1 fP_2 H locs ls hik hw_3 hP hD hS hl
      refine lv_iload_n hx hb dX0_carryOut_2 rfl (lv_at hl 0 rfl) ?_
      refine lv_aload_n hx hb dX0_carryOut_3 rfl (lv_at hl 1 rfl) ?_
      refine va_get (D := D) (ci := 0) (v := .int (nI T)) (C := RX0) (T := TX0) (N := 12) hx hb hts hi0 hown hK.1 hP 0 rfl rfl 3 (by decide) wf21 (fun _ h9 => h9) rfl dX0_carryOut_4 ?_
      refine lv_icmp_ge (tgt := 34) hx hb dX0_carryOut_7 (by decide) (fun h => absurd h (nI_ge (a := i_1) (b := T) (by omega) (by omega))) (fun _ => ?_)
      refine lv_iload_n hx hb dX0_carryOut_10 rfl (lv_at hl 2 rfl) ?_
      refine lv_iload_n hx hb dX0_carryOut_11 rfl (lv_at hl 0 rfl) ?_
      refine lv_ishr hx hb dX0_carryOut_12 ?_
      refine lv_topi (fun ov_4 _ => ?_)
      refine lv_iconst (v := 1) hx hb dX0_carryOut_13 (by decide) ?_
      refine lv_iand hx hb dX0_carryOut_14 ?_
      refine lv_topi (fun ov_5 _ => ?_)
      refine lv_if_eq (tgt := 28) hx hb dX0_carryOut_15 (by decide) (fun c_6 => ?_) (fun c_6 => ?_)
      · skip
        refine lv_iinc (v := nI (i_1 + 1)) (lv' := [(2, .int (nI (i_1 + 1))), (0, .ref ho), (1, .int set)]) hx hb dX0_carryOut_28 hl (k := 0) rfl (nI_add i_1 1) (by decide) rfl (fun ls hl => ?_)
        refine lv_goto (tgt := 2) hx hb dX0_carryOut_31 (by decide) ?_
        exact ih ((i_1 + 1)) fP_2 H locs ls (by omega) hw_3 hP hD hS (lv_sub hl [0, 1, 2] rfl)
      · skip
        refine lv_aload_n hx hb dX0_carryOut_18 rfl (lv_at hl 1 rfl) ?_
        refine va_get (D := D) (ci := 0) (v := .ref aP) (C := RX0) (T := TX0) (N := 12) hx hb hts hi0 hown hK.1 hP 0 rfl rfl 8 (by decide) wf37 (fun _ h9 => h9) rfl dX0_carryOut_19 ?_
        refine lv_iload_n hx hb dX0_carryOut_22 rfl (lv_at hl 0 rfl) ?_
        refine lv_aload_n hx hb dX0_carryOut_23 rfl (lv_at hl 1 rfl) ?_
        refine va_get (D := D) (ci := 0) (v := .int (nI R)) (C := RX0) (T := TX0) (N := 12) hx hb hts hi0 hown hK.1 hP 0 rfl rfl 2 (by decide) wf18 (fun _ h9 => h9) rfl dX0_carryOut_24 ?_
        refine va_iast hx hb hK.1 hP hD hS 1 0 rfl rfl (vp_in_nI (by omega) (by omega)) dX0_carryOut_27 (fun H locs hP hD hS => ?_)
        have hP : va_P D vwCl [(ho, .inr (0, [vz_0, vz_1, .int (nI R), .int (nI T), vz_4, vz_5, vz_6, vz_7, .ref aP, vz_9, vz_10, vz_11])), (aP, .inl (cI, 6, .inl (upd fP_2 ((nI i_1).toNatClampNeg) (nI R))))] H := hP
        have hD : va_D A [(ho, .inr (0, [vz_0, vz_1, .int (nI R), .int (nI T), vz_4, vz_5, vz_6, vz_7, .ref aP, vz_9, vz_10, vz_11])), (aP, .inl (cI, 6, .inl (upd fP_2 ((nI i_1).toNatClampNeg) (nI R))))] := hD
        have hw_7 : hw R T (upd fP_2 ((nI i_1).toNatClampNeg) (nI R)) := hw_upd (v := R) hw_3 (by omega) _
        generalize upd fP_2 ((nI i_1).toNatClampNeg) (nI R) = fP_8 at hP hD hw_7
        refine lv_iinc (v := nI (i_1 + 1)) (lv' := [(2, .int (nI (i_1 + 1))), (0, .ref ho), (1, .int set)]) hx hb dX0_carryOut_28 hl (k := 0) rfl (nI_add i_1 1) (by decide) rfl (fun ls hl => ?_)
        refine lv_goto (tgt := 2) hx hb dX0_carryOut_31 (by decide) ?_
        exact ih ((i_1 + 1)) fP_8 H locs ls (by omega) hw_7 hP hD hS (lv_sub hl [0, 1, 2] rfl)
  exact loop2 (T - 0) (0) fP _ _ ls (by omega) hwP hP hD hS hl
set_option maxHeartbeats 4000000 in
set_option maxRecDepth 100000 in
theorem c_X0_pourable (l : Launch) (D : va_G) (cI cZ cH : ClassId) (ho aP aH aU : Nat) (R T j k : Nat) (fP fH fU : Nat → Int32) (vz_0 vz_1 vz_4 vz_5 vz_6 vz_7 vz_9 : Value) (hR5 : R ≤ 5) (hT6 : T ≤ 6) (hwP : hw R T fP) (hjT : j < T) (hkT : k < T) : wt_R l yX0_pourable wsX0_pourable ({ frames := 1, cells := 0, slots := 0, locals := 40 } : Room) D (wt_T cI cZ cH) [.ref ho, .int (nI j), .int (nI k)] [(ho, .inr (0, [vz_0, vz_1, .int (nI R), .int (nI T), vz_4, vz_5, vz_6, vz_7, .ref aP, vz_9, .ref aH, .ref aU])), (aP, .inl (cI, 6, .inl fP)), (aH, .inl (cI, 6, .inl fH)), (aU, .inl (cI, 6, .inl fU))] (vp_Si (fun r => True)) := by
  refine wt_R.ofW (cc := cX0_pourable) (maxL := 3) (ret := (some .int)) (by decide) rfl (Nat.le_of_ble_eq_true rfl) ?_
  intro p e s m below meth c ls hx hb hr hts hown hlocks hml hP hK hl
  have hown : s.vm.findClass RX0 = some m.cls := hown
  have hl : lv_has ls 3 [(0, .ref ho), (1, .int (nI j)), (2, .int (nI k))] := hl
  have hi0 : ∀ w ∈ u_ws RX0 TX0 12, w ∈ wsX0_pourable := by decide +kernel
  have wf37 := hts (.fieldLink RX0 37 "WarmTubes$House" "where" "[I") (by decide +kernel)
  have wf43 := hts (.fieldLink RX0 43 "WarmTubes$House" "holds" "[I") (by decide +kernel)
  have wf46 := hts (.fieldLink RX0 46 "WarmTubes$House" "up" "[I") (by decide +kernel)
  have wy76 := hts (.methodLink RX0 76 Lib.Math.min.name) (by decide +kernel)
  have wycmin := hts (.code Lib.Math.min.name Lib.Math.min.code 2 (some .int)) (by decide +kernel)
  have wym := hts (.initialized "java/lang/Math") (by decide +kernel)
  have wysmin := hts (.static Lib.Math.min.name) (by decide +kernel)
  refine lv_iload_n hx hb dX0_pourable_0 rfl (lv_at hl 1 rfl) ?_
  refine lv_iload_n hx hb dX0_pourable_1 rfl (lv_at hl 2 rfl) ?_
  refine lv_icmp_eq (tgt := 20) hx hb dX0_pourable_2 (by decide) (fun c_1 => ?_) (fun c_1 => ?_)
  · skip
    have c_1 : j = k := (nI_eq (a := j) (b := k) (by omega) (by omega)).mp c_1
    refine lv_iconst (v := 0) hx hb dX0_pourable_20 (by decide) ?_
    exact wt_siret hx hb hr hlocks (by trivial) dX0_pourable_21
  · skip
    have c_1 : ¬ (j = k) := fun h => c_1 ((nI_eq (a := j) (b := k) (by omega) (by omega)).mpr h)
    refine lv_aload_n hx hb dX0_pourable_5 rfl (lv_at hl 0 rfl) ?_
    refine va_get (D := D) (ci := 0) (v := .ref aP) (C := RX0) (T := TX0) (N := 12) hx hb hts hi0 hown hK.1 hP 0 rfl rfl 8 (by decide) wf37 (fun _ h9 => h9) rfl dX0_pourable_6 ?_
    refine lv_iload_n hx hb dX0_pourable_9 rfl (lv_at hl 1 rfl) ?_
    refine va_iald hx hb hK.1 hP 1 0 rfl rfl (vp_in_nI (by omega) (by omega)) dX0_pourable_10 ?_
    obtain ⟨q_2, hq_2, eq_2⟩ := hwP j (by omega)
    refine wt_top (z := nI q_2) (by rw [nI_clamp (by omega)]; exact eq_2) ?_
    refine lv_aload_n hx hb dX0_pourable_11 rfl (lv_at hl 0 rfl) ?_
    refine va_get (D := D) (ci := 0) (v := .ref aP) (C := RX0) (T := TX0) (N := 12) hx hb hts hi0 hown hK.1 hP 0 rfl rfl 8 (by decide) wf37 (fun _ h9 => h9) rfl dX0_pourable_12 ?_
    refine lv_iload_n hx hb dX0_pourable_15 rfl (lv_at hl 2 rfl) ?_
    refine va_iald hx hb hK.1 hP 1 0 rfl rfl (vp_in_nI (by omega) (by omega)) dX0_pourable_16 ?_
    obtain ⟨q_3, hq_3, eq_3⟩ := hwP k (by omega)
    refine wt_top (z := nI q_3) (by rw [nI_clamp (by omega)]; exact eq_3) ?_
    refine lv_icmp_eq (tgt := 22) hx hb dX0_pourable_17 (by decide) (fun c_4 => ?_) (fun c_4 => ?_)
    · skip
      have c_4 : q_2 = q_3 := (nI_eq (a := q_2) (b := q_3) (by omega) (by omega)).mp c_4
      refine lv_aload_n hx hb dX0_pourable_22 rfl (lv_at hl 0 rfl) ?_
      refine va_get (D := D) (ci := 0) (v := .ref aU) (C := RX0) (T := TX0) (N := 12) hx hb hts hi0 hown hK.1 hP 0 rfl rfl 11 (by decide) wf46 (fun _ h9 => h9) rfl dX0_pourable_23 ?_
      refine lv_iload_n hx hb dX0_pourable_26 rfl (lv_at hl 1 rfl) ?_
      refine va_iald hx hb hK.1 hP 3 0 rfl rfl (vp_in_nI (by omega) (by omega)) dX0_pourable_27 ?_
      refine lv_topi (fun ov_5 _ => ?_)
      refine lv_aload_n hx hb dX0_pourable_28 rfl (lv_at hl 0 rfl) ?_
      refine va_get (D := D) (ci := 0) (v := .ref aH) (C := RX0) (T := TX0) (N := 12) hx hb hts hi0 hown hK.1 hP 0 rfl rfl 10 (by decide) wf43 (fun _ h9 => h9) rfl dX0_pourable_29 ?_
      refine lv_iload_n hx hb dX0_pourable_32 rfl (lv_at hl 2 rfl) ?_
      refine va_iald hx hb hK.1 hP 2 0 rfl rfl (vp_in_nI (by omega) (by omega)) dX0_pourable_33 ?_
      refine lv_topi (fun ov_6 _ => ?_)
      refine lv_aload_n hx hb dX0_pourable_34 rfl (lv_at hl 0 rfl) ?_
      refine va_get (D := D) (ci := 0) (v := .ref aU) (C := RX0) (T := TX0) (N := 12) hx hb hts hi0 hown hK.1 hP 0 rfl rfl 11 (by decide) wf46 (fun _ h9 => h9) rfl dX0_pourable_35 ?_
      refine lv_iload_n hx hb dX0_pourable_38 rfl (lv_at hl 2 rfl) ?_
      refine va_iald hx hb hK.1 hP 3 0 rfl rfl (vp_in_nI (by omega) (by omega)) dX0_pourable_39 ?_
      refine lv_topi (fun ov_7 _ => ?_)
      refine lv_isub hx hb dX0_pourable_40 ?_
      refine lv_topi (fun ov_8 _ => ?_)
      refine va_mmin hx hb (hml.trans hl.1.symm) hown wy76 wysmin wym wycmin (Nat.le_of_ble_eq_true rfl) (Nat.le_of_ble_eq_true rfl) (Nat.zero_le _) (Nat.zero_le _) dX0_pourable_41 ?_
      refine lv_topi (fun ov_9 _ => ?_)
      exact wt_siret hx hb hr hlocks (by trivial) dX0_pourable_44
    · skip
      have c_4 : ¬ (q_2 = q_3) := fun h => c_4 ((nI_eq (a := q_2) (b := q_3) (by omega) (by omega)).mpr h)
      refine lv_iconst (v := 0) hx hb dX0_pourable_20 (by decide) ?_
      exact wt_siret hx hb hr hlocks (by trivial) dX0_pourable_21
set_option maxHeartbeats 4000000 in
set_option maxRecDepth 100000 in
theorem c_X0_shift (l : Launch) (D : va_G) (cI cZ cH : ClassId) (ho aU : Nat) (T j k : Nat) (fU : Nat → Int32) (mu : Int32) (vz_0 vz_1 vz_2 vz_4 vz_5 vz_6 vz_7 vz_8 vz_9 vz_10 : Value) (hT6 : T ≤ 6) (hjT : j < T) (hkT : k < T) : wt_M l yX0_shift wsX0_shift ({ frames := 0, cells := 0, slots := 0, locals := 0 } : Room) D (wt_T cI cZ cH) [.ref ho, .int (nI j), .int (nI k), .int mu] [(ho, .inr (0, [vz_0, vz_1, vz_2, .int (nI T), vz_4, vz_5, vz_6, vz_7, vz_8, vz_9, vz_10, .ref aU])), (aU, .inl (cI, 6, .inl fU))] (wt_QV D (fun w => ∃ (fU2 : Nat → Int32), w = [(ho, .inr (0, [vz_0, vz_1, vz_2, .int (nI T), vz_4, vz_5, vz_6, vz_7, vz_8, vz_9, vz_10, .ref aU])), (aU, .inl (cI, 6, .inl fU2))])) := by
  refine wt_M.ofW (cc := cX0_shift) (maxL := 4) (ret := none) (by decide) rfl (Nat.le_of_ble_eq_true rfl) ?_
  intro p e s m below meth c A ls hx hb hr hts hown hlocks hml hnm hP hK hD hA hS hl
  have hP : va_P D vwCl [(ho, .inr (0, [vz_0, vz_1, vz_2, .int (nI T), vz_4, vz_5, vz_6, vz_7, vz_8, vz_9, vz_10, .ref aU])), (aU, .inl (cI, 6, .inl fU))] s.heap := hP
  have hown : s.vm.findClass RX0 = some m.cls := hown
  have hl : lv_has ls 4 [(0, .ref ho), (1, .int (nI j)), (2, .int (nI k)), (3, .int mu)] := hl
  have hi0 : ∀ w ∈ u_ws RX0 TX0 12, w ∈ wsX0_shift := by decide +kernel
  have wf46 := hts (.fieldLink RX0 46 "WarmTubes$House" "up" "[I") (by decide +kernel)
  refine lv_aload_n hx hb dX0_shift_0 rfl (lv_at hl 0 rfl) ?_
  refine va_get (D := D) (ci := 0) (v := .ref aU) (C := RX0) (T := TX0) (N := 12) hx hb hts hi0 hown hK.1 hP 0 rfl rfl 11 (by decide) wf46 (fun _ h9 => h9) rfl dX0_shift_1 ?_
  refine lv_iload_n hx hb dX0_shift_4 rfl (lv_at hl 1 rfl) ?_
  refine lv_dup2_11 hx hb dX0_shift_5 rfl rfl ?_
  refine va_iald hx hb hK.1 hP 1 0 rfl rfl (vp_in_nI (by omega) (by omega)) dX0_shift_6 ?_
  refine lv_topi (fun ov_1 _ => ?_)
  refine lv_iload_n hx hb dX0_shift_7 rfl (lv_at hl 3 rfl) ?_
  refine lv_isub hx hb dX0_shift_8 ?_
  refine lv_topi (fun ov_2 _ => ?_)
  refine va_iast hx hb hK.1 hP hD hS 1 0 rfl rfl (vp_in_nI (by omega) (by omega)) dX0_shift_9 (fun H locs hP hD hS => ?_)
  have hP : va_P D vwCl [(ho, .inr (0, [vz_0, vz_1, vz_2, .int (nI T), vz_4, vz_5, vz_6, vz_7, vz_8, vz_9, vz_10, .ref aU])), (aU, .inl (cI, 6, .inl (upd fU ((nI j).toNatClampNeg) ov_2)))] H := hP
  have hD : va_D A [(ho, .inr (0, [vz_0, vz_1, vz_2, .int (nI T), vz_4, vz_5, vz_6, vz_7, vz_8, vz_9, vz_10, .ref aU])), (aU, .inl (cI, 6, .inl (upd fU ((nI j).toNatClampNeg) ov_2)))] := hD
  generalize upd fU ((nI j).toNatClampNeg) ov_2 = fU_3 at hP hD
  refine lv_aload_n hx hb dX0_shift_10 rfl (lv_at hl 0 rfl) ?_
  refine va_get (D := D) (ci := 0) (v := .ref aU) (C := RX0) (T := TX0) (N := 12) hx hb hts hi0 hown hK.1 hP 0 rfl rfl 11 (by decide) wf46 (fun _ h9 => h9) rfl dX0_shift_11 ?_
  refine lv_iload_n hx hb dX0_shift_14 rfl (lv_at hl 2 rfl) ?_
  refine lv_dup2_11 hx hb dX0_shift_15 rfl rfl ?_
  refine va_iald hx hb hK.1 hP 1 0 rfl rfl (vp_in_nI (by omega) (by omega)) dX0_shift_16 ?_
  refine lv_topi (fun ov_4 _ => ?_)
  refine lv_iload_n hx hb dX0_shift_17 rfl (lv_at hl 3 rfl) ?_
  refine lv_iadd hx hb dX0_shift_18 ?_
  refine lv_topi (fun ov_5 _ => ?_)
  refine va_iast hx hb hK.1 hP hD hS 1 0 rfl rfl (vp_in_nI (by omega) (by omega)) dX0_shift_19 (fun H locs hP hD hS => ?_)
  have hP : va_P D vwCl [(ho, .inr (0, [vz_0, vz_1, vz_2, .int (nI T), vz_4, vz_5, vz_6, vz_7, vz_8, vz_9, vz_10, .ref aU])), (aU, .inl (cI, 6, .inl (upd fU_3 ((nI k).toNatClampNeg) ov_5)))] H := hP
  have hD : va_D A [(ho, .inr (0, [vz_0, vz_1, vz_2, .int (nI T), vz_4, vz_5, vz_6, vz_7, vz_8, vz_9, vz_10, .ref aU])), (aU, .inl (cI, 6, .inl (upd fU_3 ((nI k).toNatClampNeg) ov_5)))] := hD
  generalize upd fU_3 ((nI k).toNatClampNeg) ov_5 = fU_6 at hP hD
  have hP9 := hP.sub (ws' := [(ho, .inr (0, [vz_0, vz_1, vz_2, .int (nI T), vz_4, vz_5, vz_6, vz_7, vz_8, vz_9, vz_10, .ref aU])), (aU, .inl (cI, 6, .inl fU_6))]) [0, 1] rfl
  have hD9 := hD.sub (ws' := [(ho, .inr (0, [vz_0, vz_1, vz_2, .int (nI T), vz_4, vz_5, vz_6, vz_7, vz_8, vz_9, vz_10, .ref aU])), (aU, .inl (cI, 6, .inl fU_6))]) [0, 1] (by decide) rfl
  exact wt_vret hx hb hr hlocks hP9 hD9 hS ⟨fU_6, rfl⟩ dX0_shift_20
set_option maxHeartbeats 4000000 in
set_option maxRecDepth 100000 in
theorem c_X0_suppose_0 (l : Launch) (D : va_G) (cI cZ cH : ClassId) (ho aK : Nat) (T j : Nat) (fK : Nat → Int32) (v : Int32) (vz_0 vz_1 vz_2 vz_4 vz_5 vz_6 vz_8 vz_9 vz_10 vz_11 : Value) (hT6 : T ≤ 6) (hjT : j < T) : wt_M l yX0_suppose wsX0_suppose ({ frames := 0, cells := 0, slots := 0, locals := 0 } : Room) D (wt_T cI cZ cH) [.ref ho, .int (nI j), .int 0, .int v] [(ho, .inr (0, [vz_0, vz_1, vz_2, .int (nI T), vz_4, vz_5, vz_6, .ref aK, vz_8, vz_9, vz_10, vz_11])), (aK, .inl (cI, 6, .inl fK))] (wt_QV D (fun w => ∃ (fK2 : Nat → Int32), w = [(ho, .inr (0, [vz_0, vz_1, vz_2, .int (nI T), vz_4, vz_5, vz_6, .ref aK, vz_8, vz_9, vz_10, vz_11])), (aK, .inl (cI, 6, .inl fK2))])) := by
  refine wt_M.ofW (cc := cX0_suppose) (maxL := 4) (ret := none) (by decide) rfl (Nat.le_of_ble_eq_true rfl) ?_
  intro p e s m below meth c A ls hx hb hr hts hown hlocks hml hnm hP hK hD hA hS hl
  have hP : va_P D vwCl [(ho, .inr (0, [vz_0, vz_1, vz_2, .int (nI T), vz_4, vz_5, vz_6, .ref aK, vz_8, vz_9, vz_10, vz_11])), (aK, .inl (cI, 6, .inl fK))] s.heap := hP
  have hown : s.vm.findClass RX0 = some m.cls := hown
  have hl : lv_has ls 4 [(0, .ref ho), (1, .int (nI j)), (2, .int 0), (3, .int v)] := hl
  have hi0 : ∀ w ∈ u_ws RX0 TX0 12, w ∈ wsX0_suppose := by decide +kernel
  have wf34 := hts (.fieldLink RX0 34 "WarmTubes$House" "sort" "[I") (by decide +kernel)
  refine lv_iload_n hx hb dX0_suppose_0 rfl (lv_at hl 2 rfl) ?_
  refine lv_lookup (off := 27) (tgt := 28) hx hb dX0_suppose_1 (by decide) (by decide) (by decide) ?_
  refine lv_aload_n hx hb dX0_suppose_28 rfl (lv_at hl 0 rfl) ?_
  refine va_get (D := D) (ci := 0) (v := .ref aK) (C := RX0) (T := TX0) (N := 12) hx hb hts hi0 hown hK.1 hP 0 rfl rfl 7 (by decide) wf34 (fun _ h9 => h9) rfl dX0_suppose_29 ?_
  refine lv_iload_n hx hb dX0_suppose_32 rfl (lv_at hl 1 rfl) ?_
  refine lv_iload_n hx hb dX0_suppose_33 rfl (lv_at hl 3 rfl) ?_
  refine va_iast hx hb hK.1 hP hD hS 1 0 rfl rfl (vp_in_nI (by omega) (by omega)) dX0_suppose_34 (fun H locs hP hD hS => ?_)
  have hP : va_P D vwCl [(ho, .inr (0, [vz_0, vz_1, vz_2, .int (nI T), vz_4, vz_5, vz_6, .ref aK, vz_8, vz_9, vz_10, vz_11])), (aK, .inl (cI, 6, .inl (upd fK ((nI j).toNatClampNeg) v)))] H := hP
  have hD : va_D A [(ho, .inr (0, [vz_0, vz_1, vz_2, .int (nI T), vz_4, vz_5, vz_6, .ref aK, vz_8, vz_9, vz_10, vz_11])), (aK, .inl (cI, 6, .inl (upd fK ((nI j).toNatClampNeg) v)))] := hD
  generalize upd fK ((nI j).toNatClampNeg) v = fK_1 at hP hD
  refine lv_goto (tgt := 55) hx hb dX0_suppose_35 (by decide) ?_
  have hP9 := hP.sub (ws' := [(ho, .inr (0, [vz_0, vz_1, vz_2, .int (nI T), vz_4, vz_5, vz_6, .ref aK, vz_8, vz_9, vz_10, vz_11])), (aK, .inl (cI, 6, .inl fK_1))]) [0, 1] rfl
  have hD9 := hD.sub (ws' := [(ho, .inr (0, [vz_0, vz_1, vz_2, .int (nI T), vz_4, vz_5, vz_6, .ref aK, vz_8, vz_9, vz_10, vz_11])), (aK, .inl (cI, 6, .inl fK_1))]) [0, 1] (by decide) rfl
  exact wt_vret hx hb hr hlocks hP9 hD9 hS ⟨fK_1, rfl⟩ dX0_suppose_55
set_option maxHeartbeats 4000000 in
set_option maxRecDepth 100000 in
theorem c_X0_suppose_1 (l : Launch) (D : va_G) (cI cZ cH : ClassId) (ho aT : Nat) (T j : Nat) (fT : Nat → Int32) (v : Int32) (vz_0 vz_1 vz_2 vz_4 vz_5 vz_6 vz_7 vz_8 vz_10 vz_11 : Value) (hT6 : T ≤ 6) (hjT : j < T) : wt_M l yX0_suppose wsX0_suppose ({ frames := 0, cells := 0, slots := 0, locals := 0 } : Room) D (wt_T cI cZ cH) [.ref ho, .int (nI j), .int 1, .int v] [(ho, .inr (0, [vz_0, vz_1, vz_2, .int (nI T), vz_4, vz_5, vz_6, vz_7, vz_8, .ref aT, vz_10, vz_11])), (aT, .inl (cI, 6, .inl fT))] (wt_QV D (fun w => ∃ (fT2 : Nat → Int32), w = [(ho, .inr (0, [vz_0, vz_1, vz_2, .int (nI T), vz_4, vz_5, vz_6, vz_7, vz_8, .ref aT, vz_10, vz_11])), (aT, .inl (cI, 6, .inl fT2))])) := by
  refine wt_M.ofW (cc := cX0_suppose) (maxL := 4) (ret := none) (by decide) rfl (Nat.le_of_ble_eq_true rfl) ?_
  intro p e s m below meth c A ls hx hb hr hts hown hlocks hml hnm hP hK hD hA hS hl
  have hP : va_P D vwCl [(ho, .inr (0, [vz_0, vz_1, vz_2, .int (nI T), vz_4, vz_5, vz_6, vz_7, vz_8, .ref aT, vz_10, vz_11])), (aT, .inl (cI, 6, .inl fT))] s.heap := hP
  have hown : s.vm.findClass RX0 = some m.cls := hown
  have hl : lv_has ls 4 [(0, .ref ho), (1, .int (nI j)), (2, .int 1), (3, .int v)] := hl
  have hi0 : ∀ w ∈ u_ws RX0 TX0 12, w ∈ wsX0_suppose := by decide +kernel
  have wf40 := hts (.fieldLink RX0 40 "WarmTubes$House" "takes" "[I") (by decide +kernel)
  refine lv_iload_n hx hb dX0_suppose_0 rfl (lv_at hl 2 rfl) ?_
  refine lv_lookup (off := 37) (tgt := 38) hx hb dX0_suppose_1 (by decide) (by decide) (by decide) ?_
  refine lv_aload_n hx hb dX0_suppose_38 rfl (lv_at hl 0 rfl) ?_
  refine va_get (D := D) (ci := 0) (v := .ref aT) (C := RX0) (T := TX0) (N := 12) hx hb hts hi0 hown hK.1 hP 0 rfl rfl 9 (by decide) wf40 (fun _ h9 => h9) rfl dX0_suppose_39 ?_
  refine lv_iload_n hx hb dX0_suppose_42 rfl (lv_at hl 1 rfl) ?_
  refine lv_iload_n hx hb dX0_suppose_43 rfl (lv_at hl 3 rfl) ?_
  refine va_iast hx hb hK.1 hP hD hS 1 0 rfl rfl (vp_in_nI (by omega) (by omega)) dX0_suppose_44 (fun H locs hP hD hS => ?_)
  have hP : va_P D vwCl [(ho, .inr (0, [vz_0, vz_1, vz_2, .int (nI T), vz_4, vz_5, vz_6, vz_7, vz_8, .ref aT, vz_10, vz_11])), (aT, .inl (cI, 6, .inl (upd fT ((nI j).toNatClampNeg) v)))] H := hP
  have hD : va_D A [(ho, .inr (0, [vz_0, vz_1, vz_2, .int (nI T), vz_4, vz_5, vz_6, vz_7, vz_8, .ref aT, vz_10, vz_11])), (aT, .inl (cI, 6, .inl (upd fT ((nI j).toNatClampNeg) v)))] := hD
  generalize upd fT ((nI j).toNatClampNeg) v = fT_1 at hP hD
  refine lv_goto (tgt := 55) hx hb dX0_suppose_45 (by decide) ?_
  have hP9 := hP.sub (ws' := [(ho, .inr (0, [vz_0, vz_1, vz_2, .int (nI T), vz_4, vz_5, vz_6, vz_7, vz_8, .ref aT, vz_10, vz_11])), (aT, .inl (cI, 6, .inl fT_1))]) [0, 1] rfl
  have hD9 := hD.sub (ws' := [(ho, .inr (0, [vz_0, vz_1, vz_2, .int (nI T), vz_4, vz_5, vz_6, vz_7, vz_8, .ref aT, vz_10, vz_11])), (aT, .inl (cI, 6, .inl fT_1))]) [0, 1] (by decide) rfl
  exact wt_vret hx hb hr hlocks hP9 hD9 hS ⟨fT_1, rfl⟩ dX0_suppose_55
set_option maxHeartbeats 4000000 in
set_option maxRecDepth 100000 in
theorem c_X0_suppose_2 (l : Launch) (D : va_G) (cI cZ cH : ClassId) (ho aP : Nat) (R T j v : Nat) (fP : Nat → Int32) (vz_0 vz_1 vz_4 vz_5 vz_6 vz_7 vz_9 vz_10 vz_11 : Value) (hR5 : R ≤ 5) (hT6 : T ≤ 6) (hwP : hw R T fP) (hjT : j < T) (hvR : v ≤ R) : wt_M l yX0_suppose wsX0_suppose ({ frames := 0, cells := 0, slots := 0, locals := 0 } : Room) D (wt_T cI cZ cH) [.ref ho, .int (nI j), .int 2, .int (nI v)] [(ho, .inr (0, [vz_0, vz_1, .int (nI R), .int (nI T), vz_4, vz_5, vz_6, vz_7, .ref aP, vz_9, vz_10, vz_11])), (aP, .inl (cI, 6, .inl fP))] (wt_QV D (fun w => ∃ (fP2 : Nat → Int32), w = [(ho, .inr (0, [vz_0, vz_1, .int (nI R), .int (nI T), vz_4, vz_5, vz_6, vz_7, .ref aP, vz_9, vz_10, vz_11])), (aP, .inl (cI, 6, .inl fP2))] ∧ hw R T fP2)) := by
  refine wt_M.ofW (cc := cX0_suppose) (maxL := 4) (ret := none) (by decide) rfl (Nat.le_of_ble_eq_true rfl) ?_
  intro p e s m below meth c A ls hx hb hr hts hown hlocks hml hnm hP hK hD hA hS hl
  have hP : va_P D vwCl [(ho, .inr (0, [vz_0, vz_1, .int (nI R), .int (nI T), vz_4, vz_5, vz_6, vz_7, .ref aP, vz_9, vz_10, vz_11])), (aP, .inl (cI, 6, .inl fP))] s.heap := hP
  have hown : s.vm.findClass RX0 = some m.cls := hown
  have hl : lv_has ls 4 [(0, .ref ho), (1, .int (nI j)), (2, .int 2), (3, .int (nI v))] := hl
  have hi0 : ∀ w ∈ u_ws RX0 TX0 12, w ∈ wsX0_suppose := by decide +kernel
  have wf37 := hts (.fieldLink RX0 37 "WarmTubes$House" "where" "[I") (by decide +kernel)
  refine lv_iload_n hx hb dX0_suppose_0 rfl (lv_at hl 2 rfl) ?_
  refine lv_lookup (off := 47) (tgt := 48) hx hb dX0_suppose_1 (by decide) (by decide) (by decide) ?_
  refine lv_aload_n hx hb dX0_suppose_48 rfl (lv_at hl 0 rfl) ?_
  refine va_get (D := D) (ci := 0) (v := .ref aP) (C := RX0) (T := TX0) (N := 12) hx hb hts hi0 hown hK.1 hP 0 rfl rfl 8 (by decide) wf37 (fun _ h9 => h9) rfl dX0_suppose_49 ?_
  refine lv_iload_n hx hb dX0_suppose_52 rfl (lv_at hl 1 rfl) ?_
  refine lv_iload_n hx hb dX0_suppose_53 rfl (lv_at hl 3 rfl) ?_
  refine va_iast hx hb hK.1 hP hD hS 1 0 rfl rfl (vp_in_nI (by omega) (by omega)) dX0_suppose_54 (fun H locs hP hD hS => ?_)
  have hP : va_P D vwCl [(ho, .inr (0, [vz_0, vz_1, .int (nI R), .int (nI T), vz_4, vz_5, vz_6, vz_7, .ref aP, vz_9, vz_10, vz_11])), (aP, .inl (cI, 6, .inl (upd fP ((nI j).toNatClampNeg) (nI v))))] H := hP
  have hD : va_D A [(ho, .inr (0, [vz_0, vz_1, .int (nI R), .int (nI T), vz_4, vz_5, vz_6, vz_7, .ref aP, vz_9, vz_10, vz_11])), (aP, .inl (cI, 6, .inl (upd fP ((nI j).toNatClampNeg) (nI v))))] := hD
  have hw_1 : hw R T (upd fP ((nI j).toNatClampNeg) (nI v)) := hw_upd (v := v) hwP (by omega) _
  generalize upd fP ((nI j).toNatClampNeg) (nI v) = fP_2 at hP hD hw_1
  have hP9 := hP.sub (ws' := [(ho, .inr (0, [vz_0, vz_1, .int (nI R), .int (nI T), vz_4, vz_5, vz_6, vz_7, .ref aP, vz_9, vz_10, vz_11])), (aP, .inl (cI, 6, .inl fP_2))]) [0, 1] rfl
  have hD9 := hD.sub (ws' := [(ho, .inr (0, [vz_0, vz_1, .int (nI R), .int (nI T), vz_4, vz_5, vz_6, vz_7, .ref aP, vz_9, vz_10, vz_11])), (aP, .inl (cI, 6, .inl fP_2))]) [0, 1] (by decide) rfl
  exact wt_vret hx hb hr hlocks hP9 hD9 hS ⟨fP_2, rfl, hw_1⟩ dX0_suppose_55
set_option maxHeartbeats 4000000 in
set_option maxRecDepth 100000 in
theorem c_X0_become (l : Launch) (D : va_G) (cI cZ cH : ClassId) (ho aW aS aK aP aT aH aU ot bW bS bK bP bT bH bU : Nat) (R T : Nat) (fr co mi : Int32) (fW fS fK fP fT fH fU gW gS gK gP gT gH gU : Nat → Int32) (vz_0 vz_1 vz_2 vz_3 vz_4 : Value) (hR5 : R ≤ 5) (hT6 : T ≤ 6) (hwP : hw R T fP) : wt_M l yX0_become wsX0_become ({ frames := 1, cells := 0, slots := 0, locals := 60 } : Room) D (wt_T cI cZ cH) [.ref ho, .ref ot] [(ho, .inr (0, [vz_0, vz_1, vz_2, vz_3, vz_4, .ref aW, .ref aS, .ref aK, .ref aP, .ref aT, .ref aH, .ref aU])), (aW, .inl (cI, 5, .inl gW)), (aS, .inl (cI, 5, .inl gS)), (aK, .inl (cI, 6, .inl gK)), (aP, .inl (cI, 6, .inl gP)), (aT, .inl (cI, 6, .inl gT)), (aH, .inl (cI, 6, .inl gH)), (aU, .inl (cI, 6, .inl gU)), (ot, .inr (0, [.int fr, .int co, .int (nI R), .int (nI T), .int mi, .ref bW, .ref bS, .ref bK, .ref bP, .ref bT, .ref bH, .ref bU])), (bW, .inl (cI, 5, .inl fW)), (bS, .inl (cI, 5, .inl fS)), (bK, .inl (cI, 6, .inl fK)), (bP, .inl (cI, 6, .inl fP)), (bT, .inl (cI, 6, .inl fT)), (bH, .inl (cI, 6, .inl fH)), (bU, .inl (cI, 6, .inl fU))] (wt_QV D (fun w => ∃ (gW2 gS2 gK2 gP2 gT2 gH2 gU2 : Nat → Int32), w = [(ho, .inr (0, [.int fr, .int co, .int (nI R), .int (nI T), .int mi, .ref aW, .ref aS, .ref aK, .ref aP, .ref aT, .ref aH, .ref aU])), (aW, .inl (cI, 5, .inl gW2)), (aS, .inl (cI, 5, .inl gS2)), (aK, .inl (cI, 6, .inl gK2)), (aP, .inl (cI, 6, .inl gP2)), (aT, .inl (cI, 6, .inl gT2)), (aH, .inl (cI, 6, .inl gH2)), (aU, .inl (cI, 6, .inl gU2)), (ot, .inr (0, [.int fr, .int co, .int (nI R), .int (nI T), .int mi, .ref bW, .ref bS, .ref bK, .ref bP, .ref bT, .ref bH, .ref bU])), (bW, .inl (cI, 5, .inl fW)), (bS, .inl (cI, 5, .inl fS)), (bK, .inl (cI, 6, .inl fK)), (bP, .inl (cI, 6, .inl fP)), (bT, .inl (cI, 6, .inl fT)), (bH, .inl (cI, 6, .inl fH)), (bU, .inl (cI, 6, .inl fU))] ∧ hw R T gP2)) := by
  refine wt_M.ofW (cc := cX0_become) (maxL := 2) (ret := none) (by decide) rfl (Nat.le_of_ble_eq_true rfl) ?_
  intro p e s m below meth c A ls hx hb hr hts hown hlocks hml hnm hP hK hD hA hS hl
  have hP : va_P D vwCl [(ho, .inr (0, [vz_0, vz_1, vz_2, vz_3, vz_4, .ref aW, .ref aS, .ref aK, .ref aP, .ref aT, .ref aH, .ref aU])), (aW, .inl (cI, 5, .inl gW)), (aS, .inl (cI, 5, .inl gS)), (aK, .inl (cI, 6, .inl gK)), (aP, .inl (cI, 6, .inl gP)), (aT, .inl (cI, 6, .inl gT)), (aH, .inl (cI, 6, .inl gH)), (aU, .inl (cI, 6, .inl gU)), (ot, .inr (0, [.int fr, .int co, .int (nI R), .int (nI T), .int mi, .ref bW, .ref bS, .ref bK, .ref bP, .ref bT, .ref bH, .ref bU])), (bW, .inl (cI, 5, .inl fW)), (bS, .inl (cI, 5, .inl fS)), (bK, .inl (cI, 6, .inl fK)), (bP, .inl (cI, 6, .inl fP)), (bT, .inl (cI, 6, .inl fT)), (bH, .inl (cI, 6, .inl fH)), (bU, .inl (cI, 6, .inl fU))] s.heap := hP
  have hown : s.vm.findClass RX0 = some m.cls := hown
  have hl : lv_has ls 2 [(0, .ref ho), (1, .ref ot)] := hl
  have hi0 : ∀ w ∈ u_ws RX0 TX0 12, w ∈ wsX0_become := by decide +kernel
  have wf15 := hts (.fieldLink RX0 15 "WarmTubes$House" "cold" "I") (by decide +kernel)
  have wf18 := hts (.fieldLink RX0 18 "WarmTubes$House" "rooms" "I") (by decide +kernel)
  have wf21 := hts (.fieldLink RX0 21 "WarmTubes$House" "tubes" "I") (by decide +kernel)
  have wf24 := hts (.fieldLink RX0 24 "WarmTubes$House" "minute" "I") (by decide +kernel)
  have wf27 := hts (.fieldLink RX0 27 "WarmTubes$House" "warmth" "[I") (by decide +kernel)
  have wf31 := hts (.fieldLink RX0 31 "WarmTubes$House" "stove" "[I") (by decide +kernel)
  have wf34 := hts (.fieldLink RX0 34 "WarmTubes$House" "sort" "[I") (by decide +kernel)
  have wf37 := hts (.fieldLink RX0 37 "WarmTubes$House" "where" "[I") (by decide +kernel)
  have wf40 := hts (.fieldLink RX0 40 "WarmTubes$House" "takes" "[I") (by decide +kernel)
  have wf43 := hts (.fieldLink RX0 43 "WarmTubes$House" "holds" "[I") (by decide +kernel)
  have wf46 := hts (.fieldLink RX0 46 "WarmTubes$House" "up" "[I") (by decide +kernel)
  have wf9 := hts (.fieldLink RX0 9 "WarmTubes$House" "frost" "I") (by decide +kernel)
  have wy49 := hts (.methodLink RX0 49 arraycopyName) (by decide +kernel)
  have wyi := hts (.initialized "java/lang/System") (by decide +kernel)
  have wyn := hts (.native arraycopyName) (by decide +kernel)
  have wys := hts (.static arraycopyName) (by decide +kernel)
  refine lv_aload_n hx hb dX0_become_0 rfl (lv_at hl 0 rfl) ?_
  refine lv_aload_n hx hb dX0_become_1 rfl (lv_at hl 1 rfl) ?_
  refine va_get (D := D) (ci := 0) (v := .int fr) (C := RX0) (T := TX0) (N := 12) hx hb hts hi0 hown hK.1 hP 8 rfl rfl 0 (by decide) wf9 (fun _ h9 => h9) rfl dX0_become_2 ?_
  refine va_put (D := D) (ci := 0) (v := .int fr) (ty := .int) (C := RX0) (T := TX0) (N := 12) hx hb hts hi0 tyX0 tyX0_ok nmX0 hown hK.1 hP hD hS 0 rfl rfl 0 (by decide) wf9 (fun _ h9 => h9) rfl (by decide +kernel) rfl rfl (Nat.le_of_ble_eq_true rfl) dX0_become_5 (fun H locs hP hD hS => ?_)
  have hP : va_P D vwCl [(ho, .inr (0, [.int fr, vz_1, vz_2, vz_3, vz_4, .ref aW, .ref aS, .ref aK, .ref aP, .ref aT, .ref aH, .ref aU])), (aW, .inl (cI, 5, .inl gW)), (aS, .inl (cI, 5, .inl gS)), (aK, .inl (cI, 6, .inl gK)), (aP, .inl (cI, 6, .inl gP)), (aT, .inl (cI, 6, .inl gT)), (aH, .inl (cI, 6, .inl gH)), (aU, .inl (cI, 6, .inl gU)), (ot, .inr (0, [.int fr, .int co, .int (nI R), .int (nI T), .int mi, .ref bW, .ref bS, .ref bK, .ref bP, .ref bT, .ref bH, .ref bU])), (bW, .inl (cI, 5, .inl fW)), (bS, .inl (cI, 5, .inl fS)), (bK, .inl (cI, 6, .inl fK)), (bP, .inl (cI, 6, .inl fP)), (bT, .inl (cI, 6, .inl fT)), (bH, .inl (cI, 6, .inl fH)), (bU, .inl (cI, 6, .inl fU))] H := hP
  have hD : va_D A [(ho, .inr (0, [.int fr, vz_1, vz_2, vz_3, vz_4, .ref aW, .ref aS, .ref aK, .ref aP, .ref aT, .ref aH, .ref aU])), (aW, .inl (cI, 5, .inl gW)), (aS, .inl (cI, 5, .inl gS)), (aK, .inl (cI, 6, .inl gK)), (aP, .inl (cI, 6, .inl gP)), (aT, .inl (cI, 6, .inl gT)), (aH, .inl (cI, 6, .inl gH)), (aU, .inl (cI, 6, .inl gU)), (ot, .inr (0, [.int fr, .int co, .int (nI R), .int (nI T), .int mi, .ref bW, .ref bS, .ref bK, .ref bP, .ref bT, .ref bH, .ref bU])), (bW, .inl (cI, 5, .inl fW)), (bS, .inl (cI, 5, .inl fS)), (bK, .inl (cI, 6, .inl fK)), (bP, .inl (cI, 6, .inl fP)), (bT, .inl (cI, 6, .inl fT)), (bH, .inl (cI, 6, .inl fH)), (bU, .inl (cI, 6, .inl fU))] := hD
  refine lv_aload_n hx hb dX0_become_8 rfl (lv_at hl 0 rfl) ?_
  refine lv_aload_n hx hb dX0_become_9 rfl (lv_at hl 1 rfl) ?_
  refine va_get (D := D) (ci := 0) (v := .int co) (C := RX0) (T := TX0) (N := 12) hx hb hts hi0 hown hK.1 hP 8 rfl rfl 1 (by decide) wf15 (fun _ h9 => h9) rfl dX0_become_10 ?_
  refine va_put (D := D) (ci := 0) (v := .int co) (ty := .int) (C := RX0) (T := TX0) (N := 12) hx hb hts hi0 tyX0 tyX0_ok nmX0 hown hK.1 hP hD hS 0 rfl rfl 1 (by decide) wf15 (fun _ h9 => h9) rfl (by decide +kernel) rfl rfl (Nat.le_of_ble_eq_true rfl) dX0_become_13 (fun H locs hP hD hS => ?_)
  have hP : va_P D vwCl [(ho, .inr (0, [.int fr, .int co, vz_2, vz_3, vz_4, .ref aW, .ref aS, .ref aK, .ref aP, .ref aT, .ref aH, .ref aU])), (aW, .inl (cI, 5, .inl gW)), (aS, .inl (cI, 5, .inl gS)), (aK, .inl (cI, 6, .inl gK)), (aP, .inl (cI, 6, .inl gP)), (aT, .inl (cI, 6, .inl gT)), (aH, .inl (cI, 6, .inl gH)), (aU, .inl (cI, 6, .inl gU)), (ot, .inr (0, [.int fr, .int co, .int (nI R), .int (nI T), .int mi, .ref bW, .ref bS, .ref bK, .ref bP, .ref bT, .ref bH, .ref bU])), (bW, .inl (cI, 5, .inl fW)), (bS, .inl (cI, 5, .inl fS)), (bK, .inl (cI, 6, .inl fK)), (bP, .inl (cI, 6, .inl fP)), (bT, .inl (cI, 6, .inl fT)), (bH, .inl (cI, 6, .inl fH)), (bU, .inl (cI, 6, .inl fU))] H := hP
  have hD : va_D A [(ho, .inr (0, [.int fr, .int co, vz_2, vz_3, vz_4, .ref aW, .ref aS, .ref aK, .ref aP, .ref aT, .ref aH, .ref aU])), (aW, .inl (cI, 5, .inl gW)), (aS, .inl (cI, 5, .inl gS)), (aK, .inl (cI, 6, .inl gK)), (aP, .inl (cI, 6, .inl gP)), (aT, .inl (cI, 6, .inl gT)), (aH, .inl (cI, 6, .inl gH)), (aU, .inl (cI, 6, .inl gU)), (ot, .inr (0, [.int fr, .int co, .int (nI R), .int (nI T), .int mi, .ref bW, .ref bS, .ref bK, .ref bP, .ref bT, .ref bH, .ref bU])), (bW, .inl (cI, 5, .inl fW)), (bS, .inl (cI, 5, .inl fS)), (bK, .inl (cI, 6, .inl fK)), (bP, .inl (cI, 6, .inl fP)), (bT, .inl (cI, 6, .inl fT)), (bH, .inl (cI, 6, .inl fH)), (bU, .inl (cI, 6, .inl fU))] := hD
  refine lv_aload_n hx hb dX0_become_16 rfl (lv_at hl 0 rfl) ?_
  refine lv_aload_n hx hb dX0_become_17 rfl (lv_at hl 1 rfl) ?_
  refine va_get (D := D) (ci := 0) (v := .int (nI R)) (C := RX0) (T := TX0) (N := 12) hx hb hts hi0 hown hK.1 hP 8 rfl rfl 2 (by decide) wf18 (fun _ h9 => h9) rfl dX0_become_18 ?_
  refine va_put (D := D) (ci := 0) (v := .int (nI R)) (ty := .int) (C := RX0) (T := TX0) (N := 12) hx hb hts hi0 tyX0 tyX0_ok nmX0 hown hK.1 hP hD hS 0 rfl rfl 2 (by decide) wf18 (fun _ h9 => h9) rfl (by decide +kernel) rfl rfl (Nat.le_of_ble_eq_true rfl) dX0_become_21 (fun H locs hP hD hS => ?_)
  have hP : va_P D vwCl [(ho, .inr (0, [.int fr, .int co, .int (nI R), vz_3, vz_4, .ref aW, .ref aS, .ref aK, .ref aP, .ref aT, .ref aH, .ref aU])), (aW, .inl (cI, 5, .inl gW)), (aS, .inl (cI, 5, .inl gS)), (aK, .inl (cI, 6, .inl gK)), (aP, .inl (cI, 6, .inl gP)), (aT, .inl (cI, 6, .inl gT)), (aH, .inl (cI, 6, .inl gH)), (aU, .inl (cI, 6, .inl gU)), (ot, .inr (0, [.int fr, .int co, .int (nI R), .int (nI T), .int mi, .ref bW, .ref bS, .ref bK, .ref bP, .ref bT, .ref bH, .ref bU])), (bW, .inl (cI, 5, .inl fW)), (bS, .inl (cI, 5, .inl fS)), (bK, .inl (cI, 6, .inl fK)), (bP, .inl (cI, 6, .inl fP)), (bT, .inl (cI, 6, .inl fT)), (bH, .inl (cI, 6, .inl fH)), (bU, .inl (cI, 6, .inl fU))] H := hP
  have hD : va_D A [(ho, .inr (0, [.int fr, .int co, .int (nI R), vz_3, vz_4, .ref aW, .ref aS, .ref aK, .ref aP, .ref aT, .ref aH, .ref aU])), (aW, .inl (cI, 5, .inl gW)), (aS, .inl (cI, 5, .inl gS)), (aK, .inl (cI, 6, .inl gK)), (aP, .inl (cI, 6, .inl gP)), (aT, .inl (cI, 6, .inl gT)), (aH, .inl (cI, 6, .inl gH)), (aU, .inl (cI, 6, .inl gU)), (ot, .inr (0, [.int fr, .int co, .int (nI R), .int (nI T), .int mi, .ref bW, .ref bS, .ref bK, .ref bP, .ref bT, .ref bH, .ref bU])), (bW, .inl (cI, 5, .inl fW)), (bS, .inl (cI, 5, .inl fS)), (bK, .inl (cI, 6, .inl fK)), (bP, .inl (cI, 6, .inl fP)), (bT, .inl (cI, 6, .inl fT)), (bH, .inl (cI, 6, .inl fH)), (bU, .inl (cI, 6, .inl fU))] := hD
  refine lv_aload_n hx hb dX0_become_24 rfl (lv_at hl 0 rfl) ?_
  refine lv_aload_n hx hb dX0_become_25 rfl (lv_at hl 1 rfl) ?_
  refine va_get (D := D) (ci := 0) (v := .int (nI T)) (C := RX0) (T := TX0) (N := 12) hx hb hts hi0 hown hK.1 hP 8 rfl rfl 3 (by decide) wf21 (fun _ h9 => h9) rfl dX0_become_26 ?_
  refine va_put (D := D) (ci := 0) (v := .int (nI T)) (ty := .int) (C := RX0) (T := TX0) (N := 12) hx hb hts hi0 tyX0 tyX0_ok nmX0 hown hK.1 hP hD hS 0 rfl rfl 3 (by decide) wf21 (fun _ h9 => h9) rfl (by decide +kernel) rfl rfl (Nat.le_of_ble_eq_true rfl) dX0_become_29 (fun H locs hP hD hS => ?_)
  have hP : va_P D vwCl [(ho, .inr (0, [.int fr, .int co, .int (nI R), .int (nI T), vz_4, .ref aW, .ref aS, .ref aK, .ref aP, .ref aT, .ref aH, .ref aU])), (aW, .inl (cI, 5, .inl gW)), (aS, .inl (cI, 5, .inl gS)), (aK, .inl (cI, 6, .inl gK)), (aP, .inl (cI, 6, .inl gP)), (aT, .inl (cI, 6, .inl gT)), (aH, .inl (cI, 6, .inl gH)), (aU, .inl (cI, 6, .inl gU)), (ot, .inr (0, [.int fr, .int co, .int (nI R), .int (nI T), .int mi, .ref bW, .ref bS, .ref bK, .ref bP, .ref bT, .ref bH, .ref bU])), (bW, .inl (cI, 5, .inl fW)), (bS, .inl (cI, 5, .inl fS)), (bK, .inl (cI, 6, .inl fK)), (bP, .inl (cI, 6, .inl fP)), (bT, .inl (cI, 6, .inl fT)), (bH, .inl (cI, 6, .inl fH)), (bU, .inl (cI, 6, .inl fU))] H := hP
  have hD : va_D A [(ho, .inr (0, [.int fr, .int co, .int (nI R), .int (nI T), vz_4, .ref aW, .ref aS, .ref aK, .ref aP, .ref aT, .ref aH, .ref aU])), (aW, .inl (cI, 5, .inl gW)), (aS, .inl (cI, 5, .inl gS)), (aK, .inl (cI, 6, .inl gK)), (aP, .inl (cI, 6, .inl gP)), (aT, .inl (cI, 6, .inl gT)), (aH, .inl (cI, 6, .inl gH)), (aU, .inl (cI, 6, .inl gU)), (ot, .inr (0, [.int fr, .int co, .int (nI R), .int (nI T), .int mi, .ref bW, .ref bS, .ref bK, .ref bP, .ref bT, .ref bH, .ref bU])), (bW, .inl (cI, 5, .inl fW)), (bS, .inl (cI, 5, .inl fS)), (bK, .inl (cI, 6, .inl fK)), (bP, .inl (cI, 6, .inl fP)), (bT, .inl (cI, 6, .inl fT)), (bH, .inl (cI, 6, .inl fH)), (bU, .inl (cI, 6, .inl fU))] := hD
  refine lv_aload_n hx hb dX0_become_32 rfl (lv_at hl 0 rfl) ?_
  refine lv_aload_n hx hb dX0_become_33 rfl (lv_at hl 1 rfl) ?_
  refine va_get (D := D) (ci := 0) (v := .int mi) (C := RX0) (T := TX0) (N := 12) hx hb hts hi0 hown hK.1 hP 8 rfl rfl 4 (by decide) wf24 (fun _ h9 => h9) rfl dX0_become_34 ?_
  refine va_put (D := D) (ci := 0) (v := .int mi) (ty := .int) (C := RX0) (T := TX0) (N := 12) hx hb hts hi0 tyX0 tyX0_ok nmX0 hown hK.1 hP hD hS 0 rfl rfl 4 (by decide) wf24 (fun _ h9 => h9) rfl (by decide +kernel) rfl rfl (Nat.le_of_ble_eq_true rfl) dX0_become_37 (fun H locs hP hD hS => ?_)
  have hP : va_P D vwCl [(ho, .inr (0, [.int fr, .int co, .int (nI R), .int (nI T), .int mi, .ref aW, .ref aS, .ref aK, .ref aP, .ref aT, .ref aH, .ref aU])), (aW, .inl (cI, 5, .inl gW)), (aS, .inl (cI, 5, .inl gS)), (aK, .inl (cI, 6, .inl gK)), (aP, .inl (cI, 6, .inl gP)), (aT, .inl (cI, 6, .inl gT)), (aH, .inl (cI, 6, .inl gH)), (aU, .inl (cI, 6, .inl gU)), (ot, .inr (0, [.int fr, .int co, .int (nI R), .int (nI T), .int mi, .ref bW, .ref bS, .ref bK, .ref bP, .ref bT, .ref bH, .ref bU])), (bW, .inl (cI, 5, .inl fW)), (bS, .inl (cI, 5, .inl fS)), (bK, .inl (cI, 6, .inl fK)), (bP, .inl (cI, 6, .inl fP)), (bT, .inl (cI, 6, .inl fT)), (bH, .inl (cI, 6, .inl fH)), (bU, .inl (cI, 6, .inl fU))] H := hP
  have hD : va_D A [(ho, .inr (0, [.int fr, .int co, .int (nI R), .int (nI T), .int mi, .ref aW, .ref aS, .ref aK, .ref aP, .ref aT, .ref aH, .ref aU])), (aW, .inl (cI, 5, .inl gW)), (aS, .inl (cI, 5, .inl gS)), (aK, .inl (cI, 6, .inl gK)), (aP, .inl (cI, 6, .inl gP)), (aT, .inl (cI, 6, .inl gT)), (aH, .inl (cI, 6, .inl gH)), (aU, .inl (cI, 6, .inl gU)), (ot, .inr (0, [.int fr, .int co, .int (nI R), .int (nI T), .int mi, .ref bW, .ref bS, .ref bK, .ref bP, .ref bT, .ref bH, .ref bU])), (bW, .inl (cI, 5, .inl fW)), (bS, .inl (cI, 5, .inl fS)), (bK, .inl (cI, 6, .inl fK)), (bP, .inl (cI, 6, .inl fP)), (bT, .inl (cI, 6, .inl fT)), (bH, .inl (cI, 6, .inl fH)), (bU, .inl (cI, 6, .inl fU))] := hD
  refine lv_aload_n hx hb dX0_become_40 rfl (lv_at hl 1 rfl) ?_
  refine va_get (D := D) (ci := 0) (v := .ref bW) (C := RX0) (T := TX0) (N := 12) hx hb hts hi0 hown hK.1 hP 8 rfl rfl 5 (by decide) wf27 (fun _ h9 => h9) rfl dX0_become_41 ?_
  refine lv_iconst (v := 0) hx hb dX0_become_44 (by decide) ?_
  refine lv_aload_n hx hb dX0_become_45 rfl (lv_at hl 0 rfl) ?_
  refine va_get (D := D) (ci := 0) (v := .ref aW) (C := RX0) (T := TX0) (N := 12) hx hb hts hi0 hown hK.1 hP 0 rfl rfl 5 (by decide) wf27 (fun _ h9 => h9) rfl dX0_become_46 ?_
  refine lv_iconst (v := 0) hx hb dX0_become_49 (by decide) ?_
  refine lv_iconst (v := 5) hx hb dX0_become_50 (by decide) ?_
  refine va_copyi hx hb (hml.trans hl.1.symm) hown wy49 wyn wys wyi hK.1 hP hD hS 9 1 0 0 rfl rfl rfl rfl rfl (by decide) (by decide) (by decide) (by rw [show Int32.toNatClampNeg 0 = 0 from rfl, show Int32.toNatClampNeg 5 = 5 from rfl]; omega) (by rw [show Int32.toNatClampNeg 0 = 0 from rfl, show Int32.toNatClampNeg 5 = 5 from rfl]; omega) (fun i _ => rfl) (Nat.le_of_ble_eq_true rfl) (Nat.le_of_ble_eq_true rfl) dX0_become_51 (fun H locs hP hD hS => ?_)
  have hP : va_P D vwCl [(ho, .inr (0, [.int fr, .int co, .int (nI R), .int (nI T), .int mi, .ref aW, .ref aS, .ref aK, .ref aP, .ref aT, .ref aH, .ref aU])), (aW, .inl (cI, 5, .inl (va_cpy fW gW (Int32.toNatClampNeg 0) (Int32.toNatClampNeg 0) (Int32.toNatClampNeg 5)))), (aS, .inl (cI, 5, .inl gS)), (aK, .inl (cI, 6, .inl gK)), (aP, .inl (cI, 6, .inl gP)), (aT, .inl (cI, 6, .inl gT)), (aH, .inl (cI, 6, .inl gH)), (aU, .inl (cI, 6, .inl gU)), (ot, .inr (0, [.int fr, .int co, .int (nI R), .int (nI T), .int mi, .ref bW, .ref bS, .ref bK, .ref bP, .ref bT, .ref bH, .ref bU])), (bW, .inl (cI, 5, .inl fW)), (bS, .inl (cI, 5, .inl fS)), (bK, .inl (cI, 6, .inl fK)), (bP, .inl (cI, 6, .inl fP)), (bT, .inl (cI, 6, .inl fT)), (bH, .inl (cI, 6, .inl fH)), (bU, .inl (cI, 6, .inl fU))] H := hP
  have hD : va_D A [(ho, .inr (0, [.int fr, .int co, .int (nI R), .int (nI T), .int mi, .ref aW, .ref aS, .ref aK, .ref aP, .ref aT, .ref aH, .ref aU])), (aW, .inl (cI, 5, .inl (va_cpy fW gW (Int32.toNatClampNeg 0) (Int32.toNatClampNeg 0) (Int32.toNatClampNeg 5)))), (aS, .inl (cI, 5, .inl gS)), (aK, .inl (cI, 6, .inl gK)), (aP, .inl (cI, 6, .inl gP)), (aT, .inl (cI, 6, .inl gT)), (aH, .inl (cI, 6, .inl gH)), (aU, .inl (cI, 6, .inl gU)), (ot, .inr (0, [.int fr, .int co, .int (nI R), .int (nI T), .int mi, .ref bW, .ref bS, .ref bK, .ref bP, .ref bT, .ref bH, .ref bU])), (bW, .inl (cI, 5, .inl fW)), (bS, .inl (cI, 5, .inl fS)), (bK, .inl (cI, 6, .inl fK)), (bP, .inl (cI, 6, .inl fP)), (bT, .inl (cI, 6, .inl fT)), (bH, .inl (cI, 6, .inl fH)), (bU, .inl (cI, 6, .inl fU))] := hD
  generalize va_cpy fW gW (Int32.toNatClampNeg 0) (Int32.toNatClampNeg 0) (Int32.toNatClampNeg 5) = gW_1 at hP hD
  refine lv_aload_n hx hb dX0_become_54 rfl (lv_at hl 1 rfl) ?_
  refine va_get (D := D) (ci := 0) (v := .ref bS) (C := RX0) (T := TX0) (N := 12) hx hb hts hi0 hown hK.1 hP 8 rfl rfl 6 (by decide) wf31 (fun _ h9 => h9) rfl dX0_become_55 ?_
  refine lv_iconst (v := 0) hx hb dX0_become_58 (by decide) ?_
  refine lv_aload_n hx hb dX0_become_59 rfl (lv_at hl 0 rfl) ?_
  refine va_get (D := D) (ci := 0) (v := .ref aS) (C := RX0) (T := TX0) (N := 12) hx hb hts hi0 hown hK.1 hP 0 rfl rfl 6 (by decide) wf31 (fun _ h9 => h9) rfl dX0_become_60 ?_
  refine lv_iconst (v := 0) hx hb dX0_become_63 (by decide) ?_
  refine lv_iconst (v := 5) hx hb dX0_become_64 (by decide) ?_
  refine va_copyi hx hb (hml.trans hl.1.symm) hown wy49 wyn wys wyi hK.1 hP hD hS 10 2 0 0 rfl rfl rfl rfl rfl (by decide) (by decide) (by decide) (by rw [show Int32.toNatClampNeg 0 = 0 from rfl, show Int32.toNatClampNeg 5 = 5 from rfl]; omega) (by rw [show Int32.toNatClampNeg 0 = 0 from rfl, show Int32.toNatClampNeg 5 = 5 from rfl]; omega) (fun i _ => rfl) (Nat.le_of_ble_eq_true rfl) (Nat.le_of_ble_eq_true rfl) dX0_become_65 (fun H locs hP hD hS => ?_)
  have hP : va_P D vwCl [(ho, .inr (0, [.int fr, .int co, .int (nI R), .int (nI T), .int mi, .ref aW, .ref aS, .ref aK, .ref aP, .ref aT, .ref aH, .ref aU])), (aW, .inl (cI, 5, .inl gW_1)), (aS, .inl (cI, 5, .inl (va_cpy fS gS (Int32.toNatClampNeg 0) (Int32.toNatClampNeg 0) (Int32.toNatClampNeg 5)))), (aK, .inl (cI, 6, .inl gK)), (aP, .inl (cI, 6, .inl gP)), (aT, .inl (cI, 6, .inl gT)), (aH, .inl (cI, 6, .inl gH)), (aU, .inl (cI, 6, .inl gU)), (ot, .inr (0, [.int fr, .int co, .int (nI R), .int (nI T), .int mi, .ref bW, .ref bS, .ref bK, .ref bP, .ref bT, .ref bH, .ref bU])), (bW, .inl (cI, 5, .inl fW)), (bS, .inl (cI, 5, .inl fS)), (bK, .inl (cI, 6, .inl fK)), (bP, .inl (cI, 6, .inl fP)), (bT, .inl (cI, 6, .inl fT)), (bH, .inl (cI, 6, .inl fH)), (bU, .inl (cI, 6, .inl fU))] H := hP
  have hD : va_D A [(ho, .inr (0, [.int fr, .int co, .int (nI R), .int (nI T), .int mi, .ref aW, .ref aS, .ref aK, .ref aP, .ref aT, .ref aH, .ref aU])), (aW, .inl (cI, 5, .inl gW_1)), (aS, .inl (cI, 5, .inl (va_cpy fS gS (Int32.toNatClampNeg 0) (Int32.toNatClampNeg 0) (Int32.toNatClampNeg 5)))), (aK, .inl (cI, 6, .inl gK)), (aP, .inl (cI, 6, .inl gP)), (aT, .inl (cI, 6, .inl gT)), (aH, .inl (cI, 6, .inl gH)), (aU, .inl (cI, 6, .inl gU)), (ot, .inr (0, [.int fr, .int co, .int (nI R), .int (nI T), .int mi, .ref bW, .ref bS, .ref bK, .ref bP, .ref bT, .ref bH, .ref bU])), (bW, .inl (cI, 5, .inl fW)), (bS, .inl (cI, 5, .inl fS)), (bK, .inl (cI, 6, .inl fK)), (bP, .inl (cI, 6, .inl fP)), (bT, .inl (cI, 6, .inl fT)), (bH, .inl (cI, 6, .inl fH)), (bU, .inl (cI, 6, .inl fU))] := hD
  generalize va_cpy fS gS (Int32.toNatClampNeg 0) (Int32.toNatClampNeg 0) (Int32.toNatClampNeg 5) = gS_2 at hP hD
  refine lv_aload_n hx hb dX0_become_68 rfl (lv_at hl 1 rfl) ?_
  refine va_get (D := D) (ci := 0) (v := .ref bK) (C := RX0) (T := TX0) (N := 12) hx hb hts hi0 hown hK.1 hP 8 rfl rfl 7 (by decide) wf34 (fun _ h9 => h9) rfl dX0_become_69 ?_
  refine lv_iconst (v := 0) hx hb dX0_become_72 (by decide) ?_
  refine lv_aload_n hx hb dX0_become_73 rfl (lv_at hl 0 rfl) ?_
  refine va_get (D := D) (ci := 0) (v := .ref aK) (C := RX0) (T := TX0) (N := 12) hx hb hts hi0 hown hK.1 hP 0 rfl rfl 7 (by decide) wf34 (fun _ h9 => h9) rfl dX0_become_74 ?_
  refine lv_iconst (v := 0) hx hb dX0_become_77 (by decide) ?_
  refine lv_bipush (v := 6) hx hb dX0_become_78 (by decide) ?_
  refine va_copyi hx hb (hml.trans hl.1.symm) hown wy49 wyn wys wyi hK.1 hP hD hS 11 3 0 0 rfl rfl rfl rfl rfl (by decide) (by decide) (by decide) (by rw [show Int32.toNatClampNeg 0 = 0 from rfl, show Int32.toNatClampNeg 6 = 6 from rfl]; omega) (by rw [show Int32.toNatClampNeg 0 = 0 from rfl, show Int32.toNatClampNeg 6 = 6 from rfl]; omega) (fun i _ => rfl) (Nat.le_of_ble_eq_true rfl) (Nat.le_of_ble_eq_true rfl) dX0_become_80 (fun H locs hP hD hS => ?_)
  have hP : va_P D vwCl [(ho, .inr (0, [.int fr, .int co, .int (nI R), .int (nI T), .int mi, .ref aW, .ref aS, .ref aK, .ref aP, .ref aT, .ref aH, .ref aU])), (aW, .inl (cI, 5, .inl gW_1)), (aS, .inl (cI, 5, .inl gS_2)), (aK, .inl (cI, 6, .inl (va_cpy fK gK (Int32.toNatClampNeg 0) (Int32.toNatClampNeg 0) (Int32.toNatClampNeg 6)))), (aP, .inl (cI, 6, .inl gP)), (aT, .inl (cI, 6, .inl gT)), (aH, .inl (cI, 6, .inl gH)), (aU, .inl (cI, 6, .inl gU)), (ot, .inr (0, [.int fr, .int co, .int (nI R), .int (nI T), .int mi, .ref bW, .ref bS, .ref bK, .ref bP, .ref bT, .ref bH, .ref bU])), (bW, .inl (cI, 5, .inl fW)), (bS, .inl (cI, 5, .inl fS)), (bK, .inl (cI, 6, .inl fK)), (bP, .inl (cI, 6, .inl fP)), (bT, .inl (cI, 6, .inl fT)), (bH, .inl (cI, 6, .inl fH)), (bU, .inl (cI, 6, .inl fU))] H := hP
  have hD : va_D A [(ho, .inr (0, [.int fr, .int co, .int (nI R), .int (nI T), .int mi, .ref aW, .ref aS, .ref aK, .ref aP, .ref aT, .ref aH, .ref aU])), (aW, .inl (cI, 5, .inl gW_1)), (aS, .inl (cI, 5, .inl gS_2)), (aK, .inl (cI, 6, .inl (va_cpy fK gK (Int32.toNatClampNeg 0) (Int32.toNatClampNeg 0) (Int32.toNatClampNeg 6)))), (aP, .inl (cI, 6, .inl gP)), (aT, .inl (cI, 6, .inl gT)), (aH, .inl (cI, 6, .inl gH)), (aU, .inl (cI, 6, .inl gU)), (ot, .inr (0, [.int fr, .int co, .int (nI R), .int (nI T), .int mi, .ref bW, .ref bS, .ref bK, .ref bP, .ref bT, .ref bH, .ref bU])), (bW, .inl (cI, 5, .inl fW)), (bS, .inl (cI, 5, .inl fS)), (bK, .inl (cI, 6, .inl fK)), (bP, .inl (cI, 6, .inl fP)), (bT, .inl (cI, 6, .inl fT)), (bH, .inl (cI, 6, .inl fH)), (bU, .inl (cI, 6, .inl fU))] := hD
  generalize va_cpy fK gK (Int32.toNatClampNeg 0) (Int32.toNatClampNeg 0) (Int32.toNatClampNeg 6) = gK_3 at hP hD
  refine lv_aload_n hx hb dX0_become_83 rfl (lv_at hl 1 rfl) ?_
  refine va_get (D := D) (ci := 0) (v := .ref bP) (C := RX0) (T := TX0) (N := 12) hx hb hts hi0 hown hK.1 hP 8 rfl rfl 8 (by decide) wf37 (fun _ h9 => h9) rfl dX0_become_84 ?_
  refine lv_iconst (v := 0) hx hb dX0_become_87 (by decide) ?_
  refine lv_aload_n hx hb dX0_become_88 rfl (lv_at hl 0 rfl) ?_
  refine va_get (D := D) (ci := 0) (v := .ref aP) (C := RX0) (T := TX0) (N := 12) hx hb hts hi0 hown hK.1 hP 0 rfl rfl 8 (by decide) wf37 (fun _ h9 => h9) rfl dX0_become_89 ?_
  refine lv_iconst (v := 0) hx hb dX0_become_92 (by decide) ?_
  refine lv_bipush (v := 6) hx hb dX0_become_93 (by decide) ?_
  refine va_copyi hx hb (hml.trans hl.1.symm) hown wy49 wyn wys wyi hK.1 hP hD hS 12 4 0 0 rfl rfl rfl rfl rfl (by decide) (by decide) (by decide) (by rw [show Int32.toNatClampNeg 0 = 0 from rfl, show Int32.toNatClampNeg 6 = 6 from rfl]; omega) (by rw [show Int32.toNatClampNeg 0 = 0 from rfl, show Int32.toNatClampNeg 6 = 6 from rfl]; omega) (fun i _ => rfl) (Nat.le_of_ble_eq_true rfl) (Nat.le_of_ble_eq_true rfl) dX0_become_95 (fun H locs hP hD hS => ?_)
  have hP : va_P D vwCl [(ho, .inr (0, [.int fr, .int co, .int (nI R), .int (nI T), .int mi, .ref aW, .ref aS, .ref aK, .ref aP, .ref aT, .ref aH, .ref aU])), (aW, .inl (cI, 5, .inl gW_1)), (aS, .inl (cI, 5, .inl gS_2)), (aK, .inl (cI, 6, .inl gK_3)), (aP, .inl (cI, 6, .inl (va_cpy fP gP (Int32.toNatClampNeg 0) (Int32.toNatClampNeg 0) (Int32.toNatClampNeg 6)))), (aT, .inl (cI, 6, .inl gT)), (aH, .inl (cI, 6, .inl gH)), (aU, .inl (cI, 6, .inl gU)), (ot, .inr (0, [.int fr, .int co, .int (nI R), .int (nI T), .int mi, .ref bW, .ref bS, .ref bK, .ref bP, .ref bT, .ref bH, .ref bU])), (bW, .inl (cI, 5, .inl fW)), (bS, .inl (cI, 5, .inl fS)), (bK, .inl (cI, 6, .inl fK)), (bP, .inl (cI, 6, .inl fP)), (bT, .inl (cI, 6, .inl fT)), (bH, .inl (cI, 6, .inl fH)), (bU, .inl (cI, 6, .inl fU))] H := hP
  have hD : va_D A [(ho, .inr (0, [.int fr, .int co, .int (nI R), .int (nI T), .int mi, .ref aW, .ref aS, .ref aK, .ref aP, .ref aT, .ref aH, .ref aU])), (aW, .inl (cI, 5, .inl gW_1)), (aS, .inl (cI, 5, .inl gS_2)), (aK, .inl (cI, 6, .inl gK_3)), (aP, .inl (cI, 6, .inl (va_cpy fP gP (Int32.toNatClampNeg 0) (Int32.toNatClampNeg 0) (Int32.toNatClampNeg 6)))), (aT, .inl (cI, 6, .inl gT)), (aH, .inl (cI, 6, .inl gH)), (aU, .inl (cI, 6, .inl gU)), (ot, .inr (0, [.int fr, .int co, .int (nI R), .int (nI T), .int mi, .ref bW, .ref bS, .ref bK, .ref bP, .ref bT, .ref bH, .ref bU])), (bW, .inl (cI, 5, .inl fW)), (bS, .inl (cI, 5, .inl fS)), (bK, .inl (cI, 6, .inl fK)), (bP, .inl (cI, 6, .inl fP)), (bT, .inl (cI, 6, .inl fT)), (bH, .inl (cI, 6, .inl fH)), (bU, .inl (cI, 6, .inl fU))] := hD
  have hw_4 : hw R T (va_cpy fP gP (Int32.toNatClampNeg 0) (Int32.toNatClampNeg 0) (Int32.toNatClampNeg 6)) := hw_cpy hwP (by omega)
  generalize va_cpy fP gP (Int32.toNatClampNeg 0) (Int32.toNatClampNeg 0) (Int32.toNatClampNeg 6) = fP_5 at hP hD hw_4
  refine lv_aload_n hx hb dX0_become_98 rfl (lv_at hl 1 rfl) ?_
  refine va_get (D := D) (ci := 0) (v := .ref bT) (C := RX0) (T := TX0) (N := 12) hx hb hts hi0 hown hK.1 hP 8 rfl rfl 9 (by decide) wf40 (fun _ h9 => h9) rfl dX0_become_99 ?_
  refine lv_iconst (v := 0) hx hb dX0_become_102 (by decide) ?_
  refine lv_aload_n hx hb dX0_become_103 rfl (lv_at hl 0 rfl) ?_
  refine va_get (D := D) (ci := 0) (v := .ref aT) (C := RX0) (T := TX0) (N := 12) hx hb hts hi0 hown hK.1 hP 0 rfl rfl 9 (by decide) wf40 (fun _ h9 => h9) rfl dX0_become_104 ?_
  refine lv_iconst (v := 0) hx hb dX0_become_107 (by decide) ?_
  refine lv_bipush (v := 6) hx hb dX0_become_108 (by decide) ?_
  refine va_copyi hx hb (hml.trans hl.1.symm) hown wy49 wyn wys wyi hK.1 hP hD hS 13 5 0 0 rfl rfl rfl rfl rfl (by decide) (by decide) (by decide) (by rw [show Int32.toNatClampNeg 0 = 0 from rfl, show Int32.toNatClampNeg 6 = 6 from rfl]; omega) (by rw [show Int32.toNatClampNeg 0 = 0 from rfl, show Int32.toNatClampNeg 6 = 6 from rfl]; omega) (fun i _ => rfl) (Nat.le_of_ble_eq_true rfl) (Nat.le_of_ble_eq_true rfl) dX0_become_110 (fun H locs hP hD hS => ?_)
  have hP : va_P D vwCl [(ho, .inr (0, [.int fr, .int co, .int (nI R), .int (nI T), .int mi, .ref aW, .ref aS, .ref aK, .ref aP, .ref aT, .ref aH, .ref aU])), (aW, .inl (cI, 5, .inl gW_1)), (aS, .inl (cI, 5, .inl gS_2)), (aK, .inl (cI, 6, .inl gK_3)), (aP, .inl (cI, 6, .inl fP_5)), (aT, .inl (cI, 6, .inl (va_cpy fT gT (Int32.toNatClampNeg 0) (Int32.toNatClampNeg 0) (Int32.toNatClampNeg 6)))), (aH, .inl (cI, 6, .inl gH)), (aU, .inl (cI, 6, .inl gU)), (ot, .inr (0, [.int fr, .int co, .int (nI R), .int (nI T), .int mi, .ref bW, .ref bS, .ref bK, .ref bP, .ref bT, .ref bH, .ref bU])), (bW, .inl (cI, 5, .inl fW)), (bS, .inl (cI, 5, .inl fS)), (bK, .inl (cI, 6, .inl fK)), (bP, .inl (cI, 6, .inl fP)), (bT, .inl (cI, 6, .inl fT)), (bH, .inl (cI, 6, .inl fH)), (bU, .inl (cI, 6, .inl fU))] H := hP
  have hD : va_D A [(ho, .inr (0, [.int fr, .int co, .int (nI R), .int (nI T), .int mi, .ref aW, .ref aS, .ref aK, .ref aP, .ref aT, .ref aH, .ref aU])), (aW, .inl (cI, 5, .inl gW_1)), (aS, .inl (cI, 5, .inl gS_2)), (aK, .inl (cI, 6, .inl gK_3)), (aP, .inl (cI, 6, .inl fP_5)), (aT, .inl (cI, 6, .inl (va_cpy fT gT (Int32.toNatClampNeg 0) (Int32.toNatClampNeg 0) (Int32.toNatClampNeg 6)))), (aH, .inl (cI, 6, .inl gH)), (aU, .inl (cI, 6, .inl gU)), (ot, .inr (0, [.int fr, .int co, .int (nI R), .int (nI T), .int mi, .ref bW, .ref bS, .ref bK, .ref bP, .ref bT, .ref bH, .ref bU])), (bW, .inl (cI, 5, .inl fW)), (bS, .inl (cI, 5, .inl fS)), (bK, .inl (cI, 6, .inl fK)), (bP, .inl (cI, 6, .inl fP)), (bT, .inl (cI, 6, .inl fT)), (bH, .inl (cI, 6, .inl fH)), (bU, .inl (cI, 6, .inl fU))] := hD
  generalize va_cpy fT gT (Int32.toNatClampNeg 0) (Int32.toNatClampNeg 0) (Int32.toNatClampNeg 6) = gT_6 at hP hD
  refine lv_aload_n hx hb dX0_become_113 rfl (lv_at hl 1 rfl) ?_
  refine va_get (D := D) (ci := 0) (v := .ref bH) (C := RX0) (T := TX0) (N := 12) hx hb hts hi0 hown hK.1 hP 8 rfl rfl 10 (by decide) wf43 (fun _ h9 => h9) rfl dX0_become_114 ?_
  refine lv_iconst (v := 0) hx hb dX0_become_117 (by decide) ?_
  refine lv_aload_n hx hb dX0_become_118 rfl (lv_at hl 0 rfl) ?_
  refine va_get (D := D) (ci := 0) (v := .ref aH) (C := RX0) (T := TX0) (N := 12) hx hb hts hi0 hown hK.1 hP 0 rfl rfl 10 (by decide) wf43 (fun _ h9 => h9) rfl dX0_become_119 ?_
  refine lv_iconst (v := 0) hx hb dX0_become_122 (by decide) ?_
  refine lv_bipush (v := 6) hx hb dX0_become_123 (by decide) ?_
  refine va_copyi hx hb (hml.trans hl.1.symm) hown wy49 wyn wys wyi hK.1 hP hD hS 14 6 0 0 rfl rfl rfl rfl rfl (by decide) (by decide) (by decide) (by rw [show Int32.toNatClampNeg 0 = 0 from rfl, show Int32.toNatClampNeg 6 = 6 from rfl]; omega) (by rw [show Int32.toNatClampNeg 0 = 0 from rfl, show Int32.toNatClampNeg 6 = 6 from rfl]; omega) (fun i _ => rfl) (Nat.le_of_ble_eq_true rfl) (Nat.le_of_ble_eq_true rfl) dX0_become_125 (fun H locs hP hD hS => ?_)
  have hP : va_P D vwCl [(ho, .inr (0, [.int fr, .int co, .int (nI R), .int (nI T), .int mi, .ref aW, .ref aS, .ref aK, .ref aP, .ref aT, .ref aH, .ref aU])), (aW, .inl (cI, 5, .inl gW_1)), (aS, .inl (cI, 5, .inl gS_2)), (aK, .inl (cI, 6, .inl gK_3)), (aP, .inl (cI, 6, .inl fP_5)), (aT, .inl (cI, 6, .inl gT_6)), (aH, .inl (cI, 6, .inl (va_cpy fH gH (Int32.toNatClampNeg 0) (Int32.toNatClampNeg 0) (Int32.toNatClampNeg 6)))), (aU, .inl (cI, 6, .inl gU)), (ot, .inr (0, [.int fr, .int co, .int (nI R), .int (nI T), .int mi, .ref bW, .ref bS, .ref bK, .ref bP, .ref bT, .ref bH, .ref bU])), (bW, .inl (cI, 5, .inl fW)), (bS, .inl (cI, 5, .inl fS)), (bK, .inl (cI, 6, .inl fK)), (bP, .inl (cI, 6, .inl fP)), (bT, .inl (cI, 6, .inl fT)), (bH, .inl (cI, 6, .inl fH)), (bU, .inl (cI, 6, .inl fU))] H := hP
  have hD : va_D A [(ho, .inr (0, [.int fr, .int co, .int (nI R), .int (nI T), .int mi, .ref aW, .ref aS, .ref aK, .ref aP, .ref aT, .ref aH, .ref aU])), (aW, .inl (cI, 5, .inl gW_1)), (aS, .inl (cI, 5, .inl gS_2)), (aK, .inl (cI, 6, .inl gK_3)), (aP, .inl (cI, 6, .inl fP_5)), (aT, .inl (cI, 6, .inl gT_6)), (aH, .inl (cI, 6, .inl (va_cpy fH gH (Int32.toNatClampNeg 0) (Int32.toNatClampNeg 0) (Int32.toNatClampNeg 6)))), (aU, .inl (cI, 6, .inl gU)), (ot, .inr (0, [.int fr, .int co, .int (nI R), .int (nI T), .int mi, .ref bW, .ref bS, .ref bK, .ref bP, .ref bT, .ref bH, .ref bU])), (bW, .inl (cI, 5, .inl fW)), (bS, .inl (cI, 5, .inl fS)), (bK, .inl (cI, 6, .inl fK)), (bP, .inl (cI, 6, .inl fP)), (bT, .inl (cI, 6, .inl fT)), (bH, .inl (cI, 6, .inl fH)), (bU, .inl (cI, 6, .inl fU))] := hD
  generalize va_cpy fH gH (Int32.toNatClampNeg 0) (Int32.toNatClampNeg 0) (Int32.toNatClampNeg 6) = gH_7 at hP hD
  refine lv_aload_n hx hb dX0_become_128 rfl (lv_at hl 1 rfl) ?_
  refine va_get (D := D) (ci := 0) (v := .ref bU) (C := RX0) (T := TX0) (N := 12) hx hb hts hi0 hown hK.1 hP 8 rfl rfl 11 (by decide) wf46 (fun _ h9 => h9) rfl dX0_become_129 ?_
  refine lv_iconst (v := 0) hx hb dX0_become_132 (by decide) ?_
  refine lv_aload_n hx hb dX0_become_133 rfl (lv_at hl 0 rfl) ?_
  refine va_get (D := D) (ci := 0) (v := .ref aU) (C := RX0) (T := TX0) (N := 12) hx hb hts hi0 hown hK.1 hP 0 rfl rfl 11 (by decide) wf46 (fun _ h9 => h9) rfl dX0_become_134 ?_
  refine lv_iconst (v := 0) hx hb dX0_become_137 (by decide) ?_
  refine lv_bipush (v := 6) hx hb dX0_become_138 (by decide) ?_
  refine va_copyi hx hb (hml.trans hl.1.symm) hown wy49 wyn wys wyi hK.1 hP hD hS 15 7 0 0 rfl rfl rfl rfl rfl (by decide) (by decide) (by decide) (by rw [show Int32.toNatClampNeg 0 = 0 from rfl, show Int32.toNatClampNeg 6 = 6 from rfl]; omega) (by rw [show Int32.toNatClampNeg 0 = 0 from rfl, show Int32.toNatClampNeg 6 = 6 from rfl]; omega) (fun i _ => rfl) (Nat.le_of_ble_eq_true rfl) (Nat.le_of_ble_eq_true rfl) dX0_become_140 (fun H locs hP hD hS => ?_)
  have hP : va_P D vwCl [(ho, .inr (0, [.int fr, .int co, .int (nI R), .int (nI T), .int mi, .ref aW, .ref aS, .ref aK, .ref aP, .ref aT, .ref aH, .ref aU])), (aW, .inl (cI, 5, .inl gW_1)), (aS, .inl (cI, 5, .inl gS_2)), (aK, .inl (cI, 6, .inl gK_3)), (aP, .inl (cI, 6, .inl fP_5)), (aT, .inl (cI, 6, .inl gT_6)), (aH, .inl (cI, 6, .inl gH_7)), (aU, .inl (cI, 6, .inl (va_cpy fU gU (Int32.toNatClampNeg 0) (Int32.toNatClampNeg 0) (Int32.toNatClampNeg 6)))), (ot, .inr (0, [.int fr, .int co, .int (nI R), .int (nI T), .int mi, .ref bW, .ref bS, .ref bK, .ref bP, .ref bT, .ref bH, .ref bU])), (bW, .inl (cI, 5, .inl fW)), (bS, .inl (cI, 5, .inl fS)), (bK, .inl (cI, 6, .inl fK)), (bP, .inl (cI, 6, .inl fP)), (bT, .inl (cI, 6, .inl fT)), (bH, .inl (cI, 6, .inl fH)), (bU, .inl (cI, 6, .inl fU))] H := hP
  have hD : va_D A [(ho, .inr (0, [.int fr, .int co, .int (nI R), .int (nI T), .int mi, .ref aW, .ref aS, .ref aK, .ref aP, .ref aT, .ref aH, .ref aU])), (aW, .inl (cI, 5, .inl gW_1)), (aS, .inl (cI, 5, .inl gS_2)), (aK, .inl (cI, 6, .inl gK_3)), (aP, .inl (cI, 6, .inl fP_5)), (aT, .inl (cI, 6, .inl gT_6)), (aH, .inl (cI, 6, .inl gH_7)), (aU, .inl (cI, 6, .inl (va_cpy fU gU (Int32.toNatClampNeg 0) (Int32.toNatClampNeg 0) (Int32.toNatClampNeg 6)))), (ot, .inr (0, [.int fr, .int co, .int (nI R), .int (nI T), .int mi, .ref bW, .ref bS, .ref bK, .ref bP, .ref bT, .ref bH, .ref bU])), (bW, .inl (cI, 5, .inl fW)), (bS, .inl (cI, 5, .inl fS)), (bK, .inl (cI, 6, .inl fK)), (bP, .inl (cI, 6, .inl fP)), (bT, .inl (cI, 6, .inl fT)), (bH, .inl (cI, 6, .inl fH)), (bU, .inl (cI, 6, .inl fU))] := hD
  generalize va_cpy fU gU (Int32.toNatClampNeg 0) (Int32.toNatClampNeg 0) (Int32.toNatClampNeg 6) = gU_8 at hP hD
  have hP9 := hP.sub (ws' := [(ho, .inr (0, [.int fr, .int co, .int (nI R), .int (nI T), .int mi, .ref aW, .ref aS, .ref aK, .ref aP, .ref aT, .ref aH, .ref aU])), (aW, .inl (cI, 5, .inl gW_1)), (aS, .inl (cI, 5, .inl gS_2)), (aK, .inl (cI, 6, .inl gK_3)), (aP, .inl (cI, 6, .inl fP_5)), (aT, .inl (cI, 6, .inl gT_6)), (aH, .inl (cI, 6, .inl gH_7)), (aU, .inl (cI, 6, .inl gU_8)), (ot, .inr (0, [.int fr, .int co, .int (nI R), .int (nI T), .int mi, .ref bW, .ref bS, .ref bK, .ref bP, .ref bT, .ref bH, .ref bU])), (bW, .inl (cI, 5, .inl fW)), (bS, .inl (cI, 5, .inl fS)), (bK, .inl (cI, 6, .inl fK)), (bP, .inl (cI, 6, .inl fP)), (bT, .inl (cI, 6, .inl fT)), (bH, .inl (cI, 6, .inl fH)), (bU, .inl (cI, 6, .inl fU))]) [0, 1, 2, 3, 4, 5, 6, 7, 8, 9, 10, 11, 12, 13, 14, 15] rfl
  have hD9 := hD.sub (ws' := [(ho, .inr (0, [.int fr, .int co, .int (nI R), .int (nI T), .int mi, .ref aW, .ref aS, .ref aK, .ref aP, .ref aT, .ref aH, .ref aU])), (aW, .inl (cI, 5, .inl gW_1)), (aS, .inl (cI, 5, .inl gS_2)), (aK, .inl (cI, 6, .inl gK_3)), (aP, .inl (cI, 6, .inl fP_5)), (aT, .inl (cI, 6, .inl gT_6)), (aH, .inl (cI, 6, .inl gH_7)), (aU, .inl (cI, 6, .inl gU_8)), (ot, .inr (0, [.int fr, .int co, .int (nI R), .int (nI T), .int mi, .ref bW, .ref bS, .ref bK, .ref bP, .ref bT, .ref bH, .ref bU])), (bW, .inl (cI, 5, .inl fW)), (bS, .inl (cI, 5, .inl fS)), (bK, .inl (cI, 6, .inl fK)), (bP, .inl (cI, 6, .inl fP)), (bT, .inl (cI, 6, .inl fT)), (bH, .inl (cI, 6, .inl fH)), (bU, .inl (cI, 6, .inl fU))]) [0, 1, 2, 3, 4, 5, 6, 7, 8, 9, 10, 11, 12, 13, 14, 15] (by decide) rfl
  exact wt_vret hx hb hr hlocks hP9 hD9 hS ⟨gW_1, gS_2, gK_3, fP_5, gT_6, gH_7, gU_8, rfl, hw_4⟩ dX0_become_143
set_option maxHeartbeats 4000000 in
set_option maxRecDepth 100000 in
theorem c_X0_writeChanging (l : Launch) (D : va_G) (cI cZ cH : ClassId) (ho aW aS aP aU : Nat) (R T a : Nat) (mi : Int32) (fW fS fP fU : Nat → Int32) (fd : Nat) (ff : Nat → Int32) (vz_0 vz_1 vz_7 vz_9 vz_10 : Value) (hR5 : R ≤ 5) (hT6 : T ≤ 6) (hwP : hw R T fP) (ha : a + 23 ≤ 552) : wt_M l yX0_writeChanging wsX0_writeChanging ({ frames := 1, cells := 0, slots := 0, locals := 60 } : Room) D (wt_T cI cZ cH) [.ref ho, .ref fd, .int (nI a)] [(ho, .inr (0, [vz_0, vz_1, .int (nI R), .int (nI T), .int mi, .ref aW, .ref aS, vz_7, .ref aP, vz_9, vz_10, .ref aU])), (aW, .inl (cI, 5, .inl fW)), (aS, .inl (cI, 5, .inl fS)), (aP, .inl (cI, 6, .inl fP)), (aU, .inl (cI, 6, .inl fU)), (fd, .inl (cI, 552, .inl ff))] (wt_QV D (fun w => ∃ (ff2 : Nat → Int32), w = [(ho, .inr (0, [vz_0, vz_1, .int (nI R), .int (nI T), .int mi, .ref aW, .ref aS, vz_7, .ref aP, vz_9, vz_10, .ref aU])), (aW, .inl (cI, 5, .inl fW)), (aS, .inl (cI, 5, .inl fS)), (aP, .inl (cI, 6, .inl fP)), (aU, .inl (cI, 6, .inl fU)), (fd, .inl (cI, 552, .inl ff2))] ∧ hw R T (fun t => ff2 (a + 11 + t)) ∧ ∀ k, (k < a ∨ a + 23 ≤ k) → ff2 k = ff k)) := by
  refine wt_M.ofW (cc := cX0_writeChanging) (maxL := 3) (ret := none) (by decide) rfl (Nat.le_of_ble_eq_true rfl) ?_
  intro p e s m below meth c A ls hx hb hr hts hown hlocks hml hnm hP hK hD hA hS hl
  have hP : va_P D vwCl [(ho, .inr (0, [vz_0, vz_1, .int (nI R), .int (nI T), .int mi, .ref aW, .ref aS, vz_7, .ref aP, vz_9, vz_10, .ref aU])), (aW, .inl (cI, 5, .inl fW)), (aS, .inl (cI, 5, .inl fS)), (aP, .inl (cI, 6, .inl fP)), (aU, .inl (cI, 6, .inl fU)), (fd, .inl (cI, 552, .inl ff))] s.heap := hP
  have hown : s.vm.findClass RX0 = some m.cls := hown
  have hl : lv_has ls 3 [(0, .ref ho), (1, .ref fd), (2, .int (nI a))] := hl
  have hi0 : ∀ w ∈ u_ws RX0 TX0 12, w ∈ wsX0_writeChanging := by decide +kernel
  have wf24 := hts (.fieldLink RX0 24 "WarmTubes$House" "minute" "I") (by decide +kernel)
  have wf27 := hts (.fieldLink RX0 27 "WarmTubes$House" "warmth" "[I") (by decide +kernel)
  have wf31 := hts (.fieldLink RX0 31 "WarmTubes$House" "stove" "[I") (by decide +kernel)
  have wf37 := hts (.fieldLink RX0 37 "WarmTubes$House" "where" "[I") (by decide +kernel)
  have wf46 := hts (.fieldLink RX0 46 "WarmTubes$House" "up" "[I") (by decide +kernel)
  have wy49 := hts (.methodLink RX0 49 arraycopyName) (by decide +kernel)
  have wyi := hts (.initialized "java/lang/System") (by decide +kernel)
  have wyn := hts (.native arraycopyName) (by decide +kernel)
  have wys := hts (.static arraycopyName) (by decide +kernel)
  refine lv_aload_n hx hb dX0_writeChanging_0 rfl (lv_at hl 1 rfl) ?_
  refine lv_iload_n hx hb dX0_writeChanging_1 rfl (lv_at hl 2 rfl) ?_
  refine lv_aload_n hx hb dX0_writeChanging_2 rfl (lv_at hl 0 rfl) ?_
  refine va_get (D := D) (ci := 0) (v := .int mi) (C := RX0) (T := TX0) (N := 12) hx hb hts hi0 hown hK.1 hP 0 rfl rfl 4 (by decide) wf24 (fun _ h9 => h9) rfl dX0_writeChanging_3 ?_
  refine va_iast hx hb hK.1 hP hD hS 5 0 rfl rfl (vp_in_nI (by omega) (by omega)) dX0_writeChanging_6 (fun H locs hP hD hS => ?_)
  have hP : va_P D vwCl [(ho, .inr (0, [vz_0, vz_1, .int (nI R), .int (nI T), .int mi, .ref aW, .ref aS, vz_7, .ref aP, vz_9, vz_10, .ref aU])), (aW, .inl (cI, 5, .inl fW)), (aS, .inl (cI, 5, .inl fS)), (aP, .inl (cI, 6, .inl fP)), (aU, .inl (cI, 6, .inl fU)), (fd, .inl (cI, 552, .inl (upd ff ((nI a).toNatClampNeg) mi)))] H := hP
  have hD : va_D A [(ho, .inr (0, [vz_0, vz_1, .int (nI R), .int (nI T), .int mi, .ref aW, .ref aS, vz_7, .ref aP, vz_9, vz_10, .ref aU])), (aW, .inl (cI, 5, .inl fW)), (aS, .inl (cI, 5, .inl fS)), (aP, .inl (cI, 6, .inl fP)), (aU, .inl (cI, 6, .inl fU)), (fd, .inl (cI, 552, .inl (upd ff ((nI a).toNatClampNeg) mi)))] := hD
  rw [nI_clamp (n := a) (by omega)] at hP hD
  have hP : va_P D vwCl [(ho, .inr (0, [vz_0, vz_1, .int (nI R), .int (nI T), .int mi, .ref aW, .ref aS, vz_7, .ref aP, vz_9, vz_10, .ref aU])), (aW, .inl (cI, 5, .inl fW)), (aS, .inl (cI, 5, .inl fS)), (aP, .inl (cI, 6, .inl fP)), (aU, .inl (cI, 6, .inl fU)), (fd, .inl (cI, 552, .inl (upd ff a mi)))] H := hP
  have hD : va_D A [(ho, .inr (0, [vz_0, vz_1, .int (nI R), .int (nI T), .int mi, .ref aW, .ref aS, vz_7, .ref aP, vz_9, vz_10, .ref aU])), (aW, .inl (cI, 5, .inl fW)), (aS, .inl (cI, 5, .inl fS)), (aP, .inl (cI, 6, .inl fP)), (aU, .inl (cI, 6, .inl fU)), (fd, .inl (cI, 552, .inl (upd ff a mi)))] := hD
  refine lv_aload_n hx hb dX0_writeChanging_7 rfl (lv_at hl 0 rfl) ?_
  refine va_get (D := D) (ci := 0) (v := .ref aW) (C := RX0) (T := TX0) (N := 12) hx hb hts hi0 hown hK.1 hP 0 rfl rfl 5 (by decide) wf27 (fun _ h9 => h9) rfl dX0_writeChanging_8 ?_
  refine lv_iconst (v := 0) hx hb dX0_writeChanging_11 (by decide) ?_
  refine lv_aload_n hx hb dX0_writeChanging_12 rfl (lv_at hl 1 rfl) ?_
  refine lv_iload_n hx hb dX0_writeChanging_13 rfl (lv_at hl 2 rfl) ?_
  refine lv_iconst (v := 1) hx hb dX0_writeChanging_14 (by decide) ?_
  refine lv_iadd hx hb dX0_writeChanging_15 ?_
  refine wt_top (z := nI (a + 1)) (nI_add a 1) ?_
  refine lv_iconst (v := 5) hx hb dX0_writeChanging_16 (by decide) ?_
  refine va_copyi hx hb (hml.trans hl.1.symm) hown wy49 wyn wys wyi hK.1 hP hD hS 1 5 0 0 rfl rfl rfl rfl rfl (by decide) (nI_pos (by omega)) (by decide) (by rw [show Int32.toNatClampNeg 0 = 0 from rfl, show Int32.toNatClampNeg 5 = 5 from rfl]; omega) (by rw [nI_clamp (n := (a + 1)) (by omega), show Int32.toNatClampNeg 5 = 5 from rfl]; omega) (fun i _ => rfl) (Nat.le_of_ble_eq_true rfl) (Nat.le_of_ble_eq_true rfl) dX0_writeChanging_17 (fun H locs hP hD hS => ?_)
  have hP : va_P D vwCl [(ho, .inr (0, [vz_0, vz_1, .int (nI R), .int (nI T), .int mi, .ref aW, .ref aS, vz_7, .ref aP, vz_9, vz_10, .ref aU])), (aW, .inl (cI, 5, .inl fW)), (aS, .inl (cI, 5, .inl fS)), (aP, .inl (cI, 6, .inl fP)), (aU, .inl (cI, 6, .inl fU)), (fd, .inl (cI, 552, .inl (va_cpy fW (upd ff a mi) (Int32.toNatClampNeg 0) ((nI (a + 1)).toNatClampNeg) (Int32.toNatClampNeg 5))))] H := hP
  have hD : va_D A [(ho, .inr (0, [vz_0, vz_1, .int (nI R), .int (nI T), .int mi, .ref aW, .ref aS, vz_7, .ref aP, vz_9, vz_10, .ref aU])), (aW, .inl (cI, 5, .inl fW)), (aS, .inl (cI, 5, .inl fS)), (aP, .inl (cI, 6, .inl fP)), (aU, .inl (cI, 6, .inl fU)), (fd, .inl (cI, 552, .inl (va_cpy fW (upd ff a mi) (Int32.toNatClampNeg 0) ((nI (a + 1)).toNatClampNeg) (Int32.toNatClampNeg 5))))] := hD
  rw [nI_clamp (n := (a + 1)) (by omega)] at hP hD
  have hP : va_P D vwCl [(ho, .inr (0, [vz_0, vz_1, .int (nI R), .int (nI T), .int mi, .ref aW, .ref aS, vz_7, .ref aP, vz_9, vz_10, .ref aU])), (aW, .inl (cI, 5, .inl fW)), (aS, .inl (cI, 5, .inl fS)), (aP, .inl (cI, 6, .inl fP)), (aU, .inl (cI, 6, .inl fU)), (fd, .inl (cI, 552, .inl (va_cpy fW (upd ff a mi) 0 (a + 1) 5)))] H := hP
  have hD : va_D A [(ho, .inr (0, [vz_0, vz_1, .int (nI R), .int (nI T), .int mi, .ref aW, .ref aS, vz_7, .ref aP, vz_9, vz_10, .ref aU])), (aW, .inl (cI, 5, .inl fW)), (aS, .inl (cI, 5, .inl fS)), (aP, .inl (cI, 6, .inl fP)), (aU, .inl (cI, 6, .inl fU)), (fd, .inl (cI, 552, .inl (va_cpy fW (upd ff a mi) 0 (a + 1) 5)))] := hD
  refine lv_aload_n hx hb dX0_writeChanging_20 rfl (lv_at hl 0 rfl) ?_
  refine va_get (D := D) (ci := 0) (v := .ref aS) (C := RX0) (T := TX0) (N := 12) hx hb hts hi0 hown hK.1 hP 0 rfl rfl 6 (by decide) wf31 (fun _ h9 => h9) rfl dX0_writeChanging_21 ?_
  refine lv_iconst (v := 0) hx hb dX0_writeChanging_24 (by decide) ?_
  refine lv_aload_n hx hb dX0_writeChanging_25 rfl (lv_at hl 1 rfl) ?_
  refine lv_iload_n hx hb dX0_writeChanging_26 rfl (lv_at hl 2 rfl) ?_
  refine lv_iconst (v := 1) hx hb dX0_writeChanging_27 (by decide) ?_
  refine lv_iadd hx hb dX0_writeChanging_28 ?_
  refine wt_top (z := nI (a + 1)) (nI_add a 1) ?_
  refine lv_iconst (v := 5) hx hb dX0_writeChanging_29 (by decide) ?_
  refine lv_iadd hx hb dX0_writeChanging_30 ?_
  refine wt_top (z := nI ((a + 1) + 5)) (nI_add (a + 1) 5) ?_
  refine lv_iconst (v := 5) hx hb dX0_writeChanging_31 (by decide) ?_
  refine va_copyi hx hb (hml.trans hl.1.symm) hown wy49 wyn wys wyi hK.1 hP hD hS 2 5 0 0 rfl rfl rfl rfl rfl (by decide) (nI_pos (by omega)) (by decide) (by rw [show Int32.toNatClampNeg 0 = 0 from rfl, show Int32.toNatClampNeg 5 = 5 from rfl]; omega) (by rw [nI_clamp (n := ((a + 1) + 5)) (by omega), show Int32.toNatClampNeg 5 = 5 from rfl]; omega) (fun i _ => rfl) (Nat.le_of_ble_eq_true rfl) (Nat.le_of_ble_eq_true rfl) dX0_writeChanging_32 (fun H locs hP hD hS => ?_)
  have hP : va_P D vwCl [(ho, .inr (0, [vz_0, vz_1, .int (nI R), .int (nI T), .int mi, .ref aW, .ref aS, vz_7, .ref aP, vz_9, vz_10, .ref aU])), (aW, .inl (cI, 5, .inl fW)), (aS, .inl (cI, 5, .inl fS)), (aP, .inl (cI, 6, .inl fP)), (aU, .inl (cI, 6, .inl fU)), (fd, .inl (cI, 552, .inl (va_cpy fS (va_cpy fW (upd ff a mi) 0 (a + 1) 5) (Int32.toNatClampNeg 0) ((nI ((a + 1) + 5)).toNatClampNeg) (Int32.toNatClampNeg 5))))] H := hP
  have hD : va_D A [(ho, .inr (0, [vz_0, vz_1, .int (nI R), .int (nI T), .int mi, .ref aW, .ref aS, vz_7, .ref aP, vz_9, vz_10, .ref aU])), (aW, .inl (cI, 5, .inl fW)), (aS, .inl (cI, 5, .inl fS)), (aP, .inl (cI, 6, .inl fP)), (aU, .inl (cI, 6, .inl fU)), (fd, .inl (cI, 552, .inl (va_cpy fS (va_cpy fW (upd ff a mi) 0 (a + 1) 5) (Int32.toNatClampNeg 0) ((nI ((a + 1) + 5)).toNatClampNeg) (Int32.toNatClampNeg 5))))] := hD
  rw [nI_clamp (n := ((a + 1) + 5)) (by omega)] at hP hD
  have hP : va_P D vwCl [(ho, .inr (0, [vz_0, vz_1, .int (nI R), .int (nI T), .int mi, .ref aW, .ref aS, vz_7, .ref aP, vz_9, vz_10, .ref aU])), (aW, .inl (cI, 5, .inl fW)), (aS, .inl (cI, 5, .inl fS)), (aP, .inl (cI, 6, .inl fP)), (aU, .inl (cI, 6, .inl fU)), (fd, .inl (cI, 552, .inl (va_cpy fS (va_cpy fW (upd ff a mi) 0 (a + 1) 5) 0 ((a + 1) + 5) 5)))] H := hP
  have hD : va_D A [(ho, .inr (0, [vz_0, vz_1, .int (nI R), .int (nI T), .int mi, .ref aW, .ref aS, vz_7, .ref aP, vz_9, vz_10, .ref aU])), (aW, .inl (cI, 5, .inl fW)), (aS, .inl (cI, 5, .inl fS)), (aP, .inl (cI, 6, .inl fP)), (aU, .inl (cI, 6, .inl fU)), (fd, .inl (cI, 552, .inl (va_cpy fS (va_cpy fW (upd ff a mi) 0 (a + 1) 5) 0 ((a + 1) + 5) 5)))] := hD
  refine lv_aload_n hx hb dX0_writeChanging_35 rfl (lv_at hl 0 rfl) ?_
  refine va_get (D := D) (ci := 0) (v := .ref aP) (C := RX0) (T := TX0) (N := 12) hx hb hts hi0 hown hK.1 hP 0 rfl rfl 8 (by decide) wf37 (fun _ h9 => h9) rfl dX0_writeChanging_36 ?_
  refine lv_iconst (v := 0) hx hb dX0_writeChanging_39 (by decide) ?_
  refine lv_aload_n hx hb dX0_writeChanging_40 rfl (lv_at hl 1 rfl) ?_
  refine lv_iload_n hx hb dX0_writeChanging_41 rfl (lv_at hl 2 rfl) ?_
  refine lv_iconst (v := 1) hx hb dX0_writeChanging_42 (by decide) ?_
  refine lv_iadd hx hb dX0_writeChanging_43 ?_
  refine wt_top (z := nI (a + 1)) (nI_add a 1) ?_
  refine lv_bipush (v := 10) hx hb dX0_writeChanging_44 (by decide) ?_
  refine lv_iadd hx hb dX0_writeChanging_46 ?_
  refine wt_top (z := nI ((a + 1) + 10)) (nI_add (a + 1) 10) ?_
  refine lv_bipush (v := 6) hx hb dX0_writeChanging_47 (by decide) ?_
  refine va_copyi hx hb (hml.trans hl.1.symm) hown wy49 wyn wys wyi hK.1 hP hD hS 3 5 0 0 rfl rfl rfl rfl rfl (by decide) (nI_pos (by omega)) (by decide) (by rw [show Int32.toNatClampNeg 0 = 0 from rfl, show Int32.toNatClampNeg 6 = 6 from rfl]; omega) (by rw [nI_clamp (n := ((a + 1) + 10)) (by omega), show Int32.toNatClampNeg 6 = 6 from rfl]; omega) (fun i _ => rfl) (Nat.le_of_ble_eq_true rfl) (Nat.le_of_ble_eq_true rfl) dX0_writeChanging_49 (fun H locs hP hD hS => ?_)
  have hP : va_P D vwCl [(ho, .inr (0, [vz_0, vz_1, .int (nI R), .int (nI T), .int mi, .ref aW, .ref aS, vz_7, .ref aP, vz_9, vz_10, .ref aU])), (aW, .inl (cI, 5, .inl fW)), (aS, .inl (cI, 5, .inl fS)), (aP, .inl (cI, 6, .inl fP)), (aU, .inl (cI, 6, .inl fU)), (fd, .inl (cI, 552, .inl (va_cpy fP (va_cpy fS (va_cpy fW (upd ff a mi) 0 (a + 1) 5) 0 ((a + 1) + 5) 5) (Int32.toNatClampNeg 0) ((nI ((a + 1) + 10)).toNatClampNeg) (Int32.toNatClampNeg 6))))] H := hP
  have hD : va_D A [(ho, .inr (0, [vz_0, vz_1, .int (nI R), .int (nI T), .int mi, .ref aW, .ref aS, vz_7, .ref aP, vz_9, vz_10, .ref aU])), (aW, .inl (cI, 5, .inl fW)), (aS, .inl (cI, 5, .inl fS)), (aP, .inl (cI, 6, .inl fP)), (aU, .inl (cI, 6, .inl fU)), (fd, .inl (cI, 552, .inl (va_cpy fP (va_cpy fS (va_cpy fW (upd ff a mi) 0 (a + 1) 5) 0 ((a + 1) + 5) 5) (Int32.toNatClampNeg 0) ((nI ((a + 1) + 10)).toNatClampNeg) (Int32.toNatClampNeg 6))))] := hD
  rw [nI_clamp (n := ((a + 1) + 10)) (by omega)] at hP hD
  have hP : va_P D vwCl [(ho, .inr (0, [vz_0, vz_1, .int (nI R), .int (nI T), .int mi, .ref aW, .ref aS, vz_7, .ref aP, vz_9, vz_10, .ref aU])), (aW, .inl (cI, 5, .inl fW)), (aS, .inl (cI, 5, .inl fS)), (aP, .inl (cI, 6, .inl fP)), (aU, .inl (cI, 6, .inl fU)), (fd, .inl (cI, 552, .inl (va_cpy fP (va_cpy fS (va_cpy fW (upd ff a mi) 0 (a + 1) 5) 0 ((a + 1) + 5) 5) 0 ((a + 1) + 10) 6)))] H := hP
  have hD : va_D A [(ho, .inr (0, [vz_0, vz_1, .int (nI R), .int (nI T), .int mi, .ref aW, .ref aS, vz_7, .ref aP, vz_9, vz_10, .ref aU])), (aW, .inl (cI, 5, .inl fW)), (aS, .inl (cI, 5, .inl fS)), (aP, .inl (cI, 6, .inl fP)), (aU, .inl (cI, 6, .inl fU)), (fd, .inl (cI, 552, .inl (va_cpy fP (va_cpy fS (va_cpy fW (upd ff a mi) 0 (a + 1) 5) 0 ((a + 1) + 5) 5) 0 ((a + 1) + 10) 6)))] := hD
  refine lv_aload_n hx hb dX0_writeChanging_52 rfl (lv_at hl 0 rfl) ?_
  refine va_get (D := D) (ci := 0) (v := .ref aU) (C := RX0) (T := TX0) (N := 12) hx hb hts hi0 hown hK.1 hP 0 rfl rfl 11 (by decide) wf46 (fun _ h9 => h9) rfl dX0_writeChanging_53 ?_
  refine lv_iconst (v := 0) hx hb dX0_writeChanging_56 (by decide) ?_
  refine lv_aload_n hx hb dX0_writeChanging_57 rfl (lv_at hl 1 rfl) ?_
  refine lv_iload_n hx hb dX0_writeChanging_58 rfl (lv_at hl 2 rfl) ?_
  refine lv_iconst (v := 1) hx hb dX0_writeChanging_59 (by decide) ?_
  refine lv_iadd hx hb dX0_writeChanging_60 ?_
  refine wt_top (z := nI (a + 1)) (nI_add a 1) ?_
  refine lv_bipush (v := 10) hx hb dX0_writeChanging_61 (by decide) ?_
  refine lv_iadd hx hb dX0_writeChanging_63 ?_
  refine wt_top (z := nI ((a + 1) + 10)) (nI_add (a + 1) 10) ?_
  refine lv_bipush (v := 6) hx hb dX0_writeChanging_64 (by decide) ?_
  refine lv_iadd hx hb dX0_writeChanging_66 ?_
  refine wt_top (z := nI (((a + 1) + 10) + 6)) (nI_add ((a + 1) + 10) 6) ?_
  refine lv_bipush (v := 6) hx hb dX0_writeChanging_67 (by decide) ?_
  refine va_copyi hx hb (hml.trans hl.1.symm) hown wy49 wyn wys wyi hK.1 hP hD hS 4 5 0 0 rfl rfl rfl rfl rfl (by decide) (nI_pos (by omega)) (by decide) (by rw [show Int32.toNatClampNeg 0 = 0 from rfl, show Int32.toNatClampNeg 6 = 6 from rfl]; omega) (by rw [nI_clamp (n := (((a + 1) + 10) + 6)) (by omega), show Int32.toNatClampNeg 6 = 6 from rfl]; omega) (fun i _ => rfl) (Nat.le_of_ble_eq_true rfl) (Nat.le_of_ble_eq_true rfl) dX0_writeChanging_69 (fun H locs hP hD hS => ?_)
  have hP : va_P D vwCl [(ho, .inr (0, [vz_0, vz_1, .int (nI R), .int (nI T), .int mi, .ref aW, .ref aS, vz_7, .ref aP, vz_9, vz_10, .ref aU])), (aW, .inl (cI, 5, .inl fW)), (aS, .inl (cI, 5, .inl fS)), (aP, .inl (cI, 6, .inl fP)), (aU, .inl (cI, 6, .inl fU)), (fd, .inl (cI, 552, .inl (va_cpy fU (va_cpy fP (va_cpy fS (va_cpy fW (upd ff a mi) 0 (a + 1) 5) 0 ((a + 1) + 5) 5) 0 ((a + 1) + 10) 6) (Int32.toNatClampNeg 0) ((nI (((a + 1) + 10) + 6)).toNatClampNeg) (Int32.toNatClampNeg 6))))] H := hP
  have hD : va_D A [(ho, .inr (0, [vz_0, vz_1, .int (nI R), .int (nI T), .int mi, .ref aW, .ref aS, vz_7, .ref aP, vz_9, vz_10, .ref aU])), (aW, .inl (cI, 5, .inl fW)), (aS, .inl (cI, 5, .inl fS)), (aP, .inl (cI, 6, .inl fP)), (aU, .inl (cI, 6, .inl fU)), (fd, .inl (cI, 552, .inl (va_cpy fU (va_cpy fP (va_cpy fS (va_cpy fW (upd ff a mi) 0 (a + 1) 5) 0 ((a + 1) + 5) 5) 0 ((a + 1) + 10) 6) (Int32.toNatClampNeg 0) ((nI (((a + 1) + 10) + 6)).toNatClampNeg) (Int32.toNatClampNeg 6))))] := hD
  rw [nI_clamp (n := (((a + 1) + 10) + 6)) (by omega)] at hP hD
  have hP : va_P D vwCl [(ho, .inr (0, [vz_0, vz_1, .int (nI R), .int (nI T), .int mi, .ref aW, .ref aS, vz_7, .ref aP, vz_9, vz_10, .ref aU])), (aW, .inl (cI, 5, .inl fW)), (aS, .inl (cI, 5, .inl fS)), (aP, .inl (cI, 6, .inl fP)), (aU, .inl (cI, 6, .inl fU)), (fd, .inl (cI, 552, .inl (va_cpy fU (va_cpy fP (va_cpy fS (va_cpy fW (upd ff a mi) 0 (a + 1) 5) 0 ((a + 1) + 5) 5) 0 ((a + 1) + 10) 6) 0 (((a + 1) + 10) + 6) 6)))] H := hP
  have hD : va_D A [(ho, .inr (0, [vz_0, vz_1, .int (nI R), .int (nI T), .int mi, .ref aW, .ref aS, vz_7, .ref aP, vz_9, vz_10, .ref aU])), (aW, .inl (cI, 5, .inl fW)), (aS, .inl (cI, 5, .inl fS)), (aP, .inl (cI, 6, .inl fP)), (aU, .inl (cI, 6, .inl fU)), (fd, .inl (cI, 552, .inl (va_cpy fU (va_cpy fP (va_cpy fS (va_cpy fW (upd ff a mi) 0 (a + 1) 5) 0 ((a + 1) + 5) 5) 0 ((a + 1) + 10) 6) 0 (((a + 1) + 10) + 6) 6)))] := hD
  have hP9 := hP.sub (ws' := [(ho, .inr (0, [vz_0, vz_1, .int (nI R), .int (nI T), .int mi, .ref aW, .ref aS, vz_7, .ref aP, vz_9, vz_10, .ref aU])), (aW, .inl (cI, 5, .inl fW)), (aS, .inl (cI, 5, .inl fS)), (aP, .inl (cI, 6, .inl fP)), (aU, .inl (cI, 6, .inl fU)), (fd, .inl (cI, 552, .inl (va_cpy fU (va_cpy fP (va_cpy fS (va_cpy fW (upd ff a mi) 0 (a + 1) 5) 0 ((a + 1) + 5) 5) 0 ((a + 1) + 10) 6) 0 (((a + 1) + 10) + 6) 6)))]) [0, 1, 2, 3, 4, 5] rfl
  have hD9 := hD.sub (ws' := [(ho, .inr (0, [vz_0, vz_1, .int (nI R), .int (nI T), .int mi, .ref aW, .ref aS, vz_7, .ref aP, vz_9, vz_10, .ref aU])), (aW, .inl (cI, 5, .inl fW)), (aS, .inl (cI, 5, .inl fS)), (aP, .inl (cI, 6, .inl fP)), (aU, .inl (cI, 6, .inl fU)), (fd, .inl (cI, 552, .inl (va_cpy fU (va_cpy fP (va_cpy fS (va_cpy fW (upd ff a mi) 0 (a + 1) 5) 0 ((a + 1) + 5) 5) 0 ((a + 1) + 10) 6) 0 (((a + 1) + 10) + 6) 6)))]) [0, 1, 2, 3, 4, 5] (by decide) rfl
  exact wt_vret hx hb hr hlocks hP9 hD9 hS ⟨(va_cpy fU (va_cpy fP (va_cpy fS (va_cpy fW (upd ff a mi) 0 (a + 1) 5) 0 ((a + 1) + 5) 5) 0 ((a + 1) + 10) 6) 0 (((a + 1) + 10) + 6) 6), rfl, ⟨wc_hw hwP hT6, wc_out⟩⟩ dX0_writeChanging_72
set_option maxHeartbeats 4000000 in
set_option maxRecDepth 100000 in
theorem c_X0_readChanging (l : Launch) (D : va_G) (cI cZ cH : ClassId) (ho aW aS aP aU : Nat) (R T a : Nat) (fW fS fP fU : Nat → Int32) (fd : Nat) (ff : Nat → Int32) (vz_0 vz_1 vz_4 vz_7 vz_9 vz_10 : Value) (hR5 : R ≤ 5) (hT6 : T ≤ 6) (ha : a + 23 ≤ 552) (hra : hw R T (fun t => ff (a + 11 + t))) : wt_M l yX0_readChanging wsX0_readChanging ({ frames := 1, cells := 0, slots := 0, locals := 60 } : Room) D (wt_T cI cZ cH) [.ref ho, .ref fd, .int (nI a)] [(ho, .inr (0, [vz_0, vz_1, .int (nI R), .int (nI T), vz_4, .ref aW, .ref aS, vz_7, .ref aP, vz_9, vz_10, .ref aU])), (aW, .inl (cI, 5, .inl fW)), (aS, .inl (cI, 5, .inl fS)), (aP, .inl (cI, 6, .inl fP)), (aU, .inl (cI, 6, .inl fU)), (fd, .inl (cI, 552, .inl ff))] (wt_QV D (fun w => ∃ (fW2 fS2 fP2 fU2 : Nat → Int32) (ho_f4 : Int32), w = [(ho, .inr (0, [vz_0, vz_1, .int (nI R), .int (nI T), .int ho_f4, .ref aW, .ref aS, vz_7, .ref aP, vz_9, vz_10, .ref aU])), (aW, .inl (cI, 5, .inl fW2)), (aS, .inl (cI, 5, .inl fS2)), (aP, .inl (cI, 6, .inl fP2)), (aU, .inl (cI, 6, .inl fU2)), (fd, .inl (cI, 552, .inl ff))] ∧ hw R T fP2)) := by
  refine wt_M.ofW (cc := cX0_readChanging) (maxL := 3) (ret := none) (by decide) rfl (Nat.le_of_ble_eq_true rfl) ?_
  intro p e s m below meth c A ls hx hb hr hts hown hlocks hml hnm hP hK hD hA hS hl
  have hP : va_P D vwCl [(ho, .inr (0, [vz_0, vz_1, .int (nI R), .int (nI T), vz_4, .ref aW, .ref aS, vz_7, .ref aP, vz_9, vz_10, .ref aU])), (aW, .inl (cI, 5, .inl fW)), (aS, .inl (cI, 5, .inl fS)), (aP, .inl (cI, 6, .inl fP)), (aU, .inl (cI, 6, .inl fU)), (fd, .inl (cI, 552, .inl ff))] s.heap := hP
  have hown : s.vm.findClass RX0 = some m.cls := hown
  have hl : lv_has ls 3 [(0, .ref ho), (1, .ref fd), (2, .int (nI a))] := hl
  have hi0 : ∀ w ∈ u_ws RX0 TX0 12, w ∈ wsX0_readChanging := by decide +kernel
  have wf24 := hts (.fieldLink RX0 24 "WarmTubes$House" "minute" "I") (by decide +kernel)
  have wf27 := hts (.fieldLink RX0 27 "WarmTubes$House" "warmth" "[I") (by decide +kernel)
  have wf31 := hts (.fieldLink RX0 31 "WarmTubes$House" "stove" "[I") (by decide +kernel)
  have wf37 := hts (.fieldLink RX0 37 "WarmTubes$House" "where" "[I") (by decide +kernel)
  have wf46 := hts (.fieldLink RX0 46 "WarmTubes$House" "up" "[I") (by decide +kernel)
  have wy49 := hts (.methodLink RX0 49 arraycopyName) (by decide +kernel)
  have wyi := hts (.initialized "java/lang/System") (by decide +kernel)
  have wyn := hts (.native arraycopyName) (by decide +kernel)
  have wys := hts (.static arraycopyName) (by decide +kernel)
  refine lv_aload_n hx hb dX0_readChanging_0 rfl (lv_at hl 0 rfl) ?_
  refine lv_aload_n hx hb dX0_readChanging_1 rfl (lv_at hl 1 rfl) ?_
  refine lv_iload_n hx hb dX0_readChanging_2 rfl (lv_at hl 2 rfl) ?_
  refine va_iald hx hb hK.1 hP 5 0 rfl rfl (vp_in_nI (by omega) (by omega)) dX0_readChanging_3 ?_
  refine lv_topi (fun ov_1 _ => ?_)
  refine va_put (D := D) (ci := 0) (v := .int ov_1) (ty := .int) (C := RX0) (T := TX0) (N := 12) hx hb hts hi0 tyX0 tyX0_ok nmX0 hown hK.1 hP hD hS 0 rfl rfl 4 (by decide) wf24 (fun _ h9 => h9) rfl (by decide +kernel) rfl rfl (Nat.le_of_ble_eq_true rfl) dX0_readChanging_4 (fun H locs hP hD hS => ?_)
  have hP : va_P D vwCl [(ho, .inr (0, [vz_0, vz_1, .int (nI R), .int (nI T), .int ov_1, .ref aW, .ref aS, vz_7, .ref aP, vz_9, vz_10, .ref aU])), (aW, .inl (cI, 5, .inl fW)), (aS, .inl (cI, 5, .inl fS)), (aP, .inl (cI, 6, .inl fP)), (aU, .inl (cI, 6, .inl fU)), (fd, .inl (cI, 552, .inl ff))] H := hP
  have hD : va_D A [(ho, .inr (0, [vz_0, vz_1, .int (nI R), .int (nI T), .int ov_1, .ref aW, .ref aS, vz_7, .ref aP, vz_9, vz_10, .ref aU])), (aW, .inl (cI, 5, .inl fW)), (aS, .inl (cI, 5, .inl fS)), (aP, .inl (cI, 6, .inl fP)), (aU, .inl (cI, 6, .inl fU)), (fd, .inl (cI, 552, .inl ff))] := hD
  refine lv_aload_n hx hb dX0_readChanging_7 rfl (lv_at hl 1 rfl) ?_
  refine lv_iload_n hx hb dX0_readChanging_8 rfl (lv_at hl 2 rfl) ?_
  refine lv_iconst (v := 1) hx hb dX0_readChanging_9 (by decide) ?_
  refine lv_iadd hx hb dX0_readChanging_10 ?_
  refine wt_top (z := nI (a + 1)) (nI_add a 1) ?_
  refine lv_aload_n hx hb dX0_readChanging_11 rfl (lv_at hl 0 rfl) ?_
  refine va_get (D := D) (ci := 0) (v := .ref aW) (C := RX0) (T := TX0) (N := 12) hx hb hts hi0 hown hK.1 hP 0 rfl rfl 5 (by decide) wf27 (fun _ h9 => h9) rfl dX0_readChanging_12 ?_
  refine lv_iconst (v := 0) hx hb dX0_readChanging_15 (by decide) ?_
  refine lv_iconst (v := 5) hx hb dX0_readChanging_16 (by decide) ?_
  refine va_copyi hx hb (hml.trans hl.1.symm) hown wy49 wyn wys wyi hK.1 hP hD hS 5 1 0 0 rfl rfl rfl rfl rfl (nI_pos (by omega)) (by decide) (by decide) (by rw [nI_clamp (n := (a + 1)) (by omega), show Int32.toNatClampNeg 5 = 5 from rfl]; omega) (by rw [show Int32.toNatClampNeg 0 = 0 from rfl, show Int32.toNatClampNeg 5 = 5 from rfl]; omega) (fun i _ => rfl) (Nat.le_of_ble_eq_true rfl) (Nat.le_of_ble_eq_true rfl) dX0_readChanging_17 (fun H locs hP hD hS => ?_)
  have hP : va_P D vwCl [(ho, .inr (0, [vz_0, vz_1, .int (nI R), .int (nI T), .int ov_1, .ref aW, .ref aS, vz_7, .ref aP, vz_9, vz_10, .ref aU])), (aW, .inl (cI, 5, .inl (va_cpy ff fW ((nI (a + 1)).toNatClampNeg) (Int32.toNatClampNeg 0) (Int32.toNatClampNeg 5)))), (aS, .inl (cI, 5, .inl fS)), (aP, .inl (cI, 6, .inl fP)), (aU, .inl (cI, 6, .inl fU)), (fd, .inl (cI, 552, .inl ff))] H := hP
  have hD : va_D A [(ho, .inr (0, [vz_0, vz_1, .int (nI R), .int (nI T), .int ov_1, .ref aW, .ref aS, vz_7, .ref aP, vz_9, vz_10, .ref aU])), (aW, .inl (cI, 5, .inl (va_cpy ff fW ((nI (a + 1)).toNatClampNeg) (Int32.toNatClampNeg 0) (Int32.toNatClampNeg 5)))), (aS, .inl (cI, 5, .inl fS)), (aP, .inl (cI, 6, .inl fP)), (aU, .inl (cI, 6, .inl fU)), (fd, .inl (cI, 552, .inl ff))] := hD
  generalize va_cpy ff fW ((nI (a + 1)).toNatClampNeg) (Int32.toNatClampNeg 0) (Int32.toNatClampNeg 5) = fW_2 at hP hD
  refine lv_aload_n hx hb dX0_readChanging_20 rfl (lv_at hl 1 rfl) ?_
  refine lv_iload_n hx hb dX0_readChanging_21 rfl (lv_at hl 2 rfl) ?_
  refine lv_iconst (v := 1) hx hb dX0_readChanging_22 (by decide) ?_
  refine lv_iadd hx hb dX0_readChanging_23 ?_
  refine wt_top (z := nI (a + 1)) (nI_add a 1) ?_
  refine lv_iconst (v := 5) hx hb dX0_readChanging_24 (by decide) ?_
  refine lv_iadd hx hb dX0_readChanging_25 ?_
  refine wt_top (z := nI ((a + 1) + 5)) (nI_add (a + 1) 5) ?_
  refine lv_aload_n hx hb dX0_readChanging_26 rfl (lv_at hl 0 rfl) ?_
  refine va_get (D := D) (ci := 0) (v := .ref aS) (C := RX0) (T := TX0) (N := 12) hx hb hts hi0 hown hK.1 hP 0 rfl rfl 6 (by decide) wf31 (fun _ h9 => h9) rfl dX0_readChanging_27 ?_
  refine lv_iconst (v := 0) hx hb dX0_readChanging_30 (by decide) ?_
  refine lv_iconst (v := 5) hx hb dX0_readChanging_31 (by decide) ?_
  refine va_copyi hx hb (hml.trans hl.1.symm) hown wy49 wyn wys wyi hK.1 hP hD hS 5 2 0 0 rfl rfl rfl rfl rfl (nI_pos (by omega)) (by decide) (by decide) (by rw [nI_clamp (n := ((a + 1) + 5)) (by omega), show Int32.toNatClampNeg 5 = 5 from rfl]; omega) (by rw [show Int32.toNatClampNeg 0 = 0 from rfl, show Int32.toNatClampNeg 5 = 5 from rfl]; omega) (fun i _ => rfl) (Nat.le_of_ble_eq_true rfl) (Nat.le_of_ble_eq_true rfl) dX0_readChanging_32 (fun H locs hP hD hS => ?_)
  have hP : va_P D vwCl [(ho, .inr (0, [vz_0, vz_1, .int (nI R), .int (nI T), .int ov_1, .ref aW, .ref aS, vz_7, .ref aP, vz_9, vz_10, .ref aU])), (aW, .inl (cI, 5, .inl fW_2)), (aS, .inl (cI, 5, .inl (va_cpy ff fS ((nI ((a + 1) + 5)).toNatClampNeg) (Int32.toNatClampNeg 0) (Int32.toNatClampNeg 5)))), (aP, .inl (cI, 6, .inl fP)), (aU, .inl (cI, 6, .inl fU)), (fd, .inl (cI, 552, .inl ff))] H := hP
  have hD : va_D A [(ho, .inr (0, [vz_0, vz_1, .int (nI R), .int (nI T), .int ov_1, .ref aW, .ref aS, vz_7, .ref aP, vz_9, vz_10, .ref aU])), (aW, .inl (cI, 5, .inl fW_2)), (aS, .inl (cI, 5, .inl (va_cpy ff fS ((nI ((a + 1) + 5)).toNatClampNeg) (Int32.toNatClampNeg 0) (Int32.toNatClampNeg 5)))), (aP, .inl (cI, 6, .inl fP)), (aU, .inl (cI, 6, .inl fU)), (fd, .inl (cI, 552, .inl ff))] := hD
  generalize va_cpy ff fS ((nI ((a + 1) + 5)).toNatClampNeg) (Int32.toNatClampNeg 0) (Int32.toNatClampNeg 5) = fS_3 at hP hD
  refine lv_aload_n hx hb dX0_readChanging_35 rfl (lv_at hl 1 rfl) ?_
  refine lv_iload_n hx hb dX0_readChanging_36 rfl (lv_at hl 2 rfl) ?_
  refine lv_iconst (v := 1) hx hb dX0_readChanging_37 (by decide) ?_
  refine lv_iadd hx hb dX0_readChanging_38 ?_
  refine wt_top (z := nI (a + 1)) (nI_add a 1) ?_
  refine lv_bipush (v := 10) hx hb dX0_readChanging_39 (by decide) ?_
  refine lv_iadd hx hb dX0_readChanging_41 ?_
  refine wt_top (z := nI ((a + 1) + 10)) (nI_add (a + 1) 10) ?_
  refine lv_aload_n hx hb dX0_readChanging_42 rfl (lv_at hl 0 rfl) ?_
  refine va_get (D := D) (ci := 0) (v := .ref aP) (C := RX0) (T := TX0) (N := 12) hx hb hts hi0 hown hK.1 hP 0 rfl rfl 8 (by decide) wf37 (fun _ h9 => h9) rfl dX0_readChanging_43 ?_
  refine lv_iconst (v := 0) hx hb dX0_readChanging_46 (by decide) ?_
  refine lv_bipush (v := 6) hx hb dX0_readChanging_47 (by decide) ?_
  refine va_copyi hx hb (hml.trans hl.1.symm) hown wy49 wyn wys wyi hK.1 hP hD hS 5 3 0 0 rfl rfl rfl rfl rfl (nI_pos (by omega)) (by decide) (by decide) (by rw [nI_clamp (n := ((a + 1) + 10)) (by omega), show Int32.toNatClampNeg 6 = 6 from rfl]; omega) (by rw [show Int32.toNatClampNeg 0 = 0 from rfl, show Int32.toNatClampNeg 6 = 6 from rfl]; omega) (fun i _ => rfl) (Nat.le_of_ble_eq_true rfl) (Nat.le_of_ble_eq_true rfl) dX0_readChanging_49 (fun H locs hP hD hS => ?_)
  have hP : va_P D vwCl [(ho, .inr (0, [vz_0, vz_1, .int (nI R), .int (nI T), .int ov_1, .ref aW, .ref aS, vz_7, .ref aP, vz_9, vz_10, .ref aU])), (aW, .inl (cI, 5, .inl fW_2)), (aS, .inl (cI, 5, .inl fS_3)), (aP, .inl (cI, 6, .inl (va_cpy ff fP ((nI ((a + 1) + 10)).toNatClampNeg) (Int32.toNatClampNeg 0) (Int32.toNatClampNeg 6)))), (aU, .inl (cI, 6, .inl fU)), (fd, .inl (cI, 552, .inl ff))] H := hP
  have hD : va_D A [(ho, .inr (0, [vz_0, vz_1, .int (nI R), .int (nI T), .int ov_1, .ref aW, .ref aS, vz_7, .ref aP, vz_9, vz_10, .ref aU])), (aW, .inl (cI, 5, .inl fW_2)), (aS, .inl (cI, 5, .inl fS_3)), (aP, .inl (cI, 6, .inl (va_cpy ff fP ((nI ((a + 1) + 10)).toNatClampNeg) (Int32.toNatClampNeg 0) (Int32.toNatClampNeg 6)))), (aU, .inl (cI, 6, .inl fU)), (fd, .inl (cI, 552, .inl ff))] := hD
  rw [nI_clamp (n := ((a + 1) + 10)) (by omega)] at hP hD
  have hP : va_P D vwCl [(ho, .inr (0, [vz_0, vz_1, .int (nI R), .int (nI T), .int ov_1, .ref aW, .ref aS, vz_7, .ref aP, vz_9, vz_10, .ref aU])), (aW, .inl (cI, 5, .inl fW_2)), (aS, .inl (cI, 5, .inl fS_3)), (aP, .inl (cI, 6, .inl (va_cpy ff fP ((a + 1) + 10) 0 6))), (aU, .inl (cI, 6, .inl fU)), (fd, .inl (cI, 552, .inl ff))] H := hP
  have hD : va_D A [(ho, .inr (0, [vz_0, vz_1, .int (nI R), .int (nI T), .int ov_1, .ref aW, .ref aS, vz_7, .ref aP, vz_9, vz_10, .ref aU])), (aW, .inl (cI, 5, .inl fW_2)), (aS, .inl (cI, 5, .inl fS_3)), (aP, .inl (cI, 6, .inl (va_cpy ff fP ((a + 1) + 10) 0 6))), (aU, .inl (cI, 6, .inl fU)), (fd, .inl (cI, 552, .inl ff))] := hD
  refine lv_aload_n hx hb dX0_readChanging_52 rfl (lv_at hl 1 rfl) ?_
  refine lv_iload_n hx hb dX0_readChanging_53 rfl (lv_at hl 2 rfl) ?_
  refine lv_iconst (v := 1) hx hb dX0_readChanging_54 (by decide) ?_
  refine lv_iadd hx hb dX0_readChanging_55 ?_
  refine wt_top (z := nI (a + 1)) (nI_add a 1) ?_
  refine lv_bipush (v := 10) hx hb dX0_readChanging_56 (by decide) ?_
  refine lv_iadd hx hb dX0_readChanging_58 ?_
  refine wt_top (z := nI ((a + 1) + 10)) (nI_add (a + 1) 10) ?_
  refine lv_bipush (v := 6) hx hb dX0_readChanging_59 (by decide) ?_
  refine lv_iadd hx hb dX0_readChanging_61 ?_
  refine wt_top (z := nI (((a + 1) + 10) + 6)) (nI_add ((a + 1) + 10) 6) ?_
  refine lv_aload_n hx hb dX0_readChanging_62 rfl (lv_at hl 0 rfl) ?_
  refine va_get (D := D) (ci := 0) (v := .ref aU) (C := RX0) (T := TX0) (N := 12) hx hb hts hi0 hown hK.1 hP 0 rfl rfl 11 (by decide) wf46 (fun _ h9 => h9) rfl dX0_readChanging_63 ?_
  refine lv_iconst (v := 0) hx hb dX0_readChanging_66 (by decide) ?_
  refine lv_bipush (v := 6) hx hb dX0_readChanging_67 (by decide) ?_
  refine va_copyi hx hb (hml.trans hl.1.symm) hown wy49 wyn wys wyi hK.1 hP hD hS 5 4 0 0 rfl rfl rfl rfl rfl (nI_pos (by omega)) (by decide) (by decide) (by rw [nI_clamp (n := (((a + 1) + 10) + 6)) (by omega), show Int32.toNatClampNeg 6 = 6 from rfl]; omega) (by rw [show Int32.toNatClampNeg 0 = 0 from rfl, show Int32.toNatClampNeg 6 = 6 from rfl]; omega) (fun i _ => rfl) (Nat.le_of_ble_eq_true rfl) (Nat.le_of_ble_eq_true rfl) dX0_readChanging_69 (fun H locs hP hD hS => ?_)
  have hP : va_P D vwCl [(ho, .inr (0, [vz_0, vz_1, .int (nI R), .int (nI T), .int ov_1, .ref aW, .ref aS, vz_7, .ref aP, vz_9, vz_10, .ref aU])), (aW, .inl (cI, 5, .inl fW_2)), (aS, .inl (cI, 5, .inl fS_3)), (aP, .inl (cI, 6, .inl (va_cpy ff fP ((a + 1) + 10) 0 6))), (aU, .inl (cI, 6, .inl (va_cpy ff fU ((nI (((a + 1) + 10) + 6)).toNatClampNeg) (Int32.toNatClampNeg 0) (Int32.toNatClampNeg 6)))), (fd, .inl (cI, 552, .inl ff))] H := hP
  have hD : va_D A [(ho, .inr (0, [vz_0, vz_1, .int (nI R), .int (nI T), .int ov_1, .ref aW, .ref aS, vz_7, .ref aP, vz_9, vz_10, .ref aU])), (aW, .inl (cI, 5, .inl fW_2)), (aS, .inl (cI, 5, .inl fS_3)), (aP, .inl (cI, 6, .inl (va_cpy ff fP ((a + 1) + 10) 0 6))), (aU, .inl (cI, 6, .inl (va_cpy ff fU ((nI (((a + 1) + 10) + 6)).toNatClampNeg) (Int32.toNatClampNeg 0) (Int32.toNatClampNeg 6)))), (fd, .inl (cI, 552, .inl ff))] := hD
  generalize va_cpy ff fU ((nI (((a + 1) + 10) + 6)).toNatClampNeg) (Int32.toNatClampNeg 0) (Int32.toNatClampNeg 6) = fU_4 at hP hD
  have hP9 := hP.sub (ws' := [(ho, .inr (0, [vz_0, vz_1, .int (nI R), .int (nI T), .int ov_1, .ref aW, .ref aS, vz_7, .ref aP, vz_9, vz_10, .ref aU])), (aW, .inl (cI, 5, .inl fW_2)), (aS, .inl (cI, 5, .inl fS_3)), (aP, .inl (cI, 6, .inl (va_cpy ff fP ((a + 1) + 10) 0 6))), (aU, .inl (cI, 6, .inl fU_4)), (fd, .inl (cI, 552, .inl ff))]) [0, 1, 2, 3, 4, 5] rfl
  have hD9 := hD.sub (ws' := [(ho, .inr (0, [vz_0, vz_1, .int (nI R), .int (nI T), .int ov_1, .ref aW, .ref aS, vz_7, .ref aP, vz_9, vz_10, .ref aU])), (aW, .inl (cI, 5, .inl fW_2)), (aS, .inl (cI, 5, .inl fS_3)), (aP, .inl (cI, 6, .inl (va_cpy ff fP ((a + 1) + 10) 0 6))), (aU, .inl (cI, 6, .inl fU_4)), (fd, .inl (cI, 552, .inl ff))]) [0, 1, 2, 3, 4, 5] (by decide) rfl
  exact wt_vret hx hb hr hlocks hP9 hD9 hS ⟨fW_2, fS_3, (va_cpy ff fP ((a + 1) + 10) 0 6), fU_4, ov_1, rfl, (rc_hw hra hT6)⟩ dX0_readChanging_72
set_option maxHeartbeats 4000000 in
set_option maxRecDepth 100000 in
theorem c_X1_forget (l : Launch) (D : va_G) (cI cZ cH : ClassId) (ps : Nat) (vp_0 vp_1 vp_2 : Value) : wt_M l yX1_forget wsX1_forget ({ frames := 0, cells := 0, slots := 0, locals := 0 } : Room) D (wt_T cI cZ cH) [.ref ps] [(ps, .inr (1, [vp_0, vp_1, vp_2]))] (wt_QV D (fun w => w = [(ps, .inr (1, [vp_0, vp_1, .int 0]))])) := by
  refine wt_M.ofW (cc := cX1_forget) (maxL := 1) (ret := none) (by decide) rfl (Nat.le_of_ble_eq_true rfl) ?_
  intro p e s m below meth c A ls hx hb hr hts hown hlocks hml hnm hP hK hD hA hS hl
  have hP : va_P D vwCl [(ps, .inr (1, [vp_0, vp_1, vp_2]))] s.heap := hP
  have hown : s.vm.findClass RX1 = some m.cls := hown
  have hl : lv_has ls 1 [(0, .ref ps)] := hl
  have hi1 : ∀ w ∈ u_ws RX1 TX1 3, w ∈ wsX1_forget := by decide +kernel
  have wf19 := hts (.fieldLink RX1 19 "WarmTubes$Past" "size" "I") (by decide +kernel)
  refine lv_aload_n hx hb dX1_forget_0 rfl (lv_at hl 0 rfl) ?_
  refine lv_iconst (v := 0) hx hb dX1_forget_1 (by decide) ?_
  refine va_put (D := D) (ci := 1) (v := .int 0) (ty := .int) (C := RX1) (T := TX1) (N := 3) hx hb hts hi1 tyX1 tyX1_ok nmX1 hown hK.1 hP hD hS 0 rfl rfl 2 (by decide) wf19 (fun _ h9 => h9) rfl (by decide +kernel) rfl rfl (Nat.le_of_ble_eq_true rfl) dX1_forget_2 (fun H locs hP hD hS => ?_)
  have hP : va_P D vwCl [(ps, .inr (1, [vp_0, vp_1, .int 0]))] H := hP
  have hD : va_D A [(ps, .inr (1, [vp_0, vp_1, .int 0]))] := hD
  have hP9 := hP.sub (ws' := [(ps, .inr (1, [vp_0, vp_1, .int 0]))]) [0] rfl
  have hD9 := hD.sub (ws' := [(ps, .inr (1, [vp_0, vp_1, .int 0]))]) [0] (by decide) rfl
  exact wt_vret hx hb hr hlocks hP9 hD9 hS rfl dX1_forget_5
set_option maxHeartbeats 4000000 in
set_option maxRecDepth 100000 in
theorem c_X1_keep (l : Launch) (D : va_G) (cI cZ cH : ClassId) (ps fd : Nat) (ho aW aS aP aU : Nat) (R T nx sz : Nat) (mi : Int32) (fW fS fP fU : Nat → Int32) (ff : Nat → Int32) (vz_0 vz_1 vz_7 vz_9 vz_10 : Value) (hR5 : R ≤ 5) (hT6 : T ≤ 6) (hwP : hw R T fP) (hnx : nx < 24) (hsz : sz ≤ 24) (hpk : pk R T nx sz ff) : wt_M l yX1_keep wsX1_keep ({ frames := 2, cells := 0, slots := 0, locals := 82 } : Room) D (wt_T cI cZ cH) [.ref ps, .ref ho] [(ps, .inr (1, [.ref fd, .int (nI nx), .int (nI sz)])), (fd, .inl (cI, 552, .inl ff)), (ho, .inr (0, [vz_0, vz_1, .int (nI R), .int (nI T), .int mi, .ref aW, .ref aS, vz_7, .ref aP, vz_9, vz_10, .ref aU])), (aW, .inl (cI, 5, .inl fW)), (aS, .inl (cI, 5, .inl fS)), (aP, .inl (cI, 6, .inl fP)), (aU, .inl (cI, 6, .inl fU))] (wt_QV D (fun w => ∃ (ff2 : Nat → Int32), w = [(ps, .inr (1, [.ref fd, .int (nI ((nx + 1) % 24)), .int (nI (min 24 (sz + 1)))])), (fd, .inl (cI, 552, .inl ff2)), (ho, .inr (0, [vz_0, vz_1, .int (nI R), .int (nI T), .int mi, .ref aW, .ref aS, vz_7, .ref aP, vz_9, vz_10, .ref aU])), (aW, .inl (cI, 5, .inl fW)), (aS, .inl (cI, 5, .inl fS)), (aP, .inl (cI, 6, .inl fP)), (aU, .inl (cI, 6, .inl fU))] ∧ pk R T ((nx + 1) % 24) (min 24 (sz + 1)) ff2)) := by
  refine wt_M.ofW (cc := cX1_keep) (maxL := 2) (ret := none) (by decide) rfl (Nat.le_of_ble_eq_true rfl) ?_
  intro p e s m below meth c A ls hx hb hr hts hown hlocks hml hnm hP hK hD hA hS hl
  have hP : va_P D vwCl [(ps, .inr (1, [.ref fd, .int (nI nx), .int (nI sz)])), (fd, .inl (cI, 552, .inl ff)), (ho, .inr (0, [vz_0, vz_1, .int (nI R), .int (nI T), .int mi, .ref aW, .ref aS, vz_7, .ref aP, vz_9, vz_10, .ref aU])), (aW, .inl (cI, 5, .inl fW)), (aS, .inl (cI, 5, .inl fS)), (aP, .inl (cI, 6, .inl fP)), (aU, .inl (cI, 6, .inl fU))] s.heap := hP
  have hown : s.vm.findClass RX1 = some m.cls := hown
  have hl : lv_has ls 2 [(0, .ref ps), (1, .ref ho)] := hl
  have hi1 : ∀ w ∈ u_ws RX1 TX1 3, w ∈ wsX1_keep := by decide +kernel
  have wf11 := hts (.fieldLink RX1 11 "WarmTubes$Past" "found" "[I") (by decide +kernel)
  have wf15 := hts (.fieldLink RX1 15 "WarmTubes$Past" "next" "I") (by decide +kernel)
  have wf19 := hts (.fieldLink RX1 19 "WarmTubes$Past" "size" "I") (by decide +kernel)
  have wy26 := hts (.methodLink RX1 26 Lib.Math.min.name) (by decide +kernel)
  have wycmin := hts (.code Lib.Math.min.name Lib.Math.min.code 2 (some .int)) (by decide +kernel)
  have wym := hts (.initialized "java/lang/Math") (by decide +kernel)
  have wysmin := hts (.static Lib.Math.min.name) (by decide +kernel)
  refine lv_aload_n hx hb dX1_keep_0 rfl (lv_at hl 1 rfl) ?_
  refine lv_aload_n hx hb dX1_keep_1 rfl (lv_at hl 0 rfl) ?_
  refine va_get (D := D) (ci := 1) (v := .ref fd) (C := RX1) (T := TX1) (N := 3) hx hb hts hi1 hown hK.1 hP 0 rfl rfl 0 (by decide) wf11 (fun _ h9 => h9) rfl dX1_keep_2 ?_
  refine lv_aload_n hx hb dX1_keep_5 rfl (lv_at hl 0 rfl) ?_
  refine va_get (D := D) (ci := 1) (v := .int (nI nx)) (C := RX1) (T := TX1) (N := 3) hx hb hts hi1 hown hK.1 hP 0 rfl rfl 1 (by decide) wf15 (fun _ h9 => h9) rfl dX1_keep_6 ?_
  refine lv_bipush (v := 23) hx hb dX1_keep_9 (by decide) ?_
  refine lv_imul hx hb dX1_keep_11 ?_
  refine wt_top (z := nI (nx * 23)) (pk_mul nx 23) ?_
  refine wt_goV (wr := [(ps, .inr (1, [.ref fd, .int (nI nx), .int (nI sz)]))]) (wt_runV (As := [.ref fd, .int (nI (nx * 23))]) (rest := []) ⟨hx, hb, hml, hown, hts⟩ (c_X0_writeChanging l D cI cZ cH ho aW aS aP aU R T (nx * 23) mi fW fS fP fU fd ff vz_0 vz_1 vz_7 vz_9 vz_10 (by first | assumption | omega) (by first | assumption | omega) (by first | assumption | omega) (by first | assumption | omega)) (cwV 2 hts gX1_keep_X0_writeChanging rfl rfl rfl (by decide +kernel) ⟨Nat.le_of_ble_eq_true rfl, Nat.le_of_ble_eq_true rfl⟩) hK hP hD [2, 3, 4, 5, 6, 1] rfl (by decide) (va_recv hK.1 hP (ci := 0) (q0 := 2) rfl rfl) rfl hl.1 rfl (Nat.le_of_ble_eq_true rfl) dX1_keep_12 ⟨Nat.le_of_ble_eq_true rfl, Nat.le_of_ble_eq_true rfl⟩) hP hD hS hA [2, 3, 4, 5, 6, 1] [0] rfl rfl (by decide) (by decide) (fun w_2 H locs h_3 hP hD hS => ?_)
  obtain ⟨ff2_4, rfl, x_5⟩ := h_3
  have hP : va_P D vwCl [(ps, .inr (1, [.ref fd, .int (nI nx), .int (nI sz)])), (ho, .inr (0, [vz_0, vz_1, .int (nI R), .int (nI T), .int mi, .ref aW, .ref aS, vz_7, .ref aP, vz_9, vz_10, .ref aU])), (aW, .inl (cI, 5, .inl fW)), (aS, .inl (cI, 5, .inl fS)), (aP, .inl (cI, 6, .inl fP)), (aU, .inl (cI, 6, .inl fU)), (fd, .inl (cI, 552, .inl ff2_4))] H := hP
  have hD : va_D A [(ps, .inr (1, [.ref fd, .int (nI nx), .int (nI sz)])), (ho, .inr (0, [vz_0, vz_1, .int (nI R), .int (nI T), .int mi, .ref aW, .ref aS, vz_7, .ref aP, vz_9, vz_10, .ref aU])), (aW, .inl (cI, 5, .inl fW)), (aS, .inl (cI, 5, .inl fS)), (aP, .inl (cI, 6, .inl fP)), (aU, .inl (cI, 6, .inl fU)), (fd, .inl (cI, 552, .inl ff2_4))] := hD
  refine lv_aload_n hx hb dX1_keep_15 rfl (lv_at hl 0 rfl) ?_
  refine lv_aload_n hx hb dX1_keep_16 rfl (lv_at hl 0 rfl) ?_
  refine va_get (D := D) (ci := 1) (v := .int (nI nx)) (C := RX1) (T := TX1) (N := 3) hx hb hts hi1 hown hK.1 hP 0 rfl rfl 1 (by decide) wf15 (fun _ h9 => h9) rfl dX1_keep_17 ?_
  refine lv_iconst (v := 1) hx hb dX1_keep_20 (by decide) ?_
  refine lv_iadd hx hb dX1_keep_21 ?_
  refine wt_top (z := nI (nx + 1)) (nI_add nx 1) ?_
  refine lv_bipush (v := 24) hx hb dX1_keep_22 (by decide) ?_
  refine lv_irem hx hb dX1_keep_24 (by decide) ?_
  refine wt_top (z := nI ((nx + 1) % 24)) (pk_rem (by omega) (by decide) (by decide)) ?_
  refine va_put (D := D) (ci := 1) (v := .int (nI ((nx + 1) % 24))) (ty := .int) (C := RX1) (T := TX1) (N := 3) hx hb hts hi1 tyX1 tyX1_ok nmX1 hown hK.1 hP hD hS 0 rfl rfl 1 (by decide) wf15 (fun _ h9 => h9) rfl (by decide +kernel) rfl rfl (Nat.le_of_ble_eq_true rfl) dX1_keep_25 (fun H locs hP hD hS => ?_)
  have hP : va_P D vwCl [(ps, .inr (1, [.ref fd, .int (nI ((nx + 1) % 24)), .int (nI sz)])), (ho, .inr (0, [vz_0, vz_1, .int (nI R), .int (nI T), .int mi, .ref aW, .ref aS, vz_7, .ref aP, vz_9, vz_10, .ref aU])), (aW, .inl (cI, 5, .inl fW)), (aS, .inl (cI, 5, .inl fS)), (aP, .inl (cI, 6, .inl fP)), (aU, .inl (cI, 6, .inl fU)), (fd, .inl (cI, 552, .inl ff2_4))] H := hP
  have hD : va_D A [(ps, .inr (1, [.ref fd, .int (nI ((nx + 1) % 24)), .int (nI sz)])), (ho, .inr (0, [vz_0, vz_1, .int (nI R), .int (nI T), .int mi, .ref aW, .ref aS, vz_7, .ref aP, vz_9, vz_10, .ref aU])), (aW, .inl (cI, 5, .inl fW)), (aS, .inl (cI, 5, .inl fS)), (aP, .inl (cI, 6, .inl fP)), (aU, .inl (cI, 6, .inl fU)), (fd, .inl (cI, 552, .inl ff2_4))] := hD
  refine lv_aload_n hx hb dX1_keep_28 rfl (lv_at hl 0 rfl) ?_
  refine lv_bipush (v := 24) hx hb dX1_keep_29 (by decide) ?_
  refine lv_aload_n hx hb dX1_keep_31 rfl (lv_at hl 0 rfl) ?_
  refine va_get (D := D) (ci := 1) (v := .int (nI sz)) (C := RX1) (T := TX1) (N := 3) hx hb hts hi1 hown hK.1 hP 0 rfl rfl 2 (by decide) wf19 (fun _ h9 => h9) rfl dX1_keep_32 ?_
  refine lv_iconst (v := 1) hx hb dX1_keep_35 (by decide) ?_
  refine lv_iadd hx hb dX1_keep_36 ?_
  refine wt_top (z := nI (sz + 1)) (nI_add sz 1) ?_
  refine va_mmin hx hb (hml.trans hl.1.symm) hown wy26 wysmin wym wycmin (Nat.le_of_ble_eq_true rfl) (Nat.le_of_ble_eq_true rfl) (Nat.zero_le _) (Nat.zero_le _) dX1_keep_37 ?_
  refine wt_top (z := nI (min 24 (sz + 1))) (wt_min (a := 24) (b := (sz + 1)) (by omega) (by omega)) ?_
  refine va_put (D := D) (ci := 1) (v := .int (nI (min 24 (sz + 1)))) (ty := .int) (C := RX1) (T := TX1) (N := 3) hx hb hts hi1 tyX1 tyX1_ok nmX1 hown hK.1 hP hD hS 0 rfl rfl 2 (by decide) wf19 (fun _ h9 => h9) rfl (by decide +kernel) rfl rfl (Nat.le_of_ble_eq_true rfl) dX1_keep_40 (fun H locs hP hD hS => ?_)
  have hP : va_P D vwCl [(ps, .inr (1, [.ref fd, .int (nI ((nx + 1) % 24)), .int (nI (min 24 (sz + 1)))])), (ho, .inr (0, [vz_0, vz_1, .int (nI R), .int (nI T), .int mi, .ref aW, .ref aS, vz_7, .ref aP, vz_9, vz_10, .ref aU])), (aW, .inl (cI, 5, .inl fW)), (aS, .inl (cI, 5, .inl fS)), (aP, .inl (cI, 6, .inl fP)), (aU, .inl (cI, 6, .inl fU)), (fd, .inl (cI, 552, .inl ff2_4))] H := hP
  have hD : va_D A [(ps, .inr (1, [.ref fd, .int (nI ((nx + 1) % 24)), .int (nI (min 24 (sz + 1)))])), (ho, .inr (0, [vz_0, vz_1, .int (nI R), .int (nI T), .int mi, .ref aW, .ref aS, vz_7, .ref aP, vz_9, vz_10, .ref aU])), (aW, .inl (cI, 5, .inl fW)), (aS, .inl (cI, 5, .inl fS)), (aP, .inl (cI, 6, .inl fP)), (aU, .inl (cI, 6, .inl fU)), (fd, .inl (cI, 552, .inl ff2_4))] := hD
  have hP9 := hP.sub (ws' := [(ps, .inr (1, [.ref fd, .int (nI ((nx + 1) % 24)), .int (nI (min 24 (sz + 1)))])), (fd, .inl (cI, 552, .inl ff2_4)), (ho, .inr (0, [vz_0, vz_1, .int (nI R), .int (nI T), .int mi, .ref aW, .ref aS, vz_7, .ref aP, vz_9, vz_10, .ref aU])), (aW, .inl (cI, 5, .inl fW)), (aS, .inl (cI, 5, .inl fS)), (aP, .inl (cI, 6, .inl fP)), (aU, .inl (cI, 6, .inl fU))]) [0, 6, 1, 2, 3, 4, 5] rfl
  have hD9 := hD.sub (ws' := [(ps, .inr (1, [.ref fd, .int (nI ((nx + 1) % 24)), .int (nI (min 24 (sz + 1)))])), (fd, .inl (cI, 552, .inl ff2_4)), (ho, .inr (0, [vz_0, vz_1, .int (nI R), .int (nI T), .int mi, .ref aW, .ref aS, vz_7, .ref aP, vz_9, vz_10, .ref aU])), (aW, .inl (cI, 5, .inl fW)), (aS, .inl (cI, 5, .inl fS)), (aP, .inl (cI, 6, .inl fP)), (aU, .inl (cI, 6, .inl fU))]) [0, 6, 1, 2, 3, 4, 5] (by decide) rfl
  exact wt_vret hx hb hr hlocks hP9 hD9 hS ⟨ff2_4, rfl, (pk_keep hpk hT6 hnx hsz x_5)⟩ dX1_keep_43
set_option maxHeartbeats 4000000 in
set_option maxRecDepth 100000 in
theorem c_X1_bringBack (l : Launch) (D : va_G) (cI cZ cH : ClassId) (ps fd : Nat) (ho aW aS aP aU : Nat) (R T nx sz : Nat) (mi : Int32) (fW fS fP fU : Nat → Int32) (ff : Nat → Int32) (vz_0 vz_1 vz_7 vz_9 vz_10 : Value) (hR5 : R ≤ 5) (hT6 : T ≤ 6) (hwP : hw R T fP) (hnx : nx < 24) (hsz : sz ≤ 24) (hpk : pk R T nx sz ff) (hs0 : 0 < sz) : wt_M l yX1_bringBack wsX1_bringBack ({ frames := 2, cells := 0, slots := 0, locals := 82 } : Room) D (wt_T cI cZ cH) [.ref ps, .ref ho] [(ps, .inr (1, [.ref fd, .int (nI nx), .int (nI sz)])), (fd, .inl (cI, 552, .inl ff)), (ho, .inr (0, [vz_0, vz_1, .int (nI R), .int (nI T), .int mi, .ref aW, .ref aS, vz_7, .ref aP, vz_9, vz_10, .ref aU])), (aW, .inl (cI, 5, .inl fW)), (aS, .inl (cI, 5, .inl fS)), (aP, .inl (cI, 6, .inl fP)), (aU, .inl (cI, 6, .inl fU))] (wt_QV D (fun w => ∃ (fW2 fS2 fP2 fU2 : Nat → Int32) (ho_f4 : Int32), w = [(ps, .inr (1, [.ref fd, .int (nI ((nx + 24 - 1) % 24)), .int (nI (sz - 1))])), (fd, .inl (cI, 552, .inl ff)), (ho, .inr (0, [vz_0, vz_1, .int (nI R), .int (nI T), .int ho_f4, .ref aW, .ref aS, vz_7, .ref aP, vz_9, vz_10, .ref aU])), (aW, .inl (cI, 5, .inl fW2)), (aS, .inl (cI, 5, .inl fS2)), (aP, .inl (cI, 6, .inl fP2)), (aU, .inl (cI, 6, .inl fU2))] ∧ hw R T fP2)) := by
  refine wt_M.ofW (cc := cX1_bringBack) (maxL := 2) (ret := none) (by decide) rfl (Nat.le_of_ble_eq_true rfl) ?_
  intro p e s m below meth c A ls hx hb hr hts hown hlocks hml hnm hP hK hD hA hS hl
  have hP : va_P D vwCl [(ps, .inr (1, [.ref fd, .int (nI nx), .int (nI sz)])), (fd, .inl (cI, 552, .inl ff)), (ho, .inr (0, [vz_0, vz_1, .int (nI R), .int (nI T), .int mi, .ref aW, .ref aS, vz_7, .ref aP, vz_9, vz_10, .ref aU])), (aW, .inl (cI, 5, .inl fW)), (aS, .inl (cI, 5, .inl fS)), (aP, .inl (cI, 6, .inl fP)), (aU, .inl (cI, 6, .inl fU))] s.heap := hP
  have hown : s.vm.findClass RX1 = some m.cls := hown
  have hl : lv_has ls 2 [(0, .ref ps), (1, .ref ho)] := hl
  have hi1 : ∀ w ∈ u_ws RX1 TX1 3, w ∈ wsX1_bringBack := by decide +kernel
  have wf11 := hts (.fieldLink RX1 11 "WarmTubes$Past" "found" "[I") (by decide +kernel)
  have wf15 := hts (.fieldLink RX1 15 "WarmTubes$Past" "next" "I") (by decide +kernel)
  have wf19 := hts (.fieldLink RX1 19 "WarmTubes$Past" "size" "I") (by decide +kernel)
  refine lv_aload_n hx hb dX1_bringBack_0 rfl (lv_at hl 0 rfl) ?_
  refine va_get (D := D) (ci := 1) (v := .int (nI sz)) (C := RX1) (T := TX1) (N := 3) hx hb hts hi1 hown hK.1 hP 0 rfl rfl 2 (by decide) wf19 (fun _ h9 => h9) rfl dX1_bringBack_1 ?_
  refine lv_if_ne (tgt := 8) hx hb dX1_bringBack_4 (by decide) (fun _ => ?_) (fun h => absurd h (wt_nne (by omega) (by omega)))
  refine lv_aload_n hx hb dX1_bringBack_8 rfl (lv_at hl 0 rfl) ?_
  refine lv_aload_n hx hb dX1_bringBack_9 rfl (lv_at hl 0 rfl) ?_
  refine va_get (D := D) (ci := 1) (v := .int (nI nx)) (C := RX1) (T := TX1) (N := 3) hx hb hts hi1 hown hK.1 hP 0 rfl rfl 1 (by decide) wf15 (fun _ h9 => h9) rfl dX1_bringBack_10 ?_
  refine lv_bipush (v := 24) hx hb dX1_bringBack_13 (by decide) ?_
  refine lv_iadd hx hb dX1_bringBack_15 ?_
  refine wt_top (z := nI (nx + 24)) (nI_add nx 24) ?_
  refine lv_iconst (v := 1) hx hb dX1_bringBack_16 (by decide) ?_
  refine lv_isub hx hb dX1_bringBack_17 ?_
  refine wt_top (z := nI ((nx + 24) - 1)) (pk_sub (a := (nx + 24)) (b := 1) (by omega)) ?_
  refine lv_bipush (v := 24) hx hb dX1_bringBack_18 (by decide) ?_
  refine lv_irem hx hb dX1_bringBack_20 (by decide) ?_
  refine wt_top (z := nI (((nx + 24) - 1) % 24)) (pk_rem (by omega) (by decide) (by decide)) ?_
  refine va_put (D := D) (ci := 1) (v := .int (nI (((nx + 24) - 1) % 24))) (ty := .int) (C := RX1) (T := TX1) (N := 3) hx hb hts hi1 tyX1 tyX1_ok nmX1 hown hK.1 hP hD hS 0 rfl rfl 1 (by decide) wf15 (fun _ h9 => h9) rfl (by decide +kernel) rfl rfl (Nat.le_of_ble_eq_true rfl) dX1_bringBack_21 (fun H locs hP hD hS => ?_)
  have hP : va_P D vwCl [(ps, .inr (1, [.ref fd, .int (nI (((nx + 24) - 1) % 24)), .int (nI sz)])), (fd, .inl (cI, 552, .inl ff)), (ho, .inr (0, [vz_0, vz_1, .int (nI R), .int (nI T), .int mi, .ref aW, .ref aS, vz_7, .ref aP, vz_9, vz_10, .ref aU])), (aW, .inl (cI, 5, .inl fW)), (aS, .inl (cI, 5, .inl fS)), (aP, .inl (cI, 6, .inl fP)), (aU, .inl (cI, 6, .inl fU))] H := hP
  have hD : va_D A [(ps, .inr (1, [.ref fd, .int (nI (((nx + 24) - 1) % 24)), .int (nI sz)])), (fd, .inl (cI, 552, .inl ff)), (ho, .inr (0, [vz_0, vz_1, .int (nI R), .int (nI T), .int mi, .ref aW, .ref aS, vz_7, .ref aP, vz_9, vz_10, .ref aU])), (aW, .inl (cI, 5, .inl fW)), (aS, .inl (cI, 5, .inl fS)), (aP, .inl (cI, 6, .inl fP)), (aU, .inl (cI, 6, .inl fU))] := hD
  refine lv_aload_n hx hb dX1_bringBack_24 rfl (lv_at hl 0 rfl) ?_
  refine lv_dup hx hb dX1_bringBack_25 rfl ?_
  refine va_get (D := D) (ci := 1) (v := .int (nI sz)) (C := RX1) (T := TX1) (N := 3) hx hb hts hi1 hown hK.1 hP 0 rfl rfl 2 (by decide) wf19 (fun _ h9 => h9) rfl dX1_bringBack_26 ?_
  refine lv_iconst (v := 1) hx hb dX1_bringBack_29 (by decide) ?_
  refine lv_isub hx hb dX1_bringBack_30 ?_
  refine wt_top (z := nI (sz - 1)) (pk_sub (a := sz) (b := 1) (by omega)) ?_
  refine va_put (D := D) (ci := 1) (v := .int (nI (sz - 1))) (ty := .int) (C := RX1) (T := TX1) (N := 3) hx hb hts hi1 tyX1 tyX1_ok nmX1 hown hK.1 hP hD hS 0 rfl rfl 2 (by decide) wf19 (fun _ h9 => h9) rfl (by decide +kernel) rfl rfl (Nat.le_of_ble_eq_true rfl) dX1_bringBack_31 (fun H locs hP hD hS => ?_)
  have hP : va_P D vwCl [(ps, .inr (1, [.ref fd, .int (nI (((nx + 24) - 1) % 24)), .int (nI (sz - 1))])), (fd, .inl (cI, 552, .inl ff)), (ho, .inr (0, [vz_0, vz_1, .int (nI R), .int (nI T), .int mi, .ref aW, .ref aS, vz_7, .ref aP, vz_9, vz_10, .ref aU])), (aW, .inl (cI, 5, .inl fW)), (aS, .inl (cI, 5, .inl fS)), (aP, .inl (cI, 6, .inl fP)), (aU, .inl (cI, 6, .inl fU))] H := hP
  have hD : va_D A [(ps, .inr (1, [.ref fd, .int (nI (((nx + 24) - 1) % 24)), .int (nI (sz - 1))])), (fd, .inl (cI, 552, .inl ff)), (ho, .inr (0, [vz_0, vz_1, .int (nI R), .int (nI T), .int mi, .ref aW, .ref aS, vz_7, .ref aP, vz_9, vz_10, .ref aU])), (aW, .inl (cI, 5, .inl fW)), (aS, .inl (cI, 5, .inl fS)), (aP, .inl (cI, 6, .inl fP)), (aU, .inl (cI, 6, .inl fU))] := hD
  refine lv_aload_n hx hb dX1_bringBack_34 rfl (lv_at hl 1 rfl) ?_
  refine lv_aload_n hx hb dX1_bringBack_35 rfl (lv_at hl 0 rfl) ?_
  refine va_get (D := D) (ci := 1) (v := .ref fd) (C := RX1) (T := TX1) (N := 3) hx hb hts hi1 hown hK.1 hP 0 rfl rfl 0 (by decide) wf11 (fun _ h9 => h9) rfl dX1_bringBack_36 ?_
  refine lv_aload_n hx hb dX1_bringBack_39 rfl (lv_at hl 0 rfl) ?_
  refine va_get (D := D) (ci := 1) (v := .int (nI (((nx + 24) - 1) % 24))) (C := RX1) (T := TX1) (N := 3) hx hb hts hi1 hown hK.1 hP 0 rfl rfl 1 (by decide) wf15 (fun _ h9 => h9) rfl dX1_bringBack_40 ?_
  refine lv_bipush (v := 23) hx hb dX1_bringBack_43 (by decide) ?_
  refine lv_imul hx hb dX1_bringBack_45 ?_
  refine wt_top (z := nI ((((nx + 24) - 1) % 24) * 23)) (pk_mul (((nx + 24) - 1) % 24) 23) ?_
  refine wt_goV (wr := [(ps, .inr (1, [.ref fd, .int (nI (((nx + 24) - 1) % 24)), .int (nI (sz - 1))]))]) (wt_runV (As := [.ref fd, .int (nI ((((nx + 24) - 1) % 24) * 23))]) (rest := []) ⟨hx, hb, hml, hown, hts⟩ (c_X0_readChanging l D cI cZ cH ho aW aS aP aU R T ((((nx + 24) - 1) % 24) * 23) fW fS fP fU fd ff vz_0 vz_1 (.int mi) vz_7 vz_9 vz_10 (by first | assumption | omega) (by first | assumption | omega) (by first | assumption | omega) (pk_top hpk hs0 (by omega))) (cwV 2 hts gX1_bringBack_X0_readChanging rfl rfl rfl (by decide +kernel) ⟨Nat.le_of_ble_eq_true rfl, Nat.le_of_ble_eq_true rfl⟩) hK hP hD [2, 3, 4, 5, 6, 1] rfl (by decide) (va_recv hK.1 hP (ci := 0) (q0 := 2) rfl rfl) rfl hl.1 rfl (Nat.le_of_ble_eq_true rfl) dX1_bringBack_46 ⟨Nat.le_of_ble_eq_true rfl, Nat.le_of_ble_eq_true rfl⟩) hP hD hS hA [2, 3, 4, 5, 6, 1] [0] rfl rfl (by decide) (by decide) (fun w_2 H locs h_3 hP hD hS => ?_)
  obtain ⟨fW2_4, fS2_5, fP2_6, fU2_7, ho_f4_8, rfl, x_9⟩ := h_3
  have hP : va_P D vwCl [(ps, .inr (1, [.ref fd, .int (nI (((nx + 24) - 1) % 24)), .int (nI (sz - 1))])), (ho, .inr (0, [vz_0, vz_1, .int (nI R), .int (nI T), .int ho_f4_8, .ref aW, .ref aS, vz_7, .ref aP, vz_9, vz_10, .ref aU])), (aW, .inl (cI, 5, .inl fW2_4)), (aS, .inl (cI, 5, .inl fS2_5)), (aP, .inl (cI, 6, .inl fP2_6)), (aU, .inl (cI, 6, .inl fU2_7)), (fd, .inl (cI, 552, .inl ff))] H := hP
  have hD : va_D A [(ps, .inr (1, [.ref fd, .int (nI (((nx + 24) - 1) % 24)), .int (nI (sz - 1))])), (ho, .inr (0, [vz_0, vz_1, .int (nI R), .int (nI T), .int ho_f4_8, .ref aW, .ref aS, vz_7, .ref aP, vz_9, vz_10, .ref aU])), (aW, .inl (cI, 5, .inl fW2_4)), (aS, .inl (cI, 5, .inl fS2_5)), (aP, .inl (cI, 6, .inl fP2_6)), (aU, .inl (cI, 6, .inl fU2_7)), (fd, .inl (cI, 552, .inl ff))] := hD
  have hP9 := hP.sub (ws' := [(ps, .inr (1, [.ref fd, .int (nI (((nx + 24) - 1) % 24)), .int (nI (sz - 1))])), (fd, .inl (cI, 552, .inl ff)), (ho, .inr (0, [vz_0, vz_1, .int (nI R), .int (nI T), .int ho_f4_8, .ref aW, .ref aS, vz_7, .ref aP, vz_9, vz_10, .ref aU])), (aW, .inl (cI, 5, .inl fW2_4)), (aS, .inl (cI, 5, .inl fS2_5)), (aP, .inl (cI, 6, .inl fP2_6)), (aU, .inl (cI, 6, .inl fU2_7))]) [0, 6, 1, 2, 3, 4, 5] rfl
  have hD9 := hD.sub (ws' := [(ps, .inr (1, [.ref fd, .int (nI (((nx + 24) - 1) % 24)), .int (nI (sz - 1))])), (fd, .inl (cI, 552, .inl ff)), (ho, .inr (0, [vz_0, vz_1, .int (nI R), .int (nI T), .int ho_f4_8, .ref aW, .ref aS, vz_7, .ref aP, vz_9, vz_10, .ref aU])), (aW, .inl (cI, 5, .inl fW2_4)), (aS, .inl (cI, 5, .inl fS2_5)), (aP, .inl (cI, 6, .inl fP2_6)), (aU, .inl (cI, 6, .inl fU2_7))]) [0, 6, 1, 2, 3, 4, 5] (by decide) rfl
  exact wt_vret hx hb hr hlocks hP9 hD9 hS ⟨fW2_4, fS2_5, fP2_6, fU2_7, ho_f4_8, rfl, x_9⟩ dX1_bringBack_49

set_option maxHeartbeats 4000000 in
set_option maxRecDepth 100000 in
theorem c_X5_within_m (l : Launch) (D : va_G) (cI cZ cH : ClassId) (n a b : Int32) : wt_M l yX5_within wsX5_within ({ frames := 0, cells := 0, slots := 0, locals := 0 } : Room) D (wt_T cI cZ cH) [.int n, .int a, .int b] [] (wt_QI D (fun r w => w = [] ∧ r = wI n a b)) := by
  refine wt_M.ofW (cc := cX5_within) (maxL := 3) (ret := (some .boolean)) (by decide) rfl (Nat.le_of_ble_eq_true rfl) ?_
  intro p e s m below meth c A ls hx hb hr hts hown hlocks hml hnm hP hK hD hA hS hl
  have hP : va_P D vwCl [] s.heap := hP
  have hown : s.vm.findClass RX5 = some m.cls := hown
  have hl : lv_has ls 3 [(0, .int n), (1, .int a), (2, .int b)] := hl
  refine lv_iload_n hx hb dX5_within_0 rfl (lv_at hl 0 rfl) ?_
  refine lv_iload_n hx hb dX5_within_1 rfl (lv_at hl 1 rfl) ?_
  refine lv_icmp_lt (tgt := 14) hx hb dX5_within_2 (by decide) (fun c_1 => ?_) (fun c_1 => ?_)
  · skip
    refine lv_iconst (v := 0) hx hb dX5_within_14 (by decide) ?_
    have hP9 := hP.sub (ws' := []) [] rfl
    have hD9 := hD.sub (ws' := []) [] (by decide) rfl
    exact wt_zret hx hb hr hlocks (by decide) hP9 hD9 hS ⟨rfl, (by simp [wI, c_1])⟩ dX5_within_15
  · skip
    refine lv_iload_n hx hb dX5_within_5 rfl (lv_at hl 0 rfl) ?_
    refine lv_iload_n hx hb dX5_within_6 rfl (lv_at hl 2 rfl) ?_
    refine lv_icmp_gt (tgt := 14) hx hb dX5_within_7 (by decide) (fun c_2 => ?_) (fun c_2 => ?_)
    · skip
      refine lv_iconst (v := 0) hx hb dX5_within_14 (by decide) ?_
      have hP9 := hP.sub (ws' := []) [] rfl
      have hD9 := hD.sub (ws' := []) [] (by decide) rfl
      exact wt_zret hx hb hr hlocks (by decide) hP9 hD9 hS ⟨rfl, (by simp [wI, c_1, c_2])⟩ dX5_within_15
    · skip
      refine lv_iconst (v := 1) hx hb dX5_within_10 (by decide) ?_
      refine lv_goto (tgt := 15) hx hb dX5_within_11 (by decide) ?_
      have hP9 := hP.sub (ws' := []) [] rfl
      have hD9 := hD.sub (ws' := []) [] (by decide) rfl
      exact wt_zret hx hb hr hlocks (by decide) hP9 hD9 hS ⟨rfl, (by simp [wI, c_1, c_2])⟩ dX5_within_15
set_option maxHeartbeats 4000000 in
set_option maxRecDepth 100000 in
theorem c_X3_peek (l : Launch) (D : va_G) (cI cZ cH : ClassId) (tp bt : Nat) (tl ta : Nat) (bf : Nat → Int32) (s2 s3 : Int32) (htl : tl ≤ 120) (hta : ta ≤ tl) : wt_R l yX3_peek wsX3_peek ({ frames := 0, cells := 0, slots := 0, locals := 0 } : Room) D (wt_T cI cZ cH) [.ref tp] [(tp, .inr (3, [.ref bt, .int (nI tl), .int s2, .int s3, .int (nI ta)])), (bt, .inl (cI, 120, .inl bf))] (vp_Si (fun r => ¬ r = (-1) → ta < tl)) := by
  refine wt_R.ofW (cc := cX3_peek) (maxL := 1) (ret := (some .int)) (by decide) rfl (Nat.le_of_ble_eq_true rfl) ?_
  intro p e s m below meth c ls hx hb hr hts hown hlocks hml hP hK hl
  have hown : s.vm.findClass RX3 = some m.cls := hown
  have hl : lv_has ls 1 [(0, .ref tp)] := hl
  have hi3 : ∀ w ∈ u_ws RX3 TX3 5, w ∈ wsX3_peek := by decide +kernel
  have wf11 := hts (.fieldLink RX3 11 "WarmTubes$Tape" "bytes" "[I") (by decide +kernel)
  have wf15 := hts (.fieldLink RX3 15 "WarmTubes$Tape" "length" "I") (by decide +kernel)
  have wf25 := hts (.fieldLink RX3 25 "WarmTubes$Tape" "at" "I") (by decide +kernel)
  refine lv_aload_n hx hb dX3_peek_0 rfl (lv_at hl 0 rfl) ?_
  refine va_get (D := D) (ci := 3) (v := .int (nI ta)) (C := RX3) (T := TX3) (N := 5) hx hb hts hi3 hown hK.1 hP 0 rfl rfl 4 (by decide) wf25 (fun _ h9 => h9) rfl dX3_peek_1 ?_
  refine lv_aload_n hx hb dX3_peek_4 rfl (lv_at hl 0 rfl) ?_
  refine va_get (D := D) (ci := 3) (v := .int (nI tl)) (C := RX3) (T := TX3) (N := 5) hx hb hts hi3 hown hK.1 hP 0 rfl rfl 1 (by decide) wf15 (fun _ h9 => h9) rfl dX3_peek_5 ?_
  refine lv_icmp_ge (tgt := 32) hx hb dX3_peek_8 (by decide) (fun c_1 => ?_) (fun c_1 => ?_)
  · skip
    have c_1 : tl ≤ ta := (nI_leI (a := tl) (b := ta) (by omega) (by omega)).mp c_1
    refine lv_iconst (v := (-1)) hx hb dX3_peek_32 (by decide) ?_
    exact wt_siret hx hb hr hlocks (by first | (intro h; exact absurd rfl h) | (intro _; omega)) dX3_peek_33
  · skip
    have c_1 : ¬ (tl ≤ ta) := fun h => c_1 ((nI_leI (a := tl) (b := ta) (by omega) (by omega)).mpr h)
    refine lv_aload_n hx hb dX3_peek_11 rfl (lv_at hl 0 rfl) ?_
    refine va_get (D := D) (ci := 3) (v := .int (nI ta)) (C := RX3) (T := TX3) (N := 5) hx hb hts hi3 hown hK.1 hP 0 rfl rfl 4 (by decide) wf25 (fun _ h9 => h9) rfl dX3_peek_12 ?_
    refine lv_bipush (v := 120) hx hb dX3_peek_15 (by decide) ?_
    refine lv_icmp_ge (tgt := 32) hx hb dX3_peek_17 (by decide) (fun c_2 => ?_) (fun c_2 => ?_)
    · skip
      have c_2 : 120 ≤ ta := (nI_leI (a := 120) (b := ta) (by omega) (by omega)).mp c_2
      refine lv_iconst (v := (-1)) hx hb dX3_peek_32 (by decide) ?_
      exact wt_siret hx hb hr hlocks (by first | (intro h; exact absurd rfl h) | (intro _; omega)) dX3_peek_33
    · skip
      have c_2 : ¬ (120 ≤ ta) := fun h => c_2 ((nI_leI (a := 120) (b := ta) (by omega) (by omega)).mpr h)
      refine lv_aload_n hx hb dX3_peek_20 rfl (lv_at hl 0 rfl) ?_
      refine va_get (D := D) (ci := 3) (v := .ref bt) (C := RX3) (T := TX3) (N := 5) hx hb hts hi3 hown hK.1 hP 0 rfl rfl 0 (by decide) wf11 (fun _ h9 => h9) rfl dX3_peek_21 ?_
      refine lv_aload_n hx hb dX3_peek_24 rfl (lv_at hl 0 rfl) ?_
      refine va_get (D := D) (ci := 3) (v := .int (nI ta)) (C := RX3) (T := TX3) (N := 5) hx hb hts hi3 hown hK.1 hP 0 rfl rfl 4 (by decide) wf25 (fun _ h9 => h9) rfl dX3_peek_25 ?_
      refine va_iald hx hb hK.1 hP 1 0 rfl rfl (vp_in_nI (by omega) (by omega)) dX3_peek_28 ?_
      refine lv_topi (fun ov_3 _ => ?_)
      refine lv_goto (tgt := 33) hx hb dX3_peek_29 (by decide) ?_
      exact wt_siret hx hb hr hlocks (by first | (intro h; exact absurd rfl h) | (intro _; omega)) dX3_peek_33
set_option maxHeartbeats 4000000 in
set_option maxRecDepth 100000 in
theorem c_X3_fail (l : Launch) (D : va_G) (cI cZ cH : ClassId) (tp : Nat) (ta : Nat) (s2 s3 k : Int32) (vt_0 vt_1 : Value) : wt_M l yX3_fail wsX3_fail ({ frames := 0, cells := 0, slots := 0, locals := 0 } : Room) D (wt_T cI cZ cH) [.ref tp, .int k] [(tp, .inr (3, [vt_0, vt_1, .int s2, .int s3, .int (nI ta)]))] (wt_QI D (fun r w => ∃ (tp_f2 tp_f3 : Int32), w = [(tp, .inr (3, [vt_0, vt_1, .int tp_f2, .int tp_f3, .int (nI ta)]))] ∧ r = 0)) := by
  refine wt_M.ofW (cc := cX3_fail) (maxL := 2) (ret := (some .boolean)) (by decide) rfl (Nat.le_of_ble_eq_true rfl) ?_
  intro p e s m below meth c A ls hx hb hr hts hown hlocks hml hnm hP hK hD hA hS hl
  have hP : va_P D vwCl [(tp, .inr (3, [vt_0, vt_1, .int s2, .int s3, .int (nI ta)]))] s.heap := hP
  have hown : s.vm.findClass RX3 = some m.cls := hown
  have hl : lv_has ls 2 [(0, .ref tp), (1, .int k)] := hl
  have hi3 : ∀ w ∈ u_ws RX3 TX3 5, w ∈ wsX3_fail := by decide +kernel
  have wf19 := hts (.fieldLink RX3 19 "WarmTubes$Tape" "fault" "I") (by decide +kernel)
  have wf22 := hts (.fieldLink RX3 22 "WarmTubes$Tape" "place" "I") (by decide +kernel)
  have wf25 := hts (.fieldLink RX3 25 "WarmTubes$Tape" "at" "I") (by decide +kernel)
  refine lv_aload_n hx hb dX3_fail_0 rfl (lv_at hl 0 rfl) ?_
  refine lv_iload_n hx hb dX3_fail_1 rfl (lv_at hl 1 rfl) ?_
  refine va_put (D := D) (ci := 3) (v := .int k) (ty := .int) (C := RX3) (T := TX3) (N := 5) hx hb hts hi3 tyX3 tyX3_ok nmX3 hown hK.1 hP hD hS 0 rfl rfl 2 (by decide) wf19 (fun _ h9 => h9) rfl (by decide +kernel) rfl rfl (Nat.le_of_ble_eq_true rfl) dX3_fail_2 (fun H locs hP hD hS => ?_)
  have hP : va_P D vwCl [(tp, .inr (3, [vt_0, vt_1, .int k, .int s3, .int (nI ta)]))] H := hP
  have hD : va_D A [(tp, .inr (3, [vt_0, vt_1, .int k, .int s3, .int (nI ta)]))] := hD
  refine lv_aload_n hx hb dX3_fail_5 rfl (lv_at hl 0 rfl) ?_
  refine lv_aload_n hx hb dX3_fail_6 rfl (lv_at hl 0 rfl) ?_
  refine va_get (D := D) (ci := 3) (v := .int (nI ta)) (C := RX3) (T := TX3) (N := 5) hx hb hts hi3 hown hK.1 hP 0 rfl rfl 4 (by decide) wf25 (fun _ h9 => h9) rfl dX3_fail_7 ?_
  refine va_put (D := D) (ci := 3) (v := .int (nI ta)) (ty := .int) (C := RX3) (T := TX3) (N := 5) hx hb hts hi3 tyX3 tyX3_ok nmX3 hown hK.1 hP hD hS 0 rfl rfl 3 (by decide) wf22 (fun _ h9 => h9) rfl (by decide +kernel) rfl rfl (Nat.le_of_ble_eq_true rfl) dX3_fail_10 (fun H locs hP hD hS => ?_)
  have hP : va_P D vwCl [(tp, .inr (3, [vt_0, vt_1, .int k, .int (nI ta), .int (nI ta)]))] H := hP
  have hD : va_D A [(tp, .inr (3, [vt_0, vt_1, .int k, .int (nI ta), .int (nI ta)]))] := hD
  refine lv_iconst (v := 0) hx hb dX3_fail_13 (by decide) ?_
  have hP9 := hP.sub (ws' := [(tp, .inr (3, [vt_0, vt_1, .int k, .int (nI ta), .int (nI ta)]))]) [0] rfl
  have hD9 := hD.sub (ws' := [(tp, .inr (3, [vt_0, vt_1, .int k, .int (nI ta), .int (nI ta)]))]) [0] (by decide) rfl
  exact wt_zret hx hb hr hlocks (by decide) hP9 hD9 hS ⟨k, (nI ta), rfl, (by rfl)⟩ dX3_fail_14
set_option maxHeartbeats 4000000 in
set_option maxRecDepth 100000 in
theorem c_X3_pass (l : Launch) (D : va_G) (cI cZ cH : ClassId) (tp bt : Nat) (tl ta : Nat) (bf : Nat → Int32) (s2 s3 : Int32) (k : Int32) (htl : tl ≤ 120) (hta : ta ≤ tl) (hk1 : ¬ k = (-1)) : wt_M l yX3_pass wsX3_pass ({ frames := 1, cells := 0, slots := 0, locals := 21 } : Room) D (wt_T cI cZ cH) [.ref tp, .int k] [(tp, .inr (3, [.ref bt, .int (nI tl), .int s2, .int s3, .int (nI ta)])), (bt, .inl (cI, 120, .inl bf))] (wt_QI D (fun r w => ∃ (ta2 : Nat) (tp_f2 tp_f3 : Int32), w = [(tp, .inr (3, [.ref bt, .int (nI tl), .int tp_f2, .int tp_f3, .int (nI ta2)])), (bt, .inl (cI, 120, .inl bf))] ∧ ta2 ≤ tl)) := by
  refine wt_M.ofW (cc := cX3_pass) (maxL := 2) (ret := (some .boolean)) (by decide) rfl (Nat.le_of_ble_eq_true rfl) ?_
  intro p e s m below meth c A ls hx hb hr hts hown hlocks hml hnm hP hK hD hA hS hl
  have hP : va_P D vwCl [(tp, .inr (3, [.ref bt, .int (nI tl), .int s2, .int s3, .int (nI ta)])), (bt, .inl (cI, 120, .inl bf))] s.heap := hP
  have hown : s.vm.findClass RX3 = some m.cls := hown
  have hl : lv_has ls 2 [(0, .ref tp), (1, .int k)] := hl
  have hi3 : ∀ w ∈ u_ws RX3 TX3 5, w ∈ wsX3_pass := by decide +kernel
  have wf25 := hts (.fieldLink RX3 25 "WarmTubes$Tape" "at" "I") (by decide +kernel)
  refine lv_aload_n hx hb dX3_pass_0 rfl (lv_at hl 0 rfl) ?_
  refine wt_rV (As := []) (rest := []) ⟨hx, hb, hml, hown, hts⟩ (c_X3_peek l D cI cZ cH tp bt tl ta bf s2 s3 (by first | assumption | omega) (by first | assumption | omega)) (cwV 0 hts gX3_pass_X3_peek rfl rfl rfl (by decide +kernel) ⟨Nat.le_of_ble_eq_true rfl, Nat.le_of_ble_eq_true rfl⟩) hK hP [0, 1] rfl (va_recv hK.1 hP (ci := 3) (q0 := 0) rfl rfl) rfl hl.1 rfl (Nat.le_of_ble_eq_true rfl) dX3_pass_1 ⟨Nat.le_of_ble_eq_true rfl, Nat.le_of_ble_eq_true rfl⟩ (fun r_1 e_2 => ?_)
  refine lv_iload_n hx hb dX3_pass_4 rfl (lv_at hl 1 rfl) ?_
  refine lv_icmp_eq (tgt := 14) hx hb dX3_pass_5 (by decide) (fun c_3 => ?_) (fun c_3 => ?_)
  · skip
    have hlt := e_2 (by rw [c_3]; exact hk1)
    refine lv_aload_n hx hb dX3_pass_14 rfl (lv_at hl 0 rfl) ?_
    refine lv_dup hx hb dX3_pass_15 rfl ?_
    refine va_get (D := D) (ci := 3) (v := .int (nI ta)) (C := RX3) (T := TX3) (N := 5) hx hb hts hi3 hown hK.1 hP 0 rfl rfl 4 (by decide) wf25 (fun _ h9 => h9) rfl dX3_pass_16 ?_
    refine lv_iconst (v := 1) hx hb dX3_pass_19 (by decide) ?_
    refine lv_iadd hx hb dX3_pass_20 ?_
    refine wt_top (z := nI (ta + 1)) (nI_add ta 1) ?_
    refine va_put (D := D) (ci := 3) (v := .int (nI (ta + 1))) (ty := .int) (C := RX3) (T := TX3) (N := 5) hx hb hts hi3 tyX3 tyX3_ok nmX3 hown hK.1 hP hD hS 0 rfl rfl 4 (by decide) wf25 (fun _ h9 => h9) rfl (by decide +kernel) rfl rfl (Nat.le_of_ble_eq_true rfl) dX3_pass_21 (fun H locs hP hD hS => ?_)
    have hP : va_P D vwCl [(tp, .inr (3, [.ref bt, .int (nI tl), .int s2, .int s3, .int (nI (ta + 1))])), (bt, .inl (cI, 120, .inl bf))] H := hP
    have hD : va_D A [(tp, .inr (3, [.ref bt, .int (nI tl), .int s2, .int s3, .int (nI (ta + 1))])), (bt, .inl (cI, 120, .inl bf))] := hD
    refine lv_iconst (v := 1) hx hb dX3_pass_24 (by decide) ?_
    have hP9 := hP.sub (ws' := [(tp, .inr (3, [.ref bt, .int (nI tl), .int s2, .int s3, .int (nI (ta + 1))])), (bt, .inl (cI, 120, .inl bf))]) [0, 1] rfl
    have hD9 := hD.sub (ws' := [(tp, .inr (3, [.ref bt, .int (nI tl), .int s2, .int s3, .int (nI (ta + 1))])), (bt, .inl (cI, 120, .inl bf))]) [0, 1] (by decide) rfl
    exact wt_zret hx hb hr hlocks (by decide) hP9 hD9 hS ⟨(ta + 1), s2, s3, rfl, (by omega)⟩ dX3_pass_25
  · skip
    refine lv_aload_n hx hb dX3_pass_8 rfl (lv_at hl 0 rfl) ?_
    refine lv_iconst (v := 1) hx hb dX3_pass_9 (by decide) ?_
    refine wt_goI (wr := [(bt, .inl (cI, 120, .inl bf))]) (wt_runV (As := [.int 1]) (rest := []) ⟨hx, hb, hml, hown, hts⟩ (c_X3_fail l D cI cZ cH tp ta s2 s3 1 (.ref bt) (.int (nI tl))) (cwV 1 hts gX3_pass_X3_fail rfl rfl rfl (by decide +kernel) ⟨Nat.le_of_ble_eq_true rfl, Nat.le_of_ble_eq_true rfl⟩) hK hP hD [0] rfl (by decide) (va_recv hK.1 hP (ci := 3) (q0 := 0) rfl rfl) rfl hl.1 rfl (Nat.le_of_ble_eq_true rfl) dX3_pass_10 ⟨Nat.le_of_ble_eq_true rfl, Nat.le_of_ble_eq_true rfl⟩) hP hD hS hA [0] [1] rfl rfl (by decide) (by decide) (fun r_4 w_5 H locs h_6 hP hD hS => ?_)
    obtain ⟨tp_f2_7, tp_f3_8, rfl, rfl⟩ := h_6
    have hP : va_P D vwCl [(bt, .inl (cI, 120, .inl bf)), (tp, .inr (3, [.ref bt, .int (nI tl), .int tp_f2_7, .int tp_f3_8, .int (nI ta)]))] H := hP
    have hD : va_D A [(bt, .inl (cI, 120, .inl bf)), (tp, .inr (3, [.ref bt, .int (nI tl), .int tp_f2_7, .int tp_f3_8, .int (nI ta)]))] := hD
    have hP9 := hP.sub (ws' := [(tp, .inr (3, [.ref bt, .int (nI tl), .int tp_f2_7, .int tp_f3_8, .int (nI ta)])), (bt, .inl (cI, 120, .inl bf))]) [1, 0] rfl
    have hD9 := hD.sub (ws' := [(tp, .inr (3, [.ref bt, .int (nI tl), .int tp_f2_7, .int tp_f3_8, .int (nI ta)])), (bt, .inl (cI, 120, .inl bf))]) [1, 0] (by decide) rfl
    exact wt_zret hx hb hr hlocks (by decide) hP9 hD9 hS ⟨ta, tp_f2_7, tp_f3_8, rfl, (by omega)⟩ dX3_pass_13
set_option maxHeartbeats 4000000 in
set_option maxRecDepth 100000 in
theorem c_X3_number (l : Launch) (D : va_G) (cI cZ cH : ClassId) (tp bt : Nat) (tl ta : Nat) (bf : Nat → Int32) (s2 s3 : Int32) (lo hi : Nat) (htl : tl ≤ 120) (hta : ta ≤ tl) (hlh : lo ≤ 999) (hh9 : hi ≤ 999) : wt_M l yX3_number wsX3_number ({ frames := 1, cells := 0, slots := 0, locals := 22 } : Room) D (wt_T cI cZ cH) [.ref tp, .int (nI lo), .int (nI hi)] [(tp, .inr (3, [.ref bt, .int (nI tl), .int s2, .int s3, .int (nI ta)])), (bt, .inl (cI, 120, .inl bf))] (wt_QI D (fun r w => ∃ (ta2 : Nat) (tp_f2 tp_f3 : Int32), w = [(tp, .inr (3, [.ref bt, .int (nI tl), .int tp_f2, .int tp_f3, .int (nI ta2)])), (bt, .inl (cI, 120, .inl bf))] ∧ ta2 ≤ tl ∧ (r = (-1) ∨ ∃ v : Nat, lo ≤ v ∧ v ≤ hi ∧ r = nI v))) := by
  refine wt_M.ofW (cc := cX3_number) (maxL := 7) (ret := (some .int)) (by decide) rfl (Nat.le_of_ble_eq_true rfl) ?_
  intro p e s m below meth c A ls hx hb hr hts hown hlocks hml hnm hP hK hD hA hS hl
  have hP : va_P D vwCl [(tp, .inr (3, [.ref bt, .int (nI tl), .int s2, .int s3, .int (nI ta)])), (bt, .inl (cI, 120, .inl bf))] s.heap := hP
  have hown : s.vm.findClass RX3 = some m.cls := hown
  have hl : lv_has ls 7 [(0, .ref tp), (1, .int (nI lo)), (2, .int (nI hi))] := hl
  have hi3 : ∀ w ∈ u_ws RX3 TX3 5, w ∈ wsX3_number := by decide +kernel
  have wf25 := hts (.fieldLink RX3 25 "WarmTubes$Tape" "at" "I") (by decide +kernel)
  have wstX5_within := hts (.static yX5_within) (by decide +kernel)
  have wz5 := hts (.initialized RX5) (by decide +kernel)
  refine lv_iconst (v := 0) hx hb dX3_number_0 (by decide) ?_
  refine lv_istore_n (lv' := [(3, .int 0), (0, .ref tp), (1, .int (nI lo)), (2, .int (nI hi))]) hx hb dX3_number_1 rfl hl (by decide) rfl (fun ls hl => ?_)
  refine lv_iconst (v := 0) hx hb dX3_number_2 (by decide) ?_
  refine lv_istore (lv' := [(4, .int 0), (3, .int 0), (0, .ref tp), (1, .int (nI lo)), (2, .int (nI hi))]) hx hb dX3_number_3 hl (by decide) rfl (fun ls hl => ?_)
  refine lv_aload_n hx hb dX3_number_5 rfl (lv_at hl 2 rfl) ?_
  refine va_get (D := D) (ci := 3) (v := .int (nI ta)) (C := RX3) (T := TX3) (N := 5) hx hb hts hi3 hown hK.1 hP 0 rfl rfl 4 (by decide) wf25 (fun _ h9 => h9) rfl dX3_number_6 ?_
  refine lv_istore (lv' := [(5, .int (nI ta)), (4, .int 0), (3, .int 0), (0, .ref tp), (1, .int (nI lo)), (2, .int (nI hi))]) hx hb dX3_number_9 hl (by decide) rfl (fun ls hl => ?_)
  have loop11 : ∀ (k i_1 : Nat) (y_2 : Int32) (n_3 : Nat) (H : Heap) (locs : List Loc) (ls : Array Slot), i_1 + k = 3 → (n_3 ≤ tl) → va_P D vwCl [(tp, .inr (3, [.ref bt, .int (nI tl), .int s2, .int s3, .int (nI n_3)])), (bt, .inl (cI, 120, .inl bf))] H → va_D A [(tp, .inr (3, [.ref bt, .int (nI tl), .int s2, .int s3, .int (nI n_3)])), (bt, .inl (cI, 120, .inl bf))] → va_S A s.heap H locs → lv_has ls 7 [(5, .int (nI ta)), (4, .int y_2), (3, .int (nI i_1)), (0, .ref tp), (1, .int (nI lo)), (2, .int (nI hi))] → W p l e ({ frames := 1, cells := 0, slots := 0, locals := 22 } : Room) s m ([.ref tp, .int (nI lo), .int (nI hi)] : List Value).toArray below meth c H locs 0 0 (MQ below (wt_QI D (fun r w => ∃ (ta2 : Nat) (tp_f2 tp_f3 : Int32), w = [(tp, .inr (3, [.ref bt, .int (nI tl), .int tp_f2, .int tp_f3, .int (nI ta2)])), (bt, .inl (cI, 120, .inl bf))] ∧ ta2 ≤ tl ∧ (r = (-1) ∨ ∃ v : Nat, lo ≤ v ∧ v ≤ hi ∧ r = nI v)) A) ([.ref tp, .int (nI lo), .int (nI hi)] : List Value).toArray s 0 0 A) (F0 m 11 ls []) := by
    intro k
    induction k with
    | zero =>
      intro i_1 y_2 n_3 H locs ls hik hta hP hD hS hl
      refine lv_iload_n hx hb dX3_number_11 rfl (lv_at hl 2 rfl) ?_
      refine lv_iconst (v := 3) hx hb dX3_number_12 (by decide) ?_
      refine lv_icmp_ge (tgt := 65) hx hb dX3_number_13 (by decide) (fun _ => ?_) (fun h => absurd (nI_le (a := 3) (b := i_1) (by omega) (by omega)) h)
      refine lv_iload_n hx hb dX3_number_65 rfl (lv_at hl 2 rfl) ?_
      refine lv_iconst (v := 1) hx hb dX3_number_66 (by decide) ?_
      refine lv_icmp_eq (tgt := 75) hx hb dX3_number_67 (by decide) (fun c_4 => ?_) (fun c_4 => ?_)
      · skip
        have c_4 : i_1 = 1 := (nI_eq (a := i_1) (b := 1) (by omega) (by omega)).mp c_4
        refine lv_iconst (v := 1) hx hb dX3_number_75 (by decide) ?_
        refine lv_goto (tgt := 80) hx hb dX3_number_76 (by decide) ?_
        refine lv_istore (lv' := [(6, .int 1), (5, .int (nI ta)), (4, .int y_2), (3, .int (nI i_1)), (0, .ref tp), (1, .int (nI lo)), (2, .int (nI hi))]) hx hb dX3_number_80 hl (by decide) rfl (fun ls hl => ?_)
        refine lv_iload hx hb dX3_number_82 (lv_at hl 0 rfl) ?_
        refine lv_if_eq (tgt := 100) hx hb dX3_number_84 (by decide) (fun h => absurd h (by decide)) (fun _ => ?_)
        refine lv_iload hx hb dX3_number_87 (lv_at hl 2 rfl) ?_
        refine lv_iload_n hx hb dX3_number_89 rfl (lv_at hl 5 rfl) ?_
        refine lv_iload_n hx hb dX3_number_90 rfl (lv_at hl 6 rfl) ?_
        refine wt_goI (wr := [(tp, .inr (3, [.ref bt, .int (nI tl), .int s2, .int s3, .int (nI n_3)])), (bt, .inl (cI, 120, .inl bf))]) (wt_runSN (As := [.int y_2, .int (nI lo), .int (nI hi)]) (rest := []) ⟨hx, hb, hml, hown, hts⟩ (c_X5_within_m l D cI cZ cH y_2 (nI lo) (nI hi)) ⟨va_cnB 3 hts gX3_number_X5_within_n102 rfl rfl rfl hK.2.2.2.2.2.2.2 wz5 (by decide +kernel) ⟨Nat.le_of_ble_eq_true rfl, Nat.le_of_ble_eq_true rfl⟩, wstX5_within, trivial⟩ hK hP hD [] rfl (by decide) rfl hl.1 rfl (Nat.le_of_ble_eq_true rfl) dX3_number_91 ⟨Nat.le_of_ble_eq_true rfl, Nat.le_of_ble_eq_true rfl⟩) hP hD hS hA [] [0, 1] rfl rfl (by decide) (by decide) (fun r_5 w_6 H locs h_7 hP hD hS => ?_)
        obtain ⟨rfl, rfl⟩ := h_7
        have hP : va_P D vwCl [(tp, .inr (3, [.ref bt, .int (nI tl), .int s2, .int s3, .int (nI n_3)])), (bt, .inl (cI, 120, .inl bf))] H := hP
        have hD : va_D A [(tp, .inr (3, [.ref bt, .int (nI tl), .int s2, .int s3, .int (nI n_3)])), (bt, .inl (cI, 120, .inl bf))] := hD
        refine lv_if_eq (tgt := 100) hx hb dX3_number_94 (by decide) (fun c_8 => ?_) (fun c_8 => ?_)
        · skip
          refine lv_aload_n hx hb dX3_number_100 rfl (lv_at hl 4 rfl) ?_
          refine lv_iload hx hb dX3_number_101 (lv_at hl 1 rfl) ?_
          refine va_put (D := D) (ci := 3) (v := .int (nI ta)) (ty := .int) (C := RX3) (T := TX3) (N := 5) hx hb hts hi3 tyX3 tyX3_ok nmX3 hown hK.1 hP hD hS 0 rfl rfl 4 (by decide) wf25 (fun _ h9 => h9) rfl (by decide +kernel) rfl rfl (Nat.le_of_ble_eq_true rfl) dX3_number_103 (fun H locs hP hD hS => ?_)
          have hP : va_P D vwCl [(tp, .inr (3, [.ref bt, .int (nI tl), .int s2, .int s3, .int (nI ta)])), (bt, .inl (cI, 120, .inl bf))] H := hP
          have hD : va_D A [(tp, .inr (3, [.ref bt, .int (nI tl), .int s2, .int s3, .int (nI ta)])), (bt, .inl (cI, 120, .inl bf))] := hD
          refine lv_aload_n hx hb dX3_number_106 rfl (lv_at hl 4 rfl) ?_
          refine lv_iload hx hb dX3_number_107 (lv_at hl 0 rfl) ?_
          refine lv_if_eq (tgt := 116) hx hb dX3_number_109 (by decide) (fun h => absurd h (by decide)) (fun _ => ?_)
          refine lv_iconst (v := 2) hx hb dX3_number_112 (by decide) ?_
          refine lv_goto (tgt := 117) hx hb dX3_number_113 (by decide) ?_
          refine wt_goI (wr := [(bt, .inl (cI, 120, .inl bf))]) (wt_runV (As := [.int 2]) (rest := []) ⟨hx, hb, hml, hown, hts⟩ (c_X3_fail l D cI cZ cH tp ta s2 s3 2 (.ref bt) (.int (nI tl))) (cwV 1 hts gX3_number_X3_fail rfl rfl rfl (by decide +kernel) ⟨Nat.le_of_ble_eq_true rfl, Nat.le_of_ble_eq_true rfl⟩) hK hP hD [0] rfl (by decide) (va_recv hK.1 hP (ci := 3) (q0 := 0) rfl rfl) rfl hl.1 rfl (Nat.le_of_ble_eq_true rfl) dX3_number_117 ⟨Nat.le_of_ble_eq_true rfl, Nat.le_of_ble_eq_true rfl⟩) hP hD hS hA [0] [1] rfl rfl (by decide) (by decide) (fun r_9 w_10 H locs h_11 hP hD hS => ?_)
          obtain ⟨tp_f2_12, tp_f3_13, rfl, rfl⟩ := h_11
          have hP : va_P D vwCl [(bt, .inl (cI, 120, .inl bf)), (tp, .inr (3, [.ref bt, .int (nI tl), .int tp_f2_12, .int tp_f3_13, .int (nI ta)]))] H := hP
          have hD : va_D A [(bt, .inl (cI, 120, .inl bf)), (tp, .inr (3, [.ref bt, .int (nI tl), .int tp_f2_12, .int tp_f3_13, .int (nI ta)]))] := hD
          refine lv_pop hx hb dX3_number_120 rfl ?_
          refine lv_iconst (v := (-1)) hx hb dX3_number_121 (by decide) ?_
          have hP9 := hP.sub (ws' := [(tp, .inr (3, [.ref bt, .int (nI tl), .int tp_f2_12, .int tp_f3_13, .int (nI ta)])), (bt, .inl (cI, 120, .inl bf))]) [1, 0] rfl
          have hD9 := hD.sub (ws' := [(tp, .inr (3, [.ref bt, .int (nI tl), .int tp_f2_12, .int tp_f3_13, .int (nI ta)])), (bt, .inl (cI, 120, .inl bf))]) [1, 0] (by decide) rfl
          exact wt_iret hx hb hr hlocks hP9 hD9 hS ⟨ta, tp_f2_12, tp_f3_13, rfl, ⟨by omega, Or.inl rfl⟩⟩ dX3_number_122
        · skip
          obtain ⟨j_14, hj_14, hj_14b, rfl⟩ := wI_nat (a := lo) (b := hi) (by omega) (by omega) c_8
          refine lv_iload hx hb dX3_number_97 (lv_at hl 2 rfl) ?_
          have hP9 := hP.sub (ws' := [(tp, .inr (3, [.ref bt, .int (nI tl), .int s2, .int s3, .int (nI n_3)])), (bt, .inl (cI, 120, .inl bf))]) [0, 1] rfl
          have hD9 := hD.sub (ws' := [(tp, .inr (3, [.ref bt, .int (nI tl), .int s2, .int s3, .int (nI n_3)])), (bt, .inl (cI, 120, .inl bf))]) [0, 1] (by decide) rfl
          exact wt_iret hx hb hr hlocks hP9 hD9 hS ⟨n_3, s2, s3, rfl, ⟨by omega, Or.inr ⟨j_14, by omega, by omega, rfl⟩⟩⟩ dX3_number_99
      · skip
        have c_4 : ¬ (i_1 = 1) := fun h => c_4 ((nI_eq (a := i_1) (b := 1) (by omega) (by omega)).mpr h)
        refine lv_iload_n hx hb dX3_number_70 rfl (lv_at hl 2 rfl) ?_
        refine lv_iconst (v := 2) hx hb dX3_number_71 (by decide) ?_
        refine lv_icmp_ne (tgt := 79) hx hb dX3_number_72 (by decide) (fun c_15 => ?_) (fun c_15 => ?_)
        · skip
          have c_15 : ¬ (i_1 = 2) := fun h => c_15 ((nI_eq (a := i_1) (b := 2) (by omega) (by omega)).mpr h)
          refine lv_iconst (v := 0) hx hb dX3_number_79 (by decide) ?_
          refine lv_istore (lv' := [(6, .int 0), (5, .int (nI ta)), (4, .int y_2), (3, .int (nI i_1)), (0, .ref tp), (1, .int (nI lo)), (2, .int (nI hi))]) hx hb dX3_number_80 hl (by decide) rfl (fun ls hl => ?_)
          refine lv_iload hx hb dX3_number_82 (lv_at hl 0 rfl) ?_
          refine lv_if_eq (tgt := 100) hx hb dX3_number_84 (by decide) (fun _ => ?_) (fun h => absurd h (by decide))
          refine lv_aload_n hx hb dX3_number_100 rfl (lv_at hl 4 rfl) ?_
          refine lv_iload hx hb dX3_number_101 (lv_at hl 1 rfl) ?_
          refine va_put (D := D) (ci := 3) (v := .int (nI ta)) (ty := .int) (C := RX3) (T := TX3) (N := 5) hx hb hts hi3 tyX3 tyX3_ok nmX3 hown hK.1 hP hD hS 0 rfl rfl 4 (by decide) wf25 (fun _ h9 => h9) rfl (by decide +kernel) rfl rfl (Nat.le_of_ble_eq_true rfl) dX3_number_103 (fun H locs hP hD hS => ?_)
          have hP : va_P D vwCl [(tp, .inr (3, [.ref bt, .int (nI tl), .int s2, .int s3, .int (nI ta)])), (bt, .inl (cI, 120, .inl bf))] H := hP
          have hD : va_D A [(tp, .inr (3, [.ref bt, .int (nI tl), .int s2, .int s3, .int (nI ta)])), (bt, .inl (cI, 120, .inl bf))] := hD
          refine lv_aload_n hx hb dX3_number_106 rfl (lv_at hl 4 rfl) ?_
          refine lv_iload hx hb dX3_number_107 (lv_at hl 0 rfl) ?_
          refine lv_if_eq (tgt := 116) hx hb dX3_number_109 (by decide) (fun _ => ?_) (fun h => absurd h (by decide))
          refine lv_iconst (v := 1) hx hb dX3_number_116 (by decide) ?_
          refine wt_goI (wr := [(bt, .inl (cI, 120, .inl bf))]) (wt_runV (As := [.int 1]) (rest := []) ⟨hx, hb, hml, hown, hts⟩ (c_X3_fail l D cI cZ cH tp ta s2 s3 1 (.ref bt) (.int (nI tl))) (cwV 1 hts gX3_number_X3_fail rfl rfl rfl (by decide +kernel) ⟨Nat.le_of_ble_eq_true rfl, Nat.le_of_ble_eq_true rfl⟩) hK hP hD [0] rfl (by decide) (va_recv hK.1 hP (ci := 3) (q0 := 0) rfl rfl) rfl hl.1 rfl (Nat.le_of_ble_eq_true rfl) dX3_number_117 ⟨Nat.le_of_ble_eq_true rfl, Nat.le_of_ble_eq_true rfl⟩) hP hD hS hA [0] [1] rfl rfl (by decide) (by decide) (fun r_16 w_17 H locs h_18 hP hD hS => ?_)
          obtain ⟨tp_f2_19, tp_f3_20, rfl, rfl⟩ := h_18
          have hP : va_P D vwCl [(bt, .inl (cI, 120, .inl bf)), (tp, .inr (3, [.ref bt, .int (nI tl), .int tp_f2_19, .int tp_f3_20, .int (nI ta)]))] H := hP
          have hD : va_D A [(bt, .inl (cI, 120, .inl bf)), (tp, .inr (3, [.ref bt, .int (nI tl), .int tp_f2_19, .int tp_f3_20, .int (nI ta)]))] := hD
          refine lv_pop hx hb dX3_number_120 rfl ?_
          refine lv_iconst (v := (-1)) hx hb dX3_number_121 (by decide) ?_
          have hP9 := hP.sub (ws' := [(tp, .inr (3, [.ref bt, .int (nI tl), .int tp_f2_19, .int tp_f3_20, .int (nI ta)])), (bt, .inl (cI, 120, .inl bf))]) [1, 0] rfl
          have hD9 := hD.sub (ws' := [(tp, .inr (3, [.ref bt, .int (nI tl), .int tp_f2_19, .int tp_f3_20, .int (nI ta)])), (bt, .inl (cI, 120, .inl bf))]) [1, 0] (by decide) rfl
          exact wt_iret hx hb hr hlocks hP9 hD9 hS ⟨ta, tp_f2_19, tp_f3_20, rfl, ⟨by omega, Or.inl rfl⟩⟩ dX3_number_122
        · skip
          have c_15 : i_1 = 2 := (nI_eq (a := i_1) (b := 2) (by omega) (by omega)).mp c_15
          refine lv_iconst (v := 1) hx hb dX3_number_75 (by decide) ?_
          refine lv_goto (tgt := 80) hx hb dX3_number_76 (by decide) ?_
          refine lv_istore (lv' := [(6, .int 1), (5, .int (nI ta)), (4, .int y_2), (3, .int (nI i_1)), (0, .ref tp), (1, .int (nI lo)), (2, .int (nI hi))]) hx hb dX3_number_80 hl (by decide) rfl (fun ls hl => ?_)
          refine lv_iload hx hb dX3_number_82 (lv_at hl 0 rfl) ?_
          refine lv_if_eq (tgt := 100) hx hb dX3_number_84 (by decide) (fun h => absurd h (by decide)) (fun _ => ?_)
          refine lv_iload hx hb dX3_number_87 (lv_at hl 2 rfl) ?_
          refine lv_iload_n hx hb dX3_number_89 rfl (lv_at hl 5 rfl) ?_
          refine lv_iload_n hx hb dX3_number_90 rfl (lv_at hl 6 rfl) ?_
          refine wt_goI (wr := [(tp, .inr (3, [.ref bt, .int (nI tl), .int s2, .int s3, .int (nI n_3)])), (bt, .inl (cI, 120, .inl bf))]) (wt_runSN (As := [.int y_2, .int (nI lo), .int (nI hi)]) (rest := []) ⟨hx, hb, hml, hown, hts⟩ (c_X5_within_m l D cI cZ cH y_2 (nI lo) (nI hi)) ⟨va_cnB 3 hts gX3_number_X5_within_n102 rfl rfl rfl hK.2.2.2.2.2.2.2 wz5 (by decide +kernel) ⟨Nat.le_of_ble_eq_true rfl, Nat.le_of_ble_eq_true rfl⟩, wstX5_within, trivial⟩ hK hP hD [] rfl (by decide) rfl hl.1 rfl (Nat.le_of_ble_eq_true rfl) dX3_number_91 ⟨Nat.le_of_ble_eq_true rfl, Nat.le_of_ble_eq_true rfl⟩) hP hD hS hA [] [0, 1] rfl rfl (by decide) (by decide) (fun r_21 w_22 H locs h_23 hP hD hS => ?_)
          obtain ⟨rfl, rfl⟩ := h_23
          have hP : va_P D vwCl [(tp, .inr (3, [.ref bt, .int (nI tl), .int s2, .int s3, .int (nI n_3)])), (bt, .inl (cI, 120, .inl bf))] H := hP
          have hD : va_D A [(tp, .inr (3, [.ref bt, .int (nI tl), .int s2, .int s3, .int (nI n_3)])), (bt, .inl (cI, 120, .inl bf))] := hD
          refine lv_if_eq (tgt := 100) hx hb dX3_number_94 (by decide) (fun c_24 => ?_) (fun c_24 => ?_)
          · skip
            refine lv_aload_n hx hb dX3_number_100 rfl (lv_at hl 4 rfl) ?_
            refine lv_iload hx hb dX3_number_101 (lv_at hl 1 rfl) ?_
            refine va_put (D := D) (ci := 3) (v := .int (nI ta)) (ty := .int) (C := RX3) (T := TX3) (N := 5) hx hb hts hi3 tyX3 tyX3_ok nmX3 hown hK.1 hP hD hS 0 rfl rfl 4 (by decide) wf25 (fun _ h9 => h9) rfl (by decide +kernel) rfl rfl (Nat.le_of_ble_eq_true rfl) dX3_number_103 (fun H locs hP hD hS => ?_)
            have hP : va_P D vwCl [(tp, .inr (3, [.ref bt, .int (nI tl), .int s2, .int s3, .int (nI ta)])), (bt, .inl (cI, 120, .inl bf))] H := hP
            have hD : va_D A [(tp, .inr (3, [.ref bt, .int (nI tl), .int s2, .int s3, .int (nI ta)])), (bt, .inl (cI, 120, .inl bf))] := hD
            refine lv_aload_n hx hb dX3_number_106 rfl (lv_at hl 4 rfl) ?_
            refine lv_iload hx hb dX3_number_107 (lv_at hl 0 rfl) ?_
            refine lv_if_eq (tgt := 116) hx hb dX3_number_109 (by decide) (fun h => absurd h (by decide)) (fun _ => ?_)
            refine lv_iconst (v := 2) hx hb dX3_number_112 (by decide) ?_
            refine lv_goto (tgt := 117) hx hb dX3_number_113 (by decide) ?_
            refine wt_goI (wr := [(bt, .inl (cI, 120, .inl bf))]) (wt_runV (As := [.int 2]) (rest := []) ⟨hx, hb, hml, hown, hts⟩ (c_X3_fail l D cI cZ cH tp ta s2 s3 2 (.ref bt) (.int (nI tl))) (cwV 1 hts gX3_number_X3_fail rfl rfl rfl (by decide +kernel) ⟨Nat.le_of_ble_eq_true rfl, Nat.le_of_ble_eq_true rfl⟩) hK hP hD [0] rfl (by decide) (va_recv hK.1 hP (ci := 3) (q0 := 0) rfl rfl) rfl hl.1 rfl (Nat.le_of_ble_eq_true rfl) dX3_number_117 ⟨Nat.le_of_ble_eq_true rfl, Nat.le_of_ble_eq_true rfl⟩) hP hD hS hA [0] [1] rfl rfl (by decide) (by decide) (fun r_25 w_26 H locs h_27 hP hD hS => ?_)
            obtain ⟨tp_f2_28, tp_f3_29, rfl, rfl⟩ := h_27
            have hP : va_P D vwCl [(bt, .inl (cI, 120, .inl bf)), (tp, .inr (3, [.ref bt, .int (nI tl), .int tp_f2_28, .int tp_f3_29, .int (nI ta)]))] H := hP
            have hD : va_D A [(bt, .inl (cI, 120, .inl bf)), (tp, .inr (3, [.ref bt, .int (nI tl), .int tp_f2_28, .int tp_f3_29, .int (nI ta)]))] := hD
            refine lv_pop hx hb dX3_number_120 rfl ?_
            refine lv_iconst (v := (-1)) hx hb dX3_number_121 (by decide) ?_
            have hP9 := hP.sub (ws' := [(tp, .inr (3, [.ref bt, .int (nI tl), .int tp_f2_28, .int tp_f3_29, .int (nI ta)])), (bt, .inl (cI, 120, .inl bf))]) [1, 0] rfl
            have hD9 := hD.sub (ws' := [(tp, .inr (3, [.ref bt, .int (nI tl), .int tp_f2_28, .int tp_f3_29, .int (nI ta)])), (bt, .inl (cI, 120, .inl bf))]) [1, 0] (by decide) rfl
            exact wt_iret hx hb hr hlocks hP9 hD9 hS ⟨ta, tp_f2_28, tp_f3_29, rfl, ⟨by omega, Or.inl rfl⟩⟩ dX3_number_122
          · skip
            obtain ⟨j_30, hj_30, hj_30b, rfl⟩ := wI_nat (a := lo) (b := hi) (by omega) (by omega) c_24
            refine lv_iload hx hb dX3_number_97 (lv_at hl 2 rfl) ?_
            have hP9 := hP.sub (ws' := [(tp, .inr (3, [.ref bt, .int (nI tl), .int s2, .int s3, .int (nI n_3)])), (bt, .inl (cI, 120, .inl bf))]) [0, 1] rfl
            have hD9 := hD.sub (ws' := [(tp, .inr (3, [.ref bt, .int (nI tl), .int s2, .int s3, .int (nI n_3)])), (bt, .inl (cI, 120, .inl bf))]) [0, 1] (by decide) rfl
            exact wt_iret hx hb hr hlocks hP9 hD9 hS ⟨n_3, s2, s3, rfl, ⟨by omega, Or.inr ⟨j_30, by omega, by omega, rfl⟩⟩⟩ dX3_number_99
    | succ k ih11 =>
      intro i_1 y_2 n_3 H locs ls hik hta hP hD hS hl
      refine lv_iload_n hx hb dX3_number_11 rfl (lv_at hl 2 rfl) ?_
      refine lv_iconst (v := 3) hx hb dX3_number_12 (by decide) ?_
      refine lv_icmp_ge (tgt := 65) hx hb dX3_number_13 (by decide) (fun h => absurd h (nI_ge (a := i_1) (b := 3) (by omega) (by omega))) (fun _ => ?_)
      refine lv_aload_n hx hb dX3_number_16 rfl (lv_at hl 3 rfl) ?_
      refine wt_rV (As := []) (rest := []) ⟨hx, hb, hml, hown, hts⟩ (c_X3_peek l D cI cZ cH tp bt tl n_3 bf s2 s3 (by first | assumption | omega) (by first | assumption | omega)) (cwV 0 hts gX3_number_X3_peek rfl rfl rfl (by decide +kernel) ⟨Nat.le_of_ble_eq_true rfl, Nat.le_of_ble_eq_true rfl⟩) hK hP [0, 1] rfl (va_recv hK.1 hP (ci := 3) (q0 := 0) rfl rfl) rfl hl.1 rfl (Nat.le_of_ble_eq_true rfl) dX3_number_17 ⟨Nat.le_of_ble_eq_true rfl, Nat.le_of_ble_eq_true rfl⟩ (fun r_31 e_32 => ?_)
      refine lv_bipush (v := 48) hx hb dX3_number_20 (by decide) ?_
      refine lv_icmp_lt (tgt := 65) hx hb dX3_number_22 (by decide) (fun c_33 => ?_) (fun c_33 => ?_)
      · skip
        refine lv_iload_n hx hb dX3_number_65 rfl (lv_at hl 2 rfl) ?_
        refine lv_iconst (v := 1) hx hb dX3_number_66 (by decide) ?_
        refine lv_icmp_eq (tgt := 75) hx hb dX3_number_67 (by decide) (fun c_34 => ?_) (fun c_34 => ?_)
        · skip
          have c_34 : i_1 = 1 := (nI_eq (a := i_1) (b := 1) (by omega) (by omega)).mp c_34
          refine lv_iconst (v := 1) hx hb dX3_number_75 (by decide) ?_
          refine lv_goto (tgt := 80) hx hb dX3_number_76 (by decide) ?_
          refine lv_istore (lv' := [(6, .int 1), (5, .int (nI ta)), (4, .int y_2), (3, .int (nI i_1)), (0, .ref tp), (1, .int (nI lo)), (2, .int (nI hi))]) hx hb dX3_number_80 hl (by decide) rfl (fun ls hl => ?_)
          refine lv_iload hx hb dX3_number_82 (lv_at hl 0 rfl) ?_
          refine lv_if_eq (tgt := 100) hx hb dX3_number_84 (by decide) (fun h => absurd h (by decide)) (fun _ => ?_)
          refine lv_iload hx hb dX3_number_87 (lv_at hl 2 rfl) ?_
          refine lv_iload_n hx hb dX3_number_89 rfl (lv_at hl 5 rfl) ?_
          refine lv_iload_n hx hb dX3_number_90 rfl (lv_at hl 6 rfl) ?_
          refine wt_goI (wr := [(tp, .inr (3, [.ref bt, .int (nI tl), .int s2, .int s3, .int (nI n_3)])), (bt, .inl (cI, 120, .inl bf))]) (wt_runSN (As := [.int y_2, .int (nI lo), .int (nI hi)]) (rest := []) ⟨hx, hb, hml, hown, hts⟩ (c_X5_within_m l D cI cZ cH y_2 (nI lo) (nI hi)) ⟨va_cnB 3 hts gX3_number_X5_within_n102 rfl rfl rfl hK.2.2.2.2.2.2.2 wz5 (by decide +kernel) ⟨Nat.le_of_ble_eq_true rfl, Nat.le_of_ble_eq_true rfl⟩, wstX5_within, trivial⟩ hK hP hD [] rfl (by decide) rfl hl.1 rfl (Nat.le_of_ble_eq_true rfl) dX3_number_91 ⟨Nat.le_of_ble_eq_true rfl, Nat.le_of_ble_eq_true rfl⟩) hP hD hS hA [] [0, 1] rfl rfl (by decide) (by decide) (fun r_35 w_36 H locs h_37 hP hD hS => ?_)
          obtain ⟨rfl, rfl⟩ := h_37
          have hP : va_P D vwCl [(tp, .inr (3, [.ref bt, .int (nI tl), .int s2, .int s3, .int (nI n_3)])), (bt, .inl (cI, 120, .inl bf))] H := hP
          have hD : va_D A [(tp, .inr (3, [.ref bt, .int (nI tl), .int s2, .int s3, .int (nI n_3)])), (bt, .inl (cI, 120, .inl bf))] := hD
          refine lv_if_eq (tgt := 100) hx hb dX3_number_94 (by decide) (fun c_38 => ?_) (fun c_38 => ?_)
          · skip
            refine lv_aload_n hx hb dX3_number_100 rfl (lv_at hl 4 rfl) ?_
            refine lv_iload hx hb dX3_number_101 (lv_at hl 1 rfl) ?_
            refine va_put (D := D) (ci := 3) (v := .int (nI ta)) (ty := .int) (C := RX3) (T := TX3) (N := 5) hx hb hts hi3 tyX3 tyX3_ok nmX3 hown hK.1 hP hD hS 0 rfl rfl 4 (by decide) wf25 (fun _ h9 => h9) rfl (by decide +kernel) rfl rfl (Nat.le_of_ble_eq_true rfl) dX3_number_103 (fun H locs hP hD hS => ?_)
            have hP : va_P D vwCl [(tp, .inr (3, [.ref bt, .int (nI tl), .int s2, .int s3, .int (nI ta)])), (bt, .inl (cI, 120, .inl bf))] H := hP
            have hD : va_D A [(tp, .inr (3, [.ref bt, .int (nI tl), .int s2, .int s3, .int (nI ta)])), (bt, .inl (cI, 120, .inl bf))] := hD
            refine lv_aload_n hx hb dX3_number_106 rfl (lv_at hl 4 rfl) ?_
            refine lv_iload hx hb dX3_number_107 (lv_at hl 0 rfl) ?_
            refine lv_if_eq (tgt := 116) hx hb dX3_number_109 (by decide) (fun h => absurd h (by decide)) (fun _ => ?_)
            refine lv_iconst (v := 2) hx hb dX3_number_112 (by decide) ?_
            refine lv_goto (tgt := 117) hx hb dX3_number_113 (by decide) ?_
            refine wt_goI (wr := [(bt, .inl (cI, 120, .inl bf))]) (wt_runV (As := [.int 2]) (rest := []) ⟨hx, hb, hml, hown, hts⟩ (c_X3_fail l D cI cZ cH tp ta s2 s3 2 (.ref bt) (.int (nI tl))) (cwV 1 hts gX3_number_X3_fail rfl rfl rfl (by decide +kernel) ⟨Nat.le_of_ble_eq_true rfl, Nat.le_of_ble_eq_true rfl⟩) hK hP hD [0] rfl (by decide) (va_recv hK.1 hP (ci := 3) (q0 := 0) rfl rfl) rfl hl.1 rfl (Nat.le_of_ble_eq_true rfl) dX3_number_117 ⟨Nat.le_of_ble_eq_true rfl, Nat.le_of_ble_eq_true rfl⟩) hP hD hS hA [0] [1] rfl rfl (by decide) (by decide) (fun r_39 w_40 H locs h_41 hP hD hS => ?_)
            obtain ⟨tp_f2_42, tp_f3_43, rfl, rfl⟩ := h_41
            have hP : va_P D vwCl [(bt, .inl (cI, 120, .inl bf)), (tp, .inr (3, [.ref bt, .int (nI tl), .int tp_f2_42, .int tp_f3_43, .int (nI ta)]))] H := hP
            have hD : va_D A [(bt, .inl (cI, 120, .inl bf)), (tp, .inr (3, [.ref bt, .int (nI tl), .int tp_f2_42, .int tp_f3_43, .int (nI ta)]))] := hD
            refine lv_pop hx hb dX3_number_120 rfl ?_
            refine lv_iconst (v := (-1)) hx hb dX3_number_121 (by decide) ?_
            have hP9 := hP.sub (ws' := [(tp, .inr (3, [.ref bt, .int (nI tl), .int tp_f2_42, .int tp_f3_43, .int (nI ta)])), (bt, .inl (cI, 120, .inl bf))]) [1, 0] rfl
            have hD9 := hD.sub (ws' := [(tp, .inr (3, [.ref bt, .int (nI tl), .int tp_f2_42, .int tp_f3_43, .int (nI ta)])), (bt, .inl (cI, 120, .inl bf))]) [1, 0] (by decide) rfl
            exact wt_iret hx hb hr hlocks hP9 hD9 hS ⟨ta, tp_f2_42, tp_f3_43, rfl, ⟨by omega, Or.inl rfl⟩⟩ dX3_number_122
          · skip
            obtain ⟨j_44, hj_44, hj_44b, rfl⟩ := wI_nat (a := lo) (b := hi) (by omega) (by omega) c_38
            refine lv_iload hx hb dX3_number_97 (lv_at hl 2 rfl) ?_
            have hP9 := hP.sub (ws' := [(tp, .inr (3, [.ref bt, .int (nI tl), .int s2, .int s3, .int (nI n_3)])), (bt, .inl (cI, 120, .inl bf))]) [0, 1] rfl
            have hD9 := hD.sub (ws' := [(tp, .inr (3, [.ref bt, .int (nI tl), .int s2, .int s3, .int (nI n_3)])), (bt, .inl (cI, 120, .inl bf))]) [0, 1] (by decide) rfl
            exact wt_iret hx hb hr hlocks hP9 hD9 hS ⟨n_3, s2, s3, rfl, ⟨by omega, Or.inr ⟨j_44, by omega, by omega, rfl⟩⟩⟩ dX3_number_99
        · skip
          have c_34 : ¬ (i_1 = 1) := fun h => c_34 ((nI_eq (a := i_1) (b := 1) (by omega) (by omega)).mpr h)
          refine lv_iload_n hx hb dX3_number_70 rfl (lv_at hl 2 rfl) ?_
          refine lv_iconst (v := 2) hx hb dX3_number_71 (by decide) ?_
          refine lv_icmp_ne (tgt := 79) hx hb dX3_number_72 (by decide) (fun c_45 => ?_) (fun c_45 => ?_)
          · skip
            have c_45 : ¬ (i_1 = 2) := fun h => c_45 ((nI_eq (a := i_1) (b := 2) (by omega) (by omega)).mpr h)
            refine lv_iconst (v := 0) hx hb dX3_number_79 (by decide) ?_
            refine lv_istore (lv' := [(6, .int 0), (5, .int (nI ta)), (4, .int y_2), (3, .int (nI i_1)), (0, .ref tp), (1, .int (nI lo)), (2, .int (nI hi))]) hx hb dX3_number_80 hl (by decide) rfl (fun ls hl => ?_)
            refine lv_iload hx hb dX3_number_82 (lv_at hl 0 rfl) ?_
            refine lv_if_eq (tgt := 100) hx hb dX3_number_84 (by decide) (fun _ => ?_) (fun h => absurd h (by decide))
            refine lv_aload_n hx hb dX3_number_100 rfl (lv_at hl 4 rfl) ?_
            refine lv_iload hx hb dX3_number_101 (lv_at hl 1 rfl) ?_
            refine va_put (D := D) (ci := 3) (v := .int (nI ta)) (ty := .int) (C := RX3) (T := TX3) (N := 5) hx hb hts hi3 tyX3 tyX3_ok nmX3 hown hK.1 hP hD hS 0 rfl rfl 4 (by decide) wf25 (fun _ h9 => h9) rfl (by decide +kernel) rfl rfl (Nat.le_of_ble_eq_true rfl) dX3_number_103 (fun H locs hP hD hS => ?_)
            have hP : va_P D vwCl [(tp, .inr (3, [.ref bt, .int (nI tl), .int s2, .int s3, .int (nI ta)])), (bt, .inl (cI, 120, .inl bf))] H := hP
            have hD : va_D A [(tp, .inr (3, [.ref bt, .int (nI tl), .int s2, .int s3, .int (nI ta)])), (bt, .inl (cI, 120, .inl bf))] := hD
            refine lv_aload_n hx hb dX3_number_106 rfl (lv_at hl 4 rfl) ?_
            refine lv_iload hx hb dX3_number_107 (lv_at hl 0 rfl) ?_
            refine lv_if_eq (tgt := 116) hx hb dX3_number_109 (by decide) (fun _ => ?_) (fun h => absurd h (by decide))
            refine lv_iconst (v := 1) hx hb dX3_number_116 (by decide) ?_
            refine wt_goI (wr := [(bt, .inl (cI, 120, .inl bf))]) (wt_runV (As := [.int 1]) (rest := []) ⟨hx, hb, hml, hown, hts⟩ (c_X3_fail l D cI cZ cH tp ta s2 s3 1 (.ref bt) (.int (nI tl))) (cwV 1 hts gX3_number_X3_fail rfl rfl rfl (by decide +kernel) ⟨Nat.le_of_ble_eq_true rfl, Nat.le_of_ble_eq_true rfl⟩) hK hP hD [0] rfl (by decide) (va_recv hK.1 hP (ci := 3) (q0 := 0) rfl rfl) rfl hl.1 rfl (Nat.le_of_ble_eq_true rfl) dX3_number_117 ⟨Nat.le_of_ble_eq_true rfl, Nat.le_of_ble_eq_true rfl⟩) hP hD hS hA [0] [1] rfl rfl (by decide) (by decide) (fun r_46 w_47 H locs h_48 hP hD hS => ?_)
            obtain ⟨tp_f2_49, tp_f3_50, rfl, rfl⟩ := h_48
            have hP : va_P D vwCl [(bt, .inl (cI, 120, .inl bf)), (tp, .inr (3, [.ref bt, .int (nI tl), .int tp_f2_49, .int tp_f3_50, .int (nI ta)]))] H := hP
            have hD : va_D A [(bt, .inl (cI, 120, .inl bf)), (tp, .inr (3, [.ref bt, .int (nI tl), .int tp_f2_49, .int tp_f3_50, .int (nI ta)]))] := hD
            refine lv_pop hx hb dX3_number_120 rfl ?_
            refine lv_iconst (v := (-1)) hx hb dX3_number_121 (by decide) ?_
            have hP9 := hP.sub (ws' := [(tp, .inr (3, [.ref bt, .int (nI tl), .int tp_f2_49, .int tp_f3_50, .int (nI ta)])), (bt, .inl (cI, 120, .inl bf))]) [1, 0] rfl
            have hD9 := hD.sub (ws' := [(tp, .inr (3, [.ref bt, .int (nI tl), .int tp_f2_49, .int tp_f3_50, .int (nI ta)])), (bt, .inl (cI, 120, .inl bf))]) [1, 0] (by decide) rfl
            exact wt_iret hx hb hr hlocks hP9 hD9 hS ⟨ta, tp_f2_49, tp_f3_50, rfl, ⟨by omega, Or.inl rfl⟩⟩ dX3_number_122
          · skip
            have c_45 : i_1 = 2 := (nI_eq (a := i_1) (b := 2) (by omega) (by omega)).mp c_45
            refine lv_iconst (v := 1) hx hb dX3_number_75 (by decide) ?_
            refine lv_goto (tgt := 80) hx hb dX3_number_76 (by decide) ?_
            refine lv_istore (lv' := [(6, .int 1), (5, .int (nI ta)), (4, .int y_2), (3, .int (nI i_1)), (0, .ref tp), (1, .int (nI lo)), (2, .int (nI hi))]) hx hb dX3_number_80 hl (by decide) rfl (fun ls hl => ?_)
            refine lv_iload hx hb dX3_number_82 (lv_at hl 0 rfl) ?_
            refine lv_if_eq (tgt := 100) hx hb dX3_number_84 (by decide) (fun h => absurd h (by decide)) (fun _ => ?_)
            refine lv_iload hx hb dX3_number_87 (lv_at hl 2 rfl) ?_
            refine lv_iload_n hx hb dX3_number_89 rfl (lv_at hl 5 rfl) ?_
            refine lv_iload_n hx hb dX3_number_90 rfl (lv_at hl 6 rfl) ?_
            refine wt_goI (wr := [(tp, .inr (3, [.ref bt, .int (nI tl), .int s2, .int s3, .int (nI n_3)])), (bt, .inl (cI, 120, .inl bf))]) (wt_runSN (As := [.int y_2, .int (nI lo), .int (nI hi)]) (rest := []) ⟨hx, hb, hml, hown, hts⟩ (c_X5_within_m l D cI cZ cH y_2 (nI lo) (nI hi)) ⟨va_cnB 3 hts gX3_number_X5_within_n102 rfl rfl rfl hK.2.2.2.2.2.2.2 wz5 (by decide +kernel) ⟨Nat.le_of_ble_eq_true rfl, Nat.le_of_ble_eq_true rfl⟩, wstX5_within, trivial⟩ hK hP hD [] rfl (by decide) rfl hl.1 rfl (Nat.le_of_ble_eq_true rfl) dX3_number_91 ⟨Nat.le_of_ble_eq_true rfl, Nat.le_of_ble_eq_true rfl⟩) hP hD hS hA [] [0, 1] rfl rfl (by decide) (by decide) (fun r_51 w_52 H locs h_53 hP hD hS => ?_)
            obtain ⟨rfl, rfl⟩ := h_53
            have hP : va_P D vwCl [(tp, .inr (3, [.ref bt, .int (nI tl), .int s2, .int s3, .int (nI n_3)])), (bt, .inl (cI, 120, .inl bf))] H := hP
            have hD : va_D A [(tp, .inr (3, [.ref bt, .int (nI tl), .int s2, .int s3, .int (nI n_3)])), (bt, .inl (cI, 120, .inl bf))] := hD
            refine lv_if_eq (tgt := 100) hx hb dX3_number_94 (by decide) (fun c_54 => ?_) (fun c_54 => ?_)
            · skip
              refine lv_aload_n hx hb dX3_number_100 rfl (lv_at hl 4 rfl) ?_
              refine lv_iload hx hb dX3_number_101 (lv_at hl 1 rfl) ?_
              refine va_put (D := D) (ci := 3) (v := .int (nI ta)) (ty := .int) (C := RX3) (T := TX3) (N := 5) hx hb hts hi3 tyX3 tyX3_ok nmX3 hown hK.1 hP hD hS 0 rfl rfl 4 (by decide) wf25 (fun _ h9 => h9) rfl (by decide +kernel) rfl rfl (Nat.le_of_ble_eq_true rfl) dX3_number_103 (fun H locs hP hD hS => ?_)
              have hP : va_P D vwCl [(tp, .inr (3, [.ref bt, .int (nI tl), .int s2, .int s3, .int (nI ta)])), (bt, .inl (cI, 120, .inl bf))] H := hP
              have hD : va_D A [(tp, .inr (3, [.ref bt, .int (nI tl), .int s2, .int s3, .int (nI ta)])), (bt, .inl (cI, 120, .inl bf))] := hD
              refine lv_aload_n hx hb dX3_number_106 rfl (lv_at hl 4 rfl) ?_
              refine lv_iload hx hb dX3_number_107 (lv_at hl 0 rfl) ?_
              refine lv_if_eq (tgt := 116) hx hb dX3_number_109 (by decide) (fun h => absurd h (by decide)) (fun _ => ?_)
              refine lv_iconst (v := 2) hx hb dX3_number_112 (by decide) ?_
              refine lv_goto (tgt := 117) hx hb dX3_number_113 (by decide) ?_
              refine wt_goI (wr := [(bt, .inl (cI, 120, .inl bf))]) (wt_runV (As := [.int 2]) (rest := []) ⟨hx, hb, hml, hown, hts⟩ (c_X3_fail l D cI cZ cH tp ta s2 s3 2 (.ref bt) (.int (nI tl))) (cwV 1 hts gX3_number_X3_fail rfl rfl rfl (by decide +kernel) ⟨Nat.le_of_ble_eq_true rfl, Nat.le_of_ble_eq_true rfl⟩) hK hP hD [0] rfl (by decide) (va_recv hK.1 hP (ci := 3) (q0 := 0) rfl rfl) rfl hl.1 rfl (Nat.le_of_ble_eq_true rfl) dX3_number_117 ⟨Nat.le_of_ble_eq_true rfl, Nat.le_of_ble_eq_true rfl⟩) hP hD hS hA [0] [1] rfl rfl (by decide) (by decide) (fun r_55 w_56 H locs h_57 hP hD hS => ?_)
              obtain ⟨tp_f2_58, tp_f3_59, rfl, rfl⟩ := h_57
              have hP : va_P D vwCl [(bt, .inl (cI, 120, .inl bf)), (tp, .inr (3, [.ref bt, .int (nI tl), .int tp_f2_58, .int tp_f3_59, .int (nI ta)]))] H := hP
              have hD : va_D A [(bt, .inl (cI, 120, .inl bf)), (tp, .inr (3, [.ref bt, .int (nI tl), .int tp_f2_58, .int tp_f3_59, .int (nI ta)]))] := hD
              refine lv_pop hx hb dX3_number_120 rfl ?_
              refine lv_iconst (v := (-1)) hx hb dX3_number_121 (by decide) ?_
              have hP9 := hP.sub (ws' := [(tp, .inr (3, [.ref bt, .int (nI tl), .int tp_f2_58, .int tp_f3_59, .int (nI ta)])), (bt, .inl (cI, 120, .inl bf))]) [1, 0] rfl
              have hD9 := hD.sub (ws' := [(tp, .inr (3, [.ref bt, .int (nI tl), .int tp_f2_58, .int tp_f3_59, .int (nI ta)])), (bt, .inl (cI, 120, .inl bf))]) [1, 0] (by decide) rfl
              exact wt_iret hx hb hr hlocks hP9 hD9 hS ⟨ta, tp_f2_58, tp_f3_59, rfl, ⟨by omega, Or.inl rfl⟩⟩ dX3_number_122
            · skip
              obtain ⟨j_60, hj_60, hj_60b, rfl⟩ := wI_nat (a := lo) (b := hi) (by omega) (by omega) c_54
              refine lv_iload hx hb dX3_number_97 (lv_at hl 2 rfl) ?_
              have hP9 := hP.sub (ws' := [(tp, .inr (3, [.ref bt, .int (nI tl), .int s2, .int s3, .int (nI n_3)])), (bt, .inl (cI, 120, .inl bf))]) [0, 1] rfl
              have hD9 := hD.sub (ws' := [(tp, .inr (3, [.ref bt, .int (nI tl), .int s2, .int s3, .int (nI n_3)])), (bt, .inl (cI, 120, .inl bf))]) [0, 1] (by decide) rfl
              exact wt_iret hx hb hr hlocks hP9 hD9 hS ⟨n_3, s2, s3, rfl, ⟨by omega, Or.inr ⟨j_60, by omega, by omega, rfl⟩⟩⟩ dX3_number_99
      · skip
        refine lv_aload_n hx hb dX3_number_25 rfl (lv_at hl 3 rfl) ?_
        refine wt_rV (As := []) (rest := []) ⟨hx, hb, hml, hown, hts⟩ (c_X3_peek l D cI cZ cH tp bt tl n_3 bf s2 s3 (by first | assumption | omega) (by first | assumption | omega)) (cwV 0 hts gX3_number_X3_peek rfl rfl rfl (by decide +kernel) ⟨Nat.le_of_ble_eq_true rfl, Nat.le_of_ble_eq_true rfl⟩) hK hP [0, 1] rfl (va_recv hK.1 hP (ci := 3) (q0 := 0) rfl rfl) rfl hl.1 rfl (Nat.le_of_ble_eq_true rfl) dX3_number_26 ⟨Nat.le_of_ble_eq_true rfl, Nat.le_of_ble_eq_true rfl⟩ (fun r_61 e_62 => ?_)
        refine lv_bipush (v := 57) hx hb dX3_number_29 (by decide) ?_
        refine lv_icmp_gt (tgt := 65) hx hb dX3_number_31 (by decide) (fun c_63 => ?_) (fun c_63 => ?_)
        · skip
          refine lv_iload_n hx hb dX3_number_65 rfl (lv_at hl 2 rfl) ?_
          refine lv_iconst (v := 1) hx hb dX3_number_66 (by decide) ?_
          refine lv_icmp_eq (tgt := 75) hx hb dX3_number_67 (by decide) (fun c_64 => ?_) (fun c_64 => ?_)
          · skip
            have c_64 : i_1 = 1 := (nI_eq (a := i_1) (b := 1) (by omega) (by omega)).mp c_64
            refine lv_iconst (v := 1) hx hb dX3_number_75 (by decide) ?_
            refine lv_goto (tgt := 80) hx hb dX3_number_76 (by decide) ?_
            refine lv_istore (lv' := [(6, .int 1), (5, .int (nI ta)), (4, .int y_2), (3, .int (nI i_1)), (0, .ref tp), (1, .int (nI lo)), (2, .int (nI hi))]) hx hb dX3_number_80 hl (by decide) rfl (fun ls hl => ?_)
            refine lv_iload hx hb dX3_number_82 (lv_at hl 0 rfl) ?_
            refine lv_if_eq (tgt := 100) hx hb dX3_number_84 (by decide) (fun h => absurd h (by decide)) (fun _ => ?_)
            refine lv_iload hx hb dX3_number_87 (lv_at hl 2 rfl) ?_
            refine lv_iload_n hx hb dX3_number_89 rfl (lv_at hl 5 rfl) ?_
            refine lv_iload_n hx hb dX3_number_90 rfl (lv_at hl 6 rfl) ?_
            refine wt_goI (wr := [(tp, .inr (3, [.ref bt, .int (nI tl), .int s2, .int s3, .int (nI n_3)])), (bt, .inl (cI, 120, .inl bf))]) (wt_runSN (As := [.int y_2, .int (nI lo), .int (nI hi)]) (rest := []) ⟨hx, hb, hml, hown, hts⟩ (c_X5_within_m l D cI cZ cH y_2 (nI lo) (nI hi)) ⟨va_cnB 3 hts gX3_number_X5_within_n102 rfl rfl rfl hK.2.2.2.2.2.2.2 wz5 (by decide +kernel) ⟨Nat.le_of_ble_eq_true rfl, Nat.le_of_ble_eq_true rfl⟩, wstX5_within, trivial⟩ hK hP hD [] rfl (by decide) rfl hl.1 rfl (Nat.le_of_ble_eq_true rfl) dX3_number_91 ⟨Nat.le_of_ble_eq_true rfl, Nat.le_of_ble_eq_true rfl⟩) hP hD hS hA [] [0, 1] rfl rfl (by decide) (by decide) (fun r_65 w_66 H locs h_67 hP hD hS => ?_)
            obtain ⟨rfl, rfl⟩ := h_67
            have hP : va_P D vwCl [(tp, .inr (3, [.ref bt, .int (nI tl), .int s2, .int s3, .int (nI n_3)])), (bt, .inl (cI, 120, .inl bf))] H := hP
            have hD : va_D A [(tp, .inr (3, [.ref bt, .int (nI tl), .int s2, .int s3, .int (nI n_3)])), (bt, .inl (cI, 120, .inl bf))] := hD
            refine lv_if_eq (tgt := 100) hx hb dX3_number_94 (by decide) (fun c_68 => ?_) (fun c_68 => ?_)
            · skip
              refine lv_aload_n hx hb dX3_number_100 rfl (lv_at hl 4 rfl) ?_
              refine lv_iload hx hb dX3_number_101 (lv_at hl 1 rfl) ?_
              refine va_put (D := D) (ci := 3) (v := .int (nI ta)) (ty := .int) (C := RX3) (T := TX3) (N := 5) hx hb hts hi3 tyX3 tyX3_ok nmX3 hown hK.1 hP hD hS 0 rfl rfl 4 (by decide) wf25 (fun _ h9 => h9) rfl (by decide +kernel) rfl rfl (Nat.le_of_ble_eq_true rfl) dX3_number_103 (fun H locs hP hD hS => ?_)
              have hP : va_P D vwCl [(tp, .inr (3, [.ref bt, .int (nI tl), .int s2, .int s3, .int (nI ta)])), (bt, .inl (cI, 120, .inl bf))] H := hP
              have hD : va_D A [(tp, .inr (3, [.ref bt, .int (nI tl), .int s2, .int s3, .int (nI ta)])), (bt, .inl (cI, 120, .inl bf))] := hD
              refine lv_aload_n hx hb dX3_number_106 rfl (lv_at hl 4 rfl) ?_
              refine lv_iload hx hb dX3_number_107 (lv_at hl 0 rfl) ?_
              refine lv_if_eq (tgt := 116) hx hb dX3_number_109 (by decide) (fun h => absurd h (by decide)) (fun _ => ?_)
              refine lv_iconst (v := 2) hx hb dX3_number_112 (by decide) ?_
              refine lv_goto (tgt := 117) hx hb dX3_number_113 (by decide) ?_
              refine wt_goI (wr := [(bt, .inl (cI, 120, .inl bf))]) (wt_runV (As := [.int 2]) (rest := []) ⟨hx, hb, hml, hown, hts⟩ (c_X3_fail l D cI cZ cH tp ta s2 s3 2 (.ref bt) (.int (nI tl))) (cwV 1 hts gX3_number_X3_fail rfl rfl rfl (by decide +kernel) ⟨Nat.le_of_ble_eq_true rfl, Nat.le_of_ble_eq_true rfl⟩) hK hP hD [0] rfl (by decide) (va_recv hK.1 hP (ci := 3) (q0 := 0) rfl rfl) rfl hl.1 rfl (Nat.le_of_ble_eq_true rfl) dX3_number_117 ⟨Nat.le_of_ble_eq_true rfl, Nat.le_of_ble_eq_true rfl⟩) hP hD hS hA [0] [1] rfl rfl (by decide) (by decide) (fun r_69 w_70 H locs h_71 hP hD hS => ?_)
              obtain ⟨tp_f2_72, tp_f3_73, rfl, rfl⟩ := h_71
              have hP : va_P D vwCl [(bt, .inl (cI, 120, .inl bf)), (tp, .inr (3, [.ref bt, .int (nI tl), .int tp_f2_72, .int tp_f3_73, .int (nI ta)]))] H := hP
              have hD : va_D A [(bt, .inl (cI, 120, .inl bf)), (tp, .inr (3, [.ref bt, .int (nI tl), .int tp_f2_72, .int tp_f3_73, .int (nI ta)]))] := hD
              refine lv_pop hx hb dX3_number_120 rfl ?_
              refine lv_iconst (v := (-1)) hx hb dX3_number_121 (by decide) ?_
              have hP9 := hP.sub (ws' := [(tp, .inr (3, [.ref bt, .int (nI tl), .int tp_f2_72, .int tp_f3_73, .int (nI ta)])), (bt, .inl (cI, 120, .inl bf))]) [1, 0] rfl
              have hD9 := hD.sub (ws' := [(tp, .inr (3, [.ref bt, .int (nI tl), .int tp_f2_72, .int tp_f3_73, .int (nI ta)])), (bt, .inl (cI, 120, .inl bf))]) [1, 0] (by decide) rfl
              exact wt_iret hx hb hr hlocks hP9 hD9 hS ⟨ta, tp_f2_72, tp_f3_73, rfl, ⟨by omega, Or.inl rfl⟩⟩ dX3_number_122
            · skip
              obtain ⟨j_74, hj_74, hj_74b, rfl⟩ := wI_nat (a := lo) (b := hi) (by omega) (by omega) c_68
              refine lv_iload hx hb dX3_number_97 (lv_at hl 2 rfl) ?_
              have hP9 := hP.sub (ws' := [(tp, .inr (3, [.ref bt, .int (nI tl), .int s2, .int s3, .int (nI n_3)])), (bt, .inl (cI, 120, .inl bf))]) [0, 1] rfl
              have hD9 := hD.sub (ws' := [(tp, .inr (3, [.ref bt, .int (nI tl), .int s2, .int s3, .int (nI n_3)])), (bt, .inl (cI, 120, .inl bf))]) [0, 1] (by decide) rfl
              exact wt_iret hx hb hr hlocks hP9 hD9 hS ⟨n_3, s2, s3, rfl, ⟨by omega, Or.inr ⟨j_74, by omega, by omega, rfl⟩⟩⟩ dX3_number_99
          · skip
            have c_64 : ¬ (i_1 = 1) := fun h => c_64 ((nI_eq (a := i_1) (b := 1) (by omega) (by omega)).mpr h)
            refine lv_iload_n hx hb dX3_number_70 rfl (lv_at hl 2 rfl) ?_
            refine lv_iconst (v := 2) hx hb dX3_number_71 (by decide) ?_
            refine lv_icmp_ne (tgt := 79) hx hb dX3_number_72 (by decide) (fun c_75 => ?_) (fun c_75 => ?_)
            · skip
              have c_75 : ¬ (i_1 = 2) := fun h => c_75 ((nI_eq (a := i_1) (b := 2) (by omega) (by omega)).mpr h)
              refine lv_iconst (v := 0) hx hb dX3_number_79 (by decide) ?_
              refine lv_istore (lv' := [(6, .int 0), (5, .int (nI ta)), (4, .int y_2), (3, .int (nI i_1)), (0, .ref tp), (1, .int (nI lo)), (2, .int (nI hi))]) hx hb dX3_number_80 hl (by decide) rfl (fun ls hl => ?_)
              refine lv_iload hx hb dX3_number_82 (lv_at hl 0 rfl) ?_
              refine lv_if_eq (tgt := 100) hx hb dX3_number_84 (by decide) (fun _ => ?_) (fun h => absurd h (by decide))
              refine lv_aload_n hx hb dX3_number_100 rfl (lv_at hl 4 rfl) ?_
              refine lv_iload hx hb dX3_number_101 (lv_at hl 1 rfl) ?_
              refine va_put (D := D) (ci := 3) (v := .int (nI ta)) (ty := .int) (C := RX3) (T := TX3) (N := 5) hx hb hts hi3 tyX3 tyX3_ok nmX3 hown hK.1 hP hD hS 0 rfl rfl 4 (by decide) wf25 (fun _ h9 => h9) rfl (by decide +kernel) rfl rfl (Nat.le_of_ble_eq_true rfl) dX3_number_103 (fun H locs hP hD hS => ?_)
              have hP : va_P D vwCl [(tp, .inr (3, [.ref bt, .int (nI tl), .int s2, .int s3, .int (nI ta)])), (bt, .inl (cI, 120, .inl bf))] H := hP
              have hD : va_D A [(tp, .inr (3, [.ref bt, .int (nI tl), .int s2, .int s3, .int (nI ta)])), (bt, .inl (cI, 120, .inl bf))] := hD
              refine lv_aload_n hx hb dX3_number_106 rfl (lv_at hl 4 rfl) ?_
              refine lv_iload hx hb dX3_number_107 (lv_at hl 0 rfl) ?_
              refine lv_if_eq (tgt := 116) hx hb dX3_number_109 (by decide) (fun _ => ?_) (fun h => absurd h (by decide))
              refine lv_iconst (v := 1) hx hb dX3_number_116 (by decide) ?_
              refine wt_goI (wr := [(bt, .inl (cI, 120, .inl bf))]) (wt_runV (As := [.int 1]) (rest := []) ⟨hx, hb, hml, hown, hts⟩ (c_X3_fail l D cI cZ cH tp ta s2 s3 1 (.ref bt) (.int (nI tl))) (cwV 1 hts gX3_number_X3_fail rfl rfl rfl (by decide +kernel) ⟨Nat.le_of_ble_eq_true rfl, Nat.le_of_ble_eq_true rfl⟩) hK hP hD [0] rfl (by decide) (va_recv hK.1 hP (ci := 3) (q0 := 0) rfl rfl) rfl hl.1 rfl (Nat.le_of_ble_eq_true rfl) dX3_number_117 ⟨Nat.le_of_ble_eq_true rfl, Nat.le_of_ble_eq_true rfl⟩) hP hD hS hA [0] [1] rfl rfl (by decide) (by decide) (fun r_76 w_77 H locs h_78 hP hD hS => ?_)
              obtain ⟨tp_f2_79, tp_f3_80, rfl, rfl⟩ := h_78
              have hP : va_P D vwCl [(bt, .inl (cI, 120, .inl bf)), (tp, .inr (3, [.ref bt, .int (nI tl), .int tp_f2_79, .int tp_f3_80, .int (nI ta)]))] H := hP
              have hD : va_D A [(bt, .inl (cI, 120, .inl bf)), (tp, .inr (3, [.ref bt, .int (nI tl), .int tp_f2_79, .int tp_f3_80, .int (nI ta)]))] := hD
              refine lv_pop hx hb dX3_number_120 rfl ?_
              refine lv_iconst (v := (-1)) hx hb dX3_number_121 (by decide) ?_
              have hP9 := hP.sub (ws' := [(tp, .inr (3, [.ref bt, .int (nI tl), .int tp_f2_79, .int tp_f3_80, .int (nI ta)])), (bt, .inl (cI, 120, .inl bf))]) [1, 0] rfl
              have hD9 := hD.sub (ws' := [(tp, .inr (3, [.ref bt, .int (nI tl), .int tp_f2_79, .int tp_f3_80, .int (nI ta)])), (bt, .inl (cI, 120, .inl bf))]) [1, 0] (by decide) rfl
              exact wt_iret hx hb hr hlocks hP9 hD9 hS ⟨ta, tp_f2_79, tp_f3_80, rfl, ⟨by omega, Or.inl rfl⟩⟩ dX3_number_122
            · skip
              have c_75 : i_1 = 2 := (nI_eq (a := i_1) (b := 2) (by omega) (by omega)).mp c_75
              refine lv_iconst (v := 1) hx hb dX3_number_75 (by decide) ?_
              refine lv_goto (tgt := 80) hx hb dX3_number_76 (by decide) ?_
              refine lv_istore (lv' := [(6, .int 1), (5, .int (nI ta)), (4, .int y_2), (3, .int (nI i_1)), (0, .ref tp), (1, .int (nI lo)), (2, .int (nI hi))]) hx hb dX3_number_80 hl (by decide) rfl (fun ls hl => ?_)
              refine lv_iload hx hb dX3_number_82 (lv_at hl 0 rfl) ?_
              refine lv_if_eq (tgt := 100) hx hb dX3_number_84 (by decide) (fun h => absurd h (by decide)) (fun _ => ?_)
              refine lv_iload hx hb dX3_number_87 (lv_at hl 2 rfl) ?_
              refine lv_iload_n hx hb dX3_number_89 rfl (lv_at hl 5 rfl) ?_
              refine lv_iload_n hx hb dX3_number_90 rfl (lv_at hl 6 rfl) ?_
              refine wt_goI (wr := [(tp, .inr (3, [.ref bt, .int (nI tl), .int s2, .int s3, .int (nI n_3)])), (bt, .inl (cI, 120, .inl bf))]) (wt_runSN (As := [.int y_2, .int (nI lo), .int (nI hi)]) (rest := []) ⟨hx, hb, hml, hown, hts⟩ (c_X5_within_m l D cI cZ cH y_2 (nI lo) (nI hi)) ⟨va_cnB 3 hts gX3_number_X5_within_n102 rfl rfl rfl hK.2.2.2.2.2.2.2 wz5 (by decide +kernel) ⟨Nat.le_of_ble_eq_true rfl, Nat.le_of_ble_eq_true rfl⟩, wstX5_within, trivial⟩ hK hP hD [] rfl (by decide) rfl hl.1 rfl (Nat.le_of_ble_eq_true rfl) dX3_number_91 ⟨Nat.le_of_ble_eq_true rfl, Nat.le_of_ble_eq_true rfl⟩) hP hD hS hA [] [0, 1] rfl rfl (by decide) (by decide) (fun r_81 w_82 H locs h_83 hP hD hS => ?_)
              obtain ⟨rfl, rfl⟩ := h_83
              have hP : va_P D vwCl [(tp, .inr (3, [.ref bt, .int (nI tl), .int s2, .int s3, .int (nI n_3)])), (bt, .inl (cI, 120, .inl bf))] H := hP
              have hD : va_D A [(tp, .inr (3, [.ref bt, .int (nI tl), .int s2, .int s3, .int (nI n_3)])), (bt, .inl (cI, 120, .inl bf))] := hD
              refine lv_if_eq (tgt := 100) hx hb dX3_number_94 (by decide) (fun c_84 => ?_) (fun c_84 => ?_)
              · skip
                refine lv_aload_n hx hb dX3_number_100 rfl (lv_at hl 4 rfl) ?_
                refine lv_iload hx hb dX3_number_101 (lv_at hl 1 rfl) ?_
                refine va_put (D := D) (ci := 3) (v := .int (nI ta)) (ty := .int) (C := RX3) (T := TX3) (N := 5) hx hb hts hi3 tyX3 tyX3_ok nmX3 hown hK.1 hP hD hS 0 rfl rfl 4 (by decide) wf25 (fun _ h9 => h9) rfl (by decide +kernel) rfl rfl (Nat.le_of_ble_eq_true rfl) dX3_number_103 (fun H locs hP hD hS => ?_)
                have hP : va_P D vwCl [(tp, .inr (3, [.ref bt, .int (nI tl), .int s2, .int s3, .int (nI ta)])), (bt, .inl (cI, 120, .inl bf))] H := hP
                have hD : va_D A [(tp, .inr (3, [.ref bt, .int (nI tl), .int s2, .int s3, .int (nI ta)])), (bt, .inl (cI, 120, .inl bf))] := hD
                refine lv_aload_n hx hb dX3_number_106 rfl (lv_at hl 4 rfl) ?_
                refine lv_iload hx hb dX3_number_107 (lv_at hl 0 rfl) ?_
                refine lv_if_eq (tgt := 116) hx hb dX3_number_109 (by decide) (fun h => absurd h (by decide)) (fun _ => ?_)
                refine lv_iconst (v := 2) hx hb dX3_number_112 (by decide) ?_
                refine lv_goto (tgt := 117) hx hb dX3_number_113 (by decide) ?_
                refine wt_goI (wr := [(bt, .inl (cI, 120, .inl bf))]) (wt_runV (As := [.int 2]) (rest := []) ⟨hx, hb, hml, hown, hts⟩ (c_X3_fail l D cI cZ cH tp ta s2 s3 2 (.ref bt) (.int (nI tl))) (cwV 1 hts gX3_number_X3_fail rfl rfl rfl (by decide +kernel) ⟨Nat.le_of_ble_eq_true rfl, Nat.le_of_ble_eq_true rfl⟩) hK hP hD [0] rfl (by decide) (va_recv hK.1 hP (ci := 3) (q0 := 0) rfl rfl) rfl hl.1 rfl (Nat.le_of_ble_eq_true rfl) dX3_number_117 ⟨Nat.le_of_ble_eq_true rfl, Nat.le_of_ble_eq_true rfl⟩) hP hD hS hA [0] [1] rfl rfl (by decide) (by decide) (fun r_85 w_86 H locs h_87 hP hD hS => ?_)
                obtain ⟨tp_f2_88, tp_f3_89, rfl, rfl⟩ := h_87
                have hP : va_P D vwCl [(bt, .inl (cI, 120, .inl bf)), (tp, .inr (3, [.ref bt, .int (nI tl), .int tp_f2_88, .int tp_f3_89, .int (nI ta)]))] H := hP
                have hD : va_D A [(bt, .inl (cI, 120, .inl bf)), (tp, .inr (3, [.ref bt, .int (nI tl), .int tp_f2_88, .int tp_f3_89, .int (nI ta)]))] := hD
                refine lv_pop hx hb dX3_number_120 rfl ?_
                refine lv_iconst (v := (-1)) hx hb dX3_number_121 (by decide) ?_
                have hP9 := hP.sub (ws' := [(tp, .inr (3, [.ref bt, .int (nI tl), .int tp_f2_88, .int tp_f3_89, .int (nI ta)])), (bt, .inl (cI, 120, .inl bf))]) [1, 0] rfl
                have hD9 := hD.sub (ws' := [(tp, .inr (3, [.ref bt, .int (nI tl), .int tp_f2_88, .int tp_f3_89, .int (nI ta)])), (bt, .inl (cI, 120, .inl bf))]) [1, 0] (by decide) rfl
                exact wt_iret hx hb hr hlocks hP9 hD9 hS ⟨ta, tp_f2_88, tp_f3_89, rfl, ⟨by omega, Or.inl rfl⟩⟩ dX3_number_122
              · skip
                obtain ⟨j_90, hj_90, hj_90b, rfl⟩ := wI_nat (a := lo) (b := hi) (by omega) (by omega) c_84
                refine lv_iload hx hb dX3_number_97 (lv_at hl 2 rfl) ?_
                have hP9 := hP.sub (ws' := [(tp, .inr (3, [.ref bt, .int (nI tl), .int s2, .int s3, .int (nI n_3)])), (bt, .inl (cI, 120, .inl bf))]) [0, 1] rfl
                have hD9 := hD.sub (ws' := [(tp, .inr (3, [.ref bt, .int (nI tl), .int s2, .int s3, .int (nI n_3)])), (bt, .inl (cI, 120, .inl bf))]) [0, 1] (by decide) rfl
                exact wt_iret hx hb hr hlocks hP9 hD9 hS ⟨n_3, s2, s3, rfl, ⟨by omega, Or.inr ⟨j_90, by omega, by omega, rfl⟩⟩⟩ dX3_number_99
        · skip
          have hlt := e_32 (wt_dig c_33)
          refine lv_iload hx hb dX3_number_34 (lv_at hl 1 rfl) ?_
          refine lv_bipush (v := 10) hx hb dX3_number_36 (by decide) ?_
          refine lv_imul hx hb dX3_number_38 ?_
          refine lv_topi (fun ov_91 _ => ?_)
          refine lv_aload_n hx hb dX3_number_39 rfl (lv_at hl 3 rfl) ?_
          refine wt_rV (As := []) (rest := [.int ov_91]) ⟨hx, hb, hml, hown, hts⟩ (c_X3_peek l D cI cZ cH tp bt tl n_3 bf s2 s3 (by first | assumption | omega) (by first | assumption | omega)) (cwV 0 hts gX3_number_X3_peek rfl rfl rfl (by decide +kernel) ⟨Nat.le_of_ble_eq_true rfl, Nat.le_of_ble_eq_true rfl⟩) hK hP [0, 1] rfl (va_recv hK.1 hP (ci := 3) (q0 := 0) rfl rfl) rfl hl.1 rfl (Nat.le_of_ble_eq_true rfl) dX3_number_40 ⟨Nat.le_of_ble_eq_true rfl, Nat.le_of_ble_eq_true rfl⟩ (fun r_92 e_93 => ?_)
          refine lv_iadd hx hb dX3_number_43 ?_
          refine lv_topi (fun ov_94 _ => ?_)
          refine lv_bipush (v := 48) hx hb dX3_number_44 (by decide) ?_
          refine lv_isub hx hb dX3_number_46 ?_
          refine lv_topi (fun ov_95 _ => ?_)
          refine lv_istore (lv' := [(4, .int ov_95), (5, .int (nI ta)), (3, .int (nI i_1)), (0, .ref tp), (1, .int (nI lo)), (2, .int (nI hi))]) hx hb dX3_number_47 hl (by decide) rfl (fun ls hl => ?_)
          refine lv_iinc (v := nI (i_1 + 1)) (lv' := [(3, .int (nI (i_1 + 1))), (4, .int ov_95), (5, .int (nI ta)), (0, .ref tp), (1, .int (nI lo)), (2, .int (nI hi))]) hx hb dX3_number_49 hl (k := 2) rfl (nI_add i_1 1) (by decide) rfl (fun ls hl => ?_)
          refine lv_aload_n hx hb dX3_number_52 rfl (lv_at hl 3 rfl) ?_
          refine lv_dup hx hb dX3_number_53 rfl ?_
          refine va_get (D := D) (ci := 3) (v := .int (nI n_3)) (C := RX3) (T := TX3) (N := 5) hx hb hts hi3 hown hK.1 hP 0 rfl rfl 4 (by decide) wf25 (fun _ h9 => h9) rfl dX3_number_54 ?_
          refine lv_iconst (v := 1) hx hb dX3_number_57 (by decide) ?_
          refine lv_iadd hx hb dX3_number_58 ?_
          refine wt_top (z := nI (n_3 + 1)) (nI_add n_3 1) ?_
          refine va_put (D := D) (ci := 3) (v := .int (nI (n_3 + 1))) (ty := .int) (C := RX3) (T := TX3) (N := 5) hx hb hts hi3 tyX3 tyX3_ok nmX3 hown hK.1 hP hD hS 0 rfl rfl 4 (by decide) wf25 (fun _ h9 => h9) rfl (by decide +kernel) rfl rfl (Nat.le_of_ble_eq_true rfl) dX3_number_59 (fun H locs hP hD hS => ?_)
          have hP : va_P D vwCl [(tp, .inr (3, [.ref bt, .int (nI tl), .int s2, .int s3, .int (nI (n_3 + 1))])), (bt, .inl (cI, 120, .inl bf))] H := hP
          have hD : va_D A [(tp, .inr (3, [.ref bt, .int (nI tl), .int s2, .int s3, .int (nI (n_3 + 1))])), (bt, .inl (cI, 120, .inl bf))] := hD
          refine lv_goto (tgt := 11) hx hb dX3_number_62 (by decide) ?_
          exact ih11 ((i_1 + 1)) ov_95 (n_3 + 1) H locs ls (by omega) (by first | assumption | omega) hP hD hS (lv_sub hl [2, 1, 0, 3, 4, 5] rfl)
  exact loop11 (3 - 0) (0) 0 ta _ _ ls (by omega) (by first | assumption | omega) hP hD hS hl
set_option maxHeartbeats 4000000 in
set_option maxRecDepth 100000 in
theorem c_X3_sortOf (l : Launch) (D : va_G) (cI cZ cH : ClassId) (a1 : Int32) : wt_R l yX3_sortOf wsX3_sortOf ({ frames := 0, cells := 0, slots := 0, locals := 0 } : Room) D (wt_T cI cZ cH) [.int a1] [] (vp_Si (fun r => ¬ r = 0 → ¬ a1 = (-1))) := by
  refine wt_R.ofW (cc := cX3_sortOf) (maxL := 1) (ret := (some .int)) (by decide) rfl (Nat.le_of_ble_eq_true rfl) ?_
  intro p e s m below meth c ls hx hb hr hts hown hlocks hml hP hK hl
  have hown : s.vm.findClass RX3 = some m.cls := hown
  have hl : lv_has ls 1 [(0, .int a1)] := hl
  refine lv_iload_n hx hb dX3_sortOf_0 rfl (lv_at hl 0 rfl) ?_
  rcases wt_dec a1 103 with c_1 | c_1
  · subst c_1
    refine lv_lookup (off := 53) (tgt := 54) hx hb dX3_sortOf_1 (by decide) (by decide) (by decide) ?_
    refine lv_iconst (v := 2) hx hb dX3_sortOf_54 (by decide) ?_
    exact wt_siret hx hb hr hlocks (by first | (intro h; exact absurd rfl h) | (intro _; decide)) dX3_sortOf_55
  rcases wt_dec a1 108 with c_2 | c_2
  · subst c_2
    refine lv_lookup (off := 59) (tgt := 60) hx hb dX3_sortOf_1 (by decide) (by decide) (by decide) ?_
    refine lv_iconst (v := 5) hx hb dX3_sortOf_60 (by decide) ?_
    exact wt_siret hx hb hr hlocks (by first | (intro h; exact absurd rfl h) | (intro _; decide)) dX3_sortOf_61
  rcases wt_dec a1 112 with c_3 | c_3
  · subst c_3
    refine lv_lookup (off := 51) (tgt := 52) hx hb dX3_sortOf_1 (by decide) (by decide) (by decide) ?_
    refine lv_iconst (v := 1) hx hb dX3_sortOf_52 (by decide) ?_
    exact wt_siret hx hb hr hlocks (by first | (intro h; exact absurd rfl h) | (intro _; decide)) dX3_sortOf_53
  rcases wt_dec a1 115 with c_4 | c_4
  · subst c_4
    refine lv_lookup (off := 55) (tgt := 56) hx hb dX3_sortOf_1 (by decide) (by decide) (by decide) ?_
    refine lv_iconst (v := 3) hx hb dX3_sortOf_56 (by decide) ?_
    exact wt_siret hx hb hr hlocks (by first | (intro h; exact absurd rfl h) | (intro _; decide)) dX3_sortOf_57
  rcases wt_dec a1 119 with c_5 | c_5
  · subst c_5
    refine lv_lookup (off := 57) (tgt := 58) hx hb dX3_sortOf_1 (by decide) (by decide) (by decide) ?_
    refine lv_iconst (v := 4) hx hb dX3_sortOf_58 (by decide) ?_
    exact wt_siret hx hb hr hlocks (by first | (intro h; exact absurd rfl h) | (intro _; decide)) dX3_sortOf_59
  refine lv_lookup (off := 61) (tgt := 62) hx hb dX3_sortOf_1 (by decide) (by show (if (103 : Int) = _ then _ else if (108 : Int) = _ then _ else if (112 : Int) = _ then _ else if (115 : Int) = _ then _ else if (119 : Int) = _ then _ else (61 : Int)) = 61; rw [if_neg (fun h => lv_neT (a := 103) c_1 rfl h.symm), if_neg (fun h => lv_neT (a := 108) c_2 rfl h.symm), if_neg (fun h => lv_neT (a := 112) c_3 rfl h.symm), if_neg (fun h => lv_neT (a := 115) c_4 rfl h.symm), if_neg (fun h => lv_neT (a := 119) c_5 rfl h.symm)]) (by decide) ?_
  refine lv_iconst (v := 0) hx hb dX3_sortOf_62 (by decide) ?_
  exact wt_siret hx hb hr hlocks (by first | (intro h; exact absurd rfl h) | (intro _; decide)) dX3_sortOf_63
set_option maxHeartbeats 4000000 in
set_option maxRecDepth 100000 in
theorem c_X3_tellLaw (l : Launch) (D : va_G) (cI cZ cH : ClassId) (tp bt : Nat) (tl ta : Nat) (bf : Nat → Int32) (s2 s3 : Int32) (th tW tS tK tP tT tH tU : Nat) (R T : Nat) (t0 t1 t4 : Int32) (eW eS eK eP eT eH eU : Nat → Int32) (htl : tl ≤ 120) (hta : ta ≤ tl) (hR5 : R ≤ 5) : wt_M l yX3_tellLaw wsX3_tellLaw ({ frames := 2, cells := 0, slots := 0, locals := 48 } : Room) D (wt_T cI cZ cH) [.ref tp, .ref th] [(tp, .inr (3, [.ref bt, .int (nI tl), .int s2, .int s3, .int (nI ta)])), (bt, .inl (cI, 120, .inl bf)), (th, .inr (0, [.int t0, .int t1, .int (nI R), .int (nI T), .int t4, .ref tW, .ref tS, .ref tK, .ref tP, .ref tT, .ref tH, .ref tU])), (tW, .inl (cI, 5, .inl eW)), (tS, .inl (cI, 5, .inl eS)), (tK, .inl (cI, 6, .inl eK)), (tP, .inl (cI, 6, .inl eP)), (tT, .inl (cI, 6, .inl eT)), (tH, .inl (cI, 6, .inl eH)), (tU, .inl (cI, 6, .inl eU))] (wt_QI D (fun r w => ∃ (ta2 : Nat) (tp_f2 tp_f3 th_f0 th_f1 : Int32), w = [(tp, .inr (3, [.ref bt, .int (nI tl), .int tp_f2, .int tp_f3, .int (nI ta2)])), (bt, .inl (cI, 120, .inl bf)), (th, .inr (0, [.int th_f0, .int th_f1, .int (nI R), .int (nI T), .int t4, .ref tW, .ref tS, .ref tK, .ref tP, .ref tT, .ref tH, .ref tU])), (tW, .inl (cI, 5, .inl eW)), (tS, .inl (cI, 5, .inl eS)), (tK, .inl (cI, 6, .inl eK)), (tP, .inl (cI, 6, .inl eP)), (tT, .inl (cI, 6, .inl eT)), (tH, .inl (cI, 6, .inl eH)), (tU, .inl (cI, 6, .inl eU))] ∧ ta2 ≤ tl)) := by
  refine wt_M.ofW (cc := cX3_tellLaw) (maxL := 2) (ret := (some .boolean)) (by decide) rfl (Nat.le_of_ble_eq_true rfl) ?_
  intro p e s m below meth c A ls hx hb hr hts hown hlocks hml hnm hP hK hD hA hS hl
  have hP : va_P D vwCl [(tp, .inr (3, [.ref bt, .int (nI tl), .int s2, .int s3, .int (nI ta)])), (bt, .inl (cI, 120, .inl bf)), (th, .inr (0, [.int t0, .int t1, .int (nI R), .int (nI T), .int t4, .ref tW, .ref tS, .ref tK, .ref tP, .ref tT, .ref tH, .ref tU])), (tW, .inl (cI, 5, .inl eW)), (tS, .inl (cI, 5, .inl eS)), (tK, .inl (cI, 6, .inl eK)), (tP, .inl (cI, 6, .inl eP)), (tT, .inl (cI, 6, .inl eT)), (tH, .inl (cI, 6, .inl eH)), (tU, .inl (cI, 6, .inl eU))] s.heap := hP
  have hown : s.vm.findClass RX3 = some m.cls := hown
  have hl : lv_has ls 2 [(0, .ref tp), (1, .ref th)] := hl
  have hi0 : ∀ w ∈ u_ws RX0 TX0 12, w ∈ wsX3_tellLaw := by decide +kernel
  have wf57 := hts (.fieldLink RX3 57 "WarmTubes$House" "frost" "I") (by decide +kernel)
  have wf60 := hts (.fieldLink RX3 60 "WarmTubes$House" "cold" "I") (by decide +kernel)
  refine lv_aload_n hx hb dX3_tellLaw_0 rfl (lv_at hl 0 rfl) ?_
  refine lv_bipush (v := 104) hx hb dX3_tellLaw_1 (by decide) ?_
  refine wt_goI (wr := [(th, .inr (0, [.int t0, .int t1, .int (nI R), .int (nI T), .int t4, .ref tW, .ref tS, .ref tK, .ref tP, .ref tT, .ref tH, .ref tU])), (tW, .inl (cI, 5, .inl eW)), (tS, .inl (cI, 5, .inl eS)), (tK, .inl (cI, 6, .inl eK)), (tP, .inl (cI, 6, .inl eP)), (tT, .inl (cI, 6, .inl eT)), (tH, .inl (cI, 6, .inl eH)), (tU, .inl (cI, 6, .inl eU))]) (wt_runV (As := [.int 104]) (rest := []) ⟨hx, hb, hml, hown, hts⟩ (c_X3_pass l D cI cZ cH tp bt tl ta bf s2 s3 104 (by first | assumption | omega) (by first | assumption | omega) (by decide)) (cwV 1 hts gX3_tellLaw_X3_pass rfl rfl rfl (by decide +kernel) ⟨Nat.le_of_ble_eq_true rfl, Nat.le_of_ble_eq_true rfl⟩) hK hP hD [0, 1] rfl (by decide) (va_recv hK.1 hP (ci := 3) (q0 := 0) rfl rfl) rfl hl.1 rfl (Nat.le_of_ble_eq_true rfl) dX3_tellLaw_3 ⟨Nat.le_of_ble_eq_true rfl, Nat.le_of_ble_eq_true rfl⟩) hP hD hS hA [0, 1] [2, 3, 4, 5, 6, 7, 8, 9] rfl rfl (by decide) (by decide) (fun r_1 w_2 H locs h_3 hP hD hS => ?_)
  obtain ⟨ta2_4, tp_f2_5, tp_f3_6, rfl, x_7⟩ := h_3
  have hP : va_P D vwCl [(th, .inr (0, [.int t0, .int t1, .int (nI R), .int (nI T), .int t4, .ref tW, .ref tS, .ref tK, .ref tP, .ref tT, .ref tH, .ref tU])), (tW, .inl (cI, 5, .inl eW)), (tS, .inl (cI, 5, .inl eS)), (tK, .inl (cI, 6, .inl eK)), (tP, .inl (cI, 6, .inl eP)), (tT, .inl (cI, 6, .inl eT)), (tH, .inl (cI, 6, .inl eH)), (tU, .inl (cI, 6, .inl eU)), (tp, .inr (3, [.ref bt, .int (nI tl), .int tp_f2_5, .int tp_f3_6, .int (nI ta2_4)])), (bt, .inl (cI, 120, .inl bf))] H := hP
  have hD : va_D A [(th, .inr (0, [.int t0, .int t1, .int (nI R), .int (nI T), .int t4, .ref tW, .ref tS, .ref tK, .ref tP, .ref tT, .ref tH, .ref tU])), (tW, .inl (cI, 5, .inl eW)), (tS, .inl (cI, 5, .inl eS)), (tK, .inl (cI, 6, .inl eK)), (tP, .inl (cI, 6, .inl eP)), (tT, .inl (cI, 6, .inl eT)), (tH, .inl (cI, 6, .inl eH)), (tU, .inl (cI, 6, .inl eU)), (tp, .inr (3, [.ref bt, .int (nI tl), .int tp_f2_5, .int tp_f3_6, .int (nI ta2_4)])), (bt, .inl (cI, 120, .inl bf))] := hD
  refine lv_if_ne (tgt := 11) hx hb dX3_tellLaw_6 (by decide) (fun c_8 => ?_) (fun c_8 => ?_)
  · skip
    refine lv_aload_n hx hb dX3_tellLaw_11 rfl (lv_at hl 1 rfl) ?_
    refine lv_aload_n hx hb dX3_tellLaw_12 rfl (lv_at hl 0 rfl) ?_
    refine lv_iconst (v := 0) hx hb dX3_tellLaw_13 (by decide) ?_
    refine lv_bipush (v := 9) hx hb dX3_tellLaw_14 (by decide) ?_
    refine wt_goI (wr := [(th, .inr (0, [.int t0, .int t1, .int (nI R), .int (nI T), .int t4, .ref tW, .ref tS, .ref tK, .ref tP, .ref tT, .ref tH, .ref tU])), (tW, .inl (cI, 5, .inl eW)), (tS, .inl (cI, 5, .inl eS)), (tK, .inl (cI, 6, .inl eK)), (tP, .inl (cI, 6, .inl eP)), (tT, .inl (cI, 6, .inl eT)), (tH, .inl (cI, 6, .inl eH)), (tU, .inl (cI, 6, .inl eU))]) (wt_runV (As := [.int 0, .int 9]) (rest := [.ref th]) ⟨hx, hb, hml, hown, hts⟩ (c_X3_number l D cI cZ cH tp bt tl ta2_4 bf tp_f2_5 tp_f3_6 0 9 (by first | assumption | omega) (by first | assumption | omega) (by first | assumption | omega) (by first | assumption | omega)) (cwV 2 hts gX3_tellLaw_X3_number rfl rfl rfl (by decide +kernel) ⟨Nat.le_of_ble_eq_true rfl, Nat.le_of_ble_eq_true rfl⟩) hK hP hD [8, 9] rfl (by decide) (va_recv hK.1 hP (ci := 3) (q0 := 8) rfl rfl) rfl hl.1 rfl (Nat.le_of_ble_eq_true rfl) dX3_tellLaw_16 ⟨Nat.le_of_ble_eq_true rfl, Nat.le_of_ble_eq_true rfl⟩) hP hD hS hA [8, 9] [0, 1, 2, 3, 4, 5, 6, 7] rfl rfl (by decide) (by decide) (fun r_9 w_10 H locs h_11 hP hD hS => ?_)
    obtain ⟨ta2_12, tp_f2_13, tp_f3_14, rfl, x_15⟩ := h_11
    have hP : va_P D vwCl [(th, .inr (0, [.int t0, .int t1, .int (nI R), .int (nI T), .int t4, .ref tW, .ref tS, .ref tK, .ref tP, .ref tT, .ref tH, .ref tU])), (tW, .inl (cI, 5, .inl eW)), (tS, .inl (cI, 5, .inl eS)), (tK, .inl (cI, 6, .inl eK)), (tP, .inl (cI, 6, .inl eP)), (tT, .inl (cI, 6, .inl eT)), (tH, .inl (cI, 6, .inl eH)), (tU, .inl (cI, 6, .inl eU)), (tp, .inr (3, [.ref bt, .int (nI tl), .int tp_f2_13, .int tp_f3_14, .int (nI ta2_12)])), (bt, .inl (cI, 120, .inl bf))] H := hP
    have hD : va_D A [(th, .inr (0, [.int t0, .int t1, .int (nI R), .int (nI T), .int t4, .ref tW, .ref tS, .ref tK, .ref tP, .ref tT, .ref tH, .ref tU])), (tW, .inl (cI, 5, .inl eW)), (tS, .inl (cI, 5, .inl eS)), (tK, .inl (cI, 6, .inl eK)), (tP, .inl (cI, 6, .inl eP)), (tT, .inl (cI, 6, .inl eT)), (tH, .inl (cI, 6, .inl eH)), (tU, .inl (cI, 6, .inl eU)), (tp, .inr (3, [.ref bt, .int (nI tl), .int tp_f2_13, .int tp_f3_14, .int (nI ta2_12)])), (bt, .inl (cI, 120, .inl bf))] := hD
    obtain ⟨hta_16, hv_17⟩ := x_15
    refine va_put (D := D) (ci := 0) (v := .int r_9) (ty := .int) (C := RX0) (T := TX0) (N := 12) hx hb hts hi0 tyX0 tyX0_ok nmX0 hown hK.1 hP hD hS 0 rfl rfl 0 (by decide) wf57 (fun _ h9 => h9) rfl (by decide +kernel) rfl rfl (Nat.le_of_ble_eq_true rfl) dX3_tellLaw_19 (fun H locs hP hD hS => ?_)
    have hP : va_P D vwCl [(th, .inr (0, [.int r_9, .int t1, .int (nI R), .int (nI T), .int t4, .ref tW, .ref tS, .ref tK, .ref tP, .ref tT, .ref tH, .ref tU])), (tW, .inl (cI, 5, .inl eW)), (tS, .inl (cI, 5, .inl eS)), (tK, .inl (cI, 6, .inl eK)), (tP, .inl (cI, 6, .inl eP)), (tT, .inl (cI, 6, .inl eT)), (tH, .inl (cI, 6, .inl eH)), (tU, .inl (cI, 6, .inl eU)), (tp, .inr (3, [.ref bt, .int (nI tl), .int tp_f2_13, .int tp_f3_14, .int (nI ta2_12)])), (bt, .inl (cI, 120, .inl bf))] H := hP
    have hD : va_D A [(th, .inr (0, [.int r_9, .int t1, .int (nI R), .int (nI T), .int t4, .ref tW, .ref tS, .ref tK, .ref tP, .ref tT, .ref tH, .ref tU])), (tW, .inl (cI, 5, .inl eW)), (tS, .inl (cI, 5, .inl eS)), (tK, .inl (cI, 6, .inl eK)), (tP, .inl (cI, 6, .inl eP)), (tT, .inl (cI, 6, .inl eT)), (tH, .inl (cI, 6, .inl eH)), (tU, .inl (cI, 6, .inl eU)), (tp, .inr (3, [.ref bt, .int (nI tl), .int tp_f2_13, .int tp_f3_14, .int (nI ta2_12)])), (bt, .inl (cI, 120, .inl bf))] := hD
    refine lv_aload_n hx hb dX3_tellLaw_22 rfl (lv_at hl 1 rfl) ?_
    refine va_get (D := D) (ci := 0) (v := .int r_9) (C := RX0) (T := TX0) (N := 12) hx hb hts hi0 hown hK.1 hP 0 rfl rfl 0 (by decide) wf57 (fun _ h9 => h9) rfl dX3_tellLaw_23 ?_
    refine lv_if_lt (tgt := 38) hx hb dX3_tellLaw_26 (by decide) (fun c_18 => ?_) (fun c_18 => ?_)
    · skip
      refine lv_iconst (v := 0) hx hb dX3_tellLaw_38 (by decide) ?_
      have hP9 := hP.sub (ws' := [(tp, .inr (3, [.ref bt, .int (nI tl), .int tp_f2_13, .int tp_f3_14, .int (nI ta2_12)])), (bt, .inl (cI, 120, .inl bf)), (th, .inr (0, [.int r_9, .int t1, .int (nI R), .int (nI T), .int t4, .ref tW, .ref tS, .ref tK, .ref tP, .ref tT, .ref tH, .ref tU])), (tW, .inl (cI, 5, .inl eW)), (tS, .inl (cI, 5, .inl eS)), (tK, .inl (cI, 6, .inl eK)), (tP, .inl (cI, 6, .inl eP)), (tT, .inl (cI, 6, .inl eT)), (tH, .inl (cI, 6, .inl eH)), (tU, .inl (cI, 6, .inl eU))]) [8, 9, 0, 1, 2, 3, 4, 5, 6, 7] rfl
      have hD9 := hD.sub (ws' := [(tp, .inr (3, [.ref bt, .int (nI tl), .int tp_f2_13, .int tp_f3_14, .int (nI ta2_12)])), (bt, .inl (cI, 120, .inl bf)), (th, .inr (0, [.int r_9, .int t1, .int (nI R), .int (nI T), .int t4, .ref tW, .ref tS, .ref tK, .ref tP, .ref tT, .ref tH, .ref tU])), (tW, .inl (cI, 5, .inl eW)), (tS, .inl (cI, 5, .inl eS)), (tK, .inl (cI, 6, .inl eK)), (tP, .inl (cI, 6, .inl eP)), (tT, .inl (cI, 6, .inl eT)), (tH, .inl (cI, 6, .inl eH)), (tU, .inl (cI, 6, .inl eU))]) [8, 9, 0, 1, 2, 3, 4, 5, 6, 7] (by decide) rfl
      exact wt_zret hx hb hr hlocks (by decide) hP9 hD9 hS ⟨ta2_12, tp_f2_13, tp_f3_14, r_9, t1, rfl, (by omega)⟩ dX3_tellLaw_39
    · skip
      refine lv_aload_n hx hb dX3_tellLaw_29 rfl (lv_at hl 0 rfl) ?_
      refine lv_bipush (v := 44) hx hb dX3_tellLaw_30 (by decide) ?_
      refine wt_goI (wr := [(th, .inr (0, [.int r_9, .int t1, .int (nI R), .int (nI T), .int t4, .ref tW, .ref tS, .ref tK, .ref tP, .ref tT, .ref tH, .ref tU])), (tW, .inl (cI, 5, .inl eW)), (tS, .inl (cI, 5, .inl eS)), (tK, .inl (cI, 6, .inl eK)), (tP, .inl (cI, 6, .inl eP)), (tT, .inl (cI, 6, .inl eT)), (tH, .inl (cI, 6, .inl eH)), (tU, .inl (cI, 6, .inl eU))]) (wt_runV (As := [.int 44]) (rest := []) ⟨hx, hb, hml, hown, hts⟩ (c_X3_pass l D cI cZ cH tp bt tl ta2_12 bf tp_f2_13 tp_f3_14 44 (by first | assumption | omega) (by first | assumption | omega) (by decide)) (cwV 1 hts gX3_tellLaw_X3_pass rfl rfl rfl (by decide +kernel) ⟨Nat.le_of_ble_eq_true rfl, Nat.le_of_ble_eq_true rfl⟩) hK hP hD [8, 9] rfl (by decide) (va_recv hK.1 hP (ci := 3) (q0 := 8) rfl rfl) rfl hl.1 rfl (Nat.le_of_ble_eq_true rfl) dX3_tellLaw_32 ⟨Nat.le_of_ble_eq_true rfl, Nat.le_of_ble_eq_true rfl⟩) hP hD hS hA [8, 9] [0, 1, 2, 3, 4, 5, 6, 7] rfl rfl (by decide) (by decide) (fun r_19 w_20 H locs h_21 hP hD hS => ?_)
      obtain ⟨ta2_22, tp_f2_23, tp_f3_24, rfl, x_25⟩ := h_21
      have hP : va_P D vwCl [(th, .inr (0, [.int r_9, .int t1, .int (nI R), .int (nI T), .int t4, .ref tW, .ref tS, .ref tK, .ref tP, .ref tT, .ref tH, .ref tU])), (tW, .inl (cI, 5, .inl eW)), (tS, .inl (cI, 5, .inl eS)), (tK, .inl (cI, 6, .inl eK)), (tP, .inl (cI, 6, .inl eP)), (tT, .inl (cI, 6, .inl eT)), (tH, .inl (cI, 6, .inl eH)), (tU, .inl (cI, 6, .inl eU)), (tp, .inr (3, [.ref bt, .int (nI tl), .int tp_f2_23, .int tp_f3_24, .int (nI ta2_22)])), (bt, .inl (cI, 120, .inl bf))] H := hP
      have hD : va_D A [(th, .inr (0, [.int r_9, .int t1, .int (nI R), .int (nI T), .int t4, .ref tW, .ref tS, .ref tK, .ref tP, .ref tT, .ref tH, .ref tU])), (tW, .inl (cI, 5, .inl eW)), (tS, .inl (cI, 5, .inl eS)), (tK, .inl (cI, 6, .inl eK)), (tP, .inl (cI, 6, .inl eP)), (tT, .inl (cI, 6, .inl eT)), (tH, .inl (cI, 6, .inl eH)), (tU, .inl (cI, 6, .inl eU)), (tp, .inr (3, [.ref bt, .int (nI tl), .int tp_f2_23, .int tp_f3_24, .int (nI ta2_22)])), (bt, .inl (cI, 120, .inl bf))] := hD
      refine lv_if_ne (tgt := 40) hx hb dX3_tellLaw_35 (by decide) (fun c_26 => ?_) (fun c_26 => ?_)
      · skip
        refine lv_aload_n hx hb dX3_tellLaw_40 rfl (lv_at hl 1 rfl) ?_
        refine lv_aload_n hx hb dX3_tellLaw_41 rfl (lv_at hl 0 rfl) ?_
        refine lv_iconst (v := 0) hx hb dX3_tellLaw_42 (by decide) ?_
        refine lv_bipush (v := 60) hx hb dX3_tellLaw_43 (by decide) ?_
        refine wt_goI (wr := [(th, .inr (0, [.int r_9, .int t1, .int (nI R), .int (nI T), .int t4, .ref tW, .ref tS, .ref tK, .ref tP, .ref tT, .ref tH, .ref tU])), (tW, .inl (cI, 5, .inl eW)), (tS, .inl (cI, 5, .inl eS)), (tK, .inl (cI, 6, .inl eK)), (tP, .inl (cI, 6, .inl eP)), (tT, .inl (cI, 6, .inl eT)), (tH, .inl (cI, 6, .inl eH)), (tU, .inl (cI, 6, .inl eU))]) (wt_runV (As := [.int 0, .int 60]) (rest := [.ref th]) ⟨hx, hb, hml, hown, hts⟩ (c_X3_number l D cI cZ cH tp bt tl ta2_22 bf tp_f2_23 tp_f3_24 0 60 (by first | assumption | omega) (by first | assumption | omega) (by first | assumption | omega) (by first | assumption | omega)) (cwV 2 hts gX3_tellLaw_X3_number rfl rfl rfl (by decide +kernel) ⟨Nat.le_of_ble_eq_true rfl, Nat.le_of_ble_eq_true rfl⟩) hK hP hD [8, 9] rfl (by decide) (va_recv hK.1 hP (ci := 3) (q0 := 8) rfl rfl) rfl hl.1 rfl (Nat.le_of_ble_eq_true rfl) dX3_tellLaw_45 ⟨Nat.le_of_ble_eq_true rfl, Nat.le_of_ble_eq_true rfl⟩) hP hD hS hA [8, 9] [0, 1, 2, 3, 4, 5, 6, 7] rfl rfl (by decide) (by decide) (fun r_27 w_28 H locs h_29 hP hD hS => ?_)
        obtain ⟨ta2_30, tp_f2_31, tp_f3_32, rfl, x_33⟩ := h_29
        have hP : va_P D vwCl [(th, .inr (0, [.int r_9, .int t1, .int (nI R), .int (nI T), .int t4, .ref tW, .ref tS, .ref tK, .ref tP, .ref tT, .ref tH, .ref tU])), (tW, .inl (cI, 5, .inl eW)), (tS, .inl (cI, 5, .inl eS)), (tK, .inl (cI, 6, .inl eK)), (tP, .inl (cI, 6, .inl eP)), (tT, .inl (cI, 6, .inl eT)), (tH, .inl (cI, 6, .inl eH)), (tU, .inl (cI, 6, .inl eU)), (tp, .inr (3, [.ref bt, .int (nI tl), .int tp_f2_31, .int tp_f3_32, .int (nI ta2_30)])), (bt, .inl (cI, 120, .inl bf))] H := hP
        have hD : va_D A [(th, .inr (0, [.int r_9, .int t1, .int (nI R), .int (nI T), .int t4, .ref tW, .ref tS, .ref tK, .ref tP, .ref tT, .ref tH, .ref tU])), (tW, .inl (cI, 5, .inl eW)), (tS, .inl (cI, 5, .inl eS)), (tK, .inl (cI, 6, .inl eK)), (tP, .inl (cI, 6, .inl eP)), (tT, .inl (cI, 6, .inl eT)), (tH, .inl (cI, 6, .inl eH)), (tU, .inl (cI, 6, .inl eU)), (tp, .inr (3, [.ref bt, .int (nI tl), .int tp_f2_31, .int tp_f3_32, .int (nI ta2_30)])), (bt, .inl (cI, 120, .inl bf))] := hD
        obtain ⟨hta_34, hv_35⟩ := x_33
        refine va_put (D := D) (ci := 0) (v := .int r_27) (ty := .int) (C := RX0) (T := TX0) (N := 12) hx hb hts hi0 tyX0 tyX0_ok nmX0 hown hK.1 hP hD hS 0 rfl rfl 1 (by decide) wf60 (fun _ h9 => h9) rfl (by decide +kernel) rfl rfl (Nat.le_of_ble_eq_true rfl) dX3_tellLaw_48 (fun H locs hP hD hS => ?_)
        have hP : va_P D vwCl [(th, .inr (0, [.int r_9, .int r_27, .int (nI R), .int (nI T), .int t4, .ref tW, .ref tS, .ref tK, .ref tP, .ref tT, .ref tH, .ref tU])), (tW, .inl (cI, 5, .inl eW)), (tS, .inl (cI, 5, .inl eS)), (tK, .inl (cI, 6, .inl eK)), (tP, .inl (cI, 6, .inl eP)), (tT, .inl (cI, 6, .inl eT)), (tH, .inl (cI, 6, .inl eH)), (tU, .inl (cI, 6, .inl eU)), (tp, .inr (3, [.ref bt, .int (nI tl), .int tp_f2_31, .int tp_f3_32, .int (nI ta2_30)])), (bt, .inl (cI, 120, .inl bf))] H := hP
        have hD : va_D A [(th, .inr (0, [.int r_9, .int r_27, .int (nI R), .int (nI T), .int t4, .ref tW, .ref tS, .ref tK, .ref tP, .ref tT, .ref tH, .ref tU])), (tW, .inl (cI, 5, .inl eW)), (tS, .inl (cI, 5, .inl eS)), (tK, .inl (cI, 6, .inl eK)), (tP, .inl (cI, 6, .inl eP)), (tT, .inl (cI, 6, .inl eT)), (tH, .inl (cI, 6, .inl eH)), (tU, .inl (cI, 6, .inl eU)), (tp, .inr (3, [.ref bt, .int (nI tl), .int tp_f2_31, .int tp_f3_32, .int (nI ta2_30)])), (bt, .inl (cI, 120, .inl bf))] := hD
        refine lv_aload_n hx hb dX3_tellLaw_51 rfl (lv_at hl 1 rfl) ?_
        refine va_get (D := D) (ci := 0) (v := .int r_27) (C := RX0) (T := TX0) (N := 12) hx hb hts hi0 hown hK.1 hP 0 rfl rfl 1 (by decide) wf60 (fun _ h9 => h9) rfl dX3_tellLaw_52 ?_
        refine lv_if_lt (tgt := 71) hx hb dX3_tellLaw_55 (by decide) (fun c_36 => ?_) (fun c_36 => ?_)
        · skip
          refine lv_iconst (v := 0) hx hb dX3_tellLaw_71 (by decide) ?_
          have hP9 := hP.sub (ws' := [(tp, .inr (3, [.ref bt, .int (nI tl), .int tp_f2_31, .int tp_f3_32, .int (nI ta2_30)])), (bt, .inl (cI, 120, .inl bf)), (th, .inr (0, [.int r_9, .int r_27, .int (nI R), .int (nI T), .int t4, .ref tW, .ref tS, .ref tK, .ref tP, .ref tT, .ref tH, .ref tU])), (tW, .inl (cI, 5, .inl eW)), (tS, .inl (cI, 5, .inl eS)), (tK, .inl (cI, 6, .inl eK)), (tP, .inl (cI, 6, .inl eP)), (tT, .inl (cI, 6, .inl eT)), (tH, .inl (cI, 6, .inl eH)), (tU, .inl (cI, 6, .inl eU))]) [8, 9, 0, 1, 2, 3, 4, 5, 6, 7] rfl
          have hD9 := hD.sub (ws' := [(tp, .inr (3, [.ref bt, .int (nI tl), .int tp_f2_31, .int tp_f3_32, .int (nI ta2_30)])), (bt, .inl (cI, 120, .inl bf)), (th, .inr (0, [.int r_9, .int r_27, .int (nI R), .int (nI T), .int t4, .ref tW, .ref tS, .ref tK, .ref tP, .ref tT, .ref tH, .ref tU])), (tW, .inl (cI, 5, .inl eW)), (tS, .inl (cI, 5, .inl eS)), (tK, .inl (cI, 6, .inl eK)), (tP, .inl (cI, 6, .inl eP)), (tT, .inl (cI, 6, .inl eT)), (tH, .inl (cI, 6, .inl eH)), (tU, .inl (cI, 6, .inl eU))]) [8, 9, 0, 1, 2, 3, 4, 5, 6, 7] (by decide) rfl
          exact wt_zret hx hb hr hlocks (by decide) hP9 hD9 hS ⟨ta2_30, tp_f2_31, tp_f3_32, r_9, r_27, rfl, (by omega)⟩ dX3_tellLaw_72
        · skip
          refine lv_aload_n hx hb dX3_tellLaw_58 rfl (lv_at hl 0 rfl) ?_
          refine lv_bipush (v := 59) hx hb dX3_tellLaw_59 (by decide) ?_
          refine wt_goI (wr := [(th, .inr (0, [.int r_9, .int r_27, .int (nI R), .int (nI T), .int t4, .ref tW, .ref tS, .ref tK, .ref tP, .ref tT, .ref tH, .ref tU])), (tW, .inl (cI, 5, .inl eW)), (tS, .inl (cI, 5, .inl eS)), (tK, .inl (cI, 6, .inl eK)), (tP, .inl (cI, 6, .inl eP)), (tT, .inl (cI, 6, .inl eT)), (tH, .inl (cI, 6, .inl eH)), (tU, .inl (cI, 6, .inl eU))]) (wt_runV (As := [.int 59]) (rest := []) ⟨hx, hb, hml, hown, hts⟩ (c_X3_pass l D cI cZ cH tp bt tl ta2_30 bf tp_f2_31 tp_f3_32 59 (by first | assumption | omega) (by first | assumption | omega) (by decide)) (cwV 1 hts gX3_tellLaw_X3_pass rfl rfl rfl (by decide +kernel) ⟨Nat.le_of_ble_eq_true rfl, Nat.le_of_ble_eq_true rfl⟩) hK hP hD [8, 9] rfl (by decide) (va_recv hK.1 hP (ci := 3) (q0 := 8) rfl rfl) rfl hl.1 rfl (Nat.le_of_ble_eq_true rfl) dX3_tellLaw_61 ⟨Nat.le_of_ble_eq_true rfl, Nat.le_of_ble_eq_true rfl⟩) hP hD hS hA [8, 9] [0, 1, 2, 3, 4, 5, 6, 7] rfl rfl (by decide) (by decide) (fun r_37 w_38 H locs h_39 hP hD hS => ?_)
          obtain ⟨ta2_40, tp_f2_41, tp_f3_42, rfl, x_43⟩ := h_39
          have hP : va_P D vwCl [(th, .inr (0, [.int r_9, .int r_27, .int (nI R), .int (nI T), .int t4, .ref tW, .ref tS, .ref tK, .ref tP, .ref tT, .ref tH, .ref tU])), (tW, .inl (cI, 5, .inl eW)), (tS, .inl (cI, 5, .inl eS)), (tK, .inl (cI, 6, .inl eK)), (tP, .inl (cI, 6, .inl eP)), (tT, .inl (cI, 6, .inl eT)), (tH, .inl (cI, 6, .inl eH)), (tU, .inl (cI, 6, .inl eU)), (tp, .inr (3, [.ref bt, .int (nI tl), .int tp_f2_41, .int tp_f3_42, .int (nI ta2_40)])), (bt, .inl (cI, 120, .inl bf))] H := hP
          have hD : va_D A [(th, .inr (0, [.int r_9, .int r_27, .int (nI R), .int (nI T), .int t4, .ref tW, .ref tS, .ref tK, .ref tP, .ref tT, .ref tH, .ref tU])), (tW, .inl (cI, 5, .inl eW)), (tS, .inl (cI, 5, .inl eS)), (tK, .inl (cI, 6, .inl eK)), (tP, .inl (cI, 6, .inl eP)), (tT, .inl (cI, 6, .inl eT)), (tH, .inl (cI, 6, .inl eH)), (tU, .inl (cI, 6, .inl eU)), (tp, .inr (3, [.ref bt, .int (nI tl), .int tp_f2_41, .int tp_f3_42, .int (nI ta2_40)])), (bt, .inl (cI, 120, .inl bf))] := hD
          refine lv_if_eq (tgt := 71) hx hb dX3_tellLaw_64 (by decide) (fun c_44 => ?_) (fun c_44 => ?_)
          · skip
            refine lv_iconst (v := 0) hx hb dX3_tellLaw_71 (by decide) ?_
            have hP9 := hP.sub (ws' := [(tp, .inr (3, [.ref bt, .int (nI tl), .int tp_f2_41, .int tp_f3_42, .int (nI ta2_40)])), (bt, .inl (cI, 120, .inl bf)), (th, .inr (0, [.int r_9, .int r_27, .int (nI R), .int (nI T), .int t4, .ref tW, .ref tS, .ref tK, .ref tP, .ref tT, .ref tH, .ref tU])), (tW, .inl (cI, 5, .inl eW)), (tS, .inl (cI, 5, .inl eS)), (tK, .inl (cI, 6, .inl eK)), (tP, .inl (cI, 6, .inl eP)), (tT, .inl (cI, 6, .inl eT)), (tH, .inl (cI, 6, .inl eH)), (tU, .inl (cI, 6, .inl eU))]) [8, 9, 0, 1, 2, 3, 4, 5, 6, 7] rfl
            have hD9 := hD.sub (ws' := [(tp, .inr (3, [.ref bt, .int (nI tl), .int tp_f2_41, .int tp_f3_42, .int (nI ta2_40)])), (bt, .inl (cI, 120, .inl bf)), (th, .inr (0, [.int r_9, .int r_27, .int (nI R), .int (nI T), .int t4, .ref tW, .ref tS, .ref tK, .ref tP, .ref tT, .ref tH, .ref tU])), (tW, .inl (cI, 5, .inl eW)), (tS, .inl (cI, 5, .inl eS)), (tK, .inl (cI, 6, .inl eK)), (tP, .inl (cI, 6, .inl eP)), (tT, .inl (cI, 6, .inl eT)), (tH, .inl (cI, 6, .inl eH)), (tU, .inl (cI, 6, .inl eU))]) [8, 9, 0, 1, 2, 3, 4, 5, 6, 7] (by decide) rfl
            exact wt_zret hx hb hr hlocks (by decide) hP9 hD9 hS ⟨ta2_40, tp_f2_41, tp_f3_42, r_9, r_27, rfl, (by omega)⟩ dX3_tellLaw_72
          · skip
            refine lv_iconst (v := 1) hx hb dX3_tellLaw_67 (by decide) ?_
            refine lv_goto (tgt := 72) hx hb dX3_tellLaw_68 (by decide) ?_
            have hP9 := hP.sub (ws' := [(tp, .inr (3, [.ref bt, .int (nI tl), .int tp_f2_41, .int tp_f3_42, .int (nI ta2_40)])), (bt, .inl (cI, 120, .inl bf)), (th, .inr (0, [.int r_9, .int r_27, .int (nI R), .int (nI T), .int t4, .ref tW, .ref tS, .ref tK, .ref tP, .ref tT, .ref tH, .ref tU])), (tW, .inl (cI, 5, .inl eW)), (tS, .inl (cI, 5, .inl eS)), (tK, .inl (cI, 6, .inl eK)), (tP, .inl (cI, 6, .inl eP)), (tT, .inl (cI, 6, .inl eT)), (tH, .inl (cI, 6, .inl eH)), (tU, .inl (cI, 6, .inl eU))]) [8, 9, 0, 1, 2, 3, 4, 5, 6, 7] rfl
            have hD9 := hD.sub (ws' := [(tp, .inr (3, [.ref bt, .int (nI tl), .int tp_f2_41, .int tp_f3_42, .int (nI ta2_40)])), (bt, .inl (cI, 120, .inl bf)), (th, .inr (0, [.int r_9, .int r_27, .int (nI R), .int (nI T), .int t4, .ref tW, .ref tS, .ref tK, .ref tP, .ref tT, .ref tH, .ref tU])), (tW, .inl (cI, 5, .inl eW)), (tS, .inl (cI, 5, .inl eS)), (tK, .inl (cI, 6, .inl eK)), (tP, .inl (cI, 6, .inl eP)), (tT, .inl (cI, 6, .inl eT)), (tH, .inl (cI, 6, .inl eH)), (tU, .inl (cI, 6, .inl eU))]) [8, 9, 0, 1, 2, 3, 4, 5, 6, 7] (by decide) rfl
            exact wt_zret hx hb hr hlocks (by decide) hP9 hD9 hS ⟨ta2_40, tp_f2_41, tp_f3_42, r_9, r_27, rfl, (by omega)⟩ dX3_tellLaw_72
      · skip
        refine lv_iconst (v := 0) hx hb dX3_tellLaw_38 (by decide) ?_
        have hP9 := hP.sub (ws' := [(tp, .inr (3, [.ref bt, .int (nI tl), .int tp_f2_23, .int tp_f3_24, .int (nI ta2_22)])), (bt, .inl (cI, 120, .inl bf)), (th, .inr (0, [.int r_9, .int t1, .int (nI R), .int (nI T), .int t4, .ref tW, .ref tS, .ref tK, .ref tP, .ref tT, .ref tH, .ref tU])), (tW, .inl (cI, 5, .inl eW)), (tS, .inl (cI, 5, .inl eS)), (tK, .inl (cI, 6, .inl eK)), (tP, .inl (cI, 6, .inl eP)), (tT, .inl (cI, 6, .inl eT)), (tH, .inl (cI, 6, .inl eH)), (tU, .inl (cI, 6, .inl eU))]) [8, 9, 0, 1, 2, 3, 4, 5, 6, 7] rfl
        have hD9 := hD.sub (ws' := [(tp, .inr (3, [.ref bt, .int (nI tl), .int tp_f2_23, .int tp_f3_24, .int (nI ta2_22)])), (bt, .inl (cI, 120, .inl bf)), (th, .inr (0, [.int r_9, .int t1, .int (nI R), .int (nI T), .int t4, .ref tW, .ref tS, .ref tK, .ref tP, .ref tT, .ref tH, .ref tU])), (tW, .inl (cI, 5, .inl eW)), (tS, .inl (cI, 5, .inl eS)), (tK, .inl (cI, 6, .inl eK)), (tP, .inl (cI, 6, .inl eP)), (tT, .inl (cI, 6, .inl eT)), (tH, .inl (cI, 6, .inl eH)), (tU, .inl (cI, 6, .inl eU))]) [8, 9, 0, 1, 2, 3, 4, 5, 6, 7] (by decide) rfl
        exact wt_zret hx hb hr hlocks (by decide) hP9 hD9 hS ⟨ta2_22, tp_f2_23, tp_f3_24, r_9, t1, rfl, (by omega)⟩ dX3_tellLaw_39
  · skip
    refine lv_iconst (v := 0) hx hb dX3_tellLaw_9 (by decide) ?_
    have hP9 := hP.sub (ws' := [(tp, .inr (3, [.ref bt, .int (nI tl), .int tp_f2_5, .int tp_f3_6, .int (nI ta2_4)])), (bt, .inl (cI, 120, .inl bf)), (th, .inr (0, [.int t0, .int t1, .int (nI R), .int (nI T), .int t4, .ref tW, .ref tS, .ref tK, .ref tP, .ref tT, .ref tH, .ref tU])), (tW, .inl (cI, 5, .inl eW)), (tS, .inl (cI, 5, .inl eS)), (tK, .inl (cI, 6, .inl eK)), (tP, .inl (cI, 6, .inl eP)), (tT, .inl (cI, 6, .inl eT)), (tH, .inl (cI, 6, .inl eH)), (tU, .inl (cI, 6, .inl eU))]) [8, 9, 0, 1, 2, 3, 4, 5, 6, 7] rfl
    have hD9 := hD.sub (ws' := [(tp, .inr (3, [.ref bt, .int (nI tl), .int tp_f2_5, .int tp_f3_6, .int (nI ta2_4)])), (bt, .inl (cI, 120, .inl bf)), (th, .inr (0, [.int t0, .int t1, .int (nI R), .int (nI T), .int t4, .ref tW, .ref tS, .ref tK, .ref tP, .ref tT, .ref tH, .ref tU])), (tW, .inl (cI, 5, .inl eW)), (tS, .inl (cI, 5, .inl eS)), (tK, .inl (cI, 6, .inl eK)), (tP, .inl (cI, 6, .inl eP)), (tT, .inl (cI, 6, .inl eT)), (tH, .inl (cI, 6, .inl eH)), (tU, .inl (cI, 6, .inl eU))]) [8, 9, 0, 1, 2, 3, 4, 5, 6, 7] (by decide) rfl
    exact wt_zret hx hb hr hlocks (by decide) hP9 hD9 hS ⟨ta2_4, tp_f2_5, tp_f3_6, t0, t1, rfl, (by omega)⟩ dX3_tellLaw_10
set_option maxHeartbeats 4000000 in
set_option maxRecDepth 100000 in
theorem c_X3_tellRoom (l : Launch) (D : va_G) (cI cZ cH : ClassId) (tp bt : Nat) (tl ta : Nat) (bf : Nat → Int32) (s2 s3 : Int32) (th tW tS tK tP tT tH tU : Nat) (R T : Nat) (t0 t1 t4 : Int32) (eW eS eK eP eT eH eU : Nat → Int32) (i : Nat) (htl : tl ≤ 120) (hta : ta ≤ tl) (hR5 : R ≤ 5) (hi5 : i < 5) : wt_M l yX3_tellRoom wsX3_tellRoom ({ frames := 2, cells := 0, slots := 0, locals := 48 } : Room) D (wt_T cI cZ cH) [.ref tp, .ref th, .int (nI i)] [(tp, .inr (3, [.ref bt, .int (nI tl), .int s2, .int s3, .int (nI ta)])), (bt, .inl (cI, 120, .inl bf)), (th, .inr (0, [.int t0, .int t1, .int (nI R), .int (nI T), .int t4, .ref tW, .ref tS, .ref tK, .ref tP, .ref tT, .ref tH, .ref tU])), (tW, .inl (cI, 5, .inl eW)), (tS, .inl (cI, 5, .inl eS)), (tK, .inl (cI, 6, .inl eK)), (tP, .inl (cI, 6, .inl eP)), (tT, .inl (cI, 6, .inl eT)), (tH, .inl (cI, 6, .inl eH)), (tU, .inl (cI, 6, .inl eU))] (wt_QI D (fun r w => ∃ (eW2 eS2 : Nat → Int32) (ta2 : Nat) (tp_f2 tp_f3 : Int32), w = [(tp, .inr (3, [.ref bt, .int (nI tl), .int tp_f2, .int tp_f3, .int (nI ta2)])), (bt, .inl (cI, 120, .inl bf)), (th, .inr (0, [.int t0, .int t1, .int (nI R), .int (nI T), .int t4, .ref tW, .ref tS, .ref tK, .ref tP, .ref tT, .ref tH, .ref tU])), (tW, .inl (cI, 5, .inl eW2)), (tS, .inl (cI, 5, .inl eS2)), (tK, .inl (cI, 6, .inl eK)), (tP, .inl (cI, 6, .inl eP)), (tT, .inl (cI, 6, .inl eT)), (tH, .inl (cI, 6, .inl eH)), (tU, .inl (cI, 6, .inl eU))] ∧ ta2 ≤ tl)) := by
  refine wt_M.ofW (cc := cX3_tellRoom) (maxL := 3) (ret := (some .boolean)) (by decide) rfl (Nat.le_of_ble_eq_true rfl) ?_
  intro p e s m below meth c A ls hx hb hr hts hown hlocks hml hnm hP hK hD hA hS hl
  have hP : va_P D vwCl [(tp, .inr (3, [.ref bt, .int (nI tl), .int s2, .int s3, .int (nI ta)])), (bt, .inl (cI, 120, .inl bf)), (th, .inr (0, [.int t0, .int t1, .int (nI R), .int (nI T), .int t4, .ref tW, .ref tS, .ref tK, .ref tP, .ref tT, .ref tH, .ref tU])), (tW, .inl (cI, 5, .inl eW)), (tS, .inl (cI, 5, .inl eS)), (tK, .inl (cI, 6, .inl eK)), (tP, .inl (cI, 6, .inl eP)), (tT, .inl (cI, 6, .inl eT)), (tH, .inl (cI, 6, .inl eH)), (tU, .inl (cI, 6, .inl eU))] s.heap := hP
  have hown : s.vm.findClass RX3 = some m.cls := hown
  have hl : lv_has ls 3 [(0, .ref tp), (1, .ref th), (2, .int (nI i))] := hl
  have hi0 : ∀ w ∈ u_ws RX0 TX0 12, w ∈ wsX3_tellRoom := by decide +kernel
  have wf74 := hts (.fieldLink RX3 74 "WarmTubes$House" "warmth" "[I") (by decide +kernel)
  have wf77 := hts (.fieldLink RX3 77 "WarmTubes$House" "stove" "[I") (by decide +kernel)
  refine lv_aload_n hx hb dX3_tellRoom_0 rfl (lv_at hl 0 rfl) ?_
  refine lv_bipush (v := 109) hx hb dX3_tellRoom_1 (by decide) ?_
  refine wt_goI (wr := [(th, .inr (0, [.int t0, .int t1, .int (nI R), .int (nI T), .int t4, .ref tW, .ref tS, .ref tK, .ref tP, .ref tT, .ref tH, .ref tU])), (tW, .inl (cI, 5, .inl eW)), (tS, .inl (cI, 5, .inl eS)), (tK, .inl (cI, 6, .inl eK)), (tP, .inl (cI, 6, .inl eP)), (tT, .inl (cI, 6, .inl eT)), (tH, .inl (cI, 6, .inl eH)), (tU, .inl (cI, 6, .inl eU))]) (wt_runV (As := [.int 109]) (rest := []) ⟨hx, hb, hml, hown, hts⟩ (c_X3_pass l D cI cZ cH tp bt tl ta bf s2 s3 109 (by first | assumption | omega) (by first | assumption | omega) (by decide)) (cwV 1 hts gX3_tellRoom_X3_pass rfl rfl rfl (by decide +kernel) ⟨Nat.le_of_ble_eq_true rfl, Nat.le_of_ble_eq_true rfl⟩) hK hP hD [0, 1] rfl (by decide) (va_recv hK.1 hP (ci := 3) (q0 := 0) rfl rfl) rfl hl.1 rfl (Nat.le_of_ble_eq_true rfl) dX3_tellRoom_3 ⟨Nat.le_of_ble_eq_true rfl, Nat.le_of_ble_eq_true rfl⟩) hP hD hS hA [0, 1] [2, 3, 4, 5, 6, 7, 8, 9] rfl rfl (by decide) (by decide) (fun r_1 w_2 H locs h_3 hP hD hS => ?_)
  obtain ⟨ta2_4, tp_f2_5, tp_f3_6, rfl, x_7⟩ := h_3
  have hP : va_P D vwCl [(th, .inr (0, [.int t0, .int t1, .int (nI R), .int (nI T), .int t4, .ref tW, .ref tS, .ref tK, .ref tP, .ref tT, .ref tH, .ref tU])), (tW, .inl (cI, 5, .inl eW)), (tS, .inl (cI, 5, .inl eS)), (tK, .inl (cI, 6, .inl eK)), (tP, .inl (cI, 6, .inl eP)), (tT, .inl (cI, 6, .inl eT)), (tH, .inl (cI, 6, .inl eH)), (tU, .inl (cI, 6, .inl eU)), (tp, .inr (3, [.ref bt, .int (nI tl), .int tp_f2_5, .int tp_f3_6, .int (nI ta2_4)])), (bt, .inl (cI, 120, .inl bf))] H := hP
  have hD : va_D A [(th, .inr (0, [.int t0, .int t1, .int (nI R), .int (nI T), .int t4, .ref tW, .ref tS, .ref tK, .ref tP, .ref tT, .ref tH, .ref tU])), (tW, .inl (cI, 5, .inl eW)), (tS, .inl (cI, 5, .inl eS)), (tK, .inl (cI, 6, .inl eK)), (tP, .inl (cI, 6, .inl eP)), (tT, .inl (cI, 6, .inl eT)), (tH, .inl (cI, 6, .inl eH)), (tU, .inl (cI, 6, .inl eU)), (tp, .inr (3, [.ref bt, .int (nI tl), .int tp_f2_5, .int tp_f3_6, .int (nI ta2_4)])), (bt, .inl (cI, 120, .inl bf))] := hD
  refine lv_if_ne (tgt := 11) hx hb dX3_tellRoom_6 (by decide) (fun c_8 => ?_) (fun c_8 => ?_)
  · skip
    refine lv_aload_n hx hb dX3_tellRoom_11 rfl (lv_at hl 1 rfl) ?_
    refine va_get (D := D) (ci := 0) (v := .ref tW) (C := RX0) (T := TX0) (N := 12) hx hb hts hi0 hown hK.1 hP 0 rfl rfl 5 (by decide) wf74 (fun _ h9 => h9) rfl dX3_tellRoom_12 ?_
    refine lv_iload_n hx hb dX3_tellRoom_15 rfl (lv_at hl 2 rfl) ?_
    refine lv_aload_n hx hb dX3_tellRoom_16 rfl (lv_at hl 0 rfl) ?_
    refine lv_iconst (v := 0) hx hb dX3_tellRoom_17 (by decide) ?_
    refine lv_bipush (v := 99) hx hb dX3_tellRoom_18 (by decide) ?_
    refine wt_goI (wr := [(th, .inr (0, [.int t0, .int t1, .int (nI R), .int (nI T), .int t4, .ref tW, .ref tS, .ref tK, .ref tP, .ref tT, .ref tH, .ref tU])), (tW, .inl (cI, 5, .inl eW)), (tS, .inl (cI, 5, .inl eS)), (tK, .inl (cI, 6, .inl eK)), (tP, .inl (cI, 6, .inl eP)), (tT, .inl (cI, 6, .inl eT)), (tH, .inl (cI, 6, .inl eH)), (tU, .inl (cI, 6, .inl eU))]) (wt_runV (As := [.int 0, .int 99]) (rest := [.int (nI i), .ref tW]) ⟨hx, hb, hml, hown, hts⟩ (c_X3_number l D cI cZ cH tp bt tl ta2_4 bf tp_f2_5 tp_f3_6 0 99 (by first | assumption | omega) (by first | assumption | omega) (by first | assumption | omega) (by first | assumption | omega)) (cwV 2 hts gX3_tellRoom_X3_number rfl rfl rfl (by decide +kernel) ⟨Nat.le_of_ble_eq_true rfl, Nat.le_of_ble_eq_true rfl⟩) hK hP hD [8, 9] rfl (by decide) (va_recv hK.1 hP (ci := 3) (q0 := 8) rfl rfl) rfl hl.1 rfl (Nat.le_of_ble_eq_true rfl) dX3_tellRoom_20 ⟨Nat.le_of_ble_eq_true rfl, Nat.le_of_ble_eq_true rfl⟩) hP hD hS hA [8, 9] [0, 1, 2, 3, 4, 5, 6, 7] rfl rfl (by decide) (by decide) (fun r_9 w_10 H locs h_11 hP hD hS => ?_)
    obtain ⟨ta2_12, tp_f2_13, tp_f3_14, rfl, x_15⟩ := h_11
    have hP : va_P D vwCl [(th, .inr (0, [.int t0, .int t1, .int (nI R), .int (nI T), .int t4, .ref tW, .ref tS, .ref tK, .ref tP, .ref tT, .ref tH, .ref tU])), (tW, .inl (cI, 5, .inl eW)), (tS, .inl (cI, 5, .inl eS)), (tK, .inl (cI, 6, .inl eK)), (tP, .inl (cI, 6, .inl eP)), (tT, .inl (cI, 6, .inl eT)), (tH, .inl (cI, 6, .inl eH)), (tU, .inl (cI, 6, .inl eU)), (tp, .inr (3, [.ref bt, .int (nI tl), .int tp_f2_13, .int tp_f3_14, .int (nI ta2_12)])), (bt, .inl (cI, 120, .inl bf))] H := hP
    have hD : va_D A [(th, .inr (0, [.int t0, .int t1, .int (nI R), .int (nI T), .int t4, .ref tW, .ref tS, .ref tK, .ref tP, .ref tT, .ref tH, .ref tU])), (tW, .inl (cI, 5, .inl eW)), (tS, .inl (cI, 5, .inl eS)), (tK, .inl (cI, 6, .inl eK)), (tP, .inl (cI, 6, .inl eP)), (tT, .inl (cI, 6, .inl eT)), (tH, .inl (cI, 6, .inl eH)), (tU, .inl (cI, 6, .inl eU)), (tp, .inr (3, [.ref bt, .int (nI tl), .int tp_f2_13, .int tp_f3_14, .int (nI ta2_12)])), (bt, .inl (cI, 120, .inl bf))] := hD
    obtain ⟨hta_16, hv_17⟩ := x_15
    refine va_iast hx hb hK.1 hP hD hS 1 0 rfl rfl (vp_in_nI (by omega) (by omega)) dX3_tellRoom_23 (fun H locs hP hD hS => ?_)
    have hP : va_P D vwCl [(th, .inr (0, [.int t0, .int t1, .int (nI R), .int (nI T), .int t4, .ref tW, .ref tS, .ref tK, .ref tP, .ref tT, .ref tH, .ref tU])), (tW, .inl (cI, 5, .inl (upd eW ((nI i).toNatClampNeg) r_9))), (tS, .inl (cI, 5, .inl eS)), (tK, .inl (cI, 6, .inl eK)), (tP, .inl (cI, 6, .inl eP)), (tT, .inl (cI, 6, .inl eT)), (tH, .inl (cI, 6, .inl eH)), (tU, .inl (cI, 6, .inl eU)), (tp, .inr (3, [.ref bt, .int (nI tl), .int tp_f2_13, .int tp_f3_14, .int (nI ta2_12)])), (bt, .inl (cI, 120, .inl bf))] H := hP
    have hD : va_D A [(th, .inr (0, [.int t0, .int t1, .int (nI R), .int (nI T), .int t4, .ref tW, .ref tS, .ref tK, .ref tP, .ref tT, .ref tH, .ref tU])), (tW, .inl (cI, 5, .inl (upd eW ((nI i).toNatClampNeg) r_9))), (tS, .inl (cI, 5, .inl eS)), (tK, .inl (cI, 6, .inl eK)), (tP, .inl (cI, 6, .inl eP)), (tT, .inl (cI, 6, .inl eT)), (tH, .inl (cI, 6, .inl eH)), (tU, .inl (cI, 6, .inl eU)), (tp, .inr (3, [.ref bt, .int (nI tl), .int tp_f2_13, .int tp_f3_14, .int (nI ta2_12)])), (bt, .inl (cI, 120, .inl bf))] := hD
    generalize upd eW ((nI i).toNatClampNeg) r_9 = eW_18 at hP hD
    refine lv_aload_n hx hb dX3_tellRoom_24 rfl (lv_at hl 1 rfl) ?_
    refine va_get (D := D) (ci := 0) (v := .ref tW) (C := RX0) (T := TX0) (N := 12) hx hb hts hi0 hown hK.1 hP 0 rfl rfl 5 (by decide) wf74 (fun _ h9 => h9) rfl dX3_tellRoom_25 ?_
    refine lv_iload_n hx hb dX3_tellRoom_28 rfl (lv_at hl 2 rfl) ?_
    refine va_iald hx hb hK.1 hP 1 0 rfl rfl (vp_in_nI (by omega) (by omega)) dX3_tellRoom_29 ?_
    refine lv_topi (fun ov_19 _ => ?_)
    refine lv_if_lt (tgt := 42) hx hb dX3_tellRoom_30 (by decide) (fun c_20 => ?_) (fun c_20 => ?_)
    · skip
      refine lv_iconst (v := 0) hx hb dX3_tellRoom_42 (by decide) ?_
      have hP9 := hP.sub (ws' := [(tp, .inr (3, [.ref bt, .int (nI tl), .int tp_f2_13, .int tp_f3_14, .int (nI ta2_12)])), (bt, .inl (cI, 120, .inl bf)), (th, .inr (0, [.int t0, .int t1, .int (nI R), .int (nI T), .int t4, .ref tW, .ref tS, .ref tK, .ref tP, .ref tT, .ref tH, .ref tU])), (tW, .inl (cI, 5, .inl eW_18)), (tS, .inl (cI, 5, .inl eS)), (tK, .inl (cI, 6, .inl eK)), (tP, .inl (cI, 6, .inl eP)), (tT, .inl (cI, 6, .inl eT)), (tH, .inl (cI, 6, .inl eH)), (tU, .inl (cI, 6, .inl eU))]) [8, 9, 0, 1, 2, 3, 4, 5, 6, 7] rfl
      have hD9 := hD.sub (ws' := [(tp, .inr (3, [.ref bt, .int (nI tl), .int tp_f2_13, .int tp_f3_14, .int (nI ta2_12)])), (bt, .inl (cI, 120, .inl bf)), (th, .inr (0, [.int t0, .int t1, .int (nI R), .int (nI T), .int t4, .ref tW, .ref tS, .ref tK, .ref tP, .ref tT, .ref tH, .ref tU])), (tW, .inl (cI, 5, .inl eW_18)), (tS, .inl (cI, 5, .inl eS)), (tK, .inl (cI, 6, .inl eK)), (tP, .inl (cI, 6, .inl eP)), (tT, .inl (cI, 6, .inl eT)), (tH, .inl (cI, 6, .inl eH)), (tU, .inl (cI, 6, .inl eU))]) [8, 9, 0, 1, 2, 3, 4, 5, 6, 7] (by decide) rfl
      exact wt_zret hx hb hr hlocks (by decide) hP9 hD9 hS ⟨eW_18, eS, ta2_12, tp_f2_13, tp_f3_14, rfl, (by omega)⟩ dX3_tellRoom_43
    · skip
      refine lv_aload_n hx hb dX3_tellRoom_33 rfl (lv_at hl 0 rfl) ?_
      refine lv_bipush (v := 44) hx hb dX3_tellRoom_34 (by decide) ?_
      refine wt_goI (wr := [(th, .inr (0, [.int t0, .int t1, .int (nI R), .int (nI T), .int t4, .ref tW, .ref tS, .ref tK, .ref tP, .ref tT, .ref tH, .ref tU])), (tW, .inl (cI, 5, .inl eW_18)), (tS, .inl (cI, 5, .inl eS)), (tK, .inl (cI, 6, .inl eK)), (tP, .inl (cI, 6, .inl eP)), (tT, .inl (cI, 6, .inl eT)), (tH, .inl (cI, 6, .inl eH)), (tU, .inl (cI, 6, .inl eU))]) (wt_runV (As := [.int 44]) (rest := []) ⟨hx, hb, hml, hown, hts⟩ (c_X3_pass l D cI cZ cH tp bt tl ta2_12 bf tp_f2_13 tp_f3_14 44 (by first | assumption | omega) (by first | assumption | omega) (by decide)) (cwV 1 hts gX3_tellRoom_X3_pass rfl rfl rfl (by decide +kernel) ⟨Nat.le_of_ble_eq_true rfl, Nat.le_of_ble_eq_true rfl⟩) hK hP hD [8, 9] rfl (by decide) (va_recv hK.1 hP (ci := 3) (q0 := 8) rfl rfl) rfl hl.1 rfl (Nat.le_of_ble_eq_true rfl) dX3_tellRoom_36 ⟨Nat.le_of_ble_eq_true rfl, Nat.le_of_ble_eq_true rfl⟩) hP hD hS hA [8, 9] [0, 1, 2, 3, 4, 5, 6, 7] rfl rfl (by decide) (by decide) (fun r_21 w_22 H locs h_23 hP hD hS => ?_)
      obtain ⟨ta2_24, tp_f2_25, tp_f3_26, rfl, x_27⟩ := h_23
      have hP : va_P D vwCl [(th, .inr (0, [.int t0, .int t1, .int (nI R), .int (nI T), .int t4, .ref tW, .ref tS, .ref tK, .ref tP, .ref tT, .ref tH, .ref tU])), (tW, .inl (cI, 5, .inl eW_18)), (tS, .inl (cI, 5, .inl eS)), (tK, .inl (cI, 6, .inl eK)), (tP, .inl (cI, 6, .inl eP)), (tT, .inl (cI, 6, .inl eT)), (tH, .inl (cI, 6, .inl eH)), (tU, .inl (cI, 6, .inl eU)), (tp, .inr (3, [.ref bt, .int (nI tl), .int tp_f2_25, .int tp_f3_26, .int (nI ta2_24)])), (bt, .inl (cI, 120, .inl bf))] H := hP
      have hD : va_D A [(th, .inr (0, [.int t0, .int t1, .int (nI R), .int (nI T), .int t4, .ref tW, .ref tS, .ref tK, .ref tP, .ref tT, .ref tH, .ref tU])), (tW, .inl (cI, 5, .inl eW_18)), (tS, .inl (cI, 5, .inl eS)), (tK, .inl (cI, 6, .inl eK)), (tP, .inl (cI, 6, .inl eP)), (tT, .inl (cI, 6, .inl eT)), (tH, .inl (cI, 6, .inl eH)), (tU, .inl (cI, 6, .inl eU)), (tp, .inr (3, [.ref bt, .int (nI tl), .int tp_f2_25, .int tp_f3_26, .int (nI ta2_24)])), (bt, .inl (cI, 120, .inl bf))] := hD
      refine lv_if_ne (tgt := 44) hx hb dX3_tellRoom_39 (by decide) (fun c_28 => ?_) (fun c_28 => ?_)
      · skip
        refine lv_aload_n hx hb dX3_tellRoom_44 rfl (lv_at hl 1 rfl) ?_
        refine va_get (D := D) (ci := 0) (v := .ref tS) (C := RX0) (T := TX0) (N := 12) hx hb hts hi0 hown hK.1 hP 0 rfl rfl 6 (by decide) wf77 (fun _ h9 => h9) rfl dX3_tellRoom_45 ?_
        refine lv_iload_n hx hb dX3_tellRoom_48 rfl (lv_at hl 2 rfl) ?_
        refine lv_aload_n hx hb dX3_tellRoom_49 rfl (lv_at hl 0 rfl) ?_
        refine lv_iconst (v := 0) hx hb dX3_tellRoom_50 (by decide) ?_
        refine lv_bipush (v := 20) hx hb dX3_tellRoom_51 (by decide) ?_
        refine wt_goI (wr := [(th, .inr (0, [.int t0, .int t1, .int (nI R), .int (nI T), .int t4, .ref tW, .ref tS, .ref tK, .ref tP, .ref tT, .ref tH, .ref tU])), (tW, .inl (cI, 5, .inl eW_18)), (tS, .inl (cI, 5, .inl eS)), (tK, .inl (cI, 6, .inl eK)), (tP, .inl (cI, 6, .inl eP)), (tT, .inl (cI, 6, .inl eT)), (tH, .inl (cI, 6, .inl eH)), (tU, .inl (cI, 6, .inl eU))]) (wt_runV (As := [.int 0, .int 20]) (rest := [.int (nI i), .ref tS]) ⟨hx, hb, hml, hown, hts⟩ (c_X3_number l D cI cZ cH tp bt tl ta2_24 bf tp_f2_25 tp_f3_26 0 20 (by first | assumption | omega) (by first | assumption | omega) (by first | assumption | omega) (by first | assumption | omega)) (cwV 2 hts gX3_tellRoom_X3_number rfl rfl rfl (by decide +kernel) ⟨Nat.le_of_ble_eq_true rfl, Nat.le_of_ble_eq_true rfl⟩) hK hP hD [8, 9] rfl (by decide) (va_recv hK.1 hP (ci := 3) (q0 := 8) rfl rfl) rfl hl.1 rfl (Nat.le_of_ble_eq_true rfl) dX3_tellRoom_53 ⟨Nat.le_of_ble_eq_true rfl, Nat.le_of_ble_eq_true rfl⟩) hP hD hS hA [8, 9] [0, 1, 2, 3, 4, 5, 6, 7] rfl rfl (by decide) (by decide) (fun r_29 w_30 H locs h_31 hP hD hS => ?_)
        obtain ⟨ta2_32, tp_f2_33, tp_f3_34, rfl, x_35⟩ := h_31
        have hP : va_P D vwCl [(th, .inr (0, [.int t0, .int t1, .int (nI R), .int (nI T), .int t4, .ref tW, .ref tS, .ref tK, .ref tP, .ref tT, .ref tH, .ref tU])), (tW, .inl (cI, 5, .inl eW_18)), (tS, .inl (cI, 5, .inl eS)), (tK, .inl (cI, 6, .inl eK)), (tP, .inl (cI, 6, .inl eP)), (tT, .inl (cI, 6, .inl eT)), (tH, .inl (cI, 6, .inl eH)), (tU, .inl (cI, 6, .inl eU)), (tp, .inr (3, [.ref bt, .int (nI tl), .int tp_f2_33, .int tp_f3_34, .int (nI ta2_32)])), (bt, .inl (cI, 120, .inl bf))] H := hP
        have hD : va_D A [(th, .inr (0, [.int t0, .int t1, .int (nI R), .int (nI T), .int t4, .ref tW, .ref tS, .ref tK, .ref tP, .ref tT, .ref tH, .ref tU])), (tW, .inl (cI, 5, .inl eW_18)), (tS, .inl (cI, 5, .inl eS)), (tK, .inl (cI, 6, .inl eK)), (tP, .inl (cI, 6, .inl eP)), (tT, .inl (cI, 6, .inl eT)), (tH, .inl (cI, 6, .inl eH)), (tU, .inl (cI, 6, .inl eU)), (tp, .inr (3, [.ref bt, .int (nI tl), .int tp_f2_33, .int tp_f3_34, .int (nI ta2_32)])), (bt, .inl (cI, 120, .inl bf))] := hD
        obtain ⟨hta_36, hv_37⟩ := x_35
        refine va_iast hx hb hK.1 hP hD hS 2 0 rfl rfl (vp_in_nI (by omega) (by omega)) dX3_tellRoom_56 (fun H locs hP hD hS => ?_)
        have hP : va_P D vwCl [(th, .inr (0, [.int t0, .int t1, .int (nI R), .int (nI T), .int t4, .ref tW, .ref tS, .ref tK, .ref tP, .ref tT, .ref tH, .ref tU])), (tW, .inl (cI, 5, .inl eW_18)), (tS, .inl (cI, 5, .inl (upd eS ((nI i).toNatClampNeg) r_29))), (tK, .inl (cI, 6, .inl eK)), (tP, .inl (cI, 6, .inl eP)), (tT, .inl (cI, 6, .inl eT)), (tH, .inl (cI, 6, .inl eH)), (tU, .inl (cI, 6, .inl eU)), (tp, .inr (3, [.ref bt, .int (nI tl), .int tp_f2_33, .int tp_f3_34, .int (nI ta2_32)])), (bt, .inl (cI, 120, .inl bf))] H := hP
        have hD : va_D A [(th, .inr (0, [.int t0, .int t1, .int (nI R), .int (nI T), .int t4, .ref tW, .ref tS, .ref tK, .ref tP, .ref tT, .ref tH, .ref tU])), (tW, .inl (cI, 5, .inl eW_18)), (tS, .inl (cI, 5, .inl (upd eS ((nI i).toNatClampNeg) r_29))), (tK, .inl (cI, 6, .inl eK)), (tP, .inl (cI, 6, .inl eP)), (tT, .inl (cI, 6, .inl eT)), (tH, .inl (cI, 6, .inl eH)), (tU, .inl (cI, 6, .inl eU)), (tp, .inr (3, [.ref bt, .int (nI tl), .int tp_f2_33, .int tp_f3_34, .int (nI ta2_32)])), (bt, .inl (cI, 120, .inl bf))] := hD
        generalize upd eS ((nI i).toNatClampNeg) r_29 = eS_38 at hP hD
        refine lv_aload_n hx hb dX3_tellRoom_57 rfl (lv_at hl 1 rfl) ?_
        refine va_get (D := D) (ci := 0) (v := .ref tS) (C := RX0) (T := TX0) (N := 12) hx hb hts hi0 hown hK.1 hP 0 rfl rfl 6 (by decide) wf77 (fun _ h9 => h9) rfl dX3_tellRoom_58 ?_
        refine lv_iload_n hx hb dX3_tellRoom_61 rfl (lv_at hl 2 rfl) ?_
        refine va_iald hx hb hK.1 hP 2 0 rfl rfl (vp_in_nI (by omega) (by omega)) dX3_tellRoom_62 ?_
        refine lv_topi (fun ov_39 _ => ?_)
        refine lv_if_lt (tgt := 79) hx hb dX3_tellRoom_63 (by decide) (fun c_40 => ?_) (fun c_40 => ?_)
        · skip
          refine lv_iconst (v := 0) hx hb dX3_tellRoom_79 (by decide) ?_
          have hP9 := hP.sub (ws' := [(tp, .inr (3, [.ref bt, .int (nI tl), .int tp_f2_33, .int tp_f3_34, .int (nI ta2_32)])), (bt, .inl (cI, 120, .inl bf)), (th, .inr (0, [.int t0, .int t1, .int (nI R), .int (nI T), .int t4, .ref tW, .ref tS, .ref tK, .ref tP, .ref tT, .ref tH, .ref tU])), (tW, .inl (cI, 5, .inl eW_18)), (tS, .inl (cI, 5, .inl eS_38)), (tK, .inl (cI, 6, .inl eK)), (tP, .inl (cI, 6, .inl eP)), (tT, .inl (cI, 6, .inl eT)), (tH, .inl (cI, 6, .inl eH)), (tU, .inl (cI, 6, .inl eU))]) [8, 9, 0, 1, 2, 3, 4, 5, 6, 7] rfl
          have hD9 := hD.sub (ws' := [(tp, .inr (3, [.ref bt, .int (nI tl), .int tp_f2_33, .int tp_f3_34, .int (nI ta2_32)])), (bt, .inl (cI, 120, .inl bf)), (th, .inr (0, [.int t0, .int t1, .int (nI R), .int (nI T), .int t4, .ref tW, .ref tS, .ref tK, .ref tP, .ref tT, .ref tH, .ref tU])), (tW, .inl (cI, 5, .inl eW_18)), (tS, .inl (cI, 5, .inl eS_38)), (tK, .inl (cI, 6, .inl eK)), (tP, .inl (cI, 6, .inl eP)), (tT, .inl (cI, 6, .inl eT)), (tH, .inl (cI, 6, .inl eH)), (tU, .inl (cI, 6, .inl eU))]) [8, 9, 0, 1, 2, 3, 4, 5, 6, 7] (by decide) rfl
          exact wt_zret hx hb hr hlocks (by decide) hP9 hD9 hS ⟨eW_18, eS_38, ta2_32, tp_f2_33, tp_f3_34, rfl, (by omega)⟩ dX3_tellRoom_80
        · skip
          refine lv_aload_n hx hb dX3_tellRoom_66 rfl (lv_at hl 0 rfl) ?_
          refine lv_bipush (v := 59) hx hb dX3_tellRoom_67 (by decide) ?_
          refine wt_goI (wr := [(th, .inr (0, [.int t0, .int t1, .int (nI R), .int (nI T), .int t4, .ref tW, .ref tS, .ref tK, .ref tP, .ref tT, .ref tH, .ref tU])), (tW, .inl (cI, 5, .inl eW_18)), (tS, .inl (cI, 5, .inl eS_38)), (tK, .inl (cI, 6, .inl eK)), (tP, .inl (cI, 6, .inl eP)), (tT, .inl (cI, 6, .inl eT)), (tH, .inl (cI, 6, .inl eH)), (tU, .inl (cI, 6, .inl eU))]) (wt_runV (As := [.int 59]) (rest := []) ⟨hx, hb, hml, hown, hts⟩ (c_X3_pass l D cI cZ cH tp bt tl ta2_32 bf tp_f2_33 tp_f3_34 59 (by first | assumption | omega) (by first | assumption | omega) (by decide)) (cwV 1 hts gX3_tellRoom_X3_pass rfl rfl rfl (by decide +kernel) ⟨Nat.le_of_ble_eq_true rfl, Nat.le_of_ble_eq_true rfl⟩) hK hP hD [8, 9] rfl (by decide) (va_recv hK.1 hP (ci := 3) (q0 := 8) rfl rfl) rfl hl.1 rfl (Nat.le_of_ble_eq_true rfl) dX3_tellRoom_69 ⟨Nat.le_of_ble_eq_true rfl, Nat.le_of_ble_eq_true rfl⟩) hP hD hS hA [8, 9] [0, 1, 2, 3, 4, 5, 6, 7] rfl rfl (by decide) (by decide) (fun r_41 w_42 H locs h_43 hP hD hS => ?_)
          obtain ⟨ta2_44, tp_f2_45, tp_f3_46, rfl, x_47⟩ := h_43
          have hP : va_P D vwCl [(th, .inr (0, [.int t0, .int t1, .int (nI R), .int (nI T), .int t4, .ref tW, .ref tS, .ref tK, .ref tP, .ref tT, .ref tH, .ref tU])), (tW, .inl (cI, 5, .inl eW_18)), (tS, .inl (cI, 5, .inl eS_38)), (tK, .inl (cI, 6, .inl eK)), (tP, .inl (cI, 6, .inl eP)), (tT, .inl (cI, 6, .inl eT)), (tH, .inl (cI, 6, .inl eH)), (tU, .inl (cI, 6, .inl eU)), (tp, .inr (3, [.ref bt, .int (nI tl), .int tp_f2_45, .int tp_f3_46, .int (nI ta2_44)])), (bt, .inl (cI, 120, .inl bf))] H := hP
          have hD : va_D A [(th, .inr (0, [.int t0, .int t1, .int (nI R), .int (nI T), .int t4, .ref tW, .ref tS, .ref tK, .ref tP, .ref tT, .ref tH, .ref tU])), (tW, .inl (cI, 5, .inl eW_18)), (tS, .inl (cI, 5, .inl eS_38)), (tK, .inl (cI, 6, .inl eK)), (tP, .inl (cI, 6, .inl eP)), (tT, .inl (cI, 6, .inl eT)), (tH, .inl (cI, 6, .inl eH)), (tU, .inl (cI, 6, .inl eU)), (tp, .inr (3, [.ref bt, .int (nI tl), .int tp_f2_45, .int tp_f3_46, .int (nI ta2_44)])), (bt, .inl (cI, 120, .inl bf))] := hD
          refine lv_if_eq (tgt := 79) hx hb dX3_tellRoom_72 (by decide) (fun c_48 => ?_) (fun c_48 => ?_)
          · skip
            refine lv_iconst (v := 0) hx hb dX3_tellRoom_79 (by decide) ?_
            have hP9 := hP.sub (ws' := [(tp, .inr (3, [.ref bt, .int (nI tl), .int tp_f2_45, .int tp_f3_46, .int (nI ta2_44)])), (bt, .inl (cI, 120, .inl bf)), (th, .inr (0, [.int t0, .int t1, .int (nI R), .int (nI T), .int t4, .ref tW, .ref tS, .ref tK, .ref tP, .ref tT, .ref tH, .ref tU])), (tW, .inl (cI, 5, .inl eW_18)), (tS, .inl (cI, 5, .inl eS_38)), (tK, .inl (cI, 6, .inl eK)), (tP, .inl (cI, 6, .inl eP)), (tT, .inl (cI, 6, .inl eT)), (tH, .inl (cI, 6, .inl eH)), (tU, .inl (cI, 6, .inl eU))]) [8, 9, 0, 1, 2, 3, 4, 5, 6, 7] rfl
            have hD9 := hD.sub (ws' := [(tp, .inr (3, [.ref bt, .int (nI tl), .int tp_f2_45, .int tp_f3_46, .int (nI ta2_44)])), (bt, .inl (cI, 120, .inl bf)), (th, .inr (0, [.int t0, .int t1, .int (nI R), .int (nI T), .int t4, .ref tW, .ref tS, .ref tK, .ref tP, .ref tT, .ref tH, .ref tU])), (tW, .inl (cI, 5, .inl eW_18)), (tS, .inl (cI, 5, .inl eS_38)), (tK, .inl (cI, 6, .inl eK)), (tP, .inl (cI, 6, .inl eP)), (tT, .inl (cI, 6, .inl eT)), (tH, .inl (cI, 6, .inl eH)), (tU, .inl (cI, 6, .inl eU))]) [8, 9, 0, 1, 2, 3, 4, 5, 6, 7] (by decide) rfl
            exact wt_zret hx hb hr hlocks (by decide) hP9 hD9 hS ⟨eW_18, eS_38, ta2_44, tp_f2_45, tp_f3_46, rfl, (by omega)⟩ dX3_tellRoom_80
          · skip
            refine lv_iconst (v := 1) hx hb dX3_tellRoom_75 (by decide) ?_
            refine lv_goto (tgt := 80) hx hb dX3_tellRoom_76 (by decide) ?_
            have hP9 := hP.sub (ws' := [(tp, .inr (3, [.ref bt, .int (nI tl), .int tp_f2_45, .int tp_f3_46, .int (nI ta2_44)])), (bt, .inl (cI, 120, .inl bf)), (th, .inr (0, [.int t0, .int t1, .int (nI R), .int (nI T), .int t4, .ref tW, .ref tS, .ref tK, .ref tP, .ref tT, .ref tH, .ref tU])), (tW, .inl (cI, 5, .inl eW_18)), (tS, .inl (cI, 5, .inl eS_38)), (tK, .inl (cI, 6, .inl eK)), (tP, .inl (cI, 6, .inl eP)), (tT, .inl (cI, 6, .inl eT)), (tH, .inl (cI, 6, .inl eH)), (tU, .inl (cI, 6, .inl eU))]) [8, 9, 0, 1, 2, 3, 4, 5, 6, 7] rfl
            have hD9 := hD.sub (ws' := [(tp, .inr (3, [.ref bt, .int (nI tl), .int tp_f2_45, .int tp_f3_46, .int (nI ta2_44)])), (bt, .inl (cI, 120, .inl bf)), (th, .inr (0, [.int t0, .int t1, .int (nI R), .int (nI T), .int t4, .ref tW, .ref tS, .ref tK, .ref tP, .ref tT, .ref tH, .ref tU])), (tW, .inl (cI, 5, .inl eW_18)), (tS, .inl (cI, 5, .inl eS_38)), (tK, .inl (cI, 6, .inl eK)), (tP, .inl (cI, 6, .inl eP)), (tT, .inl (cI, 6, .inl eT)), (tH, .inl (cI, 6, .inl eH)), (tU, .inl (cI, 6, .inl eU))]) [8, 9, 0, 1, 2, 3, 4, 5, 6, 7] (by decide) rfl
            exact wt_zret hx hb hr hlocks (by decide) hP9 hD9 hS ⟨eW_18, eS_38, ta2_44, tp_f2_45, tp_f3_46, rfl, (by omega)⟩ dX3_tellRoom_80
      · skip
        refine lv_iconst (v := 0) hx hb dX3_tellRoom_42 (by decide) ?_
        have hP9 := hP.sub (ws' := [(tp, .inr (3, [.ref bt, .int (nI tl), .int tp_f2_25, .int tp_f3_26, .int (nI ta2_24)])), (bt, .inl (cI, 120, .inl bf)), (th, .inr (0, [.int t0, .int t1, .int (nI R), .int (nI T), .int t4, .ref tW, .ref tS, .ref tK, .ref tP, .ref tT, .ref tH, .ref tU])), (tW, .inl (cI, 5, .inl eW_18)), (tS, .inl (cI, 5, .inl eS)), (tK, .inl (cI, 6, .inl eK)), (tP, .inl (cI, 6, .inl eP)), (tT, .inl (cI, 6, .inl eT)), (tH, .inl (cI, 6, .inl eH)), (tU, .inl (cI, 6, .inl eU))]) [8, 9, 0, 1, 2, 3, 4, 5, 6, 7] rfl
        have hD9 := hD.sub (ws' := [(tp, .inr (3, [.ref bt, .int (nI tl), .int tp_f2_25, .int tp_f3_26, .int (nI ta2_24)])), (bt, .inl (cI, 120, .inl bf)), (th, .inr (0, [.int t0, .int t1, .int (nI R), .int (nI T), .int t4, .ref tW, .ref tS, .ref tK, .ref tP, .ref tT, .ref tH, .ref tU])), (tW, .inl (cI, 5, .inl eW_18)), (tS, .inl (cI, 5, .inl eS)), (tK, .inl (cI, 6, .inl eK)), (tP, .inl (cI, 6, .inl eP)), (tT, .inl (cI, 6, .inl eT)), (tH, .inl (cI, 6, .inl eH)), (tU, .inl (cI, 6, .inl eU))]) [8, 9, 0, 1, 2, 3, 4, 5, 6, 7] (by decide) rfl
        exact wt_zret hx hb hr hlocks (by decide) hP9 hD9 hS ⟨eW_18, eS, ta2_24, tp_f2_25, tp_f3_26, rfl, (by omega)⟩ dX3_tellRoom_43
  · skip
    refine lv_iconst (v := 0) hx hb dX3_tellRoom_9 (by decide) ?_
    have hP9 := hP.sub (ws' := [(tp, .inr (3, [.ref bt, .int (nI tl), .int tp_f2_5, .int tp_f3_6, .int (nI ta2_4)])), (bt, .inl (cI, 120, .inl bf)), (th, .inr (0, [.int t0, .int t1, .int (nI R), .int (nI T), .int t4, .ref tW, .ref tS, .ref tK, .ref tP, .ref tT, .ref tH, .ref tU])), (tW, .inl (cI, 5, .inl eW)), (tS, .inl (cI, 5, .inl eS)), (tK, .inl (cI, 6, .inl eK)), (tP, .inl (cI, 6, .inl eP)), (tT, .inl (cI, 6, .inl eT)), (tH, .inl (cI, 6, .inl eH)), (tU, .inl (cI, 6, .inl eU))]) [8, 9, 0, 1, 2, 3, 4, 5, 6, 7] rfl
    have hD9 := hD.sub (ws' := [(tp, .inr (3, [.ref bt, .int (nI tl), .int tp_f2_5, .int tp_f3_6, .int (nI ta2_4)])), (bt, .inl (cI, 120, .inl bf)), (th, .inr (0, [.int t0, .int t1, .int (nI R), .int (nI T), .int t4, .ref tW, .ref tS, .ref tK, .ref tP, .ref tT, .ref tH, .ref tU])), (tW, .inl (cI, 5, .inl eW)), (tS, .inl (cI, 5, .inl eS)), (tK, .inl (cI, 6, .inl eK)), (tP, .inl (cI, 6, .inl eP)), (tT, .inl (cI, 6, .inl eT)), (tH, .inl (cI, 6, .inl eH)), (tU, .inl (cI, 6, .inl eU))]) [8, 9, 0, 1, 2, 3, 4, 5, 6, 7] (by decide) rfl
    exact wt_zret hx hb hr hlocks (by decide) hP9 hD9 hS ⟨eW, eS, ta2_4, tp_f2_5, tp_f3_6, rfl, (by omega)⟩ dX3_tellRoom_10
set_option maxHeartbeats 4000000 in
set_option maxRecDepth 100000 in
theorem c_X3_tellRooms (l : Launch) (D : va_G) (cI cZ cH : ClassId) (tp bt : Nat) (tl ta : Nat) (bf : Nat → Int32) (s2 s3 : Int32) (th tW tS tK tP tT tH tU : Nat) (R T : Nat) (t0 t1 t4 : Int32) (eW eS eK eP eT eH eU : Nat → Int32) (htl : tl ≤ 120) (hta : ta ≤ tl) (hR5 : R ≤ 5) (hR0 : R = 0) : wt_M l yX3_tellRooms wsX3_tellRooms ({ frames := 3, cells := 0, slots := 0, locals := 70 } : Room) D (wt_T cI cZ cH) [.ref tp, .ref th] [(tp, .inr (3, [.ref bt, .int (nI tl), .int s2, .int s3, .int (nI ta)])), (bt, .inl (cI, 120, .inl bf)), (th, .inr (0, [.int t0, .int t1, .int (nI R), .int (nI T), .int t4, .ref tW, .ref tS, .ref tK, .ref tP, .ref tT, .ref tH, .ref tU])), (tW, .inl (cI, 5, .inl eW)), (tS, .inl (cI, 5, .inl eS)), (tK, .inl (cI, 6, .inl eK)), (tP, .inl (cI, 6, .inl eP)), (tT, .inl (cI, 6, .inl eT)), (tH, .inl (cI, 6, .inl eH)), (tU, .inl (cI, 6, .inl eU))] (wt_QI D (fun r w => ∃ (eW2 eS2 : Nat → Int32) (ta2 R2 : Nat) (tp_f2 tp_f3 : Int32), w = [(tp, .inr (3, [.ref bt, .int (nI tl), .int tp_f2, .int tp_f3, .int (nI ta2)])), (bt, .inl (cI, 120, .inl bf)), (th, .inr (0, [.int t0, .int t1, .int (nI R2), .int (nI T), .int t4, .ref tW, .ref tS, .ref tK, .ref tP, .ref tT, .ref tH, .ref tU])), (tW, .inl (cI, 5, .inl eW2)), (tS, .inl (cI, 5, .inl eS2)), (tK, .inl (cI, 6, .inl eK)), (tP, .inl (cI, 6, .inl eP)), (tT, .inl (cI, 6, .inl eT)), (tH, .inl (cI, 6, .inl eH)), (tU, .inl (cI, 6, .inl eU))] ∧ ta2 ≤ tl ∧ R2 ≤ 5 ∧ (¬ r = 0 → 0 < R2))) := by
  refine wt_M.ofW (cc := cX3_tellRooms) (maxL := 3) (ret := (some .boolean)) (by decide) rfl (Nat.le_of_ble_eq_true rfl) ?_
  intro p e s m below meth c A ls hx hb hr hts hown hlocks hml hnm hP hK hD hA hS hl
  have hP : va_P D vwCl [(tp, .inr (3, [.ref bt, .int (nI tl), .int s2, .int s3, .int (nI ta)])), (bt, .inl (cI, 120, .inl bf)), (th, .inr (0, [.int t0, .int t1, .int (nI R), .int (nI T), .int t4, .ref tW, .ref tS, .ref tK, .ref tP, .ref tT, .ref tH, .ref tU])), (tW, .inl (cI, 5, .inl eW)), (tS, .inl (cI, 5, .inl eS)), (tK, .inl (cI, 6, .inl eK)), (tP, .inl (cI, 6, .inl eP)), (tT, .inl (cI, 6, .inl eT)), (tH, .inl (cI, 6, .inl eH)), (tU, .inl (cI, 6, .inl eU))] s.heap := hP
  have hown : s.vm.findClass RX3 = some m.cls := hown
  have hl : lv_has ls 3 [(0, .ref tp), (1, .ref th)] := hl
  have hi0 : ∀ w ∈ u_ws RX0 TX0 12, w ∈ wsX3_tellRooms := by decide +kernel
  have wf28 := hts (.fieldLink RX3 28 "WarmTubes$House" "rooms" "I") (by decide +kernel)
  refine lv_iconst (v := 0) hx hb dX3_tellRooms_0 (by decide) ?_
  refine lv_istore_n (lv' := [(2, .int 0), (0, .ref tp), (1, .ref th)]) hx hb dX3_tellRooms_1 rfl hl (by decide) rfl (fun ls hl => ?_)
  have loop2 : ∀ (k i_1 : Nat) (eW_2 : Nat → Int32) (eS_3 : Nat → Int32) (v_4 : Int32) (v_5 : Int32) (n_6 : Nat) (n_7 : Nat) (H : Heap) (locs : List Loc) (ls : Array Slot), i_1 + k = 5 + 1 → (n_6 ≤ tl) → (n_7 = i_1) → (i_1 ≤ 5) → va_P D vwCl [(tp, .inr (3, [.ref bt, .int (nI tl), .int v_4, .int v_5, .int (nI n_6)])), (bt, .inl (cI, 120, .inl bf)), (th, .inr (0, [.int t0, .int t1, .int (nI n_7), .int (nI T), .int t4, .ref tW, .ref tS, .ref tK, .ref tP, .ref tT, .ref tH, .ref tU])), (tW, .inl (cI, 5, .inl eW_2)), (tS, .inl (cI, 5, .inl eS_3)), (tK, .inl (cI, 6, .inl eK)), (tP, .inl (cI, 6, .inl eP)), (tT, .inl (cI, 6, .inl eT)), (tH, .inl (cI, 6, .inl eH)), (tU, .inl (cI, 6, .inl eU))] H → va_D A [(tp, .inr (3, [.ref bt, .int (nI tl), .int v_4, .int v_5, .int (nI n_6)])), (bt, .inl (cI, 120, .inl bf)), (th, .inr (0, [.int t0, .int t1, .int (nI n_7), .int (nI T), .int t4, .ref tW, .ref tS, .ref tK, .ref tP, .ref tT, .ref tH, .ref tU])), (tW, .inl (cI, 5, .inl eW_2)), (tS, .inl (cI, 5, .inl eS_3)), (tK, .inl (cI, 6, .inl eK)), (tP, .inl (cI, 6, .inl eP)), (tT, .inl (cI, 6, .inl eT)), (tH, .inl (cI, 6, .inl eH)), (tU, .inl (cI, 6, .inl eU))] → va_S A s.heap H locs → lv_has ls 3 [(2, .int (nI i_1)), (0, .ref tp), (1, .ref th)] → W p l e ({ frames := 3, cells := 0, slots := 0, locals := 70 } : Room) s m ([.ref tp, .ref th] : List Value).toArray below meth c H locs 0 0 (MQ below (wt_QI D (fun r w => ∃ (eW2 eS2 : Nat → Int32) (ta2 R2 : Nat) (tp_f2 tp_f3 : Int32), w = [(tp, .inr (3, [.ref bt, .int (nI tl), .int tp_f2, .int tp_f3, .int (nI ta2)])), (bt, .inl (cI, 120, .inl bf)), (th, .inr (0, [.int t0, .int t1, .int (nI R2), .int (nI T), .int t4, .ref tW, .ref tS, .ref tK, .ref tP, .ref tT, .ref tH, .ref tU])), (tW, .inl (cI, 5, .inl eW2)), (tS, .inl (cI, 5, .inl eS2)), (tK, .inl (cI, 6, .inl eK)), (tP, .inl (cI, 6, .inl eP)), (tT, .inl (cI, 6, .inl eT)), (tH, .inl (cI, 6, .inl eH)), (tU, .inl (cI, 6, .inl eU))] ∧ ta2 ≤ tl ∧ R2 ≤ 5 ∧ (¬ r = 0 → 0 < R2)) A) ([.ref tp, .ref th] : List Value).toArray s 0 0 A) (F0 m 2 ls []) := by
    intro k
    induction k with
    | zero =>
      intro i_1 eW_2 eS_3 v_4 v_5 n_6 n_7 H locs ls hik hta hn2 hi5 hP hD hS hl
      refine lv_iload_n hx hb dX3_tellRooms_2 rfl (lv_at hl 0 rfl) ?_
      refine lv_iconst (v := 5) hx hb dX3_tellRooms_3 (by decide) ?_
      refine lv_icmp_gt (tgt := 57) hx hb dX3_tellRooms_4 (by decide) (fun _ => ?_) (fun h => absurd (nI_lt (a := 5) (b := i_1) (by omega) (by omega)) h)
      refine lv_iconst (v := 1) hx hb dX3_tellRooms_57 (by decide) ?_
      have hP9 := hP.sub (ws' := [(tp, .inr (3, [.ref bt, .int (nI tl), .int v_4, .int v_5, .int (nI n_6)])), (bt, .inl (cI, 120, .inl bf)), (th, .inr (0, [.int t0, .int t1, .int (nI n_7), .int (nI T), .int t4, .ref tW, .ref tS, .ref tK, .ref tP, .ref tT, .ref tH, .ref tU])), (tW, .inl (cI, 5, .inl eW_2)), (tS, .inl (cI, 5, .inl eS_3)), (tK, .inl (cI, 6, .inl eK)), (tP, .inl (cI, 6, .inl eP)), (tT, .inl (cI, 6, .inl eT)), (tH, .inl (cI, 6, .inl eH)), (tU, .inl (cI, 6, .inl eU))]) [0, 1, 2, 3, 4, 5, 6, 7, 8, 9] rfl
      have hD9 := hD.sub (ws' := [(tp, .inr (3, [.ref bt, .int (nI tl), .int v_4, .int v_5, .int (nI n_6)])), (bt, .inl (cI, 120, .inl bf)), (th, .inr (0, [.int t0, .int t1, .int (nI n_7), .int (nI T), .int t4, .ref tW, .ref tS, .ref tK, .ref tP, .ref tT, .ref tH, .ref tU])), (tW, .inl (cI, 5, .inl eW_2)), (tS, .inl (cI, 5, .inl eS_3)), (tK, .inl (cI, 6, .inl eK)), (tP, .inl (cI, 6, .inl eP)), (tT, .inl (cI, 6, .inl eT)), (tH, .inl (cI, 6, .inl eH)), (tU, .inl (cI, 6, .inl eU))]) [0, 1, 2, 3, 4, 5, 6, 7, 8, 9] (by decide) rfl
      exact wt_zret hx hb hr hlocks (by decide) hP9 hD9 hS ⟨eW_2, eS_3, n_6, n_7, v_4, v_5, rfl, ⟨by omega, by omega, fun _ => by omega⟩⟩ dX3_tellRooms_58
    | succ k ih2 =>
      intro i_1 eW_2 eS_3 v_4 v_5 n_6 n_7 H locs ls hik hta hn2 hi5 hP hD hS hl
      refine lv_iload_n hx hb dX3_tellRooms_2 rfl (lv_at hl 0 rfl) ?_
      refine lv_iconst (v := 5) hx hb dX3_tellRooms_3 (by decide) ?_
      refine lv_icmp_gt (tgt := 57) hx hb dX3_tellRooms_4 (by decide) (fun h => absurd h (nI_nlt (a := 5) (b := i_1) (by omega) (by omega))) (fun _ => ?_)
      refine lv_iload_n hx hb dX3_tellRooms_7 rfl (lv_at hl 0 rfl) ?_
      refine lv_if_le (tgt := 22) hx hb dX3_tellRooms_8 (by decide) (fun c_8 => ?_) (fun c_8 => ?_)
      · skip
        have c_8 : i_1 ≤ 0 := (nI_leI (a := i_1) (b := 0) (by omega) (by omega)).mp c_8
        refine lv_iload_n hx hb dX3_tellRooms_22 rfl (lv_at hl 0 rfl) ?_
        refine lv_iconst (v := 5) hx hb dX3_tellRooms_23 (by decide) ?_
        refine lv_icmp_ne (tgt := 33) hx hb dX3_tellRooms_24 (by decide) (fun c_9 => ?_) (fun c_9 => ?_)
        · skip
          have c_9 : ¬ (i_1 = 5) := fun h => c_9 ((nI_eq (a := i_1) (b := 5) (by omega) (by omega)).mpr h)
          refine lv_aload_n hx hb dX3_tellRooms_33 rfl (lv_at hl 1 rfl) ?_
          refine lv_aload_n hx hb dX3_tellRooms_34 rfl (lv_at hl 2 rfl) ?_
          refine lv_iload_n hx hb dX3_tellRooms_35 rfl (lv_at hl 0 rfl) ?_
          refine wt_goI (wr := []) (wt_runV (As := [.ref th, .int (nI i_1)]) (rest := []) ⟨hx, hb, hml, hown, hts⟩ (c_X3_tellRoom l D cI cZ cH tp bt tl n_6 bf v_4 v_5 th tW tS tK tP tT tH tU n_7 T t0 t1 t4 eW_2 eS_3 eK eP eT eH eU i_1 (by first | assumption | omega) (by first | assumption | omega) (by first | assumption | omega) (by first | assumption | omega)) (cwV 2 hts gX3_tellRooms_X3_tellRoom rfl rfl rfl (by decide +kernel) ⟨Nat.le_of_ble_eq_true rfl, Nat.le_of_ble_eq_true rfl⟩) hK hP hD [0, 1, 2, 3, 4, 5, 6, 7, 8, 9] rfl (by decide) (va_recv hK.1 hP (ci := 3) (q0 := 0) rfl rfl) rfl hl.1 rfl (Nat.le_of_ble_eq_true rfl) dX3_tellRooms_36 ⟨Nat.le_of_ble_eq_true rfl, Nat.le_of_ble_eq_true rfl⟩) hP hD hS hA [0, 1, 2, 3, 4, 5, 6, 7, 8, 9] [] rfl rfl (by decide) (by decide) (fun r_10 w_11 H locs h_12 hP hD hS => ?_)
          obtain ⟨eW2_13, eS2_14, ta2_15, tp_f2_16, tp_f3_17, rfl, x_18⟩ := h_12
          have hP : va_P D vwCl [(tp, .inr (3, [.ref bt, .int (nI tl), .int tp_f2_16, .int tp_f3_17, .int (nI ta2_15)])), (bt, .inl (cI, 120, .inl bf)), (th, .inr (0, [.int t0, .int t1, .int (nI n_7), .int (nI T), .int t4, .ref tW, .ref tS, .ref tK, .ref tP, .ref tT, .ref tH, .ref tU])), (tW, .inl (cI, 5, .inl eW2_13)), (tS, .inl (cI, 5, .inl eS2_14)), (tK, .inl (cI, 6, .inl eK)), (tP, .inl (cI, 6, .inl eP)), (tT, .inl (cI, 6, .inl eT)), (tH, .inl (cI, 6, .inl eH)), (tU, .inl (cI, 6, .inl eU))] H := hP
          have hD : va_D A [(tp, .inr (3, [.ref bt, .int (nI tl), .int tp_f2_16, .int tp_f3_17, .int (nI ta2_15)])), (bt, .inl (cI, 120, .inl bf)), (th, .inr (0, [.int t0, .int t1, .int (nI n_7), .int (nI T), .int t4, .ref tW, .ref tS, .ref tK, .ref tP, .ref tT, .ref tH, .ref tU])), (tW, .inl (cI, 5, .inl eW2_13)), (tS, .inl (cI, 5, .inl eS2_14)), (tK, .inl (cI, 6, .inl eK)), (tP, .inl (cI, 6, .inl eP)), (tT, .inl (cI, 6, .inl eT)), (tH, .inl (cI, 6, .inl eH)), (tU, .inl (cI, 6, .inl eU))] := hD
          refine lv_if_ne (tgt := 44) hx hb dX3_tellRooms_39 (by decide) (fun c_19 => ?_) (fun c_19 => ?_)
          · skip
            refine lv_aload_n hx hb dX3_tellRooms_44 rfl (lv_at hl 2 rfl) ?_
            refine lv_iload_n hx hb dX3_tellRooms_45 rfl (lv_at hl 0 rfl) ?_
            refine lv_iconst (v := 1) hx hb dX3_tellRooms_46 (by decide) ?_
            refine lv_iadd hx hb dX3_tellRooms_47 ?_
            refine wt_top (z := nI (i_1 + 1)) (nI_add i_1 1) ?_
            refine va_put (D := D) (ci := 0) (v := .int (nI (i_1 + 1))) (ty := .int) (C := RX0) (T := TX0) (N := 12) hx hb hts hi0 tyX0 tyX0_ok nmX0 hown hK.1 hP hD hS 2 rfl rfl 2 (by decide) wf28 (fun _ h9 => h9) rfl (by decide +kernel) rfl rfl (Nat.le_of_ble_eq_true rfl) dX3_tellRooms_48 (fun H locs hP hD hS => ?_)
            have hP : va_P D vwCl [(tp, .inr (3, [.ref bt, .int (nI tl), .int tp_f2_16, .int tp_f3_17, .int (nI ta2_15)])), (bt, .inl (cI, 120, .inl bf)), (th, .inr (0, [.int t0, .int t1, .int (nI (i_1 + 1)), .int (nI T), .int t4, .ref tW, .ref tS, .ref tK, .ref tP, .ref tT, .ref tH, .ref tU])), (tW, .inl (cI, 5, .inl eW2_13)), (tS, .inl (cI, 5, .inl eS2_14)), (tK, .inl (cI, 6, .inl eK)), (tP, .inl (cI, 6, .inl eP)), (tT, .inl (cI, 6, .inl eT)), (tH, .inl (cI, 6, .inl eH)), (tU, .inl (cI, 6, .inl eU))] H := hP
            have hD : va_D A [(tp, .inr (3, [.ref bt, .int (nI tl), .int tp_f2_16, .int tp_f3_17, .int (nI ta2_15)])), (bt, .inl (cI, 120, .inl bf)), (th, .inr (0, [.int t0, .int t1, .int (nI (i_1 + 1)), .int (nI T), .int t4, .ref tW, .ref tS, .ref tK, .ref tP, .ref tT, .ref tH, .ref tU])), (tW, .inl (cI, 5, .inl eW2_13)), (tS, .inl (cI, 5, .inl eS2_14)), (tK, .inl (cI, 6, .inl eK)), (tP, .inl (cI, 6, .inl eP)), (tT, .inl (cI, 6, .inl eT)), (tH, .inl (cI, 6, .inl eH)), (tU, .inl (cI, 6, .inl eU))] := hD
            refine lv_iinc (v := nI (i_1 + 1)) (lv' := [(2, .int (nI (i_1 + 1))), (0, .ref tp), (1, .ref th)]) hx hb dX3_tellRooms_51 hl (k := 0) rfl (nI_add i_1 1) (by decide) rfl (fun ls hl => ?_)
            refine lv_goto (tgt := 2) hx hb dX3_tellRooms_54 (by decide) ?_
            exact ih2 ((i_1 + 1)) eW2_13 eS2_14 tp_f2_16 tp_f3_17 ta2_15 (i_1 + 1) H locs ls (by omega) (by first | assumption | omega) (by first | assumption | omega) (by first | assumption | omega) hP hD hS (lv_sub hl [0, 1, 2] rfl)
          · skip
            refine lv_iconst (v := 0) hx hb dX3_tellRooms_42 (by decide) ?_
            have hP9 := hP.sub (ws' := [(tp, .inr (3, [.ref bt, .int (nI tl), .int tp_f2_16, .int tp_f3_17, .int (nI ta2_15)])), (bt, .inl (cI, 120, .inl bf)), (th, .inr (0, [.int t0, .int t1, .int (nI n_7), .int (nI T), .int t4, .ref tW, .ref tS, .ref tK, .ref tP, .ref tT, .ref tH, .ref tU])), (tW, .inl (cI, 5, .inl eW2_13)), (tS, .inl (cI, 5, .inl eS2_14)), (tK, .inl (cI, 6, .inl eK)), (tP, .inl (cI, 6, .inl eP)), (tT, .inl (cI, 6, .inl eT)), (tH, .inl (cI, 6, .inl eH)), (tU, .inl (cI, 6, .inl eU))]) [0, 1, 2, 3, 4, 5, 6, 7, 8, 9] rfl
            have hD9 := hD.sub (ws' := [(tp, .inr (3, [.ref bt, .int (nI tl), .int tp_f2_16, .int tp_f3_17, .int (nI ta2_15)])), (bt, .inl (cI, 120, .inl bf)), (th, .inr (0, [.int t0, .int t1, .int (nI n_7), .int (nI T), .int t4, .ref tW, .ref tS, .ref tK, .ref tP, .ref tT, .ref tH, .ref tU])), (tW, .inl (cI, 5, .inl eW2_13)), (tS, .inl (cI, 5, .inl eS2_14)), (tK, .inl (cI, 6, .inl eK)), (tP, .inl (cI, 6, .inl eP)), (tT, .inl (cI, 6, .inl eT)), (tH, .inl (cI, 6, .inl eH)), (tU, .inl (cI, 6, .inl eU))]) [0, 1, 2, 3, 4, 5, 6, 7, 8, 9] (by decide) rfl
            exact wt_zret hx hb hr hlocks (by decide) hP9 hD9 hS ⟨eW2_13, eS2_14, ta2_15, n_7, tp_f2_16, tp_f3_17, rfl, ⟨by omega, by omega, fun h => absurd rfl h⟩⟩ dX3_tellRooms_43
        · skip
          have c_9 : i_1 = 5 := (nI_eq (a := i_1) (b := 5) (by omega) (by omega)).mp c_9
          refine lv_aload_n hx hb dX3_tellRooms_27 rfl (lv_at hl 1 rfl) ?_
          refine lv_iconst (v := 3) hx hb dX3_tellRooms_28 (by decide) ?_
          refine wt_goI (wr := [(bt, .inl (cI, 120, .inl bf)), (th, .inr (0, [.int t0, .int t1, .int (nI n_7), .int (nI T), .int t4, .ref tW, .ref tS, .ref tK, .ref tP, .ref tT, .ref tH, .ref tU])), (tW, .inl (cI, 5, .inl eW_2)), (tS, .inl (cI, 5, .inl eS_3)), (tK, .inl (cI, 6, .inl eK)), (tP, .inl (cI, 6, .inl eP)), (tT, .inl (cI, 6, .inl eT)), (tH, .inl (cI, 6, .inl eH)), (tU, .inl (cI, 6, .inl eU))]) (wt_runV (As := [.int 3]) (rest := []) ⟨hx, hb, hml, hown, hts⟩ (c_X3_fail l D cI cZ cH tp n_6 v_4 v_5 3 (.ref bt) (.int (nI tl))) (cwV 1 hts gX3_tellRooms_X3_fail rfl rfl rfl (by decide +kernel) ⟨Nat.le_of_ble_eq_true rfl, Nat.le_of_ble_eq_true rfl⟩) hK hP hD [0] rfl (by decide) (va_recv hK.1 hP (ci := 3) (q0 := 0) rfl rfl) rfl hl.1 rfl (Nat.le_of_ble_eq_true rfl) dX3_tellRooms_29 ⟨Nat.le_of_ble_eq_true rfl, Nat.le_of_ble_eq_true rfl⟩) hP hD hS hA [0] [1, 2, 3, 4, 5, 6, 7, 8, 9] rfl rfl (by decide) (by decide) (fun r_20 w_21 H locs h_22 hP hD hS => ?_)
          obtain ⟨tp_f2_23, tp_f3_24, rfl, rfl⟩ := h_22
          have hP : va_P D vwCl [(bt, .inl (cI, 120, .inl bf)), (th, .inr (0, [.int t0, .int t1, .int (nI n_7), .int (nI T), .int t4, .ref tW, .ref tS, .ref tK, .ref tP, .ref tT, .ref tH, .ref tU])), (tW, .inl (cI, 5, .inl eW_2)), (tS, .inl (cI, 5, .inl eS_3)), (tK, .inl (cI, 6, .inl eK)), (tP, .inl (cI, 6, .inl eP)), (tT, .inl (cI, 6, .inl eT)), (tH, .inl (cI, 6, .inl eH)), (tU, .inl (cI, 6, .inl eU)), (tp, .inr (3, [.ref bt, .int (nI tl), .int tp_f2_23, .int tp_f3_24, .int (nI n_6)]))] H := hP
          have hD : va_D A [(bt, .inl (cI, 120, .inl bf)), (th, .inr (0, [.int t0, .int t1, .int (nI n_7), .int (nI T), .int t4, .ref tW, .ref tS, .ref tK, .ref tP, .ref tT, .ref tH, .ref tU])), (tW, .inl (cI, 5, .inl eW_2)), (tS, .inl (cI, 5, .inl eS_3)), (tK, .inl (cI, 6, .inl eK)), (tP, .inl (cI, 6, .inl eP)), (tT, .inl (cI, 6, .inl eT)), (tH, .inl (cI, 6, .inl eH)), (tU, .inl (cI, 6, .inl eU)), (tp, .inr (3, [.ref bt, .int (nI tl), .int tp_f2_23, .int tp_f3_24, .int (nI n_6)]))] := hD
          have hP9 := hP.sub (ws' := [(tp, .inr (3, [.ref bt, .int (nI tl), .int tp_f2_23, .int tp_f3_24, .int (nI n_6)])), (bt, .inl (cI, 120, .inl bf)), (th, .inr (0, [.int t0, .int t1, .int (nI n_7), .int (nI T), .int t4, .ref tW, .ref tS, .ref tK, .ref tP, .ref tT, .ref tH, .ref tU])), (tW, .inl (cI, 5, .inl eW_2)), (tS, .inl (cI, 5, .inl eS_3)), (tK, .inl (cI, 6, .inl eK)), (tP, .inl (cI, 6, .inl eP)), (tT, .inl (cI, 6, .inl eT)), (tH, .inl (cI, 6, .inl eH)), (tU, .inl (cI, 6, .inl eU))]) [9, 0, 1, 2, 3, 4, 5, 6, 7, 8] rfl
          have hD9 := hD.sub (ws' := [(tp, .inr (3, [.ref bt, .int (nI tl), .int tp_f2_23, .int tp_f3_24, .int (nI n_6)])), (bt, .inl (cI, 120, .inl bf)), (th, .inr (0, [.int t0, .int t1, .int (nI n_7), .int (nI T), .int t4, .ref tW, .ref tS, .ref tK, .ref tP, .ref tT, .ref tH, .ref tU])), (tW, .inl (cI, 5, .inl eW_2)), (tS, .inl (cI, 5, .inl eS_3)), (tK, .inl (cI, 6, .inl eK)), (tP, .inl (cI, 6, .inl eP)), (tT, .inl (cI, 6, .inl eT)), (tH, .inl (cI, 6, .inl eH)), (tU, .inl (cI, 6, .inl eU))]) [9, 0, 1, 2, 3, 4, 5, 6, 7, 8] (by decide) rfl
          exact wt_zret hx hb hr hlocks (by decide) hP9 hD9 hS ⟨eW_2, eS_3, n_6, n_7, tp_f2_23, tp_f3_24, rfl, ⟨by omega, by omega, fun h => absurd rfl h⟩⟩ dX3_tellRooms_32
      · skip
        have c_8 : ¬ (i_1 ≤ 0) := fun h => c_8 ((nI_leI (a := i_1) (b := 0) (by omega) (by omega)).mpr h)
        refine lv_aload_n hx hb dX3_tellRooms_11 rfl (lv_at hl 1 rfl) ?_
        refine wt_rV (As := []) (rest := []) ⟨hx, hb, hml, hown, hts⟩ (c_X3_peek l D cI cZ cH tp bt tl n_6 bf v_4 v_5 (by first | assumption | omega) (by first | assumption | omega)) (cwV 0 hts gX3_tellRooms_X3_peek rfl rfl rfl (by decide +kernel) ⟨Nat.le_of_ble_eq_true rfl, Nat.le_of_ble_eq_true rfl⟩) hK hP [0, 1] rfl (va_recv hK.1 hP (ci := 3) (q0 := 0) rfl rfl) rfl hl.1 rfl (Nat.le_of_ble_eq_true rfl) dX3_tellRooms_12 ⟨Nat.le_of_ble_eq_true rfl, Nat.le_of_ble_eq_true rfl⟩ (fun r_25 e_26 => ?_)
        refine lv_bipush (v := 109) hx hb dX3_tellRooms_15 (by decide) ?_
        refine lv_icmp_eq (tgt := 22) hx hb dX3_tellRooms_17 (by decide) (fun c_27 => ?_) (fun c_27 => ?_)
        · skip
          refine lv_iload_n hx hb dX3_tellRooms_22 rfl (lv_at hl 0 rfl) ?_
          refine lv_iconst (v := 5) hx hb dX3_tellRooms_23 (by decide) ?_
          refine lv_icmp_ne (tgt := 33) hx hb dX3_tellRooms_24 (by decide) (fun c_28 => ?_) (fun c_28 => ?_)
          · skip
            have c_28 : ¬ (i_1 = 5) := fun h => c_28 ((nI_eq (a := i_1) (b := 5) (by omega) (by omega)).mpr h)
            refine lv_aload_n hx hb dX3_tellRooms_33 rfl (lv_at hl 1 rfl) ?_
            refine lv_aload_n hx hb dX3_tellRooms_34 rfl (lv_at hl 2 rfl) ?_
            refine lv_iload_n hx hb dX3_tellRooms_35 rfl (lv_at hl 0 rfl) ?_
            refine wt_goI (wr := []) (wt_runV (As := [.ref th, .int (nI i_1)]) (rest := []) ⟨hx, hb, hml, hown, hts⟩ (c_X3_tellRoom l D cI cZ cH tp bt tl n_6 bf v_4 v_5 th tW tS tK tP tT tH tU n_7 T t0 t1 t4 eW_2 eS_3 eK eP eT eH eU i_1 (by first | assumption | omega) (by first | assumption | omega) (by first | assumption | omega) (by first | assumption | omega)) (cwV 2 hts gX3_tellRooms_X3_tellRoom rfl rfl rfl (by decide +kernel) ⟨Nat.le_of_ble_eq_true rfl, Nat.le_of_ble_eq_true rfl⟩) hK hP hD [0, 1, 2, 3, 4, 5, 6, 7, 8, 9] rfl (by decide) (va_recv hK.1 hP (ci := 3) (q0 := 0) rfl rfl) rfl hl.1 rfl (Nat.le_of_ble_eq_true rfl) dX3_tellRooms_36 ⟨Nat.le_of_ble_eq_true rfl, Nat.le_of_ble_eq_true rfl⟩) hP hD hS hA [0, 1, 2, 3, 4, 5, 6, 7, 8, 9] [] rfl rfl (by decide) (by decide) (fun r_29 w_30 H locs h_31 hP hD hS => ?_)
            obtain ⟨eW2_32, eS2_33, ta2_34, tp_f2_35, tp_f3_36, rfl, x_37⟩ := h_31
            have hP : va_P D vwCl [(tp, .inr (3, [.ref bt, .int (nI tl), .int tp_f2_35, .int tp_f3_36, .int (nI ta2_34)])), (bt, .inl (cI, 120, .inl bf)), (th, .inr (0, [.int t0, .int t1, .int (nI n_7), .int (nI T), .int t4, .ref tW, .ref tS, .ref tK, .ref tP, .ref tT, .ref tH, .ref tU])), (tW, .inl (cI, 5, .inl eW2_32)), (tS, .inl (cI, 5, .inl eS2_33)), (tK, .inl (cI, 6, .inl eK)), (tP, .inl (cI, 6, .inl eP)), (tT, .inl (cI, 6, .inl eT)), (tH, .inl (cI, 6, .inl eH)), (tU, .inl (cI, 6, .inl eU))] H := hP
            have hD : va_D A [(tp, .inr (3, [.ref bt, .int (nI tl), .int tp_f2_35, .int tp_f3_36, .int (nI ta2_34)])), (bt, .inl (cI, 120, .inl bf)), (th, .inr (0, [.int t0, .int t1, .int (nI n_7), .int (nI T), .int t4, .ref tW, .ref tS, .ref tK, .ref tP, .ref tT, .ref tH, .ref tU])), (tW, .inl (cI, 5, .inl eW2_32)), (tS, .inl (cI, 5, .inl eS2_33)), (tK, .inl (cI, 6, .inl eK)), (tP, .inl (cI, 6, .inl eP)), (tT, .inl (cI, 6, .inl eT)), (tH, .inl (cI, 6, .inl eH)), (tU, .inl (cI, 6, .inl eU))] := hD
            refine lv_if_ne (tgt := 44) hx hb dX3_tellRooms_39 (by decide) (fun c_38 => ?_) (fun c_38 => ?_)
            · skip
              refine lv_aload_n hx hb dX3_tellRooms_44 rfl (lv_at hl 2 rfl) ?_
              refine lv_iload_n hx hb dX3_tellRooms_45 rfl (lv_at hl 0 rfl) ?_
              refine lv_iconst (v := 1) hx hb dX3_tellRooms_46 (by decide) ?_
              refine lv_iadd hx hb dX3_tellRooms_47 ?_
              refine wt_top (z := nI (i_1 + 1)) (nI_add i_1 1) ?_
              refine va_put (D := D) (ci := 0) (v := .int (nI (i_1 + 1))) (ty := .int) (C := RX0) (T := TX0) (N := 12) hx hb hts hi0 tyX0 tyX0_ok nmX0 hown hK.1 hP hD hS 2 rfl rfl 2 (by decide) wf28 (fun _ h9 => h9) rfl (by decide +kernel) rfl rfl (Nat.le_of_ble_eq_true rfl) dX3_tellRooms_48 (fun H locs hP hD hS => ?_)
              have hP : va_P D vwCl [(tp, .inr (3, [.ref bt, .int (nI tl), .int tp_f2_35, .int tp_f3_36, .int (nI ta2_34)])), (bt, .inl (cI, 120, .inl bf)), (th, .inr (0, [.int t0, .int t1, .int (nI (i_1 + 1)), .int (nI T), .int t4, .ref tW, .ref tS, .ref tK, .ref tP, .ref tT, .ref tH, .ref tU])), (tW, .inl (cI, 5, .inl eW2_32)), (tS, .inl (cI, 5, .inl eS2_33)), (tK, .inl (cI, 6, .inl eK)), (tP, .inl (cI, 6, .inl eP)), (tT, .inl (cI, 6, .inl eT)), (tH, .inl (cI, 6, .inl eH)), (tU, .inl (cI, 6, .inl eU))] H := hP
              have hD : va_D A [(tp, .inr (3, [.ref bt, .int (nI tl), .int tp_f2_35, .int tp_f3_36, .int (nI ta2_34)])), (bt, .inl (cI, 120, .inl bf)), (th, .inr (0, [.int t0, .int t1, .int (nI (i_1 + 1)), .int (nI T), .int t4, .ref tW, .ref tS, .ref tK, .ref tP, .ref tT, .ref tH, .ref tU])), (tW, .inl (cI, 5, .inl eW2_32)), (tS, .inl (cI, 5, .inl eS2_33)), (tK, .inl (cI, 6, .inl eK)), (tP, .inl (cI, 6, .inl eP)), (tT, .inl (cI, 6, .inl eT)), (tH, .inl (cI, 6, .inl eH)), (tU, .inl (cI, 6, .inl eU))] := hD
              refine lv_iinc (v := nI (i_1 + 1)) (lv' := [(2, .int (nI (i_1 + 1))), (0, .ref tp), (1, .ref th)]) hx hb dX3_tellRooms_51 hl (k := 0) rfl (nI_add i_1 1) (by decide) rfl (fun ls hl => ?_)
              refine lv_goto (tgt := 2) hx hb dX3_tellRooms_54 (by decide) ?_
              exact ih2 ((i_1 + 1)) eW2_32 eS2_33 tp_f2_35 tp_f3_36 ta2_34 (i_1 + 1) H locs ls (by omega) (by first | assumption | omega) (by first | assumption | omega) (by first | assumption | omega) hP hD hS (lv_sub hl [0, 1, 2] rfl)
            · skip
              refine lv_iconst (v := 0) hx hb dX3_tellRooms_42 (by decide) ?_
              have hP9 := hP.sub (ws' := [(tp, .inr (3, [.ref bt, .int (nI tl), .int tp_f2_35, .int tp_f3_36, .int (nI ta2_34)])), (bt, .inl (cI, 120, .inl bf)), (th, .inr (0, [.int t0, .int t1, .int (nI n_7), .int (nI T), .int t4, .ref tW, .ref tS, .ref tK, .ref tP, .ref tT, .ref tH, .ref tU])), (tW, .inl (cI, 5, .inl eW2_32)), (tS, .inl (cI, 5, .inl eS2_33)), (tK, .inl (cI, 6, .inl eK)), (tP, .inl (cI, 6, .inl eP)), (tT, .inl (cI, 6, .inl eT)), (tH, .inl (cI, 6, .inl eH)), (tU, .inl (cI, 6, .inl eU))]) [0, 1, 2, 3, 4, 5, 6, 7, 8, 9] rfl
              have hD9 := hD.sub (ws' := [(tp, .inr (3, [.ref bt, .int (nI tl), .int tp_f2_35, .int tp_f3_36, .int (nI ta2_34)])), (bt, .inl (cI, 120, .inl bf)), (th, .inr (0, [.int t0, .int t1, .int (nI n_7), .int (nI T), .int t4, .ref tW, .ref tS, .ref tK, .ref tP, .ref tT, .ref tH, .ref tU])), (tW, .inl (cI, 5, .inl eW2_32)), (tS, .inl (cI, 5, .inl eS2_33)), (tK, .inl (cI, 6, .inl eK)), (tP, .inl (cI, 6, .inl eP)), (tT, .inl (cI, 6, .inl eT)), (tH, .inl (cI, 6, .inl eH)), (tU, .inl (cI, 6, .inl eU))]) [0, 1, 2, 3, 4, 5, 6, 7, 8, 9] (by decide) rfl
              exact wt_zret hx hb hr hlocks (by decide) hP9 hD9 hS ⟨eW2_32, eS2_33, ta2_34, n_7, tp_f2_35, tp_f3_36, rfl, ⟨by omega, by omega, fun h => absurd rfl h⟩⟩ dX3_tellRooms_43
          · skip
            have c_28 : i_1 = 5 := (nI_eq (a := i_1) (b := 5) (by omega) (by omega)).mp c_28
            refine lv_aload_n hx hb dX3_tellRooms_27 rfl (lv_at hl 1 rfl) ?_
            refine lv_iconst (v := 3) hx hb dX3_tellRooms_28 (by decide) ?_
            refine wt_goI (wr := [(bt, .inl (cI, 120, .inl bf)), (th, .inr (0, [.int t0, .int t1, .int (nI n_7), .int (nI T), .int t4, .ref tW, .ref tS, .ref tK, .ref tP, .ref tT, .ref tH, .ref tU])), (tW, .inl (cI, 5, .inl eW_2)), (tS, .inl (cI, 5, .inl eS_3)), (tK, .inl (cI, 6, .inl eK)), (tP, .inl (cI, 6, .inl eP)), (tT, .inl (cI, 6, .inl eT)), (tH, .inl (cI, 6, .inl eH)), (tU, .inl (cI, 6, .inl eU))]) (wt_runV (As := [.int 3]) (rest := []) ⟨hx, hb, hml, hown, hts⟩ (c_X3_fail l D cI cZ cH tp n_6 v_4 v_5 3 (.ref bt) (.int (nI tl))) (cwV 1 hts gX3_tellRooms_X3_fail rfl rfl rfl (by decide +kernel) ⟨Nat.le_of_ble_eq_true rfl, Nat.le_of_ble_eq_true rfl⟩) hK hP hD [0] rfl (by decide) (va_recv hK.1 hP (ci := 3) (q0 := 0) rfl rfl) rfl hl.1 rfl (Nat.le_of_ble_eq_true rfl) dX3_tellRooms_29 ⟨Nat.le_of_ble_eq_true rfl, Nat.le_of_ble_eq_true rfl⟩) hP hD hS hA [0] [1, 2, 3, 4, 5, 6, 7, 8, 9] rfl rfl (by decide) (by decide) (fun r_39 w_40 H locs h_41 hP hD hS => ?_)
            obtain ⟨tp_f2_42, tp_f3_43, rfl, rfl⟩ := h_41
            have hP : va_P D vwCl [(bt, .inl (cI, 120, .inl bf)), (th, .inr (0, [.int t0, .int t1, .int (nI n_7), .int (nI T), .int t4, .ref tW, .ref tS, .ref tK, .ref tP, .ref tT, .ref tH, .ref tU])), (tW, .inl (cI, 5, .inl eW_2)), (tS, .inl (cI, 5, .inl eS_3)), (tK, .inl (cI, 6, .inl eK)), (tP, .inl (cI, 6, .inl eP)), (tT, .inl (cI, 6, .inl eT)), (tH, .inl (cI, 6, .inl eH)), (tU, .inl (cI, 6, .inl eU)), (tp, .inr (3, [.ref bt, .int (nI tl), .int tp_f2_42, .int tp_f3_43, .int (nI n_6)]))] H := hP
            have hD : va_D A [(bt, .inl (cI, 120, .inl bf)), (th, .inr (0, [.int t0, .int t1, .int (nI n_7), .int (nI T), .int t4, .ref tW, .ref tS, .ref tK, .ref tP, .ref tT, .ref tH, .ref tU])), (tW, .inl (cI, 5, .inl eW_2)), (tS, .inl (cI, 5, .inl eS_3)), (tK, .inl (cI, 6, .inl eK)), (tP, .inl (cI, 6, .inl eP)), (tT, .inl (cI, 6, .inl eT)), (tH, .inl (cI, 6, .inl eH)), (tU, .inl (cI, 6, .inl eU)), (tp, .inr (3, [.ref bt, .int (nI tl), .int tp_f2_42, .int tp_f3_43, .int (nI n_6)]))] := hD
            have hP9 := hP.sub (ws' := [(tp, .inr (3, [.ref bt, .int (nI tl), .int tp_f2_42, .int tp_f3_43, .int (nI n_6)])), (bt, .inl (cI, 120, .inl bf)), (th, .inr (0, [.int t0, .int t1, .int (nI n_7), .int (nI T), .int t4, .ref tW, .ref tS, .ref tK, .ref tP, .ref tT, .ref tH, .ref tU])), (tW, .inl (cI, 5, .inl eW_2)), (tS, .inl (cI, 5, .inl eS_3)), (tK, .inl (cI, 6, .inl eK)), (tP, .inl (cI, 6, .inl eP)), (tT, .inl (cI, 6, .inl eT)), (tH, .inl (cI, 6, .inl eH)), (tU, .inl (cI, 6, .inl eU))]) [9, 0, 1, 2, 3, 4, 5, 6, 7, 8] rfl
            have hD9 := hD.sub (ws' := [(tp, .inr (3, [.ref bt, .int (nI tl), .int tp_f2_42, .int tp_f3_43, .int (nI n_6)])), (bt, .inl (cI, 120, .inl bf)), (th, .inr (0, [.int t0, .int t1, .int (nI n_7), .int (nI T), .int t4, .ref tW, .ref tS, .ref tK, .ref tP, .ref tT, .ref tH, .ref tU])), (tW, .inl (cI, 5, .inl eW_2)), (tS, .inl (cI, 5, .inl eS_3)), (tK, .inl (cI, 6, .inl eK)), (tP, .inl (cI, 6, .inl eP)), (tT, .inl (cI, 6, .inl eT)), (tH, .inl (cI, 6, .inl eH)), (tU, .inl (cI, 6, .inl eU))]) [9, 0, 1, 2, 3, 4, 5, 6, 7, 8] (by decide) rfl
            exact wt_zret hx hb hr hlocks (by decide) hP9 hD9 hS ⟨eW_2, eS_3, n_6, n_7, tp_f2_42, tp_f3_43, rfl, ⟨by omega, by omega, fun h => absurd rfl h⟩⟩ dX3_tellRooms_32
        · skip
          refine lv_iconst (v := 1) hx hb dX3_tellRooms_20 (by decide) ?_
          have hP9 := hP.sub (ws' := [(tp, .inr (3, [.ref bt, .int (nI tl), .int v_4, .int v_5, .int (nI n_6)])), (bt, .inl (cI, 120, .inl bf)), (th, .inr (0, [.int t0, .int t1, .int (nI n_7), .int (nI T), .int t4, .ref tW, .ref tS, .ref tK, .ref tP, .ref tT, .ref tH, .ref tU])), (tW, .inl (cI, 5, .inl eW_2)), (tS, .inl (cI, 5, .inl eS_3)), (tK, .inl (cI, 6, .inl eK)), (tP, .inl (cI, 6, .inl eP)), (tT, .inl (cI, 6, .inl eT)), (tH, .inl (cI, 6, .inl eH)), (tU, .inl (cI, 6, .inl eU))]) [0, 1, 2, 3, 4, 5, 6, 7, 8, 9] rfl
          have hD9 := hD.sub (ws' := [(tp, .inr (3, [.ref bt, .int (nI tl), .int v_4, .int v_5, .int (nI n_6)])), (bt, .inl (cI, 120, .inl bf)), (th, .inr (0, [.int t0, .int t1, .int (nI n_7), .int (nI T), .int t4, .ref tW, .ref tS, .ref tK, .ref tP, .ref tT, .ref tH, .ref tU])), (tW, .inl (cI, 5, .inl eW_2)), (tS, .inl (cI, 5, .inl eS_3)), (tK, .inl (cI, 6, .inl eK)), (tP, .inl (cI, 6, .inl eP)), (tT, .inl (cI, 6, .inl eT)), (tH, .inl (cI, 6, .inl eH)), (tU, .inl (cI, 6, .inl eU))]) [0, 1, 2, 3, 4, 5, 6, 7, 8, 9] (by decide) rfl
          exact wt_zret hx hb hr hlocks (by decide) hP9 hD9 hS ⟨eW_2, eS_3, n_6, n_7, v_4, v_5, rfl, ⟨by omega, by omega, fun _ => by omega⟩⟩ dX3_tellRooms_21
  exact loop2 ((5 + 1) - 0) (0) eW eS s2 s3 ta R _ _ ls (by omega) (by first | assumption | omega) (by first | assumption | omega) (by first | assumption | omega) hP hD hS hl
set_option maxHeartbeats 4000000 in
set_option maxRecDepth 100000 in
theorem c_X3_tellTube (l : Launch) (D : va_G) (cI cZ cH : ClassId) (tp bt : Nat) (tl ta : Nat) (bf : Nat → Int32) (s2 s3 : Int32) (th tW tS tK tP tT tH tU : Nat) (R T : Nat) (t0 t1 t4 : Int32) (eW eS eK eP eT eH eU : Nat → Int32) (i : Nat) (htl : tl ≤ 120) (hta : ta ≤ tl) (hR5 : R ≤ 5) (hi6 : i < 6) (hwi : hw R i eP) : wt_M l yX3_tellTube wsX3_tellTube ({ frames := 2, cells := 0, slots := 0, locals := 48 } : Room) D (wt_T cI cZ cH) [.ref tp, .ref th, .int (nI i)] [(tp, .inr (3, [.ref bt, .int (nI tl), .int s2, .int s3, .int (nI ta)])), (bt, .inl (cI, 120, .inl bf)), (th, .inr (0, [.int t0, .int t1, .int (nI R), .int (nI T), .int t4, .ref tW, .ref tS, .ref tK, .ref tP, .ref tT, .ref tH, .ref tU])), (tW, .inl (cI, 5, .inl eW)), (tS, .inl (cI, 5, .inl eS)), (tK, .inl (cI, 6, .inl eK)), (tP, .inl (cI, 6, .inl eP)), (tT, .inl (cI, 6, .inl eT)), (tH, .inl (cI, 6, .inl eH)), (tU, .inl (cI, 6, .inl eU))] (wt_QI D (fun r w => ∃ (eU2 eP2 eT2 eH2 : Nat → Int32) (ta2 : Nat) (tp_f2 tp_f3 : Int32), w = [(tp, .inr (3, [.ref bt, .int (nI tl), .int tp_f2, .int tp_f3, .int (nI ta2)])), (bt, .inl (cI, 120, .inl bf)), (th, .inr (0, [.int t0, .int t1, .int (nI R), .int (nI T), .int t4, .ref tW, .ref tS, .ref tK, .ref tP, .ref tT, .ref tH, .ref tU])), (tW, .inl (cI, 5, .inl eW)), (tS, .inl (cI, 5, .inl eS)), (tK, .inl (cI, 6, .inl eK)), (tP, .inl (cI, 6, .inl eP2)), (tT, .inl (cI, 6, .inl eT2)), (tH, .inl (cI, 6, .inl eH2)), (tU, .inl (cI, 6, .inl eU2))] ∧ ta2 ≤ tl ∧ (¬ r = 0 → hw R (i + 1) eP2))) := by
  refine wt_M.ofW (cc := cX3_tellTube) (maxL := 3) (ret := (some .boolean)) (by decide) rfl (Nat.le_of_ble_eq_true rfl) ?_
  intro p e s m below meth c A ls hx hb hr hts hown hlocks hml hnm hP hK hD hA hS hl
  have hP : va_P D vwCl [(tp, .inr (3, [.ref bt, .int (nI tl), .int s2, .int s3, .int (nI ta)])), (bt, .inl (cI, 120, .inl bf)), (th, .inr (0, [.int t0, .int t1, .int (nI R), .int (nI T), .int t4, .ref tW, .ref tS, .ref tK, .ref tP, .ref tT, .ref tH, .ref tU])), (tW, .inl (cI, 5, .inl eW)), (tS, .inl (cI, 5, .inl eS)), (tK, .inl (cI, 6, .inl eK)), (tP, .inl (cI, 6, .inl eP)), (tT, .inl (cI, 6, .inl eT)), (tH, .inl (cI, 6, .inl eH)), (tU, .inl (cI, 6, .inl eU))] s.heap := hP
  have hown : s.vm.findClass RX3 = some m.cls := hown
  have hl : lv_has ls 3 [(0, .ref tp), (1, .ref th), (2, .int (nI i))] := hl
  have hi0 : ∀ w ∈ u_ws RX0 TX0 12, w ∈ wsX3_tellTube := by decide +kernel
  have wf28 := hts (.fieldLink RX3 28 "WarmTubes$House" "rooms" "I") (by decide +kernel)
  have wf90 := hts (.fieldLink RX3 90 "WarmTubes$House" "up" "[I") (by decide +kernel)
  have wf93 := hts (.fieldLink RX3 93 "WarmTubes$House" "where" "[I") (by decide +kernel)
  have wf96 := hts (.fieldLink RX3 96 "WarmTubes$House" "takes" "[I") (by decide +kernel)
  have wf99 := hts (.fieldLink RX3 99 "WarmTubes$House" "holds" "[I") (by decide +kernel)
  refine lv_aload_n hx hb dX3_tellTube_0 rfl (lv_at hl 1 rfl) ?_
  refine va_get (D := D) (ci := 0) (v := .ref tU) (C := RX0) (T := TX0) (N := 12) hx hb hts hi0 hown hK.1 hP 2 rfl rfl 11 (by decide) wf90 (fun _ h9 => h9) rfl dX3_tellTube_1 ?_
  refine lv_iload_n hx hb dX3_tellTube_4 rfl (lv_at hl 2 rfl) ?_
  refine lv_iconst (v := 0) hx hb dX3_tellTube_5 (by decide) ?_
  refine va_iast hx hb hK.1 hP hD hS 9 0 rfl rfl (vp_in_nI (by omega) (by omega)) dX3_tellTube_6 (fun H locs hP hD hS => ?_)
  have hP : va_P D vwCl [(tp, .inr (3, [.ref bt, .int (nI tl), .int s2, .int s3, .int (nI ta)])), (bt, .inl (cI, 120, .inl bf)), (th, .inr (0, [.int t0, .int t1, .int (nI R), .int (nI T), .int t4, .ref tW, .ref tS, .ref tK, .ref tP, .ref tT, .ref tH, .ref tU])), (tW, .inl (cI, 5, .inl eW)), (tS, .inl (cI, 5, .inl eS)), (tK, .inl (cI, 6, .inl eK)), (tP, .inl (cI, 6, .inl eP)), (tT, .inl (cI, 6, .inl eT)), (tH, .inl (cI, 6, .inl eH)), (tU, .inl (cI, 6, .inl (upd eU ((nI i).toNatClampNeg) 0)))] H := hP
  have hD : va_D A [(tp, .inr (3, [.ref bt, .int (nI tl), .int s2, .int s3, .int (nI ta)])), (bt, .inl (cI, 120, .inl bf)), (th, .inr (0, [.int t0, .int t1, .int (nI R), .int (nI T), .int t4, .ref tW, .ref tS, .ref tK, .ref tP, .ref tT, .ref tH, .ref tU])), (tW, .inl (cI, 5, .inl eW)), (tS, .inl (cI, 5, .inl eS)), (tK, .inl (cI, 6, .inl eK)), (tP, .inl (cI, 6, .inl eP)), (tT, .inl (cI, 6, .inl eT)), (tH, .inl (cI, 6, .inl eH)), (tU, .inl (cI, 6, .inl (upd eU ((nI i).toNatClampNeg) 0)))] := hD
  generalize upd eU ((nI i).toNatClampNeg) 0 = eU_1 at hP hD
  refine lv_aload_n hx hb dX3_tellTube_7 rfl (lv_at hl 1 rfl) ?_
  refine va_get (D := D) (ci := 0) (v := .ref tP) (C := RX0) (T := TX0) (N := 12) hx hb hts hi0 hown hK.1 hP 2 rfl rfl 8 (by decide) wf93 (fun _ h9 => h9) rfl dX3_tellTube_8 ?_
  refine lv_iload_n hx hb dX3_tellTube_11 rfl (lv_at hl 2 rfl) ?_
  refine lv_aload_n hx hb dX3_tellTube_12 rfl (lv_at hl 0 rfl) ?_
  refine lv_iconst (v := 0) hx hb dX3_tellTube_13 (by decide) ?_
  refine lv_aload_n hx hb dX3_tellTube_14 rfl (lv_at hl 1 rfl) ?_
  refine va_get (D := D) (ci := 0) (v := .int (nI R)) (C := RX0) (T := TX0) (N := 12) hx hb hts hi0 hown hK.1 hP 2 rfl rfl 2 (by decide) wf28 (fun _ h9 => h9) rfl dX3_tellTube_15 ?_
  refine wt_goI (wr := [(th, .inr (0, [.int t0, .int t1, .int (nI R), .int (nI T), .int t4, .ref tW, .ref tS, .ref tK, .ref tP, .ref tT, .ref tH, .ref tU])), (tW, .inl (cI, 5, .inl eW)), (tS, .inl (cI, 5, .inl eS)), (tK, .inl (cI, 6, .inl eK)), (tP, .inl (cI, 6, .inl eP)), (tT, .inl (cI, 6, .inl eT)), (tH, .inl (cI, 6, .inl eH)), (tU, .inl (cI, 6, .inl eU_1))]) (wt_runV (As := [.int 0, .int (nI R)]) (rest := [.int (nI i), .ref tP]) ⟨hx, hb, hml, hown, hts⟩ (c_X3_number l D cI cZ cH tp bt tl ta bf s2 s3 0 R (by first | assumption | omega) (by first | assumption | omega) (by first | assumption | omega) (by first | assumption | omega)) (cwV 2 hts gX3_tellTube_X3_number rfl rfl rfl (by decide +kernel) ⟨Nat.le_of_ble_eq_true rfl, Nat.le_of_ble_eq_true rfl⟩) hK hP hD [0, 1] rfl (by decide) (va_recv hK.1 hP (ci := 3) (q0 := 0) rfl rfl) rfl hl.1 rfl (Nat.le_of_ble_eq_true rfl) dX3_tellTube_18 ⟨Nat.le_of_ble_eq_true rfl, Nat.le_of_ble_eq_true rfl⟩) hP hD hS hA [0, 1] [2, 3, 4, 5, 6, 7, 8, 9] rfl rfl (by decide) (by decide) (fun r_2 w_3 H locs h_4 hP hD hS => ?_)
  obtain ⟨ta2_5, tp_f2_6, tp_f3_7, rfl, x_8⟩ := h_4
  have hP : va_P D vwCl [(th, .inr (0, [.int t0, .int t1, .int (nI R), .int (nI T), .int t4, .ref tW, .ref tS, .ref tK, .ref tP, .ref tT, .ref tH, .ref tU])), (tW, .inl (cI, 5, .inl eW)), (tS, .inl (cI, 5, .inl eS)), (tK, .inl (cI, 6, .inl eK)), (tP, .inl (cI, 6, .inl eP)), (tT, .inl (cI, 6, .inl eT)), (tH, .inl (cI, 6, .inl eH)), (tU, .inl (cI, 6, .inl eU_1)), (tp, .inr (3, [.ref bt, .int (nI tl), .int tp_f2_6, .int tp_f3_7, .int (nI ta2_5)])), (bt, .inl (cI, 120, .inl bf))] H := hP
  have hD : va_D A [(th, .inr (0, [.int t0, .int t1, .int (nI R), .int (nI T), .int t4, .ref tW, .ref tS, .ref tK, .ref tP, .ref tT, .ref tH, .ref tU])), (tW, .inl (cI, 5, .inl eW)), (tS, .inl (cI, 5, .inl eS)), (tK, .inl (cI, 6, .inl eK)), (tP, .inl (cI, 6, .inl eP)), (tT, .inl (cI, 6, .inl eT)), (tH, .inl (cI, 6, .inl eH)), (tU, .inl (cI, 6, .inl eU_1)), (tp, .inr (3, [.ref bt, .int (nI tl), .int tp_f2_6, .int tp_f3_7, .int (nI ta2_5)])), (bt, .inl (cI, 120, .inl bf))] := hD
  obtain ⟨hta_9, hv_10⟩ := x_8
  refine va_iast hx hb hK.1 hP hD hS 4 0 rfl rfl (vp_in_nI (by omega) (by omega)) dX3_tellTube_21 (fun H locs hP hD hS => ?_)
  have hP : va_P D vwCl [(th, .inr (0, [.int t0, .int t1, .int (nI R), .int (nI T), .int t4, .ref tW, .ref tS, .ref tK, .ref tP, .ref tT, .ref tH, .ref tU])), (tW, .inl (cI, 5, .inl eW)), (tS, .inl (cI, 5, .inl eS)), (tK, .inl (cI, 6, .inl eK)), (tP, .inl (cI, 6, .inl (upd eP ((nI i).toNatClampNeg) r_2))), (tT, .inl (cI, 6, .inl eT)), (tH, .inl (cI, 6, .inl eH)), (tU, .inl (cI, 6, .inl eU_1)), (tp, .inr (3, [.ref bt, .int (nI tl), .int tp_f2_6, .int tp_f3_7, .int (nI ta2_5)])), (bt, .inl (cI, 120, .inl bf))] H := hP
  have hD : va_D A [(th, .inr (0, [.int t0, .int t1, .int (nI R), .int (nI T), .int t4, .ref tW, .ref tS, .ref tK, .ref tP, .ref tT, .ref tH, .ref tU])), (tW, .inl (cI, 5, .inl eW)), (tS, .inl (cI, 5, .inl eS)), (tK, .inl (cI, 6, .inl eK)), (tP, .inl (cI, 6, .inl (upd eP ((nI i).toNatClampNeg) r_2))), (tT, .inl (cI, 6, .inl eT)), (tH, .inl (cI, 6, .inl eH)), (tU, .inl (cI, 6, .inl eU_1)), (tp, .inr (3, [.ref bt, .int (nI tl), .int tp_f2_6, .int tp_f3_7, .int (nI ta2_5)])), (bt, .inl (cI, 120, .inl bf))] := hD
  rw [nI_clamp (n := i) (by omega)] at hP hD
  have hP : va_P D vwCl [(th, .inr (0, [.int t0, .int t1, .int (nI R), .int (nI T), .int t4, .ref tW, .ref tS, .ref tK, .ref tP, .ref tT, .ref tH, .ref tU])), (tW, .inl (cI, 5, .inl eW)), (tS, .inl (cI, 5, .inl eS)), (tK, .inl (cI, 6, .inl eK)), (tP, .inl (cI, 6, .inl (upd eP i r_2))), (tT, .inl (cI, 6, .inl eT)), (tH, .inl (cI, 6, .inl eH)), (tU, .inl (cI, 6, .inl eU_1)), (tp, .inr (3, [.ref bt, .int (nI tl), .int tp_f2_6, .int tp_f3_7, .int (nI ta2_5)])), (bt, .inl (cI, 120, .inl bf))] H := hP
  have hD : va_D A [(th, .inr (0, [.int t0, .int t1, .int (nI R), .int (nI T), .int t4, .ref tW, .ref tS, .ref tK, .ref tP, .ref tT, .ref tH, .ref tU])), (tW, .inl (cI, 5, .inl eW)), (tS, .inl (cI, 5, .inl eS)), (tK, .inl (cI, 6, .inl eK)), (tP, .inl (cI, 6, .inl (upd eP i r_2))), (tT, .inl (cI, 6, .inl eT)), (tH, .inl (cI, 6, .inl eH)), (tU, .inl (cI, 6, .inl eU_1)), (tp, .inr (3, [.ref bt, .int (nI tl), .int tp_f2_6, .int tp_f3_7, .int (nI ta2_5)])), (bt, .inl (cI, 120, .inl bf))] := hD
  refine lv_aload_n hx hb dX3_tellTube_22 rfl (lv_at hl 1 rfl) ?_
  refine va_get (D := D) (ci := 0) (v := .ref tP) (C := RX0) (T := TX0) (N := 12) hx hb hts hi0 hown hK.1 hP 0 rfl rfl 8 (by decide) wf93 (fun _ h9 => h9) rfl dX3_tellTube_23 ?_
  refine lv_iload_n hx hb dX3_tellTube_26 rfl (lv_at hl 2 rfl) ?_
  refine va_iald hx hb hK.1 hP 4 0 rfl rfl (vp_in_nI (by omega) (by omega)) dX3_tellTube_27 ?_
  refine wt_top (z := r_2) (by rw [nI_clamp (by omega)]; exact pk_us) ?_
  refine lv_if_lt (tgt := 40) hx hb dX3_tellTube_28 (by decide) (fun c_11 => ?_) (fun c_11 => ?_)
  · skip
    refine lv_iconst (v := 0) hx hb dX3_tellTube_40 (by decide) ?_
    have hP9 := hP.sub (ws' := [(tp, .inr (3, [.ref bt, .int (nI tl), .int tp_f2_6, .int tp_f3_7, .int (nI ta2_5)])), (bt, .inl (cI, 120, .inl bf)), (th, .inr (0, [.int t0, .int t1, .int (nI R), .int (nI T), .int t4, .ref tW, .ref tS, .ref tK, .ref tP, .ref tT, .ref tH, .ref tU])), (tW, .inl (cI, 5, .inl eW)), (tS, .inl (cI, 5, .inl eS)), (tK, .inl (cI, 6, .inl eK)), (tP, .inl (cI, 6, .inl (upd eP i r_2))), (tT, .inl (cI, 6, .inl eT)), (tH, .inl (cI, 6, .inl eH)), (tU, .inl (cI, 6, .inl eU_1))]) [8, 9, 0, 1, 2, 3, 4, 5, 6, 7] rfl
    have hD9 := hD.sub (ws' := [(tp, .inr (3, [.ref bt, .int (nI tl), .int tp_f2_6, .int tp_f3_7, .int (nI ta2_5)])), (bt, .inl (cI, 120, .inl bf)), (th, .inr (0, [.int t0, .int t1, .int (nI R), .int (nI T), .int t4, .ref tW, .ref tS, .ref tK, .ref tP, .ref tT, .ref tH, .ref tU])), (tW, .inl (cI, 5, .inl eW)), (tS, .inl (cI, 5, .inl eS)), (tK, .inl (cI, 6, .inl eK)), (tP, .inl (cI, 6, .inl (upd eP i r_2))), (tT, .inl (cI, 6, .inl eT)), (tH, .inl (cI, 6, .inl eH)), (tU, .inl (cI, 6, .inl eU_1))]) [8, 9, 0, 1, 2, 3, 4, 5, 6, 7] (by decide) rfl
    exact wt_zret hx hb hr hlocks (by decide) hP9 hD9 hS ⟨eU_1, (upd eP i r_2), eT, eH, ta2_5, tp_f2_6, tp_f3_7, rfl, ⟨by omega, fun h => absurd rfl h⟩⟩ dX3_tellTube_41
  · skip
    obtain ⟨v, hv1, hv2, rfl⟩ := wt_orv hv_10 c_11
    have hwp := hw_push hwi hv2
    refine lv_aload_n hx hb dX3_tellTube_31 rfl (lv_at hl 0 rfl) ?_
    refine lv_bipush (v := 44) hx hb dX3_tellTube_32 (by decide) ?_
    refine wt_goI (wr := [(th, .inr (0, [.int t0, .int t1, .int (nI R), .int (nI T), .int t4, .ref tW, .ref tS, .ref tK, .ref tP, .ref tT, .ref tH, .ref tU])), (tW, .inl (cI, 5, .inl eW)), (tS, .inl (cI, 5, .inl eS)), (tK, .inl (cI, 6, .inl eK)), (tP, .inl (cI, 6, .inl (upd eP i (nI v)))), (tT, .inl (cI, 6, .inl eT)), (tH, .inl (cI, 6, .inl eH)), (tU, .inl (cI, 6, .inl eU_1))]) (wt_runV (As := [.int 44]) (rest := []) ⟨hx, hb, hml, hown, hts⟩ (c_X3_pass l D cI cZ cH tp bt tl ta2_5 bf tp_f2_6 tp_f3_7 44 (by first | assumption | omega) (by first | assumption | omega) (by decide)) (cwV 1 hts gX3_tellTube_X3_pass rfl rfl rfl (by decide +kernel) ⟨Nat.le_of_ble_eq_true rfl, Nat.le_of_ble_eq_true rfl⟩) hK hP hD [8, 9] rfl (by decide) (va_recv hK.1 hP (ci := 3) (q0 := 8) rfl rfl) rfl hl.1 rfl (Nat.le_of_ble_eq_true rfl) dX3_tellTube_34 ⟨Nat.le_of_ble_eq_true rfl, Nat.le_of_ble_eq_true rfl⟩) hP hD hS hA [8, 9] [0, 1, 2, 3, 4, 5, 6, 7] rfl rfl (by decide) (by decide) (fun r_12 w_13 H locs h_14 hP hD hS => ?_)
    obtain ⟨ta2_15, tp_f2_16, tp_f3_17, rfl, x_18⟩ := h_14
    have hP : va_P D vwCl [(th, .inr (0, [.int t0, .int t1, .int (nI R), .int (nI T), .int t4, .ref tW, .ref tS, .ref tK, .ref tP, .ref tT, .ref tH, .ref tU])), (tW, .inl (cI, 5, .inl eW)), (tS, .inl (cI, 5, .inl eS)), (tK, .inl (cI, 6, .inl eK)), (tP, .inl (cI, 6, .inl (upd eP i (nI v)))), (tT, .inl (cI, 6, .inl eT)), (tH, .inl (cI, 6, .inl eH)), (tU, .inl (cI, 6, .inl eU_1)), (tp, .inr (3, [.ref bt, .int (nI tl), .int tp_f2_16, .int tp_f3_17, .int (nI ta2_15)])), (bt, .inl (cI, 120, .inl bf))] H := hP
    have hD : va_D A [(th, .inr (0, [.int t0, .int t1, .int (nI R), .int (nI T), .int t4, .ref tW, .ref tS, .ref tK, .ref tP, .ref tT, .ref tH, .ref tU])), (tW, .inl (cI, 5, .inl eW)), (tS, .inl (cI, 5, .inl eS)), (tK, .inl (cI, 6, .inl eK)), (tP, .inl (cI, 6, .inl (upd eP i (nI v)))), (tT, .inl (cI, 6, .inl eT)), (tH, .inl (cI, 6, .inl eH)), (tU, .inl (cI, 6, .inl eU_1)), (tp, .inr (3, [.ref bt, .int (nI tl), .int tp_f2_16, .int tp_f3_17, .int (nI ta2_15)])), (bt, .inl (cI, 120, .inl bf))] := hD
    refine lv_if_ne (tgt := 42) hx hb dX3_tellTube_37 (by decide) (fun c_19 => ?_) (fun c_19 => ?_)
    · skip
      refine lv_aload_n hx hb dX3_tellTube_42 rfl (lv_at hl 1 rfl) ?_
      refine va_get (D := D) (ci := 0) (v := .ref tT) (C := RX0) (T := TX0) (N := 12) hx hb hts hi0 hown hK.1 hP 0 rfl rfl 9 (by decide) wf96 (fun _ h9 => h9) rfl dX3_tellTube_43 ?_
      refine lv_iload_n hx hb dX3_tellTube_46 rfl (lv_at hl 2 rfl) ?_
      refine lv_aload_n hx hb dX3_tellTube_47 rfl (lv_at hl 0 rfl) ?_
      refine lv_iconst (v := 1) hx hb dX3_tellTube_48 (by decide) ?_
      refine lv_bipush (v := 9) hx hb dX3_tellTube_49 (by decide) ?_
      refine wt_goI (wr := [(th, .inr (0, [.int t0, .int t1, .int (nI R), .int (nI T), .int t4, .ref tW, .ref tS, .ref tK, .ref tP, .ref tT, .ref tH, .ref tU])), (tW, .inl (cI, 5, .inl eW)), (tS, .inl (cI, 5, .inl eS)), (tK, .inl (cI, 6, .inl eK)), (tP, .inl (cI, 6, .inl (upd eP i (nI v)))), (tT, .inl (cI, 6, .inl eT)), (tH, .inl (cI, 6, .inl eH)), (tU, .inl (cI, 6, .inl eU_1))]) (wt_runV (As := [.int 1, .int 9]) (rest := [.int (nI i), .ref tT]) ⟨hx, hb, hml, hown, hts⟩ (c_X3_number l D cI cZ cH tp bt tl ta2_15 bf tp_f2_16 tp_f3_17 1 9 (by first | assumption | omega) (by first | assumption | omega) (by first | assumption | omega) (by first | assumption | omega)) (cwV 2 hts gX3_tellTube_X3_number rfl rfl rfl (by decide +kernel) ⟨Nat.le_of_ble_eq_true rfl, Nat.le_of_ble_eq_true rfl⟩) hK hP hD [8, 9] rfl (by decide) (va_recv hK.1 hP (ci := 3) (q0 := 8) rfl rfl) rfl hl.1 rfl (Nat.le_of_ble_eq_true rfl) dX3_tellTube_51 ⟨Nat.le_of_ble_eq_true rfl, Nat.le_of_ble_eq_true rfl⟩) hP hD hS hA [8, 9] [0, 1, 2, 3, 4, 5, 6, 7] rfl rfl (by decide) (by decide) (fun r_20 w_21 H locs h_22 hP hD hS => ?_)
      obtain ⟨ta2_23, tp_f2_24, tp_f3_25, rfl, x_26⟩ := h_22
      have hP : va_P D vwCl [(th, .inr (0, [.int t0, .int t1, .int (nI R), .int (nI T), .int t4, .ref tW, .ref tS, .ref tK, .ref tP, .ref tT, .ref tH, .ref tU])), (tW, .inl (cI, 5, .inl eW)), (tS, .inl (cI, 5, .inl eS)), (tK, .inl (cI, 6, .inl eK)), (tP, .inl (cI, 6, .inl (upd eP i (nI v)))), (tT, .inl (cI, 6, .inl eT)), (tH, .inl (cI, 6, .inl eH)), (tU, .inl (cI, 6, .inl eU_1)), (tp, .inr (3, [.ref bt, .int (nI tl), .int tp_f2_24, .int tp_f3_25, .int (nI ta2_23)])), (bt, .inl (cI, 120, .inl bf))] H := hP
      have hD : va_D A [(th, .inr (0, [.int t0, .int t1, .int (nI R), .int (nI T), .int t4, .ref tW, .ref tS, .ref tK, .ref tP, .ref tT, .ref tH, .ref tU])), (tW, .inl (cI, 5, .inl eW)), (tS, .inl (cI, 5, .inl eS)), (tK, .inl (cI, 6, .inl eK)), (tP, .inl (cI, 6, .inl (upd eP i (nI v)))), (tT, .inl (cI, 6, .inl eT)), (tH, .inl (cI, 6, .inl eH)), (tU, .inl (cI, 6, .inl eU_1)), (tp, .inr (3, [.ref bt, .int (nI tl), .int tp_f2_24, .int tp_f3_25, .int (nI ta2_23)])), (bt, .inl (cI, 120, .inl bf))] := hD
      obtain ⟨hta_27, hv_28⟩ := x_26
      refine va_iast hx hb hK.1 hP hD hS 5 0 rfl rfl (vp_in_nI (by omega) (by omega)) dX3_tellTube_54 (fun H locs hP hD hS => ?_)
      have hP : va_P D vwCl [(th, .inr (0, [.int t0, .int t1, .int (nI R), .int (nI T), .int t4, .ref tW, .ref tS, .ref tK, .ref tP, .ref tT, .ref tH, .ref tU])), (tW, .inl (cI, 5, .inl eW)), (tS, .inl (cI, 5, .inl eS)), (tK, .inl (cI, 6, .inl eK)), (tP, .inl (cI, 6, .inl (upd eP i (nI v)))), (tT, .inl (cI, 6, .inl (upd eT ((nI i).toNatClampNeg) r_20))), (tH, .inl (cI, 6, .inl eH)), (tU, .inl (cI, 6, .inl eU_1)), (tp, .inr (3, [.ref bt, .int (nI tl), .int tp_f2_24, .int tp_f3_25, .int (nI ta2_23)])), (bt, .inl (cI, 120, .inl bf))] H := hP
      have hD : va_D A [(th, .inr (0, [.int t0, .int t1, .int (nI R), .int (nI T), .int t4, .ref tW, .ref tS, .ref tK, .ref tP, .ref tT, .ref tH, .ref tU])), (tW, .inl (cI, 5, .inl eW)), (tS, .inl (cI, 5, .inl eS)), (tK, .inl (cI, 6, .inl eK)), (tP, .inl (cI, 6, .inl (upd eP i (nI v)))), (tT, .inl (cI, 6, .inl (upd eT ((nI i).toNatClampNeg) r_20))), (tH, .inl (cI, 6, .inl eH)), (tU, .inl (cI, 6, .inl eU_1)), (tp, .inr (3, [.ref bt, .int (nI tl), .int tp_f2_24, .int tp_f3_25, .int (nI ta2_23)])), (bt, .inl (cI, 120, .inl bf))] := hD
      generalize upd eT ((nI i).toNatClampNeg) r_20 = eT_29 at hP hD
      refine lv_aload_n hx hb dX3_tellTube_55 rfl (lv_at hl 1 rfl) ?_
      refine va_get (D := D) (ci := 0) (v := .ref tT) (C := RX0) (T := TX0) (N := 12) hx hb hts hi0 hown hK.1 hP 0 rfl rfl 9 (by decide) wf96 (fun _ h9 => h9) rfl dX3_tellTube_56 ?_
      refine lv_iload_n hx hb dX3_tellTube_59 rfl (lv_at hl 2 rfl) ?_
      refine va_iald hx hb hK.1 hP 5 0 rfl rfl (vp_in_nI (by omega) (by omega)) dX3_tellTube_60 ?_
      refine lv_topi (fun ov_30 _ => ?_)
      refine lv_if_lt (tgt := 73) hx hb dX3_tellTube_61 (by decide) (fun c_31 => ?_) (fun c_31 => ?_)
      · skip
        refine lv_iconst (v := 0) hx hb dX3_tellTube_73 (by decide) ?_
        have hP9 := hP.sub (ws' := [(tp, .inr (3, [.ref bt, .int (nI tl), .int tp_f2_24, .int tp_f3_25, .int (nI ta2_23)])), (bt, .inl (cI, 120, .inl bf)), (th, .inr (0, [.int t0, .int t1, .int (nI R), .int (nI T), .int t4, .ref tW, .ref tS, .ref tK, .ref tP, .ref tT, .ref tH, .ref tU])), (tW, .inl (cI, 5, .inl eW)), (tS, .inl (cI, 5, .inl eS)), (tK, .inl (cI, 6, .inl eK)), (tP, .inl (cI, 6, .inl (upd eP i (nI v)))), (tT, .inl (cI, 6, .inl eT_29)), (tH, .inl (cI, 6, .inl eH)), (tU, .inl (cI, 6, .inl eU_1))]) [8, 9, 0, 1, 2, 3, 4, 5, 6, 7] rfl
        have hD9 := hD.sub (ws' := [(tp, .inr (3, [.ref bt, .int (nI tl), .int tp_f2_24, .int tp_f3_25, .int (nI ta2_23)])), (bt, .inl (cI, 120, .inl bf)), (th, .inr (0, [.int t0, .int t1, .int (nI R), .int (nI T), .int t4, .ref tW, .ref tS, .ref tK, .ref tP, .ref tT, .ref tH, .ref tU])), (tW, .inl (cI, 5, .inl eW)), (tS, .inl (cI, 5, .inl eS)), (tK, .inl (cI, 6, .inl eK)), (tP, .inl (cI, 6, .inl (upd eP i (nI v)))), (tT, .inl (cI, 6, .inl eT_29)), (tH, .inl (cI, 6, .inl eH)), (tU, .inl (cI, 6, .inl eU_1))]) [8, 9, 0, 1, 2, 3, 4, 5, 6, 7] (by decide) rfl
        exact wt_zret hx hb hr hlocks (by decide) hP9 hD9 hS ⟨eU_1, (upd eP i (nI v)), eT_29, eH, ta2_23, tp_f2_24, tp_f3_25, rfl, ⟨by omega, fun h => absurd rfl h⟩⟩ dX3_tellTube_74
      · skip
        refine lv_aload_n hx hb dX3_tellTube_64 rfl (lv_at hl 0 rfl) ?_
        refine lv_bipush (v := 44) hx hb dX3_tellTube_65 (by decide) ?_
        refine wt_goI (wr := [(th, .inr (0, [.int t0, .int t1, .int (nI R), .int (nI T), .int t4, .ref tW, .ref tS, .ref tK, .ref tP, .ref tT, .ref tH, .ref tU])), (tW, .inl (cI, 5, .inl eW)), (tS, .inl (cI, 5, .inl eS)), (tK, .inl (cI, 6, .inl eK)), (tP, .inl (cI, 6, .inl (upd eP i (nI v)))), (tT, .inl (cI, 6, .inl eT_29)), (tH, .inl (cI, 6, .inl eH)), (tU, .inl (cI, 6, .inl eU_1))]) (wt_runV (As := [.int 44]) (rest := []) ⟨hx, hb, hml, hown, hts⟩ (c_X3_pass l D cI cZ cH tp bt tl ta2_23 bf tp_f2_24 tp_f3_25 44 (by first | assumption | omega) (by first | assumption | omega) (by decide)) (cwV 1 hts gX3_tellTube_X3_pass rfl rfl rfl (by decide +kernel) ⟨Nat.le_of_ble_eq_true rfl, Nat.le_of_ble_eq_true rfl⟩) hK hP hD [8, 9] rfl (by decide) (va_recv hK.1 hP (ci := 3) (q0 := 8) rfl rfl) rfl hl.1 rfl (Nat.le_of_ble_eq_true rfl) dX3_tellTube_67 ⟨Nat.le_of_ble_eq_true rfl, Nat.le_of_ble_eq_true rfl⟩) hP hD hS hA [8, 9] [0, 1, 2, 3, 4, 5, 6, 7] rfl rfl (by decide) (by decide) (fun r_32 w_33 H locs h_34 hP hD hS => ?_)
        obtain ⟨ta2_35, tp_f2_36, tp_f3_37, rfl, x_38⟩ := h_34
        have hP : va_P D vwCl [(th, .inr (0, [.int t0, .int t1, .int (nI R), .int (nI T), .int t4, .ref tW, .ref tS, .ref tK, .ref tP, .ref tT, .ref tH, .ref tU])), (tW, .inl (cI, 5, .inl eW)), (tS, .inl (cI, 5, .inl eS)), (tK, .inl (cI, 6, .inl eK)), (tP, .inl (cI, 6, .inl (upd eP i (nI v)))), (tT, .inl (cI, 6, .inl eT_29)), (tH, .inl (cI, 6, .inl eH)), (tU, .inl (cI, 6, .inl eU_1)), (tp, .inr (3, [.ref bt, .int (nI tl), .int tp_f2_36, .int tp_f3_37, .int (nI ta2_35)])), (bt, .inl (cI, 120, .inl bf))] H := hP
        have hD : va_D A [(th, .inr (0, [.int t0, .int t1, .int (nI R), .int (nI T), .int t4, .ref tW, .ref tS, .ref tK, .ref tP, .ref tT, .ref tH, .ref tU])), (tW, .inl (cI, 5, .inl eW)), (tS, .inl (cI, 5, .inl eS)), (tK, .inl (cI, 6, .inl eK)), (tP, .inl (cI, 6, .inl (upd eP i (nI v)))), (tT, .inl (cI, 6, .inl eT_29)), (tH, .inl (cI, 6, .inl eH)), (tU, .inl (cI, 6, .inl eU_1)), (tp, .inr (3, [.ref bt, .int (nI tl), .int tp_f2_36, .int tp_f3_37, .int (nI ta2_35)])), (bt, .inl (cI, 120, .inl bf))] := hD
        refine lv_if_ne (tgt := 75) hx hb dX3_tellTube_70 (by decide) (fun c_39 => ?_) (fun c_39 => ?_)
        · skip
          refine lv_aload_n hx hb dX3_tellTube_75 rfl (lv_at hl 1 rfl) ?_
          refine va_get (D := D) (ci := 0) (v := .ref tH) (C := RX0) (T := TX0) (N := 12) hx hb hts hi0 hown hK.1 hP 0 rfl rfl 10 (by decide) wf99 (fun _ h9 => h9) rfl dX3_tellTube_76 ?_
          refine lv_iload_n hx hb dX3_tellTube_79 rfl (lv_at hl 2 rfl) ?_
          refine lv_aload_n hx hb dX3_tellTube_80 rfl (lv_at hl 0 rfl) ?_
          refine lv_iconst (v := 1) hx hb dX3_tellTube_81 (by decide) ?_
          refine lv_bipush (v := 40) hx hb dX3_tellTube_82 (by decide) ?_
          refine wt_goI (wr := [(th, .inr (0, [.int t0, .int t1, .int (nI R), .int (nI T), .int t4, .ref tW, .ref tS, .ref tK, .ref tP, .ref tT, .ref tH, .ref tU])), (tW, .inl (cI, 5, .inl eW)), (tS, .inl (cI, 5, .inl eS)), (tK, .inl (cI, 6, .inl eK)), (tP, .inl (cI, 6, .inl (upd eP i (nI v)))), (tT, .inl (cI, 6, .inl eT_29)), (tH, .inl (cI, 6, .inl eH)), (tU, .inl (cI, 6, .inl eU_1))]) (wt_runV (As := [.int 1, .int 40]) (rest := [.int (nI i), .ref tH]) ⟨hx, hb, hml, hown, hts⟩ (c_X3_number l D cI cZ cH tp bt tl ta2_35 bf tp_f2_36 tp_f3_37 1 40 (by first | assumption | omega) (by first | assumption | omega) (by first | assumption | omega) (by first | assumption | omega)) (cwV 2 hts gX3_tellTube_X3_number rfl rfl rfl (by decide +kernel) ⟨Nat.le_of_ble_eq_true rfl, Nat.le_of_ble_eq_true rfl⟩) hK hP hD [8, 9] rfl (by decide) (va_recv hK.1 hP (ci := 3) (q0 := 8) rfl rfl) rfl hl.1 rfl (Nat.le_of_ble_eq_true rfl) dX3_tellTube_84 ⟨Nat.le_of_ble_eq_true rfl, Nat.le_of_ble_eq_true rfl⟩) hP hD hS hA [8, 9] [0, 1, 2, 3, 4, 5, 6, 7] rfl rfl (by decide) (by decide) (fun r_40 w_41 H locs h_42 hP hD hS => ?_)
          obtain ⟨ta2_43, tp_f2_44, tp_f3_45, rfl, x_46⟩ := h_42
          have hP : va_P D vwCl [(th, .inr (0, [.int t0, .int t1, .int (nI R), .int (nI T), .int t4, .ref tW, .ref tS, .ref tK, .ref tP, .ref tT, .ref tH, .ref tU])), (tW, .inl (cI, 5, .inl eW)), (tS, .inl (cI, 5, .inl eS)), (tK, .inl (cI, 6, .inl eK)), (tP, .inl (cI, 6, .inl (upd eP i (nI v)))), (tT, .inl (cI, 6, .inl eT_29)), (tH, .inl (cI, 6, .inl eH)), (tU, .inl (cI, 6, .inl eU_1)), (tp, .inr (3, [.ref bt, .int (nI tl), .int tp_f2_44, .int tp_f3_45, .int (nI ta2_43)])), (bt, .inl (cI, 120, .inl bf))] H := hP
          have hD : va_D A [(th, .inr (0, [.int t0, .int t1, .int (nI R), .int (nI T), .int t4, .ref tW, .ref tS, .ref tK, .ref tP, .ref tT, .ref tH, .ref tU])), (tW, .inl (cI, 5, .inl eW)), (tS, .inl (cI, 5, .inl eS)), (tK, .inl (cI, 6, .inl eK)), (tP, .inl (cI, 6, .inl (upd eP i (nI v)))), (tT, .inl (cI, 6, .inl eT_29)), (tH, .inl (cI, 6, .inl eH)), (tU, .inl (cI, 6, .inl eU_1)), (tp, .inr (3, [.ref bt, .int (nI tl), .int tp_f2_44, .int tp_f3_45, .int (nI ta2_43)])), (bt, .inl (cI, 120, .inl bf))] := hD
          obtain ⟨hta_47, hv_48⟩ := x_46
          refine va_iast hx hb hK.1 hP hD hS 6 0 rfl rfl (vp_in_nI (by omega) (by omega)) dX3_tellTube_87 (fun H locs hP hD hS => ?_)
          have hP : va_P D vwCl [(th, .inr (0, [.int t0, .int t1, .int (nI R), .int (nI T), .int t4, .ref tW, .ref tS, .ref tK, .ref tP, .ref tT, .ref tH, .ref tU])), (tW, .inl (cI, 5, .inl eW)), (tS, .inl (cI, 5, .inl eS)), (tK, .inl (cI, 6, .inl eK)), (tP, .inl (cI, 6, .inl (upd eP i (nI v)))), (tT, .inl (cI, 6, .inl eT_29)), (tH, .inl (cI, 6, .inl (upd eH ((nI i).toNatClampNeg) r_40))), (tU, .inl (cI, 6, .inl eU_1)), (tp, .inr (3, [.ref bt, .int (nI tl), .int tp_f2_44, .int tp_f3_45, .int (nI ta2_43)])), (bt, .inl (cI, 120, .inl bf))] H := hP
          have hD : va_D A [(th, .inr (0, [.int t0, .int t1, .int (nI R), .int (nI T), .int t4, .ref tW, .ref tS, .ref tK, .ref tP, .ref tT, .ref tH, .ref tU])), (tW, .inl (cI, 5, .inl eW)), (tS, .inl (cI, 5, .inl eS)), (tK, .inl (cI, 6, .inl eK)), (tP, .inl (cI, 6, .inl (upd eP i (nI v)))), (tT, .inl (cI, 6, .inl eT_29)), (tH, .inl (cI, 6, .inl (upd eH ((nI i).toNatClampNeg) r_40))), (tU, .inl (cI, 6, .inl eU_1)), (tp, .inr (3, [.ref bt, .int (nI tl), .int tp_f2_44, .int tp_f3_45, .int (nI ta2_43)])), (bt, .inl (cI, 120, .inl bf))] := hD
          generalize upd eH ((nI i).toNatClampNeg) r_40 = eH_49 at hP hD
          refine lv_aload_n hx hb dX3_tellTube_88 rfl (lv_at hl 1 rfl) ?_
          refine va_get (D := D) (ci := 0) (v := .ref tH) (C := RX0) (T := TX0) (N := 12) hx hb hts hi0 hown hK.1 hP 0 rfl rfl 10 (by decide) wf99 (fun _ h9 => h9) rfl dX3_tellTube_89 ?_
          refine lv_iload_n hx hb dX3_tellTube_92 rfl (lv_at hl 2 rfl) ?_
          refine va_iald hx hb hK.1 hP 6 0 rfl rfl (vp_in_nI (by omega) (by omega)) dX3_tellTube_93 ?_
          refine lv_topi (fun ov_50 _ => ?_)
          refine lv_if_lt (tgt := 110) hx hb dX3_tellTube_94 (by decide) (fun c_51 => ?_) (fun c_51 => ?_)
          · skip
            refine lv_iconst (v := 0) hx hb dX3_tellTube_110 (by decide) ?_
            have hP9 := hP.sub (ws' := [(tp, .inr (3, [.ref bt, .int (nI tl), .int tp_f2_44, .int tp_f3_45, .int (nI ta2_43)])), (bt, .inl (cI, 120, .inl bf)), (th, .inr (0, [.int t0, .int t1, .int (nI R), .int (nI T), .int t4, .ref tW, .ref tS, .ref tK, .ref tP, .ref tT, .ref tH, .ref tU])), (tW, .inl (cI, 5, .inl eW)), (tS, .inl (cI, 5, .inl eS)), (tK, .inl (cI, 6, .inl eK)), (tP, .inl (cI, 6, .inl (upd eP i (nI v)))), (tT, .inl (cI, 6, .inl eT_29)), (tH, .inl (cI, 6, .inl eH_49)), (tU, .inl (cI, 6, .inl eU_1))]) [8, 9, 0, 1, 2, 3, 4, 5, 6, 7] rfl
            have hD9 := hD.sub (ws' := [(tp, .inr (3, [.ref bt, .int (nI tl), .int tp_f2_44, .int tp_f3_45, .int (nI ta2_43)])), (bt, .inl (cI, 120, .inl bf)), (th, .inr (0, [.int t0, .int t1, .int (nI R), .int (nI T), .int t4, .ref tW, .ref tS, .ref tK, .ref tP, .ref tT, .ref tH, .ref tU])), (tW, .inl (cI, 5, .inl eW)), (tS, .inl (cI, 5, .inl eS)), (tK, .inl (cI, 6, .inl eK)), (tP, .inl (cI, 6, .inl (upd eP i (nI v)))), (tT, .inl (cI, 6, .inl eT_29)), (tH, .inl (cI, 6, .inl eH_49)), (tU, .inl (cI, 6, .inl eU_1))]) [8, 9, 0, 1, 2, 3, 4, 5, 6, 7] (by decide) rfl
            exact wt_zret hx hb hr hlocks (by decide) hP9 hD9 hS ⟨eU_1, (upd eP i (nI v)), eT_29, eH_49, ta2_43, tp_f2_44, tp_f3_45, rfl, ⟨by omega, fun h => absurd rfl h⟩⟩ dX3_tellTube_111
          · skip
            refine lv_aload_n hx hb dX3_tellTube_97 rfl (lv_at hl 0 rfl) ?_
            refine lv_bipush (v := 59) hx hb dX3_tellTube_98 (by decide) ?_
            refine wt_goI (wr := [(th, .inr (0, [.int t0, .int t1, .int (nI R), .int (nI T), .int t4, .ref tW, .ref tS, .ref tK, .ref tP, .ref tT, .ref tH, .ref tU])), (tW, .inl (cI, 5, .inl eW)), (tS, .inl (cI, 5, .inl eS)), (tK, .inl (cI, 6, .inl eK)), (tP, .inl (cI, 6, .inl (upd eP i (nI v)))), (tT, .inl (cI, 6, .inl eT_29)), (tH, .inl (cI, 6, .inl eH_49)), (tU, .inl (cI, 6, .inl eU_1))]) (wt_runV (As := [.int 59]) (rest := []) ⟨hx, hb, hml, hown, hts⟩ (c_X3_pass l D cI cZ cH tp bt tl ta2_43 bf tp_f2_44 tp_f3_45 59 (by first | assumption | omega) (by first | assumption | omega) (by decide)) (cwV 1 hts gX3_tellTube_X3_pass rfl rfl rfl (by decide +kernel) ⟨Nat.le_of_ble_eq_true rfl, Nat.le_of_ble_eq_true rfl⟩) hK hP hD [8, 9] rfl (by decide) (va_recv hK.1 hP (ci := 3) (q0 := 8) rfl rfl) rfl hl.1 rfl (Nat.le_of_ble_eq_true rfl) dX3_tellTube_100 ⟨Nat.le_of_ble_eq_true rfl, Nat.le_of_ble_eq_true rfl⟩) hP hD hS hA [8, 9] [0, 1, 2, 3, 4, 5, 6, 7] rfl rfl (by decide) (by decide) (fun r_52 w_53 H locs h_54 hP hD hS => ?_)
            obtain ⟨ta2_55, tp_f2_56, tp_f3_57, rfl, x_58⟩ := h_54
            have hP : va_P D vwCl [(th, .inr (0, [.int t0, .int t1, .int (nI R), .int (nI T), .int t4, .ref tW, .ref tS, .ref tK, .ref tP, .ref tT, .ref tH, .ref tU])), (tW, .inl (cI, 5, .inl eW)), (tS, .inl (cI, 5, .inl eS)), (tK, .inl (cI, 6, .inl eK)), (tP, .inl (cI, 6, .inl (upd eP i (nI v)))), (tT, .inl (cI, 6, .inl eT_29)), (tH, .inl (cI, 6, .inl eH_49)), (tU, .inl (cI, 6, .inl eU_1)), (tp, .inr (3, [.ref bt, .int (nI tl), .int tp_f2_56, .int tp_f3_57, .int (nI ta2_55)])), (bt, .inl (cI, 120, .inl bf))] H := hP
            have hD : va_D A [(th, .inr (0, [.int t0, .int t1, .int (nI R), .int (nI T), .int t4, .ref tW, .ref tS, .ref tK, .ref tP, .ref tT, .ref tH, .ref tU])), (tW, .inl (cI, 5, .inl eW)), (tS, .inl (cI, 5, .inl eS)), (tK, .inl (cI, 6, .inl eK)), (tP, .inl (cI, 6, .inl (upd eP i (nI v)))), (tT, .inl (cI, 6, .inl eT_29)), (tH, .inl (cI, 6, .inl eH_49)), (tU, .inl (cI, 6, .inl eU_1)), (tp, .inr (3, [.ref bt, .int (nI tl), .int tp_f2_56, .int tp_f3_57, .int (nI ta2_55)])), (bt, .inl (cI, 120, .inl bf))] := hD
            refine lv_if_eq (tgt := 110) hx hb dX3_tellTube_103 (by decide) (fun c_59 => ?_) (fun c_59 => ?_)
            · skip
              refine lv_iconst (v := 0) hx hb dX3_tellTube_110 (by decide) ?_
              have hP9 := hP.sub (ws' := [(tp, .inr (3, [.ref bt, .int (nI tl), .int tp_f2_56, .int tp_f3_57, .int (nI ta2_55)])), (bt, .inl (cI, 120, .inl bf)), (th, .inr (0, [.int t0, .int t1, .int (nI R), .int (nI T), .int t4, .ref tW, .ref tS, .ref tK, .ref tP, .ref tT, .ref tH, .ref tU])), (tW, .inl (cI, 5, .inl eW)), (tS, .inl (cI, 5, .inl eS)), (tK, .inl (cI, 6, .inl eK)), (tP, .inl (cI, 6, .inl (upd eP i (nI v)))), (tT, .inl (cI, 6, .inl eT_29)), (tH, .inl (cI, 6, .inl eH_49)), (tU, .inl (cI, 6, .inl eU_1))]) [8, 9, 0, 1, 2, 3, 4, 5, 6, 7] rfl
              have hD9 := hD.sub (ws' := [(tp, .inr (3, [.ref bt, .int (nI tl), .int tp_f2_56, .int tp_f3_57, .int (nI ta2_55)])), (bt, .inl (cI, 120, .inl bf)), (th, .inr (0, [.int t0, .int t1, .int (nI R), .int (nI T), .int t4, .ref tW, .ref tS, .ref tK, .ref tP, .ref tT, .ref tH, .ref tU])), (tW, .inl (cI, 5, .inl eW)), (tS, .inl (cI, 5, .inl eS)), (tK, .inl (cI, 6, .inl eK)), (tP, .inl (cI, 6, .inl (upd eP i (nI v)))), (tT, .inl (cI, 6, .inl eT_29)), (tH, .inl (cI, 6, .inl eH_49)), (tU, .inl (cI, 6, .inl eU_1))]) [8, 9, 0, 1, 2, 3, 4, 5, 6, 7] (by decide) rfl
              exact wt_zret hx hb hr hlocks (by decide) hP9 hD9 hS ⟨eU_1, (upd eP i (nI v)), eT_29, eH_49, ta2_55, tp_f2_56, tp_f3_57, rfl, ⟨by omega, fun h => absurd rfl h⟩⟩ dX3_tellTube_111
            · skip
              refine lv_iconst (v := 1) hx hb dX3_tellTube_106 (by decide) ?_
              refine lv_goto (tgt := 111) hx hb dX3_tellTube_107 (by decide) ?_
              have hP9 := hP.sub (ws' := [(tp, .inr (3, [.ref bt, .int (nI tl), .int tp_f2_56, .int tp_f3_57, .int (nI ta2_55)])), (bt, .inl (cI, 120, .inl bf)), (th, .inr (0, [.int t0, .int t1, .int (nI R), .int (nI T), .int t4, .ref tW, .ref tS, .ref tK, .ref tP, .ref tT, .ref tH, .ref tU])), (tW, .inl (cI, 5, .inl eW)), (tS, .inl (cI, 5, .inl eS)), (tK, .inl (cI, 6, .inl eK)), (tP, .inl (cI, 6, .inl (upd eP i (nI v)))), (tT, .inl (cI, 6, .inl eT_29)), (tH, .inl (cI, 6, .inl eH_49)), (tU, .inl (cI, 6, .inl eU_1))]) [8, 9, 0, 1, 2, 3, 4, 5, 6, 7] rfl
              have hD9 := hD.sub (ws' := [(tp, .inr (3, [.ref bt, .int (nI tl), .int tp_f2_56, .int tp_f3_57, .int (nI ta2_55)])), (bt, .inl (cI, 120, .inl bf)), (th, .inr (0, [.int t0, .int t1, .int (nI R), .int (nI T), .int t4, .ref tW, .ref tS, .ref tK, .ref tP, .ref tT, .ref tH, .ref tU])), (tW, .inl (cI, 5, .inl eW)), (tS, .inl (cI, 5, .inl eS)), (tK, .inl (cI, 6, .inl eK)), (tP, .inl (cI, 6, .inl (upd eP i (nI v)))), (tT, .inl (cI, 6, .inl eT_29)), (tH, .inl (cI, 6, .inl eH_49)), (tU, .inl (cI, 6, .inl eU_1))]) [8, 9, 0, 1, 2, 3, 4, 5, 6, 7] (by decide) rfl
              exact wt_zret hx hb hr hlocks (by decide) hP9 hD9 hS ⟨eU_1, (upd eP i (nI v)), eT_29, eH_49, ta2_55, tp_f2_56, tp_f3_57, rfl, ⟨by omega, fun _ => hwp⟩⟩ dX3_tellTube_111
        · skip
          refine lv_iconst (v := 0) hx hb dX3_tellTube_73 (by decide) ?_
          have hP9 := hP.sub (ws' := [(tp, .inr (3, [.ref bt, .int (nI tl), .int tp_f2_36, .int tp_f3_37, .int (nI ta2_35)])), (bt, .inl (cI, 120, .inl bf)), (th, .inr (0, [.int t0, .int t1, .int (nI R), .int (nI T), .int t4, .ref tW, .ref tS, .ref tK, .ref tP, .ref tT, .ref tH, .ref tU])), (tW, .inl (cI, 5, .inl eW)), (tS, .inl (cI, 5, .inl eS)), (tK, .inl (cI, 6, .inl eK)), (tP, .inl (cI, 6, .inl (upd eP i (nI v)))), (tT, .inl (cI, 6, .inl eT_29)), (tH, .inl (cI, 6, .inl eH)), (tU, .inl (cI, 6, .inl eU_1))]) [8, 9, 0, 1, 2, 3, 4, 5, 6, 7] rfl
          have hD9 := hD.sub (ws' := [(tp, .inr (3, [.ref bt, .int (nI tl), .int tp_f2_36, .int tp_f3_37, .int (nI ta2_35)])), (bt, .inl (cI, 120, .inl bf)), (th, .inr (0, [.int t0, .int t1, .int (nI R), .int (nI T), .int t4, .ref tW, .ref tS, .ref tK, .ref tP, .ref tT, .ref tH, .ref tU])), (tW, .inl (cI, 5, .inl eW)), (tS, .inl (cI, 5, .inl eS)), (tK, .inl (cI, 6, .inl eK)), (tP, .inl (cI, 6, .inl (upd eP i (nI v)))), (tT, .inl (cI, 6, .inl eT_29)), (tH, .inl (cI, 6, .inl eH)), (tU, .inl (cI, 6, .inl eU_1))]) [8, 9, 0, 1, 2, 3, 4, 5, 6, 7] (by decide) rfl
          exact wt_zret hx hb hr hlocks (by decide) hP9 hD9 hS ⟨eU_1, (upd eP i (nI v)), eT_29, eH, ta2_35, tp_f2_36, tp_f3_37, rfl, ⟨by omega, fun h => absurd rfl h⟩⟩ dX3_tellTube_74
    · skip
      refine lv_iconst (v := 0) hx hb dX3_tellTube_40 (by decide) ?_
      have hP9 := hP.sub (ws' := [(tp, .inr (3, [.ref bt, .int (nI tl), .int tp_f2_16, .int tp_f3_17, .int (nI ta2_15)])), (bt, .inl (cI, 120, .inl bf)), (th, .inr (0, [.int t0, .int t1, .int (nI R), .int (nI T), .int t4, .ref tW, .ref tS, .ref tK, .ref tP, .ref tT, .ref tH, .ref tU])), (tW, .inl (cI, 5, .inl eW)), (tS, .inl (cI, 5, .inl eS)), (tK, .inl (cI, 6, .inl eK)), (tP, .inl (cI, 6, .inl (upd eP i (nI v)))), (tT, .inl (cI, 6, .inl eT)), (tH, .inl (cI, 6, .inl eH)), (tU, .inl (cI, 6, .inl eU_1))]) [8, 9, 0, 1, 2, 3, 4, 5, 6, 7] rfl
      have hD9 := hD.sub (ws' := [(tp, .inr (3, [.ref bt, .int (nI tl), .int tp_f2_16, .int tp_f3_17, .int (nI ta2_15)])), (bt, .inl (cI, 120, .inl bf)), (th, .inr (0, [.int t0, .int t1, .int (nI R), .int (nI T), .int t4, .ref tW, .ref tS, .ref tK, .ref tP, .ref tT, .ref tH, .ref tU])), (tW, .inl (cI, 5, .inl eW)), (tS, .inl (cI, 5, .inl eS)), (tK, .inl (cI, 6, .inl eK)), (tP, .inl (cI, 6, .inl (upd eP i (nI v)))), (tT, .inl (cI, 6, .inl eT)), (tH, .inl (cI, 6, .inl eH)), (tU, .inl (cI, 6, .inl eU_1))]) [8, 9, 0, 1, 2, 3, 4, 5, 6, 7] (by decide) rfl
      exact wt_zret hx hb hr hlocks (by decide) hP9 hD9 hS ⟨eU_1, (upd eP i (nI v)), eT, eH, ta2_15, tp_f2_16, tp_f3_17, rfl, ⟨by omega, fun h => absurd rfl h⟩⟩ dX3_tellTube_41
set_option maxHeartbeats 4000000 in
set_option maxRecDepth 100000 in
theorem c_X3_tellTubes (l : Launch) (D : va_G) (cI cZ cH : ClassId) (tp bt : Nat) (tl ta : Nat) (bf : Nat → Int32) (s2 s3 : Int32) (th tW tS tK tP tT tH tU : Nat) (R T : Nat) (t0 t1 t4 : Int32) (eW eS eK eP eT eH eU : Nat → Int32) (htl : tl ≤ 120) (hta : ta ≤ tl) (hR5 : R ≤ 5) (hT0 : T = 0) : wt_M l yX3_tellTubes wsX3_tellTubes ({ frames := 3, cells := 0, slots := 0, locals := 70 } : Room) D (wt_T cI cZ cH) [.ref tp, .ref th] [(tp, .inr (3, [.ref bt, .int (nI tl), .int s2, .int s3, .int (nI ta)])), (bt, .inl (cI, 120, .inl bf)), (th, .inr (0, [.int t0, .int t1, .int (nI R), .int (nI T), .int t4, .ref tW, .ref tS, .ref tK, .ref tP, .ref tT, .ref tH, .ref tU])), (tW, .inl (cI, 5, .inl eW)), (tS, .inl (cI, 5, .inl eS)), (tK, .inl (cI, 6, .inl eK)), (tP, .inl (cI, 6, .inl eP)), (tT, .inl (cI, 6, .inl eT)), (tH, .inl (cI, 6, .inl eH)), (tU, .inl (cI, 6, .inl eU))] (wt_QI D (fun r w => ∃ (eK2 eP2 eT2 eH2 eU2 : Nat → Int32) (ta2 T2 : Nat) (tp_f2 tp_f3 : Int32), w = [(tp, .inr (3, [.ref bt, .int (nI tl), .int tp_f2, .int tp_f3, .int (nI ta2)])), (bt, .inl (cI, 120, .inl bf)), (th, .inr (0, [.int t0, .int t1, .int (nI R), .int (nI T2), .int t4, .ref tW, .ref tS, .ref tK, .ref tP, .ref tT, .ref tH, .ref tU])), (tW, .inl (cI, 5, .inl eW)), (tS, .inl (cI, 5, .inl eS)), (tK, .inl (cI, 6, .inl eK2)), (tP, .inl (cI, 6, .inl eP2)), (tT, .inl (cI, 6, .inl eT2)), (tH, .inl (cI, 6, .inl eH2)), (tU, .inl (cI, 6, .inl eU2))] ∧ ta2 ≤ tl ∧ (¬ r = 0 → 0 < T2 ∧ T2 ≤ 6 ∧ hw R T2 eP2))) := by
  refine wt_M.ofW (cc := cX3_tellTubes) (maxL := 4) (ret := (some .boolean)) (by decide) rfl (Nat.le_of_ble_eq_true rfl) ?_
  intro p e s m below meth c A ls hx hb hr hts hown hlocks hml hnm hP hK hD hA hS hl
  have hP : va_P D vwCl [(tp, .inr (3, [.ref bt, .int (nI tl), .int s2, .int s3, .int (nI ta)])), (bt, .inl (cI, 120, .inl bf)), (th, .inr (0, [.int t0, .int t1, .int (nI R), .int (nI T), .int t4, .ref tW, .ref tS, .ref tK, .ref tP, .ref tT, .ref tH, .ref tU])), (tW, .inl (cI, 5, .inl eW)), (tS, .inl (cI, 5, .inl eS)), (tK, .inl (cI, 6, .inl eK)), (tP, .inl (cI, 6, .inl eP)), (tT, .inl (cI, 6, .inl eT)), (tH, .inl (cI, 6, .inl eH)), (tU, .inl (cI, 6, .inl eU))] s.heap := hP
  have hown : s.vm.findClass RX3 = some m.cls := hown
  have hl : lv_has ls 4 [(0, .ref tp), (1, .ref th)] := hl
  have hi0 : ∀ w ∈ u_ws RX0 TX0 12, w ∈ wsX3_tellTubes := by decide +kernel
  have hi3 : ∀ w ∈ u_ws RX3 TX3 5, w ∈ wsX3_tellTubes := by decide +kernel
  have wf15 := hts (.fieldLink RX3 15 "WarmTubes$Tape" "length" "I") (by decide +kernel)
  have wf25 := hts (.fieldLink RX3 25 "WarmTubes$Tape" "at" "I") (by decide +kernel)
  have wf33 := hts (.fieldLink RX3 33 "WarmTubes$House" "tubes" "I") (by decide +kernel)
  have wf84 := hts (.fieldLink RX3 84 "WarmTubes$House" "sort" "[I") (by decide +kernel)
  refine lv_iconst (v := 0) hx hb dX3_tellTubes_0 (by decide) ?_
  refine lv_istore_n (lv' := [(2, .int 0), (0, .ref tp), (1, .ref th)]) hx hb dX3_tellTubes_1 rfl hl (by decide) rfl (fun ls hl => ?_)
  have loop2 : ∀ (k i_1 : Nat) (eK_2 : Nat → Int32) (eP_3 : Nat → Int32) (eT_4 : Nat → Int32) (eH_5 : Nat → Int32) (eU_6 : Nat → Int32) (v_7 : Int32) (v_8 : Int32) (n_9 : Nat) (n_10 : Nat) (H : Heap) (locs : List Loc) (ls : Array Slot), i_1 + k = 6 + 1 → (n_9 ≤ tl) → (n_10 = i_1) → (i_1 ≤ 6) → (hw R i_1 eP_3) → va_P D vwCl [(tp, .inr (3, [.ref bt, .int (nI tl), .int v_7, .int v_8, .int (nI n_9)])), (bt, .inl (cI, 120, .inl bf)), (th, .inr (0, [.int t0, .int t1, .int (nI R), .int (nI n_10), .int t4, .ref tW, .ref tS, .ref tK, .ref tP, .ref tT, .ref tH, .ref tU])), (tW, .inl (cI, 5, .inl eW)), (tS, .inl (cI, 5, .inl eS)), (tK, .inl (cI, 6, .inl eK_2)), (tP, .inl (cI, 6, .inl eP_3)), (tT, .inl (cI, 6, .inl eT_4)), (tH, .inl (cI, 6, .inl eH_5)), (tU, .inl (cI, 6, .inl eU_6))] H → va_D A [(tp, .inr (3, [.ref bt, .int (nI tl), .int v_7, .int v_8, .int (nI n_9)])), (bt, .inl (cI, 120, .inl bf)), (th, .inr (0, [.int t0, .int t1, .int (nI R), .int (nI n_10), .int t4, .ref tW, .ref tS, .ref tK, .ref tP, .ref tT, .ref tH, .ref tU])), (tW, .inl (cI, 5, .inl eW)), (tS, .inl (cI, 5, .inl eS)), (tK, .inl (cI, 6, .inl eK_2)), (tP, .inl (cI, 6, .inl eP_3)), (tT, .inl (cI, 6, .inl eT_4)), (tH, .inl (cI, 6, .inl eH_5)), (tU, .inl (cI, 6, .inl eU_6))] → va_S A s.heap H locs → lv_has ls 4 [(2, .int (nI i_1)), (0, .ref tp), (1, .ref th)] → W p l e ({ frames := 3, cells := 0, slots := 0, locals := 70 } : Room) s m ([.ref tp, .ref th] : List Value).toArray below meth c H locs 0 0 (MQ below (wt_QI D (fun r w => ∃ (eK2 eP2 eT2 eH2 eU2 : Nat → Int32) (ta2 T2 : Nat) (tp_f2 tp_f3 : Int32), w = [(tp, .inr (3, [.ref bt, .int (nI tl), .int tp_f2, .int tp_f3, .int (nI ta2)])), (bt, .inl (cI, 120, .inl bf)), (th, .inr (0, [.int t0, .int t1, .int (nI R), .int (nI T2), .int t4, .ref tW, .ref tS, .ref tK, .ref tP, .ref tT, .ref tH, .ref tU])), (tW, .inl (cI, 5, .inl eW)), (tS, .inl (cI, 5, .inl eS)), (tK, .inl (cI, 6, .inl eK2)), (tP, .inl (cI, 6, .inl eP2)), (tT, .inl (cI, 6, .inl eT2)), (tH, .inl (cI, 6, .inl eH2)), (tU, .inl (cI, 6, .inl eU2))] ∧ ta2 ≤ tl ∧ (¬ r = 0 → 0 < T2 ∧ T2 ≤ 6 ∧ hw R T2 eP2)) A) ([.ref tp, .ref th] : List Value).toArray s 0 0 A) (F0 m 2 ls []) := by
    intro k
    induction k with
    | zero =>
      intro i_1 eK_2 eP_3 eT_4 eH_5 eU_6 v_7 v_8 n_9 n_10 H locs ls hik hta h3 hi6 hwi hP hD hS hl
      refine lv_iload_n hx hb dX3_tellTubes_2 rfl (lv_at hl 0 rfl) ?_
      refine lv_bipush (v := 6) hx hb dX3_tellTubes_3 (by decide) ?_
      refine lv_icmp_gt (tgt := 96) hx hb dX3_tellTubes_5 (by decide) (fun _ => ?_) (fun h => absurd (nI_lt (a := 6) (b := i_1) (by omega) (by omega)) h)
      refine lv_iconst (v := 1) hx hb dX3_tellTubes_96 (by decide) ?_
      have hP9 := hP.sub (ws' := [(tp, .inr (3, [.ref bt, .int (nI tl), .int v_7, .int v_8, .int (nI n_9)])), (bt, .inl (cI, 120, .inl bf)), (th, .inr (0, [.int t0, .int t1, .int (nI R), .int (nI n_10), .int t4, .ref tW, .ref tS, .ref tK, .ref tP, .ref tT, .ref tH, .ref tU])), (tW, .inl (cI, 5, .inl eW)), (tS, .inl (cI, 5, .inl eS)), (tK, .inl (cI, 6, .inl eK_2)), (tP, .inl (cI, 6, .inl eP_3)), (tT, .inl (cI, 6, .inl eT_4)), (tH, .inl (cI, 6, .inl eH_5)), (tU, .inl (cI, 6, .inl eU_6))]) [0, 1, 2, 3, 4, 5, 6, 7, 8, 9] rfl
      have hD9 := hD.sub (ws' := [(tp, .inr (3, [.ref bt, .int (nI tl), .int v_7, .int v_8, .int (nI n_9)])), (bt, .inl (cI, 120, .inl bf)), (th, .inr (0, [.int t0, .int t1, .int (nI R), .int (nI n_10), .int t4, .ref tW, .ref tS, .ref tK, .ref tP, .ref tT, .ref tH, .ref tU])), (tW, .inl (cI, 5, .inl eW)), (tS, .inl (cI, 5, .inl eS)), (tK, .inl (cI, 6, .inl eK_2)), (tP, .inl (cI, 6, .inl eP_3)), (tT, .inl (cI, 6, .inl eT_4)), (tH, .inl (cI, 6, .inl eH_5)), (tU, .inl (cI, 6, .inl eU_6))]) [0, 1, 2, 3, 4, 5, 6, 7, 8, 9] (by decide) rfl
      exact wt_zret hx hb hr hlocks (by decide) hP9 hD9 hS ⟨eK_2, eP_3, eT_4, eH_5, eU_6, n_9, n_10, v_7, v_8, rfl, ⟨by omega, fun _ => ⟨by omega, by omega, by first | (rw [h3]; exact hwi) | (exfalso; omega)⟩⟩⟩ dX3_tellTubes_97
    | succ k ih2 =>
      intro i_1 eK_2 eP_3 eT_4 eH_5 eU_6 v_7 v_8 n_9 n_10 H locs ls hik hta h3 hi6 hwi hP hD hS hl
      refine lv_iload_n hx hb dX3_tellTubes_2 rfl (lv_at hl 0 rfl) ?_
      refine lv_bipush (v := 6) hx hb dX3_tellTubes_3 (by decide) ?_
      refine lv_icmp_gt (tgt := 96) hx hb dX3_tellTubes_5 (by decide) (fun h => absurd h (nI_nlt (a := 6) (b := i_1) (by omega) (by omega))) (fun _ => ?_)
      refine lv_iload_n hx hb dX3_tellTubes_8 rfl (lv_at hl 0 rfl) ?_
      refine lv_if_le (tgt := 25) hx hb dX3_tellTubes_9 (by decide) (fun c_11 => ?_) (fun c_11 => ?_)
      · skip
        have c_11 : i_1 ≤ 0 := (nI_leI (a := i_1) (b := 0) (by omega) (by omega)).mp c_11
        refine lv_aload_n hx hb dX3_tellTubes_25 rfl (lv_at hl 1 rfl) ?_
        refine wt_rV (As := []) (rest := []) ⟨hx, hb, hml, hown, hts⟩ (c_X3_peek l D cI cZ cH tp bt tl n_9 bf v_7 v_8 (by first | assumption | omega) (by first | assumption | omega)) (cwV 0 hts gX3_tellTubes_X3_peek rfl rfl rfl (by decide +kernel) ⟨Nat.le_of_ble_eq_true rfl, Nat.le_of_ble_eq_true rfl⟩) hK hP [0, 1] rfl (va_recv hK.1 hP (ci := 3) (q0 := 0) rfl rfl) rfl hl.1 rfl (Nat.le_of_ble_eq_true rfl) dX3_tellTubes_26 ⟨Nat.le_of_ble_eq_true rfl, Nat.le_of_ble_eq_true rfl⟩ (fun r_12 e_13 => ?_)
        refine wt_rS (As := [.int r_12]) (rest := []) ⟨hx, hb, hml, hown, hts⟩ (c_X3_sortOf l D cI cZ cH r_12) (va_cwS 1 hts gX3_tellTubes_X3_sortOf rfl rfl rfl (by decide +kernel) ⟨Nat.le_of_ble_eq_true rfl, Nat.le_of_ble_eq_true rfl⟩) hK hP [] rfl rfl hl.1 rfl (Nat.le_of_ble_eq_true rfl) dX3_tellTubes_29 ⟨Nat.le_of_ble_eq_true rfl, Nat.le_of_ble_eq_true rfl⟩ (fun r_14 e_15 => ?_)
        refine lv_istore_n (lv' := [(3, .int r_14), (2, .int (nI i_1)), (0, .ref tp), (1, .ref th)]) hx hb dX3_tellTubes_32 rfl hl (by decide) rfl (fun ls hl => ?_)
        refine lv_iload_n hx hb dX3_tellTubes_33 rfl (lv_at hl 0 rfl) ?_
        refine lv_if_ne (tgt := 43) hx hb dX3_tellTubes_34 (by decide) (fun c_16 => ?_) (fun c_16 => ?_)
        · skip
          refine lv_iload_n hx hb dX3_tellTubes_43 rfl (lv_at hl 1 rfl) ?_
          refine lv_bipush (v := 6) hx hb dX3_tellTubes_44 (by decide) ?_
          refine lv_icmp_ne (tgt := 55) hx hb dX3_tellTubes_46 (by decide) (fun c_17 => ?_) (fun c_17 => ?_)
          · skip
            have c_17 : ¬ (i_1 = 6) := fun h => c_17 ((nI_eq (a := i_1) (b := 6) (by omega) (by omega)).mpr h)
            have hlt := e_13 (e_15 c_16)
            refine lv_aload_n hx hb dX3_tellTubes_55 rfl (lv_at hl 2 rfl) ?_
            refine lv_dup hx hb dX3_tellTubes_56 rfl ?_
            refine va_get (D := D) (ci := 3) (v := .int (nI n_9)) (C := RX3) (T := TX3) (N := 5) hx hb hts hi3 hown hK.1 hP 0 rfl rfl 4 (by decide) wf25 (fun _ h9 => h9) rfl dX3_tellTubes_57 ?_
            refine lv_iconst (v := 1) hx hb dX3_tellTubes_60 (by decide) ?_
            refine lv_iadd hx hb dX3_tellTubes_61 ?_
            refine wt_top (z := nI (n_9 + 1)) (nI_add n_9 1) ?_
            refine va_put (D := D) (ci := 3) (v := .int (nI (n_9 + 1))) (ty := .int) (C := RX3) (T := TX3) (N := 5) hx hb hts hi3 tyX3 tyX3_ok nmX3 hown hK.1 hP hD hS 0 rfl rfl 4 (by decide) wf25 (fun _ h9 => h9) rfl (by decide +kernel) rfl rfl (Nat.le_of_ble_eq_true rfl) dX3_tellTubes_62 (fun H locs hP hD hS => ?_)
            have hP : va_P D vwCl [(tp, .inr (3, [.ref bt, .int (nI tl), .int v_7, .int v_8, .int (nI (n_9 + 1))])), (bt, .inl (cI, 120, .inl bf)), (th, .inr (0, [.int t0, .int t1, .int (nI R), .int (nI n_10), .int t4, .ref tW, .ref tS, .ref tK, .ref tP, .ref tT, .ref tH, .ref tU])), (tW, .inl (cI, 5, .inl eW)), (tS, .inl (cI, 5, .inl eS)), (tK, .inl (cI, 6, .inl eK_2)), (tP, .inl (cI, 6, .inl eP_3)), (tT, .inl (cI, 6, .inl eT_4)), (tH, .inl (cI, 6, .inl eH_5)), (tU, .inl (cI, 6, .inl eU_6))] H := hP
            have hD : va_D A [(tp, .inr (3, [.ref bt, .int (nI tl), .int v_7, .int v_8, .int (nI (n_9 + 1))])), (bt, .inl (cI, 120, .inl bf)), (th, .inr (0, [.int t0, .int t1, .int (nI R), .int (nI n_10), .int t4, .ref tW, .ref tS, .ref tK, .ref tP, .ref tT, .ref tH, .ref tU])), (tW, .inl (cI, 5, .inl eW)), (tS, .inl (cI, 5, .inl eS)), (tK, .inl (cI, 6, .inl eK_2)), (tP, .inl (cI, 6, .inl eP_3)), (tT, .inl (cI, 6, .inl eT_4)), (tH, .inl (cI, 6, .inl eH_5)), (tU, .inl (cI, 6, .inl eU_6))] := hD
            refine lv_aload_n hx hb dX3_tellTubes_65 rfl (lv_at hl 3 rfl) ?_
            refine va_get (D := D) (ci := 0) (v := .ref tK) (C := RX0) (T := TX0) (N := 12) hx hb hts hi0 hown hK.1 hP 2 rfl rfl 7 (by decide) wf84 (fun _ h9 => h9) rfl dX3_tellTubes_66 ?_
            refine lv_iload_n hx hb dX3_tellTubes_69 rfl (lv_at hl 1 rfl) ?_
            refine lv_iload_n hx hb dX3_tellTubes_70 rfl (lv_at hl 0 rfl) ?_
            refine va_iast hx hb hK.1 hP hD hS 5 0 rfl rfl (vp_in_nI (by omega) (by omega)) dX3_tellTubes_71 (fun H locs hP hD hS => ?_)
            have hP : va_P D vwCl [(tp, .inr (3, [.ref bt, .int (nI tl), .int v_7, .int v_8, .int (nI (n_9 + 1))])), (bt, .inl (cI, 120, .inl bf)), (th, .inr (0, [.int t0, .int t1, .int (nI R), .int (nI n_10), .int t4, .ref tW, .ref tS, .ref tK, .ref tP, .ref tT, .ref tH, .ref tU])), (tW, .inl (cI, 5, .inl eW)), (tS, .inl (cI, 5, .inl eS)), (tK, .inl (cI, 6, .inl (upd eK_2 ((nI i_1).toNatClampNeg) r_14))), (tP, .inl (cI, 6, .inl eP_3)), (tT, .inl (cI, 6, .inl eT_4)), (tH, .inl (cI, 6, .inl eH_5)), (tU, .inl (cI, 6, .inl eU_6))] H := hP
            have hD : va_D A [(tp, .inr (3, [.ref bt, .int (nI tl), .int v_7, .int v_8, .int (nI (n_9 + 1))])), (bt, .inl (cI, 120, .inl bf)), (th, .inr (0, [.int t0, .int t1, .int (nI R), .int (nI n_10), .int t4, .ref tW, .ref tS, .ref tK, .ref tP, .ref tT, .ref tH, .ref tU])), (tW, .inl (cI, 5, .inl eW)), (tS, .inl (cI, 5, .inl eS)), (tK, .inl (cI, 6, .inl (upd eK_2 ((nI i_1).toNatClampNeg) r_14))), (tP, .inl (cI, 6, .inl eP_3)), (tT, .inl (cI, 6, .inl eT_4)), (tH, .inl (cI, 6, .inl eH_5)), (tU, .inl (cI, 6, .inl eU_6))] := hD
            generalize upd eK_2 ((nI i_1).toNatClampNeg) r_14 = eK_18 at hP hD
            refine lv_aload_n hx hb dX3_tellTubes_72 rfl (lv_at hl 2 rfl) ?_
            refine lv_aload_n hx hb dX3_tellTubes_73 rfl (lv_at hl 3 rfl) ?_
            refine lv_iload_n hx hb dX3_tellTubes_74 rfl (lv_at hl 1 rfl) ?_
            refine wt_goI (wr := []) (wt_runV (As := [.ref th, .int (nI i_1)]) (rest := []) ⟨hx, hb, hml, hown, hts⟩ (c_X3_tellTube l D cI cZ cH tp bt tl (n_9 + 1) bf v_7 v_8 th tW tS tK tP tT tH tU R n_10 t0 t1 t4 eW eS eK_18 eP_3 eT_4 eH_5 eU_6 i_1 (by first | assumption | omega) (by first | assumption | omega) (by first | assumption | omega) (by first | assumption | omega) (by first | assumption | omega)) (cwV 2 hts gX3_tellTubes_X3_tellTube rfl rfl rfl (by decide +kernel) ⟨Nat.le_of_ble_eq_true rfl, Nat.le_of_ble_eq_true rfl⟩) hK hP hD [0, 1, 2, 3, 4, 5, 6, 7, 8, 9] rfl (by decide) (va_recv hK.1 hP (ci := 3) (q0 := 0) rfl rfl) rfl hl.1 rfl (Nat.le_of_ble_eq_true rfl) dX3_tellTubes_75 ⟨Nat.le_of_ble_eq_true rfl, Nat.le_of_ble_eq_true rfl⟩) hP hD hS hA [0, 1, 2, 3, 4, 5, 6, 7, 8, 9] [] rfl rfl (by decide) (by decide) (fun r_19 w_20 H locs h_21 hP hD hS => ?_)
            obtain ⟨eU2_22, eP2_23, eT2_24, eH2_25, ta2_26, tp_f2_27, tp_f3_28, rfl, x_29⟩ := h_21
            have hP : va_P D vwCl [(tp, .inr (3, [.ref bt, .int (nI tl), .int tp_f2_27, .int tp_f3_28, .int (nI ta2_26)])), (bt, .inl (cI, 120, .inl bf)), (th, .inr (0, [.int t0, .int t1, .int (nI R), .int (nI n_10), .int t4, .ref tW, .ref tS, .ref tK, .ref tP, .ref tT, .ref tH, .ref tU])), (tW, .inl (cI, 5, .inl eW)), (tS, .inl (cI, 5, .inl eS)), (tK, .inl (cI, 6, .inl eK_18)), (tP, .inl (cI, 6, .inl eP2_23)), (tT, .inl (cI, 6, .inl eT2_24)), (tH, .inl (cI, 6, .inl eH2_25)), (tU, .inl (cI, 6, .inl eU2_22))] H := hP
            have hD : va_D A [(tp, .inr (3, [.ref bt, .int (nI tl), .int tp_f2_27, .int tp_f3_28, .int (nI ta2_26)])), (bt, .inl (cI, 120, .inl bf)), (th, .inr (0, [.int t0, .int t1, .int (nI R), .int (nI n_10), .int t4, .ref tW, .ref tS, .ref tK, .ref tP, .ref tT, .ref tH, .ref tU])), (tW, .inl (cI, 5, .inl eW)), (tS, .inl (cI, 5, .inl eS)), (tK, .inl (cI, 6, .inl eK_18)), (tP, .inl (cI, 6, .inl eP2_23)), (tT, .inl (cI, 6, .inl eT2_24)), (tH, .inl (cI, 6, .inl eH2_25)), (tU, .inl (cI, 6, .inl eU2_22))] := hD
            obtain ⟨hta_30, himp_31⟩ := x_29
            refine lv_if_ne (tgt := 83) hx hb dX3_tellTubes_78 (by decide) (fun c_32 => ?_) (fun c_32 => ?_)
            · skip
              refine lv_aload_n hx hb dX3_tellTubes_83 rfl (lv_at hl 3 rfl) ?_
              refine lv_iload_n hx hb dX3_tellTubes_84 rfl (lv_at hl 1 rfl) ?_
              refine lv_iconst (v := 1) hx hb dX3_tellTubes_85 (by decide) ?_
              refine lv_iadd hx hb dX3_tellTubes_86 ?_
              refine wt_top (z := nI (i_1 + 1)) (nI_add i_1 1) ?_
              refine va_put (D := D) (ci := 0) (v := .int (nI (i_1 + 1))) (ty := .int) (C := RX0) (T := TX0) (N := 12) hx hb hts hi0 tyX0 tyX0_ok nmX0 hown hK.1 hP hD hS 2 rfl rfl 3 (by decide) wf33 (fun _ h9 => h9) rfl (by decide +kernel) rfl rfl (Nat.le_of_ble_eq_true rfl) dX3_tellTubes_87 (fun H locs hP hD hS => ?_)
              have hP : va_P D vwCl [(tp, .inr (3, [.ref bt, .int (nI tl), .int tp_f2_27, .int tp_f3_28, .int (nI ta2_26)])), (bt, .inl (cI, 120, .inl bf)), (th, .inr (0, [.int t0, .int t1, .int (nI R), .int (nI (i_1 + 1)), .int t4, .ref tW, .ref tS, .ref tK, .ref tP, .ref tT, .ref tH, .ref tU])), (tW, .inl (cI, 5, .inl eW)), (tS, .inl (cI, 5, .inl eS)), (tK, .inl (cI, 6, .inl eK_18)), (tP, .inl (cI, 6, .inl eP2_23)), (tT, .inl (cI, 6, .inl eT2_24)), (tH, .inl (cI, 6, .inl eH2_25)), (tU, .inl (cI, 6, .inl eU2_22))] H := hP
              have hD : va_D A [(tp, .inr (3, [.ref bt, .int (nI tl), .int tp_f2_27, .int tp_f3_28, .int (nI ta2_26)])), (bt, .inl (cI, 120, .inl bf)), (th, .inr (0, [.int t0, .int t1, .int (nI R), .int (nI (i_1 + 1)), .int t4, .ref tW, .ref tS, .ref tK, .ref tP, .ref tT, .ref tH, .ref tU])), (tW, .inl (cI, 5, .inl eW)), (tS, .inl (cI, 5, .inl eS)), (tK, .inl (cI, 6, .inl eK_18)), (tP, .inl (cI, 6, .inl eP2_23)), (tT, .inl (cI, 6, .inl eT2_24)), (tH, .inl (cI, 6, .inl eH2_25)), (tU, .inl (cI, 6, .inl eU2_22))] := hD
              refine lv_iinc (v := nI (i_1 + 1)) (lv' := [(2, .int (nI (i_1 + 1))), (3, .int r_14), (0, .ref tp), (1, .ref th)]) hx hb dX3_tellTubes_90 hl (k := 1) rfl (nI_add i_1 1) (by decide) rfl (fun ls hl => ?_)
              refine lv_goto (tgt := 2) hx hb dX3_tellTubes_93 (by decide) ?_
              exact ih2 ((i_1 + 1)) eK_18 eP2_23 eT2_24 eH2_25 eU2_22 tp_f2_27 tp_f3_28 ta2_26 (i_1 + 1) H locs ls (by omega) (by omega) (by omega) (by omega) (himp_31 c_32) hP hD hS (lv_sub hl [0, 2, 3] rfl)
            · skip
              refine lv_iconst (v := 0) hx hb dX3_tellTubes_81 (by decide) ?_
              have hP9 := hP.sub (ws' := [(tp, .inr (3, [.ref bt, .int (nI tl), .int tp_f2_27, .int tp_f3_28, .int (nI ta2_26)])), (bt, .inl (cI, 120, .inl bf)), (th, .inr (0, [.int t0, .int t1, .int (nI R), .int (nI n_10), .int t4, .ref tW, .ref tS, .ref tK, .ref tP, .ref tT, .ref tH, .ref tU])), (tW, .inl (cI, 5, .inl eW)), (tS, .inl (cI, 5, .inl eS)), (tK, .inl (cI, 6, .inl eK_18)), (tP, .inl (cI, 6, .inl eP2_23)), (tT, .inl (cI, 6, .inl eT2_24)), (tH, .inl (cI, 6, .inl eH2_25)), (tU, .inl (cI, 6, .inl eU2_22))]) [0, 1, 2, 3, 4, 5, 6, 7, 8, 9] rfl
              have hD9 := hD.sub (ws' := [(tp, .inr (3, [.ref bt, .int (nI tl), .int tp_f2_27, .int tp_f3_28, .int (nI ta2_26)])), (bt, .inl (cI, 120, .inl bf)), (th, .inr (0, [.int t0, .int t1, .int (nI R), .int (nI n_10), .int t4, .ref tW, .ref tS, .ref tK, .ref tP, .ref tT, .ref tH, .ref tU])), (tW, .inl (cI, 5, .inl eW)), (tS, .inl (cI, 5, .inl eS)), (tK, .inl (cI, 6, .inl eK_18)), (tP, .inl (cI, 6, .inl eP2_23)), (tT, .inl (cI, 6, .inl eT2_24)), (tH, .inl (cI, 6, .inl eH2_25)), (tU, .inl (cI, 6, .inl eU2_22))]) [0, 1, 2, 3, 4, 5, 6, 7, 8, 9] (by decide) rfl
              exact wt_zret hx hb hr hlocks (by decide) hP9 hD9 hS ⟨eK_18, eP2_23, eT2_24, eH2_25, eU2_22, ta2_26, n_10, tp_f2_27, tp_f3_28, rfl, ⟨by omega, fun h => absurd rfl h⟩⟩ dX3_tellTubes_82
          · skip
            have c_17 : i_1 = 6 := (nI_eq (a := i_1) (b := 6) (by omega) (by omega)).mp c_17
            refine lv_aload_n hx hb dX3_tellTubes_49 rfl (lv_at hl 2 rfl) ?_
            refine lv_iconst (v := 3) hx hb dX3_tellTubes_50 (by decide) ?_
            refine wt_goI (wr := [(bt, .inl (cI, 120, .inl bf)), (th, .inr (0, [.int t0, .int t1, .int (nI R), .int (nI n_10), .int t4, .ref tW, .ref tS, .ref tK, .ref tP, .ref tT, .ref tH, .ref tU])), (tW, .inl (cI, 5, .inl eW)), (tS, .inl (cI, 5, .inl eS)), (tK, .inl (cI, 6, .inl eK_2)), (tP, .inl (cI, 6, .inl eP_3)), (tT, .inl (cI, 6, .inl eT_4)), (tH, .inl (cI, 6, .inl eH_5)), (tU, .inl (cI, 6, .inl eU_6))]) (wt_runV (As := [.int 3]) (rest := []) ⟨hx, hb, hml, hown, hts⟩ (c_X3_fail l D cI cZ cH tp n_9 v_7 v_8 3 (.ref bt) (.int (nI tl))) (cwV 1 hts gX3_tellTubes_X3_fail rfl rfl rfl (by decide +kernel) ⟨Nat.le_of_ble_eq_true rfl, Nat.le_of_ble_eq_true rfl⟩) hK hP hD [0] rfl (by decide) (va_recv hK.1 hP (ci := 3) (q0 := 0) rfl rfl) rfl hl.1 rfl (Nat.le_of_ble_eq_true rfl) dX3_tellTubes_51 ⟨Nat.le_of_ble_eq_true rfl, Nat.le_of_ble_eq_true rfl⟩) hP hD hS hA [0] [1, 2, 3, 4, 5, 6, 7, 8, 9] rfl rfl (by decide) (by decide) (fun r_33 w_34 H locs h_35 hP hD hS => ?_)
            obtain ⟨tp_f2_36, tp_f3_37, rfl, rfl⟩ := h_35
            have hP : va_P D vwCl [(bt, .inl (cI, 120, .inl bf)), (th, .inr (0, [.int t0, .int t1, .int (nI R), .int (nI n_10), .int t4, .ref tW, .ref tS, .ref tK, .ref tP, .ref tT, .ref tH, .ref tU])), (tW, .inl (cI, 5, .inl eW)), (tS, .inl (cI, 5, .inl eS)), (tK, .inl (cI, 6, .inl eK_2)), (tP, .inl (cI, 6, .inl eP_3)), (tT, .inl (cI, 6, .inl eT_4)), (tH, .inl (cI, 6, .inl eH_5)), (tU, .inl (cI, 6, .inl eU_6)), (tp, .inr (3, [.ref bt, .int (nI tl), .int tp_f2_36, .int tp_f3_37, .int (nI n_9)]))] H := hP
            have hD : va_D A [(bt, .inl (cI, 120, .inl bf)), (th, .inr (0, [.int t0, .int t1, .int (nI R), .int (nI n_10), .int t4, .ref tW, .ref tS, .ref tK, .ref tP, .ref tT, .ref tH, .ref tU])), (tW, .inl (cI, 5, .inl eW)), (tS, .inl (cI, 5, .inl eS)), (tK, .inl (cI, 6, .inl eK_2)), (tP, .inl (cI, 6, .inl eP_3)), (tT, .inl (cI, 6, .inl eT_4)), (tH, .inl (cI, 6, .inl eH_5)), (tU, .inl (cI, 6, .inl eU_6)), (tp, .inr (3, [.ref bt, .int (nI tl), .int tp_f2_36, .int tp_f3_37, .int (nI n_9)]))] := hD
            have hP9 := hP.sub (ws' := [(tp, .inr (3, [.ref bt, .int (nI tl), .int tp_f2_36, .int tp_f3_37, .int (nI n_9)])), (bt, .inl (cI, 120, .inl bf)), (th, .inr (0, [.int t0, .int t1, .int (nI R), .int (nI n_10), .int t4, .ref tW, .ref tS, .ref tK, .ref tP, .ref tT, .ref tH, .ref tU])), (tW, .inl (cI, 5, .inl eW)), (tS, .inl (cI, 5, .inl eS)), (tK, .inl (cI, 6, .inl eK_2)), (tP, .inl (cI, 6, .inl eP_3)), (tT, .inl (cI, 6, .inl eT_4)), (tH, .inl (cI, 6, .inl eH_5)), (tU, .inl (cI, 6, .inl eU_6))]) [9, 0, 1, 2, 3, 4, 5, 6, 7, 8] rfl
            have hD9 := hD.sub (ws' := [(tp, .inr (3, [.ref bt, .int (nI tl), .int tp_f2_36, .int tp_f3_37, .int (nI n_9)])), (bt, .inl (cI, 120, .inl bf)), (th, .inr (0, [.int t0, .int t1, .int (nI R), .int (nI n_10), .int t4, .ref tW, .ref tS, .ref tK, .ref tP, .ref tT, .ref tH, .ref tU])), (tW, .inl (cI, 5, .inl eW)), (tS, .inl (cI, 5, .inl eS)), (tK, .inl (cI, 6, .inl eK_2)), (tP, .inl (cI, 6, .inl eP_3)), (tT, .inl (cI, 6, .inl eT_4)), (tH, .inl (cI, 6, .inl eH_5)), (tU, .inl (cI, 6, .inl eU_6))]) [9, 0, 1, 2, 3, 4, 5, 6, 7, 8] (by decide) rfl
            exact wt_zret hx hb hr hlocks (by decide) hP9 hD9 hS ⟨eK_2, eP_3, eT_4, eH_5, eU_6, n_9, n_10, tp_f2_36, tp_f3_37, rfl, ⟨by omega, fun h => absurd rfl h⟩⟩ dX3_tellTubes_54
        · skip
          refine lv_aload_n hx hb dX3_tellTubes_37 rfl (lv_at hl 2 rfl) ?_
          refine lv_iconst (v := 1) hx hb dX3_tellTubes_38 (by decide) ?_
          refine wt_goI (wr := [(bt, .inl (cI, 120, .inl bf)), (th, .inr (0, [.int t0, .int t1, .int (nI R), .int (nI n_10), .int t4, .ref tW, .ref tS, .ref tK, .ref tP, .ref tT, .ref tH, .ref tU])), (tW, .inl (cI, 5, .inl eW)), (tS, .inl (cI, 5, .inl eS)), (tK, .inl (cI, 6, .inl eK_2)), (tP, .inl (cI, 6, .inl eP_3)), (tT, .inl (cI, 6, .inl eT_4)), (tH, .inl (cI, 6, .inl eH_5)), (tU, .inl (cI, 6, .inl eU_6))]) (wt_runV (As := [.int 1]) (rest := []) ⟨hx, hb, hml, hown, hts⟩ (c_X3_fail l D cI cZ cH tp n_9 v_7 v_8 1 (.ref bt) (.int (nI tl))) (cwV 1 hts gX3_tellTubes_X3_fail rfl rfl rfl (by decide +kernel) ⟨Nat.le_of_ble_eq_true rfl, Nat.le_of_ble_eq_true rfl⟩) hK hP hD [0] rfl (by decide) (va_recv hK.1 hP (ci := 3) (q0 := 0) rfl rfl) rfl hl.1 rfl (Nat.le_of_ble_eq_true rfl) dX3_tellTubes_39 ⟨Nat.le_of_ble_eq_true rfl, Nat.le_of_ble_eq_true rfl⟩) hP hD hS hA [0] [1, 2, 3, 4, 5, 6, 7, 8, 9] rfl rfl (by decide) (by decide) (fun r_38 w_39 H locs h_40 hP hD hS => ?_)
          obtain ⟨tp_f2_41, tp_f3_42, rfl, rfl⟩ := h_40
          have hP : va_P D vwCl [(bt, .inl (cI, 120, .inl bf)), (th, .inr (0, [.int t0, .int t1, .int (nI R), .int (nI n_10), .int t4, .ref tW, .ref tS, .ref tK, .ref tP, .ref tT, .ref tH, .ref tU])), (tW, .inl (cI, 5, .inl eW)), (tS, .inl (cI, 5, .inl eS)), (tK, .inl (cI, 6, .inl eK_2)), (tP, .inl (cI, 6, .inl eP_3)), (tT, .inl (cI, 6, .inl eT_4)), (tH, .inl (cI, 6, .inl eH_5)), (tU, .inl (cI, 6, .inl eU_6)), (tp, .inr (3, [.ref bt, .int (nI tl), .int tp_f2_41, .int tp_f3_42, .int (nI n_9)]))] H := hP
          have hD : va_D A [(bt, .inl (cI, 120, .inl bf)), (th, .inr (0, [.int t0, .int t1, .int (nI R), .int (nI n_10), .int t4, .ref tW, .ref tS, .ref tK, .ref tP, .ref tT, .ref tH, .ref tU])), (tW, .inl (cI, 5, .inl eW)), (tS, .inl (cI, 5, .inl eS)), (tK, .inl (cI, 6, .inl eK_2)), (tP, .inl (cI, 6, .inl eP_3)), (tT, .inl (cI, 6, .inl eT_4)), (tH, .inl (cI, 6, .inl eH_5)), (tU, .inl (cI, 6, .inl eU_6)), (tp, .inr (3, [.ref bt, .int (nI tl), .int tp_f2_41, .int tp_f3_42, .int (nI n_9)]))] := hD
          have hP9 := hP.sub (ws' := [(tp, .inr (3, [.ref bt, .int (nI tl), .int tp_f2_41, .int tp_f3_42, .int (nI n_9)])), (bt, .inl (cI, 120, .inl bf)), (th, .inr (0, [.int t0, .int t1, .int (nI R), .int (nI n_10), .int t4, .ref tW, .ref tS, .ref tK, .ref tP, .ref tT, .ref tH, .ref tU])), (tW, .inl (cI, 5, .inl eW)), (tS, .inl (cI, 5, .inl eS)), (tK, .inl (cI, 6, .inl eK_2)), (tP, .inl (cI, 6, .inl eP_3)), (tT, .inl (cI, 6, .inl eT_4)), (tH, .inl (cI, 6, .inl eH_5)), (tU, .inl (cI, 6, .inl eU_6))]) [9, 0, 1, 2, 3, 4, 5, 6, 7, 8] rfl
          have hD9 := hD.sub (ws' := [(tp, .inr (3, [.ref bt, .int (nI tl), .int tp_f2_41, .int tp_f3_42, .int (nI n_9)])), (bt, .inl (cI, 120, .inl bf)), (th, .inr (0, [.int t0, .int t1, .int (nI R), .int (nI n_10), .int t4, .ref tW, .ref tS, .ref tK, .ref tP, .ref tT, .ref tH, .ref tU])), (tW, .inl (cI, 5, .inl eW)), (tS, .inl (cI, 5, .inl eS)), (tK, .inl (cI, 6, .inl eK_2)), (tP, .inl (cI, 6, .inl eP_3)), (tT, .inl (cI, 6, .inl eT_4)), (tH, .inl (cI, 6, .inl eH_5)), (tU, .inl (cI, 6, .inl eU_6))]) [9, 0, 1, 2, 3, 4, 5, 6, 7, 8] (by decide) rfl
          exact wt_zret hx hb hr hlocks (by decide) hP9 hD9 hS ⟨eK_2, eP_3, eT_4, eH_5, eU_6, n_9, n_10, tp_f2_41, tp_f3_42, rfl, ⟨by omega, fun h => absurd rfl h⟩⟩ dX3_tellTubes_42
      · skip
        have c_11 : ¬ (i_1 ≤ 0) := fun h => c_11 ((nI_leI (a := i_1) (b := 0) (by omega) (by omega)).mpr h)
        refine lv_aload_n hx hb dX3_tellTubes_12 rfl (lv_at hl 1 rfl) ?_
        refine va_get (D := D) (ci := 3) (v := .int (nI n_9)) (C := RX3) (T := TX3) (N := 5) hx hb hts hi3 hown hK.1 hP 0 rfl rfl 4 (by decide) wf25 (fun _ h9 => h9) rfl dX3_tellTubes_13 ?_
        refine lv_aload_n hx hb dX3_tellTubes_16 rfl (lv_at hl 1 rfl) ?_
        refine va_get (D := D) (ci := 3) (v := .int (nI tl)) (C := RX3) (T := TX3) (N := 5) hx hb hts hi3 hown hK.1 hP 0 rfl rfl 1 (by decide) wf15 (fun _ h9 => h9) rfl dX3_tellTubes_17 ?_
        refine lv_icmp_lt (tgt := 25) hx hb dX3_tellTubes_20 (by decide) (fun c_43 => ?_) (fun c_43 => ?_)
        · skip
          have c_43 : n_9 < tl := (nI_ltI (a := n_9) (b := tl) (by omega) (by omega)).mp c_43
          refine lv_aload_n hx hb dX3_tellTubes_25 rfl (lv_at hl 1 rfl) ?_
          refine wt_rV (As := []) (rest := []) ⟨hx, hb, hml, hown, hts⟩ (c_X3_peek l D cI cZ cH tp bt tl n_9 bf v_7 v_8 (by first | assumption | omega) (by first | assumption | omega)) (cwV 0 hts gX3_tellTubes_X3_peek rfl rfl rfl (by decide +kernel) ⟨Nat.le_of_ble_eq_true rfl, Nat.le_of_ble_eq_true rfl⟩) hK hP [0, 1] rfl (va_recv hK.1 hP (ci := 3) (q0 := 0) rfl rfl) rfl hl.1 rfl (Nat.le_of_ble_eq_true rfl) dX3_tellTubes_26 ⟨Nat.le_of_ble_eq_true rfl, Nat.le_of_ble_eq_true rfl⟩ (fun r_44 e_45 => ?_)
          refine wt_rS (As := [.int r_44]) (rest := []) ⟨hx, hb, hml, hown, hts⟩ (c_X3_sortOf l D cI cZ cH r_44) (va_cwS 1 hts gX3_tellTubes_X3_sortOf rfl rfl rfl (by decide +kernel) ⟨Nat.le_of_ble_eq_true rfl, Nat.le_of_ble_eq_true rfl⟩) hK hP [] rfl rfl hl.1 rfl (Nat.le_of_ble_eq_true rfl) dX3_tellTubes_29 ⟨Nat.le_of_ble_eq_true rfl, Nat.le_of_ble_eq_true rfl⟩ (fun r_46 e_47 => ?_)
          refine lv_istore_n (lv' := [(3, .int r_46), (2, .int (nI i_1)), (0, .ref tp), (1, .ref th)]) hx hb dX3_tellTubes_32 rfl hl (by decide) rfl (fun ls hl => ?_)
          refine lv_iload_n hx hb dX3_tellTubes_33 rfl (lv_at hl 0 rfl) ?_
          refine lv_if_ne (tgt := 43) hx hb dX3_tellTubes_34 (by decide) (fun c_48 => ?_) (fun c_48 => ?_)
          · skip
            refine lv_iload_n hx hb dX3_tellTubes_43 rfl (lv_at hl 1 rfl) ?_
            refine lv_bipush (v := 6) hx hb dX3_tellTubes_44 (by decide) ?_
            refine lv_icmp_ne (tgt := 55) hx hb dX3_tellTubes_46 (by decide) (fun c_49 => ?_) (fun c_49 => ?_)
            · skip
              have c_49 : ¬ (i_1 = 6) := fun h => c_49 ((nI_eq (a := i_1) (b := 6) (by omega) (by omega)).mpr h)
              have hlt := e_45 (e_47 c_48)
              refine lv_aload_n hx hb dX3_tellTubes_55 rfl (lv_at hl 2 rfl) ?_
              refine lv_dup hx hb dX3_tellTubes_56 rfl ?_
              refine va_get (D := D) (ci := 3) (v := .int (nI n_9)) (C := RX3) (T := TX3) (N := 5) hx hb hts hi3 hown hK.1 hP 0 rfl rfl 4 (by decide) wf25 (fun _ h9 => h9) rfl dX3_tellTubes_57 ?_
              refine lv_iconst (v := 1) hx hb dX3_tellTubes_60 (by decide) ?_
              refine lv_iadd hx hb dX3_tellTubes_61 ?_
              refine wt_top (z := nI (n_9 + 1)) (nI_add n_9 1) ?_
              refine va_put (D := D) (ci := 3) (v := .int (nI (n_9 + 1))) (ty := .int) (C := RX3) (T := TX3) (N := 5) hx hb hts hi3 tyX3 tyX3_ok nmX3 hown hK.1 hP hD hS 0 rfl rfl 4 (by decide) wf25 (fun _ h9 => h9) rfl (by decide +kernel) rfl rfl (Nat.le_of_ble_eq_true rfl) dX3_tellTubes_62 (fun H locs hP hD hS => ?_)
              have hP : va_P D vwCl [(tp, .inr (3, [.ref bt, .int (nI tl), .int v_7, .int v_8, .int (nI (n_9 + 1))])), (bt, .inl (cI, 120, .inl bf)), (th, .inr (0, [.int t0, .int t1, .int (nI R), .int (nI n_10), .int t4, .ref tW, .ref tS, .ref tK, .ref tP, .ref tT, .ref tH, .ref tU])), (tW, .inl (cI, 5, .inl eW)), (tS, .inl (cI, 5, .inl eS)), (tK, .inl (cI, 6, .inl eK_2)), (tP, .inl (cI, 6, .inl eP_3)), (tT, .inl (cI, 6, .inl eT_4)), (tH, .inl (cI, 6, .inl eH_5)), (tU, .inl (cI, 6, .inl eU_6))] H := hP
              have hD : va_D A [(tp, .inr (3, [.ref bt, .int (nI tl), .int v_7, .int v_8, .int (nI (n_9 + 1))])), (bt, .inl (cI, 120, .inl bf)), (th, .inr (0, [.int t0, .int t1, .int (nI R), .int (nI n_10), .int t4, .ref tW, .ref tS, .ref tK, .ref tP, .ref tT, .ref tH, .ref tU])), (tW, .inl (cI, 5, .inl eW)), (tS, .inl (cI, 5, .inl eS)), (tK, .inl (cI, 6, .inl eK_2)), (tP, .inl (cI, 6, .inl eP_3)), (tT, .inl (cI, 6, .inl eT_4)), (tH, .inl (cI, 6, .inl eH_5)), (tU, .inl (cI, 6, .inl eU_6))] := hD
              refine lv_aload_n hx hb dX3_tellTubes_65 rfl (lv_at hl 3 rfl) ?_
              refine va_get (D := D) (ci := 0) (v := .ref tK) (C := RX0) (T := TX0) (N := 12) hx hb hts hi0 hown hK.1 hP 2 rfl rfl 7 (by decide) wf84 (fun _ h9 => h9) rfl dX3_tellTubes_66 ?_
              refine lv_iload_n hx hb dX3_tellTubes_69 rfl (lv_at hl 1 rfl) ?_
              refine lv_iload_n hx hb dX3_tellTubes_70 rfl (lv_at hl 0 rfl) ?_
              refine va_iast hx hb hK.1 hP hD hS 5 0 rfl rfl (vp_in_nI (by omega) (by omega)) dX3_tellTubes_71 (fun H locs hP hD hS => ?_)
              have hP : va_P D vwCl [(tp, .inr (3, [.ref bt, .int (nI tl), .int v_7, .int v_8, .int (nI (n_9 + 1))])), (bt, .inl (cI, 120, .inl bf)), (th, .inr (0, [.int t0, .int t1, .int (nI R), .int (nI n_10), .int t4, .ref tW, .ref tS, .ref tK, .ref tP, .ref tT, .ref tH, .ref tU])), (tW, .inl (cI, 5, .inl eW)), (tS, .inl (cI, 5, .inl eS)), (tK, .inl (cI, 6, .inl (upd eK_2 ((nI i_1).toNatClampNeg) r_46))), (tP, .inl (cI, 6, .inl eP_3)), (tT, .inl (cI, 6, .inl eT_4)), (tH, .inl (cI, 6, .inl eH_5)), (tU, .inl (cI, 6, .inl eU_6))] H := hP
              have hD : va_D A [(tp, .inr (3, [.ref bt, .int (nI tl), .int v_7, .int v_8, .int (nI (n_9 + 1))])), (bt, .inl (cI, 120, .inl bf)), (th, .inr (0, [.int t0, .int t1, .int (nI R), .int (nI n_10), .int t4, .ref tW, .ref tS, .ref tK, .ref tP, .ref tT, .ref tH, .ref tU])), (tW, .inl (cI, 5, .inl eW)), (tS, .inl (cI, 5, .inl eS)), (tK, .inl (cI, 6, .inl (upd eK_2 ((nI i_1).toNatClampNeg) r_46))), (tP, .inl (cI, 6, .inl eP_3)), (tT, .inl (cI, 6, .inl eT_4)), (tH, .inl (cI, 6, .inl eH_5)), (tU, .inl (cI, 6, .inl eU_6))] := hD
              generalize upd eK_2 ((nI i_1).toNatClampNeg) r_46 = eK_50 at hP hD
              refine lv_aload_n hx hb dX3_tellTubes_72 rfl (lv_at hl 2 rfl) ?_
              refine lv_aload_n hx hb dX3_tellTubes_73 rfl (lv_at hl 3 rfl) ?_
              refine lv_iload_n hx hb dX3_tellTubes_74 rfl (lv_at hl 1 rfl) ?_
              refine wt_goI (wr := []) (wt_runV (As := [.ref th, .int (nI i_1)]) (rest := []) ⟨hx, hb, hml, hown, hts⟩ (c_X3_tellTube l D cI cZ cH tp bt tl (n_9 + 1) bf v_7 v_8 th tW tS tK tP tT tH tU R n_10 t0 t1 t4 eW eS eK_50 eP_3 eT_4 eH_5 eU_6 i_1 (by first | assumption | omega) (by first | assumption | omega) (by first | assumption | omega) (by first | assumption | omega) (by first | assumption | omega)) (cwV 2 hts gX3_tellTubes_X3_tellTube rfl rfl rfl (by decide +kernel) ⟨Nat.le_of_ble_eq_true rfl, Nat.le_of_ble_eq_true rfl⟩) hK hP hD [0, 1, 2, 3, 4, 5, 6, 7, 8, 9] rfl (by decide) (va_recv hK.1 hP (ci := 3) (q0 := 0) rfl rfl) rfl hl.1 rfl (Nat.le_of_ble_eq_true rfl) dX3_tellTubes_75 ⟨Nat.le_of_ble_eq_true rfl, Nat.le_of_ble_eq_true rfl⟩) hP hD hS hA [0, 1, 2, 3, 4, 5, 6, 7, 8, 9] [] rfl rfl (by decide) (by decide) (fun r_51 w_52 H locs h_53 hP hD hS => ?_)
              obtain ⟨eU2_54, eP2_55, eT2_56, eH2_57, ta2_58, tp_f2_59, tp_f3_60, rfl, x_61⟩ := h_53
              have hP : va_P D vwCl [(tp, .inr (3, [.ref bt, .int (nI tl), .int tp_f2_59, .int tp_f3_60, .int (nI ta2_58)])), (bt, .inl (cI, 120, .inl bf)), (th, .inr (0, [.int t0, .int t1, .int (nI R), .int (nI n_10), .int t4, .ref tW, .ref tS, .ref tK, .ref tP, .ref tT, .ref tH, .ref tU])), (tW, .inl (cI, 5, .inl eW)), (tS, .inl (cI, 5, .inl eS)), (tK, .inl (cI, 6, .inl eK_50)), (tP, .inl (cI, 6, .inl eP2_55)), (tT, .inl (cI, 6, .inl eT2_56)), (tH, .inl (cI, 6, .inl eH2_57)), (tU, .inl (cI, 6, .inl eU2_54))] H := hP
              have hD : va_D A [(tp, .inr (3, [.ref bt, .int (nI tl), .int tp_f2_59, .int tp_f3_60, .int (nI ta2_58)])), (bt, .inl (cI, 120, .inl bf)), (th, .inr (0, [.int t0, .int t1, .int (nI R), .int (nI n_10), .int t4, .ref tW, .ref tS, .ref tK, .ref tP, .ref tT, .ref tH, .ref tU])), (tW, .inl (cI, 5, .inl eW)), (tS, .inl (cI, 5, .inl eS)), (tK, .inl (cI, 6, .inl eK_50)), (tP, .inl (cI, 6, .inl eP2_55)), (tT, .inl (cI, 6, .inl eT2_56)), (tH, .inl (cI, 6, .inl eH2_57)), (tU, .inl (cI, 6, .inl eU2_54))] := hD
              obtain ⟨hta_62, himp_63⟩ := x_61
              refine lv_if_ne (tgt := 83) hx hb dX3_tellTubes_78 (by decide) (fun c_64 => ?_) (fun c_64 => ?_)
              · skip
                refine lv_aload_n hx hb dX3_tellTubes_83 rfl (lv_at hl 3 rfl) ?_
                refine lv_iload_n hx hb dX3_tellTubes_84 rfl (lv_at hl 1 rfl) ?_
                refine lv_iconst (v := 1) hx hb dX3_tellTubes_85 (by decide) ?_
                refine lv_iadd hx hb dX3_tellTubes_86 ?_
                refine wt_top (z := nI (i_1 + 1)) (nI_add i_1 1) ?_
                refine va_put (D := D) (ci := 0) (v := .int (nI (i_1 + 1))) (ty := .int) (C := RX0) (T := TX0) (N := 12) hx hb hts hi0 tyX0 tyX0_ok nmX0 hown hK.1 hP hD hS 2 rfl rfl 3 (by decide) wf33 (fun _ h9 => h9) rfl (by decide +kernel) rfl rfl (Nat.le_of_ble_eq_true rfl) dX3_tellTubes_87 (fun H locs hP hD hS => ?_)
                have hP : va_P D vwCl [(tp, .inr (3, [.ref bt, .int (nI tl), .int tp_f2_59, .int tp_f3_60, .int (nI ta2_58)])), (bt, .inl (cI, 120, .inl bf)), (th, .inr (0, [.int t0, .int t1, .int (nI R), .int (nI (i_1 + 1)), .int t4, .ref tW, .ref tS, .ref tK, .ref tP, .ref tT, .ref tH, .ref tU])), (tW, .inl (cI, 5, .inl eW)), (tS, .inl (cI, 5, .inl eS)), (tK, .inl (cI, 6, .inl eK_50)), (tP, .inl (cI, 6, .inl eP2_55)), (tT, .inl (cI, 6, .inl eT2_56)), (tH, .inl (cI, 6, .inl eH2_57)), (tU, .inl (cI, 6, .inl eU2_54))] H := hP
                have hD : va_D A [(tp, .inr (3, [.ref bt, .int (nI tl), .int tp_f2_59, .int tp_f3_60, .int (nI ta2_58)])), (bt, .inl (cI, 120, .inl bf)), (th, .inr (0, [.int t0, .int t1, .int (nI R), .int (nI (i_1 + 1)), .int t4, .ref tW, .ref tS, .ref tK, .ref tP, .ref tT, .ref tH, .ref tU])), (tW, .inl (cI, 5, .inl eW)), (tS, .inl (cI, 5, .inl eS)), (tK, .inl (cI, 6, .inl eK_50)), (tP, .inl (cI, 6, .inl eP2_55)), (tT, .inl (cI, 6, .inl eT2_56)), (tH, .inl (cI, 6, .inl eH2_57)), (tU, .inl (cI, 6, .inl eU2_54))] := hD
                refine lv_iinc (v := nI (i_1 + 1)) (lv' := [(2, .int (nI (i_1 + 1))), (3, .int r_46), (0, .ref tp), (1, .ref th)]) hx hb dX3_tellTubes_90 hl (k := 1) rfl (nI_add i_1 1) (by decide) rfl (fun ls hl => ?_)
                refine lv_goto (tgt := 2) hx hb dX3_tellTubes_93 (by decide) ?_
                exact ih2 ((i_1 + 1)) eK_50 eP2_55 eT2_56 eH2_57 eU2_54 tp_f2_59 tp_f3_60 ta2_58 (i_1 + 1) H locs ls (by omega) (by omega) (by omega) (by omega) (himp_63 c_64) hP hD hS (lv_sub hl [0, 2, 3] rfl)
              · skip
                refine lv_iconst (v := 0) hx hb dX3_tellTubes_81 (by decide) ?_
                have hP9 := hP.sub (ws' := [(tp, .inr (3, [.ref bt, .int (nI tl), .int tp_f2_59, .int tp_f3_60, .int (nI ta2_58)])), (bt, .inl (cI, 120, .inl bf)), (th, .inr (0, [.int t0, .int t1, .int (nI R), .int (nI n_10), .int t4, .ref tW, .ref tS, .ref tK, .ref tP, .ref tT, .ref tH, .ref tU])), (tW, .inl (cI, 5, .inl eW)), (tS, .inl (cI, 5, .inl eS)), (tK, .inl (cI, 6, .inl eK_50)), (tP, .inl (cI, 6, .inl eP2_55)), (tT, .inl (cI, 6, .inl eT2_56)), (tH, .inl (cI, 6, .inl eH2_57)), (tU, .inl (cI, 6, .inl eU2_54))]) [0, 1, 2, 3, 4, 5, 6, 7, 8, 9] rfl
                have hD9 := hD.sub (ws' := [(tp, .inr (3, [.ref bt, .int (nI tl), .int tp_f2_59, .int tp_f3_60, .int (nI ta2_58)])), (bt, .inl (cI, 120, .inl bf)), (th, .inr (0, [.int t0, .int t1, .int (nI R), .int (nI n_10), .int t4, .ref tW, .ref tS, .ref tK, .ref tP, .ref tT, .ref tH, .ref tU])), (tW, .inl (cI, 5, .inl eW)), (tS, .inl (cI, 5, .inl eS)), (tK, .inl (cI, 6, .inl eK_50)), (tP, .inl (cI, 6, .inl eP2_55)), (tT, .inl (cI, 6, .inl eT2_56)), (tH, .inl (cI, 6, .inl eH2_57)), (tU, .inl (cI, 6, .inl eU2_54))]) [0, 1, 2, 3, 4, 5, 6, 7, 8, 9] (by decide) rfl
                exact wt_zret hx hb hr hlocks (by decide) hP9 hD9 hS ⟨eK_50, eP2_55, eT2_56, eH2_57, eU2_54, ta2_58, n_10, tp_f2_59, tp_f3_60, rfl, ⟨by omega, fun h => absurd rfl h⟩⟩ dX3_tellTubes_82
            · skip
              have c_49 : i_1 = 6 := (nI_eq (a := i_1) (b := 6) (by omega) (by omega)).mp c_49
              refine lv_aload_n hx hb dX3_tellTubes_49 rfl (lv_at hl 2 rfl) ?_
              refine lv_iconst (v := 3) hx hb dX3_tellTubes_50 (by decide) ?_
              refine wt_goI (wr := [(bt, .inl (cI, 120, .inl bf)), (th, .inr (0, [.int t0, .int t1, .int (nI R), .int (nI n_10), .int t4, .ref tW, .ref tS, .ref tK, .ref tP, .ref tT, .ref tH, .ref tU])), (tW, .inl (cI, 5, .inl eW)), (tS, .inl (cI, 5, .inl eS)), (tK, .inl (cI, 6, .inl eK_2)), (tP, .inl (cI, 6, .inl eP_3)), (tT, .inl (cI, 6, .inl eT_4)), (tH, .inl (cI, 6, .inl eH_5)), (tU, .inl (cI, 6, .inl eU_6))]) (wt_runV (As := [.int 3]) (rest := []) ⟨hx, hb, hml, hown, hts⟩ (c_X3_fail l D cI cZ cH tp n_9 v_7 v_8 3 (.ref bt) (.int (nI tl))) (cwV 1 hts gX3_tellTubes_X3_fail rfl rfl rfl (by decide +kernel) ⟨Nat.le_of_ble_eq_true rfl, Nat.le_of_ble_eq_true rfl⟩) hK hP hD [0] rfl (by decide) (va_recv hK.1 hP (ci := 3) (q0 := 0) rfl rfl) rfl hl.1 rfl (Nat.le_of_ble_eq_true rfl) dX3_tellTubes_51 ⟨Nat.le_of_ble_eq_true rfl, Nat.le_of_ble_eq_true rfl⟩) hP hD hS hA [0] [1, 2, 3, 4, 5, 6, 7, 8, 9] rfl rfl (by decide) (by decide) (fun r_65 w_66 H locs h_67 hP hD hS => ?_)
              obtain ⟨tp_f2_68, tp_f3_69, rfl, rfl⟩ := h_67
              have hP : va_P D vwCl [(bt, .inl (cI, 120, .inl bf)), (th, .inr (0, [.int t0, .int t1, .int (nI R), .int (nI n_10), .int t4, .ref tW, .ref tS, .ref tK, .ref tP, .ref tT, .ref tH, .ref tU])), (tW, .inl (cI, 5, .inl eW)), (tS, .inl (cI, 5, .inl eS)), (tK, .inl (cI, 6, .inl eK_2)), (tP, .inl (cI, 6, .inl eP_3)), (tT, .inl (cI, 6, .inl eT_4)), (tH, .inl (cI, 6, .inl eH_5)), (tU, .inl (cI, 6, .inl eU_6)), (tp, .inr (3, [.ref bt, .int (nI tl), .int tp_f2_68, .int tp_f3_69, .int (nI n_9)]))] H := hP
              have hD : va_D A [(bt, .inl (cI, 120, .inl bf)), (th, .inr (0, [.int t0, .int t1, .int (nI R), .int (nI n_10), .int t4, .ref tW, .ref tS, .ref tK, .ref tP, .ref tT, .ref tH, .ref tU])), (tW, .inl (cI, 5, .inl eW)), (tS, .inl (cI, 5, .inl eS)), (tK, .inl (cI, 6, .inl eK_2)), (tP, .inl (cI, 6, .inl eP_3)), (tT, .inl (cI, 6, .inl eT_4)), (tH, .inl (cI, 6, .inl eH_5)), (tU, .inl (cI, 6, .inl eU_6)), (tp, .inr (3, [.ref bt, .int (nI tl), .int tp_f2_68, .int tp_f3_69, .int (nI n_9)]))] := hD
              have hP9 := hP.sub (ws' := [(tp, .inr (3, [.ref bt, .int (nI tl), .int tp_f2_68, .int tp_f3_69, .int (nI n_9)])), (bt, .inl (cI, 120, .inl bf)), (th, .inr (0, [.int t0, .int t1, .int (nI R), .int (nI n_10), .int t4, .ref tW, .ref tS, .ref tK, .ref tP, .ref tT, .ref tH, .ref tU])), (tW, .inl (cI, 5, .inl eW)), (tS, .inl (cI, 5, .inl eS)), (tK, .inl (cI, 6, .inl eK_2)), (tP, .inl (cI, 6, .inl eP_3)), (tT, .inl (cI, 6, .inl eT_4)), (tH, .inl (cI, 6, .inl eH_5)), (tU, .inl (cI, 6, .inl eU_6))]) [9, 0, 1, 2, 3, 4, 5, 6, 7, 8] rfl
              have hD9 := hD.sub (ws' := [(tp, .inr (3, [.ref bt, .int (nI tl), .int tp_f2_68, .int tp_f3_69, .int (nI n_9)])), (bt, .inl (cI, 120, .inl bf)), (th, .inr (0, [.int t0, .int t1, .int (nI R), .int (nI n_10), .int t4, .ref tW, .ref tS, .ref tK, .ref tP, .ref tT, .ref tH, .ref tU])), (tW, .inl (cI, 5, .inl eW)), (tS, .inl (cI, 5, .inl eS)), (tK, .inl (cI, 6, .inl eK_2)), (tP, .inl (cI, 6, .inl eP_3)), (tT, .inl (cI, 6, .inl eT_4)), (tH, .inl (cI, 6, .inl eH_5)), (tU, .inl (cI, 6, .inl eU_6))]) [9, 0, 1, 2, 3, 4, 5, 6, 7, 8] (by decide) rfl
              exact wt_zret hx hb hr hlocks (by decide) hP9 hD9 hS ⟨eK_2, eP_3, eT_4, eH_5, eU_6, n_9, n_10, tp_f2_68, tp_f3_69, rfl, ⟨by omega, fun h => absurd rfl h⟩⟩ dX3_tellTubes_54
          · skip
            refine lv_aload_n hx hb dX3_tellTubes_37 rfl (lv_at hl 2 rfl) ?_
            refine lv_iconst (v := 1) hx hb dX3_tellTubes_38 (by decide) ?_
            refine wt_goI (wr := [(bt, .inl (cI, 120, .inl bf)), (th, .inr (0, [.int t0, .int t1, .int (nI R), .int (nI n_10), .int t4, .ref tW, .ref tS, .ref tK, .ref tP, .ref tT, .ref tH, .ref tU])), (tW, .inl (cI, 5, .inl eW)), (tS, .inl (cI, 5, .inl eS)), (tK, .inl (cI, 6, .inl eK_2)), (tP, .inl (cI, 6, .inl eP_3)), (tT, .inl (cI, 6, .inl eT_4)), (tH, .inl (cI, 6, .inl eH_5)), (tU, .inl (cI, 6, .inl eU_6))]) (wt_runV (As := [.int 1]) (rest := []) ⟨hx, hb, hml, hown, hts⟩ (c_X3_fail l D cI cZ cH tp n_9 v_7 v_8 1 (.ref bt) (.int (nI tl))) (cwV 1 hts gX3_tellTubes_X3_fail rfl rfl rfl (by decide +kernel) ⟨Nat.le_of_ble_eq_true rfl, Nat.le_of_ble_eq_true rfl⟩) hK hP hD [0] rfl (by decide) (va_recv hK.1 hP (ci := 3) (q0 := 0) rfl rfl) rfl hl.1 rfl (Nat.le_of_ble_eq_true rfl) dX3_tellTubes_39 ⟨Nat.le_of_ble_eq_true rfl, Nat.le_of_ble_eq_true rfl⟩) hP hD hS hA [0] [1, 2, 3, 4, 5, 6, 7, 8, 9] rfl rfl (by decide) (by decide) (fun r_70 w_71 H locs h_72 hP hD hS => ?_)
            obtain ⟨tp_f2_73, tp_f3_74, rfl, rfl⟩ := h_72
            have hP : va_P D vwCl [(bt, .inl (cI, 120, .inl bf)), (th, .inr (0, [.int t0, .int t1, .int (nI R), .int (nI n_10), .int t4, .ref tW, .ref tS, .ref tK, .ref tP, .ref tT, .ref tH, .ref tU])), (tW, .inl (cI, 5, .inl eW)), (tS, .inl (cI, 5, .inl eS)), (tK, .inl (cI, 6, .inl eK_2)), (tP, .inl (cI, 6, .inl eP_3)), (tT, .inl (cI, 6, .inl eT_4)), (tH, .inl (cI, 6, .inl eH_5)), (tU, .inl (cI, 6, .inl eU_6)), (tp, .inr (3, [.ref bt, .int (nI tl), .int tp_f2_73, .int tp_f3_74, .int (nI n_9)]))] H := hP
            have hD : va_D A [(bt, .inl (cI, 120, .inl bf)), (th, .inr (0, [.int t0, .int t1, .int (nI R), .int (nI n_10), .int t4, .ref tW, .ref tS, .ref tK, .ref tP, .ref tT, .ref tH, .ref tU])), (tW, .inl (cI, 5, .inl eW)), (tS, .inl (cI, 5, .inl eS)), (tK, .inl (cI, 6, .inl eK_2)), (tP, .inl (cI, 6, .inl eP_3)), (tT, .inl (cI, 6, .inl eT_4)), (tH, .inl (cI, 6, .inl eH_5)), (tU, .inl (cI, 6, .inl eU_6)), (tp, .inr (3, [.ref bt, .int (nI tl), .int tp_f2_73, .int tp_f3_74, .int (nI n_9)]))] := hD
            have hP9 := hP.sub (ws' := [(tp, .inr (3, [.ref bt, .int (nI tl), .int tp_f2_73, .int tp_f3_74, .int (nI n_9)])), (bt, .inl (cI, 120, .inl bf)), (th, .inr (0, [.int t0, .int t1, .int (nI R), .int (nI n_10), .int t4, .ref tW, .ref tS, .ref tK, .ref tP, .ref tT, .ref tH, .ref tU])), (tW, .inl (cI, 5, .inl eW)), (tS, .inl (cI, 5, .inl eS)), (tK, .inl (cI, 6, .inl eK_2)), (tP, .inl (cI, 6, .inl eP_3)), (tT, .inl (cI, 6, .inl eT_4)), (tH, .inl (cI, 6, .inl eH_5)), (tU, .inl (cI, 6, .inl eU_6))]) [9, 0, 1, 2, 3, 4, 5, 6, 7, 8] rfl
            have hD9 := hD.sub (ws' := [(tp, .inr (3, [.ref bt, .int (nI tl), .int tp_f2_73, .int tp_f3_74, .int (nI n_9)])), (bt, .inl (cI, 120, .inl bf)), (th, .inr (0, [.int t0, .int t1, .int (nI R), .int (nI n_10), .int t4, .ref tW, .ref tS, .ref tK, .ref tP, .ref tT, .ref tH, .ref tU])), (tW, .inl (cI, 5, .inl eW)), (tS, .inl (cI, 5, .inl eS)), (tK, .inl (cI, 6, .inl eK_2)), (tP, .inl (cI, 6, .inl eP_3)), (tT, .inl (cI, 6, .inl eT_4)), (tH, .inl (cI, 6, .inl eH_5)), (tU, .inl (cI, 6, .inl eU_6))]) [9, 0, 1, 2, 3, 4, 5, 6, 7, 8] (by decide) rfl
            exact wt_zret hx hb hr hlocks (by decide) hP9 hD9 hS ⟨eK_2, eP_3, eT_4, eH_5, eU_6, n_9, n_10, tp_f2_73, tp_f3_74, rfl, ⟨by omega, fun h => absurd rfl h⟩⟩ dX3_tellTubes_42
        · skip
          have c_43 : ¬ (n_9 < tl) := fun h => c_43 ((nI_ltI (a := n_9) (b := tl) (by omega) (by omega)).mpr h)
          refine lv_iconst (v := 1) hx hb dX3_tellTubes_23 (by decide) ?_
          have hP9 := hP.sub (ws' := [(tp, .inr (3, [.ref bt, .int (nI tl), .int v_7, .int v_8, .int (nI n_9)])), (bt, .inl (cI, 120, .inl bf)), (th, .inr (0, [.int t0, .int t1, .int (nI R), .int (nI n_10), .int t4, .ref tW, .ref tS, .ref tK, .ref tP, .ref tT, .ref tH, .ref tU])), (tW, .inl (cI, 5, .inl eW)), (tS, .inl (cI, 5, .inl eS)), (tK, .inl (cI, 6, .inl eK_2)), (tP, .inl (cI, 6, .inl eP_3)), (tT, .inl (cI, 6, .inl eT_4)), (tH, .inl (cI, 6, .inl eH_5)), (tU, .inl (cI, 6, .inl eU_6))]) [0, 1, 2, 3, 4, 5, 6, 7, 8, 9] rfl
          have hD9 := hD.sub (ws' := [(tp, .inr (3, [.ref bt, .int (nI tl), .int v_7, .int v_8, .int (nI n_9)])), (bt, .inl (cI, 120, .inl bf)), (th, .inr (0, [.int t0, .int t1, .int (nI R), .int (nI n_10), .int t4, .ref tW, .ref tS, .ref tK, .ref tP, .ref tT, .ref tH, .ref tU])), (tW, .inl (cI, 5, .inl eW)), (tS, .inl (cI, 5, .inl eS)), (tK, .inl (cI, 6, .inl eK_2)), (tP, .inl (cI, 6, .inl eP_3)), (tT, .inl (cI, 6, .inl eT_4)), (tH, .inl (cI, 6, .inl eH_5)), (tU, .inl (cI, 6, .inl eU_6))]) [0, 1, 2, 3, 4, 5, 6, 7, 8, 9] (by decide) rfl
          exact wt_zret hx hb hr hlocks (by decide) hP9 hD9 hS ⟨eK_2, eP_3, eT_4, eH_5, eU_6, n_9, n_10, v_7, v_8, rfl, ⟨by omega, fun _ => ⟨by omega, by omega, by first | (rw [h3]; exact hwi) | (exfalso; omega)⟩⟩⟩ dX3_tellTubes_24
  exact loop2 ((6 + 1) - 0) (0) eK eP eT eH eU s2 s3 ta T _ _ ls (by omega) (by omega) (by omega) (by omega) (fun t h => absurd h (Nat.not_lt_zero t)) hP hD hS hl

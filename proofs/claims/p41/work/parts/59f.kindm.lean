set_option maxHeartbeats 4000000 in
set_option maxRecDepth 100000 in
theorem c_X6_of_1q (l : Launch) (D : va_G) (cI cZ cH : ClassId) (rw : Nat) (R T : Nat) (f K P : Nat → Int32) (j : Nat) (hR5 : R ≤ 5) (hT6 : T ≤ 6) (hrq : rq K P R T f) (hj6 : j < 6) : wt_R l yX6_of wsX6_of ({ frames := 0, cells := 0, slots := 0, locals := 0 } : Room) D (wt_T cI cZ cH) [.ref rw, .int (nI j), .int 1] [(rw, .inl (cI, 45, .inl f))] (vp_Si (fun r => ∃ q : Nat, (q ≤ R ∧ P j = nI q) ∧ r = nI q)) := by
  refine wt_R.ofW (cc := cX6_of) (maxL := 3) (ret := (some .int)) (by decide) rfl (Nat.le_of_ble_eq_true rfl) ?_
  intro p e s m below meth c ls hx hb hr hts hown hlocks hml hP hK hl
  have hown : s.vm.findClass RX6 = some m.cls := hown
  have hl : lv_has ls 3 [(0, .ref rw), (1, .int (nI j)), (2, .int 1)] := hl
  obtain ⟨q, hq, eq⟩ := hrq.2.2.1 j hj6
  refine lv_aload_n hx hb dX6_of_0 rfl (lv_at hl 0 rfl) ?_
  refine lv_bipush (v := 15) hx hb dX6_of_1 (by decide) ?_
  refine lv_iconst (v := 5) hx hb dX6_of_3 (by decide) ?_
  refine lv_iload_n hx hb dX6_of_4 rfl (lv_at hl 1 rfl) ?_
  refine lv_imul hx hb dX6_of_5 ?_
  refine wt_top (z := nI (5 * j)) (pk_mul 5 j) ?_
  refine lv_iadd hx hb dX6_of_6 ?_
  refine wt_top (z := nI (15 + (5 * j))) (nI_add 15 (5 * j)) ?_
  refine lv_iload_n hx hb dX6_of_7 rfl (lv_at hl 2 rfl) ?_
  refine lv_iadd hx hb dX6_of_8 ?_
  refine wt_top (z := nI ((15 + (5 * j)) + 1)) (nI_add (15 + (5 * j)) 1) ?_
  refine va_iald hx hb hK.1 hP 0 0 rfl rfl (vp_in_nI (by omega) (by omega)) dX6_of_9 ?_
  refine wt_top (z := nI q) (by rw [nI_clamp (by omega), show 15 + 5 * j + 1 = 16 + 5 * j by omega]; exact (hrq.2.2.2.1 j hj6).trans eq) ?_
  exact wt_siret hx hb hr hlocks (by exact ⟨q, ⟨hq, eq⟩, rfl⟩) dX6_of_10
set_option maxHeartbeats 4000000 in
set_option maxRecDepth 100000 in
theorem c_X6_be_4q (l : Launch) (D : va_G) (cI cZ cH : ClassId) (rw : Nat) (R T : Nat) (f K P : Nat → Int32) (j : Nat) (v : Int32) (hR5 : R ≤ 5) (hT6 : T ≤ 6) (hrq : rq K P R T f) (hj6 : j < 6) : wt_M l yX6_be wsX6_be ({ frames := 0, cells := 0, slots := 0, locals := 0 } : Room) D (wt_T cI cZ cH) [.ref rw, .int (nI j), .int 4, .int v] [(rw, .inl (cI, 45, .inl f))] (wt_QV D (fun w => ∃ (f2 : Nat → Int32), w = [(rw, .inl (cI, 45, .inl f2))] ∧ rq K P R T f2)) := by
  refine wt_M.ofW (cc := cX6_be) (maxL := 4) (ret := none) (by decide) rfl (Nat.le_of_ble_eq_true rfl) ?_
  intro p e s m below meth c A ls hx hb hr hts hown hlocks hml hnm hP hK hD hA hS hl
  have hP : va_P D vwCl [(rw, .inl (cI, 45, .inl f))] s.heap := hP
  have hown : s.vm.findClass RX6 = some m.cls := hown
  have hl : lv_has ls 4 [(0, .ref rw), (1, .int (nI j)), (2, .int 4), (3, .int v)] := hl
  refine lv_aload_n hx hb dX6_be_0 rfl (lv_at hl 0 rfl) ?_
  refine lv_bipush (v := 15) hx hb dX6_be_1 (by decide) ?_
  refine lv_iconst (v := 5) hx hb dX6_be_3 (by decide) ?_
  refine lv_iload_n hx hb dX6_be_4 rfl (lv_at hl 1 rfl) ?_
  refine lv_imul hx hb dX6_be_5 ?_
  refine wt_top (z := nI (5 * j)) (pk_mul 5 j) ?_
  refine lv_iadd hx hb dX6_be_6 ?_
  refine wt_top (z := nI (15 + (5 * j))) (nI_add 15 (5 * j)) ?_
  refine lv_iload_n hx hb dX6_be_7 rfl (lv_at hl 2 rfl) ?_
  refine lv_iadd hx hb dX6_be_8 ?_
  refine wt_top (z := nI ((15 + (5 * j)) + 4)) (nI_add (15 + (5 * j)) 4) ?_
  refine lv_iload_n hx hb dX6_be_9 rfl (lv_at hl 3 rfl) ?_
  refine va_iast hx hb hK.1 hP hD hS 0 0 rfl rfl (vp_in_nI (by omega) (by omega)) dX6_be_10 (fun H locs hP hD hS => ?_)
  have hP : va_P D vwCl [(rw, .inl (cI, 45, .inl (upd f ((nI ((15 + (5 * j)) + 4)).toNatClampNeg) v)))] H := hP
  have hD : va_D A [(rw, .inl (cI, 45, .inl (upd f ((nI ((15 + (5 * j)) + 4)).toNatClampNeg) v)))] := hD
  have rk_1 : rq K P R T (upd f ((nI ((15 + (5 * j)) + 4)).toNatClampNeg) v) := rq_upd (k := ((15 + (5 * j)) + 4)) hrq (nI_clamp (by omega)) (by omega) _
  generalize upd f ((nI ((15 + (5 * j)) + 4)).toNatClampNeg) v = rf_2 at hP hD rk_1
  have hP9 := hP.sub (ws' := [(rw, .inl (cI, 45, .inl rf_2))]) [0] rfl
  have hD9 := hD.sub (ws' := [(rw, .inl (cI, 45, .inl rf_2))]) [0] (by decide) rfl
  exact wt_vret hx hb hr hlocks hP9 hD9 hS ⟨rf_2, rfl, rk_1⟩ dX6_be_11
set_option maxHeartbeats 4000000 in
set_option maxRecDepth 100000 in
theorem c_X6_be_1q (l : Launch) (D : va_G) (cI cZ cH : ClassId) (rw : Nat) (R T : Nat) (f K P : Nat → Int32) (j v : Nat) (hR5 : R ≤ 5) (hT6 : T ≤ 6) (hrq : rq K P R T f) (hj6 : j < 6) (hvR : v ≤ R) : wt_M l yX6_be wsX6_be ({ frames := 0, cells := 0, slots := 0, locals := 0 } : Room) D (wt_T cI cZ cH) [.ref rw, .int (nI j), .int 1, .int (nI v)] [(rw, .inl (cI, 45, .inl f))] (wt_QV D (fun w => ∃ (f2 : Nat → Int32), w = [(rw, .inl (cI, 45, .inl f2))] ∧ rq K (upd P j (nI v)) R T f2)) := by
  refine wt_M.ofW (cc := cX6_be) (maxL := 4) (ret := none) (by decide) rfl (Nat.le_of_ble_eq_true rfl) ?_
  intro p e s m below meth c A ls hx hb hr hts hown hlocks hml hnm hP hK hD hA hS hl
  have hP : va_P D vwCl [(rw, .inl (cI, 45, .inl f))] s.heap := hP
  have hown : s.vm.findClass RX6 = some m.cls := hown
  have hl : lv_has ls 4 [(0, .ref rw), (1, .int (nI j)), (2, .int 1), (3, .int (nI v))] := hl
  refine lv_aload_n hx hb dX6_be_0 rfl (lv_at hl 0 rfl) ?_
  refine lv_bipush (v := 15) hx hb dX6_be_1 (by decide) ?_
  refine lv_iconst (v := 5) hx hb dX6_be_3 (by decide) ?_
  refine lv_iload_n hx hb dX6_be_4 rfl (lv_at hl 1 rfl) ?_
  refine lv_imul hx hb dX6_be_5 ?_
  refine wt_top (z := nI (5 * j)) (pk_mul 5 j) ?_
  refine lv_iadd hx hb dX6_be_6 ?_
  refine wt_top (z := nI (15 + (5 * j))) (nI_add 15 (5 * j)) ?_
  refine lv_iload_n hx hb dX6_be_7 rfl (lv_at hl 2 rfl) ?_
  refine lv_iadd hx hb dX6_be_8 ?_
  refine wt_top (z := nI ((15 + (5 * j)) + 1)) (nI_add (15 + (5 * j)) 1) ?_
  refine lv_iload_n hx hb dX6_be_9 rfl (lv_at hl 3 rfl) ?_
  refine va_iast hx hb hK.1 hP hD hS 0 0 rfl rfl (vp_in_nI (by omega) (by omega)) dX6_be_10 (fun H locs hP hD hS => ?_)
  have hP : va_P D vwCl [(rw, .inl (cI, 45, .inl (upd f ((nI ((15 + (5 * j)) + 1)).toNatClampNeg) (nI v))))] H := hP
  have hD : va_D A [(rw, .inl (cI, 45, .inl (upd f ((nI ((15 + (5 * j)) + 1)).toNatClampNeg) (nI v))))] := hD
  have rk_1 : rq K (upd P j (nI v)) R T (upd f ((nI ((15 + (5 * j)) + 1)).toNatClampNeg) (nI v)) := rq_updP (v := v) (k := ((15 + (5 * j)) + 1)) (j := j) hrq (nI_clamp (by omega)) (by omega) (by omega) (by omega)
  generalize upd f ((nI ((15 + (5 * j)) + 1)).toNatClampNeg) (nI v) = rf_2 at hP hD rk_1
  have hP9 := hP.sub (ws' := [(rw, .inl (cI, 45, .inl rf_2))]) [0] rfl
  have hD9 := hD.sub (ws' := [(rw, .inl (cI, 45, .inl rf_2))]) [0] (by decide) rfl
  exact wt_vret hx hb hr hlocks hP9 hD9 hS ⟨rf_2, rfl, rk_1⟩ dX6_be_11
set_option maxHeartbeats 4000000 in
set_option maxRecDepth 100000 in
theorem c_X6_isOut_q (l : Launch) (D : va_G) (cI cZ cH : ClassId) (rw : Nat) (R T : Nat) (f K P : Nat → Int32) (j : Nat) (hR5 : R ≤ 5) (hT6 : T ≤ 6) (hrq : rq K P R T f) (hj6 : j < 6) : wt_R l yX6_isOut wsX6_isOut ({ frames := 1, cells := 0, slots := 0, locals := 22 } : Room) D (wt_T cI cZ cH) [.ref rw, .int (nI j)] [(rw, .inl (cI, 45, .inl f))] (vp_Si (fun r => r = 0 → ∃ q : Nat, P j = nI q ∧ q < R)) := by
  refine wt_R.ofW (cc := cX6_isOut) (maxL := 2) (ret := (some .boolean)) (by decide) rfl (Nat.le_of_ble_eq_true rfl) ?_
  intro p e s m below meth c ls hx hb hr hts hown hlocks hml hP hK hl
  have hown : s.vm.findClass RX6 = some m.cls := hown
  have hl : lv_has ls 2 [(0, .ref rw), (1, .int (nI j))] := hl
  refine lv_aload_n hx hb dX6_isOut_0 rfl (lv_at hl 0 rfl) ?_
  refine lv_iload_n hx hb dX6_isOut_1 rfl (lv_at hl 1 rfl) ?_
  refine lv_iconst (v := 1) hx hb dX6_isOut_2 (by decide) ?_
  refine wt_rS (As := [.ref rw, .int (nI j), .int 1]) (rest := []) ⟨hx, hb, hml, hown, hts⟩ (c_X6_of_1q l D cI cZ cH rw R T f K P j (by first | assumption | omega) (by first | assumption | omega) (by assumption) (by first | assumption | omega)) (va_cwS 3 hts gX6_isOut_X6_of rfl rfl rfl (by decide +kernel) ⟨Nat.le_of_ble_eq_true rfl, Nat.le_of_ble_eq_true rfl⟩) hK hP [0] rfl rfl hl.1 rfl (Nat.le_of_ble_eq_true rfl) dX6_isOut_3 ⟨Nat.le_of_ble_eq_true rfl, Nat.le_of_ble_eq_true rfl⟩ (fun r_1 e_2 => ?_)
  obtain ⟨q_3, ⟨e_2, eq_3⟩, rfl⟩ := e_2
  refine lv_aload_n hx hb dX6_isOut_6 rfl (lv_at hl 0 rfl) ?_
  refine lv_iconst (v := 0) hx hb dX6_isOut_7 (by decide) ?_
  refine va_iald hx hb hK.1 hP 0 0 rfl rfl (by rw [vp_in_iff]; decide) dX6_isOut_8 ?_
  refine wt_top (z := nI R) (hrq.1) ?_
  refine lv_icmp_ne (tgt := 16) hx hb dX6_isOut_9 (by decide) (fun c_4 => ?_) (fun c_4 => ?_)
  · skip
    have c_4 : ¬ (q_3 = R) := fun h => c_4 ((nI_eq (a := q_3) (b := R) (by omega) (by omega)).mpr h)
    refine lv_iconst (v := 0) hx hb dX6_isOut_16 (by decide) ?_
    exact wt_szret hx hb hr hlocks (by decide) (by exact (fun _ => ⟨q_3, eq_3, by omega⟩)) dX6_isOut_17
  · skip
    have c_4 : q_3 = R := (nI_eq (a := q_3) (b := R) (by omega) (by omega)).mp c_4
    refine lv_iconst (v := 1) hx hb dX6_isOut_12 (by decide) ?_
    refine lv_goto (tgt := 17) hx hb dX6_isOut_13 (by decide) ?_
    exact wt_szret hx hb hr hlocks (by decide) (by exact (fun h => absurd h (by decide))) dX6_isOut_17
set_option maxHeartbeats 4000000 in
set_option maxRecDepth 100000 in
theorem c_X6_gives_q (l : Launch) (D : va_G) (cI cZ cH : ClassId) (rw : Nat) (R T : Nat) (f K P : Nat → Int32) (r : Nat) (v : Int32) (hR5 : R ≤ 5) (hT6 : T ≤ 6) (hrq : rq K P R T f) (hrR : r ≤ R) : wt_M l yX6_gives wsX6_gives ({ frames := 1, cells := 0, slots := 0, locals := 21 } : Room) D (wt_T cI cZ cH) [.ref rw, .int (nI r), .int v] [(rw, .inl (cI, 45, .inl f))] (wt_QV D (fun w => ∃ (f2 : Nat → Int32), w = [(rw, .inl (cI, 45, .inl f2))] ∧ rq K P R T f2)) := by
  refine wt_M.ofW (cc := cX6_gives) (maxL := 4) (ret := none) (by decide) rfl (Nat.le_of_ble_eq_true rfl) ?_
  intro p e s m below meth c A ls hx hb hr hts hown hlocks hml hnm hP hK hD hA hS hl
  have hP : va_P D vwCl [(rw, .inl (cI, 45, .inl f))] s.heap := hP
  have hown : s.vm.findClass RX6 = some m.cls := hown
  have hl : lv_has ls 4 [(0, .ref rw), (1, .int (nI r)), (2, .int v)] := hl
  refine lv_iload_n hx hb dX6_gives_0 rfl (lv_at hl 1 rfl) ?_
  refine lv_aload_n hx hb dX6_gives_1 rfl (lv_at hl 0 rfl) ?_
  refine lv_iconst (v := 0) hx hb dX6_gives_2 (by decide) ?_
  refine va_iald hx hb hK.1 hP 0 0 rfl rfl (by rw [vp_in_iff]; decide) dX6_gives_3 ?_
  refine wt_top (z := nI R) (hrq.1) ?_
  refine lv_icmp_ge (tgt := 36) hx hb dX6_gives_4 (by decide) (fun c_1 => ?_) (fun c_1 => ?_)
  · skip
    have c_1 : R ≤ r := (nI_leI (a := R) (b := r) (by omega) (by omega)).mp c_1
    have hP9 := hP.sub (ws' := [(rw, .inl (cI, 45, .inl f))]) [0] rfl
    have hD9 := hD.sub (ws' := [(rw, .inl (cI, 45, .inl f))]) [0] (by decide) rfl
    exact wt_vret hx hb hr hlocks hP9 hD9 hS ⟨f, rfl, hrq⟩ dX6_gives_36
  · skip
    have c_1 : ¬ (R ≤ r) := fun h => c_1 ((nI_leI (a := R) (b := r) (by omega) (by omega)).mpr h)
    refine lv_aload_n hx hb dX6_gives_7 rfl (lv_at hl 0 rfl) ?_
    refine lv_iload_n hx hb dX6_gives_8 rfl (lv_at hl 1 rfl) ?_
    refine wt_rS (As := [.ref rw, .int (nI r)]) (rest := []) ⟨hx, hb, hml, hown, hts⟩ (c_X6_warmth l D cI cZ cH rw R T f r (by first | assumption | omega) (by first | assumption | omega) (by first | assumption | exact rq_rk (by assumption)) (by first | assumption | omega)) (va_cwS 2 hts gX6_gives_X6_warmth rfl rfl rfl (by decide +kernel) ⟨Nat.le_of_ble_eq_true rfl, Nat.le_of_ble_eq_true rfl⟩) hK hP [0] rfl rfl hl.1 rfl (Nat.le_of_ble_eq_true rfl) dX6_gives_9 ⟨Nat.le_of_ble_eq_true rfl, Nat.le_of_ble_eq_true rfl⟩ (fun r_2 e_3 => ?_)
    refine lv_iload_n hx hb dX6_gives_12 rfl (lv_at hl 2 rfl) ?_
    refine lv_iadd hx hb dX6_gives_13 ?_
    refine lv_topi (fun ov_4 _ => ?_)
    refine lv_istore_n (lv' := [(3, .int ov_4), (0, .ref rw), (1, .int (nI r)), (2, .int v)]) hx hb dX6_gives_14 rfl hl (by decide) rfl (fun ls hl => ?_)
    refine lv_aload_n hx hb dX6_gives_15 rfl (lv_at hl 1 rfl) ?_
    refine lv_iconst (v := 5) hx hb dX6_gives_16 (by decide) ?_
    refine lv_iconst (v := 2) hx hb dX6_gives_17 (by decide) ?_
    refine lv_iload_n hx hb dX6_gives_18 rfl (lv_at hl 2 rfl) ?_
    refine lv_imul hx hb dX6_gives_19 ?_
    refine wt_top (z := nI (2 * r)) (pk_mul 2 r) ?_
    refine lv_iadd hx hb dX6_gives_20 ?_
    refine wt_top (z := nI (5 + (2 * r))) (nI_add 5 (2 * r)) ?_
    refine lv_iload_n hx hb dX6_gives_21 rfl (lv_at hl 0 rfl) ?_
    refine lv_sipush (v := 999) hx hb dX6_gives_22 (by decide) ?_
    refine lv_icmp_le (tgt := 34) hx hb dX6_gives_25 (by decide) (fun c_5 => ?_) (fun c_5 => ?_)
    · skip
      refine lv_iload_n hx hb dX6_gives_34 rfl (lv_at hl 0 rfl) ?_
      refine va_iast hx hb hK.1 hP hD hS 0 0 rfl rfl (vp_in_nI (by omega) (by omega)) dX6_gives_35 (fun H locs hP hD hS => ?_)
      have hP : va_P D vwCl [(rw, .inl (cI, 45, .inl (upd f ((nI (5 + (2 * r))).toNatClampNeg) ov_4)))] H := hP
      have hD : va_D A [(rw, .inl (cI, 45, .inl (upd f ((nI (5 + (2 * r))).toNatClampNeg) ov_4)))] := hD
      have rk_6 : rq K P R T (upd f ((nI (5 + (2 * r))).toNatClampNeg) ov_4) := rq_upd (k := (5 + (2 * r))) hrq (nI_clamp (by omega)) (by omega) _
      generalize upd f ((nI (5 + (2 * r))).toNatClampNeg) ov_4 = rf_7 at hP hD rk_6
      have hP9 := hP.sub (ws' := [(rw, .inl (cI, 45, .inl rf_7))]) [0] rfl
      have hD9 := hD.sub (ws' := [(rw, .inl (cI, 45, .inl rf_7))]) [0] (by decide) rfl
      exact wt_vret hx hb hr hlocks hP9 hD9 hS ⟨rf_7, rfl, rk_6⟩ dX6_gives_36
    · skip
      refine lv_sipush (v := 999) hx hb dX6_gives_28 (by decide) ?_
      refine lv_goto (tgt := 35) hx hb dX6_gives_31 (by decide) ?_
      refine va_iast hx hb hK.1 hP hD hS 0 0 rfl rfl (vp_in_nI (by omega) (by omega)) dX6_gives_35 (fun H locs hP hD hS => ?_)
      have hP : va_P D vwCl [(rw, .inl (cI, 45, .inl (upd f ((nI (5 + (2 * r))).toNatClampNeg) 999)))] H := hP
      have hD : va_D A [(rw, .inl (cI, 45, .inl (upd f ((nI (5 + (2 * r))).toNatClampNeg) 999)))] := hD
      have rk_8 : rq K P R T (upd f ((nI (5 + (2 * r))).toNatClampNeg) 999) := rq_upd (k := (5 + (2 * r))) hrq (nI_clamp (by omega)) (by omega) _
      generalize upd f ((nI (5 + (2 * r))).toNatClampNeg) 999 = rf_9 at hP hD rk_8
      have hP9 := hP.sub (ws' := [(rw, .inl (cI, 45, .inl rf_9))]) [0] rfl
      have hD9 := hD.sub (ws' := [(rw, .inl (cI, 45, .inl rf_9))]) [0] (by decide) rfl
      exact wt_vret hx hb hr hlocks hP9 hD9 hS ⟨rf_9, rfl, rk_8⟩ dX6_gives_36
set_option maxHeartbeats 4000000 in
set_option maxRecDepth 100000 in
theorem c_X6_minute_q (l : Launch) (D : va_G) (cI cZ cH : ClassId) (rw : Nat) (R T : Nat) (f K P : Nat → Int32) (hR5 : R ≤ 5) (hT6 : T ≤ 6) (hrq : rq K P R T f) : wt_M l yX6_minute wsX6_minute ({ frames := 3, cells := 0, slots := 0, locals := 66 } : Room) D (wt_T cI cZ cH) [.ref rw] [(rw, .inl (cI, 45, .inl f))] (wt_QV D (fun w => ∃ (f2 : Nat → Int32), w = [(rw, .inl (cI, 45, .inl f2))] ∧ rq K P R T f2)) := by
  refine wt_M.ofW (cc := cX6_minute) (maxL := 6) (ret := none) (by decide) rfl (Nat.le_of_ble_eq_true rfl) ?_
  intro p e s m below meth c A ls hx hb hr hts hown hlocks hml hnm hP hK hD hA hS hl
  have hP : va_P D vwCl [(rw, .inl (cI, 45, .inl f))] s.heap := hP
  have hown : s.vm.findClass RX6 = some m.cls := hown
  have hl : lv_has ls 6 [(0, .ref rw)] := hl
  refine lv_iconst (v := 0) hx hb dX6_minute_0 (by decide) ?_
  refine lv_istore_n (lv' := [(1, .int 0), (0, .ref rw)]) hx hb dX6_minute_1 rfl hl (by decide) rfl (fun ls hl => ?_)
  have loop2 : ∀ (k i_1 : Nat) (f_2 : Nat → Int32) (H : Heap) (locs : List Loc) (ls : Array Slot), i_1 + k = T → (rq K P R T f_2) → va_P D vwCl [(rw, .inl (cI, 45, .inl f_2))] H → va_D A [(rw, .inl (cI, 45, .inl f_2))] → va_S A s.heap H locs → lv_has ls 6 [(1, .int (nI i_1)), (0, .ref rw)] → W p l e ({ frames := 3, cells := 0, slots := 0, locals := 66 } : Room) s m ([.ref rw] : List Value).toArray below meth c H locs 0 0 (MQ below (wt_QV D (fun w => ∃ (f2 : Nat → Int32), w = [(rw, .inl (cI, 45, .inl f2))] ∧ rq K P R T f2) A) ([.ref rw] : List Value).toArray s 0 0 A) (F0 m 2 ls []) := by
    intro k
    induction k with
    | zero =>
      intro i_1 f_2 H locs ls hik rk_3 hP hD hS hl
      refine lv_iload_n hx hb dX6_minute_2 rfl (lv_at hl 0 rfl) ?_
      refine lv_aload_n hx hb dX6_minute_3 rfl (lv_at hl 1 rfl) ?_
      refine lv_iconst (v := 1) hx hb dX6_minute_4 (by decide) ?_
      refine va_iald hx hb hK.1 hP 0 0 rfl rfl (by rw [vp_in_iff]; decide) dX6_minute_5 ?_
      refine wt_top (z := nI T) (rk_3.2.1) ?_
      refine lv_icmp_ge (tgt := 156) hx hb dX6_minute_6 (by decide) (fun _ => ?_) (fun h => absurd (nI_le (a := T) (b := i_1) (by omega) (by omega)) h)
      refine lv_iconst (v := 0) hx hb dX6_minute_156 (by decide) ?_
      refine lv_istore_n (lv' := [(1, .int 0), (0, .ref rw)]) hx hb dX6_minute_157 rfl hl (by decide) rfl (fun ls hl => ?_)
      have loop158 : ∀ (k i_4 : Nat) (f_2_5 : Nat → Int32) (H : Heap) (locs : List Loc) (ls : Array Slot), i_4 + k = R → (rq K P R T f_2_5) → va_P D vwCl [(rw, .inl (cI, 45, .inl f_2_5))] H → va_D A [(rw, .inl (cI, 45, .inl f_2_5))] → va_S A s.heap H locs → lv_has ls 6 [(1, .int (nI i_4)), (0, .ref rw)] → W p l e ({ frames := 3, cells := 0, slots := 0, locals := 66 } : Room) s m ([.ref rw] : List Value).toArray below meth c H locs 0 0 (MQ below (wt_QV D (fun w => ∃ (f2 : Nat → Int32), w = [(rw, .inl (cI, 45, .inl f2))] ∧ rq K P R T f2) A) ([.ref rw] : List Value).toArray s 0 0 A) (F0 m 158 ls []) := by
        intro k
        induction k with
        | zero =>
          intro i_4 f_2_5 H locs ls hik rk_6 hP hD hS hl
          refine lv_iload_n hx hb dX6_minute_158 rfl (lv_at hl 0 rfl) ?_
          refine lv_aload_n hx hb dX6_minute_159 rfl (lv_at hl 1 rfl) ?_
          refine lv_iconst (v := 0) hx hb dX6_minute_160 (by decide) ?_
          refine va_iald hx hb hK.1 hP 0 0 rfl rfl (by rw [vp_in_iff]; decide) dX6_minute_161 ?_
          refine wt_top (z := nI R) (rk_6.1) ?_
          refine lv_icmp_ge (tgt := 211) hx hb dX6_minute_162 (by decide) (fun _ => ?_) (fun h => absurd (nI_le (a := R) (b := i_4) (by omega) (by omega)) h)
          refine lv_aload_n hx hb dX6_minute_211 rfl (lv_at hl 1 rfl) ?_
          refine lv_iconst (v := 4) hx hb dX6_minute_212 (by decide) ?_
          refine lv_dup2_11 hx hb dX6_minute_213 rfl rfl ?_
          refine va_iald hx hb hK.1 hP 0 0 rfl rfl (by rw [vp_in_iff]; decide) dX6_minute_214 ?_
          refine lv_topi (fun ov_7 _ => ?_)
          refine lv_iconst (v := 1) hx hb dX6_minute_215 (by decide) ?_
          refine lv_iadd hx hb dX6_minute_216 ?_
          refine lv_topi (fun ov_8 _ => ?_)
          refine va_iast hx hb hK.1 hP hD hS 0 0 rfl rfl (by rw [vp_in_iff]; decide) dX6_minute_217 (fun H locs hP hD hS => ?_)
          have hP : va_P D vwCl [(rw, .inl (cI, 45, .inl (upd f_2_5 (Int32.toNatClampNeg 4) ov_8)))] H := hP
          have hD : va_D A [(rw, .inl (cI, 45, .inl (upd f_2_5 (Int32.toNatClampNeg 4) ov_8)))] := hD
          have rk_9 : rq K P R T (upd f_2_5 (Int32.toNatClampNeg 4) ov_8) := rq_upd (k := 4) rk_6 rfl (by omega) _
          generalize upd f_2_5 (Int32.toNatClampNeg 4) ov_8 = rf_10 at hP hD rk_9
          have hP9 := hP.sub (ws' := [(rw, .inl (cI, 45, .inl rf_10))]) [0] rfl
          have hD9 := hD.sub (ws' := [(rw, .inl (cI, 45, .inl rf_10))]) [0] (by decide) rfl
          exact wt_vret hx hb hr hlocks hP9 hD9 hS ⟨rf_10, rfl, rk_9⟩ dX6_minute_218
        | succ k ih158 =>
          intro i_4 f_2_5 H locs ls hik rk_6 hP hD hS hl
          refine lv_iload_n hx hb dX6_minute_158 rfl (lv_at hl 0 rfl) ?_
          refine lv_aload_n hx hb dX6_minute_159 rfl (lv_at hl 1 rfl) ?_
          refine lv_iconst (v := 0) hx hb dX6_minute_160 (by decide) ?_
          refine va_iald hx hb hK.1 hP 0 0 rfl rfl (by rw [vp_in_iff]; decide) dX6_minute_161 ?_
          refine wt_top (z := nI R) (rk_6.1) ?_
          refine lv_icmp_ge (tgt := 211) hx hb dX6_minute_162 (by decide) (fun h => absurd h (nI_ge (a := i_4) (b := R) (by omega) (by omega))) (fun _ => ?_)
          refine lv_aload_n hx hb dX6_minute_165 rfl (lv_at hl 1 rfl) ?_
          refine lv_iload_n hx hb dX6_minute_166 rfl (lv_at hl 0 rfl) ?_
          refine wt_rS (As := [.ref rw, .int (nI i_4)]) (rest := []) ⟨hx, hb, hml, hown, hts⟩ (c_X6_warmth l D cI cZ cH rw R T f_2_5 i_4 (by first | assumption | omega) (by first | assumption | omega) (by first | assumption | exact rq_rk (by assumption)) (by first | assumption | omega)) (va_cwS 2 hts gX6_minute_X6_warmth rfl rfl rfl (by decide +kernel) ⟨Nat.le_of_ble_eq_true rfl, Nat.le_of_ble_eq_true rfl⟩) hK hP [0] rfl rfl hl.1 rfl (Nat.le_of_ble_eq_true rfl) dX6_minute_167 ⟨Nat.le_of_ble_eq_true rfl, Nat.le_of_ble_eq_true rfl⟩ (fun r_11 e_12 => ?_)
          refine lv_aload_n hx hb dX6_minute_170 rfl (lv_at hl 1 rfl) ?_
          refine lv_iconst (v := 2) hx hb dX6_minute_171 (by decide) ?_
          refine va_iald hx hb hK.1 hP 0 0 rfl rfl (by rw [vp_in_iff]; decide) dX6_minute_172 ?_
          refine lv_topi (fun ov_13 _ => ?_)
          refine lv_isub hx hb dX6_minute_173 ?_
          refine lv_topi (fun ov_14 _ => ?_)
          refine lv_istore_n (lv' := [(2, .int ov_14), (1, .int (nI i_4)), (0, .ref rw)]) hx hb dX6_minute_174 rfl hl (by decide) rfl (fun ls hl => ?_)
          refine lv_aload_n hx hb dX6_minute_175 rfl (lv_at hl 2 rfl) ?_
          refine lv_iconst (v := 5) hx hb dX6_minute_176 (by decide) ?_
          refine lv_iconst (v := 2) hx hb dX6_minute_177 (by decide) ?_
          refine lv_iload_n hx hb dX6_minute_178 rfl (lv_at hl 1 rfl) ?_
          refine lv_imul hx hb dX6_minute_179 ?_
          refine wt_top (z := nI (2 * i_4)) (pk_mul 2 i_4) ?_
          refine lv_iadd hx hb dX6_minute_180 ?_
          refine wt_top (z := nI (5 + (2 * i_4))) (nI_add 5 (2 * i_4)) ?_
          refine lv_iload_n hx hb dX6_minute_181 rfl (lv_at hl 0 rfl) ?_
          refine lv_if_ge (tgt := 189) hx hb dX6_minute_182 (by decide) (fun c_15 => ?_) (fun c_15 => ?_)
          · skip
            refine lv_iload_n hx hb dX6_minute_189 rfl (lv_at hl 0 rfl) ?_
            refine va_iast hx hb hK.1 hP hD hS 0 0 rfl rfl (vp_in_nI (by omega) (by omega)) dX6_minute_190 (fun H locs hP hD hS => ?_)
            have hP : va_P D vwCl [(rw, .inl (cI, 45, .inl (upd f_2_5 ((nI (5 + (2 * i_4))).toNatClampNeg) ov_14)))] H := hP
            have hD : va_D A [(rw, .inl (cI, 45, .inl (upd f_2_5 ((nI (5 + (2 * i_4))).toNatClampNeg) ov_14)))] := hD
            have rk_16 : rq K P R T (upd f_2_5 ((nI (5 + (2 * i_4))).toNatClampNeg) ov_14) := rq_upd (k := (5 + (2 * i_4))) rk_6 (nI_clamp (by omega)) (by omega) _
            generalize upd f_2_5 ((nI (5 + (2 * i_4))).toNatClampNeg) ov_14 = rf_17 at hP hD rk_16
            refine lv_aload_n hx hb dX6_minute_191 rfl (lv_at hl 2 rfl) ?_
            refine lv_iload_n hx hb dX6_minute_192 rfl (lv_at hl 1 rfl) ?_
            refine lv_aload_n hx hb dX6_minute_193 rfl (lv_at hl 2 rfl) ?_
            refine lv_iconst (v := 5) hx hb dX6_minute_194 (by decide) ?_
            refine lv_iconst (v := 2) hx hb dX6_minute_195 (by decide) ?_
            refine lv_iload_n hx hb dX6_minute_196 rfl (lv_at hl 1 rfl) ?_
            refine lv_imul hx hb dX6_minute_197 ?_
            refine wt_top (z := nI (2 * i_4)) (pk_mul 2 i_4) ?_
            refine lv_iadd hx hb dX6_minute_198 ?_
            refine wt_top (z := nI (5 + (2 * i_4))) (nI_add 5 (2 * i_4)) ?_
            refine lv_iconst (v := 1) hx hb dX6_minute_199 (by decide) ?_
            refine lv_iadd hx hb dX6_minute_200 ?_
            refine wt_top (z := nI ((5 + (2 * i_4)) + 1)) (nI_add (5 + (2 * i_4)) 1) ?_
            refine va_iald hx hb hK.1 hP 0 0 rfl rfl (vp_in_nI (by omega) (by omega)) dX6_minute_201 ?_
            refine lv_topi (fun ov_18 _ => ?_)
            refine wt_goV (wr := []) (wt_runS (As := [.ref rw, .int (nI i_4), .int ov_18]) (rest := []) ⟨hx, hb, hml, hown, hts⟩ (c_X6_gives_q l D cI cZ cH rw R T rf_17 K P i_4 ov_18 (by first | assumption | omega) (by first | assumption | omega) (by assumption) (by first | assumption | omega)) (va_cwS 3 hts gX6_minute_X6_gives rfl rfl rfl (by decide +kernel) ⟨Nat.le_of_ble_eq_true rfl, Nat.le_of_ble_eq_true rfl⟩) hK hP hD [0] rfl (by decide) rfl hl.1 rfl (Nat.le_of_ble_eq_true rfl) dX6_minute_202 ⟨Nat.le_of_ble_eq_true rfl, Nat.le_of_ble_eq_true rfl⟩) hP hD hS hA [0] [] rfl rfl (by decide) (by decide) (fun w_20 H locs h_21 hP hD hS => ?_)
            obtain ⟨f2_22, rfl, x_23⟩ := h_21
            have hP : va_P D vwCl [(rw, .inl (cI, 45, .inl f2_22))] H := hP
            have hD : va_D A [(rw, .inl (cI, 45, .inl f2_22))] := hD
            refine lv_iinc (v := nI (i_4 + 1)) (lv' := [(1, .int (nI (i_4 + 1))), (2, .int ov_14), (0, .ref rw)]) hx hb dX6_minute_205 hl (k := 1) rfl (nI_add i_4 1) (by decide) rfl (fun ls hl => ?_)
            refine lv_goto (tgt := 158) hx hb dX6_minute_208 (by decide) ?_
            exact ih158 ((i_4 + 1)) f2_22 H locs ls (by omega) x_23 hP hD hS (lv_sub hl [0, 2] rfl)
          · skip
            refine lv_iconst (v := 0) hx hb dX6_minute_185 (by decide) ?_
            refine lv_goto (tgt := 190) hx hb dX6_minute_186 (by decide) ?_
            refine va_iast hx hb hK.1 hP hD hS 0 0 rfl rfl (vp_in_nI (by omega) (by omega)) dX6_minute_190 (fun H locs hP hD hS => ?_)
            have hP : va_P D vwCl [(rw, .inl (cI, 45, .inl (upd f_2_5 ((nI (5 + (2 * i_4))).toNatClampNeg) 0)))] H := hP
            have hD : va_D A [(rw, .inl (cI, 45, .inl (upd f_2_5 ((nI (5 + (2 * i_4))).toNatClampNeg) 0)))] := hD
            have rk_24 : rq K P R T (upd f_2_5 ((nI (5 + (2 * i_4))).toNatClampNeg) 0) := rq_upd (k := (5 + (2 * i_4))) rk_6 (nI_clamp (by omega)) (by omega) _
            generalize upd f_2_5 ((nI (5 + (2 * i_4))).toNatClampNeg) 0 = rf_25 at hP hD rk_24
            refine lv_aload_n hx hb dX6_minute_191 rfl (lv_at hl 2 rfl) ?_
            refine lv_iload_n hx hb dX6_minute_192 rfl (lv_at hl 1 rfl) ?_
            refine lv_aload_n hx hb dX6_minute_193 rfl (lv_at hl 2 rfl) ?_
            refine lv_iconst (v := 5) hx hb dX6_minute_194 (by decide) ?_
            refine lv_iconst (v := 2) hx hb dX6_minute_195 (by decide) ?_
            refine lv_iload_n hx hb dX6_minute_196 rfl (lv_at hl 1 rfl) ?_
            refine lv_imul hx hb dX6_minute_197 ?_
            refine wt_top (z := nI (2 * i_4)) (pk_mul 2 i_4) ?_
            refine lv_iadd hx hb dX6_minute_198 ?_
            refine wt_top (z := nI (5 + (2 * i_4))) (nI_add 5 (2 * i_4)) ?_
            refine lv_iconst (v := 1) hx hb dX6_minute_199 (by decide) ?_
            refine lv_iadd hx hb dX6_minute_200 ?_
            refine wt_top (z := nI ((5 + (2 * i_4)) + 1)) (nI_add (5 + (2 * i_4)) 1) ?_
            refine va_iald hx hb hK.1 hP 0 0 rfl rfl (vp_in_nI (by omega) (by omega)) dX6_minute_201 ?_
            refine lv_topi (fun ov_26 _ => ?_)
            refine wt_goV (wr := []) (wt_runS (As := [.ref rw, .int (nI i_4), .int ov_26]) (rest := []) ⟨hx, hb, hml, hown, hts⟩ (c_X6_gives_q l D cI cZ cH rw R T rf_25 K P i_4 ov_26 (by first | assumption | omega) (by first | assumption | omega) (by assumption) (by first | assumption | omega)) (va_cwS 3 hts gX6_minute_X6_gives rfl rfl rfl (by decide +kernel) ⟨Nat.le_of_ble_eq_true rfl, Nat.le_of_ble_eq_true rfl⟩) hK hP hD [0] rfl (by decide) rfl hl.1 rfl (Nat.le_of_ble_eq_true rfl) dX6_minute_202 ⟨Nat.le_of_ble_eq_true rfl, Nat.le_of_ble_eq_true rfl⟩) hP hD hS hA [0] [] rfl rfl (by decide) (by decide) (fun w_28 H locs h_29 hP hD hS => ?_)
            obtain ⟨f2_30, rfl, x_31⟩ := h_29
            have hP : va_P D vwCl [(rw, .inl (cI, 45, .inl f2_30))] H := hP
            have hD : va_D A [(rw, .inl (cI, 45, .inl f2_30))] := hD
            refine lv_iinc (v := nI (i_4 + 1)) (lv' := [(1, .int (nI (i_4 + 1))), (2, .int ov_14), (0, .ref rw)]) hx hb dX6_minute_205 hl (k := 1) rfl (nI_add i_4 1) (by decide) rfl (fun ls hl => ?_)
            refine lv_goto (tgt := 158) hx hb dX6_minute_208 (by decide) ?_
            exact ih158 ((i_4 + 1)) f2_30 H locs ls (by omega) x_31 hP hD hS (lv_sub hl [0, 2] rfl)
      exact loop158 (R - 0) (0) f_2 _ _ ls (by omega) rk_3 hP hD hS hl
    | succ k ih2 =>
      intro i_1 f_2 H locs ls hik rk_3 hP hD hS hl
      refine lv_iload_n hx hb dX6_minute_2 rfl (lv_at hl 0 rfl) ?_
      refine lv_aload_n hx hb dX6_minute_3 rfl (lv_at hl 1 rfl) ?_
      refine lv_iconst (v := 1) hx hb dX6_minute_4 (by decide) ?_
      refine va_iald hx hb hK.1 hP 0 0 rfl rfl (by rw [vp_in_iff]; decide) dX6_minute_5 ?_
      refine wt_top (z := nI T) (rk_3.2.1) ?_
      refine lv_icmp_ge (tgt := 156) hx hb dX6_minute_6 (by decide) (fun h => absurd h (nI_ge (a := i_1) (b := T) (by omega) (by omega))) (fun _ => ?_)
      refine lv_aload_n hx hb dX6_minute_9 rfl (lv_at hl 1 rfl) ?_
      refine lv_iload_n hx hb dX6_minute_10 rfl (lv_at hl 0 rfl) ?_
      refine lv_iconst (v := 1) hx hb dX6_minute_11 (by decide) ?_
      refine wt_rS (As := [.ref rw, .int (nI i_1), .int 1]) (rest := []) ⟨hx, hb, hml, hown, hts⟩ (c_X6_of_1q l D cI cZ cH rw R T f_2 K P i_1 (by first | assumption | omega) (by first | assumption | omega) (by assumption) (by first | assumption | omega)) (va_cwS 3 hts gX6_minute_X6_of rfl rfl rfl (by decide +kernel) ⟨Nat.le_of_ble_eq_true rfl, Nat.le_of_ble_eq_true rfl⟩) hK hP [0] rfl rfl hl.1 rfl (Nat.le_of_ble_eq_true rfl) dX6_minute_12 ⟨Nat.le_of_ble_eq_true rfl, Nat.le_of_ble_eq_true rfl⟩ (fun r_32 e_33 => ?_)
      obtain ⟨q_34, ⟨e_33, eq_34⟩, rfl⟩ := e_33
      refine lv_istore_n (lv' := [(2, .int (nI q_34)), (1, .int (nI i_1)), (0, .ref rw)]) hx hb dX6_minute_15 rfl hl (by decide) rfl (fun ls hl => ?_)
      refine lv_aload_n hx hb dX6_minute_16 rfl (lv_at hl 2 rfl) ?_
      refine lv_iload_n hx hb dX6_minute_17 rfl (lv_at hl 1 rfl) ?_
      refine lv_iconst (v := 0) hx hb dX6_minute_18 (by decide) ?_
      refine wt_rS (As := [.ref rw, .int (nI i_1), .int 0]) (rest := []) ⟨hx, hb, hml, hown, hts⟩ (c_X6_of_w l D cI cZ cH rw R T f_2 i_1 0 (by first | assumption | omega) (by first | assumption | omega) (by first | assumption | exact rq_rk (by assumption)) (by first | assumption | omega) (by first | assumption | omega)) (va_cwS 3 hts gX6_minute_X6_of rfl rfl rfl (by decide +kernel) ⟨Nat.le_of_ble_eq_true rfl, Nat.le_of_ble_eq_true rfl⟩) hK hP [0] rfl rfl hl.1 rfl (Nat.le_of_ble_eq_true rfl) dX6_minute_19 ⟨Nat.le_of_ble_eq_true rfl, Nat.le_of_ble_eq_true rfl⟩ (fun r_35 e_36 => ?_)
      refine lv_iconst (v := 5) hx hb dX6_minute_22 (by decide) ?_
      refine lv_icmp_ne (tgt := 55) hx hb dX6_minute_23 (by decide) (fun c_37 => ?_) (fun c_37 => ?_)
      · skip
        refine lv_aload_n hx hb dX6_minute_55 rfl (lv_at hl 2 rfl) ?_
        refine lv_iload_n hx hb dX6_minute_56 rfl (lv_at hl 1 rfl) ?_
        refine wt_rS (As := [.ref rw, .int (nI i_1)]) (rest := []) ⟨hx, hb, hml, hown, hts⟩ (c_X6_wants l D cI cZ cH rw R T f_2 i_1 (by first | assumption | omega) (by first | assumption | omega) (by first | assumption | exact rq_rk (by assumption)) (by first | assumption | omega)) (va_cwS 2 hts gX6_minute_X6_wants rfl rfl rfl (by decide +kernel) ⟨Nat.le_of_ble_eq_true rfl, Nat.le_of_ble_eq_true rfl⟩) hK hP [0] rfl rfl hl.1 rfl (Nat.le_of_ble_eq_true rfl) dX6_minute_57 ⟨Nat.le_of_ble_eq_true rfl, Nat.le_of_ble_eq_true rfl⟩ (fun r_38 e_39 => ?_)
        refine lv_istore_n (lv' := [(3, .int r_38), (2, .int (nI q_34)), (1, .int (nI i_1)), (0, .ref rw)]) hx hb dX6_minute_60 rfl hl (by decide) rfl (fun ls hl => ?_)
        refine lv_aload_n hx hb dX6_minute_61 rfl (lv_at hl 3 rfl) ?_
        refine lv_iload_n hx hb dX6_minute_62 rfl (lv_at hl 2 rfl) ?_
        refine lv_iconst (v := 3) hx hb dX6_minute_63 (by decide) ?_
        refine wt_rS (As := [.ref rw, .int (nI i_1), .int 3]) (rest := []) ⟨hx, hb, hml, hown, hts⟩ (c_X6_of_w l D cI cZ cH rw R T f_2 i_1 3 (by first | assumption | omega) (by first | assumption | omega) (by first | assumption | exact rq_rk (by assumption)) (by first | assumption | omega) (by first | assumption | omega)) (va_cwS 3 hts gX6_minute_X6_of rfl rfl rfl (by decide +kernel) ⟨Nat.le_of_ble_eq_true rfl, Nat.le_of_ble_eq_true rfl⟩) hK hP [0] rfl rfl hl.1 rfl (Nat.le_of_ble_eq_true rfl) dX6_minute_64 ⟨Nat.le_of_ble_eq_true rfl, Nat.le_of_ble_eq_true rfl⟩ (fun r_40 e_41 => ?_)
        refine lv_aload_n hx hb dX6_minute_67 rfl (lv_at hl 3 rfl) ?_
        refine lv_iload_n hx hb dX6_minute_68 rfl (lv_at hl 2 rfl) ?_
        refine lv_iconst (v := 4) hx hb dX6_minute_69 (by decide) ?_
        refine wt_rS (As := [.ref rw, .int (nI i_1), .int 4]) (rest := [.int r_40]) ⟨hx, hb, hml, hown, hts⟩ (c_X6_of_w l D cI cZ cH rw R T f_2 i_1 4 (by first | assumption | omega) (by first | assumption | omega) (by first | assumption | exact rq_rk (by assumption)) (by first | assumption | omega) (by first | assumption | omega)) (va_cwS 3 hts gX6_minute_X6_of rfl rfl rfl (by decide +kernel) ⟨Nat.le_of_ble_eq_true rfl, Nat.le_of_ble_eq_true rfl⟩) hK hP [0] rfl rfl hl.1 rfl (Nat.le_of_ble_eq_true rfl) dX6_minute_70 ⟨Nat.le_of_ble_eq_true rfl, Nat.le_of_ble_eq_true rfl⟩ (fun r_42 e_43 => ?_)
        refine lv_isub hx hb dX6_minute_73 ?_
        refine lv_topi (fun ov_44 _ => ?_)
        refine lv_istore (lv' := [(4, .int ov_44), (3, .int r_38), (2, .int (nI q_34)), (1, .int (nI i_1)), (0, .ref rw)]) hx hb dX6_minute_74 hl (by decide) rfl (fun ls hl => ?_)
        refine lv_aload_n hx hb dX6_minute_76 rfl (lv_at hl 4 rfl) ?_
        refine lv_iload_n hx hb dX6_minute_77 rfl (lv_at hl 3 rfl) ?_
        refine wt_rS (As := [.ref rw, .int (nI i_1)]) (rest := []) ⟨hx, hb, hml, hown, hts⟩ (c_X6_isOut_q l D cI cZ cH rw R T f_2 K P i_1 (by first | assumption | omega) (by first | assumption | omega) (by assumption) (by first | assumption | omega)) (va_cwS 2 hts gX6_minute_X6_isOut rfl rfl rfl (by decide +kernel) ⟨Nat.le_of_ble_eq_true rfl, Nat.le_of_ble_eq_true rfl⟩) hK hP [0] rfl rfl hl.1 rfl (Nat.le_of_ble_eq_true rfl) dX6_minute_78 ⟨Nat.le_of_ble_eq_true rfl, Nat.le_of_ble_eq_true rfl⟩ (fun r_45 e_46 => ?_)
        refine lv_if_eq (tgt := 88) hx hb dX6_minute_81 (by decide) (fun c_47 => ?_) (fun c_47 => ?_)
        · skip
          have hlt : q_34 < R := rq_lt eq_34 e_33 hR5 (e_46 c_47)
          refine lv_aload_n hx hb dX6_minute_88 rfl (lv_at hl 4 rfl) ?_
          refine lv_iload_n hx hb dX6_minute_89 rfl (lv_at hl 2 rfl) ?_
          refine wt_rS (As := [.ref rw, .int (nI q_34)]) (rest := []) ⟨hx, hb, hml, hown, hts⟩ (c_X6_warmth l D cI cZ cH rw R T f_2 q_34 (by first | assumption | omega) (by first | assumption | omega) (by first | assumption | exact rq_rk (by assumption)) (by first | assumption | omega)) (va_cwS 2 hts gX6_minute_X6_warmth rfl rfl rfl (by decide +kernel) ⟨Nat.le_of_ble_eq_true rfl, Nat.le_of_ble_eq_true rfl⟩) hK hP [0] rfl rfl hl.1 rfl (Nat.le_of_ble_eq_true rfl) dX6_minute_90 ⟨Nat.le_of_ble_eq_true rfl, Nat.le_of_ble_eq_true rfl⟩ (fun r_48 e_49 => ?_)
          refine lv_istore (lv' := [(5, .int r_48), (4, .int ov_44), (3, .int r_38), (2, .int (nI q_34)), (1, .int (nI i_1)), (0, .ref rw)]) hx hb dX6_minute_93 hl (by decide) rfl (fun ls hl => ?_)
          refine lv_iload_n hx hb dX6_minute_95 rfl (lv_at hl 2 rfl) ?_
          refine lv_iload hx hb dX6_minute_96 (lv_at hl 1 rfl) ?_
          refine lv_icmp_le (tgt := 106) hx hb dX6_minute_98 (by decide) (fun c_50 => ?_) (fun c_50 => ?_)
          · skip
            refine lv_iload_n hx hb dX6_minute_106 rfl (lv_at hl 2 rfl) ?_
            refine lv_istore_n (lv' := [(3, .int r_38), (5, .int r_48), (4, .int ov_44), (2, .int (nI q_34)), (1, .int (nI i_1)), (0, .ref rw)]) hx hb dX6_minute_107 rfl hl (by decide) rfl (fun ls hl => ?_)
            refine lv_iload_n hx hb dX6_minute_108 rfl (lv_at hl 0 rfl) ?_
            refine lv_iload hx hb dX6_minute_109 (lv_at hl 1 rfl) ?_
            refine lv_icmp_le (tgt := 119) hx hb dX6_minute_111 (by decide) (fun c_51 => ?_) (fun c_51 => ?_)
            · skip
              refine lv_iload_n hx hb dX6_minute_119 rfl (lv_at hl 0 rfl) ?_
              refine lv_istore_n (lv' := [(3, .int r_38), (5, .int r_48), (4, .int ov_44), (2, .int (nI q_34)), (1, .int (nI i_1)), (0, .ref rw)]) hx hb dX6_minute_120 rfl hl (by decide) rfl (fun ls hl => ?_)
              refine lv_iload_n hx hb dX6_minute_121 rfl (lv_at hl 0 rfl) ?_
              refine lv_if_le (tgt := 150) hx hb dX6_minute_122 (by decide) (fun c_52 => ?_) (fun c_52 => ?_)
              · skip
                refine lv_iinc (v := nI (i_1 + 1)) (lv' := [(1, .int (nI (i_1 + 1))), (3, .int r_38), (5, .int r_48), (4, .int ov_44), (2, .int (nI q_34)), (0, .ref rw)]) hx hb dX6_minute_150 hl (k := 4) rfl (nI_add i_1 1) (by decide) rfl (fun ls hl => ?_)
                refine lv_goto (tgt := 2) hx hb dX6_minute_153 (by decide) ?_
                exact ih2 ((i_1 + 1)) f_2 H locs ls (by omega) rk_3 hP hD hS (lv_sub hl [0, 5] rfl)
              · skip
                refine lv_aload_n hx hb dX6_minute_125 rfl (lv_at hl 5 rfl) ?_
                refine lv_iconst (v := 5) hx hb dX6_minute_126 (by decide) ?_
                refine lv_iconst (v := 2) hx hb dX6_minute_127 (by decide) ?_
                refine lv_iload_n hx hb dX6_minute_128 rfl (lv_at hl 3 rfl) ?_
                refine lv_imul hx hb dX6_minute_129 ?_
                refine wt_top (z := nI (2 * q_34)) (pk_mul 2 q_34) ?_
                refine lv_iadd hx hb dX6_minute_130 ?_
                refine wt_top (z := nI (5 + (2 * q_34))) (nI_add 5 (2 * q_34)) ?_
                refine lv_dup2_11 hx hb dX6_minute_131 rfl rfl ?_
                refine va_iald hx hb hK.1 hP 0 0 rfl rfl (vp_in_nI (by omega) (by omega)) dX6_minute_132 ?_
                refine lv_topi (fun ov_53 _ => ?_)
                refine lv_iload_n hx hb dX6_minute_133 rfl (lv_at hl 0 rfl) ?_
                refine lv_isub hx hb dX6_minute_134 ?_
                refine lv_topi (fun ov_54 _ => ?_)
                refine va_iast hx hb hK.1 hP hD hS 0 0 rfl rfl (vp_in_nI (by omega) (by omega)) dX6_minute_135 (fun H locs hP hD hS => ?_)
                have hP : va_P D vwCl [(rw, .inl (cI, 45, .inl (upd f_2 ((nI (5 + (2 * q_34))).toNatClampNeg) ov_54)))] H := hP
                have hD : va_D A [(rw, .inl (cI, 45, .inl (upd f_2 ((nI (5 + (2 * q_34))).toNatClampNeg) ov_54)))] := hD
                have rk_55 : rq K P R T (upd f_2 ((nI (5 + (2 * q_34))).toNatClampNeg) ov_54) := rq_upd (k := (5 + (2 * q_34))) rk_3 (nI_clamp (by omega)) (by omega) _
                generalize upd f_2 ((nI (5 + (2 * q_34))).toNatClampNeg) ov_54 = rf_56 at hP hD rk_55
                refine lv_aload_n hx hb dX6_minute_136 rfl (lv_at hl 5 rfl) ?_
                refine lv_iload_n hx hb dX6_minute_137 rfl (lv_at hl 4 rfl) ?_
                refine lv_iconst (v := 4) hx hb dX6_minute_138 (by decide) ?_
                refine lv_aload_n hx hb dX6_minute_139 rfl (lv_at hl 5 rfl) ?_
                refine lv_iload_n hx hb dX6_minute_140 rfl (lv_at hl 4 rfl) ?_
                refine lv_iconst (v := 4) hx hb dX6_minute_141 (by decide) ?_
                refine wt_rS (As := [.ref rw, .int (nI i_1), .int 4]) (rest := [.int 4, .int (nI i_1), .ref rw]) ⟨hx, hb, hml, hown, hts⟩ (c_X6_of_w l D cI cZ cH rw R T rf_56 i_1 4 (by first | assumption | omega) (by first | assumption | omega) (by first | assumption | exact rq_rk (by assumption)) (by first | assumption | omega) (by first | assumption | omega)) (va_cwS 3 hts gX6_minute_X6_of rfl rfl rfl (by decide +kernel) ⟨Nat.le_of_ble_eq_true rfl, Nat.le_of_ble_eq_true rfl⟩) hK hP [0] rfl rfl hl.1 rfl (Nat.le_of_ble_eq_true rfl) dX6_minute_142 ⟨Nat.le_of_ble_eq_true rfl, Nat.le_of_ble_eq_true rfl⟩ (fun r_57 e_58 => ?_)
                refine lv_iload_n hx hb dX6_minute_145 rfl (lv_at hl 0 rfl) ?_
                refine lv_iadd hx hb dX6_minute_146 ?_
                refine lv_topi (fun ov_59 _ => ?_)
                refine wt_goV (wr := []) (wt_runS (As := [.ref rw, .int (nI i_1), .int 4, .int ov_59]) (rest := []) ⟨hx, hb, hml, hown, hts⟩ (c_X6_be_4q l D cI cZ cH rw R T rf_56 K P i_1 ov_59 (by first | assumption | omega) (by first | assumption | omega) (by assumption) (by first | assumption | omega)) (va_cwS 4 hts gX6_minute_X6_be rfl rfl rfl (by decide +kernel) ⟨Nat.le_of_ble_eq_true rfl, Nat.le_of_ble_eq_true rfl⟩) hK hP hD [0] rfl (by decide) rfl hl.1 rfl (Nat.le_of_ble_eq_true rfl) dX6_minute_147 ⟨Nat.le_of_ble_eq_true rfl, Nat.le_of_ble_eq_true rfl⟩) hP hD hS hA [0] [] rfl rfl (by decide) (by decide) (fun w_61 H locs h_62 hP hD hS => ?_)
                obtain ⟨f2_63, rfl, x_64⟩ := h_62
                have hP : va_P D vwCl [(rw, .inl (cI, 45, .inl f2_63))] H := hP
                have hD : va_D A [(rw, .inl (cI, 45, .inl f2_63))] := hD
                refine lv_iinc (v := nI (i_1 + 1)) (lv' := [(1, .int (nI (i_1 + 1))), (3, .int r_38), (5, .int r_48), (4, .int ov_44), (2, .int (nI q_34)), (0, .ref rw)]) hx hb dX6_minute_150 hl (k := 4) rfl (nI_add i_1 1) (by decide) rfl (fun ls hl => ?_)
                refine lv_goto (tgt := 2) hx hb dX6_minute_153 (by decide) ?_
                exact ih2 ((i_1 + 1)) f2_63 H locs ls (by omega) x_64 hP hD hS (lv_sub hl [0, 5] rfl)
            · skip
              refine lv_iload hx hb dX6_minute_114 (lv_at hl 1 rfl) ?_
              refine lv_goto (tgt := 120) hx hb dX6_minute_116 (by decide) ?_
              refine lv_istore_n (lv' := [(3, .int r_48), (5, .int r_48), (4, .int ov_44), (2, .int (nI q_34)), (1, .int (nI i_1)), (0, .ref rw)]) hx hb dX6_minute_120 rfl hl (by decide) rfl (fun ls hl => ?_)
              refine lv_iload_n hx hb dX6_minute_121 rfl (lv_at hl 0 rfl) ?_
              refine lv_if_le (tgt := 150) hx hb dX6_minute_122 (by decide) (fun c_65 => ?_) (fun c_65 => ?_)
              · skip
                refine lv_iinc (v := nI (i_1 + 1)) (lv' := [(1, .int (nI (i_1 + 1))), (3, .int r_48), (5, .int r_48), (4, .int ov_44), (2, .int (nI q_34)), (0, .ref rw)]) hx hb dX6_minute_150 hl (k := 4) rfl (nI_add i_1 1) (by decide) rfl (fun ls hl => ?_)
                refine lv_goto (tgt := 2) hx hb dX6_minute_153 (by decide) ?_
                exact ih2 ((i_1 + 1)) f_2 H locs ls (by omega) rk_3 hP hD hS (lv_sub hl [0, 5] rfl)
              · skip
                refine lv_aload_n hx hb dX6_minute_125 rfl (lv_at hl 5 rfl) ?_
                refine lv_iconst (v := 5) hx hb dX6_minute_126 (by decide) ?_
                refine lv_iconst (v := 2) hx hb dX6_minute_127 (by decide) ?_
                refine lv_iload_n hx hb dX6_minute_128 rfl (lv_at hl 3 rfl) ?_
                refine lv_imul hx hb dX6_minute_129 ?_
                refine wt_top (z := nI (2 * q_34)) (pk_mul 2 q_34) ?_
                refine lv_iadd hx hb dX6_minute_130 ?_
                refine wt_top (z := nI (5 + (2 * q_34))) (nI_add 5 (2 * q_34)) ?_
                refine lv_dup2_11 hx hb dX6_minute_131 rfl rfl ?_
                refine va_iald hx hb hK.1 hP 0 0 rfl rfl (vp_in_nI (by omega) (by omega)) dX6_minute_132 ?_
                refine lv_topi (fun ov_66 _ => ?_)
                refine lv_iload_n hx hb dX6_minute_133 rfl (lv_at hl 0 rfl) ?_
                refine lv_isub hx hb dX6_minute_134 ?_
                refine lv_topi (fun ov_67 _ => ?_)
                refine va_iast hx hb hK.1 hP hD hS 0 0 rfl rfl (vp_in_nI (by omega) (by omega)) dX6_minute_135 (fun H locs hP hD hS => ?_)
                have hP : va_P D vwCl [(rw, .inl (cI, 45, .inl (upd f_2 ((nI (5 + (2 * q_34))).toNatClampNeg) ov_67)))] H := hP
                have hD : va_D A [(rw, .inl (cI, 45, .inl (upd f_2 ((nI (5 + (2 * q_34))).toNatClampNeg) ov_67)))] := hD
                have rk_68 : rq K P R T (upd f_2 ((nI (5 + (2 * q_34))).toNatClampNeg) ov_67) := rq_upd (k := (5 + (2 * q_34))) rk_3 (nI_clamp (by omega)) (by omega) _
                generalize upd f_2 ((nI (5 + (2 * q_34))).toNatClampNeg) ov_67 = rf_69 at hP hD rk_68
                refine lv_aload_n hx hb dX6_minute_136 rfl (lv_at hl 5 rfl) ?_
                refine lv_iload_n hx hb dX6_minute_137 rfl (lv_at hl 4 rfl) ?_
                refine lv_iconst (v := 4) hx hb dX6_minute_138 (by decide) ?_
                refine lv_aload_n hx hb dX6_minute_139 rfl (lv_at hl 5 rfl) ?_
                refine lv_iload_n hx hb dX6_minute_140 rfl (lv_at hl 4 rfl) ?_
                refine lv_iconst (v := 4) hx hb dX6_minute_141 (by decide) ?_
                refine wt_rS (As := [.ref rw, .int (nI i_1), .int 4]) (rest := [.int 4, .int (nI i_1), .ref rw]) ⟨hx, hb, hml, hown, hts⟩ (c_X6_of_w l D cI cZ cH rw R T rf_69 i_1 4 (by first | assumption | omega) (by first | assumption | omega) (by first | assumption | exact rq_rk (by assumption)) (by first | assumption | omega) (by first | assumption | omega)) (va_cwS 3 hts gX6_minute_X6_of rfl rfl rfl (by decide +kernel) ⟨Nat.le_of_ble_eq_true rfl, Nat.le_of_ble_eq_true rfl⟩) hK hP [0] rfl rfl hl.1 rfl (Nat.le_of_ble_eq_true rfl) dX6_minute_142 ⟨Nat.le_of_ble_eq_true rfl, Nat.le_of_ble_eq_true rfl⟩ (fun r_70 e_71 => ?_)
                refine lv_iload_n hx hb dX6_minute_145 rfl (lv_at hl 0 rfl) ?_
                refine lv_iadd hx hb dX6_minute_146 ?_
                refine lv_topi (fun ov_72 _ => ?_)
                refine wt_goV (wr := []) (wt_runS (As := [.ref rw, .int (nI i_1), .int 4, .int ov_72]) (rest := []) ⟨hx, hb, hml, hown, hts⟩ (c_X6_be_4q l D cI cZ cH rw R T rf_69 K P i_1 ov_72 (by first | assumption | omega) (by first | assumption | omega) (by assumption) (by first | assumption | omega)) (va_cwS 4 hts gX6_minute_X6_be rfl rfl rfl (by decide +kernel) ⟨Nat.le_of_ble_eq_true rfl, Nat.le_of_ble_eq_true rfl⟩) hK hP hD [0] rfl (by decide) rfl hl.1 rfl (Nat.le_of_ble_eq_true rfl) dX6_minute_147 ⟨Nat.le_of_ble_eq_true rfl, Nat.le_of_ble_eq_true rfl⟩) hP hD hS hA [0] [] rfl rfl (by decide) (by decide) (fun w_74 H locs h_75 hP hD hS => ?_)
                obtain ⟨f2_76, rfl, x_77⟩ := h_75
                have hP : va_P D vwCl [(rw, .inl (cI, 45, .inl f2_76))] H := hP
                have hD : va_D A [(rw, .inl (cI, 45, .inl f2_76))] := hD
                refine lv_iinc (v := nI (i_1 + 1)) (lv' := [(1, .int (nI (i_1 + 1))), (3, .int r_48), (5, .int r_48), (4, .int ov_44), (2, .int (nI q_34)), (0, .ref rw)]) hx hb dX6_minute_150 hl (k := 4) rfl (nI_add i_1 1) (by decide) rfl (fun ls hl => ?_)
                refine lv_goto (tgt := 2) hx hb dX6_minute_153 (by decide) ?_
                exact ih2 ((i_1 + 1)) f2_76 H locs ls (by omega) x_77 hP hD hS (lv_sub hl [0, 5] rfl)
          · skip
            refine lv_iload hx hb dX6_minute_101 (lv_at hl 1 rfl) ?_
            refine lv_goto (tgt := 107) hx hb dX6_minute_103 (by decide) ?_
            refine lv_istore_n (lv' := [(3, .int ov_44), (5, .int r_48), (4, .int ov_44), (2, .int (nI q_34)), (1, .int (nI i_1)), (0, .ref rw)]) hx hb dX6_minute_107 rfl hl (by decide) rfl (fun ls hl => ?_)
            refine lv_iload_n hx hb dX6_minute_108 rfl (lv_at hl 0 rfl) ?_
            refine lv_iload hx hb dX6_minute_109 (lv_at hl 1 rfl) ?_
            refine lv_icmp_le (tgt := 119) hx hb dX6_minute_111 (by decide) (fun c_78 => ?_) (fun c_78 => ?_)
            · skip
              refine lv_iload_n hx hb dX6_minute_119 rfl (lv_at hl 0 rfl) ?_
              refine lv_istore_n (lv' := [(3, .int ov_44), (5, .int r_48), (4, .int ov_44), (2, .int (nI q_34)), (1, .int (nI i_1)), (0, .ref rw)]) hx hb dX6_minute_120 rfl hl (by decide) rfl (fun ls hl => ?_)
              refine lv_iload_n hx hb dX6_minute_121 rfl (lv_at hl 0 rfl) ?_
              refine lv_if_le (tgt := 150) hx hb dX6_minute_122 (by decide) (fun c_79 => ?_) (fun c_79 => ?_)
              · skip
                refine lv_iinc (v := nI (i_1 + 1)) (lv' := [(1, .int (nI (i_1 + 1))), (3, .int ov_44), (5, .int r_48), (4, .int ov_44), (2, .int (nI q_34)), (0, .ref rw)]) hx hb dX6_minute_150 hl (k := 4) rfl (nI_add i_1 1) (by decide) rfl (fun ls hl => ?_)
                refine lv_goto (tgt := 2) hx hb dX6_minute_153 (by decide) ?_
                exact ih2 ((i_1 + 1)) f_2 H locs ls (by omega) rk_3 hP hD hS (lv_sub hl [0, 5] rfl)
              · skip
                refine lv_aload_n hx hb dX6_minute_125 rfl (lv_at hl 5 rfl) ?_
                refine lv_iconst (v := 5) hx hb dX6_minute_126 (by decide) ?_
                refine lv_iconst (v := 2) hx hb dX6_minute_127 (by decide) ?_
                refine lv_iload_n hx hb dX6_minute_128 rfl (lv_at hl 3 rfl) ?_
                refine lv_imul hx hb dX6_minute_129 ?_
                refine wt_top (z := nI (2 * q_34)) (pk_mul 2 q_34) ?_
                refine lv_iadd hx hb dX6_minute_130 ?_
                refine wt_top (z := nI (5 + (2 * q_34))) (nI_add 5 (2 * q_34)) ?_
                refine lv_dup2_11 hx hb dX6_minute_131 rfl rfl ?_
                refine va_iald hx hb hK.1 hP 0 0 rfl rfl (vp_in_nI (by omega) (by omega)) dX6_minute_132 ?_
                refine lv_topi (fun ov_80 _ => ?_)
                refine lv_iload_n hx hb dX6_minute_133 rfl (lv_at hl 0 rfl) ?_
                refine lv_isub hx hb dX6_minute_134 ?_
                refine lv_topi (fun ov_81 _ => ?_)
                refine va_iast hx hb hK.1 hP hD hS 0 0 rfl rfl (vp_in_nI (by omega) (by omega)) dX6_minute_135 (fun H locs hP hD hS => ?_)
                have hP : va_P D vwCl [(rw, .inl (cI, 45, .inl (upd f_2 ((nI (5 + (2 * q_34))).toNatClampNeg) ov_81)))] H := hP
                have hD : va_D A [(rw, .inl (cI, 45, .inl (upd f_2 ((nI (5 + (2 * q_34))).toNatClampNeg) ov_81)))] := hD
                have rk_82 : rq K P R T (upd f_2 ((nI (5 + (2 * q_34))).toNatClampNeg) ov_81) := rq_upd (k := (5 + (2 * q_34))) rk_3 (nI_clamp (by omega)) (by omega) _
                generalize upd f_2 ((nI (5 + (2 * q_34))).toNatClampNeg) ov_81 = rf_83 at hP hD rk_82
                refine lv_aload_n hx hb dX6_minute_136 rfl (lv_at hl 5 rfl) ?_
                refine lv_iload_n hx hb dX6_minute_137 rfl (lv_at hl 4 rfl) ?_
                refine lv_iconst (v := 4) hx hb dX6_minute_138 (by decide) ?_
                refine lv_aload_n hx hb dX6_minute_139 rfl (lv_at hl 5 rfl) ?_
                refine lv_iload_n hx hb dX6_minute_140 rfl (lv_at hl 4 rfl) ?_
                refine lv_iconst (v := 4) hx hb dX6_minute_141 (by decide) ?_
                refine wt_rS (As := [.ref rw, .int (nI i_1), .int 4]) (rest := [.int 4, .int (nI i_1), .ref rw]) ⟨hx, hb, hml, hown, hts⟩ (c_X6_of_w l D cI cZ cH rw R T rf_83 i_1 4 (by first | assumption | omega) (by first | assumption | omega) (by first | assumption | exact rq_rk (by assumption)) (by first | assumption | omega) (by first | assumption | omega)) (va_cwS 3 hts gX6_minute_X6_of rfl rfl rfl (by decide +kernel) ⟨Nat.le_of_ble_eq_true rfl, Nat.le_of_ble_eq_true rfl⟩) hK hP [0] rfl rfl hl.1 rfl (Nat.le_of_ble_eq_true rfl) dX6_minute_142 ⟨Nat.le_of_ble_eq_true rfl, Nat.le_of_ble_eq_true rfl⟩ (fun r_84 e_85 => ?_)
                refine lv_iload_n hx hb dX6_minute_145 rfl (lv_at hl 0 rfl) ?_
                refine lv_iadd hx hb dX6_minute_146 ?_
                refine lv_topi (fun ov_86 _ => ?_)
                refine wt_goV (wr := []) (wt_runS (As := [.ref rw, .int (nI i_1), .int 4, .int ov_86]) (rest := []) ⟨hx, hb, hml, hown, hts⟩ (c_X6_be_4q l D cI cZ cH rw R T rf_83 K P i_1 ov_86 (by first | assumption | omega) (by first | assumption | omega) (by assumption) (by first | assumption | omega)) (va_cwS 4 hts gX6_minute_X6_be rfl rfl rfl (by decide +kernel) ⟨Nat.le_of_ble_eq_true rfl, Nat.le_of_ble_eq_true rfl⟩) hK hP hD [0] rfl (by decide) rfl hl.1 rfl (Nat.le_of_ble_eq_true rfl) dX6_minute_147 ⟨Nat.le_of_ble_eq_true rfl, Nat.le_of_ble_eq_true rfl⟩) hP hD hS hA [0] [] rfl rfl (by decide) (by decide) (fun w_88 H locs h_89 hP hD hS => ?_)
                obtain ⟨f2_90, rfl, x_91⟩ := h_89
                have hP : va_P D vwCl [(rw, .inl (cI, 45, .inl f2_90))] H := hP
                have hD : va_D A [(rw, .inl (cI, 45, .inl f2_90))] := hD
                refine lv_iinc (v := nI (i_1 + 1)) (lv' := [(1, .int (nI (i_1 + 1))), (3, .int ov_44), (5, .int r_48), (4, .int ov_44), (2, .int (nI q_34)), (0, .ref rw)]) hx hb dX6_minute_150 hl (k := 4) rfl (nI_add i_1 1) (by decide) rfl (fun ls hl => ?_)
                refine lv_goto (tgt := 2) hx hb dX6_minute_153 (by decide) ?_
                exact ih2 ((i_1 + 1)) f2_90 H locs ls (by omega) x_91 hP hD hS (lv_sub hl [0, 5] rfl)
            · skip
              refine lv_iload hx hb dX6_minute_114 (lv_at hl 1 rfl) ?_
              refine lv_goto (tgt := 120) hx hb dX6_minute_116 (by decide) ?_
              refine lv_istore_n (lv' := [(3, .int r_48), (5, .int r_48), (4, .int ov_44), (2, .int (nI q_34)), (1, .int (nI i_1)), (0, .ref rw)]) hx hb dX6_minute_120 rfl hl (by decide) rfl (fun ls hl => ?_)
              refine lv_iload_n hx hb dX6_minute_121 rfl (lv_at hl 0 rfl) ?_
              refine lv_if_le (tgt := 150) hx hb dX6_minute_122 (by decide) (fun c_92 => ?_) (fun c_92 => ?_)
              · skip
                refine lv_iinc (v := nI (i_1 + 1)) (lv' := [(1, .int (nI (i_1 + 1))), (3, .int r_48), (5, .int r_48), (4, .int ov_44), (2, .int (nI q_34)), (0, .ref rw)]) hx hb dX6_minute_150 hl (k := 4) rfl (nI_add i_1 1) (by decide) rfl (fun ls hl => ?_)
                refine lv_goto (tgt := 2) hx hb dX6_minute_153 (by decide) ?_
                exact ih2 ((i_1 + 1)) f_2 H locs ls (by omega) rk_3 hP hD hS (lv_sub hl [0, 5] rfl)
              · skip
                refine lv_aload_n hx hb dX6_minute_125 rfl (lv_at hl 5 rfl) ?_
                refine lv_iconst (v := 5) hx hb dX6_minute_126 (by decide) ?_
                refine lv_iconst (v := 2) hx hb dX6_minute_127 (by decide) ?_
                refine lv_iload_n hx hb dX6_minute_128 rfl (lv_at hl 3 rfl) ?_
                refine lv_imul hx hb dX6_minute_129 ?_
                refine wt_top (z := nI (2 * q_34)) (pk_mul 2 q_34) ?_
                refine lv_iadd hx hb dX6_minute_130 ?_
                refine wt_top (z := nI (5 + (2 * q_34))) (nI_add 5 (2 * q_34)) ?_
                refine lv_dup2_11 hx hb dX6_minute_131 rfl rfl ?_
                refine va_iald hx hb hK.1 hP 0 0 rfl rfl (vp_in_nI (by omega) (by omega)) dX6_minute_132 ?_
                refine lv_topi (fun ov_93 _ => ?_)
                refine lv_iload_n hx hb dX6_minute_133 rfl (lv_at hl 0 rfl) ?_
                refine lv_isub hx hb dX6_minute_134 ?_
                refine lv_topi (fun ov_94 _ => ?_)
                refine va_iast hx hb hK.1 hP hD hS 0 0 rfl rfl (vp_in_nI (by omega) (by omega)) dX6_minute_135 (fun H locs hP hD hS => ?_)
                have hP : va_P D vwCl [(rw, .inl (cI, 45, .inl (upd f_2 ((nI (5 + (2 * q_34))).toNatClampNeg) ov_94)))] H := hP
                have hD : va_D A [(rw, .inl (cI, 45, .inl (upd f_2 ((nI (5 + (2 * q_34))).toNatClampNeg) ov_94)))] := hD
                have rk_95 : rq K P R T (upd f_2 ((nI (5 + (2 * q_34))).toNatClampNeg) ov_94) := rq_upd (k := (5 + (2 * q_34))) rk_3 (nI_clamp (by omega)) (by omega) _
                generalize upd f_2 ((nI (5 + (2 * q_34))).toNatClampNeg) ov_94 = rf_96 at hP hD rk_95
                refine lv_aload_n hx hb dX6_minute_136 rfl (lv_at hl 5 rfl) ?_
                refine lv_iload_n hx hb dX6_minute_137 rfl (lv_at hl 4 rfl) ?_
                refine lv_iconst (v := 4) hx hb dX6_minute_138 (by decide) ?_
                refine lv_aload_n hx hb dX6_minute_139 rfl (lv_at hl 5 rfl) ?_
                refine lv_iload_n hx hb dX6_minute_140 rfl (lv_at hl 4 rfl) ?_
                refine lv_iconst (v := 4) hx hb dX6_minute_141 (by decide) ?_
                refine wt_rS (As := [.ref rw, .int (nI i_1), .int 4]) (rest := [.int 4, .int (nI i_1), .ref rw]) ⟨hx, hb, hml, hown, hts⟩ (c_X6_of_w l D cI cZ cH rw R T rf_96 i_1 4 (by first | assumption | omega) (by first | assumption | omega) (by first | assumption | exact rq_rk (by assumption)) (by first | assumption | omega) (by first | assumption | omega)) (va_cwS 3 hts gX6_minute_X6_of rfl rfl rfl (by decide +kernel) ⟨Nat.le_of_ble_eq_true rfl, Nat.le_of_ble_eq_true rfl⟩) hK hP [0] rfl rfl hl.1 rfl (Nat.le_of_ble_eq_true rfl) dX6_minute_142 ⟨Nat.le_of_ble_eq_true rfl, Nat.le_of_ble_eq_true rfl⟩ (fun r_97 e_98 => ?_)
                refine lv_iload_n hx hb dX6_minute_145 rfl (lv_at hl 0 rfl) ?_
                refine lv_iadd hx hb dX6_minute_146 ?_
                refine lv_topi (fun ov_99 _ => ?_)
                refine wt_goV (wr := []) (wt_runS (As := [.ref rw, .int (nI i_1), .int 4, .int ov_99]) (rest := []) ⟨hx, hb, hml, hown, hts⟩ (c_X6_be_4q l D cI cZ cH rw R T rf_96 K P i_1 ov_99 (by first | assumption | omega) (by first | assumption | omega) (by assumption) (by first | assumption | omega)) (va_cwS 4 hts gX6_minute_X6_be rfl rfl rfl (by decide +kernel) ⟨Nat.le_of_ble_eq_true rfl, Nat.le_of_ble_eq_true rfl⟩) hK hP hD [0] rfl (by decide) rfl hl.1 rfl (Nat.le_of_ble_eq_true rfl) dX6_minute_147 ⟨Nat.le_of_ble_eq_true rfl, Nat.le_of_ble_eq_true rfl⟩) hP hD hS hA [0] [] rfl rfl (by decide) (by decide) (fun w_101 H locs h_102 hP hD hS => ?_)
                obtain ⟨f2_103, rfl, x_104⟩ := h_102
                have hP : va_P D vwCl [(rw, .inl (cI, 45, .inl f2_103))] H := hP
                have hD : va_D A [(rw, .inl (cI, 45, .inl f2_103))] := hD
                refine lv_iinc (v := nI (i_1 + 1)) (lv' := [(1, .int (nI (i_1 + 1))), (3, .int r_48), (5, .int r_48), (4, .int ov_44), (2, .int (nI q_34)), (0, .ref rw)]) hx hb dX6_minute_150 hl (k := 4) rfl (nI_add i_1 1) (by decide) rfl (fun ls hl => ?_)
                refine lv_goto (tgt := 2) hx hb dX6_minute_153 (by decide) ?_
                exact ih2 ((i_1 + 1)) f2_103 H locs ls (by omega) x_104 hP hD hS (lv_sub hl [0, 5] rfl)
        · skip
          refine lv_iconst (v := 0) hx hb dX6_minute_84 (by decide) ?_
          refine lv_goto (tgt := 93) hx hb dX6_minute_85 (by decide) ?_
          refine lv_istore (lv' := [(5, .int 0), (4, .int ov_44), (3, .int r_38), (2, .int (nI q_34)), (1, .int (nI i_1)), (0, .ref rw)]) hx hb dX6_minute_93 hl (by decide) rfl (fun ls hl => ?_)
          refine lv_iload_n hx hb dX6_minute_95 rfl (lv_at hl 2 rfl) ?_
          refine lv_iload hx hb dX6_minute_96 (lv_at hl 1 rfl) ?_
          refine lv_icmp_le (tgt := 106) hx hb dX6_minute_98 (by decide) (fun c_105 => ?_) (fun c_105 => ?_)
          · skip
            refine lv_iload_n hx hb dX6_minute_106 rfl (lv_at hl 2 rfl) ?_
            refine lv_istore_n (lv' := [(3, .int r_38), (5, .int 0), (4, .int ov_44), (2, .int (nI q_34)), (1, .int (nI i_1)), (0, .ref rw)]) hx hb dX6_minute_107 rfl hl (by decide) rfl (fun ls hl => ?_)
            refine lv_iload_n hx hb dX6_minute_108 rfl (lv_at hl 0 rfl) ?_
            refine lv_iload hx hb dX6_minute_109 (lv_at hl 1 rfl) ?_
            refine lv_icmp_le (tgt := 119) hx hb dX6_minute_111 (by decide) (fun c_106 => ?_) (fun c_106 => ?_)
            · skip
              refine lv_iload_n hx hb dX6_minute_119 rfl (lv_at hl 0 rfl) ?_
              refine lv_istore_n (lv' := [(3, .int r_38), (5, .int 0), (4, .int ov_44), (2, .int (nI q_34)), (1, .int (nI i_1)), (0, .ref rw)]) hx hb dX6_minute_120 rfl hl (by decide) rfl (fun ls hl => ?_)
              refine lv_iload_n hx hb dX6_minute_121 rfl (lv_at hl 0 rfl) ?_
              refine lv_if_le (tgt := 150) hx hb dX6_minute_122 (by decide) (fun _ => ?_) (fun h => absurd c_106 h)
              refine lv_iinc (v := nI (i_1 + 1)) (lv' := [(1, .int (nI (i_1 + 1))), (3, .int r_38), (5, .int 0), (4, .int ov_44), (2, .int (nI q_34)), (0, .ref rw)]) hx hb dX6_minute_150 hl (k := 4) rfl (nI_add i_1 1) (by decide) rfl (fun ls hl => ?_)
              refine lv_goto (tgt := 2) hx hb dX6_minute_153 (by decide) ?_
              exact ih2 ((i_1 + 1)) f_2 H locs ls (by omega) rk_3 hP hD hS (lv_sub hl [0, 5] rfl)
            · skip
              refine lv_iload hx hb dX6_minute_114 (lv_at hl 1 rfl) ?_
              refine lv_goto (tgt := 120) hx hb dX6_minute_116 (by decide) ?_
              refine lv_istore_n (lv' := [(3, .int 0), (5, .int 0), (4, .int ov_44), (2, .int (nI q_34)), (1, .int (nI i_1)), (0, .ref rw)]) hx hb dX6_minute_120 rfl hl (by decide) rfl (fun ls hl => ?_)
              refine lv_iload_n hx hb dX6_minute_121 rfl (lv_at hl 0 rfl) ?_
              refine lv_if_le (tgt := 150) hx hb dX6_minute_122 (by decide) (fun _ => ?_) (fun h => absurd h (by decide))
              refine lv_iinc (v := nI (i_1 + 1)) (lv' := [(1, .int (nI (i_1 + 1))), (3, .int 0), (5, .int 0), (4, .int ov_44), (2, .int (nI q_34)), (0, .ref rw)]) hx hb dX6_minute_150 hl (k := 4) rfl (nI_add i_1 1) (by decide) rfl (fun ls hl => ?_)
              refine lv_goto (tgt := 2) hx hb dX6_minute_153 (by decide) ?_
              exact ih2 ((i_1 + 1)) f_2 H locs ls (by omega) rk_3 hP hD hS (lv_sub hl [0, 5] rfl)
          · skip
            refine lv_iload hx hb dX6_minute_101 (lv_at hl 1 rfl) ?_
            refine lv_goto (tgt := 107) hx hb dX6_minute_103 (by decide) ?_
            refine lv_istore_n (lv' := [(3, .int ov_44), (5, .int 0), (4, .int ov_44), (2, .int (nI q_34)), (1, .int (nI i_1)), (0, .ref rw)]) hx hb dX6_minute_107 rfl hl (by decide) rfl (fun ls hl => ?_)
            refine lv_iload_n hx hb dX6_minute_108 rfl (lv_at hl 0 rfl) ?_
            refine lv_iload hx hb dX6_minute_109 (lv_at hl 1 rfl) ?_
            refine lv_icmp_le (tgt := 119) hx hb dX6_minute_111 (by decide) (fun c_107 => ?_) (fun c_107 => ?_)
            · skip
              refine lv_iload_n hx hb dX6_minute_119 rfl (lv_at hl 0 rfl) ?_
              refine lv_istore_n (lv' := [(3, .int ov_44), (5, .int 0), (4, .int ov_44), (2, .int (nI q_34)), (1, .int (nI i_1)), (0, .ref rw)]) hx hb dX6_minute_120 rfl hl (by decide) rfl (fun ls hl => ?_)
              refine lv_iload_n hx hb dX6_minute_121 rfl (lv_at hl 0 rfl) ?_
              refine lv_if_le (tgt := 150) hx hb dX6_minute_122 (by decide) (fun _ => ?_) (fun h => absurd c_107 h)
              refine lv_iinc (v := nI (i_1 + 1)) (lv' := [(1, .int (nI (i_1 + 1))), (3, .int ov_44), (5, .int 0), (4, .int ov_44), (2, .int (nI q_34)), (0, .ref rw)]) hx hb dX6_minute_150 hl (k := 4) rfl (nI_add i_1 1) (by decide) rfl (fun ls hl => ?_)
              refine lv_goto (tgt := 2) hx hb dX6_minute_153 (by decide) ?_
              exact ih2 ((i_1 + 1)) f_2 H locs ls (by omega) rk_3 hP hD hS (lv_sub hl [0, 5] rfl)
            · skip
              refine lv_iload hx hb dX6_minute_114 (lv_at hl 1 rfl) ?_
              refine lv_goto (tgt := 120) hx hb dX6_minute_116 (by decide) ?_
              refine lv_istore_n (lv' := [(3, .int 0), (5, .int 0), (4, .int ov_44), (2, .int (nI q_34)), (1, .int (nI i_1)), (0, .ref rw)]) hx hb dX6_minute_120 rfl hl (by decide) rfl (fun ls hl => ?_)
              refine lv_iload_n hx hb dX6_minute_121 rfl (lv_at hl 0 rfl) ?_
              refine lv_if_le (tgt := 150) hx hb dX6_minute_122 (by decide) (fun _ => ?_) (fun h => absurd h (by decide))
              refine lv_iinc (v := nI (i_1 + 1)) (lv' := [(1, .int (nI (i_1 + 1))), (3, .int 0), (5, .int 0), (4, .int ov_44), (2, .int (nI q_34)), (0, .ref rw)]) hx hb dX6_minute_150 hl (k := 4) rfl (nI_add i_1 1) (by decide) rfl (fun ls hl => ?_)
              refine lv_goto (tgt := 2) hx hb dX6_minute_153 (by decide) ?_
              exact ih2 ((i_1 + 1)) f_2 H locs ls (by omega) rk_3 hP hD hS (lv_sub hl [0, 5] rfl)
      · skip
        refine lv_aload_n hx hb dX6_minute_26 rfl (lv_at hl 2 rfl) ?_
        refine lv_iload_n hx hb dX6_minute_27 rfl (lv_at hl 1 rfl) ?_
        refine lv_iconst (v := 4) hx hb dX6_minute_28 (by decide) ?_
        refine wt_rS (As := [.ref rw, .int (nI i_1), .int 4]) (rest := []) ⟨hx, hb, hml, hown, hts⟩ (c_X6_of_w l D cI cZ cH rw R T f_2 i_1 4 (by first | assumption | omega) (by first | assumption | omega) (by first | assumption | exact rq_rk (by assumption)) (by first | assumption | omega) (by first | assumption | omega)) (va_cwS 3 hts gX6_minute_X6_of rfl rfl rfl (by decide +kernel) ⟨Nat.le_of_ble_eq_true rfl, Nat.le_of_ble_eq_true rfl⟩) hK hP [0] rfl rfl hl.1 rfl (Nat.le_of_ble_eq_true rfl) dX6_minute_29 ⟨Nat.le_of_ble_eq_true rfl, Nat.le_of_ble_eq_true rfl⟩ (fun r_108 e_109 => ?_)
        refine lv_if_le (tgt := 55) hx hb dX6_minute_32 (by decide) (fun c_110 => ?_) (fun c_110 => ?_)
        · skip
          refine lv_aload_n hx hb dX6_minute_55 rfl (lv_at hl 2 rfl) ?_
          refine lv_iload_n hx hb dX6_minute_56 rfl (lv_at hl 1 rfl) ?_
          refine wt_rS (As := [.ref rw, .int (nI i_1)]) (rest := []) ⟨hx, hb, hml, hown, hts⟩ (c_X6_wants l D cI cZ cH rw R T f_2 i_1 (by first | assumption | omega) (by first | assumption | omega) (by first | assumption | exact rq_rk (by assumption)) (by first | assumption | omega)) (va_cwS 2 hts gX6_minute_X6_wants rfl rfl rfl (by decide +kernel) ⟨Nat.le_of_ble_eq_true rfl, Nat.le_of_ble_eq_true rfl⟩) hK hP [0] rfl rfl hl.1 rfl (Nat.le_of_ble_eq_true rfl) dX6_minute_57 ⟨Nat.le_of_ble_eq_true rfl, Nat.le_of_ble_eq_true rfl⟩ (fun r_111 e_112 => ?_)
          refine lv_istore_n (lv' := [(3, .int r_111), (2, .int (nI q_34)), (1, .int (nI i_1)), (0, .ref rw)]) hx hb dX6_minute_60 rfl hl (by decide) rfl (fun ls hl => ?_)
          refine lv_aload_n hx hb dX6_minute_61 rfl (lv_at hl 3 rfl) ?_
          refine lv_iload_n hx hb dX6_minute_62 rfl (lv_at hl 2 rfl) ?_
          refine lv_iconst (v := 3) hx hb dX6_minute_63 (by decide) ?_
          refine wt_rS (As := [.ref rw, .int (nI i_1), .int 3]) (rest := []) ⟨hx, hb, hml, hown, hts⟩ (c_X6_of_w l D cI cZ cH rw R T f_2 i_1 3 (by first | assumption | omega) (by first | assumption | omega) (by first | assumption | exact rq_rk (by assumption)) (by first | assumption | omega) (by first | assumption | omega)) (va_cwS 3 hts gX6_minute_X6_of rfl rfl rfl (by decide +kernel) ⟨Nat.le_of_ble_eq_true rfl, Nat.le_of_ble_eq_true rfl⟩) hK hP [0] rfl rfl hl.1 rfl (Nat.le_of_ble_eq_true rfl) dX6_minute_64 ⟨Nat.le_of_ble_eq_true rfl, Nat.le_of_ble_eq_true rfl⟩ (fun r_113 e_114 => ?_)
          refine lv_aload_n hx hb dX6_minute_67 rfl (lv_at hl 3 rfl) ?_
          refine lv_iload_n hx hb dX6_minute_68 rfl (lv_at hl 2 rfl) ?_
          refine lv_iconst (v := 4) hx hb dX6_minute_69 (by decide) ?_
          refine wt_rS (As := [.ref rw, .int (nI i_1), .int 4]) (rest := [.int r_113]) ⟨hx, hb, hml, hown, hts⟩ (c_X6_of_w l D cI cZ cH rw R T f_2 i_1 4 (by first | assumption | omega) (by first | assumption | omega) (by first | assumption | exact rq_rk (by assumption)) (by first | assumption | omega) (by first | assumption | omega)) (va_cwS 3 hts gX6_minute_X6_of rfl rfl rfl (by decide +kernel) ⟨Nat.le_of_ble_eq_true rfl, Nat.le_of_ble_eq_true rfl⟩) hK hP [0] rfl rfl hl.1 rfl (Nat.le_of_ble_eq_true rfl) dX6_minute_70 ⟨Nat.le_of_ble_eq_true rfl, Nat.le_of_ble_eq_true rfl⟩ (fun r_115 e_116 => ?_)
          refine lv_isub hx hb dX6_minute_73 ?_
          refine lv_topi (fun ov_117 _ => ?_)
          refine lv_istore (lv' := [(4, .int ov_117), (3, .int r_111), (2, .int (nI q_34)), (1, .int (nI i_1)), (0, .ref rw)]) hx hb dX6_minute_74 hl (by decide) rfl (fun ls hl => ?_)
          refine lv_aload_n hx hb dX6_minute_76 rfl (lv_at hl 4 rfl) ?_
          refine lv_iload_n hx hb dX6_minute_77 rfl (lv_at hl 3 rfl) ?_
          refine wt_rS (As := [.ref rw, .int (nI i_1)]) (rest := []) ⟨hx, hb, hml, hown, hts⟩ (c_X6_isOut_q l D cI cZ cH rw R T f_2 K P i_1 (by first | assumption | omega) (by first | assumption | omega) (by assumption) (by first | assumption | omega)) (va_cwS 2 hts gX6_minute_X6_isOut rfl rfl rfl (by decide +kernel) ⟨Nat.le_of_ble_eq_true rfl, Nat.le_of_ble_eq_true rfl⟩) hK hP [0] rfl rfl hl.1 rfl (Nat.le_of_ble_eq_true rfl) dX6_minute_78 ⟨Nat.le_of_ble_eq_true rfl, Nat.le_of_ble_eq_true rfl⟩ (fun r_118 e_119 => ?_)
          refine lv_if_eq (tgt := 88) hx hb dX6_minute_81 (by decide) (fun c_120 => ?_) (fun c_120 => ?_)
          · skip
            have hlt : q_34 < R := rq_lt eq_34 e_33 hR5 (e_119 c_120)
            refine lv_aload_n hx hb dX6_minute_88 rfl (lv_at hl 4 rfl) ?_
            refine lv_iload_n hx hb dX6_minute_89 rfl (lv_at hl 2 rfl) ?_
            refine wt_rS (As := [.ref rw, .int (nI q_34)]) (rest := []) ⟨hx, hb, hml, hown, hts⟩ (c_X6_warmth l D cI cZ cH rw R T f_2 q_34 (by first | assumption | omega) (by first | assumption | omega) (by first | assumption | exact rq_rk (by assumption)) (by first | assumption | omega)) (va_cwS 2 hts gX6_minute_X6_warmth rfl rfl rfl (by decide +kernel) ⟨Nat.le_of_ble_eq_true rfl, Nat.le_of_ble_eq_true rfl⟩) hK hP [0] rfl rfl hl.1 rfl (Nat.le_of_ble_eq_true rfl) dX6_minute_90 ⟨Nat.le_of_ble_eq_true rfl, Nat.le_of_ble_eq_true rfl⟩ (fun r_121 e_122 => ?_)
            refine lv_istore (lv' := [(5, .int r_121), (4, .int ov_117), (3, .int r_111), (2, .int (nI q_34)), (1, .int (nI i_1)), (0, .ref rw)]) hx hb dX6_minute_93 hl (by decide) rfl (fun ls hl => ?_)
            refine lv_iload_n hx hb dX6_minute_95 rfl (lv_at hl 2 rfl) ?_
            refine lv_iload hx hb dX6_minute_96 (lv_at hl 1 rfl) ?_
            refine lv_icmp_le (tgt := 106) hx hb dX6_minute_98 (by decide) (fun c_123 => ?_) (fun c_123 => ?_)
            · skip
              refine lv_iload_n hx hb dX6_minute_106 rfl (lv_at hl 2 rfl) ?_
              refine lv_istore_n (lv' := [(3, .int r_111), (5, .int r_121), (4, .int ov_117), (2, .int (nI q_34)), (1, .int (nI i_1)), (0, .ref rw)]) hx hb dX6_minute_107 rfl hl (by decide) rfl (fun ls hl => ?_)
              refine lv_iload_n hx hb dX6_minute_108 rfl (lv_at hl 0 rfl) ?_
              refine lv_iload hx hb dX6_minute_109 (lv_at hl 1 rfl) ?_
              refine lv_icmp_le (tgt := 119) hx hb dX6_minute_111 (by decide) (fun c_124 => ?_) (fun c_124 => ?_)
              · skip
                refine lv_iload_n hx hb dX6_minute_119 rfl (lv_at hl 0 rfl) ?_
                refine lv_istore_n (lv' := [(3, .int r_111), (5, .int r_121), (4, .int ov_117), (2, .int (nI q_34)), (1, .int (nI i_1)), (0, .ref rw)]) hx hb dX6_minute_120 rfl hl (by decide) rfl (fun ls hl => ?_)
                refine lv_iload_n hx hb dX6_minute_121 rfl (lv_at hl 0 rfl) ?_
                refine lv_if_le (tgt := 150) hx hb dX6_minute_122 (by decide) (fun c_125 => ?_) (fun c_125 => ?_)
                · skip
                  refine lv_iinc (v := nI (i_1 + 1)) (lv' := [(1, .int (nI (i_1 + 1))), (3, .int r_111), (5, .int r_121), (4, .int ov_117), (2, .int (nI q_34)), (0, .ref rw)]) hx hb dX6_minute_150 hl (k := 4) rfl (nI_add i_1 1) (by decide) rfl (fun ls hl => ?_)
                  refine lv_goto (tgt := 2) hx hb dX6_minute_153 (by decide) ?_
                  exact ih2 ((i_1 + 1)) f_2 H locs ls (by omega) rk_3 hP hD hS (lv_sub hl [0, 5] rfl)
                · skip
                  refine lv_aload_n hx hb dX6_minute_125 rfl (lv_at hl 5 rfl) ?_
                  refine lv_iconst (v := 5) hx hb dX6_minute_126 (by decide) ?_
                  refine lv_iconst (v := 2) hx hb dX6_minute_127 (by decide) ?_
                  refine lv_iload_n hx hb dX6_minute_128 rfl (lv_at hl 3 rfl) ?_
                  refine lv_imul hx hb dX6_minute_129 ?_
                  refine wt_top (z := nI (2 * q_34)) (pk_mul 2 q_34) ?_
                  refine lv_iadd hx hb dX6_minute_130 ?_
                  refine wt_top (z := nI (5 + (2 * q_34))) (nI_add 5 (2 * q_34)) ?_
                  refine lv_dup2_11 hx hb dX6_minute_131 rfl rfl ?_
                  refine va_iald hx hb hK.1 hP 0 0 rfl rfl (vp_in_nI (by omega) (by omega)) dX6_minute_132 ?_
                  refine lv_topi (fun ov_126 _ => ?_)
                  refine lv_iload_n hx hb dX6_minute_133 rfl (lv_at hl 0 rfl) ?_
                  refine lv_isub hx hb dX6_minute_134 ?_
                  refine lv_topi (fun ov_127 _ => ?_)
                  refine va_iast hx hb hK.1 hP hD hS 0 0 rfl rfl (vp_in_nI (by omega) (by omega)) dX6_minute_135 (fun H locs hP hD hS => ?_)
                  have hP : va_P D vwCl [(rw, .inl (cI, 45, .inl (upd f_2 ((nI (5 + (2 * q_34))).toNatClampNeg) ov_127)))] H := hP
                  have hD : va_D A [(rw, .inl (cI, 45, .inl (upd f_2 ((nI (5 + (2 * q_34))).toNatClampNeg) ov_127)))] := hD
                  have rk_128 : rq K P R T (upd f_2 ((nI (5 + (2 * q_34))).toNatClampNeg) ov_127) := rq_upd (k := (5 + (2 * q_34))) rk_3 (nI_clamp (by omega)) (by omega) _
                  generalize upd f_2 ((nI (5 + (2 * q_34))).toNatClampNeg) ov_127 = rf_129 at hP hD rk_128
                  refine lv_aload_n hx hb dX6_minute_136 rfl (lv_at hl 5 rfl) ?_
                  refine lv_iload_n hx hb dX6_minute_137 rfl (lv_at hl 4 rfl) ?_
                  refine lv_iconst (v := 4) hx hb dX6_minute_138 (by decide) ?_
                  refine lv_aload_n hx hb dX6_minute_139 rfl (lv_at hl 5 rfl) ?_
                  refine lv_iload_n hx hb dX6_minute_140 rfl (lv_at hl 4 rfl) ?_
                  refine lv_iconst (v := 4) hx hb dX6_minute_141 (by decide) ?_
                  refine wt_rS (As := [.ref rw, .int (nI i_1), .int 4]) (rest := [.int 4, .int (nI i_1), .ref rw]) ⟨hx, hb, hml, hown, hts⟩ (c_X6_of_w l D cI cZ cH rw R T rf_129 i_1 4 (by first | assumption | omega) (by first | assumption | omega) (by first | assumption | exact rq_rk (by assumption)) (by first | assumption | omega) (by first | assumption | omega)) (va_cwS 3 hts gX6_minute_X6_of rfl rfl rfl (by decide +kernel) ⟨Nat.le_of_ble_eq_true rfl, Nat.le_of_ble_eq_true rfl⟩) hK hP [0] rfl rfl hl.1 rfl (Nat.le_of_ble_eq_true rfl) dX6_minute_142 ⟨Nat.le_of_ble_eq_true rfl, Nat.le_of_ble_eq_true rfl⟩ (fun r_130 e_131 => ?_)
                  refine lv_iload_n hx hb dX6_minute_145 rfl (lv_at hl 0 rfl) ?_
                  refine lv_iadd hx hb dX6_minute_146 ?_
                  refine lv_topi (fun ov_132 _ => ?_)
                  refine wt_goV (wr := []) (wt_runS (As := [.ref rw, .int (nI i_1), .int 4, .int ov_132]) (rest := []) ⟨hx, hb, hml, hown, hts⟩ (c_X6_be_4q l D cI cZ cH rw R T rf_129 K P i_1 ov_132 (by first | assumption | omega) (by first | assumption | omega) (by assumption) (by first | assumption | omega)) (va_cwS 4 hts gX6_minute_X6_be rfl rfl rfl (by decide +kernel) ⟨Nat.le_of_ble_eq_true rfl, Nat.le_of_ble_eq_true rfl⟩) hK hP hD [0] rfl (by decide) rfl hl.1 rfl (Nat.le_of_ble_eq_true rfl) dX6_minute_147 ⟨Nat.le_of_ble_eq_true rfl, Nat.le_of_ble_eq_true rfl⟩) hP hD hS hA [0] [] rfl rfl (by decide) (by decide) (fun w_134 H locs h_135 hP hD hS => ?_)
                  obtain ⟨f2_136, rfl, x_137⟩ := h_135
                  have hP : va_P D vwCl [(rw, .inl (cI, 45, .inl f2_136))] H := hP
                  have hD : va_D A [(rw, .inl (cI, 45, .inl f2_136))] := hD
                  refine lv_iinc (v := nI (i_1 + 1)) (lv' := [(1, .int (nI (i_1 + 1))), (3, .int r_111), (5, .int r_121), (4, .int ov_117), (2, .int (nI q_34)), (0, .ref rw)]) hx hb dX6_minute_150 hl (k := 4) rfl (nI_add i_1 1) (by decide) rfl (fun ls hl => ?_)
                  refine lv_goto (tgt := 2) hx hb dX6_minute_153 (by decide) ?_
                  exact ih2 ((i_1 + 1)) f2_136 H locs ls (by omega) x_137 hP hD hS (lv_sub hl [0, 5] rfl)
              · skip
                refine lv_iload hx hb dX6_minute_114 (lv_at hl 1 rfl) ?_
                refine lv_goto (tgt := 120) hx hb dX6_minute_116 (by decide) ?_
                refine lv_istore_n (lv' := [(3, .int r_121), (5, .int r_121), (4, .int ov_117), (2, .int (nI q_34)), (1, .int (nI i_1)), (0, .ref rw)]) hx hb dX6_minute_120 rfl hl (by decide) rfl (fun ls hl => ?_)
                refine lv_iload_n hx hb dX6_minute_121 rfl (lv_at hl 0 rfl) ?_
                refine lv_if_le (tgt := 150) hx hb dX6_minute_122 (by decide) (fun c_138 => ?_) (fun c_138 => ?_)
                · skip
                  refine lv_iinc (v := nI (i_1 + 1)) (lv' := [(1, .int (nI (i_1 + 1))), (3, .int r_121), (5, .int r_121), (4, .int ov_117), (2, .int (nI q_34)), (0, .ref rw)]) hx hb dX6_minute_150 hl (k := 4) rfl (nI_add i_1 1) (by decide) rfl (fun ls hl => ?_)
                  refine lv_goto (tgt := 2) hx hb dX6_minute_153 (by decide) ?_
                  exact ih2 ((i_1 + 1)) f_2 H locs ls (by omega) rk_3 hP hD hS (lv_sub hl [0, 5] rfl)
                · skip
                  refine lv_aload_n hx hb dX6_minute_125 rfl (lv_at hl 5 rfl) ?_
                  refine lv_iconst (v := 5) hx hb dX6_minute_126 (by decide) ?_
                  refine lv_iconst (v := 2) hx hb dX6_minute_127 (by decide) ?_
                  refine lv_iload_n hx hb dX6_minute_128 rfl (lv_at hl 3 rfl) ?_
                  refine lv_imul hx hb dX6_minute_129 ?_
                  refine wt_top (z := nI (2 * q_34)) (pk_mul 2 q_34) ?_
                  refine lv_iadd hx hb dX6_minute_130 ?_
                  refine wt_top (z := nI (5 + (2 * q_34))) (nI_add 5 (2 * q_34)) ?_
                  refine lv_dup2_11 hx hb dX6_minute_131 rfl rfl ?_
                  refine va_iald hx hb hK.1 hP 0 0 rfl rfl (vp_in_nI (by omega) (by omega)) dX6_minute_132 ?_
                  refine lv_topi (fun ov_139 _ => ?_)
                  refine lv_iload_n hx hb dX6_minute_133 rfl (lv_at hl 0 rfl) ?_
                  refine lv_isub hx hb dX6_minute_134 ?_
                  refine lv_topi (fun ov_140 _ => ?_)
                  refine va_iast hx hb hK.1 hP hD hS 0 0 rfl rfl (vp_in_nI (by omega) (by omega)) dX6_minute_135 (fun H locs hP hD hS => ?_)
                  have hP : va_P D vwCl [(rw, .inl (cI, 45, .inl (upd f_2 ((nI (5 + (2 * q_34))).toNatClampNeg) ov_140)))] H := hP
                  have hD : va_D A [(rw, .inl (cI, 45, .inl (upd f_2 ((nI (5 + (2 * q_34))).toNatClampNeg) ov_140)))] := hD
                  have rk_141 : rq K P R T (upd f_2 ((nI (5 + (2 * q_34))).toNatClampNeg) ov_140) := rq_upd (k := (5 + (2 * q_34))) rk_3 (nI_clamp (by omega)) (by omega) _
                  generalize upd f_2 ((nI (5 + (2 * q_34))).toNatClampNeg) ov_140 = rf_142 at hP hD rk_141
                  refine lv_aload_n hx hb dX6_minute_136 rfl (lv_at hl 5 rfl) ?_
                  refine lv_iload_n hx hb dX6_minute_137 rfl (lv_at hl 4 rfl) ?_
                  refine lv_iconst (v := 4) hx hb dX6_minute_138 (by decide) ?_
                  refine lv_aload_n hx hb dX6_minute_139 rfl (lv_at hl 5 rfl) ?_
                  refine lv_iload_n hx hb dX6_minute_140 rfl (lv_at hl 4 rfl) ?_
                  refine lv_iconst (v := 4) hx hb dX6_minute_141 (by decide) ?_
                  refine wt_rS (As := [.ref rw, .int (nI i_1), .int 4]) (rest := [.int 4, .int (nI i_1), .ref rw]) ⟨hx, hb, hml, hown, hts⟩ (c_X6_of_w l D cI cZ cH rw R T rf_142 i_1 4 (by first | assumption | omega) (by first | assumption | omega) (by first | assumption | exact rq_rk (by assumption)) (by first | assumption | omega) (by first | assumption | omega)) (va_cwS 3 hts gX6_minute_X6_of rfl rfl rfl (by decide +kernel) ⟨Nat.le_of_ble_eq_true rfl, Nat.le_of_ble_eq_true rfl⟩) hK hP [0] rfl rfl hl.1 rfl (Nat.le_of_ble_eq_true rfl) dX6_minute_142 ⟨Nat.le_of_ble_eq_true rfl, Nat.le_of_ble_eq_true rfl⟩ (fun r_143 e_144 => ?_)
                  refine lv_iload_n hx hb dX6_minute_145 rfl (lv_at hl 0 rfl) ?_
                  refine lv_iadd hx hb dX6_minute_146 ?_
                  refine lv_topi (fun ov_145 _ => ?_)
                  refine wt_goV (wr := []) (wt_runS (As := [.ref rw, .int (nI i_1), .int 4, .int ov_145]) (rest := []) ⟨hx, hb, hml, hown, hts⟩ (c_X6_be_4q l D cI cZ cH rw R T rf_142 K P i_1 ov_145 (by first | assumption | omega) (by first | assumption | omega) (by assumption) (by first | assumption | omega)) (va_cwS 4 hts gX6_minute_X6_be rfl rfl rfl (by decide +kernel) ⟨Nat.le_of_ble_eq_true rfl, Nat.le_of_ble_eq_true rfl⟩) hK hP hD [0] rfl (by decide) rfl hl.1 rfl (Nat.le_of_ble_eq_true rfl) dX6_minute_147 ⟨Nat.le_of_ble_eq_true rfl, Nat.le_of_ble_eq_true rfl⟩) hP hD hS hA [0] [] rfl rfl (by decide) (by decide) (fun w_147 H locs h_148 hP hD hS => ?_)
                  obtain ⟨f2_149, rfl, x_150⟩ := h_148
                  have hP : va_P D vwCl [(rw, .inl (cI, 45, .inl f2_149))] H := hP
                  have hD : va_D A [(rw, .inl (cI, 45, .inl f2_149))] := hD
                  refine lv_iinc (v := nI (i_1 + 1)) (lv' := [(1, .int (nI (i_1 + 1))), (3, .int r_121), (5, .int r_121), (4, .int ov_117), (2, .int (nI q_34)), (0, .ref rw)]) hx hb dX6_minute_150 hl (k := 4) rfl (nI_add i_1 1) (by decide) rfl (fun ls hl => ?_)
                  refine lv_goto (tgt := 2) hx hb dX6_minute_153 (by decide) ?_
                  exact ih2 ((i_1 + 1)) f2_149 H locs ls (by omega) x_150 hP hD hS (lv_sub hl [0, 5] rfl)
            · skip
              refine lv_iload hx hb dX6_minute_101 (lv_at hl 1 rfl) ?_
              refine lv_goto (tgt := 107) hx hb dX6_minute_103 (by decide) ?_
              refine lv_istore_n (lv' := [(3, .int ov_117), (5, .int r_121), (4, .int ov_117), (2, .int (nI q_34)), (1, .int (nI i_1)), (0, .ref rw)]) hx hb dX6_minute_107 rfl hl (by decide) rfl (fun ls hl => ?_)
              refine lv_iload_n hx hb dX6_minute_108 rfl (lv_at hl 0 rfl) ?_
              refine lv_iload hx hb dX6_minute_109 (lv_at hl 1 rfl) ?_
              refine lv_icmp_le (tgt := 119) hx hb dX6_minute_111 (by decide) (fun c_151 => ?_) (fun c_151 => ?_)
              · skip
                refine lv_iload_n hx hb dX6_minute_119 rfl (lv_at hl 0 rfl) ?_
                refine lv_istore_n (lv' := [(3, .int ov_117), (5, .int r_121), (4, .int ov_117), (2, .int (nI q_34)), (1, .int (nI i_1)), (0, .ref rw)]) hx hb dX6_minute_120 rfl hl (by decide) rfl (fun ls hl => ?_)
                refine lv_iload_n hx hb dX6_minute_121 rfl (lv_at hl 0 rfl) ?_
                refine lv_if_le (tgt := 150) hx hb dX6_minute_122 (by decide) (fun c_152 => ?_) (fun c_152 => ?_)
                · skip
                  refine lv_iinc (v := nI (i_1 + 1)) (lv' := [(1, .int (nI (i_1 + 1))), (3, .int ov_117), (5, .int r_121), (4, .int ov_117), (2, .int (nI q_34)), (0, .ref rw)]) hx hb dX6_minute_150 hl (k := 4) rfl (nI_add i_1 1) (by decide) rfl (fun ls hl => ?_)
                  refine lv_goto (tgt := 2) hx hb dX6_minute_153 (by decide) ?_
                  exact ih2 ((i_1 + 1)) f_2 H locs ls (by omega) rk_3 hP hD hS (lv_sub hl [0, 5] rfl)
                · skip
                  refine lv_aload_n hx hb dX6_minute_125 rfl (lv_at hl 5 rfl) ?_
                  refine lv_iconst (v := 5) hx hb dX6_minute_126 (by decide) ?_
                  refine lv_iconst (v := 2) hx hb dX6_minute_127 (by decide) ?_
                  refine lv_iload_n hx hb dX6_minute_128 rfl (lv_at hl 3 rfl) ?_
                  refine lv_imul hx hb dX6_minute_129 ?_
                  refine wt_top (z := nI (2 * q_34)) (pk_mul 2 q_34) ?_
                  refine lv_iadd hx hb dX6_minute_130 ?_
                  refine wt_top (z := nI (5 + (2 * q_34))) (nI_add 5 (2 * q_34)) ?_
                  refine lv_dup2_11 hx hb dX6_minute_131 rfl rfl ?_
                  refine va_iald hx hb hK.1 hP 0 0 rfl rfl (vp_in_nI (by omega) (by omega)) dX6_minute_132 ?_
                  refine lv_topi (fun ov_153 _ => ?_)
                  refine lv_iload_n hx hb dX6_minute_133 rfl (lv_at hl 0 rfl) ?_
                  refine lv_isub hx hb dX6_minute_134 ?_
                  refine lv_topi (fun ov_154 _ => ?_)
                  refine va_iast hx hb hK.1 hP hD hS 0 0 rfl rfl (vp_in_nI (by omega) (by omega)) dX6_minute_135 (fun H locs hP hD hS => ?_)
                  have hP : va_P D vwCl [(rw, .inl (cI, 45, .inl (upd f_2 ((nI (5 + (2 * q_34))).toNatClampNeg) ov_154)))] H := hP
                  have hD : va_D A [(rw, .inl (cI, 45, .inl (upd f_2 ((nI (5 + (2 * q_34))).toNatClampNeg) ov_154)))] := hD
                  have rk_155 : rq K P R T (upd f_2 ((nI (5 + (2 * q_34))).toNatClampNeg) ov_154) := rq_upd (k := (5 + (2 * q_34))) rk_3 (nI_clamp (by omega)) (by omega) _
                  generalize upd f_2 ((nI (5 + (2 * q_34))).toNatClampNeg) ov_154 = rf_156 at hP hD rk_155
                  refine lv_aload_n hx hb dX6_minute_136 rfl (lv_at hl 5 rfl) ?_
                  refine lv_iload_n hx hb dX6_minute_137 rfl (lv_at hl 4 rfl) ?_
                  refine lv_iconst (v := 4) hx hb dX6_minute_138 (by decide) ?_
                  refine lv_aload_n hx hb dX6_minute_139 rfl (lv_at hl 5 rfl) ?_
                  refine lv_iload_n hx hb dX6_minute_140 rfl (lv_at hl 4 rfl) ?_
                  refine lv_iconst (v := 4) hx hb dX6_minute_141 (by decide) ?_
                  refine wt_rS (As := [.ref rw, .int (nI i_1), .int 4]) (rest := [.int 4, .int (nI i_1), .ref rw]) ⟨hx, hb, hml, hown, hts⟩ (c_X6_of_w l D cI cZ cH rw R T rf_156 i_1 4 (by first | assumption | omega) (by first | assumption | omega) (by first | assumption | exact rq_rk (by assumption)) (by first | assumption | omega) (by first | assumption | omega)) (va_cwS 3 hts gX6_minute_X6_of rfl rfl rfl (by decide +kernel) ⟨Nat.le_of_ble_eq_true rfl, Nat.le_of_ble_eq_true rfl⟩) hK hP [0] rfl rfl hl.1 rfl (Nat.le_of_ble_eq_true rfl) dX6_minute_142 ⟨Nat.le_of_ble_eq_true rfl, Nat.le_of_ble_eq_true rfl⟩ (fun r_157 e_158 => ?_)
                  refine lv_iload_n hx hb dX6_minute_145 rfl (lv_at hl 0 rfl) ?_
                  refine lv_iadd hx hb dX6_minute_146 ?_
                  refine lv_topi (fun ov_159 _ => ?_)
                  refine wt_goV (wr := []) (wt_runS (As := [.ref rw, .int (nI i_1), .int 4, .int ov_159]) (rest := []) ⟨hx, hb, hml, hown, hts⟩ (c_X6_be_4q l D cI cZ cH rw R T rf_156 K P i_1 ov_159 (by first | assumption | omega) (by first | assumption | omega) (by assumption) (by first | assumption | omega)) (va_cwS 4 hts gX6_minute_X6_be rfl rfl rfl (by decide +kernel) ⟨Nat.le_of_ble_eq_true rfl, Nat.le_of_ble_eq_true rfl⟩) hK hP hD [0] rfl (by decide) rfl hl.1 rfl (Nat.le_of_ble_eq_true rfl) dX6_minute_147 ⟨Nat.le_of_ble_eq_true rfl, Nat.le_of_ble_eq_true rfl⟩) hP hD hS hA [0] [] rfl rfl (by decide) (by decide) (fun w_161 H locs h_162 hP hD hS => ?_)
                  obtain ⟨f2_163, rfl, x_164⟩ := h_162
                  have hP : va_P D vwCl [(rw, .inl (cI, 45, .inl f2_163))] H := hP
                  have hD : va_D A [(rw, .inl (cI, 45, .inl f2_163))] := hD
                  refine lv_iinc (v := nI (i_1 + 1)) (lv' := [(1, .int (nI (i_1 + 1))), (3, .int ov_117), (5, .int r_121), (4, .int ov_117), (2, .int (nI q_34)), (0, .ref rw)]) hx hb dX6_minute_150 hl (k := 4) rfl (nI_add i_1 1) (by decide) rfl (fun ls hl => ?_)
                  refine lv_goto (tgt := 2) hx hb dX6_minute_153 (by decide) ?_
                  exact ih2 ((i_1 + 1)) f2_163 H locs ls (by omega) x_164 hP hD hS (lv_sub hl [0, 5] rfl)
              · skip
                refine lv_iload hx hb dX6_minute_114 (lv_at hl 1 rfl) ?_
                refine lv_goto (tgt := 120) hx hb dX6_minute_116 (by decide) ?_
                refine lv_istore_n (lv' := [(3, .int r_121), (5, .int r_121), (4, .int ov_117), (2, .int (nI q_34)), (1, .int (nI i_1)), (0, .ref rw)]) hx hb dX6_minute_120 rfl hl (by decide) rfl (fun ls hl => ?_)
                refine lv_iload_n hx hb dX6_minute_121 rfl (lv_at hl 0 rfl) ?_
                refine lv_if_le (tgt := 150) hx hb dX6_minute_122 (by decide) (fun c_165 => ?_) (fun c_165 => ?_)
                · skip
                  refine lv_iinc (v := nI (i_1 + 1)) (lv' := [(1, .int (nI (i_1 + 1))), (3, .int r_121), (5, .int r_121), (4, .int ov_117), (2, .int (nI q_34)), (0, .ref rw)]) hx hb dX6_minute_150 hl (k := 4) rfl (nI_add i_1 1) (by decide) rfl (fun ls hl => ?_)
                  refine lv_goto (tgt := 2) hx hb dX6_minute_153 (by decide) ?_
                  exact ih2 ((i_1 + 1)) f_2 H locs ls (by omega) rk_3 hP hD hS (lv_sub hl [0, 5] rfl)
                · skip
                  refine lv_aload_n hx hb dX6_minute_125 rfl (lv_at hl 5 rfl) ?_
                  refine lv_iconst (v := 5) hx hb dX6_minute_126 (by decide) ?_
                  refine lv_iconst (v := 2) hx hb dX6_minute_127 (by decide) ?_
                  refine lv_iload_n hx hb dX6_minute_128 rfl (lv_at hl 3 rfl) ?_
                  refine lv_imul hx hb dX6_minute_129 ?_
                  refine wt_top (z := nI (2 * q_34)) (pk_mul 2 q_34) ?_
                  refine lv_iadd hx hb dX6_minute_130 ?_
                  refine wt_top (z := nI (5 + (2 * q_34))) (nI_add 5 (2 * q_34)) ?_
                  refine lv_dup2_11 hx hb dX6_minute_131 rfl rfl ?_
                  refine va_iald hx hb hK.1 hP 0 0 rfl rfl (vp_in_nI (by omega) (by omega)) dX6_minute_132 ?_
                  refine lv_topi (fun ov_166 _ => ?_)
                  refine lv_iload_n hx hb dX6_minute_133 rfl (lv_at hl 0 rfl) ?_
                  refine lv_isub hx hb dX6_minute_134 ?_
                  refine lv_topi (fun ov_167 _ => ?_)
                  refine va_iast hx hb hK.1 hP hD hS 0 0 rfl rfl (vp_in_nI (by omega) (by omega)) dX6_minute_135 (fun H locs hP hD hS => ?_)
                  have hP : va_P D vwCl [(rw, .inl (cI, 45, .inl (upd f_2 ((nI (5 + (2 * q_34))).toNatClampNeg) ov_167)))] H := hP
                  have hD : va_D A [(rw, .inl (cI, 45, .inl (upd f_2 ((nI (5 + (2 * q_34))).toNatClampNeg) ov_167)))] := hD
                  have rk_168 : rq K P R T (upd f_2 ((nI (5 + (2 * q_34))).toNatClampNeg) ov_167) := rq_upd (k := (5 + (2 * q_34))) rk_3 (nI_clamp (by omega)) (by omega) _
                  generalize upd f_2 ((nI (5 + (2 * q_34))).toNatClampNeg) ov_167 = rf_169 at hP hD rk_168
                  refine lv_aload_n hx hb dX6_minute_136 rfl (lv_at hl 5 rfl) ?_
                  refine lv_iload_n hx hb dX6_minute_137 rfl (lv_at hl 4 rfl) ?_
                  refine lv_iconst (v := 4) hx hb dX6_minute_138 (by decide) ?_
                  refine lv_aload_n hx hb dX6_minute_139 rfl (lv_at hl 5 rfl) ?_
                  refine lv_iload_n hx hb dX6_minute_140 rfl (lv_at hl 4 rfl) ?_
                  refine lv_iconst (v := 4) hx hb dX6_minute_141 (by decide) ?_
                  refine wt_rS (As := [.ref rw, .int (nI i_1), .int 4]) (rest := [.int 4, .int (nI i_1), .ref rw]) ⟨hx, hb, hml, hown, hts⟩ (c_X6_of_w l D cI cZ cH rw R T rf_169 i_1 4 (by first | assumption | omega) (by first | assumption | omega) (by first | assumption | exact rq_rk (by assumption)) (by first | assumption | omega) (by first | assumption | omega)) (va_cwS 3 hts gX6_minute_X6_of rfl rfl rfl (by decide +kernel) ⟨Nat.le_of_ble_eq_true rfl, Nat.le_of_ble_eq_true rfl⟩) hK hP [0] rfl rfl hl.1 rfl (Nat.le_of_ble_eq_true rfl) dX6_minute_142 ⟨Nat.le_of_ble_eq_true rfl, Nat.le_of_ble_eq_true rfl⟩ (fun r_170 e_171 => ?_)
                  refine lv_iload_n hx hb dX6_minute_145 rfl (lv_at hl 0 rfl) ?_
                  refine lv_iadd hx hb dX6_minute_146 ?_
                  refine lv_topi (fun ov_172 _ => ?_)
                  refine wt_goV (wr := []) (wt_runS (As := [.ref rw, .int (nI i_1), .int 4, .int ov_172]) (rest := []) ⟨hx, hb, hml, hown, hts⟩ (c_X6_be_4q l D cI cZ cH rw R T rf_169 K P i_1 ov_172 (by first | assumption | omega) (by first | assumption | omega) (by assumption) (by first | assumption | omega)) (va_cwS 4 hts gX6_minute_X6_be rfl rfl rfl (by decide +kernel) ⟨Nat.le_of_ble_eq_true rfl, Nat.le_of_ble_eq_true rfl⟩) hK hP hD [0] rfl (by decide) rfl hl.1 rfl (Nat.le_of_ble_eq_true rfl) dX6_minute_147 ⟨Nat.le_of_ble_eq_true rfl, Nat.le_of_ble_eq_true rfl⟩) hP hD hS hA [0] [] rfl rfl (by decide) (by decide) (fun w_174 H locs h_175 hP hD hS => ?_)
                  obtain ⟨f2_176, rfl, x_177⟩ := h_175
                  have hP : va_P D vwCl [(rw, .inl (cI, 45, .inl f2_176))] H := hP
                  have hD : va_D A [(rw, .inl (cI, 45, .inl f2_176))] := hD
                  refine lv_iinc (v := nI (i_1 + 1)) (lv' := [(1, .int (nI (i_1 + 1))), (3, .int r_121), (5, .int r_121), (4, .int ov_117), (2, .int (nI q_34)), (0, .ref rw)]) hx hb dX6_minute_150 hl (k := 4) rfl (nI_add i_1 1) (by decide) rfl (fun ls hl => ?_)
                  refine lv_goto (tgt := 2) hx hb dX6_minute_153 (by decide) ?_
                  exact ih2 ((i_1 + 1)) f2_176 H locs ls (by omega) x_177 hP hD hS (lv_sub hl [0, 5] rfl)
          · skip
            refine lv_iconst (v := 0) hx hb dX6_minute_84 (by decide) ?_
            refine lv_goto (tgt := 93) hx hb dX6_minute_85 (by decide) ?_
            refine lv_istore (lv' := [(5, .int 0), (4, .int ov_117), (3, .int r_111), (2, .int (nI q_34)), (1, .int (nI i_1)), (0, .ref rw)]) hx hb dX6_minute_93 hl (by decide) rfl (fun ls hl => ?_)
            refine lv_iload_n hx hb dX6_minute_95 rfl (lv_at hl 2 rfl) ?_
            refine lv_iload hx hb dX6_minute_96 (lv_at hl 1 rfl) ?_
            refine lv_icmp_le (tgt := 106) hx hb dX6_minute_98 (by decide) (fun c_178 => ?_) (fun c_178 => ?_)
            · skip
              refine lv_iload_n hx hb dX6_minute_106 rfl (lv_at hl 2 rfl) ?_
              refine lv_istore_n (lv' := [(3, .int r_111), (5, .int 0), (4, .int ov_117), (2, .int (nI q_34)), (1, .int (nI i_1)), (0, .ref rw)]) hx hb dX6_minute_107 rfl hl (by decide) rfl (fun ls hl => ?_)
              refine lv_iload_n hx hb dX6_minute_108 rfl (lv_at hl 0 rfl) ?_
              refine lv_iload hx hb dX6_minute_109 (lv_at hl 1 rfl) ?_
              refine lv_icmp_le (tgt := 119) hx hb dX6_minute_111 (by decide) (fun c_179 => ?_) (fun c_179 => ?_)
              · skip
                refine lv_iload_n hx hb dX6_minute_119 rfl (lv_at hl 0 rfl) ?_
                refine lv_istore_n (lv' := [(3, .int r_111), (5, .int 0), (4, .int ov_117), (2, .int (nI q_34)), (1, .int (nI i_1)), (0, .ref rw)]) hx hb dX6_minute_120 rfl hl (by decide) rfl (fun ls hl => ?_)
                refine lv_iload_n hx hb dX6_minute_121 rfl (lv_at hl 0 rfl) ?_
                refine lv_if_le (tgt := 150) hx hb dX6_minute_122 (by decide) (fun _ => ?_) (fun h => absurd c_179 h)
                refine lv_iinc (v := nI (i_1 + 1)) (lv' := [(1, .int (nI (i_1 + 1))), (3, .int r_111), (5, .int 0), (4, .int ov_117), (2, .int (nI q_34)), (0, .ref rw)]) hx hb dX6_minute_150 hl (k := 4) rfl (nI_add i_1 1) (by decide) rfl (fun ls hl => ?_)
                refine lv_goto (tgt := 2) hx hb dX6_minute_153 (by decide) ?_
                exact ih2 ((i_1 + 1)) f_2 H locs ls (by omega) rk_3 hP hD hS (lv_sub hl [0, 5] rfl)
              · skip
                refine lv_iload hx hb dX6_minute_114 (lv_at hl 1 rfl) ?_
                refine lv_goto (tgt := 120) hx hb dX6_minute_116 (by decide) ?_
                refine lv_istore_n (lv' := [(3, .int 0), (5, .int 0), (4, .int ov_117), (2, .int (nI q_34)), (1, .int (nI i_1)), (0, .ref rw)]) hx hb dX6_minute_120 rfl hl (by decide) rfl (fun ls hl => ?_)
                refine lv_iload_n hx hb dX6_minute_121 rfl (lv_at hl 0 rfl) ?_
                refine lv_if_le (tgt := 150) hx hb dX6_minute_122 (by decide) (fun _ => ?_) (fun h => absurd h (by decide))
                refine lv_iinc (v := nI (i_1 + 1)) (lv' := [(1, .int (nI (i_1 + 1))), (3, .int 0), (5, .int 0), (4, .int ov_117), (2, .int (nI q_34)), (0, .ref rw)]) hx hb dX6_minute_150 hl (k := 4) rfl (nI_add i_1 1) (by decide) rfl (fun ls hl => ?_)
                refine lv_goto (tgt := 2) hx hb dX6_minute_153 (by decide) ?_
                exact ih2 ((i_1 + 1)) f_2 H locs ls (by omega) rk_3 hP hD hS (lv_sub hl [0, 5] rfl)
            · skip
              refine lv_iload hx hb dX6_minute_101 (lv_at hl 1 rfl) ?_
              refine lv_goto (tgt := 107) hx hb dX6_minute_103 (by decide) ?_
              refine lv_istore_n (lv' := [(3, .int ov_117), (5, .int 0), (4, .int ov_117), (2, .int (nI q_34)), (1, .int (nI i_1)), (0, .ref rw)]) hx hb dX6_minute_107 rfl hl (by decide) rfl (fun ls hl => ?_)
              refine lv_iload_n hx hb dX6_minute_108 rfl (lv_at hl 0 rfl) ?_
              refine lv_iload hx hb dX6_minute_109 (lv_at hl 1 rfl) ?_
              refine lv_icmp_le (tgt := 119) hx hb dX6_minute_111 (by decide) (fun c_180 => ?_) (fun c_180 => ?_)
              · skip
                refine lv_iload_n hx hb dX6_minute_119 rfl (lv_at hl 0 rfl) ?_
                refine lv_istore_n (lv' := [(3, .int ov_117), (5, .int 0), (4, .int ov_117), (2, .int (nI q_34)), (1, .int (nI i_1)), (0, .ref rw)]) hx hb dX6_minute_120 rfl hl (by decide) rfl (fun ls hl => ?_)
                refine lv_iload_n hx hb dX6_minute_121 rfl (lv_at hl 0 rfl) ?_
                refine lv_if_le (tgt := 150) hx hb dX6_minute_122 (by decide) (fun _ => ?_) (fun h => absurd c_180 h)
                refine lv_iinc (v := nI (i_1 + 1)) (lv' := [(1, .int (nI (i_1 + 1))), (3, .int ov_117), (5, .int 0), (4, .int ov_117), (2, .int (nI q_34)), (0, .ref rw)]) hx hb dX6_minute_150 hl (k := 4) rfl (nI_add i_1 1) (by decide) rfl (fun ls hl => ?_)
                refine lv_goto (tgt := 2) hx hb dX6_minute_153 (by decide) ?_
                exact ih2 ((i_1 + 1)) f_2 H locs ls (by omega) rk_3 hP hD hS (lv_sub hl [0, 5] rfl)
              · skip
                refine lv_iload hx hb dX6_minute_114 (lv_at hl 1 rfl) ?_
                refine lv_goto (tgt := 120) hx hb dX6_minute_116 (by decide) ?_
                refine lv_istore_n (lv' := [(3, .int 0), (5, .int 0), (4, .int ov_117), (2, .int (nI q_34)), (1, .int (nI i_1)), (0, .ref rw)]) hx hb dX6_minute_120 rfl hl (by decide) rfl (fun ls hl => ?_)
                refine lv_iload_n hx hb dX6_minute_121 rfl (lv_at hl 0 rfl) ?_
                refine lv_if_le (tgt := 150) hx hb dX6_minute_122 (by decide) (fun _ => ?_) (fun h => absurd h (by decide))
                refine lv_iinc (v := nI (i_1 + 1)) (lv' := [(1, .int (nI (i_1 + 1))), (3, .int 0), (5, .int 0), (4, .int ov_117), (2, .int (nI q_34)), (0, .ref rw)]) hx hb dX6_minute_150 hl (k := 4) rfl (nI_add i_1 1) (by decide) rfl (fun ls hl => ?_)
                refine lv_goto (tgt := 2) hx hb dX6_minute_153 (by decide) ?_
                exact ih2 ((i_1 + 1)) f_2 H locs ls (by omega) rk_3 hP hD hS (lv_sub hl [0, 5] rfl)
        · skip
          refine lv_aload_n hx hb dX6_minute_35 rfl (lv_at hl 2 rfl) ?_
          refine lv_iload_n hx hb dX6_minute_36 rfl (lv_at hl 1 rfl) ?_
          refine lv_iconst (v := 4) hx hb dX6_minute_37 (by decide) ?_
          refine lv_aload_n hx hb dX6_minute_38 rfl (lv_at hl 2 rfl) ?_
          refine lv_iload_n hx hb dX6_minute_39 rfl (lv_at hl 1 rfl) ?_
          refine lv_iconst (v := 4) hx hb dX6_minute_40 (by decide) ?_
          refine wt_rS (As := [.ref rw, .int (nI i_1), .int 4]) (rest := [.int 4, .int (nI i_1), .ref rw]) ⟨hx, hb, hml, hown, hts⟩ (c_X6_of_w l D cI cZ cH rw R T f_2 i_1 4 (by first | assumption | omega) (by first | assumption | omega) (by first | assumption | exact rq_rk (by assumption)) (by first | assumption | omega) (by first | assumption | omega)) (va_cwS 3 hts gX6_minute_X6_of rfl rfl rfl (by decide +kernel) ⟨Nat.le_of_ble_eq_true rfl, Nat.le_of_ble_eq_true rfl⟩) hK hP [0] rfl rfl hl.1 rfl (Nat.le_of_ble_eq_true rfl) dX6_minute_41 ⟨Nat.le_of_ble_eq_true rfl, Nat.le_of_ble_eq_true rfl⟩ (fun r_181 e_182 => ?_)
          refine lv_iconst (v := 1) hx hb dX6_minute_44 (by decide) ?_
          refine lv_isub hx hb dX6_minute_45 ?_
          refine lv_topi (fun ov_183 _ => ?_)
          refine wt_goV (wr := []) (wt_runS (As := [.ref rw, .int (nI i_1), .int 4, .int ov_183]) (rest := []) ⟨hx, hb, hml, hown, hts⟩ (c_X6_be_4q l D cI cZ cH rw R T f_2 K P i_1 ov_183 (by first | assumption | omega) (by first | assumption | omega) (by assumption) (by first | assumption | omega)) (va_cwS 4 hts gX6_minute_X6_be rfl rfl rfl (by decide +kernel) ⟨Nat.le_of_ble_eq_true rfl, Nat.le_of_ble_eq_true rfl⟩) hK hP hD [0] rfl (by decide) rfl hl.1 rfl (Nat.le_of_ble_eq_true rfl) dX6_minute_46 ⟨Nat.le_of_ble_eq_true rfl, Nat.le_of_ble_eq_true rfl⟩) hP hD hS hA [0] [] rfl rfl (by decide) (by decide) (fun w_185 H locs h_186 hP hD hS => ?_)
          obtain ⟨f2_187, rfl, x_188⟩ := h_186
          have hP : va_P D vwCl [(rw, .inl (cI, 45, .inl f2_187))] H := hP
          have hD : va_D A [(rw, .inl (cI, 45, .inl f2_187))] := hD
          refine lv_aload_n hx hb dX6_minute_49 rfl (lv_at hl 2 rfl) ?_
          refine lv_iload_n hx hb dX6_minute_50 rfl (lv_at hl 0 rfl) ?_
          refine lv_iconst (v := 1) hx hb dX6_minute_51 (by decide) ?_
          refine wt_goV (wr := []) (wt_runS (As := [.ref rw, .int (nI q_34), .int 1]) (rest := []) ⟨hx, hb, hml, hown, hts⟩ (c_X6_gives_q l D cI cZ cH rw R T f2_187 K P q_34 1 (by first | assumption | omega) (by first | assumption | omega) (by assumption) (by first | assumption | omega)) (va_cwS 3 hts gX6_minute_X6_gives rfl rfl rfl (by decide +kernel) ⟨Nat.le_of_ble_eq_true rfl, Nat.le_of_ble_eq_true rfl⟩) hK hP hD [0] rfl (by decide) rfl hl.1 rfl (Nat.le_of_ble_eq_true rfl) dX6_minute_52 ⟨Nat.le_of_ble_eq_true rfl, Nat.le_of_ble_eq_true rfl⟩) hP hD hS hA [0] [] rfl rfl (by decide) (by decide) (fun w_190 H locs h_191 hP hD hS => ?_)
          obtain ⟨f2_192, rfl, x_193⟩ := h_191
          have hP : va_P D vwCl [(rw, .inl (cI, 45, .inl f2_192))] H := hP
          have hD : va_D A [(rw, .inl (cI, 45, .inl f2_192))] := hD
          refine lv_aload_n hx hb dX6_minute_55 rfl (lv_at hl 2 rfl) ?_
          refine lv_iload_n hx hb dX6_minute_56 rfl (lv_at hl 1 rfl) ?_
          refine wt_rS (As := [.ref rw, .int (nI i_1)]) (rest := []) ⟨hx, hb, hml, hown, hts⟩ (c_X6_wants l D cI cZ cH rw R T f2_192 i_1 (by first | assumption | omega) (by first | assumption | omega) (by first | assumption | exact rq_rk (by assumption)) (by first | assumption | omega)) (va_cwS 2 hts gX6_minute_X6_wants rfl rfl rfl (by decide +kernel) ⟨Nat.le_of_ble_eq_true rfl, Nat.le_of_ble_eq_true rfl⟩) hK hP [0] rfl rfl hl.1 rfl (Nat.le_of_ble_eq_true rfl) dX6_minute_57 ⟨Nat.le_of_ble_eq_true rfl, Nat.le_of_ble_eq_true rfl⟩ (fun r_194 e_195 => ?_)
          refine lv_istore_n (lv' := [(3, .int r_194), (2, .int (nI q_34)), (1, .int (nI i_1)), (0, .ref rw)]) hx hb dX6_minute_60 rfl hl (by decide) rfl (fun ls hl => ?_)
          refine lv_aload_n hx hb dX6_minute_61 rfl (lv_at hl 3 rfl) ?_
          refine lv_iload_n hx hb dX6_minute_62 rfl (lv_at hl 2 rfl) ?_
          refine lv_iconst (v := 3) hx hb dX6_minute_63 (by decide) ?_
          refine wt_rS (As := [.ref rw, .int (nI i_1), .int 3]) (rest := []) ⟨hx, hb, hml, hown, hts⟩ (c_X6_of_w l D cI cZ cH rw R T f2_192 i_1 3 (by first | assumption | omega) (by first | assumption | omega) (by first | assumption | exact rq_rk (by assumption)) (by first | assumption | omega) (by first | assumption | omega)) (va_cwS 3 hts gX6_minute_X6_of rfl rfl rfl (by decide +kernel) ⟨Nat.le_of_ble_eq_true rfl, Nat.le_of_ble_eq_true rfl⟩) hK hP [0] rfl rfl hl.1 rfl (Nat.le_of_ble_eq_true rfl) dX6_minute_64 ⟨Nat.le_of_ble_eq_true rfl, Nat.le_of_ble_eq_true rfl⟩ (fun r_196 e_197 => ?_)
          refine lv_aload_n hx hb dX6_minute_67 rfl (lv_at hl 3 rfl) ?_
          refine lv_iload_n hx hb dX6_minute_68 rfl (lv_at hl 2 rfl) ?_
          refine lv_iconst (v := 4) hx hb dX6_minute_69 (by decide) ?_
          refine wt_rS (As := [.ref rw, .int (nI i_1), .int 4]) (rest := [.int r_196]) ⟨hx, hb, hml, hown, hts⟩ (c_X6_of_w l D cI cZ cH rw R T f2_192 i_1 4 (by first | assumption | omega) (by first | assumption | omega) (by first | assumption | exact rq_rk (by assumption)) (by first | assumption | omega) (by first | assumption | omega)) (va_cwS 3 hts gX6_minute_X6_of rfl rfl rfl (by decide +kernel) ⟨Nat.le_of_ble_eq_true rfl, Nat.le_of_ble_eq_true rfl⟩) hK hP [0] rfl rfl hl.1 rfl (Nat.le_of_ble_eq_true rfl) dX6_minute_70 ⟨Nat.le_of_ble_eq_true rfl, Nat.le_of_ble_eq_true rfl⟩ (fun r_198 e_199 => ?_)
          refine lv_isub hx hb dX6_minute_73 ?_
          refine lv_topi (fun ov_200 _ => ?_)
          refine lv_istore (lv' := [(4, .int ov_200), (3, .int r_194), (2, .int (nI q_34)), (1, .int (nI i_1)), (0, .ref rw)]) hx hb dX6_minute_74 hl (by decide) rfl (fun ls hl => ?_)
          refine lv_aload_n hx hb dX6_minute_76 rfl (lv_at hl 4 rfl) ?_
          refine lv_iload_n hx hb dX6_minute_77 rfl (lv_at hl 3 rfl) ?_
          refine wt_rS (As := [.ref rw, .int (nI i_1)]) (rest := []) ⟨hx, hb, hml, hown, hts⟩ (c_X6_isOut_q l D cI cZ cH rw R T f2_192 K P i_1 (by first | assumption | omega) (by first | assumption | omega) (by assumption) (by first | assumption | omega)) (va_cwS 2 hts gX6_minute_X6_isOut rfl rfl rfl (by decide +kernel) ⟨Nat.le_of_ble_eq_true rfl, Nat.le_of_ble_eq_true rfl⟩) hK hP [0] rfl rfl hl.1 rfl (Nat.le_of_ble_eq_true rfl) dX6_minute_78 ⟨Nat.le_of_ble_eq_true rfl, Nat.le_of_ble_eq_true rfl⟩ (fun r_201 e_202 => ?_)
          refine lv_if_eq (tgt := 88) hx hb dX6_minute_81 (by decide) (fun c_203 => ?_) (fun c_203 => ?_)
          · skip
            have hlt : q_34 < R := rq_lt eq_34 e_33 hR5 (e_202 c_203)
            refine lv_aload_n hx hb dX6_minute_88 rfl (lv_at hl 4 rfl) ?_
            refine lv_iload_n hx hb dX6_minute_89 rfl (lv_at hl 2 rfl) ?_
            refine wt_rS (As := [.ref rw, .int (nI q_34)]) (rest := []) ⟨hx, hb, hml, hown, hts⟩ (c_X6_warmth l D cI cZ cH rw R T f2_192 q_34 (by first | assumption | omega) (by first | assumption | omega) (by first | assumption | exact rq_rk (by assumption)) (by first | assumption | omega)) (va_cwS 2 hts gX6_minute_X6_warmth rfl rfl rfl (by decide +kernel) ⟨Nat.le_of_ble_eq_true rfl, Nat.le_of_ble_eq_true rfl⟩) hK hP [0] rfl rfl hl.1 rfl (Nat.le_of_ble_eq_true rfl) dX6_minute_90 ⟨Nat.le_of_ble_eq_true rfl, Nat.le_of_ble_eq_true rfl⟩ (fun r_204 e_205 => ?_)
            refine lv_istore (lv' := [(5, .int r_204), (4, .int ov_200), (3, .int r_194), (2, .int (nI q_34)), (1, .int (nI i_1)), (0, .ref rw)]) hx hb dX6_minute_93 hl (by decide) rfl (fun ls hl => ?_)
            refine lv_iload_n hx hb dX6_minute_95 rfl (lv_at hl 2 rfl) ?_
            refine lv_iload hx hb dX6_minute_96 (lv_at hl 1 rfl) ?_
            refine lv_icmp_le (tgt := 106) hx hb dX6_minute_98 (by decide) (fun c_206 => ?_) (fun c_206 => ?_)
            · skip
              refine lv_iload_n hx hb dX6_minute_106 rfl (lv_at hl 2 rfl) ?_
              refine lv_istore_n (lv' := [(3, .int r_194), (5, .int r_204), (4, .int ov_200), (2, .int (nI q_34)), (1, .int (nI i_1)), (0, .ref rw)]) hx hb dX6_minute_107 rfl hl (by decide) rfl (fun ls hl => ?_)
              refine lv_iload_n hx hb dX6_minute_108 rfl (lv_at hl 0 rfl) ?_
              refine lv_iload hx hb dX6_minute_109 (lv_at hl 1 rfl) ?_
              refine lv_icmp_le (tgt := 119) hx hb dX6_minute_111 (by decide) (fun c_207 => ?_) (fun c_207 => ?_)
              · skip
                refine lv_iload_n hx hb dX6_minute_119 rfl (lv_at hl 0 rfl) ?_
                refine lv_istore_n (lv' := [(3, .int r_194), (5, .int r_204), (4, .int ov_200), (2, .int (nI q_34)), (1, .int (nI i_1)), (0, .ref rw)]) hx hb dX6_minute_120 rfl hl (by decide) rfl (fun ls hl => ?_)
                refine lv_iload_n hx hb dX6_minute_121 rfl (lv_at hl 0 rfl) ?_
                refine lv_if_le (tgt := 150) hx hb dX6_minute_122 (by decide) (fun c_208 => ?_) (fun c_208 => ?_)
                · skip
                  refine lv_iinc (v := nI (i_1 + 1)) (lv' := [(1, .int (nI (i_1 + 1))), (3, .int r_194), (5, .int r_204), (4, .int ov_200), (2, .int (nI q_34)), (0, .ref rw)]) hx hb dX6_minute_150 hl (k := 4) rfl (nI_add i_1 1) (by decide) rfl (fun ls hl => ?_)
                  refine lv_goto (tgt := 2) hx hb dX6_minute_153 (by decide) ?_
                  exact ih2 ((i_1 + 1)) f2_192 H locs ls (by omega) x_193 hP hD hS (lv_sub hl [0, 5] rfl)
                · skip
                  refine lv_aload_n hx hb dX6_minute_125 rfl (lv_at hl 5 rfl) ?_
                  refine lv_iconst (v := 5) hx hb dX6_minute_126 (by decide) ?_
                  refine lv_iconst (v := 2) hx hb dX6_minute_127 (by decide) ?_
                  refine lv_iload_n hx hb dX6_minute_128 rfl (lv_at hl 3 rfl) ?_
                  refine lv_imul hx hb dX6_minute_129 ?_
                  refine wt_top (z := nI (2 * q_34)) (pk_mul 2 q_34) ?_
                  refine lv_iadd hx hb dX6_minute_130 ?_
                  refine wt_top (z := nI (5 + (2 * q_34))) (nI_add 5 (2 * q_34)) ?_
                  refine lv_dup2_11 hx hb dX6_minute_131 rfl rfl ?_
                  refine va_iald hx hb hK.1 hP 0 0 rfl rfl (vp_in_nI (by omega) (by omega)) dX6_minute_132 ?_
                  refine lv_topi (fun ov_209 _ => ?_)
                  refine lv_iload_n hx hb dX6_minute_133 rfl (lv_at hl 0 rfl) ?_
                  refine lv_isub hx hb dX6_minute_134 ?_
                  refine lv_topi (fun ov_210 _ => ?_)
                  refine va_iast hx hb hK.1 hP hD hS 0 0 rfl rfl (vp_in_nI (by omega) (by omega)) dX6_minute_135 (fun H locs hP hD hS => ?_)
                  have hP : va_P D vwCl [(rw, .inl (cI, 45, .inl (upd f2_192 ((nI (5 + (2 * q_34))).toNatClampNeg) ov_210)))] H := hP
                  have hD : va_D A [(rw, .inl (cI, 45, .inl (upd f2_192 ((nI (5 + (2 * q_34))).toNatClampNeg) ov_210)))] := hD
                  have rk_211 : rq K P R T (upd f2_192 ((nI (5 + (2 * q_34))).toNatClampNeg) ov_210) := rq_upd (k := (5 + (2 * q_34))) x_193 (nI_clamp (by omega)) (by omega) _
                  generalize upd f2_192 ((nI (5 + (2 * q_34))).toNatClampNeg) ov_210 = rf_212 at hP hD rk_211
                  refine lv_aload_n hx hb dX6_minute_136 rfl (lv_at hl 5 rfl) ?_
                  refine lv_iload_n hx hb dX6_minute_137 rfl (lv_at hl 4 rfl) ?_
                  refine lv_iconst (v := 4) hx hb dX6_minute_138 (by decide) ?_
                  refine lv_aload_n hx hb dX6_minute_139 rfl (lv_at hl 5 rfl) ?_
                  refine lv_iload_n hx hb dX6_minute_140 rfl (lv_at hl 4 rfl) ?_
                  refine lv_iconst (v := 4) hx hb dX6_minute_141 (by decide) ?_
                  refine wt_rS (As := [.ref rw, .int (nI i_1), .int 4]) (rest := [.int 4, .int (nI i_1), .ref rw]) ⟨hx, hb, hml, hown, hts⟩ (c_X6_of_w l D cI cZ cH rw R T rf_212 i_1 4 (by first | assumption | omega) (by first | assumption | omega) (by first | assumption | exact rq_rk (by assumption)) (by first | assumption | omega) (by first | assumption | omega)) (va_cwS 3 hts gX6_minute_X6_of rfl rfl rfl (by decide +kernel) ⟨Nat.le_of_ble_eq_true rfl, Nat.le_of_ble_eq_true rfl⟩) hK hP [0] rfl rfl hl.1 rfl (Nat.le_of_ble_eq_true rfl) dX6_minute_142 ⟨Nat.le_of_ble_eq_true rfl, Nat.le_of_ble_eq_true rfl⟩ (fun r_213 e_214 => ?_)
                  refine lv_iload_n hx hb dX6_minute_145 rfl (lv_at hl 0 rfl) ?_
                  refine lv_iadd hx hb dX6_minute_146 ?_
                  refine lv_topi (fun ov_215 _ => ?_)
                  refine wt_goV (wr := []) (wt_runS (As := [.ref rw, .int (nI i_1), .int 4, .int ov_215]) (rest := []) ⟨hx, hb, hml, hown, hts⟩ (c_X6_be_4q l D cI cZ cH rw R T rf_212 K P i_1 ov_215 (by first | assumption | omega) (by first | assumption | omega) (by assumption) (by first | assumption | omega)) (va_cwS 4 hts gX6_minute_X6_be rfl rfl rfl (by decide +kernel) ⟨Nat.le_of_ble_eq_true rfl, Nat.le_of_ble_eq_true rfl⟩) hK hP hD [0] rfl (by decide) rfl hl.1 rfl (Nat.le_of_ble_eq_true rfl) dX6_minute_147 ⟨Nat.le_of_ble_eq_true rfl, Nat.le_of_ble_eq_true rfl⟩) hP hD hS hA [0] [] rfl rfl (by decide) (by decide) (fun w_217 H locs h_218 hP hD hS => ?_)
                  obtain ⟨f2_219, rfl, x_220⟩ := h_218
                  have hP : va_P D vwCl [(rw, .inl (cI, 45, .inl f2_219))] H := hP
                  have hD : va_D A [(rw, .inl (cI, 45, .inl f2_219))] := hD
                  refine lv_iinc (v := nI (i_1 + 1)) (lv' := [(1, .int (nI (i_1 + 1))), (3, .int r_194), (5, .int r_204), (4, .int ov_200), (2, .int (nI q_34)), (0, .ref rw)]) hx hb dX6_minute_150 hl (k := 4) rfl (nI_add i_1 1) (by decide) rfl (fun ls hl => ?_)
                  refine lv_goto (tgt := 2) hx hb dX6_minute_153 (by decide) ?_
                  exact ih2 ((i_1 + 1)) f2_219 H locs ls (by omega) x_220 hP hD hS (lv_sub hl [0, 5] rfl)
              · skip
                refine lv_iload hx hb dX6_minute_114 (lv_at hl 1 rfl) ?_
                refine lv_goto (tgt := 120) hx hb dX6_minute_116 (by decide) ?_
                refine lv_istore_n (lv' := [(3, .int r_204), (5, .int r_204), (4, .int ov_200), (2, .int (nI q_34)), (1, .int (nI i_1)), (0, .ref rw)]) hx hb dX6_minute_120 rfl hl (by decide) rfl (fun ls hl => ?_)
                refine lv_iload_n hx hb dX6_minute_121 rfl (lv_at hl 0 rfl) ?_
                refine lv_if_le (tgt := 150) hx hb dX6_minute_122 (by decide) (fun c_221 => ?_) (fun c_221 => ?_)
                · skip
                  refine lv_iinc (v := nI (i_1 + 1)) (lv' := [(1, .int (nI (i_1 + 1))), (3, .int r_204), (5, .int r_204), (4, .int ov_200), (2, .int (nI q_34)), (0, .ref rw)]) hx hb dX6_minute_150 hl (k := 4) rfl (nI_add i_1 1) (by decide) rfl (fun ls hl => ?_)
                  refine lv_goto (tgt := 2) hx hb dX6_minute_153 (by decide) ?_
                  exact ih2 ((i_1 + 1)) f2_192 H locs ls (by omega) x_193 hP hD hS (lv_sub hl [0, 5] rfl)
                · skip
                  refine lv_aload_n hx hb dX6_minute_125 rfl (lv_at hl 5 rfl) ?_
                  refine lv_iconst (v := 5) hx hb dX6_minute_126 (by decide) ?_
                  refine lv_iconst (v := 2) hx hb dX6_minute_127 (by decide) ?_
                  refine lv_iload_n hx hb dX6_minute_128 rfl (lv_at hl 3 rfl) ?_
                  refine lv_imul hx hb dX6_minute_129 ?_
                  refine wt_top (z := nI (2 * q_34)) (pk_mul 2 q_34) ?_
                  refine lv_iadd hx hb dX6_minute_130 ?_
                  refine wt_top (z := nI (5 + (2 * q_34))) (nI_add 5 (2 * q_34)) ?_
                  refine lv_dup2_11 hx hb dX6_minute_131 rfl rfl ?_
                  refine va_iald hx hb hK.1 hP 0 0 rfl rfl (vp_in_nI (by omega) (by omega)) dX6_minute_132 ?_
                  refine lv_topi (fun ov_222 _ => ?_)
                  refine lv_iload_n hx hb dX6_minute_133 rfl (lv_at hl 0 rfl) ?_
                  refine lv_isub hx hb dX6_minute_134 ?_
                  refine lv_topi (fun ov_223 _ => ?_)
                  refine va_iast hx hb hK.1 hP hD hS 0 0 rfl rfl (vp_in_nI (by omega) (by omega)) dX6_minute_135 (fun H locs hP hD hS => ?_)
                  have hP : va_P D vwCl [(rw, .inl (cI, 45, .inl (upd f2_192 ((nI (5 + (2 * q_34))).toNatClampNeg) ov_223)))] H := hP
                  have hD : va_D A [(rw, .inl (cI, 45, .inl (upd f2_192 ((nI (5 + (2 * q_34))).toNatClampNeg) ov_223)))] := hD
                  have rk_224 : rq K P R T (upd f2_192 ((nI (5 + (2 * q_34))).toNatClampNeg) ov_223) := rq_upd (k := (5 + (2 * q_34))) x_193 (nI_clamp (by omega)) (by omega) _
                  generalize upd f2_192 ((nI (5 + (2 * q_34))).toNatClampNeg) ov_223 = rf_225 at hP hD rk_224
                  refine lv_aload_n hx hb dX6_minute_136 rfl (lv_at hl 5 rfl) ?_
                  refine lv_iload_n hx hb dX6_minute_137 rfl (lv_at hl 4 rfl) ?_
                  refine lv_iconst (v := 4) hx hb dX6_minute_138 (by decide) ?_
                  refine lv_aload_n hx hb dX6_minute_139 rfl (lv_at hl 5 rfl) ?_
                  refine lv_iload_n hx hb dX6_minute_140 rfl (lv_at hl 4 rfl) ?_
                  refine lv_iconst (v := 4) hx hb dX6_minute_141 (by decide) ?_
                  refine wt_rS (As := [.ref rw, .int (nI i_1), .int 4]) (rest := [.int 4, .int (nI i_1), .ref rw]) ⟨hx, hb, hml, hown, hts⟩ (c_X6_of_w l D cI cZ cH rw R T rf_225 i_1 4 (by first | assumption | omega) (by first | assumption | omega) (by first | assumption | exact rq_rk (by assumption)) (by first | assumption | omega) (by first | assumption | omega)) (va_cwS 3 hts gX6_minute_X6_of rfl rfl rfl (by decide +kernel) ⟨Nat.le_of_ble_eq_true rfl, Nat.le_of_ble_eq_true rfl⟩) hK hP [0] rfl rfl hl.1 rfl (Nat.le_of_ble_eq_true rfl) dX6_minute_142 ⟨Nat.le_of_ble_eq_true rfl, Nat.le_of_ble_eq_true rfl⟩ (fun r_226 e_227 => ?_)
                  refine lv_iload_n hx hb dX6_minute_145 rfl (lv_at hl 0 rfl) ?_
                  refine lv_iadd hx hb dX6_minute_146 ?_
                  refine lv_topi (fun ov_228 _ => ?_)
                  refine wt_goV (wr := []) (wt_runS (As := [.ref rw, .int (nI i_1), .int 4, .int ov_228]) (rest := []) ⟨hx, hb, hml, hown, hts⟩ (c_X6_be_4q l D cI cZ cH rw R T rf_225 K P i_1 ov_228 (by first | assumption | omega) (by first | assumption | omega) (by assumption) (by first | assumption | omega)) (va_cwS 4 hts gX6_minute_X6_be rfl rfl rfl (by decide +kernel) ⟨Nat.le_of_ble_eq_true rfl, Nat.le_of_ble_eq_true rfl⟩) hK hP hD [0] rfl (by decide) rfl hl.1 rfl (Nat.le_of_ble_eq_true rfl) dX6_minute_147 ⟨Nat.le_of_ble_eq_true rfl, Nat.le_of_ble_eq_true rfl⟩) hP hD hS hA [0] [] rfl rfl (by decide) (by decide) (fun w_230 H locs h_231 hP hD hS => ?_)
                  obtain ⟨f2_232, rfl, x_233⟩ := h_231
                  have hP : va_P D vwCl [(rw, .inl (cI, 45, .inl f2_232))] H := hP
                  have hD : va_D A [(rw, .inl (cI, 45, .inl f2_232))] := hD
                  refine lv_iinc (v := nI (i_1 + 1)) (lv' := [(1, .int (nI (i_1 + 1))), (3, .int r_204), (5, .int r_204), (4, .int ov_200), (2, .int (nI q_34)), (0, .ref rw)]) hx hb dX6_minute_150 hl (k := 4) rfl (nI_add i_1 1) (by decide) rfl (fun ls hl => ?_)
                  refine lv_goto (tgt := 2) hx hb dX6_minute_153 (by decide) ?_
                  exact ih2 ((i_1 + 1)) f2_232 H locs ls (by omega) x_233 hP hD hS (lv_sub hl [0, 5] rfl)
            · skip
              refine lv_iload hx hb dX6_minute_101 (lv_at hl 1 rfl) ?_
              refine lv_goto (tgt := 107) hx hb dX6_minute_103 (by decide) ?_
              refine lv_istore_n (lv' := [(3, .int ov_200), (5, .int r_204), (4, .int ov_200), (2, .int (nI q_34)), (1, .int (nI i_1)), (0, .ref rw)]) hx hb dX6_minute_107 rfl hl (by decide) rfl (fun ls hl => ?_)
              refine lv_iload_n hx hb dX6_minute_108 rfl (lv_at hl 0 rfl) ?_
              refine lv_iload hx hb dX6_minute_109 (lv_at hl 1 rfl) ?_
              refine lv_icmp_le (tgt := 119) hx hb dX6_minute_111 (by decide) (fun c_234 => ?_) (fun c_234 => ?_)
              · skip
                refine lv_iload_n hx hb dX6_minute_119 rfl (lv_at hl 0 rfl) ?_
                refine lv_istore_n (lv' := [(3, .int ov_200), (5, .int r_204), (4, .int ov_200), (2, .int (nI q_34)), (1, .int (nI i_1)), (0, .ref rw)]) hx hb dX6_minute_120 rfl hl (by decide) rfl (fun ls hl => ?_)
                refine lv_iload_n hx hb dX6_minute_121 rfl (lv_at hl 0 rfl) ?_
                refine lv_if_le (tgt := 150) hx hb dX6_minute_122 (by decide) (fun c_235 => ?_) (fun c_235 => ?_)
                · skip
                  refine lv_iinc (v := nI (i_1 + 1)) (lv' := [(1, .int (nI (i_1 + 1))), (3, .int ov_200), (5, .int r_204), (4, .int ov_200), (2, .int (nI q_34)), (0, .ref rw)]) hx hb dX6_minute_150 hl (k := 4) rfl (nI_add i_1 1) (by decide) rfl (fun ls hl => ?_)
                  refine lv_goto (tgt := 2) hx hb dX6_minute_153 (by decide) ?_
                  exact ih2 ((i_1 + 1)) f2_192 H locs ls (by omega) x_193 hP hD hS (lv_sub hl [0, 5] rfl)
                · skip
                  refine lv_aload_n hx hb dX6_minute_125 rfl (lv_at hl 5 rfl) ?_
                  refine lv_iconst (v := 5) hx hb dX6_minute_126 (by decide) ?_
                  refine lv_iconst (v := 2) hx hb dX6_minute_127 (by decide) ?_
                  refine lv_iload_n hx hb dX6_minute_128 rfl (lv_at hl 3 rfl) ?_
                  refine lv_imul hx hb dX6_minute_129 ?_
                  refine wt_top (z := nI (2 * q_34)) (pk_mul 2 q_34) ?_
                  refine lv_iadd hx hb dX6_minute_130 ?_
                  refine wt_top (z := nI (5 + (2 * q_34))) (nI_add 5 (2 * q_34)) ?_
                  refine lv_dup2_11 hx hb dX6_minute_131 rfl rfl ?_
                  refine va_iald hx hb hK.1 hP 0 0 rfl rfl (vp_in_nI (by omega) (by omega)) dX6_minute_132 ?_
                  refine lv_topi (fun ov_236 _ => ?_)
                  refine lv_iload_n hx hb dX6_minute_133 rfl (lv_at hl 0 rfl) ?_
                  refine lv_isub hx hb dX6_minute_134 ?_
                  refine lv_topi (fun ov_237 _ => ?_)
                  refine va_iast hx hb hK.1 hP hD hS 0 0 rfl rfl (vp_in_nI (by omega) (by omega)) dX6_minute_135 (fun H locs hP hD hS => ?_)
                  have hP : va_P D vwCl [(rw, .inl (cI, 45, .inl (upd f2_192 ((nI (5 + (2 * q_34))).toNatClampNeg) ov_237)))] H := hP
                  have hD : va_D A [(rw, .inl (cI, 45, .inl (upd f2_192 ((nI (5 + (2 * q_34))).toNatClampNeg) ov_237)))] := hD
                  have rk_238 : rq K P R T (upd f2_192 ((nI (5 + (2 * q_34))).toNatClampNeg) ov_237) := rq_upd (k := (5 + (2 * q_34))) x_193 (nI_clamp (by omega)) (by omega) _
                  generalize upd f2_192 ((nI (5 + (2 * q_34))).toNatClampNeg) ov_237 = rf_239 at hP hD rk_238
                  refine lv_aload_n hx hb dX6_minute_136 rfl (lv_at hl 5 rfl) ?_
                  refine lv_iload_n hx hb dX6_minute_137 rfl (lv_at hl 4 rfl) ?_
                  refine lv_iconst (v := 4) hx hb dX6_minute_138 (by decide) ?_
                  refine lv_aload_n hx hb dX6_minute_139 rfl (lv_at hl 5 rfl) ?_
                  refine lv_iload_n hx hb dX6_minute_140 rfl (lv_at hl 4 rfl) ?_
                  refine lv_iconst (v := 4) hx hb dX6_minute_141 (by decide) ?_
                  refine wt_rS (As := [.ref rw, .int (nI i_1), .int 4]) (rest := [.int 4, .int (nI i_1), .ref rw]) ⟨hx, hb, hml, hown, hts⟩ (c_X6_of_w l D cI cZ cH rw R T rf_239 i_1 4 (by first | assumption | omega) (by first | assumption | omega) (by first | assumption | exact rq_rk (by assumption)) (by first | assumption | omega) (by first | assumption | omega)) (va_cwS 3 hts gX6_minute_X6_of rfl rfl rfl (by decide +kernel) ⟨Nat.le_of_ble_eq_true rfl, Nat.le_of_ble_eq_true rfl⟩) hK hP [0] rfl rfl hl.1 rfl (Nat.le_of_ble_eq_true rfl) dX6_minute_142 ⟨Nat.le_of_ble_eq_true rfl, Nat.le_of_ble_eq_true rfl⟩ (fun r_240 e_241 => ?_)
                  refine lv_iload_n hx hb dX6_minute_145 rfl (lv_at hl 0 rfl) ?_
                  refine lv_iadd hx hb dX6_minute_146 ?_
                  refine lv_topi (fun ov_242 _ => ?_)
                  refine wt_goV (wr := []) (wt_runS (As := [.ref rw, .int (nI i_1), .int 4, .int ov_242]) (rest := []) ⟨hx, hb, hml, hown, hts⟩ (c_X6_be_4q l D cI cZ cH rw R T rf_239 K P i_1 ov_242 (by first | assumption | omega) (by first | assumption | omega) (by assumption) (by first | assumption | omega)) (va_cwS 4 hts gX6_minute_X6_be rfl rfl rfl (by decide +kernel) ⟨Nat.le_of_ble_eq_true rfl, Nat.le_of_ble_eq_true rfl⟩) hK hP hD [0] rfl (by decide) rfl hl.1 rfl (Nat.le_of_ble_eq_true rfl) dX6_minute_147 ⟨Nat.le_of_ble_eq_true rfl, Nat.le_of_ble_eq_true rfl⟩) hP hD hS hA [0] [] rfl rfl (by decide) (by decide) (fun w_244 H locs h_245 hP hD hS => ?_)
                  obtain ⟨f2_246, rfl, x_247⟩ := h_245
                  have hP : va_P D vwCl [(rw, .inl (cI, 45, .inl f2_246))] H := hP
                  have hD : va_D A [(rw, .inl (cI, 45, .inl f2_246))] := hD
                  refine lv_iinc (v := nI (i_1 + 1)) (lv' := [(1, .int (nI (i_1 + 1))), (3, .int ov_200), (5, .int r_204), (4, .int ov_200), (2, .int (nI q_34)), (0, .ref rw)]) hx hb dX6_minute_150 hl (k := 4) rfl (nI_add i_1 1) (by decide) rfl (fun ls hl => ?_)
                  refine lv_goto (tgt := 2) hx hb dX6_minute_153 (by decide) ?_
                  exact ih2 ((i_1 + 1)) f2_246 H locs ls (by omega) x_247 hP hD hS (lv_sub hl [0, 5] rfl)
              · skip
                refine lv_iload hx hb dX6_minute_114 (lv_at hl 1 rfl) ?_
                refine lv_goto (tgt := 120) hx hb dX6_minute_116 (by decide) ?_
                refine lv_istore_n (lv' := [(3, .int r_204), (5, .int r_204), (4, .int ov_200), (2, .int (nI q_34)), (1, .int (nI i_1)), (0, .ref rw)]) hx hb dX6_minute_120 rfl hl (by decide) rfl (fun ls hl => ?_)
                refine lv_iload_n hx hb dX6_minute_121 rfl (lv_at hl 0 rfl) ?_
                refine lv_if_le (tgt := 150) hx hb dX6_minute_122 (by decide) (fun c_248 => ?_) (fun c_248 => ?_)
                · skip
                  refine lv_iinc (v := nI (i_1 + 1)) (lv' := [(1, .int (nI (i_1 + 1))), (3, .int r_204), (5, .int r_204), (4, .int ov_200), (2, .int (nI q_34)), (0, .ref rw)]) hx hb dX6_minute_150 hl (k := 4) rfl (nI_add i_1 1) (by decide) rfl (fun ls hl => ?_)
                  refine lv_goto (tgt := 2) hx hb dX6_minute_153 (by decide) ?_
                  exact ih2 ((i_1 + 1)) f2_192 H locs ls (by omega) x_193 hP hD hS (lv_sub hl [0, 5] rfl)
                · skip
                  refine lv_aload_n hx hb dX6_minute_125 rfl (lv_at hl 5 rfl) ?_
                  refine lv_iconst (v := 5) hx hb dX6_minute_126 (by decide) ?_
                  refine lv_iconst (v := 2) hx hb dX6_minute_127 (by decide) ?_
                  refine lv_iload_n hx hb dX6_minute_128 rfl (lv_at hl 3 rfl) ?_
                  refine lv_imul hx hb dX6_minute_129 ?_
                  refine wt_top (z := nI (2 * q_34)) (pk_mul 2 q_34) ?_
                  refine lv_iadd hx hb dX6_minute_130 ?_
                  refine wt_top (z := nI (5 + (2 * q_34))) (nI_add 5 (2 * q_34)) ?_
                  refine lv_dup2_11 hx hb dX6_minute_131 rfl rfl ?_
                  refine va_iald hx hb hK.1 hP 0 0 rfl rfl (vp_in_nI (by omega) (by omega)) dX6_minute_132 ?_
                  refine lv_topi (fun ov_249 _ => ?_)
                  refine lv_iload_n hx hb dX6_minute_133 rfl (lv_at hl 0 rfl) ?_
                  refine lv_isub hx hb dX6_minute_134 ?_
                  refine lv_topi (fun ov_250 _ => ?_)
                  refine va_iast hx hb hK.1 hP hD hS 0 0 rfl rfl (vp_in_nI (by omega) (by omega)) dX6_minute_135 (fun H locs hP hD hS => ?_)
                  have hP : va_P D vwCl [(rw, .inl (cI, 45, .inl (upd f2_192 ((nI (5 + (2 * q_34))).toNatClampNeg) ov_250)))] H := hP
                  have hD : va_D A [(rw, .inl (cI, 45, .inl (upd f2_192 ((nI (5 + (2 * q_34))).toNatClampNeg) ov_250)))] := hD
                  have rk_251 : rq K P R T (upd f2_192 ((nI (5 + (2 * q_34))).toNatClampNeg) ov_250) := rq_upd (k := (5 + (2 * q_34))) x_193 (nI_clamp (by omega)) (by omega) _
                  generalize upd f2_192 ((nI (5 + (2 * q_34))).toNatClampNeg) ov_250 = rf_252 at hP hD rk_251
                  refine lv_aload_n hx hb dX6_minute_136 rfl (lv_at hl 5 rfl) ?_
                  refine lv_iload_n hx hb dX6_minute_137 rfl (lv_at hl 4 rfl) ?_
                  refine lv_iconst (v := 4) hx hb dX6_minute_138 (by decide) ?_
                  refine lv_aload_n hx hb dX6_minute_139 rfl (lv_at hl 5 rfl) ?_
                  refine lv_iload_n hx hb dX6_minute_140 rfl (lv_at hl 4 rfl) ?_
                  refine lv_iconst (v := 4) hx hb dX6_minute_141 (by decide) ?_
                  refine wt_rS (As := [.ref rw, .int (nI i_1), .int 4]) (rest := [.int 4, .int (nI i_1), .ref rw]) ⟨hx, hb, hml, hown, hts⟩ (c_X6_of_w l D cI cZ cH rw R T rf_252 i_1 4 (by first | assumption | omega) (by first | assumption | omega) (by first | assumption | exact rq_rk (by assumption)) (by first | assumption | omega) (by first | assumption | omega)) (va_cwS 3 hts gX6_minute_X6_of rfl rfl rfl (by decide +kernel) ⟨Nat.le_of_ble_eq_true rfl, Nat.le_of_ble_eq_true rfl⟩) hK hP [0] rfl rfl hl.1 rfl (Nat.le_of_ble_eq_true rfl) dX6_minute_142 ⟨Nat.le_of_ble_eq_true rfl, Nat.le_of_ble_eq_true rfl⟩ (fun r_253 e_254 => ?_)
                  refine lv_iload_n hx hb dX6_minute_145 rfl (lv_at hl 0 rfl) ?_
                  refine lv_iadd hx hb dX6_minute_146 ?_
                  refine lv_topi (fun ov_255 _ => ?_)
                  refine wt_goV (wr := []) (wt_runS (As := [.ref rw, .int (nI i_1), .int 4, .int ov_255]) (rest := []) ⟨hx, hb, hml, hown, hts⟩ (c_X6_be_4q l D cI cZ cH rw R T rf_252 K P i_1 ov_255 (by first | assumption | omega) (by first | assumption | omega) (by assumption) (by first | assumption | omega)) (va_cwS 4 hts gX6_minute_X6_be rfl rfl rfl (by decide +kernel) ⟨Nat.le_of_ble_eq_true rfl, Nat.le_of_ble_eq_true rfl⟩) hK hP hD [0] rfl (by decide) rfl hl.1 rfl (Nat.le_of_ble_eq_true rfl) dX6_minute_147 ⟨Nat.le_of_ble_eq_true rfl, Nat.le_of_ble_eq_true rfl⟩) hP hD hS hA [0] [] rfl rfl (by decide) (by decide) (fun w_257 H locs h_258 hP hD hS => ?_)
                  obtain ⟨f2_259, rfl, x_260⟩ := h_258
                  have hP : va_P D vwCl [(rw, .inl (cI, 45, .inl f2_259))] H := hP
                  have hD : va_D A [(rw, .inl (cI, 45, .inl f2_259))] := hD
                  refine lv_iinc (v := nI (i_1 + 1)) (lv' := [(1, .int (nI (i_1 + 1))), (3, .int r_204), (5, .int r_204), (4, .int ov_200), (2, .int (nI q_34)), (0, .ref rw)]) hx hb dX6_minute_150 hl (k := 4) rfl (nI_add i_1 1) (by decide) rfl (fun ls hl => ?_)
                  refine lv_goto (tgt := 2) hx hb dX6_minute_153 (by decide) ?_
                  exact ih2 ((i_1 + 1)) f2_259 H locs ls (by omega) x_260 hP hD hS (lv_sub hl [0, 5] rfl)
          · skip
            refine lv_iconst (v := 0) hx hb dX6_minute_84 (by decide) ?_
            refine lv_goto (tgt := 93) hx hb dX6_minute_85 (by decide) ?_
            refine lv_istore (lv' := [(5, .int 0), (4, .int ov_200), (3, .int r_194), (2, .int (nI q_34)), (1, .int (nI i_1)), (0, .ref rw)]) hx hb dX6_minute_93 hl (by decide) rfl (fun ls hl => ?_)
            refine lv_iload_n hx hb dX6_minute_95 rfl (lv_at hl 2 rfl) ?_
            refine lv_iload hx hb dX6_minute_96 (lv_at hl 1 rfl) ?_
            refine lv_icmp_le (tgt := 106) hx hb dX6_minute_98 (by decide) (fun c_261 => ?_) (fun c_261 => ?_)
            · skip
              refine lv_iload_n hx hb dX6_minute_106 rfl (lv_at hl 2 rfl) ?_
              refine lv_istore_n (lv' := [(3, .int r_194), (5, .int 0), (4, .int ov_200), (2, .int (nI q_34)), (1, .int (nI i_1)), (0, .ref rw)]) hx hb dX6_minute_107 rfl hl (by decide) rfl (fun ls hl => ?_)
              refine lv_iload_n hx hb dX6_minute_108 rfl (lv_at hl 0 rfl) ?_
              refine lv_iload hx hb dX6_minute_109 (lv_at hl 1 rfl) ?_
              refine lv_icmp_le (tgt := 119) hx hb dX6_minute_111 (by decide) (fun c_262 => ?_) (fun c_262 => ?_)
              · skip
                refine lv_iload_n hx hb dX6_minute_119 rfl (lv_at hl 0 rfl) ?_
                refine lv_istore_n (lv' := [(3, .int r_194), (5, .int 0), (4, .int ov_200), (2, .int (nI q_34)), (1, .int (nI i_1)), (0, .ref rw)]) hx hb dX6_minute_120 rfl hl (by decide) rfl (fun ls hl => ?_)
                refine lv_iload_n hx hb dX6_minute_121 rfl (lv_at hl 0 rfl) ?_
                refine lv_if_le (tgt := 150) hx hb dX6_minute_122 (by decide) (fun _ => ?_) (fun h => absurd c_262 h)
                refine lv_iinc (v := nI (i_1 + 1)) (lv' := [(1, .int (nI (i_1 + 1))), (3, .int r_194), (5, .int 0), (4, .int ov_200), (2, .int (nI q_34)), (0, .ref rw)]) hx hb dX6_minute_150 hl (k := 4) rfl (nI_add i_1 1) (by decide) rfl (fun ls hl => ?_)
                refine lv_goto (tgt := 2) hx hb dX6_minute_153 (by decide) ?_
                exact ih2 ((i_1 + 1)) f2_192 H locs ls (by omega) x_193 hP hD hS (lv_sub hl [0, 5] rfl)
              · skip
                refine lv_iload hx hb dX6_minute_114 (lv_at hl 1 rfl) ?_
                refine lv_goto (tgt := 120) hx hb dX6_minute_116 (by decide) ?_
                refine lv_istore_n (lv' := [(3, .int 0), (5, .int 0), (4, .int ov_200), (2, .int (nI q_34)), (1, .int (nI i_1)), (0, .ref rw)]) hx hb dX6_minute_120 rfl hl (by decide) rfl (fun ls hl => ?_)
                refine lv_iload_n hx hb dX6_minute_121 rfl (lv_at hl 0 rfl) ?_
                refine lv_if_le (tgt := 150) hx hb dX6_minute_122 (by decide) (fun _ => ?_) (fun h => absurd h (by decide))
                refine lv_iinc (v := nI (i_1 + 1)) (lv' := [(1, .int (nI (i_1 + 1))), (3, .int 0), (5, .int 0), (4, .int ov_200), (2, .int (nI q_34)), (0, .ref rw)]) hx hb dX6_minute_150 hl (k := 4) rfl (nI_add i_1 1) (by decide) rfl (fun ls hl => ?_)
                refine lv_goto (tgt := 2) hx hb dX6_minute_153 (by decide) ?_
                exact ih2 ((i_1 + 1)) f2_192 H locs ls (by omega) x_193 hP hD hS (lv_sub hl [0, 5] rfl)
            · skip
              refine lv_iload hx hb dX6_minute_101 (lv_at hl 1 rfl) ?_
              refine lv_goto (tgt := 107) hx hb dX6_minute_103 (by decide) ?_
              refine lv_istore_n (lv' := [(3, .int ov_200), (5, .int 0), (4, .int ov_200), (2, .int (nI q_34)), (1, .int (nI i_1)), (0, .ref rw)]) hx hb dX6_minute_107 rfl hl (by decide) rfl (fun ls hl => ?_)
              refine lv_iload_n hx hb dX6_minute_108 rfl (lv_at hl 0 rfl) ?_
              refine lv_iload hx hb dX6_minute_109 (lv_at hl 1 rfl) ?_
              refine lv_icmp_le (tgt := 119) hx hb dX6_minute_111 (by decide) (fun c_263 => ?_) (fun c_263 => ?_)
              · skip
                refine lv_iload_n hx hb dX6_minute_119 rfl (lv_at hl 0 rfl) ?_
                refine lv_istore_n (lv' := [(3, .int ov_200), (5, .int 0), (4, .int ov_200), (2, .int (nI q_34)), (1, .int (nI i_1)), (0, .ref rw)]) hx hb dX6_minute_120 rfl hl (by decide) rfl (fun ls hl => ?_)
                refine lv_iload_n hx hb dX6_minute_121 rfl (lv_at hl 0 rfl) ?_
                refine lv_if_le (tgt := 150) hx hb dX6_minute_122 (by decide) (fun _ => ?_) (fun h => absurd c_263 h)
                refine lv_iinc (v := nI (i_1 + 1)) (lv' := [(1, .int (nI (i_1 + 1))), (3, .int ov_200), (5, .int 0), (4, .int ov_200), (2, .int (nI q_34)), (0, .ref rw)]) hx hb dX6_minute_150 hl (k := 4) rfl (nI_add i_1 1) (by decide) rfl (fun ls hl => ?_)
                refine lv_goto (tgt := 2) hx hb dX6_minute_153 (by decide) ?_
                exact ih2 ((i_1 + 1)) f2_192 H locs ls (by omega) x_193 hP hD hS (lv_sub hl [0, 5] rfl)
              · skip
                refine lv_iload hx hb dX6_minute_114 (lv_at hl 1 rfl) ?_
                refine lv_goto (tgt := 120) hx hb dX6_minute_116 (by decide) ?_
                refine lv_istore_n (lv' := [(3, .int 0), (5, .int 0), (4, .int ov_200), (2, .int (nI q_34)), (1, .int (nI i_1)), (0, .ref rw)]) hx hb dX6_minute_120 rfl hl (by decide) rfl (fun ls hl => ?_)
                refine lv_iload_n hx hb dX6_minute_121 rfl (lv_at hl 0 rfl) ?_
                refine lv_if_le (tgt := 150) hx hb dX6_minute_122 (by decide) (fun _ => ?_) (fun h => absurd h (by decide))
                refine lv_iinc (v := nI (i_1 + 1)) (lv' := [(1, .int (nI (i_1 + 1))), (3, .int 0), (5, .int 0), (4, .int ov_200), (2, .int (nI q_34)), (0, .ref rw)]) hx hb dX6_minute_150 hl (k := 4) rfl (nI_add i_1 1) (by decide) rfl (fun ls hl => ?_)
                refine lv_goto (tgt := 2) hx hb dX6_minute_153 (by decide) ?_
                exact ih2 ((i_1 + 1)) f2_192 H locs ls (by omega) x_193 hP hD hS (lv_sub hl [0, 5] rfl)
  exact loop2 (T - 0) (0) f _ _ ls (by omega) hrq hP hD hS hl
set_option maxHeartbeats 4000000 in
set_option maxRecDepth 100000 in
theorem c_X6_shaken_q (l : Launch) (D : va_G) (cI cZ cH : ClassId) (rw : Nat) (R T : Nat) (f K P : Nat → Int32) (j : Nat) (hR5 : R ≤ 5) (hT6 : T ≤ 6) (hrq : rq K P R T f) (hj6 : j < 6) : wt_M l yX6_shaken wsX6_shaken ({ frames := 2, cells := 0, slots := 0, locals := 44 } : Room) D (wt_T cI cZ cH) [.ref rw, .int (nI j)] [(rw, .inl (cI, 45, .inl f))] (wt_QI D (fun r w => ∃ (f2 : Nat → Int32), w = [(rw, .inl (cI, 45, .inl f2))] ∧ rq K P R T f2)) := by
  refine wt_M.ofW (cc := cX6_shaken) (maxL := 3) (ret := (some .int)) (by decide) rfl (Nat.le_of_ble_eq_true rfl) ?_
  intro p e s m below meth c A ls hx hb hr hts hown hlocks hml hnm hP hK hD hA hS hl
  have hP : va_P D vwCl [(rw, .inl (cI, 45, .inl f))] s.heap := hP
  have hown : s.vm.findClass RX6 = some m.cls := hown
  have hl : lv_has ls 3 [(0, .ref rw), (1, .int (nI j))] := hl
  refine lv_aload_n hx hb dX6_shaken_0 rfl (lv_at hl 0 rfl) ?_
  refine lv_iload_n hx hb dX6_shaken_1 rfl (lv_at hl 1 rfl) ?_
  refine lv_iconst (v := 4) hx hb dX6_shaken_2 (by decide) ?_
  refine wt_rS (As := [.ref rw, .int (nI j), .int 4]) (rest := []) ⟨hx, hb, hml, hown, hts⟩ (c_X6_of_w l D cI cZ cH rw R T f j 4 (by first | assumption | omega) (by first | assumption | omega) (by first | assumption | exact rq_rk (by assumption)) (by first | assumption | omega) (by first | assumption | omega)) (va_cwS 3 hts gX6_shaken_X6_of rfl rfl rfl (by decide +kernel) ⟨Nat.le_of_ble_eq_true rfl, Nat.le_of_ble_eq_true rfl⟩) hK hP [0] rfl rfl hl.1 rfl (Nat.le_of_ble_eq_true rfl) dX6_shaken_3 ⟨Nat.le_of_ble_eq_true rfl, Nat.le_of_ble_eq_true rfl⟩ (fun r_1 e_2 => ?_)
  refine lv_istore_n (lv' := [(2, .int r_1), (0, .ref rw), (1, .int (nI j))]) hx hb dX6_shaken_6 rfl hl (by decide) rfl (fun ls hl => ?_)
  refine lv_aload_n hx hb dX6_shaken_7 rfl (lv_at hl 1 rfl) ?_
  refine lv_aload_n hx hb dX6_shaken_8 rfl (lv_at hl 1 rfl) ?_
  refine lv_iload_n hx hb dX6_shaken_9 rfl (lv_at hl 2 rfl) ?_
  refine lv_iconst (v := 1) hx hb dX6_shaken_10 (by decide) ?_
  refine wt_rS (As := [.ref rw, .int (nI j), .int 1]) (rest := [.ref rw]) ⟨hx, hb, hml, hown, hts⟩ (c_X6_of_1 l D cI cZ cH rw R T f j (by first | assumption | omega) (by first | assumption | omega) (by first | assumption | exact rq_rk (by assumption)) (by first | assumption | omega)) (va_cwS 3 hts gX6_shaken_X6_of rfl rfl rfl (by decide +kernel) ⟨Nat.le_of_ble_eq_true rfl, Nat.le_of_ble_eq_true rfl⟩) hK hP [0] rfl rfl hl.1 rfl (Nat.le_of_ble_eq_true rfl) dX6_shaken_11 ⟨Nat.le_of_ble_eq_true rfl, Nat.le_of_ble_eq_true rfl⟩ (fun r_3 e_4 => ?_)
  obtain ⟨q_5, e_4, rfl⟩ := e_4
  refine lv_iload_n hx hb dX6_shaken_14 rfl (lv_at hl 0 rfl) ?_
  refine wt_goV (wr := []) (wt_runS (As := [.ref rw, .int (nI q_5), .int r_1]) (rest := []) ⟨hx, hb, hml, hown, hts⟩ (c_X6_gives_q l D cI cZ cH rw R T f K P q_5 r_1 (by first | assumption | omega) (by first | assumption | omega) (by assumption) (by first | assumption | omega)) (va_cwS 3 hts gX6_shaken_X6_gives rfl rfl rfl (by decide +kernel) ⟨Nat.le_of_ble_eq_true rfl, Nat.le_of_ble_eq_true rfl⟩) hK hP hD [0] rfl (by decide) rfl hl.1 rfl (Nat.le_of_ble_eq_true rfl) dX6_shaken_15 ⟨Nat.le_of_ble_eq_true rfl, Nat.le_of_ble_eq_true rfl⟩) hP hD hS hA [0] [] rfl rfl (by decide) (by decide) (fun w_7 H locs h_8 hP hD hS => ?_)
  obtain ⟨f2_9, rfl, x_10⟩ := h_8
  have hP : va_P D vwCl [(rw, .inl (cI, 45, .inl f2_9))] H := hP
  have hD : va_D A [(rw, .inl (cI, 45, .inl f2_9))] := hD
  refine lv_aload_n hx hb dX6_shaken_18 rfl (lv_at hl 1 rfl) ?_
  refine lv_iload_n hx hb dX6_shaken_19 rfl (lv_at hl 2 rfl) ?_
  refine lv_iconst (v := 4) hx hb dX6_shaken_20 (by decide) ?_
  refine lv_iconst (v := 0) hx hb dX6_shaken_21 (by decide) ?_
  refine wt_goV (wr := []) (wt_runS (As := [.ref rw, .int (nI j), .int 4, .int 0]) (rest := []) ⟨hx, hb, hml, hown, hts⟩ (c_X6_be_4q l D cI cZ cH rw R T f2_9 K P j 0 (by first | assumption | omega) (by first | assumption | omega) (by assumption) (by first | assumption | omega)) (va_cwS 4 hts gX6_shaken_X6_be rfl rfl rfl (by decide +kernel) ⟨Nat.le_of_ble_eq_true rfl, Nat.le_of_ble_eq_true rfl⟩) hK hP hD [0] rfl (by decide) rfl hl.1 rfl (Nat.le_of_ble_eq_true rfl) dX6_shaken_22 ⟨Nat.le_of_ble_eq_true rfl, Nat.le_of_ble_eq_true rfl⟩) hP hD hS hA [0] [] rfl rfl (by decide) (by decide) (fun w_12 H locs h_13 hP hD hS => ?_)
  obtain ⟨f2_14, rfl, x_15⟩ := h_13
  have hP : va_P D vwCl [(rw, .inl (cI, 45, .inl f2_14))] H := hP
  have hD : va_D A [(rw, .inl (cI, 45, .inl f2_14))] := hD
  refine lv_iload_n hx hb dX6_shaken_25 rfl (lv_at hl 0 rfl) ?_
  have hP9 := hP.sub (ws' := [(rw, .inl (cI, 45, .inl f2_14))]) [0] rfl
  have hD9 := hD.sub (ws' := [(rw, .inl (cI, 45, .inl f2_14))]) [0] (by decide) rfl
  exact wt_iret hx hb hr hlocks hP9 hD9 hS ⟨f2_14, rfl, x_15⟩ dX6_shaken_26
set_option maxHeartbeats 4000000 in
set_option maxRecDepth 100000 in
theorem c_X6_poured_q (l : Launch) (D : va_G) (cI cZ cH : ClassId) (rw : Nat) (R T : Nat) (f K P : Nat → Int32) (j k : Nat) (hR5 : R ≤ 5) (hT6 : T ≤ 6) (hrq : rq K P R T f) (hj6 : j < 6) (hk6 : k < 6) : wt_M l yX6_poured wsX6_poured ({ frames := 1, cells := 0, slots := 0, locals := 23 } : Room) D (wt_T cI cZ cH) [.ref rw, .int (nI j), .int (nI k)] [(rw, .inl (cI, 45, .inl f))] (wt_QI D (fun r w => ∃ (f2 : Nat → Int32), w = [(rw, .inl (cI, 45, .inl f2))] ∧ rq K P R T f2)) := by
  refine wt_M.ofW (cc := cX6_poured) (maxL := 5) (ret := (some .int)) (by decide) rfl (Nat.le_of_ble_eq_true rfl) ?_
  intro p e s m below meth c A ls hx hb hr hts hown hlocks hml hnm hP hK hD hA hS hl
  have hP : va_P D vwCl [(rw, .inl (cI, 45, .inl f))] s.heap := hP
  have hown : s.vm.findClass RX6 = some m.cls := hown
  have hl : lv_has ls 5 [(0, .ref rw), (1, .int (nI j)), (2, .int (nI k))] := hl
  refine lv_aload_n hx hb dX6_poured_0 rfl (lv_at hl 0 rfl) ?_
  refine lv_iload_n hx hb dX6_poured_1 rfl (lv_at hl 2 rfl) ?_
  refine lv_iconst (v := 3) hx hb dX6_poured_2 (by decide) ?_
  refine wt_rS (As := [.ref rw, .int (nI k), .int 3]) (rest := []) ⟨hx, hb, hml, hown, hts⟩ (c_X6_of_w l D cI cZ cH rw R T f k 3 (by first | assumption | omega) (by first | assumption | omega) (by first | assumption | exact rq_rk (by assumption)) (by first | assumption | omega) (by first | assumption | omega)) (va_cwS 3 hts gX6_poured_X6_of rfl rfl rfl (by decide +kernel) ⟨Nat.le_of_ble_eq_true rfl, Nat.le_of_ble_eq_true rfl⟩) hK hP [0] rfl rfl hl.1 rfl (Nat.le_of_ble_eq_true rfl) dX6_poured_3 ⟨Nat.le_of_ble_eq_true rfl, Nat.le_of_ble_eq_true rfl⟩ (fun r_1 e_2 => ?_)
  refine lv_aload_n hx hb dX6_poured_6 rfl (lv_at hl 0 rfl) ?_
  refine lv_iload_n hx hb dX6_poured_7 rfl (lv_at hl 2 rfl) ?_
  refine lv_iconst (v := 4) hx hb dX6_poured_8 (by decide) ?_
  refine wt_rS (As := [.ref rw, .int (nI k), .int 4]) (rest := [.int r_1]) ⟨hx, hb, hml, hown, hts⟩ (c_X6_of_w l D cI cZ cH rw R T f k 4 (by first | assumption | omega) (by first | assumption | omega) (by first | assumption | exact rq_rk (by assumption)) (by first | assumption | omega) (by first | assumption | omega)) (va_cwS 3 hts gX6_poured_X6_of rfl rfl rfl (by decide +kernel) ⟨Nat.le_of_ble_eq_true rfl, Nat.le_of_ble_eq_true rfl⟩) hK hP [0] rfl rfl hl.1 rfl (Nat.le_of_ble_eq_true rfl) dX6_poured_9 ⟨Nat.le_of_ble_eq_true rfl, Nat.le_of_ble_eq_true rfl⟩ (fun r_3 e_4 => ?_)
  refine lv_isub hx hb dX6_poured_12 ?_
  refine lv_topi (fun ov_5 _ => ?_)
  refine lv_istore_n (lv' := [(3, .int ov_5), (0, .ref rw), (1, .int (nI j)), (2, .int (nI k))]) hx hb dX6_poured_13 rfl hl (by decide) rfl (fun ls hl => ?_)
  refine lv_aload_n hx hb dX6_poured_14 rfl (lv_at hl 1 rfl) ?_
  refine lv_iload_n hx hb dX6_poured_15 rfl (lv_at hl 2 rfl) ?_
  refine lv_iconst (v := 4) hx hb dX6_poured_16 (by decide) ?_
  refine wt_rS (As := [.ref rw, .int (nI j), .int 4]) (rest := []) ⟨hx, hb, hml, hown, hts⟩ (c_X6_of_w l D cI cZ cH rw R T f j 4 (by first | assumption | omega) (by first | assumption | omega) (by first | assumption | exact rq_rk (by assumption)) (by first | assumption | omega) (by first | assumption | omega)) (va_cwS 3 hts gX6_poured_X6_of rfl rfl rfl (by decide +kernel) ⟨Nat.le_of_ble_eq_true rfl, Nat.le_of_ble_eq_true rfl⟩) hK hP [0] rfl rfl hl.1 rfl (Nat.le_of_ble_eq_true rfl) dX6_poured_17 ⟨Nat.le_of_ble_eq_true rfl, Nat.le_of_ble_eq_true rfl⟩ (fun r_6 e_7 => ?_)
  refine lv_iload_n hx hb dX6_poured_20 rfl (lv_at hl 0 rfl) ?_
  refine lv_icmp_le (tgt := 28) hx hb dX6_poured_21 (by decide) (fun c_8 => ?_) (fun c_8 => ?_)
  · skip
    refine lv_aload_n hx hb dX6_poured_28 rfl (lv_at hl 1 rfl) ?_
    refine lv_iload_n hx hb dX6_poured_29 rfl (lv_at hl 2 rfl) ?_
    refine lv_iconst (v := 4) hx hb dX6_poured_30 (by decide) ?_
    refine wt_rS (As := [.ref rw, .int (nI j), .int 4]) (rest := []) ⟨hx, hb, hml, hown, hts⟩ (c_X6_of_w l D cI cZ cH rw R T f j 4 (by first | assumption | omega) (by first | assumption | omega) (by first | assumption | exact rq_rk (by assumption)) (by first | assumption | omega) (by first | assumption | omega)) (va_cwS 3 hts gX6_poured_X6_of rfl rfl rfl (by decide +kernel) ⟨Nat.le_of_ble_eq_true rfl, Nat.le_of_ble_eq_true rfl⟩) hK hP [0] rfl rfl hl.1 rfl (Nat.le_of_ble_eq_true rfl) dX6_poured_31 ⟨Nat.le_of_ble_eq_true rfl, Nat.le_of_ble_eq_true rfl⟩ (fun r_9 e_10 => ?_)
    refine lv_istore (lv' := [(4, .int r_9), (3, .int ov_5), (0, .ref rw), (1, .int (nI j)), (2, .int (nI k))]) hx hb dX6_poured_34 hl (by decide) rfl (fun ls hl => ?_)
    refine lv_aload_n hx hb dX6_poured_36 rfl (lv_at hl 2 rfl) ?_
    refine lv_iload_n hx hb dX6_poured_37 rfl (lv_at hl 3 rfl) ?_
    refine lv_iconst (v := 1) hx hb dX6_poured_38 (by decide) ?_
    refine wt_rS (As := [.ref rw, .int (nI j), .int 1]) (rest := []) ⟨hx, hb, hml, hown, hts⟩ (c_X6_of_1 l D cI cZ cH rw R T f j (by first | assumption | omega) (by first | assumption | omega) (by first | assumption | exact rq_rk (by assumption)) (by first | assumption | omega)) (va_cwS 3 hts gX6_poured_X6_of rfl rfl rfl (by decide +kernel) ⟨Nat.le_of_ble_eq_true rfl, Nat.le_of_ble_eq_true rfl⟩) hK hP [0] rfl rfl hl.1 rfl (Nat.le_of_ble_eq_true rfl) dX6_poured_39 ⟨Nat.le_of_ble_eq_true rfl, Nat.le_of_ble_eq_true rfl⟩ (fun r_11 e_12 => ?_)
    obtain ⟨q_13, e_12, rfl⟩ := e_12
    refine lv_aload_n hx hb dX6_poured_42 rfl (lv_at hl 2 rfl) ?_
    refine lv_iload_n hx hb dX6_poured_43 rfl (lv_at hl 4 rfl) ?_
    refine lv_iconst (v := 1) hx hb dX6_poured_44 (by decide) ?_
    refine wt_rS (As := [.ref rw, .int (nI k), .int 1]) (rest := [.int (nI q_13)]) ⟨hx, hb, hml, hown, hts⟩ (c_X6_of_1 l D cI cZ cH rw R T f k (by first | assumption | omega) (by first | assumption | omega) (by first | assumption | exact rq_rk (by assumption)) (by first | assumption | omega)) (va_cwS 3 hts gX6_poured_X6_of rfl rfl rfl (by decide +kernel) ⟨Nat.le_of_ble_eq_true rfl, Nat.le_of_ble_eq_true rfl⟩) hK hP [0] rfl rfl hl.1 rfl (Nat.le_of_ble_eq_true rfl) dX6_poured_45 ⟨Nat.le_of_ble_eq_true rfl, Nat.le_of_ble_eq_true rfl⟩ (fun r_14 e_15 => ?_)
    obtain ⟨q_16, e_15, rfl⟩ := e_15
    refine lv_icmp_ne (tgt := 56) hx hb dX6_poured_48 (by decide) (fun c_17 => ?_) (fun c_17 => ?_)
    · skip
      have c_17 : ¬ (q_13 = q_16) := fun h => c_17 ((nI_eq (a := q_13) (b := q_16) (by omega) (by omega)).mpr h)
      refine lv_iconst (v := 0) hx hb dX6_poured_56 (by decide) ?_
      refine lv_istore (lv' := [(4, .int 0), (3, .int ov_5), (0, .ref rw), (1, .int (nI j)), (2, .int (nI k))]) hx hb dX6_poured_57 hl (by decide) rfl (fun ls hl => ?_)
      refine lv_aload_n hx hb dX6_poured_59 rfl (lv_at hl 2 rfl) ?_
      refine lv_iload_n hx hb dX6_poured_60 rfl (lv_at hl 3 rfl) ?_
      refine lv_iconst (v := 4) hx hb dX6_poured_61 (by decide) ?_
      refine lv_aload_n hx hb dX6_poured_62 rfl (lv_at hl 2 rfl) ?_
      refine lv_iload_n hx hb dX6_poured_63 rfl (lv_at hl 3 rfl) ?_
      refine lv_iconst (v := 4) hx hb dX6_poured_64 (by decide) ?_
      refine wt_rS (As := [.ref rw, .int (nI j), .int 4]) (rest := [.int 4, .int (nI j), .ref rw]) ⟨hx, hb, hml, hown, hts⟩ (c_X6_of_w l D cI cZ cH rw R T f j 4 (by first | assumption | omega) (by first | assumption | omega) (by first | assumption | exact rq_rk (by assumption)) (by first | assumption | omega) (by first | assumption | omega)) (va_cwS 3 hts gX6_poured_X6_of rfl rfl rfl (by decide +kernel) ⟨Nat.le_of_ble_eq_true rfl, Nat.le_of_ble_eq_true rfl⟩) hK hP [0] rfl rfl hl.1 rfl (Nat.le_of_ble_eq_true rfl) dX6_poured_65 ⟨Nat.le_of_ble_eq_true rfl, Nat.le_of_ble_eq_true rfl⟩ (fun r_18 e_19 => ?_)
      refine lv_iload hx hb dX6_poured_68 (lv_at hl 0 rfl) ?_
      refine lv_isub hx hb dX6_poured_70 ?_
      refine lv_topi (fun ov_20 _ => ?_)
      refine wt_goV (wr := []) (wt_runS (As := [.ref rw, .int (nI j), .int 4, .int ov_20]) (rest := []) ⟨hx, hb, hml, hown, hts⟩ (c_X6_be_4q l D cI cZ cH rw R T f K P j ov_20 (by first | assumption | omega) (by first | assumption | omega) (by assumption) (by first | assumption | omega)) (va_cwS 4 hts gX6_poured_X6_be rfl rfl rfl (by decide +kernel) ⟨Nat.le_of_ble_eq_true rfl, Nat.le_of_ble_eq_true rfl⟩) hK hP hD [0] rfl (by decide) rfl hl.1 rfl (Nat.le_of_ble_eq_true rfl) dX6_poured_71 ⟨Nat.le_of_ble_eq_true rfl, Nat.le_of_ble_eq_true rfl⟩) hP hD hS hA [0] [] rfl rfl (by decide) (by decide) (fun w_22 H locs h_23 hP hD hS => ?_)
      obtain ⟨f2_24, rfl, x_25⟩ := h_23
      have hP : va_P D vwCl [(rw, .inl (cI, 45, .inl f2_24))] H := hP
      have hD : va_D A [(rw, .inl (cI, 45, .inl f2_24))] := hD
      refine lv_aload_n hx hb dX6_poured_74 rfl (lv_at hl 2 rfl) ?_
      refine lv_iload_n hx hb dX6_poured_75 rfl (lv_at hl 4 rfl) ?_
      refine lv_iconst (v := 4) hx hb dX6_poured_76 (by decide) ?_
      refine lv_aload_n hx hb dX6_poured_77 rfl (lv_at hl 2 rfl) ?_
      refine lv_iload_n hx hb dX6_poured_78 rfl (lv_at hl 4 rfl) ?_
      refine lv_iconst (v := 4) hx hb dX6_poured_79 (by decide) ?_
      refine wt_rS (As := [.ref rw, .int (nI k), .int 4]) (rest := [.int 4, .int (nI k), .ref rw]) ⟨hx, hb, hml, hown, hts⟩ (c_X6_of_w l D cI cZ cH rw R T f2_24 k 4 (by first | assumption | omega) (by first | assumption | omega) (by first | assumption | exact rq_rk (by assumption)) (by first | assumption | omega) (by first | assumption | omega)) (va_cwS 3 hts gX6_poured_X6_of rfl rfl rfl (by decide +kernel) ⟨Nat.le_of_ble_eq_true rfl, Nat.le_of_ble_eq_true rfl⟩) hK hP [0] rfl rfl hl.1 rfl (Nat.le_of_ble_eq_true rfl) dX6_poured_80 ⟨Nat.le_of_ble_eq_true rfl, Nat.le_of_ble_eq_true rfl⟩ (fun r_26 e_27 => ?_)
      refine lv_iload hx hb dX6_poured_83 (lv_at hl 0 rfl) ?_
      refine lv_iadd hx hb dX6_poured_85 ?_
      refine lv_topi (fun ov_28 _ => ?_)
      refine wt_goV (wr := []) (wt_runS (As := [.ref rw, .int (nI k), .int 4, .int ov_28]) (rest := []) ⟨hx, hb, hml, hown, hts⟩ (c_X6_be_4q l D cI cZ cH rw R T f2_24 K P k ov_28 (by first | assumption | omega) (by first | assumption | omega) (by assumption) (by first | assumption | omega)) (va_cwS 4 hts gX6_poured_X6_be rfl rfl rfl (by decide +kernel) ⟨Nat.le_of_ble_eq_true rfl, Nat.le_of_ble_eq_true rfl⟩) hK hP hD [0] rfl (by decide) rfl hl.1 rfl (Nat.le_of_ble_eq_true rfl) dX6_poured_86 ⟨Nat.le_of_ble_eq_true rfl, Nat.le_of_ble_eq_true rfl⟩) hP hD hS hA [0] [] rfl rfl (by decide) (by decide) (fun w_30 H locs h_31 hP hD hS => ?_)
      obtain ⟨f2_32, rfl, x_33⟩ := h_31
      have hP : va_P D vwCl [(rw, .inl (cI, 45, .inl f2_32))] H := hP
      have hD : va_D A [(rw, .inl (cI, 45, .inl f2_32))] := hD
      refine lv_iload hx hb dX6_poured_89 (lv_at hl 0 rfl) ?_
      have hP9 := hP.sub (ws' := [(rw, .inl (cI, 45, .inl f2_32))]) [0] rfl
      have hD9 := hD.sub (ws' := [(rw, .inl (cI, 45, .inl f2_32))]) [0] (by decide) rfl
      exact wt_iret hx hb hr hlocks hP9 hD9 hS ⟨f2_32, rfl, x_33⟩ dX6_poured_91
    · skip
      have c_17 : q_13 = q_16 := (nI_eq (a := q_13) (b := q_16) (by omega) (by omega)).mp c_17
      refine lv_iload hx hb dX6_poured_51 (lv_at hl 0 rfl) ?_
      refine lv_goto (tgt := 57) hx hb dX6_poured_53 (by decide) ?_
      refine lv_istore (lv' := [(4, .int r_9), (3, .int ov_5), (0, .ref rw), (1, .int (nI j)), (2, .int (nI k))]) hx hb dX6_poured_57 hl (by decide) rfl (fun ls hl => ?_)
      refine lv_aload_n hx hb dX6_poured_59 rfl (lv_at hl 2 rfl) ?_
      refine lv_iload_n hx hb dX6_poured_60 rfl (lv_at hl 3 rfl) ?_
      refine lv_iconst (v := 4) hx hb dX6_poured_61 (by decide) ?_
      refine lv_aload_n hx hb dX6_poured_62 rfl (lv_at hl 2 rfl) ?_
      refine lv_iload_n hx hb dX6_poured_63 rfl (lv_at hl 3 rfl) ?_
      refine lv_iconst (v := 4) hx hb dX6_poured_64 (by decide) ?_
      refine wt_rS (As := [.ref rw, .int (nI j), .int 4]) (rest := [.int 4, .int (nI j), .ref rw]) ⟨hx, hb, hml, hown, hts⟩ (c_X6_of_w l D cI cZ cH rw R T f j 4 (by first | assumption | omega) (by first | assumption | omega) (by first | assumption | exact rq_rk (by assumption)) (by first | assumption | omega) (by first | assumption | omega)) (va_cwS 3 hts gX6_poured_X6_of rfl rfl rfl (by decide +kernel) ⟨Nat.le_of_ble_eq_true rfl, Nat.le_of_ble_eq_true rfl⟩) hK hP [0] rfl rfl hl.1 rfl (Nat.le_of_ble_eq_true rfl) dX6_poured_65 ⟨Nat.le_of_ble_eq_true rfl, Nat.le_of_ble_eq_true rfl⟩ (fun r_34 e_35 => ?_)
      refine lv_iload hx hb dX6_poured_68 (lv_at hl 0 rfl) ?_
      refine lv_isub hx hb dX6_poured_70 ?_
      refine lv_topi (fun ov_36 _ => ?_)
      refine wt_goV (wr := []) (wt_runS (As := [.ref rw, .int (nI j), .int 4, .int ov_36]) (rest := []) ⟨hx, hb, hml, hown, hts⟩ (c_X6_be_4q l D cI cZ cH rw R T f K P j ov_36 (by first | assumption | omega) (by first | assumption | omega) (by assumption) (by first | assumption | omega)) (va_cwS 4 hts gX6_poured_X6_be rfl rfl rfl (by decide +kernel) ⟨Nat.le_of_ble_eq_true rfl, Nat.le_of_ble_eq_true rfl⟩) hK hP hD [0] rfl (by decide) rfl hl.1 rfl (Nat.le_of_ble_eq_true rfl) dX6_poured_71 ⟨Nat.le_of_ble_eq_true rfl, Nat.le_of_ble_eq_true rfl⟩) hP hD hS hA [0] [] rfl rfl (by decide) (by decide) (fun w_38 H locs h_39 hP hD hS => ?_)
      obtain ⟨f2_40, rfl, x_41⟩ := h_39
      have hP : va_P D vwCl [(rw, .inl (cI, 45, .inl f2_40))] H := hP
      have hD : va_D A [(rw, .inl (cI, 45, .inl f2_40))] := hD
      refine lv_aload_n hx hb dX6_poured_74 rfl (lv_at hl 2 rfl) ?_
      refine lv_iload_n hx hb dX6_poured_75 rfl (lv_at hl 4 rfl) ?_
      refine lv_iconst (v := 4) hx hb dX6_poured_76 (by decide) ?_
      refine lv_aload_n hx hb dX6_poured_77 rfl (lv_at hl 2 rfl) ?_
      refine lv_iload_n hx hb dX6_poured_78 rfl (lv_at hl 4 rfl) ?_
      refine lv_iconst (v := 4) hx hb dX6_poured_79 (by decide) ?_
      refine wt_rS (As := [.ref rw, .int (nI k), .int 4]) (rest := [.int 4, .int (nI k), .ref rw]) ⟨hx, hb, hml, hown, hts⟩ (c_X6_of_w l D cI cZ cH rw R T f2_40 k 4 (by first | assumption | omega) (by first | assumption | omega) (by first | assumption | exact rq_rk (by assumption)) (by first | assumption | omega) (by first | assumption | omega)) (va_cwS 3 hts gX6_poured_X6_of rfl rfl rfl (by decide +kernel) ⟨Nat.le_of_ble_eq_true rfl, Nat.le_of_ble_eq_true rfl⟩) hK hP [0] rfl rfl hl.1 rfl (Nat.le_of_ble_eq_true rfl) dX6_poured_80 ⟨Nat.le_of_ble_eq_true rfl, Nat.le_of_ble_eq_true rfl⟩ (fun r_42 e_43 => ?_)
      refine lv_iload hx hb dX6_poured_83 (lv_at hl 0 rfl) ?_
      refine lv_iadd hx hb dX6_poured_85 ?_
      refine lv_topi (fun ov_44 _ => ?_)
      refine wt_goV (wr := []) (wt_runS (As := [.ref rw, .int (nI k), .int 4, .int ov_44]) (rest := []) ⟨hx, hb, hml, hown, hts⟩ (c_X6_be_4q l D cI cZ cH rw R T f2_40 K P k ov_44 (by first | assumption | omega) (by first | assumption | omega) (by assumption) (by first | assumption | omega)) (va_cwS 4 hts gX6_poured_X6_be rfl rfl rfl (by decide +kernel) ⟨Nat.le_of_ble_eq_true rfl, Nat.le_of_ble_eq_true rfl⟩) hK hP hD [0] rfl (by decide) rfl hl.1 rfl (Nat.le_of_ble_eq_true rfl) dX6_poured_86 ⟨Nat.le_of_ble_eq_true rfl, Nat.le_of_ble_eq_true rfl⟩) hP hD hS hA [0] [] rfl rfl (by decide) (by decide) (fun w_46 H locs h_47 hP hD hS => ?_)
      obtain ⟨f2_48, rfl, x_49⟩ := h_47
      have hP : va_P D vwCl [(rw, .inl (cI, 45, .inl f2_48))] H := hP
      have hD : va_D A [(rw, .inl (cI, 45, .inl f2_48))] := hD
      refine lv_iload hx hb dX6_poured_89 (lv_at hl 0 rfl) ?_
      have hP9 := hP.sub (ws' := [(rw, .inl (cI, 45, .inl f2_48))]) [0] rfl
      have hD9 := hD.sub (ws' := [(rw, .inl (cI, 45, .inl f2_48))]) [0] (by decide) rfl
      exact wt_iret hx hb hr hlocks hP9 hD9 hS ⟨f2_48, rfl, x_49⟩ dX6_poured_91
  · skip
    refine lv_iload_n hx hb dX6_poured_24 rfl (lv_at hl 0 rfl) ?_
    refine lv_goto (tgt := 34) hx hb dX6_poured_25 (by decide) ?_
    refine lv_istore (lv' := [(4, .int ov_5), (3, .int ov_5), (0, .ref rw), (1, .int (nI j)), (2, .int (nI k))]) hx hb dX6_poured_34 hl (by decide) rfl (fun ls hl => ?_)
    refine lv_aload_n hx hb dX6_poured_36 rfl (lv_at hl 2 rfl) ?_
    refine lv_iload_n hx hb dX6_poured_37 rfl (lv_at hl 3 rfl) ?_
    refine lv_iconst (v := 1) hx hb dX6_poured_38 (by decide) ?_
    refine wt_rS (As := [.ref rw, .int (nI j), .int 1]) (rest := []) ⟨hx, hb, hml, hown, hts⟩ (c_X6_of_1 l D cI cZ cH rw R T f j (by first | assumption | omega) (by first | assumption | omega) (by first | assumption | exact rq_rk (by assumption)) (by first | assumption | omega)) (va_cwS 3 hts gX6_poured_X6_of rfl rfl rfl (by decide +kernel) ⟨Nat.le_of_ble_eq_true rfl, Nat.le_of_ble_eq_true rfl⟩) hK hP [0] rfl rfl hl.1 rfl (Nat.le_of_ble_eq_true rfl) dX6_poured_39 ⟨Nat.le_of_ble_eq_true rfl, Nat.le_of_ble_eq_true rfl⟩ (fun r_50 e_51 => ?_)
    obtain ⟨q_52, e_51, rfl⟩ := e_51
    refine lv_aload_n hx hb dX6_poured_42 rfl (lv_at hl 2 rfl) ?_
    refine lv_iload_n hx hb dX6_poured_43 rfl (lv_at hl 4 rfl) ?_
    refine lv_iconst (v := 1) hx hb dX6_poured_44 (by decide) ?_
    refine wt_rS (As := [.ref rw, .int (nI k), .int 1]) (rest := [.int (nI q_52)]) ⟨hx, hb, hml, hown, hts⟩ (c_X6_of_1 l D cI cZ cH rw R T f k (by first | assumption | omega) (by first | assumption | omega) (by first | assumption | exact rq_rk (by assumption)) (by first | assumption | omega)) (va_cwS 3 hts gX6_poured_X6_of rfl rfl rfl (by decide +kernel) ⟨Nat.le_of_ble_eq_true rfl, Nat.le_of_ble_eq_true rfl⟩) hK hP [0] rfl rfl hl.1 rfl (Nat.le_of_ble_eq_true rfl) dX6_poured_45 ⟨Nat.le_of_ble_eq_true rfl, Nat.le_of_ble_eq_true rfl⟩ (fun r_53 e_54 => ?_)
    obtain ⟨q_55, e_54, rfl⟩ := e_54
    refine lv_icmp_ne (tgt := 56) hx hb dX6_poured_48 (by decide) (fun c_56 => ?_) (fun c_56 => ?_)
    · skip
      have c_56 : ¬ (q_52 = q_55) := fun h => c_56 ((nI_eq (a := q_52) (b := q_55) (by omega) (by omega)).mpr h)
      refine lv_iconst (v := 0) hx hb dX6_poured_56 (by decide) ?_
      refine lv_istore (lv' := [(4, .int 0), (3, .int ov_5), (0, .ref rw), (1, .int (nI j)), (2, .int (nI k))]) hx hb dX6_poured_57 hl (by decide) rfl (fun ls hl => ?_)
      refine lv_aload_n hx hb dX6_poured_59 rfl (lv_at hl 2 rfl) ?_
      refine lv_iload_n hx hb dX6_poured_60 rfl (lv_at hl 3 rfl) ?_
      refine lv_iconst (v := 4) hx hb dX6_poured_61 (by decide) ?_
      refine lv_aload_n hx hb dX6_poured_62 rfl (lv_at hl 2 rfl) ?_
      refine lv_iload_n hx hb dX6_poured_63 rfl (lv_at hl 3 rfl) ?_
      refine lv_iconst (v := 4) hx hb dX6_poured_64 (by decide) ?_
      refine wt_rS (As := [.ref rw, .int (nI j), .int 4]) (rest := [.int 4, .int (nI j), .ref rw]) ⟨hx, hb, hml, hown, hts⟩ (c_X6_of_w l D cI cZ cH rw R T f j 4 (by first | assumption | omega) (by first | assumption | omega) (by first | assumption | exact rq_rk (by assumption)) (by first | assumption | omega) (by first | assumption | omega)) (va_cwS 3 hts gX6_poured_X6_of rfl rfl rfl (by decide +kernel) ⟨Nat.le_of_ble_eq_true rfl, Nat.le_of_ble_eq_true rfl⟩) hK hP [0] rfl rfl hl.1 rfl (Nat.le_of_ble_eq_true rfl) dX6_poured_65 ⟨Nat.le_of_ble_eq_true rfl, Nat.le_of_ble_eq_true rfl⟩ (fun r_57 e_58 => ?_)
      refine lv_iload hx hb dX6_poured_68 (lv_at hl 0 rfl) ?_
      refine lv_isub hx hb dX6_poured_70 ?_
      refine lv_topi (fun ov_59 _ => ?_)
      refine wt_goV (wr := []) (wt_runS (As := [.ref rw, .int (nI j), .int 4, .int ov_59]) (rest := []) ⟨hx, hb, hml, hown, hts⟩ (c_X6_be_4q l D cI cZ cH rw R T f K P j ov_59 (by first | assumption | omega) (by first | assumption | omega) (by assumption) (by first | assumption | omega)) (va_cwS 4 hts gX6_poured_X6_be rfl rfl rfl (by decide +kernel) ⟨Nat.le_of_ble_eq_true rfl, Nat.le_of_ble_eq_true rfl⟩) hK hP hD [0] rfl (by decide) rfl hl.1 rfl (Nat.le_of_ble_eq_true rfl) dX6_poured_71 ⟨Nat.le_of_ble_eq_true rfl, Nat.le_of_ble_eq_true rfl⟩) hP hD hS hA [0] [] rfl rfl (by decide) (by decide) (fun w_61 H locs h_62 hP hD hS => ?_)
      obtain ⟨f2_63, rfl, x_64⟩ := h_62
      have hP : va_P D vwCl [(rw, .inl (cI, 45, .inl f2_63))] H := hP
      have hD : va_D A [(rw, .inl (cI, 45, .inl f2_63))] := hD
      refine lv_aload_n hx hb dX6_poured_74 rfl (lv_at hl 2 rfl) ?_
      refine lv_iload_n hx hb dX6_poured_75 rfl (lv_at hl 4 rfl) ?_
      refine lv_iconst (v := 4) hx hb dX6_poured_76 (by decide) ?_
      refine lv_aload_n hx hb dX6_poured_77 rfl (lv_at hl 2 rfl) ?_
      refine lv_iload_n hx hb dX6_poured_78 rfl (lv_at hl 4 rfl) ?_
      refine lv_iconst (v := 4) hx hb dX6_poured_79 (by decide) ?_
      refine wt_rS (As := [.ref rw, .int (nI k), .int 4]) (rest := [.int 4, .int (nI k), .ref rw]) ⟨hx, hb, hml, hown, hts⟩ (c_X6_of_w l D cI cZ cH rw R T f2_63 k 4 (by first | assumption | omega) (by first | assumption | omega) (by first | assumption | exact rq_rk (by assumption)) (by first | assumption | omega) (by first | assumption | omega)) (va_cwS 3 hts gX6_poured_X6_of rfl rfl rfl (by decide +kernel) ⟨Nat.le_of_ble_eq_true rfl, Nat.le_of_ble_eq_true rfl⟩) hK hP [0] rfl rfl hl.1 rfl (Nat.le_of_ble_eq_true rfl) dX6_poured_80 ⟨Nat.le_of_ble_eq_true rfl, Nat.le_of_ble_eq_true rfl⟩ (fun r_65 e_66 => ?_)
      refine lv_iload hx hb dX6_poured_83 (lv_at hl 0 rfl) ?_
      refine lv_iadd hx hb dX6_poured_85 ?_
      refine lv_topi (fun ov_67 _ => ?_)
      refine wt_goV (wr := []) (wt_runS (As := [.ref rw, .int (nI k), .int 4, .int ov_67]) (rest := []) ⟨hx, hb, hml, hown, hts⟩ (c_X6_be_4q l D cI cZ cH rw R T f2_63 K P k ov_67 (by first | assumption | omega) (by first | assumption | omega) (by assumption) (by first | assumption | omega)) (va_cwS 4 hts gX6_poured_X6_be rfl rfl rfl (by decide +kernel) ⟨Nat.le_of_ble_eq_true rfl, Nat.le_of_ble_eq_true rfl⟩) hK hP hD [0] rfl (by decide) rfl hl.1 rfl (Nat.le_of_ble_eq_true rfl) dX6_poured_86 ⟨Nat.le_of_ble_eq_true rfl, Nat.le_of_ble_eq_true rfl⟩) hP hD hS hA [0] [] rfl rfl (by decide) (by decide) (fun w_69 H locs h_70 hP hD hS => ?_)
      obtain ⟨f2_71, rfl, x_72⟩ := h_70
      have hP : va_P D vwCl [(rw, .inl (cI, 45, .inl f2_71))] H := hP
      have hD : va_D A [(rw, .inl (cI, 45, .inl f2_71))] := hD
      refine lv_iload hx hb dX6_poured_89 (lv_at hl 0 rfl) ?_
      have hP9 := hP.sub (ws' := [(rw, .inl (cI, 45, .inl f2_71))]) [0] rfl
      have hD9 := hD.sub (ws' := [(rw, .inl (cI, 45, .inl f2_71))]) [0] (by decide) rfl
      exact wt_iret hx hb hr hlocks hP9 hD9 hS ⟨f2_71, rfl, x_72⟩ dX6_poured_91
    · skip
      have c_56 : q_52 = q_55 := (nI_eq (a := q_52) (b := q_55) (by omega) (by omega)).mp c_56
      refine lv_iload hx hb dX6_poured_51 (lv_at hl 0 rfl) ?_
      refine lv_goto (tgt := 57) hx hb dX6_poured_53 (by decide) ?_
      refine lv_istore (lv' := [(4, .int ov_5), (3, .int ov_5), (0, .ref rw), (1, .int (nI j)), (2, .int (nI k))]) hx hb dX6_poured_57 hl (by decide) rfl (fun ls hl => ?_)
      refine lv_aload_n hx hb dX6_poured_59 rfl (lv_at hl 2 rfl) ?_
      refine lv_iload_n hx hb dX6_poured_60 rfl (lv_at hl 3 rfl) ?_
      refine lv_iconst (v := 4) hx hb dX6_poured_61 (by decide) ?_
      refine lv_aload_n hx hb dX6_poured_62 rfl (lv_at hl 2 rfl) ?_
      refine lv_iload_n hx hb dX6_poured_63 rfl (lv_at hl 3 rfl) ?_
      refine lv_iconst (v := 4) hx hb dX6_poured_64 (by decide) ?_
      refine wt_rS (As := [.ref rw, .int (nI j), .int 4]) (rest := [.int 4, .int (nI j), .ref rw]) ⟨hx, hb, hml, hown, hts⟩ (c_X6_of_w l D cI cZ cH rw R T f j 4 (by first | assumption | omega) (by first | assumption | omega) (by first | assumption | exact rq_rk (by assumption)) (by first | assumption | omega) (by first | assumption | omega)) (va_cwS 3 hts gX6_poured_X6_of rfl rfl rfl (by decide +kernel) ⟨Nat.le_of_ble_eq_true rfl, Nat.le_of_ble_eq_true rfl⟩) hK hP [0] rfl rfl hl.1 rfl (Nat.le_of_ble_eq_true rfl) dX6_poured_65 ⟨Nat.le_of_ble_eq_true rfl, Nat.le_of_ble_eq_true rfl⟩ (fun r_73 e_74 => ?_)
      refine lv_iload hx hb dX6_poured_68 (lv_at hl 0 rfl) ?_
      refine lv_isub hx hb dX6_poured_70 ?_
      refine lv_topi (fun ov_75 _ => ?_)
      refine wt_goV (wr := []) (wt_runS (As := [.ref rw, .int (nI j), .int 4, .int ov_75]) (rest := []) ⟨hx, hb, hml, hown, hts⟩ (c_X6_be_4q l D cI cZ cH rw R T f K P j ov_75 (by first | assumption | omega) (by first | assumption | omega) (by assumption) (by first | assumption | omega)) (va_cwS 4 hts gX6_poured_X6_be rfl rfl rfl (by decide +kernel) ⟨Nat.le_of_ble_eq_true rfl, Nat.le_of_ble_eq_true rfl⟩) hK hP hD [0] rfl (by decide) rfl hl.1 rfl (Nat.le_of_ble_eq_true rfl) dX6_poured_71 ⟨Nat.le_of_ble_eq_true rfl, Nat.le_of_ble_eq_true rfl⟩) hP hD hS hA [0] [] rfl rfl (by decide) (by decide) (fun w_77 H locs h_78 hP hD hS => ?_)
      obtain ⟨f2_79, rfl, x_80⟩ := h_78
      have hP : va_P D vwCl [(rw, .inl (cI, 45, .inl f2_79))] H := hP
      have hD : va_D A [(rw, .inl (cI, 45, .inl f2_79))] := hD
      refine lv_aload_n hx hb dX6_poured_74 rfl (lv_at hl 2 rfl) ?_
      refine lv_iload_n hx hb dX6_poured_75 rfl (lv_at hl 4 rfl) ?_
      refine lv_iconst (v := 4) hx hb dX6_poured_76 (by decide) ?_
      refine lv_aload_n hx hb dX6_poured_77 rfl (lv_at hl 2 rfl) ?_
      refine lv_iload_n hx hb dX6_poured_78 rfl (lv_at hl 4 rfl) ?_
      refine lv_iconst (v := 4) hx hb dX6_poured_79 (by decide) ?_
      refine wt_rS (As := [.ref rw, .int (nI k), .int 4]) (rest := [.int 4, .int (nI k), .ref rw]) ⟨hx, hb, hml, hown, hts⟩ (c_X6_of_w l D cI cZ cH rw R T f2_79 k 4 (by first | assumption | omega) (by first | assumption | omega) (by first | assumption | exact rq_rk (by assumption)) (by first | assumption | omega) (by first | assumption | omega)) (va_cwS 3 hts gX6_poured_X6_of rfl rfl rfl (by decide +kernel) ⟨Nat.le_of_ble_eq_true rfl, Nat.le_of_ble_eq_true rfl⟩) hK hP [0] rfl rfl hl.1 rfl (Nat.le_of_ble_eq_true rfl) dX6_poured_80 ⟨Nat.le_of_ble_eq_true rfl, Nat.le_of_ble_eq_true rfl⟩ (fun r_81 e_82 => ?_)
      refine lv_iload hx hb dX6_poured_83 (lv_at hl 0 rfl) ?_
      refine lv_iadd hx hb dX6_poured_85 ?_
      refine lv_topi (fun ov_83 _ => ?_)
      refine wt_goV (wr := []) (wt_runS (As := [.ref rw, .int (nI k), .int 4, .int ov_83]) (rest := []) ⟨hx, hb, hml, hown, hts⟩ (c_X6_be_4q l D cI cZ cH rw R T f2_79 K P k ov_83 (by first | assumption | omega) (by first | assumption | omega) (by assumption) (by first | assumption | omega)) (va_cwS 4 hts gX6_poured_X6_be rfl rfl rfl (by decide +kernel) ⟨Nat.le_of_ble_eq_true rfl, Nat.le_of_ble_eq_true rfl⟩) hK hP hD [0] rfl (by decide) rfl hl.1 rfl (Nat.le_of_ble_eq_true rfl) dX6_poured_86 ⟨Nat.le_of_ble_eq_true rfl, Nat.le_of_ble_eq_true rfl⟩) hP hD hS hA [0] [] rfl rfl (by decide) (by decide) (fun w_85 H locs h_86 hP hD hS => ?_)
      obtain ⟨f2_87, rfl, x_88⟩ := h_86
      have hP : va_P D vwCl [(rw, .inl (cI, 45, .inl f2_87))] H := hP
      have hD : va_D A [(rw, .inl (cI, 45, .inl f2_87))] := hD
      refine lv_iload hx hb dX6_poured_89 (lv_at hl 0 rfl) ?_
      have hP9 := hP.sub (ws' := [(rw, .inl (cI, 45, .inl f2_87))]) [0] rfl
      have hD9 := hD.sub (ws' := [(rw, .inl (cI, 45, .inl f2_87))]) [0] (by decide) rfl
      exact wt_iret hx hb hr hlocks hP9 hD9 hS ⟨f2_87, rfl, x_88⟩ dX6_poured_91
set_option maxHeartbeats 4000000 in
set_option maxRecDepth 100000 in
theorem c_X6_keep_q (l : Launch) (D : va_G) (cI cZ cH : ClassId) (md hs : Nat) (R T : Nat) (f K P : Nat → Int32) (ws : Nat) (ac : Nat) (wf : Nat → Int32) (vm_0 vm_1 vm_2 vm_3 vm_4 vm_6 vm_7 vm_10 vm_11 vm_12 vm_13 vm_14 vm_15 vm_16 vm_17 vm_18 vm_19 vm_20 vm_21 vm_22 vm_23 : Value) (hR5 : R ≤ 5) (hT6 : T ≤ 6) (hrq : rq K P R T f) (hac : ac ≤ 24) (hwq : wq K R T ac wf) : wt_M l yX6_keep wsX6_keep ({ frames := 0, cells := 0, slots := 0, locals := 0 } : Room) D (wt_T cI cZ cH) [.ref md] [(md, .inr (6, [vm_0, vm_1, vm_2, vm_3, vm_4, .ref hs, vm_6, vm_7, .ref ws, .int (nI ac), vm_10, vm_11, vm_12, vm_13, vm_14, vm_15, vm_16, vm_17, vm_18, vm_19, vm_20, vm_21, vm_22, vm_23])), (hs, .inl (cI, 45, .inl f)), (ws, .inl (cI, 1080, .inl wf))] (wt_QV D (fun w => ∃ (wf2 : Nat → Int32) (ac2 : Nat), w = [(md, .inr (6, [vm_0, vm_1, vm_2, vm_3, vm_4, .ref hs, vm_6, vm_7, .ref ws, .int (nI ac2), vm_10, vm_11, vm_12, vm_13, vm_14, vm_15, vm_16, vm_17, vm_18, vm_19, vm_20, vm_21, vm_22, vm_23])), (hs, .inl (cI, 45, .inl f)), (ws, .inl (cI, 1080, .inl wf2))] ∧ ac2 ≤ 24 ∧ 0 < ac2 ∧ wq K R T ac2 wf2)) := by
  refine wt_M.ofW (cc := cX6_keep) (maxL := 2) (ret := none) (by decide) rfl (Nat.le_of_ble_eq_true rfl) ?_
  intro p e s m below meth c A ls hx hb hr hts hown hlocks hml hnm hP hK hD hA hS hl
  have hP : va_P D vwCl [(md, .inr (6, [vm_0, vm_1, vm_2, vm_3, vm_4, .ref hs, vm_6, vm_7, .ref ws, .int (nI ac), vm_10, vm_11, vm_12, vm_13, vm_14, vm_15, vm_16, vm_17, vm_18, vm_19, vm_20, vm_21, vm_22, vm_23])), (hs, .inl (cI, 45, .inl f)), (ws, .inl (cI, 1080, .inl wf))] s.heap := hP
  have hown : s.vm.findClass RX6 = some m.cls := hown
  have hl : lv_has ls 2 [(0, .ref md)] := hl
  have hi6 : ∀ w ∈ u_ws RX6 TX6 24, w ∈ wsX6_keep := by decide +kernel
  have wf149 := hts (.fieldLink RX6 149 "WarmTubesModel" "acts" "I") (by decide +kernel)
  have wf19 := hts (.fieldLink RX6 19 "WarmTubesModel" "house" "[I") (by decide +kernel)
  have wf28 := hts (.fieldLink RX6 28 "WarmTubesModel" "was" "[I") (by decide +kernel)
  refine lv_aload_n hx hb dX6_keep_0 rfl (lv_at hl 0 rfl) ?_
  refine va_get (D := D) (ci := 6) (v := .int (nI ac)) (C := RX6) (T := TX6) (N := 24) hx hb hts hi6 hown hK.1 hP 0 rfl rfl 9 (by decide) wf149 (fun _ h9 => h9) rfl dX6_keep_1 ?_
  refine lv_bipush (v := 24) hx hb dX6_keep_4 (by decide) ?_
  refine lv_icmp_ne (tgt := 49) hx hb dX6_keep_6 (by decide) (fun c_1 => ?_) (fun c_1 => ?_)
  · skip
    have c_1 : ¬ (ac = 24) := fun h => c_1 ((nI_eq (a := ac) (b := 24) (by omega) (by omega)).mpr h)
    refine lv_iconst (v := 0) hx hb dX6_keep_49 (by decide) ?_
    refine lv_istore_n (lv' := [(1, .int 0), (0, .ref md)]) hx hb dX6_keep_50 rfl hl (by decide) rfl (fun ls hl => ?_)
    have loop51 : ∀ (k i_2 : Nat) (wf_3 : Nat → Int32) (H : Heap) (locs : List Loc) (ls : Array Slot), i_2 + k = 45 → (cpd i_2 (45 * ac) 0 wf_3 f) → (∀ k, k < 45 * ac → wf_3 k = wf k) → va_P D vwCl [(md, .inr (6, [vm_0, vm_1, vm_2, vm_3, vm_4, .ref hs, vm_6, vm_7, .ref ws, .int (nI ac), vm_10, vm_11, vm_12, vm_13, vm_14, vm_15, vm_16, vm_17, vm_18, vm_19, vm_20, vm_21, vm_22, vm_23])), (hs, .inl (cI, 45, .inl f)), (ws, .inl (cI, 1080, .inl wf_3))] H → va_D A [(md, .inr (6, [vm_0, vm_1, vm_2, vm_3, vm_4, .ref hs, vm_6, vm_7, .ref ws, .int (nI ac), vm_10, vm_11, vm_12, vm_13, vm_14, vm_15, vm_16, vm_17, vm_18, vm_19, vm_20, vm_21, vm_22, vm_23])), (hs, .inl (cI, 45, .inl f)), (ws, .inl (cI, 1080, .inl wf_3))] → va_S A s.heap H locs → lv_has ls 2 [(1, .int (nI i_2)), (0, .ref md)] → W p l e ({ frames := 0, cells := 0, slots := 0, locals := 0 } : Room) s m ([.ref md] : List Value).toArray below meth c H locs 0 0 (MQ below (wt_QV D (fun w => ∃ (wf2 : Nat → Int32) (ac2 : Nat), w = [(md, .inr (6, [vm_0, vm_1, vm_2, vm_3, vm_4, .ref hs, vm_6, vm_7, .ref ws, .int (nI ac2), vm_10, vm_11, vm_12, vm_13, vm_14, vm_15, vm_16, vm_17, vm_18, vm_19, vm_20, vm_21, vm_22, vm_23])), (hs, .inl (cI, 45, .inl f)), (ws, .inl (cI, 1080, .inl wf2))] ∧ ac2 ≤ 24 ∧ 0 < ac2 ∧ wq K R T ac2 wf2) A) ([.ref md] : List Value).toArray s 0 0 A) (F0 m 51 ls []) := by
      intro k
      induction k with
      | zero =>
        intro i_2 wf_3 H locs ls hik hcp hou hP hD hS hl
        refine lv_iload_n hx hb dX6_keep_51 rfl (lv_at hl 0 rfl) ?_
        refine lv_bipush (v := 45) hx hb dX6_keep_52 (by decide) ?_
        refine lv_icmp_ge (tgt := 83) hx hb dX6_keep_54 (by decide) (fun _ => ?_) (fun h => absurd (nI_le (a := 45) (b := i_2) (by omega) (by omega)) h)
        refine lv_aload_n hx hb dX6_keep_83 rfl (lv_at hl 1 rfl) ?_
        refine lv_dup hx hb dX6_keep_84 rfl ?_
        refine va_get (D := D) (ci := 6) (v := .int (nI ac)) (C := RX6) (T := TX6) (N := 24) hx hb hts hi6 hown hK.1 hP 0 rfl rfl 9 (by decide) wf149 (fun _ h9 => h9) rfl dX6_keep_85 ?_
        refine lv_iconst (v := 1) hx hb dX6_keep_88 (by decide) ?_
        refine lv_iadd hx hb dX6_keep_89 ?_
        refine wt_top (z := nI (ac + 1)) (nI_add ac 1) ?_
        refine va_put (D := D) (ci := 6) (v := .int (nI (ac + 1))) (ty := .int) (C := RX6) (T := TX6) (N := 24) hx hb hts hi6 tyX6 tyX6_ok nmX6 hown hK.1 hP hD hS 0 rfl rfl 9 (by decide) wf149 (fun _ h9 => h9) rfl (by decide +kernel) rfl rfl (Nat.le_of_ble_eq_true rfl) dX6_keep_90 (fun H locs hP hD hS => ?_)
        have hP : va_P D vwCl [(md, .inr (6, [vm_0, vm_1, vm_2, vm_3, vm_4, .ref hs, vm_6, vm_7, .ref ws, .int (nI (ac + 1)), vm_10, vm_11, vm_12, vm_13, vm_14, vm_15, vm_16, vm_17, vm_18, vm_19, vm_20, vm_21, vm_22, vm_23])), (hs, .inl (cI, 45, .inl f)), (ws, .inl (cI, 1080, .inl wf_3))] H := hP
        have hD : va_D A [(md, .inr (6, [vm_0, vm_1, vm_2, vm_3, vm_4, .ref hs, vm_6, vm_7, .ref ws, .int (nI (ac + 1)), vm_10, vm_11, vm_12, vm_13, vm_14, vm_15, vm_16, vm_17, vm_18, vm_19, vm_20, vm_21, vm_22, vm_23])), (hs, .inl (cI, 45, .inl f)), (ws, .inl (cI, 1080, .inl wf_3))] := hD
        have hP9 := hP.sub (ws' := [(md, .inr (6, [vm_0, vm_1, vm_2, vm_3, vm_4, .ref hs, vm_6, vm_7, .ref ws, .int (nI (ac + 1)), vm_10, vm_11, vm_12, vm_13, vm_14, vm_15, vm_16, vm_17, vm_18, vm_19, vm_20, vm_21, vm_22, vm_23])), (hs, .inl (cI, 45, .inl f)), (ws, .inl (cI, 1080, .inl wf_3))]) [0, 1, 2] rfl
        have hD9 := hD.sub (ws' := [(md, .inr (6, [vm_0, vm_1, vm_2, vm_3, vm_4, .ref hs, vm_6, vm_7, .ref ws, .int (nI (ac + 1)), vm_10, vm_11, vm_12, vm_13, vm_14, vm_15, vm_16, vm_17, vm_18, vm_19, vm_20, vm_21, vm_22, vm_23])), (hs, .inl (cI, 45, .inl f)), (ws, .inl (cI, 1080, .inl wf_3))]) [0, 1, 2] (by decide) rfl
        exact wt_vret hx hb hr hlocks hP9 hD9 hS ⟨wf_3, (ac + 1), rfl, ⟨by omega, by omega, wq_put hwq hrq hcp (by omega) hou⟩⟩ dX6_keep_93
      | succ k ih51 =>
        intro i_2 wf_3 H locs ls hik hcp hou hP hD hS hl
        refine lv_iload_n hx hb dX6_keep_51 rfl (lv_at hl 0 rfl) ?_
        refine lv_bipush (v := 45) hx hb dX6_keep_52 (by decide) ?_
        refine lv_icmp_ge (tgt := 83) hx hb dX6_keep_54 (by decide) (fun h => absurd h (nI_ge (a := i_2) (b := 45) (by omega) (by omega))) (fun _ => ?_)
        refine lv_aload_n hx hb dX6_keep_57 rfl (lv_at hl 1 rfl) ?_
        refine va_get (D := D) (ci := 6) (v := .ref ws) (C := RX6) (T := TX6) (N := 24) hx hb hts hi6 hown hK.1 hP 0 rfl rfl 8 (by decide) wf28 (fun _ h9 => h9) rfl dX6_keep_58 ?_
        refine lv_bipush (v := 45) hx hb dX6_keep_61 (by decide) ?_
        refine lv_aload_n hx hb dX6_keep_63 rfl (lv_at hl 1 rfl) ?_
        refine va_get (D := D) (ci := 6) (v := .int (nI ac)) (C := RX6) (T := TX6) (N := 24) hx hb hts hi6 hown hK.1 hP 0 rfl rfl 9 (by decide) wf149 (fun _ h9 => h9) rfl dX6_keep_64 ?_
        refine lv_imul hx hb dX6_keep_67 ?_
        refine wt_top (z := nI (45 * ac)) (pk_mul 45 ac) ?_
        refine lv_iload_n hx hb dX6_keep_68 rfl (lv_at hl 0 rfl) ?_
        refine lv_iadd hx hb dX6_keep_69 ?_
        refine wt_top (z := nI ((45 * ac) + i_2)) (nI_add (45 * ac) i_2) ?_
        refine lv_aload_n hx hb dX6_keep_70 rfl (lv_at hl 1 rfl) ?_
        refine va_get (D := D) (ci := 6) (v := .ref hs) (C := RX6) (T := TX6) (N := 24) hx hb hts hi6 hown hK.1 hP 0 rfl rfl 5 (by decide) wf19 (fun _ h9 => h9) rfl dX6_keep_71 ?_
        refine lv_iload_n hx hb dX6_keep_74 rfl (lv_at hl 0 rfl) ?_
        refine va_iald hx hb hK.1 hP 1 0 rfl rfl (vp_in_nI (by omega) (by omega)) dX6_keep_75 ?_
        refine wt_top (z := f (0 + i_2)) (by rw [nI_clamp (by omega)]; first | rw [Nat.zero_add] | skip) ?_
        refine va_iast hx hb hK.1 hP hD hS 2 0 rfl rfl (vp_in_nI (by omega) (by omega)) dX6_keep_76 (fun H locs hP hD hS => ?_)
        have hP : va_P D vwCl [(md, .inr (6, [vm_0, vm_1, vm_2, vm_3, vm_4, .ref hs, vm_6, vm_7, .ref ws, .int (nI ac), vm_10, vm_11, vm_12, vm_13, vm_14, vm_15, vm_16, vm_17, vm_18, vm_19, vm_20, vm_21, vm_22, vm_23])), (hs, .inl (cI, 45, .inl f)), (ws, .inl (cI, 1080, .inl (upd wf_3 ((nI ((45 * ac) + i_2)).toNatClampNeg) (f (0 + i_2)))))] H := hP
        have hD : va_D A [(md, .inr (6, [vm_0, vm_1, vm_2, vm_3, vm_4, .ref hs, vm_6, vm_7, .ref ws, .int (nI ac), vm_10, vm_11, vm_12, vm_13, vm_14, vm_15, vm_16, vm_17, vm_18, vm_19, vm_20, vm_21, vm_22, vm_23])), (hs, .inl (cI, 45, .inl f)), (ws, .inl (cI, 1080, .inl (upd wf_3 ((nI ((45 * ac) + i_2)).toNatClampNeg) (f (0 + i_2)))))] := hD
        rw [nI_clamp (n := ((45 * ac) + i_2)) (by omega)] at hP hD
        have hP : va_P D vwCl [(md, .inr (6, [vm_0, vm_1, vm_2, vm_3, vm_4, .ref hs, vm_6, vm_7, .ref ws, .int (nI ac), vm_10, vm_11, vm_12, vm_13, vm_14, vm_15, vm_16, vm_17, vm_18, vm_19, vm_20, vm_21, vm_22, vm_23])), (hs, .inl (cI, 45, .inl f)), (ws, .inl (cI, 1080, .inl (upd wf_3 ((45 * ac) + i_2) (f (0 + i_2)))))] H := hP
        have hD : va_D A [(md, .inr (6, [vm_0, vm_1, vm_2, vm_3, vm_4, .ref hs, vm_6, vm_7, .ref ws, .int (nI ac), vm_10, vm_11, vm_12, vm_13, vm_14, vm_15, vm_16, vm_17, vm_18, vm_19, vm_20, vm_21, vm_22, vm_23])), (hs, .inl (cI, 45, .inl f)), (ws, .inl (cI, 1080, .inl (upd wf_3 ((45 * ac) + i_2) (f (0 + i_2)))))] := hD
        refine lv_iinc (v := nI (i_2 + 1)) (lv' := [(1, .int (nI (i_2 + 1))), (0, .ref md)]) hx hb dX6_keep_77 hl (k := 0) rfl (nI_add i_2 1) (by decide) rfl (fun ls hl => ?_)
        refine lv_goto (tgt := 51) hx hb dX6_keep_80 (by decide) ?_
        exact ih51 ((i_2 + 1)) (upd wf_3 ((45 * ac) + i_2) (f (0 + i_2))) H locs ls (by omega) (cpd_s hcp) (wk_out (n := 0) hou) hP hD hS (lv_sub hl [0, 1] rfl)
    exact loop51 (45 - 0) (0) wf _ _ ls (by omega) cpd_0 (fun _ _ => rfl) hP hD hS hl
  · skip
    have c_1 : ac = 24 := (nI_eq (a := ac) (b := 24) (by omega) (by omega)).mp c_1
    refine lv_iconst (v := 0) hx hb dX6_keep_9 (by decide) ?_
    refine lv_istore_n (lv' := [(1, .int 0), (0, .ref md)]) hx hb dX6_keep_10 rfl hl (by decide) rfl (fun ls hl => ?_)
    have loop11 : ∀ (k i_4 : Nat) (wf_5 : Nat → Int32) (H : Heap) (locs : List Loc) (ls : Array Slot), i_4 + k = 1035 → (shd i_4 wf_5 wf) → va_P D vwCl [(md, .inr (6, [vm_0, vm_1, vm_2, vm_3, vm_4, .ref hs, vm_6, vm_7, .ref ws, .int (nI ac), vm_10, vm_11, vm_12, vm_13, vm_14, vm_15, vm_16, vm_17, vm_18, vm_19, vm_20, vm_21, vm_22, vm_23])), (hs, .inl (cI, 45, .inl f)), (ws, .inl (cI, 1080, .inl wf_5))] H → va_D A [(md, .inr (6, [vm_0, vm_1, vm_2, vm_3, vm_4, .ref hs, vm_6, vm_7, .ref ws, .int (nI ac), vm_10, vm_11, vm_12, vm_13, vm_14, vm_15, vm_16, vm_17, vm_18, vm_19, vm_20, vm_21, vm_22, vm_23])), (hs, .inl (cI, 45, .inl f)), (ws, .inl (cI, 1080, .inl wf_5))] → va_S A s.heap H locs → lv_has ls 2 [(1, .int (nI i_4)), (0, .ref md)] → W p l e ({ frames := 0, cells := 0, slots := 0, locals := 0 } : Room) s m ([.ref md] : List Value).toArray below meth c H locs 0 0 (MQ below (wt_QV D (fun w => ∃ (wf2 : Nat → Int32) (ac2 : Nat), w = [(md, .inr (6, [vm_0, vm_1, vm_2, vm_3, vm_4, .ref hs, vm_6, vm_7, .ref ws, .int (nI ac2), vm_10, vm_11, vm_12, vm_13, vm_14, vm_15, vm_16, vm_17, vm_18, vm_19, vm_20, vm_21, vm_22, vm_23])), (hs, .inl (cI, 45, .inl f)), (ws, .inl (cI, 1080, .inl wf2))] ∧ ac2 ≤ 24 ∧ 0 < ac2 ∧ wq K R T ac2 wf2) A) ([.ref md] : List Value).toArray s 0 0 A) (F0 m 11 ls []) := by
      intro k
      induction k with
      | zero =>
        intro i_4 wf_5 H locs ls hik hsh hP hD hS hl
        refine lv_iload_n hx hb dX6_keep_11 rfl (lv_at hl 0 rfl) ?_
        refine lv_sipush (v := 1035) hx hb dX6_keep_12 (by decide) ?_
        refine lv_icmp_ge (tgt := 39) hx hb dX6_keep_15 (by decide) (fun _ => ?_) (fun h => absurd (nI_le (a := 1035) (b := i_4) (by omega) (by omega)) h)
        have hwk1 : wq K R T (ac - 1) wf_5 := wq_sh hwq hsh (by omega) (by omega)
        refine lv_aload_n hx hb dX6_keep_39 rfl (lv_at hl 1 rfl) ?_
        refine lv_dup hx hb dX6_keep_40 rfl ?_
        refine va_get (D := D) (ci := 6) (v := .int (nI ac)) (C := RX6) (T := TX6) (N := 24) hx hb hts hi6 hown hK.1 hP 0 rfl rfl 9 (by decide) wf149 (fun _ h9 => h9) rfl dX6_keep_41 ?_
        refine lv_iconst (v := 1) hx hb dX6_keep_44 (by decide) ?_
        refine lv_isub hx hb dX6_keep_45 ?_
        refine wt_top (z := nI (ac - 1)) (pk_sub (a := ac) (b := 1) (by omega)) ?_
        refine va_put (D := D) (ci := 6) (v := .int (nI (ac - 1))) (ty := .int) (C := RX6) (T := TX6) (N := 24) hx hb hts hi6 tyX6 tyX6_ok nmX6 hown hK.1 hP hD hS 0 rfl rfl 9 (by decide) wf149 (fun _ h9 => h9) rfl (by decide +kernel) rfl rfl (Nat.le_of_ble_eq_true rfl) dX6_keep_46 (fun H locs hP hD hS => ?_)
        have hP : va_P D vwCl [(md, .inr (6, [vm_0, vm_1, vm_2, vm_3, vm_4, .ref hs, vm_6, vm_7, .ref ws, .int (nI (ac - 1)), vm_10, vm_11, vm_12, vm_13, vm_14, vm_15, vm_16, vm_17, vm_18, vm_19, vm_20, vm_21, vm_22, vm_23])), (hs, .inl (cI, 45, .inl f)), (ws, .inl (cI, 1080, .inl wf_5))] H := hP
        have hD : va_D A [(md, .inr (6, [vm_0, vm_1, vm_2, vm_3, vm_4, .ref hs, vm_6, vm_7, .ref ws, .int (nI (ac - 1)), vm_10, vm_11, vm_12, vm_13, vm_14, vm_15, vm_16, vm_17, vm_18, vm_19, vm_20, vm_21, vm_22, vm_23])), (hs, .inl (cI, 45, .inl f)), (ws, .inl (cI, 1080, .inl wf_5))] := hD
        refine lv_iconst (v := 0) hx hb dX6_keep_49 (by decide) ?_
        refine lv_istore_n (lv' := [(1, .int 0), (0, .ref md)]) hx hb dX6_keep_50 rfl hl (by decide) rfl (fun ls hl => ?_)
        have loop51 : ∀ (k i_6 : Nat) (wf_5_7 : Nat → Int32) (H : Heap) (locs : List Loc) (ls : Array Slot), i_6 + k = 45 → (cpd i_6 (45 * (ac - 1)) 0 wf_5_7 f) → (∀ k, k < 45 * (ac - 1) → wf_5_7 k = wf_5 k) → va_P D vwCl [(md, .inr (6, [vm_0, vm_1, vm_2, vm_3, vm_4, .ref hs, vm_6, vm_7, .ref ws, .int (nI (ac - 1)), vm_10, vm_11, vm_12, vm_13, vm_14, vm_15, vm_16, vm_17, vm_18, vm_19, vm_20, vm_21, vm_22, vm_23])), (hs, .inl (cI, 45, .inl f)), (ws, .inl (cI, 1080, .inl wf_5_7))] H → va_D A [(md, .inr (6, [vm_0, vm_1, vm_2, vm_3, vm_4, .ref hs, vm_6, vm_7, .ref ws, .int (nI (ac - 1)), vm_10, vm_11, vm_12, vm_13, vm_14, vm_15, vm_16, vm_17, vm_18, vm_19, vm_20, vm_21, vm_22, vm_23])), (hs, .inl (cI, 45, .inl f)), (ws, .inl (cI, 1080, .inl wf_5_7))] → va_S A s.heap H locs → lv_has ls 2 [(1, .int (nI i_6)), (0, .ref md)] → W p l e ({ frames := 0, cells := 0, slots := 0, locals := 0 } : Room) s m ([.ref md] : List Value).toArray below meth c H locs 0 0 (MQ below (wt_QV D (fun w => ∃ (wf2 : Nat → Int32) (ac2 : Nat), w = [(md, .inr (6, [vm_0, vm_1, vm_2, vm_3, vm_4, .ref hs, vm_6, vm_7, .ref ws, .int (nI ac2), vm_10, vm_11, vm_12, vm_13, vm_14, vm_15, vm_16, vm_17, vm_18, vm_19, vm_20, vm_21, vm_22, vm_23])), (hs, .inl (cI, 45, .inl f)), (ws, .inl (cI, 1080, .inl wf2))] ∧ ac2 ≤ 24 ∧ 0 < ac2 ∧ wq K R T ac2 wf2) A) ([.ref md] : List Value).toArray s 0 0 A) (F0 m 51 ls []) := by
          intro k
          induction k with
          | zero =>
            intro i_6 wf_5_7 H locs ls hik hcp hou hP hD hS hl
            refine lv_iload_n hx hb dX6_keep_51 rfl (lv_at hl 0 rfl) ?_
            refine lv_bipush (v := 45) hx hb dX6_keep_52 (by decide) ?_
            refine lv_icmp_ge (tgt := 83) hx hb dX6_keep_54 (by decide) (fun _ => ?_) (fun h => absurd (nI_le (a := 45) (b := i_6) (by omega) (by omega)) h)
            refine lv_aload_n hx hb dX6_keep_83 rfl (lv_at hl 1 rfl) ?_
            refine lv_dup hx hb dX6_keep_84 rfl ?_
            refine va_get (D := D) (ci := 6) (v := .int (nI (ac - 1))) (C := RX6) (T := TX6) (N := 24) hx hb hts hi6 hown hK.1 hP 0 rfl rfl 9 (by decide) wf149 (fun _ h9 => h9) rfl dX6_keep_85 ?_
            refine lv_iconst (v := 1) hx hb dX6_keep_88 (by decide) ?_
            refine lv_iadd hx hb dX6_keep_89 ?_
            refine wt_top (z := nI ((ac - 1) + 1)) (nI_add (ac - 1) 1) ?_
            refine va_put (D := D) (ci := 6) (v := .int (nI ((ac - 1) + 1))) (ty := .int) (C := RX6) (T := TX6) (N := 24) hx hb hts hi6 tyX6 tyX6_ok nmX6 hown hK.1 hP hD hS 0 rfl rfl 9 (by decide) wf149 (fun _ h9 => h9) rfl (by decide +kernel) rfl rfl (Nat.le_of_ble_eq_true rfl) dX6_keep_90 (fun H locs hP hD hS => ?_)
            have hP : va_P D vwCl [(md, .inr (6, [vm_0, vm_1, vm_2, vm_3, vm_4, .ref hs, vm_6, vm_7, .ref ws, .int (nI ((ac - 1) + 1)), vm_10, vm_11, vm_12, vm_13, vm_14, vm_15, vm_16, vm_17, vm_18, vm_19, vm_20, vm_21, vm_22, vm_23])), (hs, .inl (cI, 45, .inl f)), (ws, .inl (cI, 1080, .inl wf_5_7))] H := hP
            have hD : va_D A [(md, .inr (6, [vm_0, vm_1, vm_2, vm_3, vm_4, .ref hs, vm_6, vm_7, .ref ws, .int (nI ((ac - 1) + 1)), vm_10, vm_11, vm_12, vm_13, vm_14, vm_15, vm_16, vm_17, vm_18, vm_19, vm_20, vm_21, vm_22, vm_23])), (hs, .inl (cI, 45, .inl f)), (ws, .inl (cI, 1080, .inl wf_5_7))] := hD
            have hP9 := hP.sub (ws' := [(md, .inr (6, [vm_0, vm_1, vm_2, vm_3, vm_4, .ref hs, vm_6, vm_7, .ref ws, .int (nI ((ac - 1) + 1)), vm_10, vm_11, vm_12, vm_13, vm_14, vm_15, vm_16, vm_17, vm_18, vm_19, vm_20, vm_21, vm_22, vm_23])), (hs, .inl (cI, 45, .inl f)), (ws, .inl (cI, 1080, .inl wf_5_7))]) [0, 1, 2] rfl
            have hD9 := hD.sub (ws' := [(md, .inr (6, [vm_0, vm_1, vm_2, vm_3, vm_4, .ref hs, vm_6, vm_7, .ref ws, .int (nI ((ac - 1) + 1)), vm_10, vm_11, vm_12, vm_13, vm_14, vm_15, vm_16, vm_17, vm_18, vm_19, vm_20, vm_21, vm_22, vm_23])), (hs, .inl (cI, 45, .inl f)), (ws, .inl (cI, 1080, .inl wf_5_7))]) [0, 1, 2] (by decide) rfl
            exact wt_vret hx hb hr hlocks hP9 hD9 hS ⟨wf_5_7, ((ac - 1) + 1), rfl, ⟨by omega, by omega, wq_put hwk1 hrq hcp (by omega) hou⟩⟩ dX6_keep_93
          | succ k ih51 =>
            intro i_6 wf_5_7 H locs ls hik hcp hou hP hD hS hl
            refine lv_iload_n hx hb dX6_keep_51 rfl (lv_at hl 0 rfl) ?_
            refine lv_bipush (v := 45) hx hb dX6_keep_52 (by decide) ?_
            refine lv_icmp_ge (tgt := 83) hx hb dX6_keep_54 (by decide) (fun h => absurd h (nI_ge (a := i_6) (b := 45) (by omega) (by omega))) (fun _ => ?_)
            refine lv_aload_n hx hb dX6_keep_57 rfl (lv_at hl 1 rfl) ?_
            refine va_get (D := D) (ci := 6) (v := .ref ws) (C := RX6) (T := TX6) (N := 24) hx hb hts hi6 hown hK.1 hP 0 rfl rfl 8 (by decide) wf28 (fun _ h9 => h9) rfl dX6_keep_58 ?_
            refine lv_bipush (v := 45) hx hb dX6_keep_61 (by decide) ?_
            refine lv_aload_n hx hb dX6_keep_63 rfl (lv_at hl 1 rfl) ?_
            refine va_get (D := D) (ci := 6) (v := .int (nI (ac - 1))) (C := RX6) (T := TX6) (N := 24) hx hb hts hi6 hown hK.1 hP 0 rfl rfl 9 (by decide) wf149 (fun _ h9 => h9) rfl dX6_keep_64 ?_
            refine lv_imul hx hb dX6_keep_67 ?_
            refine wt_top (z := nI (45 * (ac - 1))) (pk_mul 45 (ac - 1)) ?_
            refine lv_iload_n hx hb dX6_keep_68 rfl (lv_at hl 0 rfl) ?_
            refine lv_iadd hx hb dX6_keep_69 ?_
            refine wt_top (z := nI ((45 * (ac - 1)) + i_6)) (nI_add (45 * (ac - 1)) i_6) ?_
            refine lv_aload_n hx hb dX6_keep_70 rfl (lv_at hl 1 rfl) ?_
            refine va_get (D := D) (ci := 6) (v := .ref hs) (C := RX6) (T := TX6) (N := 24) hx hb hts hi6 hown hK.1 hP 0 rfl rfl 5 (by decide) wf19 (fun _ h9 => h9) rfl dX6_keep_71 ?_
            refine lv_iload_n hx hb dX6_keep_74 rfl (lv_at hl 0 rfl) ?_
            refine va_iald hx hb hK.1 hP 1 0 rfl rfl (vp_in_nI (by omega) (by omega)) dX6_keep_75 ?_
            refine wt_top (z := f (0 + i_6)) (by rw [nI_clamp (by omega)]; first | rw [Nat.zero_add] | skip) ?_
            refine va_iast hx hb hK.1 hP hD hS 2 0 rfl rfl (vp_in_nI (by omega) (by omega)) dX6_keep_76 (fun H locs hP hD hS => ?_)
            have hP : va_P D vwCl [(md, .inr (6, [vm_0, vm_1, vm_2, vm_3, vm_4, .ref hs, vm_6, vm_7, .ref ws, .int (nI (ac - 1)), vm_10, vm_11, vm_12, vm_13, vm_14, vm_15, vm_16, vm_17, vm_18, vm_19, vm_20, vm_21, vm_22, vm_23])), (hs, .inl (cI, 45, .inl f)), (ws, .inl (cI, 1080, .inl (upd wf_5_7 ((nI ((45 * (ac - 1)) + i_6)).toNatClampNeg) (f (0 + i_6)))))] H := hP
            have hD : va_D A [(md, .inr (6, [vm_0, vm_1, vm_2, vm_3, vm_4, .ref hs, vm_6, vm_7, .ref ws, .int (nI (ac - 1)), vm_10, vm_11, vm_12, vm_13, vm_14, vm_15, vm_16, vm_17, vm_18, vm_19, vm_20, vm_21, vm_22, vm_23])), (hs, .inl (cI, 45, .inl f)), (ws, .inl (cI, 1080, .inl (upd wf_5_7 ((nI ((45 * (ac - 1)) + i_6)).toNatClampNeg) (f (0 + i_6)))))] := hD
            rw [nI_clamp (n := ((45 * (ac - 1)) + i_6)) (by omega)] at hP hD
            have hP : va_P D vwCl [(md, .inr (6, [vm_0, vm_1, vm_2, vm_3, vm_4, .ref hs, vm_6, vm_7, .ref ws, .int (nI (ac - 1)), vm_10, vm_11, vm_12, vm_13, vm_14, vm_15, vm_16, vm_17, vm_18, vm_19, vm_20, vm_21, vm_22, vm_23])), (hs, .inl (cI, 45, .inl f)), (ws, .inl (cI, 1080, .inl (upd wf_5_7 ((45 * (ac - 1)) + i_6) (f (0 + i_6)))))] H := hP
            have hD : va_D A [(md, .inr (6, [vm_0, vm_1, vm_2, vm_3, vm_4, .ref hs, vm_6, vm_7, .ref ws, .int (nI (ac - 1)), vm_10, vm_11, vm_12, vm_13, vm_14, vm_15, vm_16, vm_17, vm_18, vm_19, vm_20, vm_21, vm_22, vm_23])), (hs, .inl (cI, 45, .inl f)), (ws, .inl (cI, 1080, .inl (upd wf_5_7 ((45 * (ac - 1)) + i_6) (f (0 + i_6)))))] := hD
            refine lv_iinc (v := nI (i_6 + 1)) (lv' := [(1, .int (nI (i_6 + 1))), (0, .ref md)]) hx hb dX6_keep_77 hl (k := 0) rfl (nI_add i_6 1) (by decide) rfl (fun ls hl => ?_)
            refine lv_goto (tgt := 51) hx hb dX6_keep_80 (by decide) ?_
            exact ih51 ((i_6 + 1)) (upd wf_5_7 ((45 * (ac - 1)) + i_6) (f (0 + i_6))) H locs ls (by omega) (cpd_s hcp) (wk_out (n := 0) hou) hP hD hS (lv_sub hl [0, 1] rfl)
        exact loop51 (45 - 0) (0) wf_5 _ _ ls (by omega) cpd_0 (fun _ _ => rfl) hP hD hS hl
      | succ k ih11 =>
        intro i_4 wf_5 H locs ls hik hsh hP hD hS hl
        refine lv_iload_n hx hb dX6_keep_11 rfl (lv_at hl 0 rfl) ?_
        refine lv_sipush (v := 1035) hx hb dX6_keep_12 (by decide) ?_
        refine lv_icmp_ge (tgt := 39) hx hb dX6_keep_15 (by decide) (fun h => absurd h (nI_ge (a := i_4) (b := 1035) (by omega) (by omega))) (fun _ => ?_)
        refine lv_aload_n hx hb dX6_keep_18 rfl (lv_at hl 1 rfl) ?_
        refine va_get (D := D) (ci := 6) (v := .ref ws) (C := RX6) (T := TX6) (N := 24) hx hb hts hi6 hown hK.1 hP 0 rfl rfl 8 (by decide) wf28 (fun _ h9 => h9) rfl dX6_keep_19 ?_
        refine lv_iload_n hx hb dX6_keep_22 rfl (lv_at hl 0 rfl) ?_
        refine lv_aload_n hx hb dX6_keep_23 rfl (lv_at hl 1 rfl) ?_
        refine va_get (D := D) (ci := 6) (v := .ref ws) (C := RX6) (T := TX6) (N := 24) hx hb hts hi6 hown hK.1 hP 0 rfl rfl 8 (by decide) wf28 (fun _ h9 => h9) rfl dX6_keep_24 ?_
        refine lv_iload_n hx hb dX6_keep_27 rfl (lv_at hl 0 rfl) ?_
        refine lv_bipush (v := 45) hx hb dX6_keep_28 (by decide) ?_
        refine lv_iadd hx hb dX6_keep_30 ?_
        refine wt_top (z := nI (i_4 + 45)) (nI_add i_4 45) ?_
        refine va_iald hx hb hK.1 hP 2 0 rfl rfl (vp_in_nI (by omega) (by omega)) dX6_keep_31 ?_
        refine wt_top (z := wf (i_4 + 45)) (by rw [nI_clamp (by omega)]; exact hsh.2 _ (by omega)) ?_
        refine va_iast hx hb hK.1 hP hD hS 2 0 rfl rfl (vp_in_nI (by omega) (by omega)) dX6_keep_32 (fun H locs hP hD hS => ?_)
        have hP : va_P D vwCl [(md, .inr (6, [vm_0, vm_1, vm_2, vm_3, vm_4, .ref hs, vm_6, vm_7, .ref ws, .int (nI ac), vm_10, vm_11, vm_12, vm_13, vm_14, vm_15, vm_16, vm_17, vm_18, vm_19, vm_20, vm_21, vm_22, vm_23])), (hs, .inl (cI, 45, .inl f)), (ws, .inl (cI, 1080, .inl (upd wf_5 ((nI i_4).toNatClampNeg) (wf (i_4 + 45)))))] H := hP
        have hD : va_D A [(md, .inr (6, [vm_0, vm_1, vm_2, vm_3, vm_4, .ref hs, vm_6, vm_7, .ref ws, .int (nI ac), vm_10, vm_11, vm_12, vm_13, vm_14, vm_15, vm_16, vm_17, vm_18, vm_19, vm_20, vm_21, vm_22, vm_23])), (hs, .inl (cI, 45, .inl f)), (ws, .inl (cI, 1080, .inl (upd wf_5 ((nI i_4).toNatClampNeg) (wf (i_4 + 45)))))] := hD
        rw [nI_clamp (n := i_4) (by omega)] at hP hD
        have hP : va_P D vwCl [(md, .inr (6, [vm_0, vm_1, vm_2, vm_3, vm_4, .ref hs, vm_6, vm_7, .ref ws, .int (nI ac), vm_10, vm_11, vm_12, vm_13, vm_14, vm_15, vm_16, vm_17, vm_18, vm_19, vm_20, vm_21, vm_22, vm_23])), (hs, .inl (cI, 45, .inl f)), (ws, .inl (cI, 1080, .inl (upd wf_5 i_4 (wf (i_4 + 45)))))] H := hP
        have hD : va_D A [(md, .inr (6, [vm_0, vm_1, vm_2, vm_3, vm_4, .ref hs, vm_6, vm_7, .ref ws, .int (nI ac), vm_10, vm_11, vm_12, vm_13, vm_14, vm_15, vm_16, vm_17, vm_18, vm_19, vm_20, vm_21, vm_22, vm_23])), (hs, .inl (cI, 45, .inl f)), (ws, .inl (cI, 1080, .inl (upd wf_5 i_4 (wf (i_4 + 45)))))] := hD
        refine lv_iinc (v := nI (i_4 + 1)) (lv' := [(1, .int (nI (i_4 + 1))), (0, .ref md)]) hx hb dX6_keep_33 hl (k := 0) rfl (nI_add i_4 1) (by decide) rfl (fun ls hl => ?_)
        refine lv_goto (tgt := 11) hx hb dX6_keep_36 (by decide) ?_
        exact ih11 ((i_4 + 1)) (upd wf_5 i_4 (wf (i_4 + 45))) H locs ls (by omega) (shd_s hsh) hP hD hS (lv_sub hl [0, 1] rfl)
    exact loop11 (1035 - 0) (0) wf _ _ ls (by omega) shd_0 hP hD hS hl
set_option maxHeartbeats 4000000 in
set_option maxRecDepth 100000 in
theorem c_X6_minutes_q (l : Launch) (D : va_G) (cI cZ cH : ClassId) (md hs : Nat) (R T : Nat) (f K P : Nat → Int32) (ws : Nat) (ac : Nat) (wf : Nat → Int32) (a1 : Int32) (vm_0 vm_1 vm_2 vm_3 vm_4 vm_6 vm_7 vm_10 vm_11 vm_12 vm_13 vm_14 vm_15 vm_16 vm_17 vm_18 vm_19 vm_20 vm_21 vm_22 vm_23 : Value) (hR5 : R ≤ 5) (hT6 : T ≤ 6) (hrq : rq K P R T f) (hac : ac ≤ 24) (hwq : wq K R T ac wf) : wt_M l yX6_minutes wsX6_minutes ({ frames := 4, cells := 0, slots := 0, locals := 91 } : Room) D (wt_T cI cZ cH) [.ref md, .int a1] [(md, .inr (6, [vm_0, vm_1, vm_2, vm_3, vm_4, .ref hs, vm_6, vm_7, .ref ws, .int (nI ac), vm_10, vm_11, vm_12, vm_13, vm_14, vm_15, vm_16, vm_17, vm_18, vm_19, vm_20, vm_21, vm_22, vm_23])), (hs, .inl (cI, 45, .inl f)), (ws, .inl (cI, 1080, .inl wf))] (wt_QI D (fun r w => ∃ (f2 wf2 : Nat → Int32) (ac2 : Nat), w = [(md, .inr (6, [.int 0, vm_1, vm_2, vm_3, vm_4, .ref hs, vm_6, vm_7, .ref ws, .int (nI ac2), vm_10, vm_11, vm_12, vm_13, vm_14, vm_15, vm_16, vm_17, vm_18, vm_19, vm_20, vm_21, vm_22, vm_23])), (hs, .inl (cI, 45, .inl f2)), (ws, .inl (cI, 1080, .inl wf2))] ∧ (∃ P2 : Nat → Int32, rq K P2 R T f2) ∧ ac2 ≤ 24 ∧ wq K R T ac2 wf2)) := by
  refine wt_M.ofW (cc := cX6_minutes) (maxL := 3) (ret := (some .int)) (by decide) rfl (Nat.le_of_ble_eq_true rfl) ?_
  intro p e s m below meth c A ls hx hb hr hts hown hlocks hml hnm hP hK hD hA hS hl
  have hP : va_P D vwCl [(md, .inr (6, [vm_0, vm_1, vm_2, vm_3, vm_4, .ref hs, vm_6, vm_7, .ref ws, .int (nI ac), vm_10, vm_11, vm_12, vm_13, vm_14, vm_15, vm_16, vm_17, vm_18, vm_19, vm_20, vm_21, vm_22, vm_23])), (hs, .inl (cI, 45, .inl f)), (ws, .inl (cI, 1080, .inl wf))] s.heap := hP
  have hown : s.vm.findClass RX6 = some m.cls := hown
  have hl : lv_has ls 3 [(0, .ref md), (1, .int a1)] := hl
  have hi6 : ∀ w ∈ u_ws RX6 TX6 24, w ∈ wsX6_minutes := by decide +kernel
  have wc189 := hts (.constant RX6 189 (-1000002)) (by decide +kernel)
  have wc67 := hts (.constant RX6 67 (-1000001)) (by decide +kernel)
  have wc77 := hts (.constant RX6 77 (-1000003)) (by decide +kernel)
  have wf19 := hts (.fieldLink RX6 19 "WarmTubesModel" "house" "[I") (by decide +kernel)
  have wf47 := hts (.fieldLink RX6 47 "WarmTubesModel" "thrown" "I") (by decide +kernel)
  have wl190 := hts (.constantLong RX6 190 (24)) (by decide +kernel)
  refine lv_aload_n hx hb dX6_minutes_0 rfl (lv_at hl 0 rfl) ?_
  refine lv_iconst (v := 0) hx hb dX6_minutes_1 (by decide) ?_
  refine va_put (D := D) (ci := 6) (v := .int 0) (ty := .int) (C := RX6) (T := TX6) (N := 24) hx hb hts hi6 tyX6 tyX6_ok nmX6 hown hK.1 hP hD hS 0 rfl rfl 0 (by decide) wf47 (fun _ h9 => h9) rfl (by decide +kernel) rfl rfl (Nat.le_of_ble_eq_true rfl) dX6_minutes_2 (fun H locs hP hD hS => ?_)
  have hP : va_P D vwCl [(md, .inr (6, [.int 0, vm_1, vm_2, vm_3, vm_4, .ref hs, vm_6, vm_7, .ref ws, .int (nI ac), vm_10, vm_11, vm_12, vm_13, vm_14, vm_15, vm_16, vm_17, vm_18, vm_19, vm_20, vm_21, vm_22, vm_23])), (hs, .inl (cI, 45, .inl f)), (ws, .inl (cI, 1080, .inl wf))] H := hP
  have hD : va_D A [(md, .inr (6, [.int 0, vm_1, vm_2, vm_3, vm_4, .ref hs, vm_6, vm_7, .ref ws, .int (nI ac), vm_10, vm_11, vm_12, vm_13, vm_14, vm_15, vm_16, vm_17, vm_18, vm_19, vm_20, vm_21, vm_22, vm_23])), (hs, .inl (cI, 45, .inl f)), (ws, .inl (cI, 1080, .inl wf))] := hD
  refine lv_aload_n hx hb dX6_minutes_5 rfl (lv_at hl 0 rfl) ?_
  refine wt_rV (As := []) (rest := []) ⟨hx, hb, hml, hown, hts⟩ (c_X6_isThere l D cI cZ cH md hs R T f (.int 0) vm_1 vm_2 vm_3 vm_4 vm_6 vm_7 (.ref ws) (.int (nI ac)) vm_10 vm_11 vm_12 vm_13 vm_14 vm_15 vm_16 vm_17 vm_18 vm_19 vm_20 vm_21 vm_22 vm_23 (by first | assumption | omega) (by first | assumption | omega) (by first | assumption | exact rq_rk (by assumption))) (cwV 0 hts gX6_minutes_X6_isThere rfl rfl rfl (by decide +kernel) ⟨Nat.le_of_ble_eq_true rfl, Nat.le_of_ble_eq_true rfl⟩) hK hP [0, 1] rfl (va_recv hK.1 hP (ci := 6) (q0 := 0) rfl rfl) rfl hl.1 rfl (Nat.le_of_ble_eq_true rfl) dX6_minutes_6 ⟨Nat.le_of_ble_eq_true rfl, Nat.le_of_ble_eq_true rfl⟩ (fun r_1 e_2 => ?_)
  subst e_2
  refine lv_if_ne (tgt := 15) hx hb dX6_minutes_9 (by decide) (fun c_3 => ?_) (fun c_3 => ?_)
  · skip
    have g_4 : 0 < R := wP_nat (by omega) c_3
    refine lv_iload_n hx hb dX6_minutes_15 rfl (lv_at hl 1 rfl) ?_
    refine lv_i2l hx hb dX6_minutes_16 rfl ?_
    refine lv_lconst (v := 1) hx hb dX6_minutes_17 (by decide) ?_
    refine lv_ldc2 hx hb hown wl190 dX6_minutes_18 ?_
    refine wt_rS (As := [.long a1.toInt64, .long 1, .long 24]) (rest := []) ⟨hx, hb, hml, hown, hts⟩ (c_X6_in l D cI cZ cH a1.toInt64 1 24) (va_cwS 3 hts gX6_minutes_X6_in rfl rfl rfl (by decide +kernel) ⟨Nat.le_of_ble_eq_true rfl, Nat.le_of_ble_eq_true rfl⟩) hK hP [] rfl rfl hl.1 rfl (Nat.le_of_ble_eq_true rfl) dX6_minutes_21 ⟨Nat.le_of_ble_eq_true rfl, Nat.le_of_ble_eq_true rfl⟩ (fun r_5 e_6 => ?_)
    subst e_6
    refine wt_top (z := wI a1 1 24) (wL_I' (by decide) (by decide)) ?_
    refine lv_if_ne (tgt := 30) hx hb dX6_minutes_24 (by decide) (fun c_7 => ?_) (fun c_7 => ?_)
    · skip
      obtain ⟨j_8, hj_8, hj_8b, rfl⟩ := wI_nat (a := 1) (b := 24) (by omega) (by omega) c_7
      refine lv_aload_n hx hb dX6_minutes_30 rfl (lv_at hl 0 rfl) ?_
      refine va_get (D := D) (ci := 6) (v := .ref hs) (C := RX6) (T := TX6) (N := 24) hx hb hts hi6 hown hK.1 hP 0 rfl rfl 5 (by decide) wf19 (fun _ h9 => h9) rfl dX6_minutes_31 ?_
      refine lv_iconst (v := 4) hx hb dX6_minutes_34 (by decide) ?_
      refine va_iald hx hb hK.1 hP 1 0 rfl rfl (by rw [vp_in_iff]; decide) dX6_minutes_35 ?_
      refine lv_topi (fun ov_9 _ => ?_)
      refine lv_iload_n hx hb dX6_minutes_36 rfl (lv_at hl 1 rfl) ?_
      refine lv_iadd hx hb dX6_minutes_37 ?_
      refine lv_topi (fun ov_10 _ => ?_)
      refine lv_sipush (v := 999) hx hb dX6_minutes_38 (by decide) ?_
      refine lv_icmp_le (tgt := 47) hx hb dX6_minutes_41 (by decide) (fun c_11 => ?_) (fun c_11 => ?_)
      · skip
        refine lv_iconst (v := 0) hx hb dX6_minutes_47 (by decide) ?_
        refine lv_istore_n (lv' := [(2, .int 0), (0, .ref md), (1, .int (nI j_8))]) hx hb dX6_minutes_48 rfl hl (by decide) rfl (fun ls hl => ?_)
        have loop49 : ∀ (k i_12 : Nat) (f_13 : Nat → Int32) (wf_14 : Nat → Int32) (n_15 : Nat) (H : Heap) (locs : List Loc) (ls : Array Slot), i_12 + k = j_8 → (n_15 ≤ 24) → (wq K R T n_15 wf_14) → (rq K P R T f_13) → va_P D vwCl [(md, .inr (6, [.int 0, vm_1, vm_2, vm_3, vm_4, .ref hs, vm_6, vm_7, .ref ws, .int (nI n_15), vm_10, vm_11, vm_12, vm_13, vm_14, vm_15, vm_16, vm_17, vm_18, vm_19, vm_20, vm_21, vm_22, vm_23])), (hs, .inl (cI, 45, .inl f_13)), (ws, .inl (cI, 1080, .inl wf_14))] H → va_D A [(md, .inr (6, [.int 0, vm_1, vm_2, vm_3, vm_4, .ref hs, vm_6, vm_7, .ref ws, .int (nI n_15), vm_10, vm_11, vm_12, vm_13, vm_14, vm_15, vm_16, vm_17, vm_18, vm_19, vm_20, vm_21, vm_22, vm_23])), (hs, .inl (cI, 45, .inl f_13)), (ws, .inl (cI, 1080, .inl wf_14))] → va_S A s.heap H locs → lv_has ls 3 [(2, .int (nI i_12)), (0, .ref md), (1, .int (nI j_8))] → W p l e ({ frames := 4, cells := 0, slots := 0, locals := 91 } : Room) s m ([.ref md, .int (nI j_8)] : List Value).toArray below meth c H locs 0 0 (MQ below (wt_QI D (fun r w => ∃ (f2 wf2 : Nat → Int32) (ac2 : Nat), w = [(md, .inr (6, [.int 0, vm_1, vm_2, vm_3, vm_4, .ref hs, vm_6, vm_7, .ref ws, .int (nI ac2), vm_10, vm_11, vm_12, vm_13, vm_14, vm_15, vm_16, vm_17, vm_18, vm_19, vm_20, vm_21, vm_22, vm_23])), (hs, .inl (cI, 45, .inl f2)), (ws, .inl (cI, 1080, .inl wf2))] ∧ (∃ P2 : Nat → Int32, rq K P2 R T f2) ∧ ac2 ≤ 24 ∧ wq K R T ac2 wf2) A) ([.ref md, .int (nI j_8)] : List Value).toArray s 0 0 A) (F0 m 49 ls []) := by
          intro k
          induction k with
          | zero =>
            intro i_12 f_13 wf_14 n_15 H locs ls hik hac hwq rk_16 hP hD hS hl
            refine lv_iload_n hx hb dX6_minutes_49 rfl (lv_at hl 0 rfl) ?_
            refine lv_iload_n hx hb dX6_minutes_50 rfl (lv_at hl 2 rfl) ?_
            refine lv_icmp_ge (tgt := 71) hx hb dX6_minutes_51 (by decide) (fun _ => ?_) (fun h => absurd (nI_le (a := j_8) (b := i_12) (by omega) (by omega)) h)
            refine lv_aload_n hx hb dX6_minutes_71 rfl (lv_at hl 1 rfl) ?_
            refine va_get (D := D) (ci := 6) (v := .ref hs) (C := RX6) (T := TX6) (N := 24) hx hb hts hi6 hown hK.1 hP 0 rfl rfl 5 (by decide) wf19 (fun _ h9 => h9) rfl dX6_minutes_72 ?_
            refine wt_rS (As := [.ref hs]) (rest := []) ⟨hx, hb, hml, hown, hts⟩ (c_X6_colds l D cI cZ cH hs R T f_13 (by first | assumption | omega) (by first | assumption | omega) (by first | assumption | exact rq_rk (by assumption))) (va_cwS 1 hts gX6_minutes_X6_colds rfl rfl rfl (by decide +kernel) ⟨Nat.le_of_ble_eq_true rfl, Nat.le_of_ble_eq_true rfl⟩) hK hP [1] rfl rfl hl.1 rfl (Nat.le_of_ble_eq_true rfl) dX6_minutes_75 ⟨Nat.le_of_ble_eq_true rfl, Nat.le_of_ble_eq_true rfl⟩ (fun r_17 e_18 => ?_)
            have hP9 := hP.sub (ws' := [(md, .inr (6, [.int 0, vm_1, vm_2, vm_3, vm_4, .ref hs, vm_6, vm_7, .ref ws, .int (nI n_15), vm_10, vm_11, vm_12, vm_13, vm_14, vm_15, vm_16, vm_17, vm_18, vm_19, vm_20, vm_21, vm_22, vm_23])), (hs, .inl (cI, 45, .inl f_13)), (ws, .inl (cI, 1080, .inl wf_14))]) [0, 1, 2] rfl
            have hD9 := hD.sub (ws' := [(md, .inr (6, [.int 0, vm_1, vm_2, vm_3, vm_4, .ref hs, vm_6, vm_7, .ref ws, .int (nI n_15), vm_10, vm_11, vm_12, vm_13, vm_14, vm_15, vm_16, vm_17, vm_18, vm_19, vm_20, vm_21, vm_22, vm_23])), (hs, .inl (cI, 45, .inl f_13)), (ws, .inl (cI, 1080, .inl wf_14))]) [0, 1, 2] (by decide) rfl
            exact wt_iret hx hb hr hlocks hP9 hD9 hS ⟨f_13, wf_14, n_15, rfl, ⟨⟨_, rk_16⟩, by omega, hwq⟩⟩ dX6_minutes_78
          | succ k ih49 =>
            intro i_12 f_13 wf_14 n_15 H locs ls hik hac hwq rk_16 hP hD hS hl
            refine lv_iload_n hx hb dX6_minutes_49 rfl (lv_at hl 0 rfl) ?_
            refine lv_iload_n hx hb dX6_minutes_50 rfl (lv_at hl 2 rfl) ?_
            refine lv_icmp_ge (tgt := 71) hx hb dX6_minutes_51 (by decide) (fun h => absurd h (nI_ge (a := i_12) (b := j_8) (by omega) (by omega))) (fun _ => ?_)
            refine lv_aload_n hx hb dX6_minutes_54 rfl (lv_at hl 1 rfl) ?_
            refine wt_goV (wr := []) (wt_runV (As := []) (rest := []) ⟨hx, hb, hml, hown, hts⟩ (c_X6_keep_q l D cI cZ cH md hs R T f_13 K P ws n_15 wf_14 (.int 0) vm_1 vm_2 vm_3 vm_4 vm_6 vm_7 vm_10 vm_11 vm_12 vm_13 vm_14 vm_15 vm_16 vm_17 vm_18 vm_19 vm_20 vm_21 vm_22 vm_23 (by first | assumption | omega) (by first | assumption | omega) (by assumption) (by first | assumption | omega) (by first | assumption | omega)) (cwV 0 hts gX6_minutes_X6_keep rfl rfl rfl (by decide +kernel) ⟨Nat.le_of_ble_eq_true rfl, Nat.le_of_ble_eq_true rfl⟩) hK hP hD [0, 1, 2] rfl (by decide) (va_recv hK.1 hP (ci := 6) (q0 := 0) rfl rfl) rfl hl.1 rfl (Nat.le_of_ble_eq_true rfl) dX6_minutes_55 ⟨Nat.le_of_ble_eq_true rfl, Nat.le_of_ble_eq_true rfl⟩) hP hD hS hA [0, 1, 2] [] rfl rfl (by decide) (by decide) (fun w_20 H locs h_21 hP hD hS => ?_)
            obtain ⟨wf2_22, ac2_23, rfl, x_24⟩ := h_21
            have hP : va_P D vwCl [(md, .inr (6, [.int 0, vm_1, vm_2, vm_3, vm_4, .ref hs, vm_6, vm_7, .ref ws, .int (nI ac2_23), vm_10, vm_11, vm_12, vm_13, vm_14, vm_15, vm_16, vm_17, vm_18, vm_19, vm_20, vm_21, vm_22, vm_23])), (hs, .inl (cI, 45, .inl f_13)), (ws, .inl (cI, 1080, .inl wf2_22))] H := hP
            have hD : va_D A [(md, .inr (6, [.int 0, vm_1, vm_2, vm_3, vm_4, .ref hs, vm_6, vm_7, .ref ws, .int (nI ac2_23), vm_10, vm_11, vm_12, vm_13, vm_14, vm_15, vm_16, vm_17, vm_18, vm_19, vm_20, vm_21, vm_22, vm_23])), (hs, .inl (cI, 45, .inl f_13)), (ws, .inl (cI, 1080, .inl wf2_22))] := hD
            obtain ⟨acx_25, acx_26, wkx_27⟩ := x_24
            refine lv_aload_n hx hb dX6_minutes_58 rfl (lv_at hl 1 rfl) ?_
            refine va_get (D := D) (ci := 6) (v := .ref hs) (C := RX6) (T := TX6) (N := 24) hx hb hts hi6 hown hK.1 hP 0 rfl rfl 5 (by decide) wf19 (fun _ h9 => h9) rfl dX6_minutes_59 ?_
            refine wt_goV (wr := [(md, .inr (6, [.int 0, vm_1, vm_2, vm_3, vm_4, .ref hs, vm_6, vm_7, .ref ws, .int (nI ac2_23), vm_10, vm_11, vm_12, vm_13, vm_14, vm_15, vm_16, vm_17, vm_18, vm_19, vm_20, vm_21, vm_22, vm_23])), (ws, .inl (cI, 1080, .inl wf2_22))]) (wt_runS (As := [.ref hs]) (rest := []) ⟨hx, hb, hml, hown, hts⟩ (c_X6_minute_q l D cI cZ cH hs R T f_13 K P (by first | assumption | omega) (by first | assumption | omega) (by assumption)) (va_cwS 1 hts gX6_minutes_X6_minute rfl rfl rfl (by decide +kernel) ⟨Nat.le_of_ble_eq_true rfl, Nat.le_of_ble_eq_true rfl⟩) hK hP hD [1] rfl (by decide) rfl hl.1 rfl (Nat.le_of_ble_eq_true rfl) dX6_minutes_62 ⟨Nat.le_of_ble_eq_true rfl, Nat.le_of_ble_eq_true rfl⟩) hP hD hS hA [1] [0, 2] rfl rfl (by decide) (by decide) (fun w_29 H locs h_30 hP hD hS => ?_)
            obtain ⟨f2_31, rfl, x_32⟩ := h_30
            have hP : va_P D vwCl [(md, .inr (6, [.int 0, vm_1, vm_2, vm_3, vm_4, .ref hs, vm_6, vm_7, .ref ws, .int (nI ac2_23), vm_10, vm_11, vm_12, vm_13, vm_14, vm_15, vm_16, vm_17, vm_18, vm_19, vm_20, vm_21, vm_22, vm_23])), (ws, .inl (cI, 1080, .inl wf2_22)), (hs, .inl (cI, 45, .inl f2_31))] H := hP
            have hD : va_D A [(md, .inr (6, [.int 0, vm_1, vm_2, vm_3, vm_4, .ref hs, vm_6, vm_7, .ref ws, .int (nI ac2_23), vm_10, vm_11, vm_12, vm_13, vm_14, vm_15, vm_16, vm_17, vm_18, vm_19, vm_20, vm_21, vm_22, vm_23])), (ws, .inl (cI, 1080, .inl wf2_22)), (hs, .inl (cI, 45, .inl f2_31))] := hD
            refine lv_iinc (v := nI (i_12 + 1)) (lv' := [(2, .int (nI (i_12 + 1))), (0, .ref md), (1, .int (nI j_8))]) hx hb dX6_minutes_65 hl (k := 0) rfl (nI_add i_12 1) (by decide) rfl (fun ls hl => ?_)
            refine lv_goto (tgt := 49) hx hb dX6_minutes_68 (by decide) ?_
            exact ih49 ((i_12 + 1)) f2_31 wf2_22 ac2_23 H locs ls (by omega) (by first | assumption | omega) (by first | assumption | omega) x_32 (hP.sub [0, 2, 1] rfl) (hD.sub [0, 2, 1] (by decide) rfl) hS (lv_sub hl [0, 1, 2] rfl)
        exact loop49 (j_8 - 0) (0) f wf ac _ _ ls (by omega) (by first | assumption | omega) (by first | assumption | omega) hrq hP hD hS hl
      · skip
        refine lv_ldc hx hb hown wc77 dX6_minutes_44 ?_
        have hP9 := hP.sub (ws' := [(md, .inr (6, [.int 0, vm_1, vm_2, vm_3, vm_4, .ref hs, vm_6, vm_7, .ref ws, .int (nI ac), vm_10, vm_11, vm_12, vm_13, vm_14, vm_15, vm_16, vm_17, vm_18, vm_19, vm_20, vm_21, vm_22, vm_23])), (hs, .inl (cI, 45, .inl f)), (ws, .inl (cI, 1080, .inl wf))]) [0, 1, 2] rfl
        have hD9 := hD.sub (ws' := [(md, .inr (6, [.int 0, vm_1, vm_2, vm_3, vm_4, .ref hs, vm_6, vm_7, .ref ws, .int (nI ac), vm_10, vm_11, vm_12, vm_13, vm_14, vm_15, vm_16, vm_17, vm_18, vm_19, vm_20, vm_21, vm_22, vm_23])), (hs, .inl (cI, 45, .inl f)), (ws, .inl (cI, 1080, .inl wf))]) [0, 1, 2] (by decide) rfl
        exact wt_iret hx hb hr hlocks hP9 hD9 hS ⟨f, wf, ac, rfl, ⟨⟨_, hrq⟩, by omega, hwq⟩⟩ dX6_minutes_46
    · skip
      refine lv_ldc hx hb hown wc67 dX6_minutes_27 ?_
      have hP9 := hP.sub (ws' := [(md, .inr (6, [.int 0, vm_1, vm_2, vm_3, vm_4, .ref hs, vm_6, vm_7, .ref ws, .int (nI ac), vm_10, vm_11, vm_12, vm_13, vm_14, vm_15, vm_16, vm_17, vm_18, vm_19, vm_20, vm_21, vm_22, vm_23])), (hs, .inl (cI, 45, .inl f)), (ws, .inl (cI, 1080, .inl wf))]) [0, 1, 2] rfl
      have hD9 := hD.sub (ws' := [(md, .inr (6, [.int 0, vm_1, vm_2, vm_3, vm_4, .ref hs, vm_6, vm_7, .ref ws, .int (nI ac), vm_10, vm_11, vm_12, vm_13, vm_14, vm_15, vm_16, vm_17, vm_18, vm_19, vm_20, vm_21, vm_22, vm_23])), (hs, .inl (cI, 45, .inl f)), (ws, .inl (cI, 1080, .inl wf))]) [0, 1, 2] (by decide) rfl
      exact wt_iret hx hb hr hlocks hP9 hD9 hS ⟨f, wf, ac, rfl, ⟨⟨_, hrq⟩, by omega, hwq⟩⟩ dX6_minutes_29
  · skip
    refine lv_ldc hx hb hown wc189 dX6_minutes_12 ?_
    have hP9 := hP.sub (ws' := [(md, .inr (6, [.int 0, vm_1, vm_2, vm_3, vm_4, .ref hs, vm_6, vm_7, .ref ws, .int (nI ac), vm_10, vm_11, vm_12, vm_13, vm_14, vm_15, vm_16, vm_17, vm_18, vm_19, vm_20, vm_21, vm_22, vm_23])), (hs, .inl (cI, 45, .inl f)), (ws, .inl (cI, 1080, .inl wf))]) [0, 1, 2] rfl
    have hD9 := hD.sub (ws' := [(md, .inr (6, [.int 0, vm_1, vm_2, vm_3, vm_4, .ref hs, vm_6, vm_7, .ref ws, .int (nI ac), vm_10, vm_11, vm_12, vm_13, vm_14, vm_15, vm_16, vm_17, vm_18, vm_19, vm_20, vm_21, vm_22, vm_23])), (hs, .inl (cI, 45, .inl f)), (ws, .inl (cI, 1080, .inl wf))]) [0, 1, 2] (by decide) rfl
    exact wt_iret hx hb hr hlocks hP9 hD9 hS ⟨f, wf, ac, rfl, ⟨⟨_, hrq⟩, by omega, hwq⟩⟩ dX6_minutes_14
set_option maxHeartbeats 4000000 in
set_option maxRecDepth 100000 in
theorem c_X6_carry_q (l : Launch) (D : va_G) (cI cZ cH : ClassId) (md hs : Nat) (R T : Nat) (f K P : Nat → Int32) (ws : Nat) (ac : Nat) (wf : Nat → Int32) (a1 a2 : Int32) (vm_0 vm_1 vm_2 vm_3 vm_4 vm_6 vm_7 vm_10 vm_11 vm_12 vm_13 vm_14 vm_15 vm_16 vm_17 vm_18 vm_19 vm_20 vm_21 vm_22 vm_23 : Value) (hR5 : R ≤ 5) (hT6 : T ≤ 6) (hrq : rq K P R T f) (hac : ac ≤ 24) (hwq : wq K R T ac wf) : wt_M l yX6_carry wsX6_carry ({ frames := 2, cells := 0, slots := 0, locals := 46 } : Room) D (wt_T cI cZ cH) [.ref md, .int a1, .int a2] [(md, .inr (6, [vm_0, vm_1, vm_2, vm_3, vm_4, .ref hs, vm_6, vm_7, .ref ws, .int (nI ac), vm_10, vm_11, vm_12, vm_13, vm_14, vm_15, vm_16, vm_17, vm_18, vm_19, vm_20, vm_21, vm_22, vm_23])), (hs, .inl (cI, 45, .inl f)), (ws, .inl (cI, 1080, .inl wf))] (wt_QI D (fun r w => ∃ (f2 wf2 : Nat → Int32) (ac2 : Nat), w = [(md, .inr (6, [.int 0, vm_1, vm_2, vm_3, vm_4, .ref hs, vm_6, vm_7, .ref ws, .int (nI ac2), vm_10, vm_11, vm_12, vm_13, vm_14, vm_15, vm_16, vm_17, vm_18, vm_19, vm_20, vm_21, vm_22, vm_23])), (hs, .inl (cI, 45, .inl f2)), (ws, .inl (cI, 1080, .inl wf2))] ∧ (∃ P2 : Nat → Int32, rq K P2 R T f2) ∧ ac2 ≤ 24 ∧ wq K R T ac2 wf2)) := by
  refine wt_M.ofW (cc := cX6_carry) (maxL := 4) (ret := (some .int)) (by decide) rfl (Nat.le_of_ble_eq_true rfl) ?_
  intro p e s m below meth c A ls hx hb hr hts hown hlocks hml hnm hP hK hD hA hS hl
  have hP : va_P D vwCl [(md, .inr (6, [vm_0, vm_1, vm_2, vm_3, vm_4, .ref hs, vm_6, vm_7, .ref ws, .int (nI ac), vm_10, vm_11, vm_12, vm_13, vm_14, vm_15, vm_16, vm_17, vm_18, vm_19, vm_20, vm_21, vm_22, vm_23])), (hs, .inl (cI, 45, .inl f)), (ws, .inl (cI, 1080, .inl wf))] s.heap := hP
  have hown : s.vm.findClass RX6 = some m.cls := hown
  have hl : lv_has ls 4 [(0, .ref md), (1, .int a1), (2, .int a2)] := hl
  have hi6 : ∀ w ∈ u_ws RX6 TX6 24, w ∈ wsX6_carry := by decide +kernel
  have wc189 := hts (.constant RX6 189 (-1000002)) (by decide +kernel)
  have wc67 := hts (.constant RX6 67 (-1000001)) (by decide +kernel)
  have wf19 := hts (.fieldLink RX6 19 "WarmTubesModel" "house" "[I") (by decide +kernel)
  have wf47 := hts (.fieldLink RX6 47 "WarmTubesModel" "thrown" "I") (by decide +kernel)
  refine lv_aload_n hx hb dX6_carry_0 rfl (lv_at hl 0 rfl) ?_
  refine lv_iconst (v := 0) hx hb dX6_carry_1 (by decide) ?_
  refine va_put (D := D) (ci := 6) (v := .int 0) (ty := .int) (C := RX6) (T := TX6) (N := 24) hx hb hts hi6 tyX6 tyX6_ok nmX6 hown hK.1 hP hD hS 0 rfl rfl 0 (by decide) wf47 (fun _ h9 => h9) rfl (by decide +kernel) rfl rfl (Nat.le_of_ble_eq_true rfl) dX6_carry_2 (fun H locs hP hD hS => ?_)
  have hP : va_P D vwCl [(md, .inr (6, [.int 0, vm_1, vm_2, vm_3, vm_4, .ref hs, vm_6, vm_7, .ref ws, .int (nI ac), vm_10, vm_11, vm_12, vm_13, vm_14, vm_15, vm_16, vm_17, vm_18, vm_19, vm_20, vm_21, vm_22, vm_23])), (hs, .inl (cI, 45, .inl f)), (ws, .inl (cI, 1080, .inl wf))] H := hP
  have hD : va_D A [(md, .inr (6, [.int 0, vm_1, vm_2, vm_3, vm_4, .ref hs, vm_6, vm_7, .ref ws, .int (nI ac), vm_10, vm_11, vm_12, vm_13, vm_14, vm_15, vm_16, vm_17, vm_18, vm_19, vm_20, vm_21, vm_22, vm_23])), (hs, .inl (cI, 45, .inl f)), (ws, .inl (cI, 1080, .inl wf))] := hD
  refine lv_aload_n hx hb dX6_carry_5 rfl (lv_at hl 0 rfl) ?_
  refine lv_iload_n hx hb dX6_carry_6 rfl (lv_at hl 1 rfl) ?_
  refine wt_rV (As := [.int a1]) (rest := []) ⟨hx, hb, hml, hown, hts⟩ (c_X6_isTube l D cI cZ cH md hs R T f a1 (.int 0) vm_1 vm_2 vm_3 vm_4 vm_6 vm_7 (.ref ws) (.int (nI ac)) vm_10 vm_11 vm_12 vm_13 vm_14 vm_15 vm_16 vm_17 vm_18 vm_19 vm_20 vm_21 vm_22 vm_23 (by first | assumption | omega) (by first | assumption | omega) (by first | assumption | exact rq_rk (by assumption))) (cwV 1 hts gX6_carry_X6_isTube rfl rfl rfl (by decide +kernel) ⟨Nat.le_of_ble_eq_true rfl, Nat.le_of_ble_eq_true rfl⟩) hK hP [0, 1] rfl (va_recv hK.1 hP (ci := 6) (q0 := 0) rfl rfl) rfl hl.1 rfl (Nat.le_of_ble_eq_true rfl) dX6_carry_7 ⟨Nat.le_of_ble_eq_true rfl, Nat.le_of_ble_eq_true rfl⟩ (fun r_1 e_2 => ?_)
  subst e_2
  refine lv_if_eq (tgt := 21) hx hb dX6_carry_10 (by decide) (fun c_3 => ?_) (fun c_3 => ?_)
  · skip
    refine lv_ldc hx hb hown wc67 dX6_carry_21 ?_
    have hP9 := hP.sub (ws' := [(md, .inr (6, [.int 0, vm_1, vm_2, vm_3, vm_4, .ref hs, vm_6, vm_7, .ref ws, .int (nI ac), vm_10, vm_11, vm_12, vm_13, vm_14, vm_15, vm_16, vm_17, vm_18, vm_19, vm_20, vm_21, vm_22, vm_23])), (hs, .inl (cI, 45, .inl f)), (ws, .inl (cI, 1080, .inl wf))]) [0, 1, 2] rfl
    have hD9 := hD.sub (ws' := [(md, .inr (6, [.int 0, vm_1, vm_2, vm_3, vm_4, .ref hs, vm_6, vm_7, .ref ws, .int (nI ac), vm_10, vm_11, vm_12, vm_13, vm_14, vm_15, vm_16, vm_17, vm_18, vm_19, vm_20, vm_21, vm_22, vm_23])), (hs, .inl (cI, 45, .inl f)), (ws, .inl (cI, 1080, .inl wf))]) [0, 1, 2] (by decide) rfl
    exact wt_iret hx hb hr hlocks hP9 hD9 hS ⟨f, wf, ac, rfl, ⟨⟨_, hrq⟩, by omega, hwq⟩⟩ dX6_carry_23
  · skip
    obtain ⟨j_4, hj_4, rfl⟩ := wI_natT (T := T) (by omega) c_3
    refine lv_aload_n hx hb dX6_carry_13 rfl (lv_at hl 0 rfl) ?_
    refine lv_iload_n hx hb dX6_carry_14 rfl (lv_at hl 2 rfl) ?_
    refine wt_rV (As := [.int a2]) (rest := []) ⟨hx, hb, hml, hown, hts⟩ (c_X6_isPlace l D cI cZ cH md hs R T f a2 (.int 0) vm_1 vm_2 vm_3 vm_4 vm_6 vm_7 (.ref ws) (.int (nI ac)) vm_10 vm_11 vm_12 vm_13 vm_14 vm_15 vm_16 vm_17 vm_18 vm_19 vm_20 vm_21 vm_22 vm_23 (by first | assumption | omega) (by first | assumption | omega) (by first | assumption | exact rq_rk (by assumption))) (cwV 1 hts gX6_carry_X6_isPlace rfl rfl rfl (by decide +kernel) ⟨Nat.le_of_ble_eq_true rfl, Nat.le_of_ble_eq_true rfl⟩) hK hP [0, 1] rfl (va_recv hK.1 hP (ci := 6) (q0 := 0) rfl rfl) rfl hl.1 rfl (Nat.le_of_ble_eq_true rfl) dX6_carry_15 ⟨Nat.le_of_ble_eq_true rfl, Nat.le_of_ble_eq_true rfl⟩ (fun r_5 e_6 => ?_)
    subst e_6
    refine lv_if_ne (tgt := 24) hx hb dX6_carry_18 (by decide) (fun c_7 => ?_) (fun c_7 => ?_)
    · skip
      obtain ⟨h0j_8, j_8, hj_8, rfl⟩ := gP_nat (R := R) (by omega) c_7
      refine lv_aload_n hx hb dX6_carry_24 rfl (lv_at hl 0 rfl) ?_
      refine va_get (D := D) (ci := 6) (v := .ref hs) (C := RX6) (T := TX6) (N := 24) hx hb hts hi6 hown hK.1 hP 0 rfl rfl 5 (by decide) wf19 (fun _ h9 => h9) rfl dX6_carry_25 ?_
      refine lv_iload_n hx hb dX6_carry_28 rfl (lv_at hl 1 rfl) ?_
      refine lv_iconst (v := 1) hx hb dX6_carry_29 (by decide) ?_
      refine wt_rS (As := [.ref hs, .int (nI j_4), .int 1]) (rest := []) ⟨hx, hb, hml, hown, hts⟩ (c_X6_of_1 l D cI cZ cH hs R T f j_4 (by first | assumption | omega) (by first | assumption | omega) (by first | assumption | exact rq_rk (by assumption)) (by first | assumption | omega)) (va_cwS 3 hts gX6_carry_X6_of rfl rfl rfl (by decide +kernel) ⟨Nat.le_of_ble_eq_true rfl, Nat.le_of_ble_eq_true rfl⟩) hK hP [1] rfl rfl hl.1 rfl (Nat.le_of_ble_eq_true rfl) dX6_carry_30 ⟨Nat.le_of_ble_eq_true rfl, Nat.le_of_ble_eq_true rfl⟩ (fun r_9 e_10 => ?_)
      obtain ⟨q_11, e_10, rfl⟩ := e_10
      refine lv_istore_n (lv' := [(3, .int (nI q_11)), (0, .ref md), (1, .int (nI j_4)), (2, .int (nI j_8))]) hx hb dX6_carry_33 rfl hl (by decide) rfl (fun ls hl => ?_)
      refine lv_iload_n hx hb dX6_carry_34 rfl (lv_at hl 0 rfl) ?_
      refine lv_iload_n hx hb dX6_carry_35 rfl (lv_at hl 3 rfl) ?_
      refine lv_icmp_ne (tgt := 42) hx hb dX6_carry_36 (by decide) (fun c_12 => ?_) (fun c_12 => ?_)
      · skip
        have c_12 : ¬ (q_11 = j_8) := fun h => c_12 ((nI_eq (a := q_11) (b := j_8) (by omega) (by omega)).mpr h)
        refine lv_aload_n hx hb dX6_carry_42 rfl (lv_at hl 1 rfl) ?_
        refine wt_goV (wr := []) (wt_runV (As := []) (rest := []) ⟨hx, hb, hml, hown, hts⟩ (c_X6_keep_q l D cI cZ cH md hs R T f K P ws ac wf (.int 0) vm_1 vm_2 vm_3 vm_4 vm_6 vm_7 vm_10 vm_11 vm_12 vm_13 vm_14 vm_15 vm_16 vm_17 vm_18 vm_19 vm_20 vm_21 vm_22 vm_23 (by first | assumption | omega) (by first | assumption | omega) (by assumption) (by first | assumption | omega) (by first | assumption | omega)) (cwV 0 hts gX6_carry_X6_keep rfl rfl rfl (by decide +kernel) ⟨Nat.le_of_ble_eq_true rfl, Nat.le_of_ble_eq_true rfl⟩) hK hP hD [0, 1, 2] rfl (by decide) (va_recv hK.1 hP (ci := 6) (q0 := 0) rfl rfl) rfl hl.1 rfl (Nat.le_of_ble_eq_true rfl) dX6_carry_43 ⟨Nat.le_of_ble_eq_true rfl, Nat.le_of_ble_eq_true rfl⟩) hP hD hS hA [0, 1, 2] [] rfl rfl (by decide) (by decide) (fun w_14 H locs h_15 hP hD hS => ?_)
        obtain ⟨wf2_16, ac2_17, rfl, x_18⟩ := h_15
        have hP : va_P D vwCl [(md, .inr (6, [.int 0, vm_1, vm_2, vm_3, vm_4, .ref hs, vm_6, vm_7, .ref ws, .int (nI ac2_17), vm_10, vm_11, vm_12, vm_13, vm_14, vm_15, vm_16, vm_17, vm_18, vm_19, vm_20, vm_21, vm_22, vm_23])), (hs, .inl (cI, 45, .inl f)), (ws, .inl (cI, 1080, .inl wf2_16))] H := hP
        have hD : va_D A [(md, .inr (6, [.int 0, vm_1, vm_2, vm_3, vm_4, .ref hs, vm_6, vm_7, .ref ws, .int (nI ac2_17), vm_10, vm_11, vm_12, vm_13, vm_14, vm_15, vm_16, vm_17, vm_18, vm_19, vm_20, vm_21, vm_22, vm_23])), (hs, .inl (cI, 45, .inl f)), (ws, .inl (cI, 1080, .inl wf2_16))] := hD
        obtain ⟨acx_19, acx_20, wkx_21⟩ := x_18
        refine lv_aload_n hx hb dX6_carry_46 rfl (lv_at hl 1 rfl) ?_
        refine va_get (D := D) (ci := 6) (v := .ref hs) (C := RX6) (T := TX6) (N := 24) hx hb hts hi6 hown hK.1 hP 0 rfl rfl 5 (by decide) wf19 (fun _ h9 => h9) rfl dX6_carry_47 ?_
        refine lv_iload_n hx hb dX6_carry_50 rfl (lv_at hl 2 rfl) ?_
        refine lv_iconst (v := 1) hx hb dX6_carry_51 (by decide) ?_
        refine lv_iload_n hx hb dX6_carry_52 rfl (lv_at hl 3 rfl) ?_
        refine wt_goV (wr := [(md, .inr (6, [.int 0, vm_1, vm_2, vm_3, vm_4, .ref hs, vm_6, vm_7, .ref ws, .int (nI ac2_17), vm_10, vm_11, vm_12, vm_13, vm_14, vm_15, vm_16, vm_17, vm_18, vm_19, vm_20, vm_21, vm_22, vm_23])), (ws, .inl (cI, 1080, .inl wf2_16))]) (wt_runS (As := [.ref hs, .int (nI j_4), .int 1, .int (nI j_8)]) (rest := []) ⟨hx, hb, hml, hown, hts⟩ (c_X6_be_1q l D cI cZ cH hs R T f K P j_4 j_8 (by first | assumption | omega) (by first | assumption | omega) (by assumption) (by first | assumption | omega) (by first | assumption | omega)) (va_cwS 4 hts gX6_carry_X6_be rfl rfl rfl (by decide +kernel) ⟨Nat.le_of_ble_eq_true rfl, Nat.le_of_ble_eq_true rfl⟩) hK hP hD [1] rfl (by decide) rfl hl.1 rfl (Nat.le_of_ble_eq_true rfl) dX6_carry_53 ⟨Nat.le_of_ble_eq_true rfl, Nat.le_of_ble_eq_true rfl⟩) hP hD hS hA [1] [0, 2] rfl rfl (by decide) (by decide) (fun w_23 H locs h_24 hP hD hS => ?_)
        obtain ⟨f2_25, rfl, x_26⟩ := h_24
        have hP : va_P D vwCl [(md, .inr (6, [.int 0, vm_1, vm_2, vm_3, vm_4, .ref hs, vm_6, vm_7, .ref ws, .int (nI ac2_17), vm_10, vm_11, vm_12, vm_13, vm_14, vm_15, vm_16, vm_17, vm_18, vm_19, vm_20, vm_21, vm_22, vm_23])), (ws, .inl (cI, 1080, .inl wf2_16)), (hs, .inl (cI, 45, .inl f2_25))] H := hP
        have hD : va_D A [(md, .inr (6, [.int 0, vm_1, vm_2, vm_3, vm_4, .ref hs, vm_6, vm_7, .ref ws, .int (nI ac2_17), vm_10, vm_11, vm_12, vm_13, vm_14, vm_15, vm_16, vm_17, vm_18, vm_19, vm_20, vm_21, vm_22, vm_23])), (ws, .inl (cI, 1080, .inl wf2_16)), (hs, .inl (cI, 45, .inl f2_25))] := hD
        refine lv_iload_n hx hb dX6_carry_56 rfl (lv_at hl 0 rfl) ?_
        have hP9 := hP.sub (ws' := [(md, .inr (6, [.int 0, vm_1, vm_2, vm_3, vm_4, .ref hs, vm_6, vm_7, .ref ws, .int (nI ac2_17), vm_10, vm_11, vm_12, vm_13, vm_14, vm_15, vm_16, vm_17, vm_18, vm_19, vm_20, vm_21, vm_22, vm_23])), (hs, .inl (cI, 45, .inl f2_25)), (ws, .inl (cI, 1080, .inl wf2_16))]) [0, 2, 1] rfl
        have hD9 := hD.sub (ws' := [(md, .inr (6, [.int 0, vm_1, vm_2, vm_3, vm_4, .ref hs, vm_6, vm_7, .ref ws, .int (nI ac2_17), vm_10, vm_11, vm_12, vm_13, vm_14, vm_15, vm_16, vm_17, vm_18, vm_19, vm_20, vm_21, vm_22, vm_23])), (hs, .inl (cI, 45, .inl f2_25)), (ws, .inl (cI, 1080, .inl wf2_16))]) [0, 2, 1] (by decide) rfl
        exact wt_iret hx hb hr hlocks hP9 hD9 hS ⟨f2_25, wf2_16, ac2_17, rfl, ⟨⟨_, x_26⟩, by omega, wkx_21⟩⟩ dX6_carry_57
      · skip
        have c_12 : q_11 = j_8 := (nI_eq (a := q_11) (b := j_8) (by omega) (by omega)).mp c_12
        refine lv_ldc hx hb hown wc189 dX6_carry_39 ?_
        have hP9 := hP.sub (ws' := [(md, .inr (6, [.int 0, vm_1, vm_2, vm_3, vm_4, .ref hs, vm_6, vm_7, .ref ws, .int (nI ac), vm_10, vm_11, vm_12, vm_13, vm_14, vm_15, vm_16, vm_17, vm_18, vm_19, vm_20, vm_21, vm_22, vm_23])), (hs, .inl (cI, 45, .inl f)), (ws, .inl (cI, 1080, .inl wf))]) [0, 1, 2] rfl
        have hD9 := hD.sub (ws' := [(md, .inr (6, [.int 0, vm_1, vm_2, vm_3, vm_4, .ref hs, vm_6, vm_7, .ref ws, .int (nI ac), vm_10, vm_11, vm_12, vm_13, vm_14, vm_15, vm_16, vm_17, vm_18, vm_19, vm_20, vm_21, vm_22, vm_23])), (hs, .inl (cI, 45, .inl f)), (ws, .inl (cI, 1080, .inl wf))]) [0, 1, 2] (by decide) rfl
        exact wt_iret hx hb hr hlocks hP9 hD9 hS ⟨f, wf, ac, rfl, ⟨⟨_, hrq⟩, by omega, hwq⟩⟩ dX6_carry_41
    · skip
      refine lv_ldc hx hb hown wc67 dX6_carry_21 ?_
      have hP9 := hP.sub (ws' := [(md, .inr (6, [.int 0, vm_1, vm_2, vm_3, vm_4, .ref hs, vm_6, vm_7, .ref ws, .int (nI ac), vm_10, vm_11, vm_12, vm_13, vm_14, vm_15, vm_16, vm_17, vm_18, vm_19, vm_20, vm_21, vm_22, vm_23])), (hs, .inl (cI, 45, .inl f)), (ws, .inl (cI, 1080, .inl wf))]) [0, 1, 2] rfl
      have hD9 := hD.sub (ws' := [(md, .inr (6, [.int 0, vm_1, vm_2, vm_3, vm_4, .ref hs, vm_6, vm_7, .ref ws, .int (nI ac), vm_10, vm_11, vm_12, vm_13, vm_14, vm_15, vm_16, vm_17, vm_18, vm_19, vm_20, vm_21, vm_22, vm_23])), (hs, .inl (cI, 45, .inl f)), (ws, .inl (cI, 1080, .inl wf))]) [0, 1, 2] (by decide) rfl
      exact wt_iret hx hb hr hlocks hP9 hD9 hS ⟨f, wf, ac, rfl, ⟨⟨_, hrq⟩, by omega, hwq⟩⟩ dX6_carry_23
set_option maxHeartbeats 4000000 in
set_option maxRecDepth 100000 in
theorem c_X6_shake_q (l : Launch) (D : va_G) (cI cZ cH : ClassId) (md hs : Nat) (R T : Nat) (f K P : Nat → Int32) (ws : Nat) (ac : Nat) (wf : Nat → Int32) (a1 : Int32) (vm_0 vm_1 vm_2 vm_3 vm_4 vm_6 vm_7 vm_10 vm_11 vm_12 vm_13 vm_14 vm_15 vm_16 vm_17 vm_18 vm_19 vm_20 vm_21 vm_22 vm_23 : Value) (hR5 : R ≤ 5) (hT6 : T ≤ 6) (hrq : rq K P R T f) (hac : ac ≤ 24) (hwq : wq K R T ac wf) : wt_M l yX6_shake wsX6_shake ({ frames := 3, cells := 0, slots := 0, locals := 66 } : Room) D (wt_T cI cZ cH) [.ref md, .int a1] [(md, .inr (6, [vm_0, vm_1, vm_2, vm_3, vm_4, .ref hs, vm_6, vm_7, .ref ws, .int (nI ac), vm_10, vm_11, vm_12, vm_13, vm_14, vm_15, vm_16, vm_17, vm_18, vm_19, vm_20, vm_21, vm_22, vm_23])), (hs, .inl (cI, 45, .inl f)), (ws, .inl (cI, 1080, .inl wf))] (wt_QI D (fun r w => ∃ (f2 wf2 : Nat → Int32) (ac2 : Nat), w = [(md, .inr (6, [.int 0, vm_1, vm_2, vm_3, vm_4, .ref hs, vm_6, vm_7, .ref ws, .int (nI ac2), vm_10, vm_11, vm_12, vm_13, vm_14, vm_15, vm_16, vm_17, vm_18, vm_19, vm_20, vm_21, vm_22, vm_23])), (hs, .inl (cI, 45, .inl f2)), (ws, .inl (cI, 1080, .inl wf2))] ∧ (∃ P2 : Nat → Int32, rq K P2 R T f2) ∧ ac2 ≤ 24 ∧ wq K R T ac2 wf2)) := by
  refine wt_M.ofW (cc := cX6_shake) (maxL := 2) (ret := (some .int)) (by decide) rfl (Nat.le_of_ble_eq_true rfl) ?_
  intro p e s m below meth c A ls hx hb hr hts hown hlocks hml hnm hP hK hD hA hS hl
  have hP : va_P D vwCl [(md, .inr (6, [vm_0, vm_1, vm_2, vm_3, vm_4, .ref hs, vm_6, vm_7, .ref ws, .int (nI ac), vm_10, vm_11, vm_12, vm_13, vm_14, vm_15, vm_16, vm_17, vm_18, vm_19, vm_20, vm_21, vm_22, vm_23])), (hs, .inl (cI, 45, .inl f)), (ws, .inl (cI, 1080, .inl wf))] s.heap := hP
  have hown : s.vm.findClass RX6 = some m.cls := hown
  have hl : lv_has ls 2 [(0, .ref md), (1, .int a1)] := hl
  have hi6 : ∀ w ∈ u_ws RX6 TX6 24, w ∈ wsX6_shake := by decide +kernel
  have wc189 := hts (.constant RX6 189 (-1000002)) (by decide +kernel)
  have wc67 := hts (.constant RX6 67 (-1000001)) (by decide +kernel)
  have wf19 := hts (.fieldLink RX6 19 "WarmTubesModel" "house" "[I") (by decide +kernel)
  have wf47 := hts (.fieldLink RX6 47 "WarmTubesModel" "thrown" "I") (by decide +kernel)
  refine lv_aload_n hx hb dX6_shake_0 rfl (lv_at hl 0 rfl) ?_
  refine lv_iconst (v := 0) hx hb dX6_shake_1 (by decide) ?_
  refine va_put (D := D) (ci := 6) (v := .int 0) (ty := .int) (C := RX6) (T := TX6) (N := 24) hx hb hts hi6 tyX6 tyX6_ok nmX6 hown hK.1 hP hD hS 0 rfl rfl 0 (by decide) wf47 (fun _ h9 => h9) rfl (by decide +kernel) rfl rfl (Nat.le_of_ble_eq_true rfl) dX6_shake_2 (fun H locs hP hD hS => ?_)
  have hP : va_P D vwCl [(md, .inr (6, [.int 0, vm_1, vm_2, vm_3, vm_4, .ref hs, vm_6, vm_7, .ref ws, .int (nI ac), vm_10, vm_11, vm_12, vm_13, vm_14, vm_15, vm_16, vm_17, vm_18, vm_19, vm_20, vm_21, vm_22, vm_23])), (hs, .inl (cI, 45, .inl f)), (ws, .inl (cI, 1080, .inl wf))] H := hP
  have hD : va_D A [(md, .inr (6, [.int 0, vm_1, vm_2, vm_3, vm_4, .ref hs, vm_6, vm_7, .ref ws, .int (nI ac), vm_10, vm_11, vm_12, vm_13, vm_14, vm_15, vm_16, vm_17, vm_18, vm_19, vm_20, vm_21, vm_22, vm_23])), (hs, .inl (cI, 45, .inl f)), (ws, .inl (cI, 1080, .inl wf))] := hD
  refine lv_aload_n hx hb dX6_shake_5 rfl (lv_at hl 0 rfl) ?_
  refine lv_iload_n hx hb dX6_shake_6 rfl (lv_at hl 1 rfl) ?_
  refine wt_rV (As := [.int a1]) (rest := []) ⟨hx, hb, hml, hown, hts⟩ (c_X6_isTube l D cI cZ cH md hs R T f a1 (.int 0) vm_1 vm_2 vm_3 vm_4 vm_6 vm_7 (.ref ws) (.int (nI ac)) vm_10 vm_11 vm_12 vm_13 vm_14 vm_15 vm_16 vm_17 vm_18 vm_19 vm_20 vm_21 vm_22 vm_23 (by first | assumption | omega) (by first | assumption | omega) (by first | assumption | exact rq_rk (by assumption))) (cwV 1 hts gX6_shake_X6_isTube rfl rfl rfl (by decide +kernel) ⟨Nat.le_of_ble_eq_true rfl, Nat.le_of_ble_eq_true rfl⟩) hK hP [0, 1] rfl (va_recv hK.1 hP (ci := 6) (q0 := 0) rfl rfl) rfl hl.1 rfl (Nat.le_of_ble_eq_true rfl) dX6_shake_7 ⟨Nat.le_of_ble_eq_true rfl, Nat.le_of_ble_eq_true rfl⟩ (fun r_1 e_2 => ?_)
  subst e_2
  refine lv_if_ne (tgt := 16) hx hb dX6_shake_10 (by decide) (fun c_3 => ?_) (fun c_3 => ?_)
  · skip
    obtain ⟨j_4, hj_4, rfl⟩ := wI_natT (T := T) (by omega) c_3
    refine lv_aload_n hx hb dX6_shake_16 rfl (lv_at hl 0 rfl) ?_
    refine va_get (D := D) (ci := 6) (v := .ref hs) (C := RX6) (T := TX6) (N := 24) hx hb hts hi6 hown hK.1 hP 0 rfl rfl 5 (by decide) wf19 (fun _ h9 => h9) rfl dX6_shake_17 ?_
    refine lv_iload_n hx hb dX6_shake_20 rfl (lv_at hl 1 rfl) ?_
    refine lv_iconst (v := 4) hx hb dX6_shake_21 (by decide) ?_
    refine wt_rS (As := [.ref hs, .int (nI j_4), .int 4]) (rest := []) ⟨hx, hb, hml, hown, hts⟩ (c_X6_of_w l D cI cZ cH hs R T f j_4 4 (by first | assumption | omega) (by first | assumption | omega) (by first | assumption | exact rq_rk (by assumption)) (by first | assumption | omega) (by first | assumption | omega)) (va_cwS 3 hts gX6_shake_X6_of rfl rfl rfl (by decide +kernel) ⟨Nat.le_of_ble_eq_true rfl, Nat.le_of_ble_eq_true rfl⟩) hK hP [1] rfl rfl hl.1 rfl (Nat.le_of_ble_eq_true rfl) dX6_shake_22 ⟨Nat.le_of_ble_eq_true rfl, Nat.le_of_ble_eq_true rfl⟩ (fun r_5 e_6 => ?_)
    refine lv_if_ne (tgt := 31) hx hb dX6_shake_25 (by decide) (fun c_7 => ?_) (fun c_7 => ?_)
    · skip
      refine lv_aload_n hx hb dX6_shake_31 rfl (lv_at hl 0 rfl) ?_
      refine wt_goV (wr := []) (wt_runV (As := []) (rest := []) ⟨hx, hb, hml, hown, hts⟩ (c_X6_keep_q l D cI cZ cH md hs R T f K P ws ac wf (.int 0) vm_1 vm_2 vm_3 vm_4 vm_6 vm_7 vm_10 vm_11 vm_12 vm_13 vm_14 vm_15 vm_16 vm_17 vm_18 vm_19 vm_20 vm_21 vm_22 vm_23 (by first | assumption | omega) (by first | assumption | omega) (by assumption) (by first | assumption | omega) (by first | assumption | omega)) (cwV 0 hts gX6_shake_X6_keep rfl rfl rfl (by decide +kernel) ⟨Nat.le_of_ble_eq_true rfl, Nat.le_of_ble_eq_true rfl⟩) hK hP hD [0, 1, 2] rfl (by decide) (va_recv hK.1 hP (ci := 6) (q0 := 0) rfl rfl) rfl hl.1 rfl (Nat.le_of_ble_eq_true rfl) dX6_shake_32 ⟨Nat.le_of_ble_eq_true rfl, Nat.le_of_ble_eq_true rfl⟩) hP hD hS hA [0, 1, 2] [] rfl rfl (by decide) (by decide) (fun w_9 H locs h_10 hP hD hS => ?_)
      obtain ⟨wf2_11, ac2_12, rfl, x_13⟩ := h_10
      have hP : va_P D vwCl [(md, .inr (6, [.int 0, vm_1, vm_2, vm_3, vm_4, .ref hs, vm_6, vm_7, .ref ws, .int (nI ac2_12), vm_10, vm_11, vm_12, vm_13, vm_14, vm_15, vm_16, vm_17, vm_18, vm_19, vm_20, vm_21, vm_22, vm_23])), (hs, .inl (cI, 45, .inl f)), (ws, .inl (cI, 1080, .inl wf2_11))] H := hP
      have hD : va_D A [(md, .inr (6, [.int 0, vm_1, vm_2, vm_3, vm_4, .ref hs, vm_6, vm_7, .ref ws, .int (nI ac2_12), vm_10, vm_11, vm_12, vm_13, vm_14, vm_15, vm_16, vm_17, vm_18, vm_19, vm_20, vm_21, vm_22, vm_23])), (hs, .inl (cI, 45, .inl f)), (ws, .inl (cI, 1080, .inl wf2_11))] := hD
      obtain ⟨acx_14, acx_15, wkx_16⟩ := x_13
      refine lv_aload_n hx hb dX6_shake_35 rfl (lv_at hl 0 rfl) ?_
      refine va_get (D := D) (ci := 6) (v := .ref hs) (C := RX6) (T := TX6) (N := 24) hx hb hts hi6 hown hK.1 hP 0 rfl rfl 5 (by decide) wf19 (fun _ h9 => h9) rfl dX6_shake_36 ?_
      refine lv_iload_n hx hb dX6_shake_39 rfl (lv_at hl 1 rfl) ?_
      refine wt_goI (wr := [(md, .inr (6, [.int 0, vm_1, vm_2, vm_3, vm_4, .ref hs, vm_6, vm_7, .ref ws, .int (nI ac2_12), vm_10, vm_11, vm_12, vm_13, vm_14, vm_15, vm_16, vm_17, vm_18, vm_19, vm_20, vm_21, vm_22, vm_23])), (ws, .inl (cI, 1080, .inl wf2_11))]) (wt_runS (As := [.ref hs, .int (nI j_4)]) (rest := []) ⟨hx, hb, hml, hown, hts⟩ (c_X6_shaken_q l D cI cZ cH hs R T f K P j_4 (by first | assumption | omega) (by first | assumption | omega) (by assumption) (by first | assumption | omega)) (va_cwS 2 hts gX6_shake_X6_shaken rfl rfl rfl (by decide +kernel) ⟨Nat.le_of_ble_eq_true rfl, Nat.le_of_ble_eq_true rfl⟩) hK hP hD [1] rfl (by decide) rfl hl.1 rfl (Nat.le_of_ble_eq_true rfl) dX6_shake_40 ⟨Nat.le_of_ble_eq_true rfl, Nat.le_of_ble_eq_true rfl⟩) hP hD hS hA [1] [0, 2] rfl rfl (by decide) (by decide) (fun r_17 w_18 H locs h_19 hP hD hS => ?_)
      obtain ⟨f2_20, rfl, x_21⟩ := h_19
      have hP : va_P D vwCl [(md, .inr (6, [.int 0, vm_1, vm_2, vm_3, vm_4, .ref hs, vm_6, vm_7, .ref ws, .int (nI ac2_12), vm_10, vm_11, vm_12, vm_13, vm_14, vm_15, vm_16, vm_17, vm_18, vm_19, vm_20, vm_21, vm_22, vm_23])), (ws, .inl (cI, 1080, .inl wf2_11)), (hs, .inl (cI, 45, .inl f2_20))] H := hP
      have hD : va_D A [(md, .inr (6, [.int 0, vm_1, vm_2, vm_3, vm_4, .ref hs, vm_6, vm_7, .ref ws, .int (nI ac2_12), vm_10, vm_11, vm_12, vm_13, vm_14, vm_15, vm_16, vm_17, vm_18, vm_19, vm_20, vm_21, vm_22, vm_23])), (ws, .inl (cI, 1080, .inl wf2_11)), (hs, .inl (cI, 45, .inl f2_20))] := hD
      have hP9 := hP.sub (ws' := [(md, .inr (6, [.int 0, vm_1, vm_2, vm_3, vm_4, .ref hs, vm_6, vm_7, .ref ws, .int (nI ac2_12), vm_10, vm_11, vm_12, vm_13, vm_14, vm_15, vm_16, vm_17, vm_18, vm_19, vm_20, vm_21, vm_22, vm_23])), (hs, .inl (cI, 45, .inl f2_20)), (ws, .inl (cI, 1080, .inl wf2_11))]) [0, 2, 1] rfl
      have hD9 := hD.sub (ws' := [(md, .inr (6, [.int 0, vm_1, vm_2, vm_3, vm_4, .ref hs, vm_6, vm_7, .ref ws, .int (nI ac2_12), vm_10, vm_11, vm_12, vm_13, vm_14, vm_15, vm_16, vm_17, vm_18, vm_19, vm_20, vm_21, vm_22, vm_23])), (hs, .inl (cI, 45, .inl f2_20)), (ws, .inl (cI, 1080, .inl wf2_11))]) [0, 2, 1] (by decide) rfl
      exact wt_iret hx hb hr hlocks hP9 hD9 hS ⟨f2_20, wf2_11, ac2_12, rfl, ⟨⟨_, x_21⟩, by omega, wkx_16⟩⟩ dX6_shake_43
    · skip
      refine lv_ldc hx hb hown wc189 dX6_shake_28 ?_
      have hP9 := hP.sub (ws' := [(md, .inr (6, [.int 0, vm_1, vm_2, vm_3, vm_4, .ref hs, vm_6, vm_7, .ref ws, .int (nI ac), vm_10, vm_11, vm_12, vm_13, vm_14, vm_15, vm_16, vm_17, vm_18, vm_19, vm_20, vm_21, vm_22, vm_23])), (hs, .inl (cI, 45, .inl f)), (ws, .inl (cI, 1080, .inl wf))]) [0, 1, 2] rfl
      have hD9 := hD.sub (ws' := [(md, .inr (6, [.int 0, vm_1, vm_2, vm_3, vm_4, .ref hs, vm_6, vm_7, .ref ws, .int (nI ac), vm_10, vm_11, vm_12, vm_13, vm_14, vm_15, vm_16, vm_17, vm_18, vm_19, vm_20, vm_21, vm_22, vm_23])), (hs, .inl (cI, 45, .inl f)), (ws, .inl (cI, 1080, .inl wf))]) [0, 1, 2] (by decide) rfl
      exact wt_iret hx hb hr hlocks hP9 hD9 hS ⟨f, wf, ac, rfl, ⟨⟨_, hrq⟩, by omega, hwq⟩⟩ dX6_shake_30
  · skip
    refine lv_ldc hx hb hown wc67 dX6_shake_13 ?_
    have hP9 := hP.sub (ws' := [(md, .inr (6, [.int 0, vm_1, vm_2, vm_3, vm_4, .ref hs, vm_6, vm_7, .ref ws, .int (nI ac), vm_10, vm_11, vm_12, vm_13, vm_14, vm_15, vm_16, vm_17, vm_18, vm_19, vm_20, vm_21, vm_22, vm_23])), (hs, .inl (cI, 45, .inl f)), (ws, .inl (cI, 1080, .inl wf))]) [0, 1, 2] rfl
    have hD9 := hD.sub (ws' := [(md, .inr (6, [.int 0, vm_1, vm_2, vm_3, vm_4, .ref hs, vm_6, vm_7, .ref ws, .int (nI ac), vm_10, vm_11, vm_12, vm_13, vm_14, vm_15, vm_16, vm_17, vm_18, vm_19, vm_20, vm_21, vm_22, vm_23])), (hs, .inl (cI, 45, .inl f)), (ws, .inl (cI, 1080, .inl wf))]) [0, 1, 2] (by decide) rfl
    exact wt_iret hx hb hr hlocks hP9 hD9 hS ⟨f, wf, ac, rfl, ⟨⟨_, hrq⟩, by omega, hwq⟩⟩ dX6_shake_15
set_option maxHeartbeats 4000000 in
set_option maxRecDepth 100000 in
theorem c_X6_pour_q (l : Launch) (D : va_G) (cI cZ cH : ClassId) (md hs : Nat) (R T : Nat) (f K P : Nat → Int32) (ws : Nat) (ac : Nat) (wf : Nat → Int32) (tn : Nat) (g : Nat → Int32) (a1 a2 : Int32) (vm_0 vm_1 vm_2 vm_3 vm_4 vm_6 vm_10 vm_11 vm_12 vm_13 vm_14 vm_15 vm_16 vm_17 vm_18 vm_19 vm_20 vm_21 vm_22 vm_23 : Value) (hR5 : R ≤ 5) (hT6 : T ≤ 6) (hrq : rq K P R T f) (hac : ac ≤ 24) (hwq : wq K R T ac wf) : wt_M l yX6_pour wsX6_pour ({ frames := 2, cells := 0, slots := 0, locals := 47 } : Room) D (wt_T cI cZ cH) [.ref md, .int a1, .int a2] [(md, .inr (6, [vm_0, vm_1, vm_2, vm_3, vm_4, .ref hs, vm_6, .ref tn, .ref ws, .int (nI ac), vm_10, vm_11, vm_12, vm_13, vm_14, vm_15, vm_16, vm_17, vm_18, vm_19, vm_20, vm_21, vm_22, vm_23])), (hs, .inl (cI, 45, .inl f)), (ws, .inl (cI, 1080, .inl wf)), (tn, .inl (cI, 45, .inl g))] (wt_QI D (fun r w => ∃ (f2 wf2 g2 : Nat → Int32) (ac2 : Nat), w = [(md, .inr (6, [.int 0, vm_1, vm_2, vm_3, vm_4, .ref hs, vm_6, .ref tn, .ref ws, .int (nI ac2), vm_10, vm_11, vm_12, vm_13, vm_14, vm_15, vm_16, vm_17, vm_18, vm_19, vm_20, vm_21, vm_22, vm_23])), (hs, .inl (cI, 45, .inl f2)), (ws, .inl (cI, 1080, .inl wf2)), (tn, .inl (cI, 45, .inl g2))] ∧ (∃ P2 : Nat → Int32, rq K P2 R T f2) ∧ ac2 ≤ 24 ∧ wq K R T ac2 wf2)) := by
  refine wt_M.ofW (cc := cX6_pour) (maxL := 3) (ret := (some .int)) (by decide) rfl (Nat.le_of_ble_eq_true rfl) ?_
  intro p e s m below meth c A ls hx hb hr hts hown hlocks hml hnm hP hK hD hA hS hl
  have hP : va_P D vwCl [(md, .inr (6, [vm_0, vm_1, vm_2, vm_3, vm_4, .ref hs, vm_6, .ref tn, .ref ws, .int (nI ac), vm_10, vm_11, vm_12, vm_13, vm_14, vm_15, vm_16, vm_17, vm_18, vm_19, vm_20, vm_21, vm_22, vm_23])), (hs, .inl (cI, 45, .inl f)), (ws, .inl (cI, 1080, .inl wf)), (tn, .inl (cI, 45, .inl g))] s.heap := hP
  have hown : s.vm.findClass RX6 = some m.cls := hown
  have hl : lv_has ls 3 [(0, .ref md), (1, .int a1), (2, .int a2)] := hl
  have hi6 : ∀ w ∈ u_ws RX6 TX6 24, w ∈ wsX6_pour := by decide +kernel
  have wc189 := hts (.constant RX6 189 (-1000002)) (by decide +kernel)
  have wc67 := hts (.constant RX6 67 (-1000001)) (by decide +kernel)
  have wf19 := hts (.fieldLink RX6 19 "WarmTubesModel" "house" "[I") (by decide +kernel)
  have wf25 := hts (.fieldLink RX6 25 "WarmTubesModel" "then" "[I") (by decide +kernel)
  have wf47 := hts (.fieldLink RX6 47 "WarmTubesModel" "thrown" "I") (by decide +kernel)
  refine lv_aload_n hx hb dX6_pour_0 rfl (lv_at hl 0 rfl) ?_
  refine lv_iconst (v := 0) hx hb dX6_pour_1 (by decide) ?_
  refine va_put (D := D) (ci := 6) (v := .int 0) (ty := .int) (C := RX6) (T := TX6) (N := 24) hx hb hts hi6 tyX6 tyX6_ok nmX6 hown hK.1 hP hD hS 0 rfl rfl 0 (by decide) wf47 (fun _ h9 => h9) rfl (by decide +kernel) rfl rfl (Nat.le_of_ble_eq_true rfl) dX6_pour_2 (fun H locs hP hD hS => ?_)
  have hP : va_P D vwCl [(md, .inr (6, [.int 0, vm_1, vm_2, vm_3, vm_4, .ref hs, vm_6, .ref tn, .ref ws, .int (nI ac), vm_10, vm_11, vm_12, vm_13, vm_14, vm_15, vm_16, vm_17, vm_18, vm_19, vm_20, vm_21, vm_22, vm_23])), (hs, .inl (cI, 45, .inl f)), (ws, .inl (cI, 1080, .inl wf)), (tn, .inl (cI, 45, .inl g))] H := hP
  have hD : va_D A [(md, .inr (6, [.int 0, vm_1, vm_2, vm_3, vm_4, .ref hs, vm_6, .ref tn, .ref ws, .int (nI ac), vm_10, vm_11, vm_12, vm_13, vm_14, vm_15, vm_16, vm_17, vm_18, vm_19, vm_20, vm_21, vm_22, vm_23])), (hs, .inl (cI, 45, .inl f)), (ws, .inl (cI, 1080, .inl wf)), (tn, .inl (cI, 45, .inl g))] := hD
  refine lv_aload_n hx hb dX6_pour_5 rfl (lv_at hl 0 rfl) ?_
  refine lv_iload_n hx hb dX6_pour_6 rfl (lv_at hl 1 rfl) ?_
  refine wt_rV (As := [.int a1]) (rest := []) ⟨hx, hb, hml, hown, hts⟩ (c_X6_isTube l D cI cZ cH md hs R T f a1 (.int 0) vm_1 vm_2 vm_3 vm_4 vm_6 (.ref tn) (.ref ws) (.int (nI ac)) vm_10 vm_11 vm_12 vm_13 vm_14 vm_15 vm_16 vm_17 vm_18 vm_19 vm_20 vm_21 vm_22 vm_23 (by first | assumption | omega) (by first | assumption | omega) (by first | assumption | exact rq_rk (by assumption))) (cwV 1 hts gX6_pour_X6_isTube rfl rfl rfl (by decide +kernel) ⟨Nat.le_of_ble_eq_true rfl, Nat.le_of_ble_eq_true rfl⟩) hK hP [0, 1] rfl (va_recv hK.1 hP (ci := 6) (q0 := 0) rfl rfl) rfl hl.1 rfl (Nat.le_of_ble_eq_true rfl) dX6_pour_7 ⟨Nat.le_of_ble_eq_true rfl, Nat.le_of_ble_eq_true rfl⟩ (fun r_1 e_2 => ?_)
  subst e_2
  refine lv_if_eq (tgt := 26) hx hb dX6_pour_10 (by decide) (fun c_3 => ?_) (fun c_3 => ?_)
  · skip
    refine lv_ldc hx hb hown wc67 dX6_pour_26 ?_
    have hP9 := hP.sub (ws' := [(md, .inr (6, [.int 0, vm_1, vm_2, vm_3, vm_4, .ref hs, vm_6, .ref tn, .ref ws, .int (nI ac), vm_10, vm_11, vm_12, vm_13, vm_14, vm_15, vm_16, vm_17, vm_18, vm_19, vm_20, vm_21, vm_22, vm_23])), (hs, .inl (cI, 45, .inl f)), (ws, .inl (cI, 1080, .inl wf)), (tn, .inl (cI, 45, .inl g))]) [0, 1, 2, 3] rfl
    have hD9 := hD.sub (ws' := [(md, .inr (6, [.int 0, vm_1, vm_2, vm_3, vm_4, .ref hs, vm_6, .ref tn, .ref ws, .int (nI ac), vm_10, vm_11, vm_12, vm_13, vm_14, vm_15, vm_16, vm_17, vm_18, vm_19, vm_20, vm_21, vm_22, vm_23])), (hs, .inl (cI, 45, .inl f)), (ws, .inl (cI, 1080, .inl wf)), (tn, .inl (cI, 45, .inl g))]) [0, 1, 2, 3] (by decide) rfl
    exact wt_iret hx hb hr hlocks hP9 hD9 hS ⟨f, wf, g, ac, rfl, ⟨⟨_, hrq⟩, by omega, hwq⟩⟩ dX6_pour_28
  · skip
    obtain ⟨j_4, hj_4, rfl⟩ := wI_natT (T := T) (by omega) c_3
    refine lv_aload_n hx hb dX6_pour_13 rfl (lv_at hl 0 rfl) ?_
    refine lv_iload_n hx hb dX6_pour_14 rfl (lv_at hl 2 rfl) ?_
    refine wt_rV (As := [.int a2]) (rest := []) ⟨hx, hb, hml, hown, hts⟩ (c_X6_isTube l D cI cZ cH md hs R T f a2 (.int 0) vm_1 vm_2 vm_3 vm_4 vm_6 (.ref tn) (.ref ws) (.int (nI ac)) vm_10 vm_11 vm_12 vm_13 vm_14 vm_15 vm_16 vm_17 vm_18 vm_19 vm_20 vm_21 vm_22 vm_23 (by first | assumption | omega) (by first | assumption | omega) (by first | assumption | exact rq_rk (by assumption))) (cwV 1 hts gX6_pour_X6_isTube rfl rfl rfl (by decide +kernel) ⟨Nat.le_of_ble_eq_true rfl, Nat.le_of_ble_eq_true rfl⟩) hK hP [0, 1] rfl (va_recv hK.1 hP (ci := 6) (q0 := 0) rfl rfl) rfl hl.1 rfl (Nat.le_of_ble_eq_true rfl) dX6_pour_15 ⟨Nat.le_of_ble_eq_true rfl, Nat.le_of_ble_eq_true rfl⟩ (fun r_5 e_6 => ?_)
    subst e_6
    refine lv_if_eq (tgt := 26) hx hb dX6_pour_18 (by decide) (fun c_7 => ?_) (fun c_7 => ?_)
    · skip
      refine lv_ldc hx hb hown wc67 dX6_pour_26 ?_
      have hP9 := hP.sub (ws' := [(md, .inr (6, [.int 0, vm_1, vm_2, vm_3, vm_4, .ref hs, vm_6, .ref tn, .ref ws, .int (nI ac), vm_10, vm_11, vm_12, vm_13, vm_14, vm_15, vm_16, vm_17, vm_18, vm_19, vm_20, vm_21, vm_22, vm_23])), (hs, .inl (cI, 45, .inl f)), (ws, .inl (cI, 1080, .inl wf)), (tn, .inl (cI, 45, .inl g))]) [0, 1, 2, 3] rfl
      have hD9 := hD.sub (ws' := [(md, .inr (6, [.int 0, vm_1, vm_2, vm_3, vm_4, .ref hs, vm_6, .ref tn, .ref ws, .int (nI ac), vm_10, vm_11, vm_12, vm_13, vm_14, vm_15, vm_16, vm_17, vm_18, vm_19, vm_20, vm_21, vm_22, vm_23])), (hs, .inl (cI, 45, .inl f)), (ws, .inl (cI, 1080, .inl wf)), (tn, .inl (cI, 45, .inl g))]) [0, 1, 2, 3] (by decide) rfl
      exact wt_iret hx hb hr hlocks hP9 hD9 hS ⟨f, wf, g, ac, rfl, ⟨⟨_, hrq⟩, by omega, hwq⟩⟩ dX6_pour_28
    · skip
      obtain ⟨j_8, hj_8, rfl⟩ := wI_natT (T := T) (by omega) c_7
      refine lv_iload_n hx hb dX6_pour_21 rfl (lv_at hl 1 rfl) ?_
      refine lv_iload_n hx hb dX6_pour_22 rfl (lv_at hl 2 rfl) ?_
      refine lv_icmp_ne (tgt := 29) hx hb dX6_pour_23 (by decide) (fun c_9 => ?_) (fun c_9 => ?_)
      · skip
        have c_9 : ¬ (j_4 = j_8) := fun h => c_9 ((nI_eq (a := j_4) (b := j_8) (by omega) (by omega)).mpr h)
        refine lv_aload_n hx hb dX6_pour_29 rfl (lv_at hl 0 rfl) ?_
        refine wt_goV (wr := [(ws, .inl (cI, 1080, .inl wf))]) (wt_runV (As := []) (rest := []) ⟨hx, hb, hml, hown, hts⟩ (c_X6_layThen l D cI cZ cH md hs R T f tn g (.int 0) vm_1 vm_2 vm_3 vm_4 vm_6 (.ref ws) (.int (nI ac)) vm_10 vm_11 vm_12 vm_13 vm_14 vm_15 vm_16 vm_17 vm_18 vm_19 vm_20 vm_21 vm_22 vm_23 (by first | assumption | omega) (by first | assumption | omega) (by first | assumption | exact rq_rk (by assumption))) (cwV 0 hts gX6_pour_X6_layThen rfl rfl rfl (by decide +kernel) ⟨Nat.le_of_ble_eq_true rfl, Nat.le_of_ble_eq_true rfl⟩) hK hP hD [0, 1, 3] rfl (by decide) (va_recv hK.1 hP (ci := 6) (q0 := 0) rfl rfl) rfl hl.1 rfl (Nat.le_of_ble_eq_true rfl) dX6_pour_30 ⟨Nat.le_of_ble_eq_true rfl, Nat.le_of_ble_eq_true rfl⟩) hP hD hS hA [0, 1, 3] [2] rfl rfl (by decide) (by decide) (fun w_11 H locs h_12 hP hD hS => ?_)
        obtain ⟨g2_13, rfl, x_14⟩ := h_12
        have hP : va_P D vwCl [(ws, .inl (cI, 1080, .inl wf)), (md, .inr (6, [.int 0, vm_1, vm_2, vm_3, vm_4, .ref hs, vm_6, .ref tn, .ref ws, .int (nI ac), vm_10, vm_11, vm_12, vm_13, vm_14, vm_15, vm_16, vm_17, vm_18, vm_19, vm_20, vm_21, vm_22, vm_23])), (hs, .inl (cI, 45, .inl f)), (tn, .inl (cI, 45, .inl g2_13))] H := hP
        have hD : va_D A [(ws, .inl (cI, 1080, .inl wf)), (md, .inr (6, [.int 0, vm_1, vm_2, vm_3, vm_4, .ref hs, vm_6, .ref tn, .ref ws, .int (nI ac), vm_10, vm_11, vm_12, vm_13, vm_14, vm_15, vm_16, vm_17, vm_18, vm_19, vm_20, vm_21, vm_22, vm_23])), (hs, .inl (cI, 45, .inl f)), (tn, .inl (cI, 45, .inl g2_13))] := hD
        refine lv_aload_n hx hb dX6_pour_33 rfl (lv_at hl 0 rfl) ?_
        refine va_get (D := D) (ci := 6) (v := .ref tn) (C := RX6) (T := TX6) (N := 24) hx hb hts hi6 hown hK.1 hP 1 rfl rfl 7 (by decide) wf25 (fun _ h9 => h9) rfl dX6_pour_34 ?_
        refine lv_iload_n hx hb dX6_pour_37 rfl (lv_at hl 1 rfl) ?_
        refine lv_iload_n hx hb dX6_pour_38 rfl (lv_at hl 2 rfl) ?_
        refine wt_goI (wr := [(ws, .inl (cI, 1080, .inl wf)), (md, .inr (6, [.int 0, vm_1, vm_2, vm_3, vm_4, .ref hs, vm_6, .ref tn, .ref ws, .int (nI ac), vm_10, vm_11, vm_12, vm_13, vm_14, vm_15, vm_16, vm_17, vm_18, vm_19, vm_20, vm_21, vm_22, vm_23])), (hs, .inl (cI, 45, .inl f))]) (wt_runS (As := [.ref tn, .int (nI j_4), .int (nI j_8)]) (rest := []) ⟨hx, hb, hml, hown, hts⟩ (c_X6_poured l D cI cZ cH tn R T g2_13 j_4 j_8 (by first | assumption | omega) (by first | assumption | omega) (by first | assumption | exact rq_rk (by assumption)) (by first | assumption | omega) (by first | assumption | omega)) (va_cwS 3 hts gX6_pour_X6_poured rfl rfl rfl (by decide +kernel) ⟨Nat.le_of_ble_eq_true rfl, Nat.le_of_ble_eq_true rfl⟩) hK hP hD [3] rfl (by decide) rfl hl.1 rfl (Nat.le_of_ble_eq_true rfl) dX6_pour_39 ⟨Nat.le_of_ble_eq_true rfl, Nat.le_of_ble_eq_true rfl⟩) hP hD hS hA [3] [0, 1, 2] rfl rfl (by decide) (by decide) (fun r_15 w_16 H locs h_17 hP hD hS => ?_)
        obtain ⟨f2_18, rfl, x_19⟩ := h_17
        have hP : va_P D vwCl [(ws, .inl (cI, 1080, .inl wf)), (md, .inr (6, [.int 0, vm_1, vm_2, vm_3, vm_4, .ref hs, vm_6, .ref tn, .ref ws, .int (nI ac), vm_10, vm_11, vm_12, vm_13, vm_14, vm_15, vm_16, vm_17, vm_18, vm_19, vm_20, vm_21, vm_22, vm_23])), (hs, .inl (cI, 45, .inl f)), (tn, .inl (cI, 45, .inl f2_18))] H := hP
        have hD : va_D A [(ws, .inl (cI, 1080, .inl wf)), (md, .inr (6, [.int 0, vm_1, vm_2, vm_3, vm_4, .ref hs, vm_6, .ref tn, .ref ws, .int (nI ac), vm_10, vm_11, vm_12, vm_13, vm_14, vm_15, vm_16, vm_17, vm_18, vm_19, vm_20, vm_21, vm_22, vm_23])), (hs, .inl (cI, 45, .inl f)), (tn, .inl (cI, 45, .inl f2_18))] := hD
        refine lv_if_ne (tgt := 48) hx hb dX6_pour_42 (by decide) (fun c_20 => ?_) (fun c_20 => ?_)
        · skip
          refine lv_aload_n hx hb dX6_pour_48 rfl (lv_at hl 0 rfl) ?_
          refine wt_goV (wr := [(tn, .inl (cI, 45, .inl f2_18))]) (wt_runV (As := []) (rest := []) ⟨hx, hb, hml, hown, hts⟩ (c_X6_keep_q l D cI cZ cH md hs R T f K P ws ac wf (.int 0) vm_1 vm_2 vm_3 vm_4 vm_6 (.ref tn) vm_10 vm_11 vm_12 vm_13 vm_14 vm_15 vm_16 vm_17 vm_18 vm_19 vm_20 vm_21 vm_22 vm_23 (by first | assumption | omega) (by first | assumption | omega) (by assumption) (by first | assumption | omega) (by first | assumption | omega)) (cwV 0 hts gX6_pour_X6_keep rfl rfl rfl (by decide +kernel) ⟨Nat.le_of_ble_eq_true rfl, Nat.le_of_ble_eq_true rfl⟩) hK hP hD [1, 2, 0] rfl (by decide) (va_recv hK.1 hP (ci := 6) (q0 := 1) rfl rfl) rfl hl.1 rfl (Nat.le_of_ble_eq_true rfl) dX6_pour_49 ⟨Nat.le_of_ble_eq_true rfl, Nat.le_of_ble_eq_true rfl⟩) hP hD hS hA [1, 2, 0] [3] rfl rfl (by decide) (by decide) (fun w_22 H locs h_23 hP hD hS => ?_)
          obtain ⟨wf2_24, ac2_25, rfl, x_26⟩ := h_23
          have hP : va_P D vwCl [(tn, .inl (cI, 45, .inl f2_18)), (md, .inr (6, [.int 0, vm_1, vm_2, vm_3, vm_4, .ref hs, vm_6, .ref tn, .ref ws, .int (nI ac2_25), vm_10, vm_11, vm_12, vm_13, vm_14, vm_15, vm_16, vm_17, vm_18, vm_19, vm_20, vm_21, vm_22, vm_23])), (hs, .inl (cI, 45, .inl f)), (ws, .inl (cI, 1080, .inl wf2_24))] H := hP
          have hD : va_D A [(tn, .inl (cI, 45, .inl f2_18)), (md, .inr (6, [.int 0, vm_1, vm_2, vm_3, vm_4, .ref hs, vm_6, .ref tn, .ref ws, .int (nI ac2_25), vm_10, vm_11, vm_12, vm_13, vm_14, vm_15, vm_16, vm_17, vm_18, vm_19, vm_20, vm_21, vm_22, vm_23])), (hs, .inl (cI, 45, .inl f)), (ws, .inl (cI, 1080, .inl wf2_24))] := hD
          obtain ⟨acx_27, acx_28, wkx_29⟩ := x_26
          refine lv_aload_n hx hb dX6_pour_52 rfl (lv_at hl 0 rfl) ?_
          refine va_get (D := D) (ci := 6) (v := .ref hs) (C := RX6) (T := TX6) (N := 24) hx hb hts hi6 hown hK.1 hP 1 rfl rfl 5 (by decide) wf19 (fun _ h9 => h9) rfl dX6_pour_53 ?_
          refine lv_iload_n hx hb dX6_pour_56 rfl (lv_at hl 1 rfl) ?_
          refine lv_iload_n hx hb dX6_pour_57 rfl (lv_at hl 2 rfl) ?_
          refine wt_goI (wr := [(tn, .inl (cI, 45, .inl f2_18)), (md, .inr (6, [.int 0, vm_1, vm_2, vm_3, vm_4, .ref hs, vm_6, .ref tn, .ref ws, .int (nI ac2_25), vm_10, vm_11, vm_12, vm_13, vm_14, vm_15, vm_16, vm_17, vm_18, vm_19, vm_20, vm_21, vm_22, vm_23])), (ws, .inl (cI, 1080, .inl wf2_24))]) (wt_runS (As := [.ref hs, .int (nI j_4), .int (nI j_8)]) (rest := []) ⟨hx, hb, hml, hown, hts⟩ (c_X6_poured_q l D cI cZ cH hs R T f K P j_4 j_8 (by first | assumption | omega) (by first | assumption | omega) (by assumption) (by first | assumption | omega) (by first | assumption | omega)) (va_cwS 3 hts gX6_pour_X6_poured rfl rfl rfl (by decide +kernel) ⟨Nat.le_of_ble_eq_true rfl, Nat.le_of_ble_eq_true rfl⟩) hK hP hD [2] rfl (by decide) rfl hl.1 rfl (Nat.le_of_ble_eq_true rfl) dX6_pour_58 ⟨Nat.le_of_ble_eq_true rfl, Nat.le_of_ble_eq_true rfl⟩) hP hD hS hA [2] [0, 1, 3] rfl rfl (by decide) (by decide) (fun r_30 w_31 H locs h_32 hP hD hS => ?_)
          obtain ⟨f2_33, rfl, x_34⟩ := h_32
          have hP : va_P D vwCl [(tn, .inl (cI, 45, .inl f2_18)), (md, .inr (6, [.int 0, vm_1, vm_2, vm_3, vm_4, .ref hs, vm_6, .ref tn, .ref ws, .int (nI ac2_25), vm_10, vm_11, vm_12, vm_13, vm_14, vm_15, vm_16, vm_17, vm_18, vm_19, vm_20, vm_21, vm_22, vm_23])), (ws, .inl (cI, 1080, .inl wf2_24)), (hs, .inl (cI, 45, .inl f2_33))] H := hP
          have hD : va_D A [(tn, .inl (cI, 45, .inl f2_18)), (md, .inr (6, [.int 0, vm_1, vm_2, vm_3, vm_4, .ref hs, vm_6, .ref tn, .ref ws, .int (nI ac2_25), vm_10, vm_11, vm_12, vm_13, vm_14, vm_15, vm_16, vm_17, vm_18, vm_19, vm_20, vm_21, vm_22, vm_23])), (ws, .inl (cI, 1080, .inl wf2_24)), (hs, .inl (cI, 45, .inl f2_33))] := hD
          have hP9 := hP.sub (ws' := [(md, .inr (6, [.int 0, vm_1, vm_2, vm_3, vm_4, .ref hs, vm_6, .ref tn, .ref ws, .int (nI ac2_25), vm_10, vm_11, vm_12, vm_13, vm_14, vm_15, vm_16, vm_17, vm_18, vm_19, vm_20, vm_21, vm_22, vm_23])), (hs, .inl (cI, 45, .inl f2_33)), (ws, .inl (cI, 1080, .inl wf2_24)), (tn, .inl (cI, 45, .inl f2_18))]) [1, 3, 2, 0] rfl
          have hD9 := hD.sub (ws' := [(md, .inr (6, [.int 0, vm_1, vm_2, vm_3, vm_4, .ref hs, vm_6, .ref tn, .ref ws, .int (nI ac2_25), vm_10, vm_11, vm_12, vm_13, vm_14, vm_15, vm_16, vm_17, vm_18, vm_19, vm_20, vm_21, vm_22, vm_23])), (hs, .inl (cI, 45, .inl f2_33)), (ws, .inl (cI, 1080, .inl wf2_24)), (tn, .inl (cI, 45, .inl f2_18))]) [1, 3, 2, 0] (by decide) rfl
          exact wt_iret hx hb hr hlocks hP9 hD9 hS ⟨f2_33, wf2_24, f2_18, ac2_25, rfl, ⟨⟨_, x_34⟩, by omega, wkx_29⟩⟩ dX6_pour_61
        · skip
          refine lv_ldc hx hb hown wc189 dX6_pour_45 ?_
          have hP9 := hP.sub (ws' := [(md, .inr (6, [.int 0, vm_1, vm_2, vm_3, vm_4, .ref hs, vm_6, .ref tn, .ref ws, .int (nI ac), vm_10, vm_11, vm_12, vm_13, vm_14, vm_15, vm_16, vm_17, vm_18, vm_19, vm_20, vm_21, vm_22, vm_23])), (hs, .inl (cI, 45, .inl f)), (ws, .inl (cI, 1080, .inl wf)), (tn, .inl (cI, 45, .inl f2_18))]) [1, 2, 0, 3] rfl
          have hD9 := hD.sub (ws' := [(md, .inr (6, [.int 0, vm_1, vm_2, vm_3, vm_4, .ref hs, vm_6, .ref tn, .ref ws, .int (nI ac), vm_10, vm_11, vm_12, vm_13, vm_14, vm_15, vm_16, vm_17, vm_18, vm_19, vm_20, vm_21, vm_22, vm_23])), (hs, .inl (cI, 45, .inl f)), (ws, .inl (cI, 1080, .inl wf)), (tn, .inl (cI, 45, .inl f2_18))]) [1, 2, 0, 3] (by decide) rfl
          exact wt_iret hx hb hr hlocks hP9 hD9 hS ⟨f, wf, f2_18, ac, rfl, ⟨⟨_, hrq⟩, by omega, hwq⟩⟩ dX6_pour_47
      · skip
        have c_9 : j_4 = j_8 := (nI_eq (a := j_4) (b := j_8) (by omega) (by omega)).mp c_9
        refine lv_ldc hx hb hown wc67 dX6_pour_26 ?_
        have hP9 := hP.sub (ws' := [(md, .inr (6, [.int 0, vm_1, vm_2, vm_3, vm_4, .ref hs, vm_6, .ref tn, .ref ws, .int (nI ac), vm_10, vm_11, vm_12, vm_13, vm_14, vm_15, vm_16, vm_17, vm_18, vm_19, vm_20, vm_21, vm_22, vm_23])), (hs, .inl (cI, 45, .inl f)), (ws, .inl (cI, 1080, .inl wf)), (tn, .inl (cI, 45, .inl g))]) [0, 1, 2, 3] rfl
        have hD9 := hD.sub (ws' := [(md, .inr (6, [.int 0, vm_1, vm_2, vm_3, vm_4, .ref hs, vm_6, .ref tn, .ref ws, .int (nI ac), vm_10, vm_11, vm_12, vm_13, vm_14, vm_15, vm_16, vm_17, vm_18, vm_19, vm_20, vm_21, vm_22, vm_23])), (hs, .inl (cI, 45, .inl f)), (ws, .inl (cI, 1080, .inl wf)), (tn, .inl (cI, 45, .inl g))]) [0, 1, 2, 3] (by decide) rfl
        exact wt_iret hx hb hr hlocks hP9 hD9 hS ⟨f, wf, g, ac, rfl, ⟨⟨_, hrq⟩, by omega, hwq⟩⟩ dX6_pour_28
set_option maxHeartbeats 4000000 in
set_option maxRecDepth 100000 in
theorem c_X6_stove_q (l : Launch) (D : va_G) (cI cZ cH : ClassId) (md hs : Nat) (R T : Nat) (f K P : Nat → Int32) (ws : Nat) (ac : Nat) (wf : Nat → Int32) (a1 a2 : Int32) (vm_0 vm_1 vm_2 vm_3 vm_4 vm_6 vm_7 vm_10 vm_11 vm_12 vm_13 vm_14 vm_15 vm_16 vm_17 vm_18 vm_19 vm_20 vm_21 vm_22 vm_23 : Value) (hR5 : R ≤ 5) (hT6 : T ≤ 6) (hrq : rq K P R T f) (hac : ac ≤ 24) (hwq : wq K R T ac wf) : wt_M l yX6_stove wsX6_stove ({ frames := 2, cells := 0, slots := 0, locals := 46 } : Room) D (wt_T cI cZ cH) [.ref md, .int a1, .int a2] [(md, .inr (6, [vm_0, vm_1, vm_2, vm_3, vm_4, .ref hs, vm_6, vm_7, .ref ws, .int (nI ac), vm_10, vm_11, vm_12, vm_13, vm_14, vm_15, vm_16, vm_17, vm_18, vm_19, vm_20, vm_21, vm_22, vm_23])), (hs, .inl (cI, 45, .inl f)), (ws, .inl (cI, 1080, .inl wf))] (wt_QI D (fun r w => ∃ (f2 wf2 : Nat → Int32) (ac2 : Nat), w = [(md, .inr (6, [.int 0, vm_1, vm_2, vm_3, vm_4, .ref hs, vm_6, vm_7, .ref ws, .int (nI ac2), vm_10, vm_11, vm_12, vm_13, vm_14, vm_15, vm_16, vm_17, vm_18, vm_19, vm_20, vm_21, vm_22, vm_23])), (hs, .inl (cI, 45, .inl f2)), (ws, .inl (cI, 1080, .inl wf2))] ∧ (∃ P2 : Nat → Int32, rq K P2 R T f2) ∧ ac2 ≤ 24 ∧ wq K R T ac2 wf2)) := by
  refine wt_M.ofW (cc := cX6_stove) (maxL := 4) (ret := (some .int)) (by decide) rfl (Nat.le_of_ble_eq_true rfl) ?_
  intro p e s m below meth c A ls hx hb hr hts hown hlocks hml hnm hP hK hD hA hS hl
  have hP : va_P D vwCl [(md, .inr (6, [vm_0, vm_1, vm_2, vm_3, vm_4, .ref hs, vm_6, vm_7, .ref ws, .int (nI ac), vm_10, vm_11, vm_12, vm_13, vm_14, vm_15, vm_16, vm_17, vm_18, vm_19, vm_20, vm_21, vm_22, vm_23])), (hs, .inl (cI, 45, .inl f)), (ws, .inl (cI, 1080, .inl wf))] s.heap := hP
  have hown : s.vm.findClass RX6 = some m.cls := hown
  have hl : lv_has ls 4 [(0, .ref md), (1, .int a1), (2, .int a2)] := hl
  have hi6 : ∀ w ∈ u_ws RX6 TX6 24, w ∈ wsX6_stove := by decide +kernel
  have wc67 := hts (.constant RX6 67 (-1000001)) (by decide +kernel)
  have wf19 := hts (.fieldLink RX6 19 "WarmTubesModel" "house" "[I") (by decide +kernel)
  have wf47 := hts (.fieldLink RX6 47 "WarmTubesModel" "thrown" "I") (by decide +kernel)
  have wl216 := hts (.constantLong RX6 216 (20)) (by decide +kernel)
  refine lv_aload_n hx hb dX6_stove_0 rfl (lv_at hl 0 rfl) ?_
  refine lv_iconst (v := 0) hx hb dX6_stove_1 (by decide) ?_
  refine va_put (D := D) (ci := 6) (v := .int 0) (ty := .int) (C := RX6) (T := TX6) (N := 24) hx hb hts hi6 tyX6 tyX6_ok nmX6 hown hK.1 hP hD hS 0 rfl rfl 0 (by decide) wf47 (fun _ h9 => h9) rfl (by decide +kernel) rfl rfl (Nat.le_of_ble_eq_true rfl) dX6_stove_2 (fun H locs hP hD hS => ?_)
  have hP : va_P D vwCl [(md, .inr (6, [.int 0, vm_1, vm_2, vm_3, vm_4, .ref hs, vm_6, vm_7, .ref ws, .int (nI ac), vm_10, vm_11, vm_12, vm_13, vm_14, vm_15, vm_16, vm_17, vm_18, vm_19, vm_20, vm_21, vm_22, vm_23])), (hs, .inl (cI, 45, .inl f)), (ws, .inl (cI, 1080, .inl wf))] H := hP
  have hD : va_D A [(md, .inr (6, [.int 0, vm_1, vm_2, vm_3, vm_4, .ref hs, vm_6, vm_7, .ref ws, .int (nI ac), vm_10, vm_11, vm_12, vm_13, vm_14, vm_15, vm_16, vm_17, vm_18, vm_19, vm_20, vm_21, vm_22, vm_23])), (hs, .inl (cI, 45, .inl f)), (ws, .inl (cI, 1080, .inl wf))] := hD
  refine lv_aload_n hx hb dX6_stove_5 rfl (lv_at hl 0 rfl) ?_
  refine lv_iload_n hx hb dX6_stove_6 rfl (lv_at hl 1 rfl) ?_
  refine wt_rV (As := [.int a1]) (rest := []) ⟨hx, hb, hml, hown, hts⟩ (c_X6_isRoom l D cI cZ cH md hs R T f a1 (.int 0) vm_1 vm_2 vm_3 vm_4 vm_6 vm_7 (.ref ws) (.int (nI ac)) vm_10 vm_11 vm_12 vm_13 vm_14 vm_15 vm_16 vm_17 vm_18 vm_19 vm_20 vm_21 vm_22 vm_23 (by first | assumption | omega) (by first | assumption | omega) (by first | assumption | exact rq_rk (by assumption))) (cwV 1 hts gX6_stove_X6_isRoom rfl rfl rfl (by decide +kernel) ⟨Nat.le_of_ble_eq_true rfl, Nat.le_of_ble_eq_true rfl⟩) hK hP [0, 1] rfl (va_recv hK.1 hP (ci := 6) (q0 := 0) rfl rfl) rfl hl.1 rfl (Nat.le_of_ble_eq_true rfl) dX6_stove_7 ⟨Nat.le_of_ble_eq_true rfl, Nat.le_of_ble_eq_true rfl⟩ (fun r_1 e_2 => ?_)
  subst e_2
  refine lv_if_eq (tgt := 25) hx hb dX6_stove_10 (by decide) (fun c_3 => ?_) (fun c_3 => ?_)
  · skip
    refine lv_ldc hx hb hown wc67 dX6_stove_25 ?_
    have hP9 := hP.sub (ws' := [(md, .inr (6, [.int 0, vm_1, vm_2, vm_3, vm_4, .ref hs, vm_6, vm_7, .ref ws, .int (nI ac), vm_10, vm_11, vm_12, vm_13, vm_14, vm_15, vm_16, vm_17, vm_18, vm_19, vm_20, vm_21, vm_22, vm_23])), (hs, .inl (cI, 45, .inl f)), (ws, .inl (cI, 1080, .inl wf))]) [0, 1, 2] rfl
    have hD9 := hD.sub (ws' := [(md, .inr (6, [.int 0, vm_1, vm_2, vm_3, vm_4, .ref hs, vm_6, vm_7, .ref ws, .int (nI ac), vm_10, vm_11, vm_12, vm_13, vm_14, vm_15, vm_16, vm_17, vm_18, vm_19, vm_20, vm_21, vm_22, vm_23])), (hs, .inl (cI, 45, .inl f)), (ws, .inl (cI, 1080, .inl wf))]) [0, 1, 2] (by decide) rfl
    exact wt_iret hx hb hr hlocks hP9 hD9 hS ⟨f, wf, ac, rfl, ⟨⟨_, hrq⟩, by omega, hwq⟩⟩ dX6_stove_27
  · skip
    obtain ⟨j_4, hj_4, rfl⟩ := wI_natT (T := R) (by omega) c_3
    refine lv_iload_n hx hb dX6_stove_13 rfl (lv_at hl 2 rfl) ?_
    refine lv_i2l hx hb dX6_stove_14 rfl ?_
    refine lv_lconst (v := 0) hx hb dX6_stove_15 (by decide) ?_
    refine lv_ldc2 hx hb hown wl216 dX6_stove_16 ?_
    refine wt_rS (As := [.long a2.toInt64, .long 0, .long 20]) (rest := []) ⟨hx, hb, hml, hown, hts⟩ (c_X6_in l D cI cZ cH a2.toInt64 0 20) (va_cwS 3 hts gX6_stove_X6_in rfl rfl rfl (by decide +kernel) ⟨Nat.le_of_ble_eq_true rfl, Nat.le_of_ble_eq_true rfl⟩) hK hP [] rfl rfl hl.1 rfl (Nat.le_of_ble_eq_true rfl) dX6_stove_19 ⟨Nat.le_of_ble_eq_true rfl, Nat.le_of_ble_eq_true rfl⟩ (fun r_5 e_6 => ?_)
    subst e_6
    refine wt_top (z := wI a2 0 20) (wL_I' (by decide) (by decide)) ?_
    refine lv_if_ne (tgt := 28) hx hb dX6_stove_22 (by decide) (fun c_7 => ?_) (fun c_7 => ?_)
    · skip
      obtain ⟨j_8, hj_8, hj_8b, rfl⟩ := wI_nat (a := 0) (b := 20) (by omega) (by omega) c_7
      refine lv_aload_n hx hb dX6_stove_28 rfl (lv_at hl 0 rfl) ?_
      refine wt_goV (wr := []) (wt_runV (As := []) (rest := []) ⟨hx, hb, hml, hown, hts⟩ (c_X6_keep_q l D cI cZ cH md hs R T f K P ws ac wf (.int 0) vm_1 vm_2 vm_3 vm_4 vm_6 vm_7 vm_10 vm_11 vm_12 vm_13 vm_14 vm_15 vm_16 vm_17 vm_18 vm_19 vm_20 vm_21 vm_22 vm_23 (by first | assumption | omega) (by first | assumption | omega) (by assumption) (by first | assumption | omega) (by first | assumption | omega)) (cwV 0 hts gX6_stove_X6_keep rfl rfl rfl (by decide +kernel) ⟨Nat.le_of_ble_eq_true rfl, Nat.le_of_ble_eq_true rfl⟩) hK hP hD [0, 1, 2] rfl (by decide) (va_recv hK.1 hP (ci := 6) (q0 := 0) rfl rfl) rfl hl.1 rfl (Nat.le_of_ble_eq_true rfl) dX6_stove_29 ⟨Nat.le_of_ble_eq_true rfl, Nat.le_of_ble_eq_true rfl⟩) hP hD hS hA [0, 1, 2] [] rfl rfl (by decide) (by decide) (fun w_10 H locs h_11 hP hD hS => ?_)
      obtain ⟨wf2_12, ac2_13, rfl, x_14⟩ := h_11
      have hP : va_P D vwCl [(md, .inr (6, [.int 0, vm_1, vm_2, vm_3, vm_4, .ref hs, vm_6, vm_7, .ref ws, .int (nI ac2_13), vm_10, vm_11, vm_12, vm_13, vm_14, vm_15, vm_16, vm_17, vm_18, vm_19, vm_20, vm_21, vm_22, vm_23])), (hs, .inl (cI, 45, .inl f)), (ws, .inl (cI, 1080, .inl wf2_12))] H := hP
      have hD : va_D A [(md, .inr (6, [.int 0, vm_1, vm_2, vm_3, vm_4, .ref hs, vm_6, vm_7, .ref ws, .int (nI ac2_13), vm_10, vm_11, vm_12, vm_13, vm_14, vm_15, vm_16, vm_17, vm_18, vm_19, vm_20, vm_21, vm_22, vm_23])), (hs, .inl (cI, 45, .inl f)), (ws, .inl (cI, 1080, .inl wf2_12))] := hD
      obtain ⟨acx_15, acx_16, wkx_17⟩ := x_14
      refine lv_aload_n hx hb dX6_stove_32 rfl (lv_at hl 0 rfl) ?_
      refine va_get (D := D) (ci := 6) (v := .ref hs) (C := RX6) (T := TX6) (N := 24) hx hb hts hi6 hown hK.1 hP 0 rfl rfl 5 (by decide) wf19 (fun _ h9 => h9) rfl dX6_stove_33 ?_
      refine lv_iconst (v := 5) hx hb dX6_stove_36 (by decide) ?_
      refine lv_iconst (v := 2) hx hb dX6_stove_37 (by decide) ?_
      refine lv_iload_n hx hb dX6_stove_38 rfl (lv_at hl 1 rfl) ?_
      refine lv_imul hx hb dX6_stove_39 ?_
      refine wt_top (z := nI (2 * j_4)) (pk_mul 2 j_4) ?_
      refine lv_iadd hx hb dX6_stove_40 ?_
      refine wt_top (z := nI (5 + (2 * j_4))) (nI_add 5 (2 * j_4)) ?_
      refine lv_iconst (v := 1) hx hb dX6_stove_41 (by decide) ?_
      refine lv_iadd hx hb dX6_stove_42 ?_
      refine wt_top (z := nI ((5 + (2 * j_4)) + 1)) (nI_add (5 + (2 * j_4)) 1) ?_
      refine va_iald hx hb hK.1 hP 1 0 rfl rfl (vp_in_nI (by omega) (by omega)) dX6_stove_43 ?_
      refine lv_topi (fun ov_18 _ => ?_)
      refine lv_istore_n (lv' := [(3, .int ov_18), (0, .ref md), (1, .int (nI j_4)), (2, .int (nI j_8))]) hx hb dX6_stove_44 rfl hl (by decide) rfl (fun ls hl => ?_)
      refine lv_aload_n hx hb dX6_stove_45 rfl (lv_at hl 1 rfl) ?_
      refine va_get (D := D) (ci := 6) (v := .ref hs) (C := RX6) (T := TX6) (N := 24) hx hb hts hi6 hown hK.1 hP 0 rfl rfl 5 (by decide) wf19 (fun _ h9 => h9) rfl dX6_stove_46 ?_
      refine lv_iconst (v := 5) hx hb dX6_stove_49 (by decide) ?_
      refine lv_iconst (v := 2) hx hb dX6_stove_50 (by decide) ?_
      refine lv_iload_n hx hb dX6_stove_51 rfl (lv_at hl 2 rfl) ?_
      refine lv_imul hx hb dX6_stove_52 ?_
      refine wt_top (z := nI (2 * j_4)) (pk_mul 2 j_4) ?_
      refine lv_iadd hx hb dX6_stove_53 ?_
      refine wt_top (z := nI (5 + (2 * j_4))) (nI_add 5 (2 * j_4)) ?_
      refine lv_iconst (v := 1) hx hb dX6_stove_54 (by decide) ?_
      refine lv_iadd hx hb dX6_stove_55 ?_
      refine wt_top (z := nI ((5 + (2 * j_4)) + 1)) (nI_add (5 + (2 * j_4)) 1) ?_
      refine lv_iload_n hx hb dX6_stove_56 rfl (lv_at hl 3 rfl) ?_
      refine va_iast hx hb hK.1 hP hD hS 1 0 rfl rfl (vp_in_nI (by omega) (by omega)) dX6_stove_57 (fun H locs hP hD hS => ?_)
      have hP : va_P D vwCl [(md, .inr (6, [.int 0, vm_1, vm_2, vm_3, vm_4, .ref hs, vm_6, vm_7, .ref ws, .int (nI ac2_13), vm_10, vm_11, vm_12, vm_13, vm_14, vm_15, vm_16, vm_17, vm_18, vm_19, vm_20, vm_21, vm_22, vm_23])), (hs, .inl (cI, 45, .inl (upd f ((nI ((5 + (2 * j_4)) + 1)).toNatClampNeg) (nI j_8)))), (ws, .inl (cI, 1080, .inl wf2_12))] H := hP
      have hD : va_D A [(md, .inr (6, [.int 0, vm_1, vm_2, vm_3, vm_4, .ref hs, vm_6, vm_7, .ref ws, .int (nI ac2_13), vm_10, vm_11, vm_12, vm_13, vm_14, vm_15, vm_16, vm_17, vm_18, vm_19, vm_20, vm_21, vm_22, vm_23])), (hs, .inl (cI, 45, .inl (upd f ((nI ((5 + (2 * j_4)) + 1)).toNatClampNeg) (nI j_8)))), (ws, .inl (cI, 1080, .inl wf2_12))] := hD
      have rk_19 : rq K P R T (upd f ((nI ((5 + (2 * j_4)) + 1)).toNatClampNeg) (nI j_8)) := rq_upd (k := ((5 + (2 * j_4)) + 1)) hrq (nI_clamp (by omega)) (by omega) _
      generalize upd f ((nI ((5 + (2 * j_4)) + 1)).toNatClampNeg) (nI j_8) = rf_20 at hP hD rk_19
      refine lv_iload_n hx hb dX6_stove_58 rfl (lv_at hl 0 rfl) ?_
      have hP9 := hP.sub (ws' := [(md, .inr (6, [.int 0, vm_1, vm_2, vm_3, vm_4, .ref hs, vm_6, vm_7, .ref ws, .int (nI ac2_13), vm_10, vm_11, vm_12, vm_13, vm_14, vm_15, vm_16, vm_17, vm_18, vm_19, vm_20, vm_21, vm_22, vm_23])), (hs, .inl (cI, 45, .inl rf_20)), (ws, .inl (cI, 1080, .inl wf2_12))]) [0, 1, 2] rfl
      have hD9 := hD.sub (ws' := [(md, .inr (6, [.int 0, vm_1, vm_2, vm_3, vm_4, .ref hs, vm_6, vm_7, .ref ws, .int (nI ac2_13), vm_10, vm_11, vm_12, vm_13, vm_14, vm_15, vm_16, vm_17, vm_18, vm_19, vm_20, vm_21, vm_22, vm_23])), (hs, .inl (cI, 45, .inl rf_20)), (ws, .inl (cI, 1080, .inl wf2_12))]) [0, 1, 2] (by decide) rfl
      exact wt_iret hx hb hr hlocks hP9 hD9 hS ⟨rf_20, wf2_12, ac2_13, rfl, ⟨⟨_, rk_19⟩, by omega, wkx_17⟩⟩ dX6_stove_59
    · skip
      refine lv_ldc hx hb hown wc67 dX6_stove_25 ?_
      have hP9 := hP.sub (ws' := [(md, .inr (6, [.int 0, vm_1, vm_2, vm_3, vm_4, .ref hs, vm_6, vm_7, .ref ws, .int (nI ac), vm_10, vm_11, vm_12, vm_13, vm_14, vm_15, vm_16, vm_17, vm_18, vm_19, vm_20, vm_21, vm_22, vm_23])), (hs, .inl (cI, 45, .inl f)), (ws, .inl (cI, 1080, .inl wf))]) [0, 1, 2] rfl
      have hD9 := hD.sub (ws' := [(md, .inr (6, [.int 0, vm_1, vm_2, vm_3, vm_4, .ref hs, vm_6, vm_7, .ref ws, .int (nI ac), vm_10, vm_11, vm_12, vm_13, vm_14, vm_15, vm_16, vm_17, vm_18, vm_19, vm_20, vm_21, vm_22, vm_23])), (hs, .inl (cI, 45, .inl f)), (ws, .inl (cI, 1080, .inl wf))]) [0, 1, 2] (by decide) rfl
      exact wt_iret hx hb hr hlocks hP9 hD9 hS ⟨f, wf, ac, rfl, ⟨⟨_, hrq⟩, by omega, hwq⟩⟩ dX6_stove_27
set_option maxHeartbeats 4000000 in
set_option maxRecDepth 100000 in
theorem c_X6_undo_q (l : Launch) (D : va_G) (cI cZ cH : ClassId) (md hs : Nat) (R T : Nat) (f K P : Nat → Int32) (ws : Nat) (ac : Nat) (wf : Nat → Int32) (vm_0 vm_1 vm_2 vm_3 vm_4 vm_6 vm_7 vm_10 vm_11 vm_12 vm_13 vm_14 vm_15 vm_16 vm_17 vm_18 vm_19 vm_20 vm_21 vm_22 vm_23 : Value) (hR5 : R ≤ 5) (hT6 : T ≤ 6) (hrq : rq K P R T f) (hac : ac ≤ 24) (hwq : wq K R T ac wf) : wt_M l yX6_undo wsX6_undo ({ frames := 0, cells := 0, slots := 0, locals := 0 } : Room) D (wt_T cI cZ cH) [.ref md] [(md, .inr (6, [vm_0, vm_1, vm_2, vm_3, vm_4, .ref hs, vm_6, vm_7, .ref ws, .int (nI ac), vm_10, vm_11, vm_12, vm_13, vm_14, vm_15, vm_16, vm_17, vm_18, vm_19, vm_20, vm_21, vm_22, vm_23])), (hs, .inl (cI, 45, .inl f)), (ws, .inl (cI, 1080, .inl wf))] (wt_QI D (fun r w => ∃ (f2 : Nat → Int32) (ac2 : Nat), w = [(md, .inr (6, [.int 0, vm_1, vm_2, vm_3, vm_4, .ref hs, vm_6, vm_7, .ref ws, .int (nI ac2), vm_10, vm_11, vm_12, vm_13, vm_14, vm_15, vm_16, vm_17, vm_18, vm_19, vm_20, vm_21, vm_22, vm_23])), (hs, .inl (cI, 45, .inl f2)), (ws, .inl (cI, 1080, .inl wf))] ∧ (∃ P2 : Nat → Int32, rq K P2 R T f2) ∧ ac2 ≤ 24 ∧ wq K R T ac2 wf)) := by
  refine wt_M.ofW (cc := cX6_undo) (maxL := 2) (ret := (some .int)) (by decide) rfl (Nat.le_of_ble_eq_true rfl) ?_
  intro p e s m below meth c A ls hx hb hr hts hown hlocks hml hnm hP hK hD hA hS hl
  have hP : va_P D vwCl [(md, .inr (6, [vm_0, vm_1, vm_2, vm_3, vm_4, .ref hs, vm_6, vm_7, .ref ws, .int (nI ac), vm_10, vm_11, vm_12, vm_13, vm_14, vm_15, vm_16, vm_17, vm_18, vm_19, vm_20, vm_21, vm_22, vm_23])), (hs, .inl (cI, 45, .inl f)), (ws, .inl (cI, 1080, .inl wf))] s.heap := hP
  have hown : s.vm.findClass RX6 = some m.cls := hown
  have hl : lv_has ls 2 [(0, .ref md)] := hl
  have hi6 : ∀ w ∈ u_ws RX6 TX6 24, w ∈ wsX6_undo := by decide +kernel
  have wc189 := hts (.constant RX6 189 (-1000002)) (by decide +kernel)
  have wf149 := hts (.fieldLink RX6 149 "WarmTubesModel" "acts" "I") (by decide +kernel)
  have wf19 := hts (.fieldLink RX6 19 "WarmTubesModel" "house" "[I") (by decide +kernel)
  have wf28 := hts (.fieldLink RX6 28 "WarmTubesModel" "was" "[I") (by decide +kernel)
  have wf47 := hts (.fieldLink RX6 47 "WarmTubesModel" "thrown" "I") (by decide +kernel)
  refine lv_aload_n hx hb dX6_undo_0 rfl (lv_at hl 0 rfl) ?_
  refine lv_iconst (v := 0) hx hb dX6_undo_1 (by decide) ?_
  refine va_put (D := D) (ci := 6) (v := .int 0) (ty := .int) (C := RX6) (T := TX6) (N := 24) hx hb hts hi6 tyX6 tyX6_ok nmX6 hown hK.1 hP hD hS 0 rfl rfl 0 (by decide) wf47 (fun _ h9 => h9) rfl (by decide +kernel) rfl rfl (Nat.le_of_ble_eq_true rfl) dX6_undo_2 (fun H locs hP hD hS => ?_)
  have hP : va_P D vwCl [(md, .inr (6, [.int 0, vm_1, vm_2, vm_3, vm_4, .ref hs, vm_6, vm_7, .ref ws, .int (nI ac), vm_10, vm_11, vm_12, vm_13, vm_14, vm_15, vm_16, vm_17, vm_18, vm_19, vm_20, vm_21, vm_22, vm_23])), (hs, .inl (cI, 45, .inl f)), (ws, .inl (cI, 1080, .inl wf))] H := hP
  have hD : va_D A [(md, .inr (6, [.int 0, vm_1, vm_2, vm_3, vm_4, .ref hs, vm_6, vm_7, .ref ws, .int (nI ac), vm_10, vm_11, vm_12, vm_13, vm_14, vm_15, vm_16, vm_17, vm_18, vm_19, vm_20, vm_21, vm_22, vm_23])), (hs, .inl (cI, 45, .inl f)), (ws, .inl (cI, 1080, .inl wf))] := hD
  refine lv_aload_n hx hb dX6_undo_5 rfl (lv_at hl 0 rfl) ?_
  refine va_get (D := D) (ci := 6) (v := .int (nI ac)) (C := RX6) (T := TX6) (N := 24) hx hb hts hi6 hown hK.1 hP 0 rfl rfl 9 (by decide) wf149 (fun _ h9 => h9) rfl dX6_undo_6 ?_
  refine lv_if_ne (tgt := 15) hx hb dX6_undo_9 (by decide) (fun c_1 => ?_) (fun c_1 => ?_)
  · skip
    have c_1 : ¬ (ac = 0) := fun h => c_1 ((nI_eq (a := ac) (b := 0) (by omega) (by omega)).mpr h)
    refine lv_aload_n hx hb dX6_undo_15 rfl (lv_at hl 0 rfl) ?_
    refine lv_dup hx hb dX6_undo_16 rfl ?_
    refine va_get (D := D) (ci := 6) (v := .int (nI ac)) (C := RX6) (T := TX6) (N := 24) hx hb hts hi6 hown hK.1 hP 0 rfl rfl 9 (by decide) wf149 (fun _ h9 => h9) rfl dX6_undo_17 ?_
    refine lv_iconst (v := 1) hx hb dX6_undo_20 (by decide) ?_
    refine lv_isub hx hb dX6_undo_21 ?_
    refine wt_top (z := nI (ac - 1)) (pk_sub (a := ac) (b := 1) (by omega)) ?_
    refine va_put (D := D) (ci := 6) (v := .int (nI (ac - 1))) (ty := .int) (C := RX6) (T := TX6) (N := 24) hx hb hts hi6 tyX6 tyX6_ok nmX6 hown hK.1 hP hD hS 0 rfl rfl 9 (by decide) wf149 (fun _ h9 => h9) rfl (by decide +kernel) rfl rfl (Nat.le_of_ble_eq_true rfl) dX6_undo_22 (fun H locs hP hD hS => ?_)
    have hP : va_P D vwCl [(md, .inr (6, [.int 0, vm_1, vm_2, vm_3, vm_4, .ref hs, vm_6, vm_7, .ref ws, .int (nI (ac - 1)), vm_10, vm_11, vm_12, vm_13, vm_14, vm_15, vm_16, vm_17, vm_18, vm_19, vm_20, vm_21, vm_22, vm_23])), (hs, .inl (cI, 45, .inl f)), (ws, .inl (cI, 1080, .inl wf))] H := hP
    have hD : va_D A [(md, .inr (6, [.int 0, vm_1, vm_2, vm_3, vm_4, .ref hs, vm_6, vm_7, .ref ws, .int (nI (ac - 1)), vm_10, vm_11, vm_12, vm_13, vm_14, vm_15, vm_16, vm_17, vm_18, vm_19, vm_20, vm_21, vm_22, vm_23])), (hs, .inl (cI, 45, .inl f)), (ws, .inl (cI, 1080, .inl wf))] := hD
    refine lv_iconst (v := 0) hx hb dX6_undo_25 (by decide) ?_
    refine lv_istore_n (lv' := [(1, .int 0), (0, .ref md)]) hx hb dX6_undo_26 rfl hl (by decide) rfl (fun ls hl => ?_)
    have loop27 : ∀ (k i_2 : Nat) (f_3 : Nat → Int32) (H : Heap) (locs : List Loc) (ls : Array Slot), i_2 + k = 45 → (cpd i_2 0 (45 * (ac - 1)) f_3 wf) → va_P D vwCl [(md, .inr (6, [.int 0, vm_1, vm_2, vm_3, vm_4, .ref hs, vm_6, vm_7, .ref ws, .int (nI (ac - 1)), vm_10, vm_11, vm_12, vm_13, vm_14, vm_15, vm_16, vm_17, vm_18, vm_19, vm_20, vm_21, vm_22, vm_23])), (hs, .inl (cI, 45, .inl f_3)), (ws, .inl (cI, 1080, .inl wf))] H → va_D A [(md, .inr (6, [.int 0, vm_1, vm_2, vm_3, vm_4, .ref hs, vm_6, vm_7, .ref ws, .int (nI (ac - 1)), vm_10, vm_11, vm_12, vm_13, vm_14, vm_15, vm_16, vm_17, vm_18, vm_19, vm_20, vm_21, vm_22, vm_23])), (hs, .inl (cI, 45, .inl f_3)), (ws, .inl (cI, 1080, .inl wf))] → va_S A s.heap H locs → lv_has ls 2 [(1, .int (nI i_2)), (0, .ref md)] → W p l e ({ frames := 0, cells := 0, slots := 0, locals := 0 } : Room) s m ([.ref md] : List Value).toArray below meth c H locs 0 0 (MQ below (wt_QI D (fun r w => ∃ (f2 : Nat → Int32) (ac2 : Nat), w = [(md, .inr (6, [.int 0, vm_1, vm_2, vm_3, vm_4, .ref hs, vm_6, vm_7, .ref ws, .int (nI ac2), vm_10, vm_11, vm_12, vm_13, vm_14, vm_15, vm_16, vm_17, vm_18, vm_19, vm_20, vm_21, vm_22, vm_23])), (hs, .inl (cI, 45, .inl f2)), (ws, .inl (cI, 1080, .inl wf))] ∧ (∃ P2 : Nat → Int32, rq K P2 R T f2) ∧ ac2 ≤ 24 ∧ wq K R T ac2 wf) A) ([.ref md] : List Value).toArray s 0 0 A) (F0 m 27 ls []) := by
      intro k
      induction k with
      | zero =>
        intro i_2 f_3 H locs ls hik hcp hP hD hS hl
        refine lv_iload_n hx hb dX6_undo_27 rfl (lv_at hl 0 rfl) ?_
        refine lv_bipush (v := 45) hx hb dX6_undo_28 (by decide) ?_
        refine lv_icmp_ge (tgt := 59) hx hb dX6_undo_30 (by decide) (fun _ => ?_) (fun h => absurd (nI_le (a := 45) (b := i_2) (by omega) (by omega)) h)
        refine lv_aload_n hx hb dX6_undo_59 rfl (lv_at hl 1 rfl) ?_
        refine va_get (D := D) (ci := 6) (v := .int (nI (ac - 1))) (C := RX6) (T := TX6) (N := 24) hx hb hts hi6 hown hK.1 hP 0 rfl rfl 9 (by decide) wf149 (fun _ h9 => h9) rfl dX6_undo_60 ?_
        have hP9 := hP.sub (ws' := [(md, .inr (6, [.int 0, vm_1, vm_2, vm_3, vm_4, .ref hs, vm_6, vm_7, .ref ws, .int (nI (ac - 1)), vm_10, vm_11, vm_12, vm_13, vm_14, vm_15, vm_16, vm_17, vm_18, vm_19, vm_20, vm_21, vm_22, vm_23])), (hs, .inl (cI, 45, .inl f_3)), (ws, .inl (cI, 1080, .inl wf))]) [0, 1, 2] rfl
        have hD9 := hD.sub (ws' := [(md, .inr (6, [.int 0, vm_1, vm_2, vm_3, vm_4, .ref hs, vm_6, vm_7, .ref ws, .int (nI (ac - 1)), vm_10, vm_11, vm_12, vm_13, vm_14, vm_15, vm_16, vm_17, vm_18, vm_19, vm_20, vm_21, vm_22, vm_23])), (hs, .inl (cI, 45, .inl f_3)), (ws, .inl (cI, 1080, .inl wf))]) [0, 1, 2] (by decide) rfl
        exact wt_iret hx hb hr hlocks hP9 hD9 hS ⟨f_3, (ac - 1), rfl, ⟨(hwq (ac - 1) (by omega)).elim (fun P2 h => ⟨P2, rq_z' (rq_cp h hcp (by omega))⟩), by omega, wq_le hwq (by omega)⟩⟩ dX6_undo_63
      | succ k ih27 =>
        intro i_2 f_3 H locs ls hik hcp hP hD hS hl
        refine lv_iload_n hx hb dX6_undo_27 rfl (lv_at hl 0 rfl) ?_
        refine lv_bipush (v := 45) hx hb dX6_undo_28 (by decide) ?_
        refine lv_icmp_ge (tgt := 59) hx hb dX6_undo_30 (by decide) (fun h => absurd h (nI_ge (a := i_2) (b := 45) (by omega) (by omega))) (fun _ => ?_)
        refine lv_aload_n hx hb dX6_undo_33 rfl (lv_at hl 1 rfl) ?_
        refine va_get (D := D) (ci := 6) (v := .ref hs) (C := RX6) (T := TX6) (N := 24) hx hb hts hi6 hown hK.1 hP 0 rfl rfl 5 (by decide) wf19 (fun _ h9 => h9) rfl dX6_undo_34 ?_
        refine lv_iload_n hx hb dX6_undo_37 rfl (lv_at hl 0 rfl) ?_
        refine lv_aload_n hx hb dX6_undo_38 rfl (lv_at hl 1 rfl) ?_
        refine va_get (D := D) (ci := 6) (v := .ref ws) (C := RX6) (T := TX6) (N := 24) hx hb hts hi6 hown hK.1 hP 0 rfl rfl 8 (by decide) wf28 (fun _ h9 => h9) rfl dX6_undo_39 ?_
        refine lv_bipush (v := 45) hx hb dX6_undo_42 (by decide) ?_
        refine lv_aload_n hx hb dX6_undo_44 rfl (lv_at hl 1 rfl) ?_
        refine va_get (D := D) (ci := 6) (v := .int (nI (ac - 1))) (C := RX6) (T := TX6) (N := 24) hx hb hts hi6 hown hK.1 hP 0 rfl rfl 9 (by decide) wf149 (fun _ h9 => h9) rfl dX6_undo_45 ?_
        refine lv_imul hx hb dX6_undo_48 ?_
        refine wt_top (z := nI (45 * (ac - 1))) (pk_mul 45 (ac - 1)) ?_
        refine lv_iload_n hx hb dX6_undo_49 rfl (lv_at hl 0 rfl) ?_
        refine lv_iadd hx hb dX6_undo_50 ?_
        refine wt_top (z := nI ((45 * (ac - 1)) + i_2)) (nI_add (45 * (ac - 1)) i_2) ?_
        refine va_iald hx hb hK.1 hP 2 0 rfl rfl (vp_in_nI (by omega) (by omega)) dX6_undo_51 ?_
        refine wt_top (z := wf (45 * (ac - 1) + i_2)) (by rw [nI_clamp (by omega)]) ?_
        refine va_iast hx hb hK.1 hP hD hS 1 0 rfl rfl (vp_in_nI (by omega) (by omega)) dX6_undo_52 (fun H locs hP hD hS => ?_)
        have hP : va_P D vwCl [(md, .inr (6, [.int 0, vm_1, vm_2, vm_3, vm_4, .ref hs, vm_6, vm_7, .ref ws, .int (nI (ac - 1)), vm_10, vm_11, vm_12, vm_13, vm_14, vm_15, vm_16, vm_17, vm_18, vm_19, vm_20, vm_21, vm_22, vm_23])), (hs, .inl (cI, 45, .inl (upd f_3 ((nI i_2).toNatClampNeg) (wf (45 * (ac - 1) + i_2))))), (ws, .inl (cI, 1080, .inl wf))] H := hP
        have hD : va_D A [(md, .inr (6, [.int 0, vm_1, vm_2, vm_3, vm_4, .ref hs, vm_6, vm_7, .ref ws, .int (nI (ac - 1)), vm_10, vm_11, vm_12, vm_13, vm_14, vm_15, vm_16, vm_17, vm_18, vm_19, vm_20, vm_21, vm_22, vm_23])), (hs, .inl (cI, 45, .inl (upd f_3 ((nI i_2).toNatClampNeg) (wf (45 * (ac - 1) + i_2))))), (ws, .inl (cI, 1080, .inl wf))] := hD
        rw [nI_clamp (n := i_2) (by omega)] at hP hD
        have hP : va_P D vwCl [(md, .inr (6, [.int 0, vm_1, vm_2, vm_3, vm_4, .ref hs, vm_6, vm_7, .ref ws, .int (nI (ac - 1)), vm_10, vm_11, vm_12, vm_13, vm_14, vm_15, vm_16, vm_17, vm_18, vm_19, vm_20, vm_21, vm_22, vm_23])), (hs, .inl (cI, 45, .inl (upd f_3 i_2 (wf (45 * (ac - 1) + i_2))))), (ws, .inl (cI, 1080, .inl wf))] H := hP
        have hD : va_D A [(md, .inr (6, [.int 0, vm_1, vm_2, vm_3, vm_4, .ref hs, vm_6, vm_7, .ref ws, .int (nI (ac - 1)), vm_10, vm_11, vm_12, vm_13, vm_14, vm_15, vm_16, vm_17, vm_18, vm_19, vm_20, vm_21, vm_22, vm_23])), (hs, .inl (cI, 45, .inl (upd f_3 i_2 (wf (45 * (ac - 1) + i_2))))), (ws, .inl (cI, 1080, .inl wf))] := hD
        refine lv_iinc (v := nI (i_2 + 1)) (lv' := [(1, .int (nI (i_2 + 1))), (0, .ref md)]) hx hb dX6_undo_53 hl (k := 0) rfl (nI_add i_2 1) (by decide) rfl (fun ls hl => ?_)
        refine lv_goto (tgt := 27) hx hb dX6_undo_56 (by decide) ?_
        exact ih27 ((i_2 + 1)) (upd f_3 i_2 (wf (45 * (ac - 1) + i_2))) H locs ls (by omega) (cpd_s0b hcp) hP hD hS (lv_sub hl [0, 1] rfl)
    exact loop27 (45 - 0) (0) f _ _ ls (by omega) cpd_0 hP hD hS hl
  · skip
    have c_1 : ac = 0 := (nI_eq (a := ac) (b := 0) (by omega) (by omega)).mp c_1
    refine lv_ldc hx hb hown wc189 dX6_undo_12 ?_
    have hP9 := hP.sub (ws' := [(md, .inr (6, [.int 0, vm_1, vm_2, vm_3, vm_4, .ref hs, vm_6, vm_7, .ref ws, .int (nI ac), vm_10, vm_11, vm_12, vm_13, vm_14, vm_15, vm_16, vm_17, vm_18, vm_19, vm_20, vm_21, vm_22, vm_23])), (hs, .inl (cI, 45, .inl f)), (ws, .inl (cI, 1080, .inl wf))]) [0, 1, 2] rfl
    have hD9 := hD.sub (ws' := [(md, .inr (6, [.int 0, vm_1, vm_2, vm_3, vm_4, .ref hs, vm_6, vm_7, .ref ws, .int (nI ac), vm_10, vm_11, vm_12, vm_13, vm_14, vm_15, vm_16, vm_17, vm_18, vm_19, vm_20, vm_21, vm_22, vm_23])), (hs, .inl (cI, 45, .inl f)), (ws, .inl (cI, 1080, .inl wf))]) [0, 1, 2] (by decide) rfl
    exact wt_iret hx hb hr hlocks hP9 hD9 hS ⟨f, ac, rfl, ⟨⟨_, hrq⟩, by omega, hwq⟩⟩ dX6_undo_14

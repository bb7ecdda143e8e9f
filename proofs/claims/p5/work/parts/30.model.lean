set_option maxHeartbeats 4000000 in
set_option maxRecDepth 100000 in
theorem c_X6_in (l : Launch) (D : va_G) (cI cZ cH : ClassId) (n a b : Int64) : wt_R l yX6_in wsX6_in ({ frames := 0, cells := 0, slots := 0, locals := 0 } : Room) D (wt_T cI cZ cH) [.long n, .long a, .long b] [] (vp_Si (fun r => r = wL n a b)) := by
  refine wt_R.ofW (cc := cX6_in) (maxL := 6) (ret := (some .boolean)) (by decide) rfl (Nat.le_of_ble_eq_true rfl) ?_
  intro p e s m below meth c ls hx hb hr hts hown hlocks hml hP hK hl
  have hown : s.vm.findClass RX6 = some m.cls := hown
  have hl : lv_has ls 6 [(0, .long n), (2, .long a), (4, .long b)] := hl
  refine lv_lload_n hx hb dX6_in_0 rfl (lv_at hl 0 rfl) ?_
  refine lv_lload_n hx hb dX6_in_1 rfl (lv_at hl 1 rfl) ?_
  refine W.lcmp hx hb dX6_in_2 ?_
  refine lv_if_lt (tgt := 17) hx hb dX6_in_3 (by decide) (fun c_1 => ?_) (fun c_1 => ?_)
  · skip
    refine lv_iconst (v := 0) hx hb dX6_in_17 (by decide) ?_
    exact wt_szret hx hb hr hlocks (by decide) (by simp only [lg_cmp_lt, lg_cmp_gt] at *; simp [wL, c_1]) dX6_in_18
  · skip
    refine lv_lload_n hx hb dX6_in_6 rfl (lv_at hl 0 rfl) ?_
    refine lv_lload hx hb dX6_in_7 (lv_at hl 2 rfl) ?_
    refine W.lcmp hx hb dX6_in_9 ?_
    refine lv_if_gt (tgt := 17) hx hb dX6_in_10 (by decide) (fun c_2 => ?_) (fun c_2 => ?_)
    · skip
      refine lv_iconst (v := 0) hx hb dX6_in_17 (by decide) ?_
      exact wt_szret hx hb hr hlocks (by decide) (by simp only [lg_cmp_lt, lg_cmp_gt] at *; simp [wL, c_1, c_2]) dX6_in_18
    · skip
      refine lv_iconst (v := 1) hx hb dX6_in_13 (by decide) ?_
      refine lv_goto (tgt := 18) hx hb dX6_in_14 (by decide) ?_
      exact wt_szret hx hb hr hlocks (by decide) (by simp only [lg_cmp_lt, lg_cmp_gt] at *; simp [wL, c_1, c_2]) dX6_in_18
set_option maxHeartbeats 4000000 in
set_option maxRecDepth 100000 in
theorem c_X6_isRow (l : Launch) (D : va_G) (cI cZ cH : ClassId) (n : Int32) : wt_R l yX6_isRow wsX6_isRow ({ frames := 1, cells := 0, slots := 0, locals := 25 } : Room) D (wt_T cI cZ cH) [.int n] [] (vp_Si (fun r => r = wI n 0 7)) := by
  refine wt_R.ofW (cc := cX6_isRow) (maxL := 1) (ret := (some .boolean)) (by decide) rfl (Nat.le_of_ble_eq_true rfl) ?_
  intro p e s m below meth c ls hx hb hr hts hown hlocks hml hP hK hl
  have hown : s.vm.findClass RX6 = some m.cls := hown
  have hl : lv_has ls 1 [(0, .int n)] := hl
  have wl55 := hts (.constantLong RX6 55 (7)) (by decide +kernel)
  refine lv_iload_n hx hb dX6_isRow_0 rfl (lv_at hl 0 rfl) ?_
  refine lv_i2l hx hb dX6_isRow_1 rfl ?_
  refine lv_lconst (v := 0) hx hb dX6_isRow_2 (by decide) ?_
  refine lv_ldc2 hx hb hown wl55 dX6_isRow_3 ?_
  refine wt_rS (As := [.long n.toInt64, .long 0, .long 7]) (rest := []) ⟨hx, hb, hml, hown, hts⟩ (c_X6_in l D cI cZ cH n.toInt64 0 7) (va_cwS 3 hts gX6_isRow_X6_in rfl rfl rfl (by decide +kernel) ⟨Nat.le_of_ble_eq_true rfl, Nat.le_of_ble_eq_true rfl⟩) hK hP [] rfl rfl hl.1 rfl (Nat.le_of_ble_eq_true rfl) dX6_isRow_6 ⟨Nat.le_of_ble_eq_true rfl, Nat.le_of_ble_eq_true rfl⟩ (fun r_1 e_2 => ?_)
  subst e_2
  refine wt_top (z := wI n 0 7) (wL_I' (by decide) (by decide)) ?_
  exact wt_szret hx hb hr hlocks (wI_01 _ _ _) (by rfl) dX6_isRow_9
set_option maxHeartbeats 4000000 in
set_option maxRecDepth 100000 in
theorem c_X6_finding (l : Launch) (D : va_G) (cI cZ cH : ClassId) (md : Nat) (f : Int32) (vm_0 vm_1 vm_2 vm_3 vm_4 vm_5 vm_6 vm_7 vm_8 vm_9 vm_10 vm_11 vm_12 vm_13 vm_14 vm_15 vm_16 vm_17 vm_18 vm_19 vm_20 vm_21 vm_22 vm_23 : Value) : wt_M l yX6_finding wsX6_finding ({ frames := 0, cells := 0, slots := 0, locals := 0 } : Room) D (wt_T cI cZ cH) [.ref md, .int f] [(md, .inr (6, [vm_0, vm_1, vm_2, vm_3, vm_4, vm_5, vm_6, vm_7, vm_8, vm_9, vm_10, vm_11, vm_12, vm_13, vm_14, vm_15, vm_16, vm_17, vm_18, vm_19, vm_20, vm_21, vm_22, vm_23]))] (wt_QI D (fun r w => w = [(md, .inr (6, [vm_0, .int f, vm_2, vm_3, vm_4, vm_5, vm_6, vm_7, vm_8, vm_9, vm_10, vm_11, vm_12, vm_13, vm_14, vm_15, vm_16, vm_17, vm_18, vm_19, vm_20, vm_21, vm_22, vm_23]))] ∧ r = (-1000010) - f)) := by
  refine wt_M.ofW (cc := cX6_finding) (maxL := 2) (ret := (some .int)) (by decide) rfl (Nat.le_of_ble_eq_true rfl) ?_
  intro p e s m below meth c A ls hx hb hr hts hown hlocks hml hnm hP hK hD hA hS hl
  have hP : va_P D vwCl [(md, .inr (6, [vm_0, vm_1, vm_2, vm_3, vm_4, vm_5, vm_6, vm_7, vm_8, vm_9, vm_10, vm_11, vm_12, vm_13, vm_14, vm_15, vm_16, vm_17, vm_18, vm_19, vm_20, vm_21, vm_22, vm_23]))] s.heap := hP
  have hown : s.vm.findClass RX6 = some m.cls := hown
  have hl : lv_has ls 2 [(0, .ref md), (1, .int f)] := hl
  have hi6 : ∀ w ∈ u_ws RX6 TX6 24, w ∈ wsX6_finding := by decide +kernel
  have wc54 := hts (.constant RX6 54 (-1000010)) (by decide +kernel)
  have wf51 := hts (.fieldLink RX6 51 "WarmTubesModel" "status" "I") (by decide +kernel)
  refine lv_aload_n hx hb dX6_finding_0 rfl (lv_at hl 0 rfl) ?_
  refine lv_iload_n hx hb dX6_finding_1 rfl (lv_at hl 1 rfl) ?_
  refine va_put (D := D) (ci := 6) (v := .int f) (ty := .int) (C := RX6) (T := TX6) (N := 24) hx hb hts hi6 tyX6 tyX6_ok nmX6 hown hK.1 hP hD hS 0 rfl rfl 1 (by decide) wf51 (fun _ h9 => h9) rfl (by decide +kernel) rfl rfl (Nat.le_of_ble_eq_true rfl) dX6_finding_2 (fun H locs hP hD hS => ?_)
  have hP : va_P D vwCl [(md, .inr (6, [vm_0, .int f, vm_2, vm_3, vm_4, vm_5, vm_6, vm_7, vm_8, vm_9, vm_10, vm_11, vm_12, vm_13, vm_14, vm_15, vm_16, vm_17, vm_18, vm_19, vm_20, vm_21, vm_22, vm_23]))] H := hP
  have hD : va_D A [(md, .inr (6, [vm_0, .int f, vm_2, vm_3, vm_4, vm_5, vm_6, vm_7, vm_8, vm_9, vm_10, vm_11, vm_12, vm_13, vm_14, vm_15, vm_16, vm_17, vm_18, vm_19, vm_20, vm_21, vm_22, vm_23]))] := hD
  refine lv_ldc hx hb hown wc54 dX6_finding_5 ?_
  refine lv_iload_n hx hb dX6_finding_7 rfl (lv_at hl 1 rfl) ?_
  refine lv_isub hx hb dX6_finding_8 ?_
  have hP9 := hP.sub (ws' := [(md, .inr (6, [vm_0, .int f, vm_2, vm_3, vm_4, vm_5, vm_6, vm_7, vm_8, vm_9, vm_10, vm_11, vm_12, vm_13, vm_14, vm_15, vm_16, vm_17, vm_18, vm_19, vm_20, vm_21, vm_22, vm_23]))]) [0] rfl
  have hD9 := hD.sub (ws' := [(md, .inr (6, [vm_0, .int f, vm_2, vm_3, vm_4, vm_5, vm_6, vm_7, vm_8, vm_9, vm_10, vm_11, vm_12, vm_13, vm_14, vm_15, vm_16, vm_17, vm_18, vm_19, vm_20, vm_21, vm_22, vm_23]))]) [0] (by decide) rfl
  exact wt_iret hx hb hr hlocks hP9 hD9 hS ⟨rfl, (by rfl)⟩ dX6_finding_9
set_option maxHeartbeats 4000000 in
set_option maxRecDepth 100000 in
theorem c_X6_bits (l : Launch) (D : va_G) (cI cZ cH : ClassId) (a1 : Int32) : wt_R l yX6_bits wsX6_bits ({ frames := 0, cells := 0, slots := 0, locals := 0 } : Room) D (wt_T cI cZ cH) [.int a1] [] (vp_Si (fun r => True)) := by
  refine wt_R.ofW (cc := cX6_bits) (maxL := 3) (ret := (some .int)) (by decide) rfl (Nat.le_of_ble_eq_true rfl) ?_
  intro p e s m below meth c ls hx hb hr hts hown hlocks hml hP hK hl
  have hown : s.vm.findClass RX6 = some m.cls := hown
  have hl : lv_has ls 3 [(0, .int a1)] := hl
  refine lv_iconst (v := 0) hx hb dX6_bits_0 (by decide) ?_
  refine lv_istore_n (lv' := [(1, .int 0), (0, .int a1)]) hx hb dX6_bits_1 rfl hl (by decide) rfl (fun ls hl => ?_)
  refine lv_iconst (v := 0) hx hb dX6_bits_2 (by decide) ?_
  refine lv_istore_n (lv' := [(2, .int 0), (1, .int 0), (0, .int a1)]) hx hb dX6_bits_3 rfl hl (by decide) rfl (fun ls hl => ?_)
  have loop4 : ∀ (k i_1 : Nat) (y_2 : Int32) (ls : Array Slot), i_1 + k = 6 → lv_has ls 3 [(2, .int (nI i_1)), (1, .int y_2), (0, .int a1)] → W p l e ({ frames := 0, cells := 0, slots := 0, locals := 0 } : Room) s m ([.int a1] : List Value).toArray below meth c s.heap [] 0 0 (MQ below (vp_Si (fun r => True)) ([.int a1] : List Value).toArray s 0 0 (fun _ => False)) (F0 m 4 ls []) := by
    intro k
    induction k with
    | zero =>
      intro i_1 y_2 ls hik  hl
      refine lv_iload_n hx hb dX6_bits_4 rfl (lv_at hl 0 rfl) ?_
      refine lv_bipush (v := 6) hx hb dX6_bits_5 (by decide) ?_
      refine lv_icmp_ge (tgt := 24) hx hb dX6_bits_7 (by decide) (fun _ => ?_) (fun h => absurd (nI_le (a := 6) (b := i_1) (by omega) (by omega)) h)
      refine lv_iload_n hx hb dX6_bits_24 rfl (lv_at hl 1 rfl) ?_
      exact wt_siret hx hb hr hlocks (by trivial) dX6_bits_25
    | succ k ih4 =>
      intro i_1 y_2 ls hik  hl
      refine lv_iload_n hx hb dX6_bits_4 rfl (lv_at hl 0 rfl) ?_
      refine lv_bipush (v := 6) hx hb dX6_bits_5 (by decide) ?_
      refine lv_icmp_ge (tgt := 24) hx hb dX6_bits_7 (by decide) (fun h => absurd h (nI_ge (a := i_1) (b := 6) (by omega) (by omega))) (fun _ => ?_)
      refine lv_iload_n hx hb dX6_bits_10 rfl (lv_at hl 1 rfl) ?_
      refine lv_iload_n hx hb dX6_bits_11 rfl (lv_at hl 2 rfl) ?_
      refine lv_iload_n hx hb dX6_bits_12 rfl (lv_at hl 0 rfl) ?_
      refine lv_ishr hx hb dX6_bits_13 ?_
      refine lv_topi (fun ov_3 _ => ?_)
      refine lv_iconst (v := 1) hx hb dX6_bits_14 (by decide) ?_
      refine lv_iand hx hb dX6_bits_15 ?_
      refine lv_topi (fun ov_4 _ => ?_)
      refine lv_iadd hx hb dX6_bits_16 ?_
      refine lv_topi (fun ov_5 _ => ?_)
      refine lv_istore_n (lv' := [(1, .int ov_5), (2, .int (nI i_1)), (0, .int a1)]) hx hb dX6_bits_17 rfl hl (by decide) rfl (fun ls hl => ?_)
      refine lv_iinc (v := nI (i_1 + 1)) (lv' := [(2, .int (nI (i_1 + 1))), (1, .int ov_5), (0, .int a1)]) hx hb dX6_bits_18 hl (k := 1) rfl (nI_add i_1 1) (by decide) rfl (fun ls hl => ?_)
      refine lv_goto (tgt := 4) hx hb dX6_bits_21 (by decide) ?_
      exact ih4 ((i_1 + 1)) ov_5 ls (by omega)  (lv_sub hl [0, 1, 2] rfl)
  exact loop4 (6 - 0) (0) 0 ls (by omega)  hl
set_option maxHeartbeats 4000000 in
set_option maxRecDepth 100000 in
theorem c_X6_has (l : Launch) (D : va_G) (cI cZ cH : ClassId) (a1 a2 : Int32) : wt_R l yX6_has wsX6_has ({ frames := 0, cells := 0, slots := 0, locals := 0 } : Room) D (wt_T cI cZ cH) [.int a1, .int a2] [] (vp_Si (fun r => True)) := by
  refine wt_R.ofW (cc := cX6_has) (maxL := 2) (ret := (some .boolean)) (by decide) rfl (Nat.le_of_ble_eq_true rfl) ?_
  intro p e s m below meth c ls hx hb hr hts hown hlocks hml hP hK hl
  have hown : s.vm.findClass RX6 = some m.cls := hown
  have hl : lv_has ls 2 [(0, .int a1), (1, .int a2)] := hl
  refine lv_iload_n hx hb dX6_has_0 rfl (lv_at hl 0 rfl) ?_
  refine lv_iload_n hx hb dX6_has_1 rfl (lv_at hl 1 rfl) ?_
  refine lv_ishr hx hb dX6_has_2 ?_
  refine lv_topi (fun ov_1 _ => ?_)
  refine lv_iconst (v := 1) hx hb dX6_has_3 (by decide) ?_
  refine lv_iand hx hb dX6_has_4 ?_
  refine lv_topi (fun ov_2 _ => ?_)
  refine lv_iconst (v := 1) hx hb dX6_has_5 (by decide) ?_
  refine lv_icmp_ne (tgt := 13) hx hb dX6_has_6 (by decide) (fun c_3 => ?_) (fun c_3 => ?_)
  · skip
    refine lv_iconst (v := 0) hx hb dX6_has_13 (by decide) ?_
    exact wt_szret hx hb hr hlocks (by decide) (by trivial) dX6_has_14
  · skip
    refine lv_iconst (v := 1) hx hb dX6_has_9 (by decide) ?_
    refine lv_goto (tgt := 14) hx hb dX6_has_10 (by decide) ?_
    exact wt_szret hx hb hr hlocks (by decide) (by trivial) dX6_has_14
set_option maxHeartbeats 4000000 in
set_option maxRecDepth 100000 in
theorem c_X6_of_1 (l : Launch) (D : va_G) (cI cZ cH : ClassId) (rw : Nat) (R T : Nat) (f : Nat → Int32) (j : Nat) (hR5 : R ≤ 5) (hT6 : T ≤ 6) (hrk : rk R T f) (hj6 : j < 6) : wt_R l yX6_of wsX6_of ({ frames := 0, cells := 0, slots := 0, locals := 0 } : Room) D (wt_T cI cZ cH) [.ref rw, .int (nI j), .int 1] [(rw, .inl (cI, 45, .inl f))] (vp_Si (fun r => ∃ q : Nat, q ≤ R ∧ r = nI q)) := by
  refine wt_R.ofW (cc := cX6_of) (maxL := 3) (ret := (some .int)) (by decide) rfl (Nat.le_of_ble_eq_true rfl) ?_
  intro p e s m below meth c ls hx hb hr hts hown hlocks hml hP hK hl
  have hown : s.vm.findClass RX6 = some m.cls := hown
  have hl : lv_has ls 3 [(0, .ref rw), (1, .int (nI j)), (2, .int 1)] := hl
  obtain ⟨q, hq, eq⟩ := rk_at hrk hj6
  refine lv_aload_n hx hb dX6_of_0 rfl (lv_at hl 0 rfl) ?_
  refine lv_bipush (v := 15) hx hb dX6_of_1 (by decide) ?_
  refine lv_iconst (v := 5) hx hb dX6_of_3 (by decide) ?_
  refine lv_iload_n hx hb dX6_of_4 rfl (lv_at hl 1 rfl) ?_
  refine lv_imul hx hb dX6_of_5 ?_
  refine wt_top (z := nI (5 * j)) (pk_mul 5 j) ?_
  refine lv_iadd hx hb dX6_of_6 ?_
  refine wt_top (z := nI (15 + (5 * j))) (nI_add 15 (5 * j)) ?_
  refine lv_iload_n hx hb dX6_of_7 rfl (lv_at hl 2 rfl) ?_
  refine lv_iadd hx hb dX6_of_8 ?_
  refine wt_top (z := nI ((15 + (5 * j)) + 1)) (nI_add (15 + (5 * j)) 1) ?_
  refine va_iald hx hb hK.1 hP 0 0 rfl rfl (vp_in_nI (by omega) (by omega)) dX6_of_9 ?_
  refine wt_top (z := nI q) (by rw [nI_clamp (by omega), show 15 + 5 * j + 1 = 16 + 5 * j by omega]; exact eq) ?_
  exact wt_siret hx hb hr hlocks (by exact ⟨q, by omega, rfl⟩) dX6_of_10
set_option maxHeartbeats 4000000 in
set_option maxRecDepth 100000 in
theorem c_X6_of_w (l : Launch) (D : va_G) (cI cZ cH : ClassId) (rw : Nat) (R T : Nat) (f : Nat → Int32) (j w : Nat) (hR5 : R ≤ 5) (hT6 : T ≤ 6) (hrk : rk R T f) (hj6 : j < 6) (hw5 : w < 5) : wt_R l yX6_of wsX6_of ({ frames := 0, cells := 0, slots := 0, locals := 0 } : Room) D (wt_T cI cZ cH) [.ref rw, .int (nI j), .int (nI w)] [(rw, .inl (cI, 45, .inl f))] (vp_Si (fun r => True)) := by
  refine wt_R.ofW (cc := cX6_of) (maxL := 3) (ret := (some .int)) (by decide) rfl (Nat.le_of_ble_eq_true rfl) ?_
  intro p e s m below meth c ls hx hb hr hts hown hlocks hml hP hK hl
  have hown : s.vm.findClass RX6 = some m.cls := hown
  have hl : lv_has ls 3 [(0, .ref rw), (1, .int (nI j)), (2, .int (nI w))] := hl
  refine lv_aload_n hx hb dX6_of_0 rfl (lv_at hl 0 rfl) ?_
  refine lv_bipush (v := 15) hx hb dX6_of_1 (by decide) ?_
  refine lv_iconst (v := 5) hx hb dX6_of_3 (by decide) ?_
  refine lv_iload_n hx hb dX6_of_4 rfl (lv_at hl 1 rfl) ?_
  refine lv_imul hx hb dX6_of_5 ?_
  refine wt_top (z := nI (5 * j)) (pk_mul 5 j) ?_
  refine lv_iadd hx hb dX6_of_6 ?_
  refine wt_top (z := nI (15 + (5 * j))) (nI_add 15 (5 * j)) ?_
  refine lv_iload_n hx hb dX6_of_7 rfl (lv_at hl 2 rfl) ?_
  refine lv_iadd hx hb dX6_of_8 ?_
  refine wt_top (z := nI ((15 + (5 * j)) + w)) (nI_add (15 + (5 * j)) w) ?_
  refine va_iald hx hb hK.1 hP 0 0 rfl rfl (vp_in_nI (by omega) (by omega)) dX6_of_9 ?_
  refine lv_topi (fun ov_1 _ => ?_)
  exact wt_siret hx hb hr hlocks (by trivial) dX6_of_10
set_option maxHeartbeats 4000000 in
set_option maxRecDepth 100000 in
theorem c_X6_be_1 (l : Launch) (D : va_G) (cI cZ cH : ClassId) (rw : Nat) (R T : Nat) (f : Nat → Int32) (j v : Nat) (hR5 : R ≤ 5) (hT6 : T ≤ 6) (hrk : rk R T f) (hj6 : j < 6) (hvR : v ≤ R) : wt_M l yX6_be wsX6_be ({ frames := 0, cells := 0, slots := 0, locals := 0 } : Room) D (wt_T cI cZ cH) [.ref rw, .int (nI j), .int 1, .int (nI v)] [(rw, .inl (cI, 45, .inl f))] (wt_QV D (fun w => ∃ (f2 : Nat → Int32), w = [(rw, .inl (cI, 45, .inl f2))] ∧ rk R T f2)) := by
  refine wt_M.ofW (cc := cX6_be) (maxL := 4) (ret := none) (by decide) rfl (Nat.le_of_ble_eq_true rfl) ?_
  intro p e s m below meth c A ls hx hb hr hts hown hlocks hml hnm hP hK hD hA hS hl
  have hP : va_P D vwCl [(rw, .inl (cI, 45, .inl f))] s.heap := hP
  have hown : s.vm.findClass RX6 = some m.cls := hown
  have hl : lv_has ls 4 [(0, .ref rw), (1, .int (nI j)), (2, .int 1), (3, .int (nI v))] := hl
  refine lv_aload_n hx hb dX6_be_0 rfl (lv_at hl 0 rfl) ?_
  refine lv_bipush (v := 15) hx hb dX6_be_1 (by decide) ?_
  refine lv_iconst (v := 5) hx hb dX6_be_3 (by decide) ?_
  refine lv_iload_n hx hb dX6_be_4 rfl (lv_at hl 1 rfl) ?_
  refine lv_imul hx hb dX6_be_5 ?_
  refine wt_top (z := nI (5 * j)) (pk_mul 5 j) ?_
  refine lv_iadd hx hb dX6_be_6 ?_
  refine wt_top (z := nI (15 + (5 * j))) (nI_add 15 (5 * j)) ?_
  refine lv_iload_n hx hb dX6_be_7 rfl (lv_at hl 2 rfl) ?_
  refine lv_iadd hx hb dX6_be_8 ?_
  refine wt_top (z := nI ((15 + (5 * j)) + 1)) (nI_add (15 + (5 * j)) 1) ?_
  refine lv_iload_n hx hb dX6_be_9 rfl (lv_at hl 3 rfl) ?_
  refine va_iast hx hb hK.1 hP hD hS 0 0 rfl rfl (vp_in_nI (by omega) (by omega)) dX6_be_10 (fun H locs hP hD hS => ?_)
  have hP : va_P D vwCl [(rw, .inl (cI, 45, .inl (upd f ((nI ((15 + (5 * j)) + 1)).toNatClampNeg) (nI v))))] H := hP
  have hD : va_D A [(rw, .inl (cI, 45, .inl (upd f ((nI ((15 + (5 * j)) + 1)).toNatClampNeg) (nI v))))] := hD
  have rk_1 : rk R T (upd f ((nI ((15 + (5 * j)) + 1)).toNatClampNeg) (nI v)) := rk_updP (v := v) (k := ((15 + (5 * j)) + 1)) hrk (nI_clamp (by omega)) (by omega) (by omega)
  generalize upd f ((nI ((15 + (5 * j)) + 1)).toNatClampNeg) (nI v) = rf_2 at hP hD rk_1
  have hP9 := hP.sub (ws' := [(rw, .inl (cI, 45, .inl rf_2))]) [0] rfl
  have hD9 := hD.sub (ws' := [(rw, .inl (cI, 45, .inl rf_2))]) [0] (by decide) rfl
  exact wt_vret hx hb hr hlocks hP9 hD9 hS ⟨rf_2, rfl, rk_1⟩ dX6_be_11
set_option maxHeartbeats 4000000 in
set_option maxRecDepth 100000 in
theorem c_X6_be_w (l : Launch) (D : va_G) (cI cZ cH : ClassId) (rw : Nat) (R T : Nat) (f : Nat → Int32) (j w : Nat) (v : Int32) (hR5 : R ≤ 5) (hT6 : T ≤ 6) (hrk : rk R T f) (hj6 : j < 6) (hw5 : w < 5 ∧ w ≠ 1) : wt_M l yX6_be wsX6_be ({ frames := 0, cells := 0, slots := 0, locals := 0 } : Room) D (wt_T cI cZ cH) [.ref rw, .int (nI j), .int (nI w), .int v] [(rw, .inl (cI, 45, .inl f))] (wt_QV D (fun w => ∃ (f2 : Nat → Int32), w = [(rw, .inl (cI, 45, .inl f2))] ∧ rk R T f2)) := by
  refine wt_M.ofW (cc := cX6_be) (maxL := 4) (ret := none) (by decide) rfl (Nat.le_of_ble_eq_true rfl) ?_
  intro p e s m below meth c A ls hx hb hr hts hown hlocks hml hnm hP hK hD hA hS hl
  have hP : va_P D vwCl [(rw, .inl (cI, 45, .inl f))] s.heap := hP
  have hown : s.vm.findClass RX6 = some m.cls := hown
  have hl : lv_has ls 4 [(0, .ref rw), (1, .int (nI j)), (2, .int (nI w)), (3, .int v)] := hl
  refine lv_aload_n hx hb dX6_be_0 rfl (lv_at hl 0 rfl) ?_
  refine lv_bipush (v := 15) hx hb dX6_be_1 (by decide) ?_
  refine lv_iconst (v := 5) hx hb dX6_be_3 (by decide) ?_
  refine lv_iload_n hx hb dX6_be_4 rfl (lv_at hl 1 rfl) ?_
  refine lv_imul hx hb dX6_be_5 ?_
  refine wt_top (z := nI (5 * j)) (pk_mul 5 j) ?_
  refine lv_iadd hx hb dX6_be_6 ?_
  refine wt_top (z := nI (15 + (5 * j))) (nI_add 15 (5 * j)) ?_
  refine lv_iload_n hx hb dX6_be_7 rfl (lv_at hl 2 rfl) ?_
  refine lv_iadd hx hb dX6_be_8 ?_
  refine wt_top (z := nI ((15 + (5 * j)) + w)) (nI_add (15 + (5 * j)) w) ?_
  refine lv_iload_n hx hb dX6_be_9 rfl (lv_at hl 3 rfl) ?_
  refine va_iast hx hb hK.1 hP hD hS 0 0 rfl rfl (vp_in_nI (by omega) (by omega)) dX6_be_10 (fun H locs hP hD hS => ?_)
  have hP : va_P D vwCl [(rw, .inl (cI, 45, .inl (upd f ((nI ((15 + (5 * j)) + w)).toNatClampNeg) v)))] H := hP
  have hD : va_D A [(rw, .inl (cI, 45, .inl (upd f ((nI ((15 + (5 * j)) + w)).toNatClampNeg) v)))] := hD
  have rk_1 : rk R T (upd f ((nI ((15 + (5 * j)) + w)).toNatClampNeg) v) := rk_upd (k := ((15 + (5 * j)) + w)) hrk (nI_clamp (by omega)) (by omega) _
  generalize upd f ((nI ((15 + (5 * j)) + w)).toNatClampNeg) v = rf_2 at hP hD rk_1
  have hP9 := hP.sub (ws' := [(rw, .inl (cI, 45, .inl rf_2))]) [0] rfl
  have hD9 := hD.sub (ws' := [(rw, .inl (cI, 45, .inl rf_2))]) [0] (by decide) rfl
  exact wt_vret hx hb hr hlocks hP9 hD9 hS ⟨rf_2, rfl, rk_1⟩ dX6_be_11
set_option maxHeartbeats 4000000 in
set_option maxRecDepth 100000 in
theorem c_X6_warmth (l : Launch) (D : va_G) (cI cZ cH : ClassId) (rw : Nat) (R T : Nat) (f : Nat → Int32) (r : Nat) (hR5 : R ≤ 5) (hT6 : T ≤ 6) (hrk : rk R T f) (hr9 : r ≤ 9) : wt_R l yX6_warmth wsX6_warmth ({ frames := 0, cells := 0, slots := 0, locals := 0 } : Room) D (wt_T cI cZ cH) [.ref rw, .int (nI r)] [(rw, .inl (cI, 45, .inl f))] (vp_Si (fun r => True)) := by
  refine wt_R.ofW (cc := cX6_warmth) (maxL := 2) (ret := (some .int)) (by decide) rfl (Nat.le_of_ble_eq_true rfl) ?_
  intro p e s m below meth c ls hx hb hr hts hown hlocks hml hP hK hl
  have hown : s.vm.findClass RX6 = some m.cls := hown
  have hl : lv_has ls 2 [(0, .ref rw), (1, .int (nI r))] := hl
  refine lv_aload_n hx hb dX6_warmth_0 rfl (lv_at hl 0 rfl) ?_
  refine lv_iconst (v := 5) hx hb dX6_warmth_1 (by decide) ?_
  refine lv_iconst (v := 2) hx hb dX6_warmth_2 (by decide) ?_
  refine lv_iload_n hx hb dX6_warmth_3 rfl (lv_at hl 1 rfl) ?_
  refine lv_imul hx hb dX6_warmth_4 ?_
  refine wt_top (z := nI (2 * r)) (pk_mul 2 r) ?_
  refine lv_iadd hx hb dX6_warmth_5 ?_
  refine wt_top (z := nI (5 + (2 * r))) (nI_add 5 (2 * r)) ?_
  refine va_iald hx hb hK.1 hP 0 0 rfl rfl (vp_in_nI (by omega) (by omega)) dX6_warmth_6 ?_
  refine lv_topi (fun ov_1 _ => ?_)
  exact wt_siret hx hb hr hlocks (by trivial) dX6_warmth_7
set_option maxHeartbeats 4000000 in
set_option maxRecDepth 100000 in
theorem c_X6_isOut (l : Launch) (D : va_G) (cI cZ cH : ClassId) (rw : Nat) (R T : Nat) (f : Nat → Int32) (j : Nat) (hR5 : R ≤ 5) (hT6 : T ≤ 6) (hrk : rk R T f) (hj6 : j < 6) : wt_R l yX6_isOut wsX6_isOut ({ frames := 1, cells := 0, slots := 0, locals := 22 } : Room) D (wt_T cI cZ cH) [.ref rw, .int (nI j)] [(rw, .inl (cI, 45, .inl f))] (vp_Si (fun r => True)) := by
  refine wt_R.ofW (cc := cX6_isOut) (maxL := 2) (ret := (some .boolean)) (by decide) rfl (Nat.le_of_ble_eq_true rfl) ?_
  intro p e s m below meth c ls hx hb hr hts hown hlocks hml hP hK hl
  have hown : s.vm.findClass RX6 = some m.cls := hown
  have hl : lv_has ls 2 [(0, .ref rw), (1, .int (nI j))] := hl
  refine lv_aload_n hx hb dX6_isOut_0 rfl (lv_at hl 0 rfl) ?_
  refine lv_iload_n hx hb dX6_isOut_1 rfl (lv_at hl 1 rfl) ?_
  refine lv_iconst (v := 1) hx hb dX6_isOut_2 (by decide) ?_
  refine wt_rS (As := [.ref rw, .int (nI j), .int 1]) (rest := []) ⟨hx, hb, hml, hown, hts⟩ (c_X6_of_1 l D cI cZ cH rw R T f j (by first | assumption | omega) (by first | assumption | omega) (by first | assumption | omega) (by first | assumption | omega)) (va_cwS 3 hts gX6_isOut_X6_of rfl rfl rfl (by decide +kernel) ⟨Nat.le_of_ble_eq_true rfl, Nat.le_of_ble_eq_true rfl⟩) hK hP [0] rfl rfl hl.1 rfl (Nat.le_of_ble_eq_true rfl) dX6_isOut_3 ⟨Nat.le_of_ble_eq_true rfl, Nat.le_of_ble_eq_true rfl⟩ (fun r_1 e_2 => ?_)
  obtain ⟨q_3, e_2, rfl⟩ := e_2
  refine lv_aload_n hx hb dX6_isOut_6 rfl (lv_at hl 0 rfl) ?_
  refine lv_iconst (v := 0) hx hb dX6_isOut_7 (by decide) ?_
  refine va_iald hx hb hK.1 hP 0 0 rfl rfl (by rw [vp_in_iff]; decide) dX6_isOut_8 ?_
  refine wt_top (z := nI R) (hrk.1) ?_
  refine lv_icmp_ne (tgt := 16) hx hb dX6_isOut_9 (by decide) (fun c_4 => ?_) (fun c_4 => ?_)
  · skip
    have c_4 : ¬ (q_3 = R) := fun h => c_4 ((nI_eq (a := q_3) (b := R) (by omega) (by omega)).mpr h)
    refine lv_iconst (v := 0) hx hb dX6_isOut_16 (by decide) ?_
    exact wt_szret hx hb hr hlocks (by decide) (by trivial) dX6_isOut_17
  · skip
    have c_4 : q_3 = R := (nI_eq (a := q_3) (b := R) (by omega) (by omega)).mp c_4
    refine lv_iconst (v := 1) hx hb dX6_isOut_12 (by decide) ?_
    refine lv_goto (tgt := 17) hx hb dX6_isOut_13 (by decide) ?_
    exact wt_szret hx hb hr hlocks (by decide) (by trivial) dX6_isOut_17
set_option maxHeartbeats 4000000 in
set_option maxRecDepth 100000 in
theorem c_X6_isCold (l : Launch) (D : va_G) (cI cZ cH : ClassId) (rw : Nat) (R T : Nat) (f : Nat → Int32) (r : Nat) (hR5 : R ≤ 5) (hT6 : T ≤ 6) (hrk : rk R T f) (hr9 : r ≤ 9) : wt_R l yX6_isCold wsX6_isCold ({ frames := 1, cells := 0, slots := 0, locals := 21 } : Room) D (wt_T cI cZ cH) [.ref rw, .int (nI r)] [(rw, .inl (cI, 45, .inl f))] (vp_Si (fun r => True)) := by
  refine wt_R.ofW (cc := cX6_isCold) (maxL := 2) (ret := (some .boolean)) (by decide) rfl (Nat.le_of_ble_eq_true rfl) ?_
  intro p e s m below meth c ls hx hb hr hts hown hlocks hml hP hK hl
  have hown : s.vm.findClass RX6 = some m.cls := hown
  have hl : lv_has ls 2 [(0, .ref rw), (1, .int (nI r))] := hl
  refine lv_aload_n hx hb dX6_isCold_0 rfl (lv_at hl 0 rfl) ?_
  refine lv_iload_n hx hb dX6_isCold_1 rfl (lv_at hl 1 rfl) ?_
  refine wt_rS (As := [.ref rw, .int (nI r)]) (rest := []) ⟨hx, hb, hml, hown, hts⟩ (c_X6_warmth l D cI cZ cH rw R T f r (by first | assumption | omega) (by first | assumption | omega) (by first | assumption | omega) (by first | assumption | omega)) (va_cwS 2 hts gX6_isCold_X6_warmth rfl rfl rfl (by decide +kernel) ⟨Nat.le_of_ble_eq_true rfl, Nat.le_of_ble_eq_true rfl⟩) hK hP [0] rfl rfl hl.1 rfl (Nat.le_of_ble_eq_true rfl) dX6_isCold_2 ⟨Nat.le_of_ble_eq_true rfl, Nat.le_of_ble_eq_true rfl⟩ (fun r_1 e_2 => ?_)
  refine lv_aload_n hx hb dX6_isCold_5 rfl (lv_at hl 0 rfl) ?_
  refine lv_iconst (v := 3) hx hb dX6_isCold_6 (by decide) ?_
  refine va_iald hx hb hK.1 hP 0 0 rfl rfl (by rw [vp_in_iff]; decide) dX6_isCold_7 ?_
  refine lv_topi (fun ov_3 _ => ?_)
  refine lv_icmp_gt (tgt := 15) hx hb dX6_isCold_8 (by decide) (fun c_4 => ?_) (fun c_4 => ?_)
  · skip
    refine lv_iconst (v := 0) hx hb dX6_isCold_15 (by decide) ?_
    exact wt_szret hx hb hr hlocks (by decide) (by trivial) dX6_isCold_16
  · skip
    refine lv_iconst (v := 1) hx hb dX6_isCold_11 (by decide) ?_
    refine lv_goto (tgt := 16) hx hb dX6_isCold_12 (by decide) ?_
    exact wt_szret hx hb hr hlocks (by decide) (by trivial) dX6_isCold_16
set_option maxHeartbeats 4000000 in
set_option maxRecDepth 100000 in
theorem c_X6_wants (l : Launch) (D : va_G) (cI cZ cH : ClassId) (rw : Nat) (R T : Nat) (f : Nat → Int32) (j : Nat) (hR5 : R ≤ 5) (hT6 : T ≤ 6) (hrk : rk R T f) (hj6 : j < 6) : wt_R l yX6_wants wsX6_wants ({ frames := 2, cells := 0, slots := 0, locals := 43 } : Room) D (wt_T cI cZ cH) [.ref rw, .int (nI j)] [(rw, .inl (cI, 45, .inl f))] (vp_Si (fun r => True)) := by
  refine wt_R.ofW (cc := cX6_wants) (maxL := 4) (ret := (some .int)) (by decide) rfl (Nat.le_of_ble_eq_true rfl) ?_
  intro p e s m below meth c ls hx hb hr hts hown hlocks hml hP hK hl
  have hown : s.vm.findClass RX6 = some m.cls := hown
  have hl : lv_has ls 4 [(0, .ref rw), (1, .int (nI j))] := hl
  refine lv_aload_n hx hb dX6_wants_0 rfl (lv_at hl 0 rfl) ?_
  refine lv_iload_n hx hb dX6_wants_1 rfl (lv_at hl 1 rfl) ?_
  refine lv_iconst (v := 0) hx hb dX6_wants_2 (by decide) ?_
  refine wt_rS (As := [.ref rw, .int (nI j), .int 0]) (rest := []) ⟨hx, hb, hml, hown, hts⟩ (c_X6_of_w l D cI cZ cH rw R T f j 0 (by first | assumption | omega) (by first | assumption | omega) (by first | assumption | omega) (by first | assumption | omega) (by first | assumption | omega)) (va_cwS 3 hts gX6_wants_X6_of rfl rfl rfl (by decide +kernel) ⟨Nat.le_of_ble_eq_true rfl, Nat.le_of_ble_eq_true rfl⟩) hK hP [0] rfl rfl hl.1 rfl (Nat.le_of_ble_eq_true rfl) dX6_wants_3 ⟨Nat.le_of_ble_eq_true rfl, Nat.le_of_ble_eq_true rfl⟩ (fun r_1 e_2 => ?_)
  refine lv_istore_n (lv' := [(2, .int r_1), (0, .ref rw), (1, .int (nI j))]) hx hb dX6_wants_6 rfl hl (by decide) rfl (fun ls hl => ?_)
  refine lv_aload_n hx hb dX6_wants_7 rfl (lv_at hl 1 rfl) ?_
  refine lv_iload_n hx hb dX6_wants_8 rfl (lv_at hl 2 rfl) ?_
  refine lv_iconst (v := 2) hx hb dX6_wants_9 (by decide) ?_
  refine wt_rS (As := [.ref rw, .int (nI j), .int 2]) (rest := []) ⟨hx, hb, hml, hown, hts⟩ (c_X6_of_w l D cI cZ cH rw R T f j 2 (by first | assumption | omega) (by first | assumption | omega) (by first | assumption | omega) (by first | assumption | omega) (by first | assumption | omega)) (va_cwS 3 hts gX6_wants_X6_of rfl rfl rfl (by decide +kernel) ⟨Nat.le_of_ble_eq_true rfl, Nat.le_of_ble_eq_true rfl⟩) hK hP [0] rfl rfl hl.1 rfl (Nat.le_of_ble_eq_true rfl) dX6_wants_10 ⟨Nat.le_of_ble_eq_true rfl, Nat.le_of_ble_eq_true rfl⟩ (fun r_3 e_4 => ?_)
  refine lv_istore_n (lv' := [(3, .int r_3), (2, .int r_1), (0, .ref rw), (1, .int (nI j))]) hx hb dX6_wants_13 rfl hl (by decide) rfl (fun ls hl => ?_)
  refine lv_iload_n hx hb dX6_wants_14 rfl (lv_at hl 1 rfl) ?_
  rcases wt_dec (r_1) 1 with c_6 | c_6
  · subst c_6
    refine lv_tableIn (off := 25) (tgt := 40) hx hb dX6_wants_15 (by decide) (by decide) rfl (by decide) ?_
    refine lv_iload_n hx hb dX6_wants_40 rfl (lv_at hl 0 rfl) ?_
    exact wt_siret hx hb hr hlocks (by trivial) dX6_wants_41
  rcases wt_dec (r_1) 2 with c_7 | c_7
  · subst c_7
    refine lv_tableIn (off := 27) (tgt := 42) hx hb dX6_wants_15 (by decide) (by decide) rfl (by decide) ?_
    refine lv_iload_n hx hb dX6_wants_42 rfl (lv_at hl 0 rfl) ?_
    refine lv_aload_n hx hb dX6_wants_43 rfl (lv_at hl 2 rfl) ?_
    refine lv_iload_n hx hb dX6_wants_44 rfl (lv_at hl 3 rfl) ?_
    refine lv_iconst (v := 4) hx hb dX6_wants_45 (by decide) ?_
    refine wt_rS (As := [.ref rw, .int (nI j), .int 4]) (rest := [.int r_3]) ⟨hx, hb, hml, hown, hts⟩ (c_X6_of_w l D cI cZ cH rw R T f j 4 (by first | assumption | omega) (by first | assumption | omega) (by first | assumption | omega) (by first | assumption | omega) (by first | assumption | omega)) (va_cwS 3 hts gX6_wants_X6_of rfl rfl rfl (by decide +kernel) ⟨Nat.le_of_ble_eq_true rfl, Nat.le_of_ble_eq_true rfl⟩) hK hP [0] rfl rfl hl.1 rfl (Nat.le_of_ble_eq_true rfl) dX6_wants_46 ⟨Nat.le_of_ble_eq_true rfl, Nat.le_of_ble_eq_true rfl⟩ (fun r_8 e_9 => ?_)
    refine lv_bipush (v := 10) hx hb dX6_wants_49 (by decide) ?_
    refine lv_idiv hx hb dX6_wants_51 (by decide) ?_
    refine lv_topi (fun ov_10 _ => ?_)
    refine lv_iadd hx hb dX6_wants_52 ?_
    refine lv_topi (fun ov_11 _ => ?_)
    exact wt_siret hx hb hr hlocks (by trivial) dX6_wants_53
  rcases wt_dec (r_1) 3 with c_12 | c_12
  · subst c_12
    refine lv_tableIn (off := 39) (tgt := 54) hx hb dX6_wants_15 (by decide) (by decide) rfl (by decide) ?_
    refine lv_aload_n hx hb dX6_wants_54 rfl (lv_at hl 2 rfl) ?_
    refine lv_iconst (v := 4) hx hb dX6_wants_55 (by decide) ?_
    refine va_iald hx hb hK.1 hP 0 0 rfl rfl (by rw [vp_in_iff]; decide) dX6_wants_56 ?_
    refine lv_topi (fun ov_13 _ => ?_)
    refine lv_iconst (v := 2) hx hb dX6_wants_57 (by decide) ?_
    refine lv_irem hx hb dX6_wants_58 (by decide) ?_
    refine lv_topi (fun ov_14 _ => ?_)
    refine lv_if_ne (tgt := 66) hx hb dX6_wants_59 (by decide) (fun c_15 => ?_) (fun c_15 => ?_)
    · skip
      refine lv_iconst (v := 0) hx hb dX6_wants_66 (by decide) ?_
      exact wt_siret hx hb hr hlocks (by trivial) dX6_wants_67
    · skip
      refine lv_iload_n hx hb dX6_wants_62 rfl (lv_at hl 0 rfl) ?_
      refine lv_goto (tgt := 67) hx hb dX6_wants_63 (by decide) ?_
      exact wt_siret hx hb hr hlocks (by trivial) dX6_wants_67
  refine lv_tableOut (tgt := 68) hx hb dX6_wants_15 (by have := lv_neT (a := 1) c_6 rfl; have := lv_neT (a := 2) c_7 rfl; have := lv_neT (a := 3) c_12 rfl; omega) (by decide) ?_
  refine lv_aload_n hx hb dX6_wants_68 rfl (lv_at hl 2 rfl) ?_
  refine lv_iload_n hx hb dX6_wants_69 rfl (lv_at hl 3 rfl) ?_
  refine wt_rS (As := [.ref rw, .int (nI j)]) (rest := []) ⟨hx, hb, hml, hown, hts⟩ (c_X6_isOut l D cI cZ cH rw R T f j (by first | assumption | omega) (by first | assumption | omega) (by first | assumption | omega) (by first | assumption | omega)) (va_cwS 2 hts gX6_wants_X6_isOut rfl rfl rfl (by decide +kernel) ⟨Nat.le_of_ble_eq_true rfl, Nat.le_of_ble_eq_true rfl⟩) hK hP [0] rfl rfl hl.1 rfl (Nat.le_of_ble_eq_true rfl) dX6_wants_70 ⟨Nat.le_of_ble_eq_true rfl, Nat.le_of_ble_eq_true rfl⟩ (fun r_16 e_17 => ?_)
  refine lv_if_ne (tgt := 89) hx hb dX6_wants_73 (by decide) (fun c_18 => ?_) (fun c_18 => ?_)
  · skip
    refine lv_iconst (v := 0) hx hb dX6_wants_89 (by decide) ?_
    refine lv_goto (tgt := 94) hx hb dX6_wants_90 (by decide) ?_
    exact wt_siret hx hb hr hlocks (by trivial) dX6_wants_94
  · skip
    refine lv_aload_n hx hb dX6_wants_76 rfl (lv_at hl 2 rfl) ?_
    refine lv_aload_n hx hb dX6_wants_77 rfl (lv_at hl 2 rfl) ?_
    refine lv_iload_n hx hb dX6_wants_78 rfl (lv_at hl 3 rfl) ?_
    refine lv_iconst (v := 1) hx hb dX6_wants_79 (by decide) ?_
    refine wt_rS (As := [.ref rw, .int (nI j), .int 1]) (rest := [.ref rw]) ⟨hx, hb, hml, hown, hts⟩ (c_X6_of_1 l D cI cZ cH rw R T f j (by first | assumption | omega) (by first | assumption | omega) (by first | assumption | omega) (by first | assumption | omega)) (va_cwS 3 hts gX6_wants_X6_of rfl rfl rfl (by decide +kernel) ⟨Nat.le_of_ble_eq_true rfl, Nat.le_of_ble_eq_true rfl⟩) hK hP [0] rfl rfl hl.1 rfl (Nat.le_of_ble_eq_true rfl) dX6_wants_80 ⟨Nat.le_of_ble_eq_true rfl, Nat.le_of_ble_eq_true rfl⟩ (fun r_19 e_20 => ?_)
    obtain ⟨q_21, e_20, rfl⟩ := e_20
    refine wt_rS (As := [.ref rw, .int (nI q_21)]) (rest := []) ⟨hx, hb, hml, hown, hts⟩ (c_X6_isCold l D cI cZ cH rw R T f q_21 (by first | assumption | omega) (by first | assumption | omega) (by first | assumption | omega) (by first | assumption | omega)) (va_cwS 2 hts gX6_wants_X6_isCold rfl rfl rfl (by decide +kernel) ⟨Nat.le_of_ble_eq_true rfl, Nat.le_of_ble_eq_true rfl⟩) hK hP [0] rfl rfl hl.1 rfl (Nat.le_of_ble_eq_true rfl) dX6_wants_83 ⟨Nat.le_of_ble_eq_true rfl, Nat.le_of_ble_eq_true rfl⟩ (fun r_22 e_23 => ?_)
    refine lv_if_eq (tgt := 93) hx hb dX6_wants_86 (by decide) (fun c_24 => ?_) (fun c_24 => ?_)
    · skip
      refine lv_iload_n hx hb dX6_wants_93 rfl (lv_at hl 0 rfl) ?_
      exact wt_siret hx hb hr hlocks (by trivial) dX6_wants_94
    · skip
      refine lv_iconst (v := 0) hx hb dX6_wants_89 (by decide) ?_
      refine lv_goto (tgt := 94) hx hb dX6_wants_90 (by decide) ?_
      exact wt_siret hx hb hr hlocks (by trivial) dX6_wants_94
set_option maxHeartbeats 4000000 in
set_option maxRecDepth 100000 in
theorem c_X6_gives (l : Launch) (D : va_G) (cI cZ cH : ClassId) (rw : Nat) (R T : Nat) (f : Nat → Int32) (r : Nat) (v : Int32) (hR5 : R ≤ 5) (hT6 : T ≤ 6) (hrk : rk R T f) (hrR : r ≤ R) : wt_M l yX6_gives wsX6_gives ({ frames := 1, cells := 0, slots := 0, locals := 21 } : Room) D (wt_T cI cZ cH) [.ref rw, .int (nI r), .int v] [(rw, .inl (cI, 45, .inl f))] (wt_QV D (fun w => ∃ (f2 : Nat → Int32), w = [(rw, .inl (cI, 45, .inl f2))] ∧ rk R T f2)) := by
  refine wt_M.ofW (cc := cX6_gives) (maxL := 4) (ret := none) (by decide) rfl (Nat.le_of_ble_eq_true rfl) ?_
  intro p e s m below meth c A ls hx hb hr hts hown hlocks hml hnm hP hK hD hA hS hl
  have hP : va_P D vwCl [(rw, .inl (cI, 45, .inl f))] s.heap := hP
  have hown : s.vm.findClass RX6 = some m.cls := hown
  have hl : lv_has ls 4 [(0, .ref rw), (1, .int (nI r)), (2, .int v)] := hl
  refine lv_iload_n hx hb dX6_gives_0 rfl (lv_at hl 1 rfl) ?_
  refine lv_aload_n hx hb dX6_gives_1 rfl (lv_at hl 0 rfl) ?_
  refine lv_iconst (v := 0) hx hb dX6_gives_2 (by decide) ?_
  refine va_iald hx hb hK.1 hP 0 0 rfl rfl (by rw [vp_in_iff]; decide) dX6_gives_3 ?_
  refine wt_top (z := nI R) (hrk.1) ?_
  refine lv_icmp_ge (tgt := 36) hx hb dX6_gives_4 (by decide) (fun c_1 => ?_) (fun c_1 => ?_)
  · skip
    have c_1 : R ≤ r := (nI_leI (a := R) (b := r) (by omega) (by omega)).mp c_1
    have hP9 := hP.sub (ws' := [(rw, .inl (cI, 45, .inl f))]) [0] rfl
    have hD9 := hD.sub (ws' := [(rw, .inl (cI, 45, .inl f))]) [0] (by decide) rfl
    exact wt_vret hx hb hr hlocks hP9 hD9 hS ⟨f, rfl, hrk⟩ dX6_gives_36
  · skip
    have c_1 : ¬ (R ≤ r) := fun h => c_1 ((nI_leI (a := R) (b := r) (by omega) (by omega)).mpr h)
    refine lv_aload_n hx hb dX6_gives_7 rfl (lv_at hl 0 rfl) ?_
    refine lv_iload_n hx hb dX6_gives_8 rfl (lv_at hl 1 rfl) ?_
    refine wt_rS (As := [.ref rw, .int (nI r)]) (rest := []) ⟨hx, hb, hml, hown, hts⟩ (c_X6_warmth l D cI cZ cH rw R T f r (by first | assumption | omega) (by first | assumption | omega) (by first | assumption | omega) (by first | assumption | omega)) (va_cwS 2 hts gX6_gives_X6_warmth rfl rfl rfl (by decide +kernel) ⟨Nat.le_of_ble_eq_true rfl, Nat.le_of_ble_eq_true rfl⟩) hK hP [0] rfl rfl hl.1 rfl (Nat.le_of_ble_eq_true rfl) dX6_gives_9 ⟨Nat.le_of_ble_eq_true rfl, Nat.le_of_ble_eq_true rfl⟩ (fun r_2 e_3 => ?_)
    refine lv_iload_n hx hb dX6_gives_12 rfl (lv_at hl 2 rfl) ?_
    refine lv_iadd hx hb dX6_gives_13 ?_
    refine lv_topi (fun ov_4 _ => ?_)
    refine lv_istore_n (lv' := [(3, .int ov_4), (0, .ref rw), (1, .int (nI r)), (2, .int v)]) hx hb dX6_gives_14 rfl hl (by decide) rfl (fun ls hl => ?_)
    refine lv_aload_n hx hb dX6_gives_15 rfl (lv_at hl 1 rfl) ?_
    refine lv_iconst (v := 5) hx hb dX6_gives_16 (by decide) ?_
    refine lv_iconst (v := 2) hx hb dX6_gives_17 (by decide) ?_
    refine lv_iload_n hx hb dX6_gives_18 rfl (lv_at hl 2 rfl) ?_
    refine lv_imul hx hb dX6_gives_19 ?_
    refine wt_top (z := nI (2 * r)) (pk_mul 2 r) ?_
    refine lv_iadd hx hb dX6_gives_20 ?_
    refine wt_top (z := nI (5 + (2 * r))) (nI_add 5 (2 * r)) ?_
    refine lv_iload_n hx hb dX6_gives_21 rfl (lv_at hl 0 rfl) ?_
    refine lv_sipush (v := 999) hx hb dX6_gives_22 (by decide) ?_
    refine lv_icmp_le (tgt := 34) hx hb dX6_gives_25 (by decide) (fun c_5 => ?_) (fun c_5 => ?_)
    · skip
      refine lv_iload_n hx hb dX6_gives_34 rfl (lv_at hl 0 rfl) ?_
      refine va_iast hx hb hK.1 hP hD hS 0 0 rfl rfl (vp_in_nI (by omega) (by omega)) dX6_gives_35 (fun H locs hP hD hS => ?_)
      have hP : va_P D vwCl [(rw, .inl (cI, 45, .inl (upd f ((nI (5 + (2 * r))).toNatClampNeg) ov_4)))] H := hP
      have hD : va_D A [(rw, .inl (cI, 45, .inl (upd f ((nI (5 + (2 * r))).toNatClampNeg) ov_4)))] := hD
      have rk_6 : rk R T (upd f ((nI (5 + (2 * r))).toNatClampNeg) ov_4) := rk_upd (k := (5 + (2 * r))) hrk (nI_clamp (by omega)) (by omega) _
      generalize upd f ((nI (5 + (2 * r))).toNatClampNeg) ov_4 = rf_7 at hP hD rk_6
      have hP9 := hP.sub (ws' := [(rw, .inl (cI, 45, .inl rf_7))]) [0] rfl
      have hD9 := hD.sub (ws' := [(rw, .inl (cI, 45, .inl rf_7))]) [0] (by decide) rfl
      exact wt_vret hx hb hr hlocks hP9 hD9 hS ⟨rf_7, rfl, rk_6⟩ dX6_gives_36
    · skip
      refine lv_sipush (v := 999) hx hb dX6_gives_28 (by decide) ?_
      refine lv_goto (tgt := 35) hx hb dX6_gives_31 (by decide) ?_
      refine va_iast hx hb hK.1 hP hD hS 0 0 rfl rfl (vp_in_nI (by omega) (by omega)) dX6_gives_35 (fun H locs hP hD hS => ?_)
      have hP : va_P D vwCl [(rw, .inl (cI, 45, .inl (upd f ((nI (5 + (2 * r))).toNatClampNeg) 999)))] H := hP
      have hD : va_D A [(rw, .inl (cI, 45, .inl (upd f ((nI (5 + (2 * r))).toNatClampNeg) 999)))] := hD
      have rk_8 : rk R T (upd f ((nI (5 + (2 * r))).toNatClampNeg) 999) := rk_upd (k := (5 + (2 * r))) hrk (nI_clamp (by omega)) (by omega) _
      generalize upd f ((nI (5 + (2 * r))).toNatClampNeg) 999 = rf_9 at hP hD rk_8
      have hP9 := hP.sub (ws' := [(rw, .inl (cI, 45, .inl rf_9))]) [0] rfl
      have hD9 := hD.sub (ws' := [(rw, .inl (cI, 45, .inl rf_9))]) [0] (by decide) rfl
      exact wt_vret hx hb hr hlocks hP9 hD9 hS ⟨rf_9, rfl, rk_8⟩ dX6_gives_36
set_option maxHeartbeats 4000000 in
set_option maxRecDepth 100000 in
theorem c_X6_minute (l : Launch) (D : va_G) (cI cZ cH : ClassId) (rw : Nat) (R T : Nat) (f : Nat → Int32) (hR5 : R ≤ 5) (hT6 : T ≤ 6) (hrk : rk R T f) : wt_M l yX6_minute wsX6_minute ({ frames := 3, cells := 0, slots := 0, locals := 66 } : Room) D (wt_T cI cZ cH) [.ref rw] [(rw, .inl (cI, 45, .inl f))] (wt_QV D (fun w => ∃ (f2 : Nat → Int32), w = [(rw, .inl (cI, 45, .inl f2))] ∧ rk R T f2)) := by
  refine wt_M.ofW (cc := cX6_minute) (maxL := 6) (ret := none) (by decide) rfl (Nat.le_of_ble_eq_true rfl) ?_
  intro p e s m below meth c A ls hx hb hr hts hown hlocks hml hnm hP hK hD hA hS hl
  have hP : va_P D vwCl [(rw, .inl (cI, 45, .inl f))] s.heap := hP
  have hown : s.vm.findClass RX6 = some m.cls := hown
  have hl : lv_has ls 6 [(0, .ref rw)] := hl
  refine lv_iconst (v := 0) hx hb dX6_minute_0 (by decide) ?_
  refine lv_istore_n (lv' := [(1, .int 0), (0, .ref rw)]) hx hb dX6_minute_1 rfl hl (by decide) rfl (fun ls hl => ?_)
  have loop2 : ∀ (k i_1 : Nat) (f_2 : Nat → Int32) (H : Heap) (locs : List Loc) (ls : Array Slot), i_1 + k = T → (rk R T f_2) → va_P D vwCl [(rw, .inl (cI, 45, .inl f_2))] H → va_D A [(rw, .inl (cI, 45, .inl f_2))] → va_S A s.heap H locs → lv_has ls 6 [(1, .int (nI i_1)), (0, .ref rw)] → W p l e ({ frames := 3, cells := 0, slots := 0, locals := 66 } : Room) s m ([.ref rw] : List Value).toArray below meth c H locs 0 0 (MQ below (wt_QV D (fun w => ∃ (f2 : Nat → Int32), w = [(rw, .inl (cI, 45, .inl f2))] ∧ rk R T f2) A) ([.ref rw] : List Value).toArray s 0 0 A) (F0 m 2 ls []) := by
    intro k
    induction k with
    | zero =>
      intro i_1 f_2 H locs ls hik rk_3 hP hD hS hl
      refine lv_iload_n hx hb dX6_minute_2 rfl (lv_at hl 0 rfl) ?_
      refine lv_aload_n hx hb dX6_minute_3 rfl (lv_at hl 1 rfl) ?_
      refine lv_iconst (v := 1) hx hb dX6_minute_4 (by decide) ?_
      refine va_iald hx hb hK.1 hP 0 0 rfl rfl (by rw [vp_in_iff]; decide) dX6_minute_5 ?_
      refine wt_top (z := nI T) (rk_3.2.1) ?_
      refine lv_icmp_ge (tgt := 156) hx hb dX6_minute_6 (by decide) (fun _ => ?_) (fun h => absurd (nI_le (a := T) (b := i_1) (by omega) (by omega)) h)
      refine lv_iconst (v := 0) hx hb dX6_minute_156 (by decide) ?_
      refine lv_istore_n (lv' := [(1, .int 0), (0, .ref rw)]) hx hb dX6_minute_157 rfl hl (by decide) rfl (fun ls hl => ?_)
      have loop158 : ∀ (k i_4 : Nat) (f_2_5 : Nat → Int32) (H : Heap) (locs : List Loc) (ls : Array Slot), i_4 + k = R → (rk R T f_2_5) → va_P D vwCl [(rw, .inl (cI, 45, .inl f_2_5))] H → va_D A [(rw, .inl (cI, 45, .inl f_2_5))] → va_S A s.heap H locs → lv_has ls 6 [(1, .int (nI i_4)), (0, .ref rw)] → W p l e ({ frames := 3, cells := 0, slots := 0, locals := 66 } : Room) s m ([.ref rw] : List Value).toArray below meth c H locs 0 0 (MQ below (wt_QV D (fun w => ∃ (f2 : Nat → Int32), w = [(rw, .inl (cI, 45, .inl f2))] ∧ rk R T f2) A) ([.ref rw] : List Value).toArray s 0 0 A) (F0 m 158 ls []) := by
        intro k
        induction k with
        | zero =>
          intro i_4 f_2_5 H locs ls hik rk_6 hP hD hS hl
          refine lv_iload_n hx hb dX6_minute_158 rfl (lv_at hl 0 rfl) ?_
          refine lv_aload_n hx hb dX6_minute_159 rfl (lv_at hl 1 rfl) ?_
          refine lv_iconst (v := 0) hx hb dX6_minute_160 (by decide) ?_
          refine va_iald hx hb hK.1 hP 0 0 rfl rfl (by rw [vp_in_iff]; decide) dX6_minute_161 ?_
          refine wt_top (z := nI R) (rk_6.1) ?_
          refine lv_icmp_ge (tgt := 211) hx hb dX6_minute_162 (by decide) (fun _ => ?_) (fun h => absurd (nI_le (a := R) (b := i_4) (by omega) (by omega)) h)
          refine lv_aload_n hx hb dX6_minute_211 rfl (lv_at hl 1 rfl) ?_
          refine lv_iconst (v := 4) hx hb dX6_minute_212 (by decide) ?_
          refine lv_dup2_11 hx hb dX6_minute_213 rfl rfl ?_
          refine va_iald hx hb hK.1 hP 0 0 rfl rfl (by rw [vp_in_iff]; decide) dX6_minute_214 ?_
          refine lv_topi (fun ov_7 _ => ?_)
          refine lv_iconst (v := 1) hx hb dX6_minute_215 (by decide) ?_
          refine lv_iadd hx hb dX6_minute_216 ?_
          refine lv_topi (fun ov_8 _ => ?_)
          refine va_iast hx hb hK.1 hP hD hS 0 0 rfl rfl (by rw [vp_in_iff]; decide) dX6_minute_217 (fun H locs hP hD hS => ?_)
          have hP : va_P D vwCl [(rw, .inl (cI, 45, .inl (upd f_2_5 (Int32.toNatClampNeg 4) ov_8)))] H := hP
          have hD : va_D A [(rw, .inl (cI, 45, .inl (upd f_2_5 (Int32.toNatClampNeg 4) ov_8)))] := hD
          have rk_9 : rk R T (upd f_2_5 (Int32.toNatClampNeg 4) ov_8) := rk_upd (k := 4) rk_6 rfl (by omega) _
          generalize upd f_2_5 (Int32.toNatClampNeg 4) ov_8 = rf_10 at hP hD rk_9
          have hP9 := hP.sub (ws' := [(rw, .inl (cI, 45, .inl rf_10))]) [0] rfl
          have hD9 := hD.sub (ws' := [(rw, .inl (cI, 45, .inl rf_10))]) [0] (by decide) rfl
          exact wt_vret hx hb hr hlocks hP9 hD9 hS ⟨rf_10, rfl, rk_9⟩ dX6_minute_218
        | succ k ih158 =>
          intro i_4 f_2_5 H locs ls hik rk_6 hP hD hS hl
          refine lv_iload_n hx hb dX6_minute_158 rfl (lv_at hl 0 rfl) ?_
          refine lv_aload_n hx hb dX6_minute_159 rfl (lv_at hl 1 rfl) ?_
          refine lv_iconst (v := 0) hx hb dX6_minute_160 (by decide) ?_
          refine va_iald hx hb hK.1 hP 0 0 rfl rfl (by rw [vp_in_iff]; decide) dX6_minute_161 ?_
          refine wt_top (z := nI R) (rk_6.1) ?_
          refine lv_icmp_ge (tgt := 211) hx hb dX6_minute_162 (by decide) (fun h => absurd h (nI_ge (a := i_4) (b := R) (by omega) (by omega))) (fun _ => ?_)
          refine lv_aload_n hx hb dX6_minute_165 rfl (lv_at hl 1 rfl) ?_
          refine lv_iload_n hx hb dX6_minute_166 rfl (lv_at hl 0 rfl) ?_
          refine wt_rS (As := [.ref rw, .int (nI i_4)]) (rest := []) ⟨hx, hb, hml, hown, hts⟩ (c_X6_warmth l D cI cZ cH rw R T f_2_5 i_4 (by first | assumption | omega) (by first | assumption | omega) (by first | assumption | omega) (by first | assumption | omega)) (va_cwS 2 hts gX6_minute_X6_warmth rfl rfl rfl (by decide +kernel) ⟨Nat.le_of_ble_eq_true rfl, Nat.le_of_ble_eq_true rfl⟩) hK hP [0] rfl rfl hl.1 rfl (Nat.le_of_ble_eq_true rfl) dX6_minute_167 ⟨Nat.le_of_ble_eq_true rfl, Nat.le_of_ble_eq_true rfl⟩ (fun r_11 e_12 => ?_)
          refine lv_aload_n hx hb dX6_minute_170 rfl (lv_at hl 1 rfl) ?_
          refine lv_iconst (v := 2) hx hb dX6_minute_171 (by decide) ?_
          refine va_iald hx hb hK.1 hP 0 0 rfl rfl (by rw [vp_in_iff]; decide) dX6_minute_172 ?_
          refine lv_topi (fun ov_13 _ => ?_)
          refine lv_isub hx hb dX6_minute_173 ?_
          refine lv_topi (fun ov_14 _ => ?_)
          refine lv_istore_n (lv' := [(2, .int ov_14), (1, .int (nI i_4)), (0, .ref rw)]) hx hb dX6_minute_174 rfl hl (by decide) rfl (fun ls hl => ?_)
          refine lv_aload_n hx hb dX6_minute_175 rfl (lv_at hl 2 rfl) ?_
          refine lv_iconst (v := 5) hx hb dX6_minute_176 (by decide) ?_
          refine lv_iconst (v := 2) hx hb dX6_minute_177 (by decide) ?_
          refine lv_iload_n hx hb dX6_minute_178 rfl (lv_at hl 1 rfl) ?_
          refine lv_imul hx hb dX6_minute_179 ?_
          refine wt_top (z := nI (2 * i_4)) (pk_mul 2 i_4) ?_
          refine lv_iadd hx hb dX6_minute_180 ?_
          refine wt_top (z := nI (5 + (2 * i_4))) (nI_add 5 (2 * i_4)) ?_
          refine lv_iload_n hx hb dX6_minute_181 rfl (lv_at hl 0 rfl) ?_
          refine lv_if_ge (tgt := 189) hx hb dX6_minute_182 (by decide) (fun c_15 => ?_) (fun c_15 => ?_)
          · skip
            refine lv_iload_n hx hb dX6_minute_189 rfl (lv_at hl 0 rfl) ?_
            refine va_iast hx hb hK.1 hP hD hS 0 0 rfl rfl (vp_in_nI (by omega) (by omega)) dX6_minute_190 (fun H locs hP hD hS => ?_)
            have hP : va_P D vwCl [(rw, .inl (cI, 45, .inl (upd f_2_5 ((nI (5 + (2 * i_4))).toNatClampNeg) ov_14)))] H := hP
            have hD : va_D A [(rw, .inl (cI, 45, .inl (upd f_2_5 ((nI (5 + (2 * i_4))).toNatClampNeg) ov_14)))] := hD
            have rk_16 : rk R T (upd f_2_5 ((nI (5 + (2 * i_4))).toNatClampNeg) ov_14) := rk_upd (k := (5 + (2 * i_4))) rk_6 (nI_clamp (by omega)) (by omega) _
            generalize upd f_2_5 ((nI (5 + (2 * i_4))).toNatClampNeg) ov_14 = rf_17 at hP hD rk_16
            refine lv_aload_n hx hb dX6_minute_191 rfl (lv_at hl 2 rfl) ?_
            refine lv_iload_n hx hb dX6_minute_192 rfl (lv_at hl 1 rfl) ?_
            refine lv_aload_n hx hb dX6_minute_193 rfl (lv_at hl 2 rfl) ?_
            refine lv_iconst (v := 5) hx hb dX6_minute_194 (by decide) ?_
            refine lv_iconst (v := 2) hx hb dX6_minute_195 (by decide) ?_
            refine lv_iload_n hx hb dX6_minute_196 rfl (lv_at hl 1 rfl) ?_
            refine lv_imul hx hb dX6_minute_197 ?_
            refine wt_top (z := nI (2 * i_4)) (pk_mul 2 i_4) ?_
            refine lv_iadd hx hb dX6_minute_198 ?_
            refine wt_top (z := nI (5 + (2 * i_4))) (nI_add 5 (2 * i_4)) ?_
            refine lv_iconst (v := 1) hx hb dX6_minute_199 (by decide) ?_
            refine lv_iadd hx hb dX6_minute_200 ?_
            refine wt_top (z := nI ((5 + (2 * i_4)) + 1)) (nI_add (5 + (2 * i_4)) 1) ?_
            refine va_iald hx hb hK.1 hP 0 0 rfl rfl (vp_in_nI (by omega) (by omega)) dX6_minute_201 ?_
            refine lv_topi (fun ov_18 _ => ?_)
            refine wt_goV (wr := []) (wt_runS (As := [.ref rw, .int (nI i_4), .int ov_18]) (rest := []) ⟨hx, hb, hml, hown, hts⟩ (c_X6_gives l D cI cZ cH rw R T rf_17 i_4 ov_18 (by first | assumption | omega) (by first | assumption | omega) (by first | assumption | omega) (by first | assumption | omega)) (va_cwS 3 hts gX6_minute_X6_gives rfl rfl rfl (by decide +kernel) ⟨Nat.le_of_ble_eq_true rfl, Nat.le_of_ble_eq_true rfl⟩) hK hP hD [0] rfl (by decide) rfl hl.1 rfl (Nat.le_of_ble_eq_true rfl) dX6_minute_202 ⟨Nat.le_of_ble_eq_true rfl, Nat.le_of_ble_eq_true rfl⟩) hP hD hS hA [0] [] rfl rfl (by decide) (by decide) (fun w_20 H locs h_21 hP hD hS => ?_)
            obtain ⟨f2_22, rfl, x_23⟩ := h_21
            have hP : va_P D vwCl [(rw, .inl (cI, 45, .inl f2_22))] H := hP
            have hD : va_D A [(rw, .inl (cI, 45, .inl f2_22))] := hD
            refine lv_iinc (v := nI (i_4 + 1)) (lv' := [(1, .int (nI (i_4 + 1))), (2, .int ov_14), (0, .ref rw)]) hx hb dX6_minute_205 hl (k := 1) rfl (nI_add i_4 1) (by decide) rfl (fun ls hl => ?_)
            refine lv_goto (tgt := 158) hx hb dX6_minute_208 (by decide) ?_
            exact ih158 ((i_4 + 1)) f2_22 H locs ls (by omega) x_23 hP hD hS (lv_sub hl [0, 2] rfl)
          · skip
            refine lv_iconst (v := 0) hx hb dX6_minute_185 (by decide) ?_
            refine lv_goto (tgt := 190) hx hb dX6_minute_186 (by decide) ?_
            refine va_iast hx hb hK.1 hP hD hS 0 0 rfl rfl (vp_in_nI (by omega) (by omega)) dX6_minute_190 (fun H locs hP hD hS => ?_)
            have hP : va_P D vwCl [(rw, .inl (cI, 45, .inl (upd f_2_5 ((nI (5 + (2 * i_4))).toNatClampNeg) 0)))] H := hP
            have hD : va_D A [(rw, .inl (cI, 45, .inl (upd f_2_5 ((nI (5 + (2 * i_4))).toNatClampNeg) 0)))] := hD
            have rk_24 : rk R T (upd f_2_5 ((nI (5 + (2 * i_4))).toNatClampNeg) 0) := rk_upd (k := (5 + (2 * i_4))) rk_6 (nI_clamp (by omega)) (by omega) _
            generalize upd f_2_5 ((nI (5 + (2 * i_4))).toNatClampNeg) 0 = rf_25 at hP hD rk_24
            refine lv_aload_n hx hb dX6_minute_191 rfl (lv_at hl 2 rfl) ?_
            refine lv_iload_n hx hb dX6_minute_192 rfl (lv_at hl 1 rfl) ?_
            refine lv_aload_n hx hb dX6_minute_193 rfl (lv_at hl 2 rfl) ?_
            refine lv_iconst (v := 5) hx hb dX6_minute_194 (by decide) ?_
            refine lv_iconst (v := 2) hx hb dX6_minute_195 (by decide) ?_
            refine lv_iload_n hx hb dX6_minute_196 rfl (lv_at hl 1 rfl) ?_
            refine lv_imul hx hb dX6_minute_197 ?_
            refine wt_top (z := nI (2 * i_4)) (pk_mul 2 i_4) ?_
            refine lv_iadd hx hb dX6_minute_198 ?_
            refine wt_top (z := nI (5 + (2 * i_4))) (nI_add 5 (2 * i_4)) ?_
            refine lv_iconst (v := 1) hx hb dX6_minute_199 (by decide) ?_
            refine lv_iadd hx hb dX6_minute_200 ?_
            refine wt_top (z := nI ((5 + (2 * i_4)) + 1)) (nI_add (5 + (2 * i_4)) 1) ?_
            refine va_iald hx hb hK.1 hP 0 0 rfl rfl (vp_in_nI (by omega) (by omega)) dX6_minute_201 ?_
            refine lv_topi (fun ov_26 _ => ?_)
            refine wt_goV (wr := []) (wt_runS (As := [.ref rw, .int (nI i_4), .int ov_26]) (rest := []) ⟨hx, hb, hml, hown, hts⟩ (c_X6_gives l D cI cZ cH rw R T rf_25 i_4 ov_26 (by first | assumption | omega) (by first | assumption | omega) (by first | assumption | omega) (by first | assumption | omega)) (va_cwS 3 hts gX6_minute_X6_gives rfl rfl rfl (by decide +kernel) ⟨Nat.le_of_ble_eq_true rfl, Nat.le_of_ble_eq_true rfl⟩) hK hP hD [0] rfl (by decide) rfl hl.1 rfl (Nat.le_of_ble_eq_true rfl) dX6_minute_202 ⟨Nat.le_of_ble_eq_true rfl, Nat.le_of_ble_eq_true rfl⟩) hP hD hS hA [0] [] rfl rfl (by decide) (by decide) (fun w_28 H locs h_29 hP hD hS => ?_)
            obtain ⟨f2_30, rfl, x_31⟩ := h_29
            have hP : va_P D vwCl [(rw, .inl (cI, 45, .inl f2_30))] H := hP
            have hD : va_D A [(rw, .inl (cI, 45, .inl f2_30))] := hD
            refine lv_iinc (v := nI (i_4 + 1)) (lv' := [(1, .int (nI (i_4 + 1))), (2, .int ov_14), (0, .ref rw)]) hx hb dX6_minute_205 hl (k := 1) rfl (nI_add i_4 1) (by decide) rfl (fun ls hl => ?_)
            refine lv_goto (tgt := 158) hx hb dX6_minute_208 (by decide) ?_
            exact ih158 ((i_4 + 1)) f2_30 H locs ls (by omega) x_31 hP hD hS (lv_sub hl [0, 2] rfl)
      exact loop158 (R - 0) (0) f_2 _ _ ls (by omega) rk_3 hP hD hS hl
    | succ k ih2 =>
      intro i_1 f_2 H locs ls hik rk_3 hP hD hS hl
      refine lv_iload_n hx hb dX6_minute_2 rfl (lv_at hl 0 rfl) ?_
      refine lv_aload_n hx hb dX6_minute_3 rfl (lv_at hl 1 rfl) ?_
      refine lv_iconst (v := 1) hx hb dX6_minute_4 (by decide) ?_
      refine va_iald hx hb hK.1 hP 0 0 rfl rfl (by rw [vp_in_iff]; decide) dX6_minute_5 ?_
      refine wt_top (z := nI T) (rk_3.2.1) ?_
      refine lv_icmp_ge (tgt := 156) hx hb dX6_minute_6 (by decide) (fun h => absurd h (nI_ge (a := i_1) (b := T) (by omega) (by omega))) (fun _ => ?_)
      refine lv_aload_n hx hb dX6_minute_9 rfl (lv_at hl 1 rfl) ?_
      refine lv_iload_n hx hb dX6_minute_10 rfl (lv_at hl 0 rfl) ?_
      refine lv_iconst (v := 1) hx hb dX6_minute_11 (by decide) ?_
      refine wt_rS (As := [.ref rw, .int (nI i_1), .int 1]) (rest := []) ⟨hx, hb, hml, hown, hts⟩ (c_X6_of_1 l D cI cZ cH rw R T f_2 i_1 (by first | assumption | omega) (by first | assumption | omega) (by first | assumption | omega) (by first | assumption | omega)) (va_cwS 3 hts gX6_minute_X6_of rfl rfl rfl (by decide +kernel) ⟨Nat.le_of_ble_eq_true rfl, Nat.le_of_ble_eq_true rfl⟩) hK hP [0] rfl rfl hl.1 rfl (Nat.le_of_ble_eq_true rfl) dX6_minute_12 ⟨Nat.le_of_ble_eq_true rfl, Nat.le_of_ble_eq_true rfl⟩ (fun r_32 e_33 => ?_)
      obtain ⟨q_34, e_33, rfl⟩ := e_33
      refine lv_istore_n (lv' := [(2, .int (nI q_34)), (1, .int (nI i_1)), (0, .ref rw)]) hx hb dX6_minute_15 rfl hl (by decide) rfl (fun ls hl => ?_)
      refine lv_aload_n hx hb dX6_minute_16 rfl (lv_at hl 2 rfl) ?_
      refine lv_iload_n hx hb dX6_minute_17 rfl (lv_at hl 1 rfl) ?_
      refine lv_iconst (v := 0) hx hb dX6_minute_18 (by decide) ?_
      refine wt_rS (As := [.ref rw, .int (nI i_1), .int 0]) (rest := []) ⟨hx, hb, hml, hown, hts⟩ (c_X6_of_w l D cI cZ cH rw R T f_2 i_1 0 (by first | assumption | omega) (by first | assumption | omega) (by first | assumption | omega) (by first | assumption | omega) (by first | assumption | omega)) (va_cwS 3 hts gX6_minute_X6_of rfl rfl rfl (by decide +kernel) ⟨Nat.le_of_ble_eq_true rfl, Nat.le_of_ble_eq_true rfl⟩) hK hP [0] rfl rfl hl.1 rfl (Nat.le_of_ble_eq_true rfl) dX6_minute_19 ⟨Nat.le_of_ble_eq_true rfl, Nat.le_of_ble_eq_true rfl⟩ (fun r_35 e_36 => ?_)
      refine lv_iconst (v := 5) hx hb dX6_minute_22 (by decide) ?_
      refine lv_icmp_ne (tgt := 55) hx hb dX6_minute_23 (by decide) (fun c_37 => ?_) (fun c_37 => ?_)
      · skip
        refine lv_aload_n hx hb dX6_minute_55 rfl (lv_at hl 2 rfl) ?_
        refine lv_iload_n hx hb dX6_minute_56 rfl (lv_at hl 1 rfl) ?_
        refine wt_rS (As := [.ref rw, .int (nI i_1)]) (rest := []) ⟨hx, hb, hml, hown, hts⟩ (c_X6_wants l D cI cZ cH rw R T f_2 i_1 (by first | assumption | omega) (by first | assumption | omega) (by first | assumption | omega) (by first | assumption | omega)) (va_cwS 2 hts gX6_minute_X6_wants rfl rfl rfl (by decide +kernel) ⟨Nat.le_of_ble_eq_true rfl, Nat.le_of_ble_eq_true rfl⟩) hK hP [0] rfl rfl hl.1 rfl (Nat.le_of_ble_eq_true rfl) dX6_minute_57 ⟨Nat.le_of_ble_eq_true rfl, Nat.le_of_ble_eq_true rfl⟩ (fun r_38 e_39 => ?_)
        refine lv_istore_n (lv' := [(3, .int r_38), (2, .int (nI q_34)), (1, .int (nI i_1)), (0, .ref rw)]) hx hb dX6_minute_60 rfl hl (by decide) rfl (fun ls hl => ?_)
        refine lv_aload_n hx hb dX6_minute_61 rfl (lv_at hl 3 rfl) ?_
        refine lv_iload_n hx hb dX6_minute_62 rfl (lv_at hl 2 rfl) ?_
        refine lv_iconst (v := 3) hx hb dX6_minute_63 (by decide) ?_
        refine wt_rS (As := [.ref rw, .int (nI i_1), .int 3]) (rest := []) ⟨hx, hb, hml, hown, hts⟩ (c_X6_of_w l D cI cZ cH rw R T f_2 i_1 3 (by first | assumption | omega) (by first | assumption | omega) (by first | assumption | omega) (by first | assumption | omega) (by first | assumption | omega)) (va_cwS 3 hts gX6_minute_X6_of rfl rfl rfl (by decide +kernel) ⟨Nat.le_of_ble_eq_true rfl, Nat.le_of_ble_eq_true rfl⟩) hK hP [0] rfl rfl hl.1 rfl (Nat.le_of_ble_eq_true rfl) dX6_minute_64 ⟨Nat.le_of_ble_eq_true rfl, Nat.le_of_ble_eq_true rfl⟩ (fun r_40 e_41 => ?_)
        refine lv_aload_n hx hb dX6_minute_67 rfl (lv_at hl 3 rfl) ?_
        refine lv_iload_n hx hb dX6_minute_68 rfl (lv_at hl 2 rfl) ?_
        refine lv_iconst (v := 4) hx hb dX6_minute_69 (by decide) ?_
        refine wt_rS (As := [.ref rw, .int (nI i_1), .int 4]) (rest := [.int r_40]) ⟨hx, hb, hml, hown, hts⟩ (c_X6_of_w l D cI cZ cH rw R T f_2 i_1 4 (by first | assumption | omega) (by first | assumption | omega) (by first | assumption | omega) (by first | assumption | omega) (by first | assumption | omega)) (va_cwS 3 hts gX6_minute_X6_of rfl rfl rfl (by decide +kernel) ⟨Nat.le_of_ble_eq_true rfl, Nat.le_of_ble_eq_true rfl⟩) hK hP [0] rfl rfl hl.1 rfl (Nat.le_of_ble_eq_true rfl) dX6_minute_70 ⟨Nat.le_of_ble_eq_true rfl, Nat.le_of_ble_eq_true rfl⟩ (fun r_42 e_43 => ?_)
        refine lv_isub hx hb dX6_minute_73 ?_
        refine lv_topi (fun ov_44 _ => ?_)
        refine lv_istore (lv' := [(4, .int ov_44), (3, .int r_38), (2, .int (nI q_34)), (1, .int (nI i_1)), (0, .ref rw)]) hx hb dX6_minute_74 hl (by decide) rfl (fun ls hl => ?_)
        refine lv_aload_n hx hb dX6_minute_76 rfl (lv_at hl 4 rfl) ?_
        refine lv_iload_n hx hb dX6_minute_77 rfl (lv_at hl 3 rfl) ?_
        refine wt_rS (As := [.ref rw, .int (nI i_1)]) (rest := []) ⟨hx, hb, hml, hown, hts⟩ (c_X6_isOut l D cI cZ cH rw R T f_2 i_1 (by first | assumption | omega) (by first | assumption | omega) (by first | assumption | omega) (by first | assumption | omega)) (va_cwS 2 hts gX6_minute_X6_isOut rfl rfl rfl (by decide +kernel) ⟨Nat.le_of_ble_eq_true rfl, Nat.le_of_ble_eq_true rfl⟩) hK hP [0] rfl rfl hl.1 rfl (Nat.le_of_ble_eq_true rfl) dX6_minute_78 ⟨Nat.le_of_ble_eq_true rfl, Nat.le_of_ble_eq_true rfl⟩ (fun r_45 e_46 => ?_)
        refine lv_if_eq (tgt := 88) hx hb dX6_minute_81 (by decide) (fun c_47 => ?_) (fun c_47 => ?_)
        · skip
          refine lv_aload_n hx hb dX6_minute_88 rfl (lv_at hl 4 rfl) ?_
          refine lv_iload_n hx hb dX6_minute_89 rfl (lv_at hl 2 rfl) ?_
          refine wt_rS (As := [.ref rw, .int (nI q_34)]) (rest := []) ⟨hx, hb, hml, hown, hts⟩ (c_X6_warmth l D cI cZ cH rw R T f_2 q_34 (by first | assumption | omega) (by first | assumption | omega) (by first | assumption | omega) (by first | assumption | omega)) (va_cwS 2 hts gX6_minute_X6_warmth rfl rfl rfl (by decide +kernel) ⟨Nat.le_of_ble_eq_true rfl, Nat.le_of_ble_eq_true rfl⟩) hK hP [0] rfl rfl hl.1 rfl (Nat.le_of_ble_eq_true rfl) dX6_minute_90 ⟨Nat.le_of_ble_eq_true rfl, Nat.le_of_ble_eq_true rfl⟩ (fun r_48 e_49 => ?_)
          refine lv_istore (lv' := [(5, .int r_48), (4, .int ov_44), (3, .int r_38), (2, .int (nI q_34)), (1, .int (nI i_1)), (0, .ref rw)]) hx hb dX6_minute_93 hl (by decide) rfl (fun ls hl => ?_)
          refine lv_iload_n hx hb dX6_minute_95 rfl (lv_at hl 2 rfl) ?_
          refine lv_iload hx hb dX6_minute_96 (lv_at hl 1 rfl) ?_
          refine lv_icmp_le (tgt := 106) hx hb dX6_minute_98 (by decide) (fun c_50 => ?_) (fun c_50 => ?_)
          · skip
            refine lv_iload_n hx hb dX6_minute_106 rfl (lv_at hl 2 rfl) ?_
            refine lv_istore_n (lv' := [(3, .int r_38), (5, .int r_48), (4, .int ov_44), (2, .int (nI q_34)), (1, .int (nI i_1)), (0, .ref rw)]) hx hb dX6_minute_107 rfl hl (by decide) rfl (fun ls hl => ?_)
            refine lv_iload_n hx hb dX6_minute_108 rfl (lv_at hl 0 rfl) ?_
            refine lv_iload hx hb dX6_minute_109 (lv_at hl 1 rfl) ?_
            refine lv_icmp_le (tgt := 119) hx hb dX6_minute_111 (by decide) (fun c_51 => ?_) (fun c_51 => ?_)
            · skip
              refine lv_iload_n hx hb dX6_minute_119 rfl (lv_at hl 0 rfl) ?_
              refine lv_istore_n (lv' := [(3, .int r_38), (5, .int r_48), (4, .int ov_44), (2, .int (nI q_34)), (1, .int (nI i_1)), (0, .ref rw)]) hx hb dX6_minute_120 rfl hl (by decide) rfl (fun ls hl => ?_)
              refine lv_iload_n hx hb dX6_minute_121 rfl (lv_at hl 0 rfl) ?_
              refine lv_if_le (tgt := 150) hx hb dX6_minute_122 (by decide) (fun c_52 => ?_) (fun c_52 => ?_)
              · skip
                refine lv_iinc (v := nI (i_1 + 1)) (lv' := [(1, .int (nI (i_1 + 1))), (3, .int r_38), (5, .int r_48), (4, .int ov_44), (2, .int (nI q_34)), (0, .ref rw)]) hx hb dX6_minute_150 hl (k := 4) rfl (nI_add i_1 1) (by decide) rfl (fun ls hl => ?_)
                refine lv_goto (tgt := 2) hx hb dX6_minute_153 (by decide) ?_
                exact ih2 ((i_1 + 1)) f_2 H locs ls (by omega) rk_3 hP hD hS (lv_sub hl [0, 5] rfl)
              · skip
                refine lv_aload_n hx hb dX6_minute_125 rfl (lv_at hl 5 rfl) ?_
                refine lv_iconst (v := 5) hx hb dX6_minute_126 (by decide) ?_
                refine lv_iconst (v := 2) hx hb dX6_minute_127 (by decide) ?_
                refine lv_iload_n hx hb dX6_minute_128 rfl (lv_at hl 3 rfl) ?_
                refine lv_imul hx hb dX6_minute_129 ?_
                refine wt_top (z := nI (2 * q_34)) (pk_mul 2 q_34) ?_
                refine lv_iadd hx hb dX6_minute_130 ?_
                refine wt_top (z := nI (5 + (2 * q_34))) (nI_add 5 (2 * q_34)) ?_
                refine lv_dup2_11 hx hb dX6_minute_131 rfl rfl ?_
                refine va_iald hx hb hK.1 hP 0 0 rfl rfl (vp_in_nI (by omega) (by omega)) dX6_minute_132 ?_
                refine lv_topi (fun ov_53 _ => ?_)
                refine lv_iload_n hx hb dX6_minute_133 rfl (lv_at hl 0 rfl) ?_
                refine lv_isub hx hb dX6_minute_134 ?_
                refine lv_topi (fun ov_54 _ => ?_)
                refine va_iast hx hb hK.1 hP hD hS 0 0 rfl rfl (vp_in_nI (by omega) (by omega)) dX6_minute_135 (fun H locs hP hD hS => ?_)
                have hP : va_P D vwCl [(rw, .inl (cI, 45, .inl (upd f_2 ((nI (5 + (2 * q_34))).toNatClampNeg) ov_54)))] H := hP
                have hD : va_D A [(rw, .inl (cI, 45, .inl (upd f_2 ((nI (5 + (2 * q_34))).toNatClampNeg) ov_54)))] := hD
                have rk_55 : rk R T (upd f_2 ((nI (5 + (2 * q_34))).toNatClampNeg) ov_54) := rk_upd (k := (5 + (2 * q_34))) rk_3 (nI_clamp (by omega)) (by omega) _
                generalize upd f_2 ((nI (5 + (2 * q_34))).toNatClampNeg) ov_54 = rf_56 at hP hD rk_55
                refine lv_aload_n hx hb dX6_minute_136 rfl (lv_at hl 5 rfl) ?_
                refine lv_iload_n hx hb dX6_minute_137 rfl (lv_at hl 4 rfl) ?_
                refine lv_iconst (v := 4) hx hb dX6_minute_138 (by decide) ?_
                refine lv_aload_n hx hb dX6_minute_139 rfl (lv_at hl 5 rfl) ?_
                refine lv_iload_n hx hb dX6_minute_140 rfl (lv_at hl 4 rfl) ?_
                refine lv_iconst (v := 4) hx hb dX6_minute_141 (by decide) ?_
                refine wt_rS (As := [.ref rw, .int (nI i_1), .int 4]) (rest := [.int 4, .int (nI i_1), .ref rw]) ⟨hx, hb, hml, hown, hts⟩ (c_X6_of_w l D cI cZ cH rw R T rf_56 i_1 4 (by first | assumption | omega) (by first | assumption | omega) (by first | assumption | omega) (by first | assumption | omega) (by first | assumption | omega)) (va_cwS 3 hts gX6_minute_X6_of rfl rfl rfl (by decide +kernel) ⟨Nat.le_of_ble_eq_true rfl, Nat.le_of_ble_eq_true rfl⟩) hK hP [0] rfl rfl hl.1 rfl (Nat.le_of_ble_eq_true rfl) dX6_minute_142 ⟨Nat.le_of_ble_eq_true rfl, Nat.le_of_ble_eq_true rfl⟩ (fun r_57 e_58 => ?_)
                refine lv_iload_n hx hb dX6_minute_145 rfl (lv_at hl 0 rfl) ?_
                refine lv_iadd hx hb dX6_minute_146 ?_
                refine lv_topi (fun ov_59 _ => ?_)
                refine wt_goV (wr := []) (wt_runS (As := [.ref rw, .int (nI i_1), .int 4, .int ov_59]) (rest := []) ⟨hx, hb, hml, hown, hts⟩ (c_X6_be_w l D cI cZ cH rw R T rf_56 i_1 4 ov_59 (by first | assumption | omega) (by first | assumption | omega) (by first | assumption | omega) (by first | assumption | omega) (by first | assumption | omega)) (va_cwS 4 hts gX6_minute_X6_be rfl rfl rfl (by decide +kernel) ⟨Nat.le_of_ble_eq_true rfl, Nat.le_of_ble_eq_true rfl⟩) hK hP hD [0] rfl (by decide) rfl hl.1 rfl (Nat.le_of_ble_eq_true rfl) dX6_minute_147 ⟨Nat.le_of_ble_eq_true rfl, Nat.le_of_ble_eq_true rfl⟩) hP hD hS hA [0] [] rfl rfl (by decide) (by decide) (fun w_61 H locs h_62 hP hD hS => ?_)
                obtain ⟨f2_63, rfl, x_64⟩ := h_62
                have hP : va_P D vwCl [(rw, .inl (cI, 45, .inl f2_63))] H := hP
                have hD : va_D A [(rw, .inl (cI, 45, .inl f2_63))] := hD
                refine lv_iinc (v := nI (i_1 + 1)) (lv' := [(1, .int (nI (i_1 + 1))), (3, .int r_38), (5, .int r_48), (4, .int ov_44), (2, .int (nI q_34)), (0, .ref rw)]) hx hb dX6_minute_150 hl (k := 4) rfl (nI_add i_1 1) (by decide) rfl (fun ls hl => ?_)
                refine lv_goto (tgt := 2) hx hb dX6_minute_153 (by decide) ?_
                exact ih2 ((i_1 + 1)) f2_63 H locs ls (by omega) x_64 hP hD hS (lv_sub hl [0, 5] rfl)
            · skip
              refine lv_iload hx hb dX6_minute_114 (lv_at hl 1 rfl) ?_
              refine lv_goto (tgt := 120) hx hb dX6_minute_116 (by decide) ?_
              refine lv_istore_n (lv' := [(3, .int r_48), (5, .int r_48), (4, .int ov_44), (2, .int (nI q_34)), (1, .int (nI i_1)), (0, .ref rw)]) hx hb dX6_minute_120 rfl hl (by decide) rfl (fun ls hl => ?_)
              refine lv_iload_n hx hb dX6_minute_121 rfl (lv_at hl 0 rfl) ?_
              refine lv_if_le (tgt := 150) hx hb dX6_minute_122 (by decide) (fun c_65 => ?_) (fun c_65 => ?_)
              · skip
                refine lv_iinc (v := nI (i_1 + 1)) (lv' := [(1, .int (nI (i_1 + 1))), (3, .int r_48), (5, .int r_48), (4, .int ov_44), (2, .int (nI q_34)), (0, .ref rw)]) hx hb dX6_minute_150 hl (k := 4) rfl (nI_add i_1 1) (by decide) rfl (fun ls hl => ?_)
                refine lv_goto (tgt := 2) hx hb dX6_minute_153 (by decide) ?_
                exact ih2 ((i_1 + 1)) f_2 H locs ls (by omega) rk_3 hP hD hS (lv_sub hl [0, 5] rfl)
              · skip
                refine lv_aload_n hx hb dX6_minute_125 rfl (lv_at hl 5 rfl) ?_
                refine lv_iconst (v := 5) hx hb dX6_minute_126 (by decide) ?_
                refine lv_iconst (v := 2) hx hb dX6_minute_127 (by decide) ?_
                refine lv_iload_n hx hb dX6_minute_128 rfl (lv_at hl 3 rfl) ?_
                refine lv_imul hx hb dX6_minute_129 ?_
                refine wt_top (z := nI (2 * q_34)) (pk_mul 2 q_34) ?_
                refine lv_iadd hx hb dX6_minute_130 ?_
                refine wt_top (z := nI (5 + (2 * q_34))) (nI_add 5 (2 * q_34)) ?_
                refine lv_dup2_11 hx hb dX6_minute_131 rfl rfl ?_
                refine va_iald hx hb hK.1 hP 0 0 rfl rfl (vp_in_nI (by omega) (by omega)) dX6_minute_132 ?_
                refine lv_topi (fun ov_66 _ => ?_)
                refine lv_iload_n hx hb dX6_minute_133 rfl (lv_at hl 0 rfl) ?_
                refine lv_isub hx hb dX6_minute_134 ?_
                refine lv_topi (fun ov_67 _ => ?_)
                refine va_iast hx hb hK.1 hP hD hS 0 0 rfl rfl (vp_in_nI (by omega) (by omega)) dX6_minute_135 (fun H locs hP hD hS => ?_)
                have hP : va_P D vwCl [(rw, .inl (cI, 45, .inl (upd f_2 ((nI (5 + (2 * q_34))).toNatClampNeg) ov_67)))] H := hP
                have hD : va_D A [(rw, .inl (cI, 45, .inl (upd f_2 ((nI (5 + (2 * q_34))).toNatClampNeg) ov_67)))] := hD
                have rk_68 : rk R T (upd f_2 ((nI (5 + (2 * q_34))).toNatClampNeg) ov_67) := rk_upd (k := (5 + (2 * q_34))) rk_3 (nI_clamp (by omega)) (by omega) _
                generalize upd f_2 ((nI (5 + (2 * q_34))).toNatClampNeg) ov_67 = rf_69 at hP hD rk_68
                refine lv_aload_n hx hb dX6_minute_136 rfl (lv_at hl 5 rfl) ?_
                refine lv_iload_n hx hb dX6_minute_137 rfl (lv_at hl 4 rfl) ?_
                refine lv_iconst (v := 4) hx hb dX6_minute_138 (by decide) ?_
                refine lv_aload_n hx hb dX6_minute_139 rfl (lv_at hl 5 rfl) ?_
                refine lv_iload_n hx hb dX6_minute_140 rfl (lv_at hl 4 rfl) ?_
                refine lv_iconst (v := 4) hx hb dX6_minute_141 (by decide) ?_
                refine wt_rS (As := [.ref rw, .int (nI i_1), .int 4]) (rest := [.int 4, .int (nI i_1), .ref rw]) ⟨hx, hb, hml, hown, hts⟩ (c_X6_of_w l D cI cZ cH rw R T rf_69 i_1 4 (by first | assumption | omega) (by first | assumption | omega) (by first | assumption | omega) (by first | assumption | omega) (by first | assumption | omega)) (va_cwS 3 hts gX6_minute_X6_of rfl rfl rfl (by decide +kernel) ⟨Nat.le_of_ble_eq_true rfl, Nat.le_of_ble_eq_true rfl⟩) hK hP [0] rfl rfl hl.1 rfl (Nat.le_of_ble_eq_true rfl) dX6_minute_142 ⟨Nat.le_of_ble_eq_true rfl, Nat.le_of_ble_eq_true rfl⟩ (fun r_70 e_71 => ?_)
                refine lv_iload_n hx hb dX6_minute_145 rfl (lv_at hl 0 rfl) ?_
                refine lv_iadd hx hb dX6_minute_146 ?_
                refine lv_topi (fun ov_72 _ => ?_)
                refine wt_goV (wr := []) (wt_runS (As := [.ref rw, .int (nI i_1), .int 4, .int ov_72]) (rest := []) ⟨hx, hb, hml, hown, hts⟩ (c_X6_be_w l D cI cZ cH rw R T rf_69 i_1 4 ov_72 (by first | assumption | omega) (by first | assumption | omega) (by first | assumption | omega) (by first | assumption | omega) (by first | assumption | omega)) (va_cwS 4 hts gX6_minute_X6_be rfl rfl rfl (by decide +kernel) ⟨Nat.le_of_ble_eq_true rfl, Nat.le_of_ble_eq_true rfl⟩) hK hP hD [0] rfl (by decide) rfl hl.1 rfl (Nat.le_of_ble_eq_true rfl) dX6_minute_147 ⟨Nat.le_of_ble_eq_true rfl, Nat.le_of_ble_eq_true rfl⟩) hP hD hS hA [0] [] rfl rfl (by decide) (by decide) (fun w_74 H locs h_75 hP hD hS => ?_)
                obtain ⟨f2_76, rfl, x_77⟩ := h_75
                have hP : va_P D vwCl [(rw, .inl (cI, 45, .inl f2_76))] H := hP
                have hD : va_D A [(rw, .inl (cI, 45, .inl f2_76))] := hD
                refine lv_iinc (v := nI (i_1 + 1)) (lv' := [(1, .int (nI (i_1 + 1))), (3, .int r_48), (5, .int r_48), (4, .int ov_44), (2, .int (nI q_34)), (0, .ref rw)]) hx hb dX6_minute_150 hl (k := 4) rfl (nI_add i_1 1) (by decide) rfl (fun ls hl => ?_)
                refine lv_goto (tgt := 2) hx hb dX6_minute_153 (by decide) ?_
                exact ih2 ((i_1 + 1)) f2_76 H locs ls (by omega) x_77 hP hD hS (lv_sub hl [0, 5] rfl)
          · skip
            refine lv_iload hx hb dX6_minute_101 (lv_at hl 1 rfl) ?_
            refine lv_goto (tgt := 107) hx hb dX6_minute_103 (by decide) ?_
            refine lv_istore_n (lv' := [(3, .int ov_44), (5, .int r_48), (4, .int ov_44), (2, .int (nI q_34)), (1, .int (nI i_1)), (0, .ref rw)]) hx hb dX6_minute_107 rfl hl (by decide) rfl (fun ls hl => ?_)
            refine lv_iload_n hx hb dX6_minute_108 rfl (lv_at hl 0 rfl) ?_
            refine lv_iload hx hb dX6_minute_109 (lv_at hl 1 rfl) ?_
            refine lv_icmp_le (tgt := 119) hx hb dX6_minute_111 (by decide) (fun c_78 => ?_) (fun c_78 => ?_)
            · skip
              refine lv_iload_n hx hb dX6_minute_119 rfl (lv_at hl 0 rfl) ?_
              refine lv_istore_n (lv' := [(3, .int ov_44), (5, .int r_48), (4, .int ov_44), (2, .int (nI q_34)), (1, .int (nI i_1)), (0, .ref rw)]) hx hb dX6_minute_120 rfl hl (by decide) rfl (fun ls hl => ?_)
              refine lv_iload_n hx hb dX6_minute_121 rfl (lv_at hl 0 rfl) ?_
              refine lv_if_le (tgt := 150) hx hb dX6_minute_122 (by decide) (fun c_79 => ?_) (fun c_79 => ?_)
              · skip
                refine lv_iinc (v := nI (i_1 + 1)) (lv' := [(1, .int (nI (i_1 + 1))), (3, .int ov_44), (5, .int r_48), (4, .int ov_44), (2, .int (nI q_34)), (0, .ref rw)]) hx hb dX6_minute_150 hl (k := 4) rfl (nI_add i_1 1) (by decide) rfl (fun ls hl => ?_)
                refine lv_goto (tgt := 2) hx hb dX6_minute_153 (by decide) ?_
                exact ih2 ((i_1 + 1)) f_2 H locs ls (by omega) rk_3 hP hD hS (lv_sub hl [0, 5] rfl)
              · skip
                refine lv_aload_n hx hb dX6_minute_125 rfl (lv_at hl 5 rfl) ?_
                refine lv_iconst (v := 5) hx hb dX6_minute_126 (by decide) ?_
                refine lv_iconst (v := 2) hx hb dX6_minute_127 (by decide) ?_
                refine lv_iload_n hx hb dX6_minute_128 rfl (lv_at hl 3 rfl) ?_
                refine lv_imul hx hb dX6_minute_129 ?_
                refine wt_top (z := nI (2 * q_34)) (pk_mul 2 q_34) ?_
                refine lv_iadd hx hb dX6_minute_130 ?_
                refine wt_top (z := nI (5 + (2 * q_34))) (nI_add 5 (2 * q_34)) ?_
                refine lv_dup2_11 hx hb dX6_minute_131 rfl rfl ?_
                refine va_iald hx hb hK.1 hP 0 0 rfl rfl (vp_in_nI (by omega) (by omega)) dX6_minute_132 ?_
                refine lv_topi (fun ov_80 _ => ?_)
                refine lv_iload_n hx hb dX6_minute_133 rfl (lv_at hl 0 rfl) ?_
                refine lv_isub hx hb dX6_minute_134 ?_
                refine lv_topi (fun ov_81 _ => ?_)
                refine va_iast hx hb hK.1 hP hD hS 0 0 rfl rfl (vp_in_nI (by omega) (by omega)) dX6_minute_135 (fun H locs hP hD hS => ?_)
                have hP : va_P D vwCl [(rw, .inl (cI, 45, .inl (upd f_2 ((nI (5 + (2 * q_34))).toNatClampNeg) ov_81)))] H := hP
                have hD : va_D A [(rw, .inl (cI, 45, .inl (upd f_2 ((nI (5 + (2 * q_34))).toNatClampNeg) ov_81)))] := hD
                have rk_82 : rk R T (upd f_2 ((nI (5 + (2 * q_34))).toNatClampNeg) ov_81) := rk_upd (k := (5 + (2 * q_34))) rk_3 (nI_clamp (by omega)) (by omega) _
                generalize upd f_2 ((nI (5 + (2 * q_34))).toNatClampNeg) ov_81 = rf_83 at hP hD rk_82
                refine lv_aload_n hx hb dX6_minute_136 rfl (lv_at hl 5 rfl) ?_
                refine lv_iload_n hx hb dX6_minute_137 rfl (lv_at hl 4 rfl) ?_
                refine lv_iconst (v := 4) hx hb dX6_minute_138 (by decide) ?_
                refine lv_aload_n hx hb dX6_minute_139 rfl (lv_at hl 5 rfl) ?_
                refine lv_iload_n hx hb dX6_minute_140 rfl (lv_at hl 4 rfl) ?_
                refine lv_iconst (v := 4) hx hb dX6_minute_141 (by decide) ?_
                refine wt_rS (As := [.ref rw, .int (nI i_1), .int 4]) (rest := [.int 4, .int (nI i_1), .ref rw]) ⟨hx, hb, hml, hown, hts⟩ (c_X6_of_w l D cI cZ cH rw R T rf_83 i_1 4 (by first | assumption | omega) (by first | assumption | omega) (by first | assumption | omega) (by first | assumption | omega) (by first | assumption | omega)) (va_cwS 3 hts gX6_minute_X6_of rfl rfl rfl (by decide +kernel) ⟨Nat.le_of_ble_eq_true rfl, Nat.le_of_ble_eq_true rfl⟩) hK hP [0] rfl rfl hl.1 rfl (Nat.le_of_ble_eq_true rfl) dX6_minute_142 ⟨Nat.le_of_ble_eq_true rfl, Nat.le_of_ble_eq_true rfl⟩ (fun r_84 e_85 => ?_)
                refine lv_iload_n hx hb dX6_minute_145 rfl (lv_at hl 0 rfl) ?_
                refine lv_iadd hx hb dX6_minute_146 ?_
                refine lv_topi (fun ov_86 _ => ?_)
                refine wt_goV (wr := []) (wt_runS (As := [.ref rw, .int (nI i_1), .int 4, .int ov_86]) (rest := []) ⟨hx, hb, hml, hown, hts⟩ (c_X6_be_w l D cI cZ cH rw R T rf_83 i_1 4 ov_86 (by first | assumption | omega) (by first | assumption | omega) (by first | assumption | omega) (by first | assumption | omega) (by first | assumption | omega)) (va_cwS 4 hts gX6_minute_X6_be rfl rfl rfl (by decide +kernel) ⟨Nat.le_of_ble_eq_true rfl, Nat.le_of_ble_eq_true rfl⟩) hK hP hD [0] rfl (by decide) rfl hl.1 rfl (Nat.le_of_ble_eq_true rfl) dX6_minute_147 ⟨Nat.le_of_ble_eq_true rfl, Nat.le_of_ble_eq_true rfl⟩) hP hD hS hA [0] [] rfl rfl (by decide) (by decide) (fun w_88 H locs h_89 hP hD hS => ?_)
                obtain ⟨f2_90, rfl, x_91⟩ := h_89
                have hP : va_P D vwCl [(rw, .inl (cI, 45, .inl f2_90))] H := hP
                have hD : va_D A [(rw, .inl (cI, 45, .inl f2_90))] := hD
                refine lv_iinc (v := nI (i_1 + 1)) (lv' := [(1, .int (nI (i_1 + 1))), (3, .int ov_44), (5, .int r_48), (4, .int ov_44), (2, .int (nI q_34)), (0, .ref rw)]) hx hb dX6_minute_150 hl (k := 4) rfl (nI_add i_1 1) (by decide) rfl (fun ls hl => ?_)
                refine lv_goto (tgt := 2) hx hb dX6_minute_153 (by decide) ?_
                exact ih2 ((i_1 + 1)) f2_90 H locs ls (by omega) x_91 hP hD hS (lv_sub hl [0, 5] rfl)
            · skip
              refine lv_iload hx hb dX6_minute_114 (lv_at hl 1 rfl) ?_
              refine lv_goto (tgt := 120) hx hb dX6_minute_116 (by decide) ?_
              refine lv_istore_n (lv' := [(3, .int r_48), (5, .int r_48), (4, .int ov_44), (2, .int (nI q_34)), (1, .int (nI i_1)), (0, .ref rw)]) hx hb dX6_minute_120 rfl hl (by decide) rfl (fun ls hl => ?_)
              refine lv_iload_n hx hb dX6_minute_121 rfl (lv_at hl 0 rfl) ?_
              refine lv_if_le (tgt := 150) hx hb dX6_minute_122 (by decide) (fun c_92 => ?_) (fun c_92 => ?_)
              · skip
                refine lv_iinc (v := nI (i_1 + 1)) (lv' := [(1, .int (nI (i_1 + 1))), (3, .int r_48), (5, .int r_48), (4, .int ov_44), (2, .int (nI q_34)), (0, .ref rw)]) hx hb dX6_minute_150 hl (k := 4) rfl (nI_add i_1 1) (by decide) rfl (fun ls hl => ?_)
                refine lv_goto (tgt := 2) hx hb dX6_minute_153 (by decide) ?_
                exact ih2 ((i_1 + 1)) f_2 H locs ls (by omega) rk_3 hP hD hS (lv_sub hl [0, 5] rfl)
              · skip
                refine lv_aload_n hx hb dX6_minute_125 rfl (lv_at hl 5 rfl) ?_
                refine lv_iconst (v := 5) hx hb dX6_minute_126 (by decide) ?_
                refine lv_iconst (v := 2) hx hb dX6_minute_127 (by decide) ?_
                refine lv_iload_n hx hb dX6_minute_128 rfl (lv_at hl 3 rfl) ?_
                refine lv_imul hx hb dX6_minute_129 ?_
                refine wt_top (z := nI (2 * q_34)) (pk_mul 2 q_34) ?_
                refine lv_iadd hx hb dX6_minute_130 ?_
                refine wt_top (z := nI (5 + (2 * q_34))) (nI_add 5 (2 * q_34)) ?_
                refine lv_dup2_11 hx hb dX6_minute_131 rfl rfl ?_
                refine va_iald hx hb hK.1 hP 0 0 rfl rfl (vp_in_nI (by omega) (by omega)) dX6_minute_132 ?_
                refine lv_topi (fun ov_93 _ => ?_)
                refine lv_iload_n hx hb dX6_minute_133 rfl (lv_at hl 0 rfl) ?_
                refine lv_isub hx hb dX6_minute_134 ?_
                refine lv_topi (fun ov_94 _ => ?_)
                refine va_iast hx hb hK.1 hP hD hS 0 0 rfl rfl (vp_in_nI (by omega) (by omega)) dX6_minute_135 (fun H locs hP hD hS => ?_)
                have hP : va_P D vwCl [(rw, .inl (cI, 45, .inl (upd f_2 ((nI (5 + (2 * q_34))).toNatClampNeg) ov_94)))] H := hP
                have hD : va_D A [(rw, .inl (cI, 45, .inl (upd f_2 ((nI (5 + (2 * q_34))).toNatClampNeg) ov_94)))] := hD
                have rk_95 : rk R T (upd f_2 ((nI (5 + (2 * q_34))).toNatClampNeg) ov_94) := rk_upd (k := (5 + (2 * q_34))) rk_3 (nI_clamp (by omega)) (by omega) _
                generalize upd f_2 ((nI (5 + (2 * q_34))).toNatClampNeg) ov_94 = rf_96 at hP hD rk_95
                refine lv_aload_n hx hb dX6_minute_136 rfl (lv_at hl 5 rfl) ?_
                refine lv_iload_n hx hb dX6_minute_137 rfl (lv_at hl 4 rfl) ?_
                refine lv_iconst (v := 4) hx hb dX6_minute_138 (by decide) ?_
                refine lv_aload_n hx hb dX6_minute_139 rfl (lv_at hl 5 rfl) ?_
                refine lv_iload_n hx hb dX6_minute_140 rfl (lv_at hl 4 rfl) ?_
                refine lv_iconst (v := 4) hx hb dX6_minute_141 (by decide) ?_
                refine wt_rS (As := [.ref rw, .int (nI i_1), .int 4]) (rest := [.int 4, .int (nI i_1), .ref rw]) ⟨hx, hb, hml, hown, hts⟩ (c_X6_of_w l D cI cZ cH rw R T rf_96 i_1 4 (by first | assumption | omega) (by first | assumption | omega) (by first | assumption | omega) (by first | assumption | omega) (by first | assumption | omega)) (va_cwS 3 hts gX6_minute_X6_of rfl rfl rfl (by decide +kernel) ⟨Nat.le_of_ble_eq_true rfl, Nat.le_of_ble_eq_true rfl⟩) hK hP [0] rfl rfl hl.1 rfl (Nat.le_of_ble_eq_true rfl) dX6_minute_142 ⟨Nat.le_of_ble_eq_true rfl, Nat.le_of_ble_eq_true rfl⟩ (fun r_97 e_98 => ?_)
                refine lv_iload_n hx hb dX6_minute_145 rfl (lv_at hl 0 rfl) ?_
                refine lv_iadd hx hb dX6_minute_146 ?_
                refine lv_topi (fun ov_99 _ => ?_)
                refine wt_goV (wr := []) (wt_runS (As := [.ref rw, .int (nI i_1), .int 4, .int ov_99]) (rest := []) ⟨hx, hb, hml, hown, hts⟩ (c_X6_be_w l D cI cZ cH rw R T rf_96 i_1 4 ov_99 (by first | assumption | omega) (by first | assumption | omega) (by first | assumption | omega) (by first | assumption | omega) (by first | assumption | omega)) (va_cwS 4 hts gX6_minute_X6_be rfl rfl rfl (by decide +kernel) ⟨Nat.le_of_ble_eq_true rfl, Nat.le_of_ble_eq_true rfl⟩) hK hP hD [0] rfl (by decide) rfl hl.1 rfl (Nat.le_of_ble_eq_true rfl) dX6_minute_147 ⟨Nat.le_of_ble_eq_true rfl, Nat.le_of_ble_eq_true rfl⟩) hP hD hS hA [0] [] rfl rfl (by decide) (by decide) (fun w_101 H locs h_102 hP hD hS => ?_)
                obtain ⟨f2_103, rfl, x_104⟩ := h_102
                have hP : va_P D vwCl [(rw, .inl (cI, 45, .inl f2_103))] H := hP
                have hD : va_D A [(rw, .inl (cI, 45, .inl f2_103))] := hD
                refine lv_iinc (v := nI (i_1 + 1)) (lv' := [(1, .int (nI (i_1 + 1))), (3, .int r_48), (5, .int r_48), (4, .int ov_44), (2, .int (nI q_34)), (0, .ref rw)]) hx hb dX6_minute_150 hl (k := 4) rfl (nI_add i_1 1) (by decide) rfl (fun ls hl => ?_)
                refine lv_goto (tgt := 2) hx hb dX6_minute_153 (by decide) ?_
                exact ih2 ((i_1 + 1)) f2_103 H locs ls (by omega) x_104 hP hD hS (lv_sub hl [0, 5] rfl)
        · skip
          refine lv_iconst (v := 0) hx hb dX6_minute_84 (by decide) ?_
          refine lv_goto (tgt := 93) hx hb dX6_minute_85 (by decide) ?_
          refine lv_istore (lv' := [(5, .int 0), (4, .int ov_44), (3, .int r_38), (2, .int (nI q_34)), (1, .int (nI i_1)), (0, .ref rw)]) hx hb dX6_minute_93 hl (by decide) rfl (fun ls hl => ?_)
          refine lv_iload_n hx hb dX6_minute_95 rfl (lv_at hl 2 rfl) ?_
          refine lv_iload hx hb dX6_minute_96 (lv_at hl 1 rfl) ?_
          refine lv_icmp_le (tgt := 106) hx hb dX6_minute_98 (by decide) (fun c_105 => ?_) (fun c_105 => ?_)
          · skip
            refine lv_iload_n hx hb dX6_minute_106 rfl (lv_at hl 2 rfl) ?_
            refine lv_istore_n (lv' := [(3, .int r_38), (5, .int 0), (4, .int ov_44), (2, .int (nI q_34)), (1, .int (nI i_1)), (0, .ref rw)]) hx hb dX6_minute_107 rfl hl (by decide) rfl (fun ls hl => ?_)
            refine lv_iload_n hx hb dX6_minute_108 rfl (lv_at hl 0 rfl) ?_
            refine lv_iload hx hb dX6_minute_109 (lv_at hl 1 rfl) ?_
            refine lv_icmp_le (tgt := 119) hx hb dX6_minute_111 (by decide) (fun c_106 => ?_) (fun c_106 => ?_)
            · skip
              refine lv_iload_n hx hb dX6_minute_119 rfl (lv_at hl 0 rfl) ?_
              refine lv_istore_n (lv' := [(3, .int r_38), (5, .int 0), (4, .int ov_44), (2, .int (nI q_34)), (1, .int (nI i_1)), (0, .ref rw)]) hx hb dX6_minute_120 rfl hl (by decide) rfl (fun ls hl => ?_)
              refine lv_iload_n hx hb dX6_minute_121 rfl (lv_at hl 0 rfl) ?_
              refine lv_if_le (tgt := 150) hx hb dX6_minute_122 (by decide) (fun _ => ?_) (fun h => absurd c_106 h)
              refine lv_iinc (v := nI (i_1 + 1)) (lv' := [(1, .int (nI (i_1 + 1))), (3, .int r_38), (5, .int 0), (4, .int ov_44), (2, .int (nI q_34)), (0, .ref rw)]) hx hb dX6_minute_150 hl (k := 4) rfl (nI_add i_1 1) (by decide) rfl (fun ls hl => ?_)
              refine lv_goto (tgt := 2) hx hb dX6_minute_153 (by decide) ?_
              exact ih2 ((i_1 + 1)) f_2 H locs ls (by omega) rk_3 hP hD hS (lv_sub hl [0, 5] rfl)
            · skip
              refine lv_iload hx hb dX6_minute_114 (lv_at hl 1 rfl) ?_
              refine lv_goto (tgt := 120) hx hb dX6_minute_116 (by decide) ?_
              refine lv_istore_n (lv' := [(3, .int 0), (5, .int 0), (4, .int ov_44), (2, .int (nI q_34)), (1, .int (nI i_1)), (0, .ref rw)]) hx hb dX6_minute_120 rfl hl (by decide) rfl (fun ls hl => ?_)
              refine lv_iload_n hx hb dX6_minute_121 rfl (lv_at hl 0 rfl) ?_
              refine lv_if_le (tgt := 150) hx hb dX6_minute_122 (by decide) (fun _ => ?_) (fun h => absurd h (by decide))
              refine lv_iinc (v := nI (i_1 + 1)) (lv' := [(1, .int (nI (i_1 + 1))), (3, .int 0), (5, .int 0), (4, .int ov_44), (2, .int (nI q_34)), (0, .ref rw)]) hx hb dX6_minute_150 hl (k := 4) rfl (nI_add i_1 1) (by decide) rfl (fun ls hl => ?_)
              refine lv_goto (tgt := 2) hx hb dX6_minute_153 (by decide) ?_
              exact ih2 ((i_1 + 1)) f_2 H locs ls (by omega) rk_3 hP hD hS (lv_sub hl [0, 5] rfl)
          · skip
            refine lv_iload hx hb dX6_minute_101 (lv_at hl 1 rfl) ?_
            refine lv_goto (tgt := 107) hx hb dX6_minute_103 (by decide) ?_
            refine lv_istore_n (lv' := [(3, .int ov_44), (5, .int 0), (4, .int ov_44), (2, .int (nI q_34)), (1, .int (nI i_1)), (0, .ref rw)]) hx hb dX6_minute_107 rfl hl (by decide) rfl (fun ls hl => ?_)
            refine lv_iload_n hx hb dX6_minute_108 rfl (lv_at hl 0 rfl) ?_
            refine lv_iload hx hb dX6_minute_109 (lv_at hl 1 rfl) ?_
            refine lv_icmp_le (tgt := 119) hx hb dX6_minute_111 (by decide) (fun c_107 => ?_) (fun c_107 => ?_)
            · skip
              refine lv_iload_n hx hb dX6_minute_119 rfl (lv_at hl 0 rfl) ?_
              refine lv_istore_n (lv' := [(3, .int ov_44), (5, .int 0), (4, .int ov_44), (2, .int (nI q_34)), (1, .int (nI i_1)), (0, .ref rw)]) hx hb dX6_minute_120 rfl hl (by decide) rfl (fun ls hl => ?_)
              refine lv_iload_n hx hb dX6_minute_121 rfl (lv_at hl 0 rfl) ?_
              refine lv_if_le (tgt := 150) hx hb dX6_minute_122 (by decide) (fun _ => ?_) (fun h => absurd c_107 h)
              refine lv_iinc (v := nI (i_1 + 1)) (lv' := [(1, .int (nI (i_1 + 1))), (3, .int ov_44), (5, .int 0), (4, .int ov_44), (2, .int (nI q_34)), (0, .ref rw)]) hx hb dX6_minute_150 hl (k := 4) rfl (nI_add i_1 1) (by decide) rfl (fun ls hl => ?_)
              refine lv_goto (tgt := 2) hx hb dX6_minute_153 (by decide) ?_
              exact ih2 ((i_1 + 1)) f_2 H locs ls (by omega) rk_3 hP hD hS (lv_sub hl [0, 5] rfl)
            · skip
              refine lv_iload hx hb dX6_minute_114 (lv_at hl 1 rfl) ?_
              refine lv_goto (tgt := 120) hx hb dX6_minute_116 (by decide) ?_
              refine lv_istore_n (lv' := [(3, .int 0), (5, .int 0), (4, .int ov_44), (2, .int (nI q_34)), (1, .int (nI i_1)), (0, .ref rw)]) hx hb dX6_minute_120 rfl hl (by decide) rfl (fun ls hl => ?_)
              refine lv_iload_n hx hb dX6_minute_121 rfl (lv_at hl 0 rfl) ?_
              refine lv_if_le (tgt := 150) hx hb dX6_minute_122 (by decide) (fun _ => ?_) (fun h => absurd h (by decide))
              refine lv_iinc (v := nI (i_1 + 1)) (lv' := [(1, .int (nI (i_1 + 1))), (3, .int 0), (5, .int 0), (4, .int ov_44), (2, .int (nI q_34)), (0, .ref rw)]) hx hb dX6_minute_150 hl (k := 4) rfl (nI_add i_1 1) (by decide) rfl (fun ls hl => ?_)
              refine lv_goto (tgt := 2) hx hb dX6_minute_153 (by decide) ?_
              exact ih2 ((i_1 + 1)) f_2 H locs ls (by omega) rk_3 hP hD hS (lv_sub hl [0, 5] rfl)
      · skip
        refine lv_aload_n hx hb dX6_minute_26 rfl (lv_at hl 2 rfl) ?_
        refine lv_iload_n hx hb dX6_minute_27 rfl (lv_at hl 1 rfl) ?_
        refine lv_iconst (v := 4) hx hb dX6_minute_28 (by decide) ?_
        refine wt_rS (As := [.ref rw, .int (nI i_1), .int 4]) (rest := []) ⟨hx, hb, hml, hown, hts⟩ (c_X6_of_w l D cI cZ cH rw R T f_2 i_1 4 (by first | assumption | omega) (by first | assumption | omega) (by first | assumption | omega) (by first | assumption | omega) (by first | assumption | omega)) (va_cwS 3 hts gX6_minute_X6_of rfl rfl rfl (by decide +kernel) ⟨Nat.le_of_ble_eq_true rfl, Nat.le_of_ble_eq_true rfl⟩) hK hP [0] rfl rfl hl.1 rfl (Nat.le_of_ble_eq_true rfl) dX6_minute_29 ⟨Nat.le_of_ble_eq_true rfl, Nat.le_of_ble_eq_true rfl⟩ (fun r_108 e_109 => ?_)
        refine lv_if_le (tgt := 55) hx hb dX6_minute_32 (by decide) (fun c_110 => ?_) (fun c_110 => ?_)
        · skip
          refine lv_aload_n hx hb dX6_minute_55 rfl (lv_at hl 2 rfl) ?_
          refine lv_iload_n hx hb dX6_minute_56 rfl (lv_at hl 1 rfl) ?_
          refine wt_rS (As := [.ref rw, .int (nI i_1)]) (rest := []) ⟨hx, hb, hml, hown, hts⟩ (c_X6_wants l D cI cZ cH rw R T f_2 i_1 (by first | assumption | omega) (by first | assumption | omega) (by first | assumption | omega) (by first | assumption | omega)) (va_cwS 2 hts gX6_minute_X6_wants rfl rfl rfl (by decide +kernel) ⟨Nat.le_of_ble_eq_true rfl, Nat.le_of_ble_eq_true rfl⟩) hK hP [0] rfl rfl hl.1 rfl (Nat.le_of_ble_eq_true rfl) dX6_minute_57 ⟨Nat.le_of_ble_eq_true rfl, Nat.le_of_ble_eq_true rfl⟩ (fun r_111 e_112 => ?_)
          refine lv_istore_n (lv' := [(3, .int r_111), (2, .int (nI q_34)), (1, .int (nI i_1)), (0, .ref rw)]) hx hb dX6_minute_60 rfl hl (by decide) rfl (fun ls hl => ?_)
          refine lv_aload_n hx hb dX6_minute_61 rfl (lv_at hl 3 rfl) ?_
          refine lv_iload_n hx hb dX6_minute_62 rfl (lv_at hl 2 rfl) ?_
          refine lv_iconst (v := 3) hx hb dX6_minute_63 (by decide) ?_
          refine wt_rS (As := [.ref rw, .int (nI i_1), .int 3]) (rest := []) ⟨hx, hb, hml, hown, hts⟩ (c_X6_of_w l D cI cZ cH rw R T f_2 i_1 3 (by first | assumption | omega) (by first | assumption | omega) (by first | assumption | omega) (by first | assumption | omega) (by first | assumption | omega)) (va_cwS 3 hts gX6_minute_X6_of rfl rfl rfl (by decide +kernel) ⟨Nat.le_of_ble_eq_true rfl, Nat.le_of_ble_eq_true rfl⟩) hK hP [0] rfl rfl hl.1 rfl (Nat.le_of_ble_eq_true rfl) dX6_minute_64 ⟨Nat.le_of_ble_eq_true rfl, Nat.le_of_ble_eq_true rfl⟩ (fun r_113 e_114 => ?_)
          refine lv_aload_n hx hb dX6_minute_67 rfl (lv_at hl 3 rfl) ?_
          refine lv_iload_n hx hb dX6_minute_68 rfl (lv_at hl 2 rfl) ?_
          refine lv_iconst (v := 4) hx hb dX6_minute_69 (by decide) ?_
          refine wt_rS (As := [.ref rw, .int (nI i_1), .int 4]) (rest := [.int r_113]) ⟨hx, hb, hml, hown, hts⟩ (c_X6_of_w l D cI cZ cH rw R T f_2 i_1 4 (by first | assumption | omega) (by first | assumption | omega) (by first | assumption | omega) (by first | assumption | omega) (by first | assumption | omega)) (va_cwS 3 hts gX6_minute_X6_of rfl rfl rfl (by decide +kernel) ⟨Nat.le_of_ble_eq_true rfl, Nat.le_of_ble_eq_true rfl⟩) hK hP [0] rfl rfl hl.1 rfl (Nat.le_of_ble_eq_true rfl) dX6_minute_70 ⟨Nat.le_of_ble_eq_true rfl, Nat.le_of_ble_eq_true rfl⟩ (fun r_115 e_116 => ?_)
          refine lv_isub hx hb dX6_minute_73 ?_
          refine lv_topi (fun ov_117 _ => ?_)
          refine lv_istore (lv' := [(4, .int ov_117), (3, .int r_111), (2, .int (nI q_34)), (1, .int (nI i_1)), (0, .ref rw)]) hx hb dX6_minute_74 hl (by decide) rfl (fun ls hl => ?_)
          refine lv_aload_n hx hb dX6_minute_76 rfl (lv_at hl 4 rfl) ?_
          refine lv_iload_n hx hb dX6_minute_77 rfl (lv_at hl 3 rfl) ?_
          refine wt_rS (As := [.ref rw, .int (nI i_1)]) (rest := []) ⟨hx, hb, hml, hown, hts⟩ (c_X6_isOut l D cI cZ cH rw R T f_2 i_1 (by first | assumption | omega) (by first | assumption | omega) (by first | assumption | omega) (by first | assumption | omega)) (va_cwS 2 hts gX6_minute_X6_isOut rfl rfl rfl (by decide +kernel) ⟨Nat.le_of_ble_eq_true rfl, Nat.le_of_ble_eq_true rfl⟩) hK hP [0] rfl rfl hl.1 rfl (Nat.le_of_ble_eq_true rfl) dX6_minute_78 ⟨Nat.le_of_ble_eq_true rfl, Nat.le_of_ble_eq_true rfl⟩ (fun r_118 e_119 => ?_)
          refine lv_if_eq (tgt := 88) hx hb dX6_minute_81 (by decide) (fun c_120 => ?_) (fun c_120 => ?_)
          · skip
            refine lv_aload_n hx hb dX6_minute_88 rfl (lv_at hl 4 rfl) ?_
            refine lv_iload_n hx hb dX6_minute_89 rfl (lv_at hl 2 rfl) ?_
            refine wt_rS (As := [.ref rw, .int (nI q_34)]) (rest := []) ⟨hx, hb, hml, hown, hts⟩ (c_X6_warmth l D cI cZ cH rw R T f_2 q_34 (by first | assumption | omega) (by first | assumption | omega) (by first | assumption | omega) (by first | assumption | omega)) (va_cwS 2 hts gX6_minute_X6_warmth rfl rfl rfl (by decide +kernel) ⟨Nat.le_of_ble_eq_true rfl, Nat.le_of_ble_eq_true rfl⟩) hK hP [0] rfl rfl hl.1 rfl (Nat.le_of_ble_eq_true rfl) dX6_minute_90 ⟨Nat.le_of_ble_eq_true rfl, Nat.le_of_ble_eq_true rfl⟩ (fun r_121 e_122 => ?_)
            refine lv_istore (lv' := [(5, .int r_121), (4, .int ov_117), (3, .int r_111), (2, .int (nI q_34)), (1, .int (nI i_1)), (0, .ref rw)]) hx hb dX6_minute_93 hl (by decide) rfl (fun ls hl => ?_)
            refine lv_iload_n hx hb dX6_minute_95 rfl (lv_at hl 2 rfl) ?_
            refine lv_iload hx hb dX6_minute_96 (lv_at hl 1 rfl) ?_
            refine lv_icmp_le (tgt := 106) hx hb dX6_minute_98 (by decide) (fun c_123 => ?_) (fun c_123 => ?_)
            · skip
              refine lv_iload_n hx hb dX6_minute_106 rfl (lv_at hl 2 rfl) ?_
              refine lv_istore_n (lv' := [(3, .int r_111), (5, .int r_121), (4, .int ov_117), (2, .int (nI q_34)), (1, .int (nI i_1)), (0, .ref rw)]) hx hb dX6_minute_107 rfl hl (by decide) rfl (fun ls hl => ?_)
              refine lv_iload_n hx hb dX6_minute_108 rfl (lv_at hl 0 rfl) ?_
              refine lv_iload hx hb dX6_minute_109 (lv_at hl 1 rfl) ?_
              refine lv_icmp_le (tgt := 119) hx hb dX6_minute_111 (by decide) (fun c_124 => ?_) (fun c_124 => ?_)
              · skip
                refine lv_iload_n hx hb dX6_minute_119 rfl (lv_at hl 0 rfl) ?_
                refine lv_istore_n (lv' := [(3, .int r_111), (5, .int r_121), (4, .int ov_117), (2, .int (nI q_34)), (1, .int (nI i_1)), (0, .ref rw)]) hx hb dX6_minute_120 rfl hl (by decide) rfl (fun ls hl => ?_)
                refine lv_iload_n hx hb dX6_minute_121 rfl (lv_at hl 0 rfl) ?_
                refine lv_if_le (tgt := 150) hx hb dX6_minute_122 (by decide) (fun c_125 => ?_) (fun c_125 => ?_)
                · skip
                  refine lv_iinc (v := nI (i_1 + 1)) (lv' := [(1, .int (nI (i_1 + 1))), (3, .int r_111), (5, .int r_121), (4, .int ov_117), (2, .int (nI q_34)), (0, .ref rw)]) hx hb dX6_minute_150 hl (k := 4) rfl (nI_add i_1 1) (by decide) rfl (fun ls hl => ?_)
                  refine lv_goto (tgt := 2) hx hb dX6_minute_153 (by decide) ?_
                  exact ih2 ((i_1 + 1)) f_2 H locs ls (by omega) rk_3 hP hD hS (lv_sub hl [0, 5] rfl)
                · skip
                  refine lv_aload_n hx hb dX6_minute_125 rfl (lv_at hl 5 rfl) ?_
                  refine lv_iconst (v := 5) hx hb dX6_minute_126 (by decide) ?_
                  refine lv_iconst (v := 2) hx hb dX6_minute_127 (by decide) ?_
                  refine lv_iload_n hx hb dX6_minute_128 rfl (lv_at hl 3 rfl) ?_
                  refine lv_imul hx hb dX6_minute_129 ?_
                  refine wt_top (z := nI (2 * q_34)) (pk_mul 2 q_34) ?_
                  refine lv_iadd hx hb dX6_minute_130 ?_
                  refine wt_top (z := nI (5 + (2 * q_34))) (nI_add 5 (2 * q_34)) ?_
                  refine lv_dup2_11 hx hb dX6_minute_131 rfl rfl ?_
                  refine va_iald hx hb hK.1 hP 0 0 rfl rfl (vp_in_nI (by omega) (by omega)) dX6_minute_132 ?_
                  refine lv_topi (fun ov_126 _ => ?_)
                  refine lv_iload_n hx hb dX6_minute_133 rfl (lv_at hl 0 rfl) ?_
                  refine lv_isub hx hb dX6_minute_134 ?_
                  refine lv_topi (fun ov_127 _ => ?_)
                  refine va_iast hx hb hK.1 hP hD hS 0 0 rfl rfl (vp_in_nI (by omega) (by omega)) dX6_minute_135 (fun H locs hP hD hS => ?_)
                  have hP : va_P D vwCl [(rw, .inl (cI, 45, .inl (upd f_2 ((nI (5 + (2 * q_34))).toNatClampNeg) ov_127)))] H := hP
                  have hD : va_D A [(rw, .inl (cI, 45, .inl (upd f_2 ((nI (5 + (2 * q_34))).toNatClampNeg) ov_127)))] := hD
                  have rk_128 : rk R T (upd f_2 ((nI (5 + (2 * q_34))).toNatClampNeg) ov_127) := rk_upd (k := (5 + (2 * q_34))) rk_3 (nI_clamp (by omega)) (by omega) _
                  generalize upd f_2 ((nI (5 + (2 * q_34))).toNatClampNeg) ov_127 = rf_129 at hP hD rk_128
                  refine lv_aload_n hx hb dX6_minute_136 rfl (lv_at hl 5 rfl) ?_
                  refine lv_iload_n hx hb dX6_minute_137 rfl (lv_at hl 4 rfl) ?_
                  refine lv_iconst (v := 4) hx hb dX6_minute_138 (by decide) ?_
                  refine lv_aload_n hx hb dX6_minute_139 rfl (lv_at hl 5 rfl) ?_
                  refine lv_iload_n hx hb dX6_minute_140 rfl (lv_at hl 4 rfl) ?_
                  refine lv_iconst (v := 4) hx hb dX6_minute_141 (by decide) ?_
                  refine wt_rS (As := [.ref rw, .int (nI i_1), .int 4]) (rest := [.int 4, .int (nI i_1), .ref rw]) ⟨hx, hb, hml, hown, hts⟩ (c_X6_of_w l D cI cZ cH rw R T rf_129 i_1 4 (by first | assumption | omega) (by first | assumption | omega) (by first | assumption | omega) (by first | assumption | omega) (by first | assumption | omega)) (va_cwS 3 hts gX6_minute_X6_of rfl rfl rfl (by decide +kernel) ⟨Nat.le_of_ble_eq_true rfl, Nat.le_of_ble_eq_true rfl⟩) hK hP [0] rfl rfl hl.1 rfl (Nat.le_of_ble_eq_true rfl) dX6_minute_142 ⟨Nat.le_of_ble_eq_true rfl, Nat.le_of_ble_eq_true rfl⟩ (fun r_130 e_131 => ?_)
                  refine lv_iload_n hx hb dX6_minute_145 rfl (lv_at hl 0 rfl) ?_
                  refine lv_iadd hx hb dX6_minute_146 ?_
                  refine lv_topi (fun ov_132 _ => ?_)
                  refine wt_goV (wr := []) (wt_runS (As := [.ref rw, .int (nI i_1), .int 4, .int ov_132]) (rest := []) ⟨hx, hb, hml, hown, hts⟩ (c_X6_be_w l D cI cZ cH rw R T rf_129 i_1 4 ov_132 (by first | assumption | omega) (by first | assumption | omega) (by first | assumption | omega) (by first | assumption | omega) (by first | assumption | omega)) (va_cwS 4 hts gX6_minute_X6_be rfl rfl rfl (by decide +kernel) ⟨Nat.le_of_ble_eq_true rfl, Nat.le_of_ble_eq_true rfl⟩) hK hP hD [0] rfl (by decide) rfl hl.1 rfl (Nat.le_of_ble_eq_true rfl) dX6_minute_147 ⟨Nat.le_of_ble_eq_true rfl, Nat.le_of_ble_eq_true rfl⟩) hP hD hS hA [0] [] rfl rfl (by decide) (by decide) (fun w_134 H locs h_135 hP hD hS => ?_)
                  obtain ⟨f2_136, rfl, x_137⟩ := h_135
                  have hP : va_P D vwCl [(rw, .inl (cI, 45, .inl f2_136))] H := hP
                  have hD : va_D A [(rw, .inl (cI, 45, .inl f2_136))] := hD
                  refine lv_iinc (v := nI (i_1 + 1)) (lv' := [(1, .int (nI (i_1 + 1))), (3, .int r_111), (5, .int r_121), (4, .int ov_117), (2, .int (nI q_34)), (0, .ref rw)]) hx hb dX6_minute_150 hl (k := 4) rfl (nI_add i_1 1) (by decide) rfl (fun ls hl => ?_)
                  refine lv_goto (tgt := 2) hx hb dX6_minute_153 (by decide) ?_
                  exact ih2 ((i_1 + 1)) f2_136 H locs ls (by omega) x_137 hP hD hS (lv_sub hl [0, 5] rfl)
              · skip
                refine lv_iload hx hb dX6_minute_114 (lv_at hl 1 rfl) ?_
                refine lv_goto (tgt := 120) hx hb dX6_minute_116 (by decide) ?_
                refine lv_istore_n (lv' := [(3, .int r_121), (5, .int r_121), (4, .int ov_117), (2, .int (nI q_34)), (1, .int (nI i_1)), (0, .ref rw)]) hx hb dX6_minute_120 rfl hl (by decide) rfl (fun ls hl => ?_)
                refine lv_iload_n hx hb dX6_minute_121 rfl (lv_at hl 0 rfl) ?_
                refine lv_if_le (tgt := 150) hx hb dX6_minute_122 (by decide) (fun c_138 => ?_) (fun c_138 => ?_)
                · skip
                  refine lv_iinc (v := nI (i_1 + 1)) (lv' := [(1, .int (nI (i_1 + 1))), (3, .int r_121), (5, .int r_121), (4, .int ov_117), (2, .int (nI q_34)), (0, .ref rw)]) hx hb dX6_minute_150 hl (k := 4) rfl (nI_add i_1 1) (by decide) rfl (fun ls hl => ?_)
                  refine lv_goto (tgt := 2) hx hb dX6_minute_153 (by decide) ?_
                  exact ih2 ((i_1 + 1)) f_2 H locs ls (by omega) rk_3 hP hD hS (lv_sub hl [0, 5] rfl)
                · skip
                  refine lv_aload_n hx hb dX6_minute_125 rfl (lv_at hl 5 rfl) ?_
                  refine lv_iconst (v := 5) hx hb dX6_minute_126 (by decide) ?_
                  refine lv_iconst (v := 2) hx hb dX6_minute_127 (by decide) ?_
                  refine lv_iload_n hx hb dX6_minute_128 rfl (lv_at hl 3 rfl) ?_
                  refine lv_imul hx hb dX6_minute_129 ?_
                  refine wt_top (z := nI (2 * q_34)) (pk_mul 2 q_34) ?_
                  refine lv_iadd hx hb dX6_minute_130 ?_
                  refine wt_top (z := nI (5 + (2 * q_34))) (nI_add 5 (2 * q_34)) ?_
                  refine lv_dup2_11 hx hb dX6_minute_131 rfl rfl ?_
                  refine va_iald hx hb hK.1 hP 0 0 rfl rfl (vp_in_nI (by omega) (by omega)) dX6_minute_132 ?_
                  refine lv_topi (fun ov_139 _ => ?_)
                  refine lv_iload_n hx hb dX6_minute_133 rfl (lv_at hl 0 rfl) ?_
                  refine lv_isub hx hb dX6_minute_134 ?_
                  refine lv_topi (fun ov_140 _ => ?_)
                  refine va_iast hx hb hK.1 hP hD hS 0 0 rfl rfl (vp_in_nI (by omega) (by omega)) dX6_minute_135 (fun H locs hP hD hS => ?_)
                  have hP : va_P D vwCl [(rw, .inl (cI, 45, .inl (upd f_2 ((nI (5 + (2 * q_34))).toNatClampNeg) ov_140)))] H := hP
                  have hD : va_D A [(rw, .inl (cI, 45, .inl (upd f_2 ((nI (5 + (2 * q_34))).toNatClampNeg) ov_140)))] := hD
                  have rk_141 : rk R T (upd f_2 ((nI (5 + (2 * q_34))).toNatClampNeg) ov_140) := rk_upd (k := (5 + (2 * q_34))) rk_3 (nI_clamp (by omega)) (by omega) _
                  generalize upd f_2 ((nI (5 + (2 * q_34))).toNatClampNeg) ov_140 = rf_142 at hP hD rk_141
                  refine lv_aload_n hx hb dX6_minute_136 rfl (lv_at hl 5 rfl) ?_
                  refine lv_iload_n hx hb dX6_minute_137 rfl (lv_at hl 4 rfl) ?_
                  refine lv_iconst (v := 4) hx hb dX6_minute_138 (by decide) ?_
                  refine lv_aload_n hx hb dX6_minute_139 rfl (lv_at hl 5 rfl) ?_
                  refine lv_iload_n hx hb dX6_minute_140 rfl (lv_at hl 4 rfl) ?_
                  refine lv_iconst (v := 4) hx hb dX6_minute_141 (by decide) ?_
                  refine wt_rS (As := [.ref rw, .int (nI i_1), .int 4]) (rest := [.int 4, .int (nI i_1), .ref rw]) ⟨hx, hb, hml, hown, hts⟩ (c_X6_of_w l D cI cZ cH rw R T rf_142 i_1 4 (by first | assumption | omega) (by first | assumption | omega) (by first | assumption | omega) (by first | assumption | omega) (by first | assumption | omega)) (va_cwS 3 hts gX6_minute_X6_of rfl rfl rfl (by decide +kernel) ⟨Nat.le_of_ble_eq_true rfl, Nat.le_of_ble_eq_true rfl⟩) hK hP [0] rfl rfl hl.1 rfl (Nat.le_of_ble_eq_true rfl) dX6_minute_142 ⟨Nat.le_of_ble_eq_true rfl, Nat.le_of_ble_eq_true rfl⟩ (fun r_143 e_144 => ?_)
                  refine lv_iload_n hx hb dX6_minute_145 rfl (lv_at hl 0 rfl) ?_
                  refine lv_iadd hx hb dX6_minute_146 ?_
                  refine lv_topi (fun ov_145 _ => ?_)
                  refine wt_goV (wr := []) (wt_runS (As := [.ref rw, .int (nI i_1), .int 4, .int ov_145]) (rest := []) ⟨hx, hb, hml, hown, hts⟩ (c_X6_be_w l D cI cZ cH rw R T rf_142 i_1 4 ov_145 (by first | assumption | omega) (by first | assumption | omega) (by first | assumption | omega) (by first | assumption | omega) (by first | assumption | omega)) (va_cwS 4 hts gX6_minute_X6_be rfl rfl rfl (by decide +kernel) ⟨Nat.le_of_ble_eq_true rfl, Nat.le_of_ble_eq_true rfl⟩) hK hP hD [0] rfl (by decide) rfl hl.1 rfl (Nat.le_of_ble_eq_true rfl) dX6_minute_147 ⟨Nat.le_of_ble_eq_true rfl, Nat.le_of_ble_eq_true rfl⟩) hP hD hS hA [0] [] rfl rfl (by decide) (by decide) (fun w_147 H locs h_148 hP hD hS => ?_)
                  obtain ⟨f2_149, rfl, x_150⟩ := h_148
                  have hP : va_P D vwCl [(rw, .inl (cI, 45, .inl f2_149))] H := hP
                  have hD : va_D A [(rw, .inl (cI, 45, .inl f2_149))] := hD
                  refine lv_iinc (v := nI (i_1 + 1)) (lv' := [(1, .int (nI (i_1 + 1))), (3, .int r_121), (5, .int r_121), (4, .int ov_117), (2, .int (nI q_34)), (0, .ref rw)]) hx hb dX6_minute_150 hl (k := 4) rfl (nI_add i_1 1) (by decide) rfl (fun ls hl => ?_)
                  refine lv_goto (tgt := 2) hx hb dX6_minute_153 (by decide) ?_
                  exact ih2 ((i_1 + 1)) f2_149 H locs ls (by omega) x_150 hP hD hS (lv_sub hl [0, 5] rfl)
            · skip
              refine lv_iload hx hb dX6_minute_101 (lv_at hl 1 rfl) ?_
              refine lv_goto (tgt := 107) hx hb dX6_minute_103 (by decide) ?_
              refine lv_istore_n (lv' := [(3, .int ov_117), (5, .int r_121), (4, .int ov_117), (2, .int (nI q_34)), (1, .int (nI i_1)), (0, .ref rw)]) hx hb dX6_minute_107 rfl hl (by decide) rfl (fun ls hl => ?_)
              refine lv_iload_n hx hb dX6_minute_108 rfl (lv_at hl 0 rfl) ?_
              refine lv_iload hx hb dX6_minute_109 (lv_at hl 1 rfl) ?_
              refine lv_icmp_le (tgt := 119) hx hb dX6_minute_111 (by decide) (fun c_151 => ?_) (fun c_151 => ?_)
              · skip
                refine lv_iload_n hx hb dX6_minute_119 rfl (lv_at hl 0 rfl) ?_
                refine lv_istore_n (lv' := [(3, .int ov_117), (5, .int r_121), (4, .int ov_117), (2, .int (nI q_34)), (1, .int (nI i_1)), (0, .ref rw)]) hx hb dX6_minute_120 rfl hl (by decide) rfl (fun ls hl => ?_)
                refine lv_iload_n hx hb dX6_minute_121 rfl (lv_at hl 0 rfl) ?_
                refine lv_if_le (tgt := 150) hx hb dX6_minute_122 (by decide) (fun c_152 => ?_) (fun c_152 => ?_)
                · skip
                  refine lv_iinc (v := nI (i_1 + 1)) (lv' := [(1, .int (nI (i_1 + 1))), (3, .int ov_117), (5, .int r_121), (4, .int ov_117), (2, .int (nI q_34)), (0, .ref rw)]) hx hb dX6_minute_150 hl (k := 4) rfl (nI_add i_1 1) (by decide) rfl (fun ls hl => ?_)
                  refine lv_goto (tgt := 2) hx hb dX6_minute_153 (by decide) ?_
                  exact ih2 ((i_1 + 1)) f_2 H locs ls (by omega) rk_3 hP hD hS (lv_sub hl [0, 5] rfl)
                · skip
                  refine lv_aload_n hx hb dX6_minute_125 rfl (lv_at hl 5 rfl) ?_
                  refine lv_iconst (v := 5) hx hb dX6_minute_126 (by decide) ?_
                  refine lv_iconst (v := 2) hx hb dX6_minute_127 (by decide) ?_
                  refine lv_iload_n hx hb dX6_minute_128 rfl (lv_at hl 3 rfl) ?_
                  refine lv_imul hx hb dX6_minute_129 ?_
                  refine wt_top (z := nI (2 * q_34)) (pk_mul 2 q_34) ?_
                  refine lv_iadd hx hb dX6_minute_130 ?_
                  refine wt_top (z := nI (5 + (2 * q_34))) (nI_add 5 (2 * q_34)) ?_
                  refine lv_dup2_11 hx hb dX6_minute_131 rfl rfl ?_
                  refine va_iald hx hb hK.1 hP 0 0 rfl rfl (vp_in_nI (by omega) (by omega)) dX6_minute_132 ?_
                  refine lv_topi (fun ov_153 _ => ?_)
                  refine lv_iload_n hx hb dX6_minute_133 rfl (lv_at hl 0 rfl) ?_
                  refine lv_isub hx hb dX6_minute_134 ?_
                  refine lv_topi (fun ov_154 _ => ?_)
                  refine va_iast hx hb hK.1 hP hD hS 0 0 rfl rfl (vp_in_nI (by omega) (by omega)) dX6_minute_135 (fun H locs hP hD hS => ?_)
                  have hP : va_P D vwCl [(rw, .inl (cI, 45, .inl (upd f_2 ((nI (5 + (2 * q_34))).toNatClampNeg) ov_154)))] H := hP
                  have hD : va_D A [(rw, .inl (cI, 45, .inl (upd f_2 ((nI (5 + (2 * q_34))).toNatClampNeg) ov_154)))] := hD
                  have rk_155 : rk R T (upd f_2 ((nI (5 + (2 * q_34))).toNatClampNeg) ov_154) := rk_upd (k := (5 + (2 * q_34))) rk_3 (nI_clamp (by omega)) (by omega) _
                  generalize upd f_2 ((nI (5 + (2 * q_34))).toNatClampNeg) ov_154 = rf_156 at hP hD rk_155
                  refine lv_aload_n hx hb dX6_minute_136 rfl (lv_at hl 5 rfl) ?_
                  refine lv_iload_n hx hb dX6_minute_137 rfl (lv_at hl 4 rfl) ?_
                  refine lv_iconst (v := 4) hx hb dX6_minute_138 (by decide) ?_
                  refine lv_aload_n hx hb dX6_minute_139 rfl (lv_at hl 5 rfl) ?_
                  refine lv_iload_n hx hb dX6_minute_140 rfl (lv_at hl 4 rfl) ?_
                  refine lv_iconst (v := 4) hx hb dX6_minute_141 (by decide) ?_
                  refine wt_rS (As := [.ref rw, .int (nI i_1), .int 4]) (rest := [.int 4, .int (nI i_1), .ref rw]) ⟨hx, hb, hml, hown, hts⟩ (c_X6_of_w l D cI cZ cH rw R T rf_156 i_1 4 (by first | assumption | omega) (by first | assumption | omega) (by first | assumption | omega) (by first | assumption | omega) (by first | assumption | omega)) (va_cwS 3 hts gX6_minute_X6_of rfl rfl rfl (by decide +kernel) ⟨Nat.le_of_ble_eq_true rfl, Nat.le_of_ble_eq_true rfl⟩) hK hP [0] rfl rfl hl.1 rfl (Nat.le_of_ble_eq_true rfl) dX6_minute_142 ⟨Nat.le_of_ble_eq_true rfl, Nat.le_of_ble_eq_true rfl⟩ (fun r_157 e_158 => ?_)
                  refine lv_iload_n hx hb dX6_minute_145 rfl (lv_at hl 0 rfl) ?_
                  refine lv_iadd hx hb dX6_minute_146 ?_
                  refine lv_topi (fun ov_159 _ => ?_)
                  refine wt_goV (wr := []) (wt_runS (As := [.ref rw, .int (nI i_1), .int 4, .int ov_159]) (rest := []) ⟨hx, hb, hml, hown, hts⟩ (c_X6_be_w l D cI cZ cH rw R T rf_156 i_1 4 ov_159 (by first | assumption | omega) (by first | assumption | omega) (by first | assumption | omega) (by first | assumption | omega) (by first | assumption | omega)) (va_cwS 4 hts gX6_minute_X6_be rfl rfl rfl (by decide +kernel) ⟨Nat.le_of_ble_eq_true rfl, Nat.le_of_ble_eq_true rfl⟩) hK hP hD [0] rfl (by decide) rfl hl.1 rfl (Nat.le_of_ble_eq_true rfl) dX6_minute_147 ⟨Nat.le_of_ble_eq_true rfl, Nat.le_of_ble_eq_true rfl⟩) hP hD hS hA [0] [] rfl rfl (by decide) (by decide) (fun w_161 H locs h_162 hP hD hS => ?_)
                  obtain ⟨f2_163, rfl, x_164⟩ := h_162
                  have hP : va_P D vwCl [(rw, .inl (cI, 45, .inl f2_163))] H := hP
                  have hD : va_D A [(rw, .inl (cI, 45, .inl f2_163))] := hD
                  refine lv_iinc (v := nI (i_1 + 1)) (lv' := [(1, .int (nI (i_1 + 1))), (3, .int ov_117), (5, .int r_121), (4, .int ov_117), (2, .int (nI q_34)), (0, .ref rw)]) hx hb dX6_minute_150 hl (k := 4) rfl (nI_add i_1 1) (by decide) rfl (fun ls hl => ?_)
                  refine lv_goto (tgt := 2) hx hb dX6_minute_153 (by decide) ?_
                  exact ih2 ((i_1 + 1)) f2_163 H locs ls (by omega) x_164 hP hD hS (lv_sub hl [0, 5] rfl)
              · skip
                refine lv_iload hx hb dX6_minute_114 (lv_at hl 1 rfl) ?_
                refine lv_goto (tgt := 120) hx hb dX6_minute_116 (by decide) ?_
                refine lv_istore_n (lv' := [(3, .int r_121), (5, .int r_121), (4, .int ov_117), (2, .int (nI q_34)), (1, .int (nI i_1)), (0, .ref rw)]) hx hb dX6_minute_120 rfl hl (by decide) rfl (fun ls hl => ?_)
                refine lv_iload_n hx hb dX6_minute_121 rfl (lv_at hl 0 rfl) ?_
                refine lv_if_le (tgt := 150) hx hb dX6_minute_122 (by decide) (fun c_165 => ?_) (fun c_165 => ?_)
                · skip
                  refine lv_iinc (v := nI (i_1 + 1)) (lv' := [(1, .int (nI (i_1 + 1))), (3, .int r_121), (5, .int r_121), (4, .int ov_117), (2, .int (nI q_34)), (0, .ref rw)]) hx hb dX6_minute_150 hl (k := 4) rfl (nI_add i_1 1) (by decide) rfl (fun ls hl => ?_)
                  refine lv_goto (tgt := 2) hx hb dX6_minute_153 (by decide) ?_
                  exact ih2 ((i_1 + 1)) f_2 H locs ls (by omega) rk_3 hP hD hS (lv_sub hl [0, 5] rfl)
                · skip
                  refine lv_aload_n hx hb dX6_minute_125 rfl (lv_at hl 5 rfl) ?_
                  refine lv_iconst (v := 5) hx hb dX6_minute_126 (by decide) ?_
                  refine lv_iconst (v := 2) hx hb dX6_minute_127 (by decide) ?_
                  refine lv_iload_n hx hb dX6_minute_128 rfl (lv_at hl 3 rfl) ?_
                  refine lv_imul hx hb dX6_minute_129 ?_
                  refine wt_top (z := nI (2 * q_34)) (pk_mul 2 q_34) ?_
                  refine lv_iadd hx hb dX6_minute_130 ?_
                  refine wt_top (z := nI (5 + (2 * q_34))) (nI_add 5 (2 * q_34)) ?_
                  refine lv_dup2_11 hx hb dX6_minute_131 rfl rfl ?_
                  refine va_iald hx hb hK.1 hP 0 0 rfl rfl (vp_in_nI (by omega) (by omega)) dX6_minute_132 ?_
                  refine lv_topi (fun ov_166 _ => ?_)
                  refine lv_iload_n hx hb dX6_minute_133 rfl (lv_at hl 0 rfl) ?_
                  refine lv_isub hx hb dX6_minute_134 ?_
                  refine lv_topi (fun ov_167 _ => ?_)
                  refine va_iast hx hb hK.1 hP hD hS 0 0 rfl rfl (vp_in_nI (by omega) (by omega)) dX6_minute_135 (fun H locs hP hD hS => ?_)
                  have hP : va_P D vwCl [(rw, .inl (cI, 45, .inl (upd f_2 ((nI (5 + (2 * q_34))).toNatClampNeg) ov_167)))] H := hP
                  have hD : va_D A [(rw, .inl (cI, 45, .inl (upd f_2 ((nI (5 + (2 * q_34))).toNatClampNeg) ov_167)))] := hD
                  have rk_168 : rk R T (upd f_2 ((nI (5 + (2 * q_34))).toNatClampNeg) ov_167) := rk_upd (k := (5 + (2 * q_34))) rk_3 (nI_clamp (by omega)) (by omega) _
                  generalize upd f_2 ((nI (5 + (2 * q_34))).toNatClampNeg) ov_167 = rf_169 at hP hD rk_168
                  refine lv_aload_n hx hb dX6_minute_136 rfl (lv_at hl 5 rfl) ?_
                  refine lv_iload_n hx hb dX6_minute_137 rfl (lv_at hl 4 rfl) ?_
                  refine lv_iconst (v := 4) hx hb dX6_minute_138 (by decide) ?_
                  refine lv_aload_n hx hb dX6_minute_139 rfl (lv_at hl 5 rfl) ?_
                  refine lv_iload_n hx hb dX6_minute_140 rfl (lv_at hl 4 rfl) ?_
                  refine lv_iconst (v := 4) hx hb dX6_minute_141 (by decide) ?_
                  refine wt_rS (As := [.ref rw, .int (nI i_1), .int 4]) (rest := [.int 4, .int (nI i_1), .ref rw]) ⟨hx, hb, hml, hown, hts⟩ (c_X6_of_w l D cI cZ cH rw R T rf_169 i_1 4 (by first | assumption | omega) (by first | assumption | omega) (by first | assumption | omega) (by first | assumption | omega) (by first | assumption | omega)) (va_cwS 3 hts gX6_minute_X6_of rfl rfl rfl (by decide +kernel) ⟨Nat.le_of_ble_eq_true rfl, Nat.le_of_ble_eq_true rfl⟩) hK hP [0] rfl rfl hl.1 rfl (Nat.le_of_ble_eq_true rfl) dX6_minute_142 ⟨Nat.le_of_ble_eq_true rfl, Nat.le_of_ble_eq_true rfl⟩ (fun r_170 e_171 => ?_)
                  refine lv_iload_n hx hb dX6_minute_145 rfl (lv_at hl 0 rfl) ?_
                  refine lv_iadd hx hb dX6_minute_146 ?_
                  refine lv_topi (fun ov_172 _ => ?_)
                  refine wt_goV (wr := []) (wt_runS (As := [.ref rw, .int (nI i_1), .int 4, .int ov_172]) (rest := []) ⟨hx, hb, hml, hown, hts⟩ (c_X6_be_w l D cI cZ cH rw R T rf_169 i_1 4 ov_172 (by first | assumption | omega) (by first | assumption | omega) (by first | assumption | omega) (by first | assumption | omega) (by first | assumption | omega)) (va_cwS 4 hts gX6_minute_X6_be rfl rfl rfl (by decide +kernel) ⟨Nat.le_of_ble_eq_true rfl, Nat.le_of_ble_eq_true rfl⟩) hK hP hD [0] rfl (by decide) rfl hl.1 rfl (Nat.le_of_ble_eq_true rfl) dX6_minute_147 ⟨Nat.le_of_ble_eq_true rfl, Nat.le_of_ble_eq_true rfl⟩) hP hD hS hA [0] [] rfl rfl (by decide) (by decide) (fun w_174 H locs h_175 hP hD hS => ?_)
                  obtain ⟨f2_176, rfl, x_177⟩ := h_175
                  have hP : va_P D vwCl [(rw, .inl (cI, 45, .inl f2_176))] H := hP
                  have hD : va_D A [(rw, .inl (cI, 45, .inl f2_176))] := hD
                  refine lv_iinc (v := nI (i_1 + 1)) (lv' := [(1, .int (nI (i_1 + 1))), (3, .int r_121), (5, .int r_121), (4, .int ov_117), (2, .int (nI q_34)), (0, .ref rw)]) hx hb dX6_minute_150 hl (k := 4) rfl (nI_add i_1 1) (by decide) rfl (fun ls hl => ?_)
                  refine lv_goto (tgt := 2) hx hb dX6_minute_153 (by decide) ?_
                  exact ih2 ((i_1 + 1)) f2_176 H locs ls (by omega) x_177 hP hD hS (lv_sub hl [0, 5] rfl)
          · skip
            refine lv_iconst (v := 0) hx hb dX6_minute_84 (by decide) ?_
            refine lv_goto (tgt := 93) hx hb dX6_minute_85 (by decide) ?_
            refine lv_istore (lv' := [(5, .int 0), (4, .int ov_117), (3, .int r_111), (2, .int (nI q_34)), (1, .int (nI i_1)), (0, .ref rw)]) hx hb dX6_minute_93 hl (by decide) rfl (fun ls hl => ?_)
            refine lv_iload_n hx hb dX6_minute_95 rfl (lv_at hl 2 rfl) ?_
            refine lv_iload hx hb dX6_minute_96 (lv_at hl 1 rfl) ?_
            refine lv_icmp_le (tgt := 106) hx hb dX6_minute_98 (by decide) (fun c_178 => ?_) (fun c_178 => ?_)
            · skip
              refine lv_iload_n hx hb dX6_minute_106 rfl (lv_at hl 2 rfl) ?_
              refine lv_istore_n (lv' := [(3, .int r_111), (5, .int 0), (4, .int ov_117), (2, .int (nI q_34)), (1, .int (nI i_1)), (0, .ref rw)]) hx hb dX6_minute_107 rfl hl (by decide) rfl (fun ls hl => ?_)
              refine lv_iload_n hx hb dX6_minute_108 rfl (lv_at hl 0 rfl) ?_
              refine lv_iload hx hb dX6_minute_109 (lv_at hl 1 rfl) ?_
              refine lv_icmp_le (tgt := 119) hx hb dX6_minute_111 (by decide) (fun c_179 => ?_) (fun c_179 => ?_)
              · skip
                refine lv_iload_n hx hb dX6_minute_119 rfl (lv_at hl 0 rfl) ?_
                refine lv_istore_n (lv' := [(3, .int r_111), (5, .int 0), (4, .int ov_117), (2, .int (nI q_34)), (1, .int (nI i_1)), (0, .ref rw)]) hx hb dX6_minute_120 rfl hl (by decide) rfl (fun ls hl => ?_)
                refine lv_iload_n hx hb dX6_minute_121 rfl (lv_at hl 0 rfl) ?_
                refine lv_if_le (tgt := 150) hx hb dX6_minute_122 (by decide) (fun _ => ?_) (fun h => absurd c_179 h)
                refine lv_iinc (v := nI (i_1 + 1)) (lv' := [(1, .int (nI (i_1 + 1))), (3, .int r_111), (5, .int 0), (4, .int ov_117), (2, .int (nI q_34)), (0, .ref rw)]) hx hb dX6_minute_150 hl (k := 4) rfl (nI_add i_1 1) (by decide) rfl (fun ls hl => ?_)
                refine lv_goto (tgt := 2) hx hb dX6_minute_153 (by decide) ?_
                exact ih2 ((i_1 + 1)) f_2 H locs ls (by omega) rk_3 hP hD hS (lv_sub hl [0, 5] rfl)
              · skip
                refine lv_iload hx hb dX6_minute_114 (lv_at hl 1 rfl) ?_
                refine lv_goto (tgt := 120) hx hb dX6_minute_116 (by decide) ?_
                refine lv_istore_n (lv' := [(3, .int 0), (5, .int 0), (4, .int ov_117), (2, .int (nI q_34)), (1, .int (nI i_1)), (0, .ref rw)]) hx hb dX6_minute_120 rfl hl (by decide) rfl (fun ls hl => ?_)
                refine lv_iload_n hx hb dX6_minute_121 rfl (lv_at hl 0 rfl) ?_
                refine lv_if_le (tgt := 150) hx hb dX6_minute_122 (by decide) (fun _ => ?_) (fun h => absurd h (by decide))
                refine lv_iinc (v := nI (i_1 + 1)) (lv' := [(1, .int (nI (i_1 + 1))), (3, .int 0), (5, .int 0), (4, .int ov_117), (2, .int (nI q_34)), (0, .ref rw)]) hx hb dX6_minute_150 hl (k := 4) rfl (nI_add i_1 1) (by decide) rfl (fun ls hl => ?_)
                refine lv_goto (tgt := 2) hx hb dX6_minute_153 (by decide) ?_
                exact ih2 ((i_1 + 1)) f_2 H locs ls (by omega) rk_3 hP hD hS (lv_sub hl [0, 5] rfl)
            · skip
              refine lv_iload hx hb dX6_minute_101 (lv_at hl 1 rfl) ?_
              refine lv_goto (tgt := 107) hx hb dX6_minute_103 (by decide) ?_
              refine lv_istore_n (lv' := [(3, .int ov_117), (5, .int 0), (4, .int ov_117), (2, .int (nI q_34)), (1, .int (nI i_1)), (0, .ref rw)]) hx hb dX6_minute_107 rfl hl (by decide) rfl (fun ls hl => ?_)
              refine lv_iload_n hx hb dX6_minute_108 rfl (lv_at hl 0 rfl) ?_
              refine lv_iload hx hb dX6_minute_109 (lv_at hl 1 rfl) ?_
              refine lv_icmp_le (tgt := 119) hx hb dX6_minute_111 (by decide) (fun c_180 => ?_) (fun c_180 => ?_)
              · skip
                refine lv_iload_n hx hb dX6_minute_119 rfl (lv_at hl 0 rfl) ?_
                refine lv_istore_n (lv' := [(3, .int ov_117), (5, .int 0), (4, .int ov_117), (2, .int (nI q_34)), (1, .int (nI i_1)), (0, .ref rw)]) hx hb dX6_minute_120 rfl hl (by decide) rfl (fun ls hl => ?_)
                refine lv_iload_n hx hb dX6_minute_121 rfl (lv_at hl 0 rfl) ?_
                refine lv_if_le (tgt := 150) hx hb dX6_minute_122 (by decide) (fun _ => ?_) (fun h => absurd c_180 h)
                refine lv_iinc (v := nI (i_1 + 1)) (lv' := [(1, .int (nI (i_1 + 1))), (3, .int ov_117), (5, .int 0), (4, .int ov_117), (2, .int (nI q_34)), (0, .ref rw)]) hx hb dX6_minute_150 hl (k := 4) rfl (nI_add i_1 1) (by decide) rfl (fun ls hl => ?_)
                refine lv_goto (tgt := 2) hx hb dX6_minute_153 (by decide) ?_
                exact ih2 ((i_1 + 1)) f_2 H locs ls (by omega) rk_3 hP hD hS (lv_sub hl [0, 5] rfl)
              · skip
                refine lv_iload hx hb dX6_minute_114 (lv_at hl 1 rfl) ?_
                refine lv_goto (tgt := 120) hx hb dX6_minute_116 (by decide) ?_
                refine lv_istore_n (lv' := [(3, .int 0), (5, .int 0), (4, .int ov_117), (2, .int (nI q_34)), (1, .int (nI i_1)), (0, .ref rw)]) hx hb dX6_minute_120 rfl hl (by decide) rfl (fun ls hl => ?_)
                refine lv_iload_n hx hb dX6_minute_121 rfl (lv_at hl 0 rfl) ?_
                refine lv_if_le (tgt := 150) hx hb dX6_minute_122 (by decide) (fun _ => ?_) (fun h => absurd h (by decide))
                refine lv_iinc (v := nI (i_1 + 1)) (lv' := [(1, .int (nI (i_1 + 1))), (3, .int 0), (5, .int 0), (4, .int ov_117), (2, .int (nI q_34)), (0, .ref rw)]) hx hb dX6_minute_150 hl (k := 4) rfl (nI_add i_1 1) (by decide) rfl (fun ls hl => ?_)
                refine lv_goto (tgt := 2) hx hb dX6_minute_153 (by decide) ?_
                exact ih2 ((i_1 + 1)) f_2 H locs ls (by omega) rk_3 hP hD hS (lv_sub hl [0, 5] rfl)
        · skip
          refine lv_aload_n hx hb dX6_minute_35 rfl (lv_at hl 2 rfl) ?_
          refine lv_iload_n hx hb dX6_minute_36 rfl (lv_at hl 1 rfl) ?_
          refine lv_iconst (v := 4) hx hb dX6_minute_37 (by decide) ?_
          refine lv_aload_n hx hb dX6_minute_38 rfl (lv_at hl 2 rfl) ?_
          refine lv_iload_n hx hb dX6_minute_39 rfl (lv_at hl 1 rfl) ?_
          refine lv_iconst (v := 4) hx hb dX6_minute_40 (by decide) ?_
          refine wt_rS (As := [.ref rw, .int (nI i_1), .int 4]) (rest := [.int 4, .int (nI i_1), .ref rw]) ⟨hx, hb, hml, hown, hts⟩ (c_X6_of_w l D cI cZ cH rw R T f_2 i_1 4 (by first | assumption | omega) (by first | assumption | omega) (by first | assumption | omega) (by first | assumption | omega) (by first | assumption | omega)) (va_cwS 3 hts gX6_minute_X6_of rfl rfl rfl (by decide +kernel) ⟨Nat.le_of_ble_eq_true rfl, Nat.le_of_ble_eq_true rfl⟩) hK hP [0] rfl rfl hl.1 rfl (Nat.le_of_ble_eq_true rfl) dX6_minute_41 ⟨Nat.le_of_ble_eq_true rfl, Nat.le_of_ble_eq_true rfl⟩ (fun r_181 e_182 => ?_)
          refine lv_iconst (v := 1) hx hb dX6_minute_44 (by decide) ?_
          refine lv_isub hx hb dX6_minute_45 ?_
          refine lv_topi (fun ov_183 _ => ?_)
          refine wt_goV (wr := []) (wt_runS (As := [.ref rw, .int (nI i_1), .int 4, .int ov_183]) (rest := []) ⟨hx, hb, hml, hown, hts⟩ (c_X6_be_w l D cI cZ cH rw R T f_2 i_1 4 ov_183 (by first | assumption | omega) (by first | assumption | omega) (by first | assumption | omega) (by first | assumption | omega) (by first | assumption | omega)) (va_cwS 4 hts gX6_minute_X6_be rfl rfl rfl (by decide +kernel) ⟨Nat.le_of_ble_eq_true rfl, Nat.le_of_ble_eq_true rfl⟩) hK hP hD [0] rfl (by decide) rfl hl.1 rfl (Nat.le_of_ble_eq_true rfl) dX6_minute_46 ⟨Nat.le_of_ble_eq_true rfl, Nat.le_of_ble_eq_true rfl⟩) hP hD hS hA [0] [] rfl rfl (by decide) (by decide) (fun w_185 H locs h_186 hP hD hS => ?_)
          obtain ⟨f2_187, rfl, x_188⟩ := h_186
          have hP : va_P D vwCl [(rw, .inl (cI, 45, .inl f2_187))] H := hP
          have hD : va_D A [(rw, .inl (cI, 45, .inl f2_187))] := hD
          refine lv_aload_n hx hb dX6_minute_49 rfl (lv_at hl 2 rfl) ?_
          refine lv_iload_n hx hb dX6_minute_50 rfl (lv_at hl 0 rfl) ?_
          refine lv_iconst (v := 1) hx hb dX6_minute_51 (by decide) ?_
          refine wt_goV (wr := []) (wt_runS (As := [.ref rw, .int (nI q_34), .int 1]) (rest := []) ⟨hx, hb, hml, hown, hts⟩ (c_X6_gives l D cI cZ cH rw R T f2_187 q_34 1 (by first | assumption | omega) (by first | assumption | omega) (by first | assumption | omega) (by first | assumption | omega)) (va_cwS 3 hts gX6_minute_X6_gives rfl rfl rfl (by decide +kernel) ⟨Nat.le_of_ble_eq_true rfl, Nat.le_of_ble_eq_true rfl⟩) hK hP hD [0] rfl (by decide) rfl hl.1 rfl (Nat.le_of_ble_eq_true rfl) dX6_minute_52 ⟨Nat.le_of_ble_eq_true rfl, Nat.le_of_ble_eq_true rfl⟩) hP hD hS hA [0] [] rfl rfl (by decide) (by decide) (fun w_190 H locs h_191 hP hD hS => ?_)
          obtain ⟨f2_192, rfl, x_193⟩ := h_191
          have hP : va_P D vwCl [(rw, .inl (cI, 45, .inl f2_192))] H := hP
          have hD : va_D A [(rw, .inl (cI, 45, .inl f2_192))] := hD
          refine lv_aload_n hx hb dX6_minute_55 rfl (lv_at hl 2 rfl) ?_
          refine lv_iload_n hx hb dX6_minute_56 rfl (lv_at hl 1 rfl) ?_
          refine wt_rS (As := [.ref rw, .int (nI i_1)]) (rest := []) ⟨hx, hb, hml, hown, hts⟩ (c_X6_wants l D cI cZ cH rw R T f2_192 i_1 (by first | assumption | omega) (by first | assumption | omega) (by first | assumption | omega) (by first | assumption | omega)) (va_cwS 2 hts gX6_minute_X6_wants rfl rfl rfl (by decide +kernel) ⟨Nat.le_of_ble_eq_true rfl, Nat.le_of_ble_eq_true rfl⟩) hK hP [0] rfl rfl hl.1 rfl (Nat.le_of_ble_eq_true rfl) dX6_minute_57 ⟨Nat.le_of_ble_eq_true rfl, Nat.le_of_ble_eq_true rfl⟩ (fun r_194 e_195 => ?_)
          refine lv_istore_n (lv' := [(3, .int r_194), (2, .int (nI q_34)), (1, .int (nI i_1)), (0, .ref rw)]) hx hb dX6_minute_60 rfl hl (by decide) rfl (fun ls hl => ?_)
          refine lv_aload_n hx hb dX6_minute_61 rfl (lv_at hl 3 rfl) ?_
          refine lv_iload_n hx hb dX6_minute_62 rfl (lv_at hl 2 rfl) ?_
          refine lv_iconst (v := 3) hx hb dX6_minute_63 (by decide) ?_
          refine wt_rS (As := [.ref rw, .int (nI i_1), .int 3]) (rest := []) ⟨hx, hb, hml, hown, hts⟩ (c_X6_of_w l D cI cZ cH rw R T f2_192 i_1 3 (by first | assumption | omega) (by first | assumption | omega) (by first | assumption | omega) (by first | assumption | omega) (by first | assumption | omega)) (va_cwS 3 hts gX6_minute_X6_of rfl rfl rfl (by decide +kernel) ⟨Nat.le_of_ble_eq_true rfl, Nat.le_of_ble_eq_true rfl⟩) hK hP [0] rfl rfl hl.1 rfl (Nat.le_of_ble_eq_true rfl) dX6_minute_64 ⟨Nat.le_of_ble_eq_true rfl, Nat.le_of_ble_eq_true rfl⟩ (fun r_196 e_197 => ?_)
          refine lv_aload_n hx hb dX6_minute_67 rfl (lv_at hl 3 rfl) ?_
          refine lv_iload_n hx hb dX6_minute_68 rfl (lv_at hl 2 rfl) ?_
          refine lv_iconst (v := 4) hx hb dX6_minute_69 (by decide) ?_
          refine wt_rS (As := [.ref rw, .int (nI i_1), .int 4]) (rest := [.int r_196]) ⟨hx, hb, hml, hown, hts⟩ (c_X6_of_w l D cI cZ cH rw R T f2_192 i_1 4 (by first | assumption | omega) (by first | assumption | omega) (by first | assumption | omega) (by first | assumption | omega) (by first | assumption | omega)) (va_cwS 3 hts gX6_minute_X6_of rfl rfl rfl (by decide +kernel) ⟨Nat.le_of_ble_eq_true rfl, Nat.le_of_ble_eq_true rfl⟩) hK hP [0] rfl rfl hl.1 rfl (Nat.le_of_ble_eq_true rfl) dX6_minute_70 ⟨Nat.le_of_ble_eq_true rfl, Nat.le_of_ble_eq_true rfl⟩ (fun r_198 e_199 => ?_)
          refine lv_isub hx hb dX6_minute_73 ?_
          refine lv_topi (fun ov_200 _ => ?_)
          refine lv_istore (lv' := [(4, .int ov_200), (3, .int r_194), (2, .int (nI q_34)), (1, .int (nI i_1)), (0, .ref rw)]) hx hb dX6_minute_74 hl (by decide) rfl (fun ls hl => ?_)
          refine lv_aload_n hx hb dX6_minute_76 rfl (lv_at hl 4 rfl) ?_
          refine lv_iload_n hx hb dX6_minute_77 rfl (lv_at hl 3 rfl) ?_
          refine wt_rS (As := [.ref rw, .int (nI i_1)]) (rest := []) ⟨hx, hb, hml, hown, hts⟩ (c_X6_isOut l D cI cZ cH rw R T f2_192 i_1 (by first | assumption | omega) (by first | assumption | omega) (by first | assumption | omega) (by first | assumption | omega)) (va_cwS 2 hts gX6_minute_X6_isOut rfl rfl rfl (by decide +kernel) ⟨Nat.le_of_ble_eq_true rfl, Nat.le_of_ble_eq_true rfl⟩) hK hP [0] rfl rfl hl.1 rfl (Nat.le_of_ble_eq_true rfl) dX6_minute_78 ⟨Nat.le_of_ble_eq_true rfl, Nat.le_of_ble_eq_true rfl⟩ (fun r_201 e_202 => ?_)
          refine lv_if_eq (tgt := 88) hx hb dX6_minute_81 (by decide) (fun c_203 => ?_) (fun c_203 => ?_)
          · skip
            refine lv_aload_n hx hb dX6_minute_88 rfl (lv_at hl 4 rfl) ?_
            refine lv_iload_n hx hb dX6_minute_89 rfl (lv_at hl 2 rfl) ?_
            refine wt_rS (As := [.ref rw, .int (nI q_34)]) (rest := []) ⟨hx, hb, hml, hown, hts⟩ (c_X6_warmth l D cI cZ cH rw R T f2_192 q_34 (by first | assumption | omega) (by first | assumption | omega) (by first | assumption | omega) (by first | assumption | omega)) (va_cwS 2 hts gX6_minute_X6_warmth rfl rfl rfl (by decide +kernel) ⟨Nat.le_of_ble_eq_true rfl, Nat.le_of_ble_eq_true rfl⟩) hK hP [0] rfl rfl hl.1 rfl (Nat.le_of_ble_eq_true rfl) dX6_minute_90 ⟨Nat.le_of_ble_eq_true rfl, Nat.le_of_ble_eq_true rfl⟩ (fun r_204 e_205 => ?_)
            refine lv_istore (lv' := [(5, .int r_204), (4, .int ov_200), (3, .int r_194), (2, .int (nI q_34)), (1, .int (nI i_1)), (0, .ref rw)]) hx hb dX6_minute_93 hl (by decide) rfl (fun ls hl => ?_)
            refine lv_iload_n hx hb dX6_minute_95 rfl (lv_at hl 2 rfl) ?_
            refine lv_iload hx hb dX6_minute_96 (lv_at hl 1 rfl) ?_
            refine lv_icmp_le (tgt := 106) hx hb dX6_minute_98 (by decide) (fun c_206 => ?_) (fun c_206 => ?_)
            · skip
              refine lv_iload_n hx hb dX6_minute_106 rfl (lv_at hl 2 rfl) ?_
              refine lv_istore_n (lv' := [(3, .int r_194), (5, .int r_204), (4, .int ov_200), (2, .int (nI q_34)), (1, .int (nI i_1)), (0, .ref rw)]) hx hb dX6_minute_107 rfl hl (by decide) rfl (fun ls hl => ?_)
              refine lv_iload_n hx hb dX6_minute_108 rfl (lv_at hl 0 rfl) ?_
              refine lv_iload hx hb dX6_minute_109 (lv_at hl 1 rfl) ?_
              refine lv_icmp_le (tgt := 119) hx hb dX6_minute_111 (by decide) (fun c_207 => ?_) (fun c_207 => ?_)
              · skip
                refine lv_iload_n hx hb dX6_minute_119 rfl (lv_at hl 0 rfl) ?_
                refine lv_istore_n (lv' := [(3, .int r_194), (5, .int r_204), (4, .int ov_200), (2, .int (nI q_34)), (1, .int (nI i_1)), (0, .ref rw)]) hx hb dX6_minute_120 rfl hl (by decide) rfl (fun ls hl => ?_)
                refine lv_iload_n hx hb dX6_minute_121 rfl (lv_at hl 0 rfl) ?_
                refine lv_if_le (tgt := 150) hx hb dX6_minute_122 (by decide) (fun c_208 => ?_) (fun c_208 => ?_)
                · skip
                  refine lv_iinc (v := nI (i_1 + 1)) (lv' := [(1, .int (nI (i_1 + 1))), (3, .int r_194), (5, .int r_204), (4, .int ov_200), (2, .int (nI q_34)), (0, .ref rw)]) hx hb dX6_minute_150 hl (k := 4) rfl (nI_add i_1 1) (by decide) rfl (fun ls hl => ?_)
                  refine lv_goto (tgt := 2) hx hb dX6_minute_153 (by decide) ?_
                  exact ih2 ((i_1 + 1)) f2_192 H locs ls (by omega) x_193 hP hD hS (lv_sub hl [0, 5] rfl)
                · skip
                  refine lv_aload_n hx hb dX6_minute_125 rfl (lv_at hl 5 rfl) ?_
                  refine lv_iconst (v := 5) hx hb dX6_minute_126 (by decide) ?_
                  refine lv_iconst (v := 2) hx hb dX6_minute_127 (by decide) ?_
                  refine lv_iload_n hx hb dX6_minute_128 rfl (lv_at hl 3 rfl) ?_
                  refine lv_imul hx hb dX6_minute_129 ?_
                  refine wt_top (z := nI (2 * q_34)) (pk_mul 2 q_34) ?_
                  refine lv_iadd hx hb dX6_minute_130 ?_
                  refine wt_top (z := nI (5 + (2 * q_34))) (nI_add 5 (2 * q_34)) ?_
                  refine lv_dup2_11 hx hb dX6_minute_131 rfl rfl ?_
                  refine va_iald hx hb hK.1 hP 0 0 rfl rfl (vp_in_nI (by omega) (by omega)) dX6_minute_132 ?_
                  refine lv_topi (fun ov_209 _ => ?_)
                  refine lv_iload_n hx hb dX6_minute_133 rfl (lv_at hl 0 rfl) ?_
                  refine lv_isub hx hb dX6_minute_134 ?_
                  refine lv_topi (fun ov_210 _ => ?_)
                  refine va_iast hx hb hK.1 hP hD hS 0 0 rfl rfl (vp_in_nI (by omega) (by omega)) dX6_minute_135 (fun H locs hP hD hS => ?_)
                  have hP : va_P D vwCl [(rw, .inl (cI, 45, .inl (upd f2_192 ((nI (5 + (2 * q_34))).toNatClampNeg) ov_210)))] H := hP
                  have hD : va_D A [(rw, .inl (cI, 45, .inl (upd f2_192 ((nI (5 + (2 * q_34))).toNatClampNeg) ov_210)))] := hD
                  have rk_211 : rk R T (upd f2_192 ((nI (5 + (2 * q_34))).toNatClampNeg) ov_210) := rk_upd (k := (5 + (2 * q_34))) x_193 (nI_clamp (by omega)) (by omega) _
                  generalize upd f2_192 ((nI (5 + (2 * q_34))).toNatClampNeg) ov_210 = rf_212 at hP hD rk_211
                  refine lv_aload_n hx hb dX6_minute_136 rfl (lv_at hl 5 rfl) ?_
                  refine lv_iload_n hx hb dX6_minute_137 rfl (lv_at hl 4 rfl) ?_
                  refine lv_iconst (v := 4) hx hb dX6_minute_138 (by decide) ?_
                  refine lv_aload_n hx hb dX6_minute_139 rfl (lv_at hl 5 rfl) ?_
                  refine lv_iload_n hx hb dX6_minute_140 rfl (lv_at hl 4 rfl) ?_
                  refine lv_iconst (v := 4) hx hb dX6_minute_141 (by decide) ?_
                  refine wt_rS (As := [.ref rw, .int (nI i_1), .int 4]) (rest := [.int 4, .int (nI i_1), .ref rw]) ⟨hx, hb, hml, hown, hts⟩ (c_X6_of_w l D cI cZ cH rw R T rf_212 i_1 4 (by first | assumption | omega) (by first | assumption | omega) (by first | assumption | omega) (by first | assumption | omega) (by first | assumption | omega)) (va_cwS 3 hts gX6_minute_X6_of rfl rfl rfl (by decide +kernel) ⟨Nat.le_of_ble_eq_true rfl, Nat.le_of_ble_eq_true rfl⟩) hK hP [0] rfl rfl hl.1 rfl (Nat.le_of_ble_eq_true rfl) dX6_minute_142 ⟨Nat.le_of_ble_eq_true rfl, Nat.le_of_ble_eq_true rfl⟩ (fun r_213 e_214 => ?_)
                  refine lv_iload_n hx hb dX6_minute_145 rfl (lv_at hl 0 rfl) ?_
                  refine lv_iadd hx hb dX6_minute_146 ?_
                  refine lv_topi (fun ov_215 _ => ?_)
                  refine wt_goV (wr := []) (wt_runS (As := [.ref rw, .int (nI i_1), .int 4, .int ov_215]) (rest := []) ⟨hx, hb, hml, hown, hts⟩ (c_X6_be_w l D cI cZ cH rw R T rf_212 i_1 4 ov_215 (by first | assumption | omega) (by first | assumption | omega) (by first | assumption | omega) (by first | assumption | omega) (by first | assumption | omega)) (va_cwS 4 hts gX6_minute_X6_be rfl rfl rfl (by decide +kernel) ⟨Nat.le_of_ble_eq_true rfl, Nat.le_of_ble_eq_true rfl⟩) hK hP hD [0] rfl (by decide) rfl hl.1 rfl (Nat.le_of_ble_eq_true rfl) dX6_minute_147 ⟨Nat.le_of_ble_eq_true rfl, Nat.le_of_ble_eq_true rfl⟩) hP hD hS hA [0] [] rfl rfl (by decide) (by decide) (fun w_217 H locs h_218 hP hD hS => ?_)
                  obtain ⟨f2_219, rfl, x_220⟩ := h_218
                  have hP : va_P D vwCl [(rw, .inl (cI, 45, .inl f2_219))] H := hP
                  have hD : va_D A [(rw, .inl (cI, 45, .inl f2_219))] := hD
                  refine lv_iinc (v := nI (i_1 + 1)) (lv' := [(1, .int (nI (i_1 + 1))), (3, .int r_194), (5, .int r_204), (4, .int ov_200), (2, .int (nI q_34)), (0, .ref rw)]) hx hb dX6_minute_150 hl (k := 4) rfl (nI_add i_1 1) (by decide) rfl (fun ls hl => ?_)
                  refine lv_goto (tgt := 2) hx hb dX6_minute_153 (by decide) ?_
                  exact ih2 ((i_1 + 1)) f2_219 H locs ls (by omega) x_220 hP hD hS (lv_sub hl [0, 5] rfl)
              · skip
                refine lv_iload hx hb dX6_minute_114 (lv_at hl 1 rfl) ?_
                refine lv_goto (tgt := 120) hx hb dX6_minute_116 (by decide) ?_
                refine lv_istore_n (lv' := [(3, .int r_204), (5, .int r_204), (4, .int ov_200), (2, .int (nI q_34)), (1, .int (nI i_1)), (0, .ref rw)]) hx hb dX6_minute_120 rfl hl (by decide) rfl (fun ls hl => ?_)
                refine lv_iload_n hx hb dX6_minute_121 rfl (lv_at hl 0 rfl) ?_
                refine lv_if_le (tgt := 150) hx hb dX6_minute_122 (by decide) (fun c_221 => ?_) (fun c_221 => ?_)
                · skip
                  refine lv_iinc (v := nI (i_1 + 1)) (lv' := [(1, .int (nI (i_1 + 1))), (3, .int r_204), (5, .int r_204), (4, .int ov_200), (2, .int (nI q_34)), (0, .ref rw)]) hx hb dX6_minute_150 hl (k := 4) rfl (nI_add i_1 1) (by decide) rfl (fun ls hl => ?_)
                  refine lv_goto (tgt := 2) hx hb dX6_minute_153 (by decide) ?_
                  exact ih2 ((i_1 + 1)) f2_192 H locs ls (by omega) x_193 hP hD hS (lv_sub hl [0, 5] rfl)
                · skip
                  refine lv_aload_n hx hb dX6_minute_125 rfl (lv_at hl 5 rfl) ?_
                  refine lv_iconst (v := 5) hx hb dX6_minute_126 (by decide) ?_
                  refine lv_iconst (v := 2) hx hb dX6_minute_127 (by decide) ?_
                  refine lv_iload_n hx hb dX6_minute_128 rfl (lv_at hl 3 rfl) ?_
                  refine lv_imul hx hb dX6_minute_129 ?_
                  refine wt_top (z := nI (2 * q_34)) (pk_mul 2 q_34) ?_
                  refine lv_iadd hx hb dX6_minute_130 ?_
                  refine wt_top (z := nI (5 + (2 * q_34))) (nI_add 5 (2 * q_34)) ?_
                  refine lv_dup2_11 hx hb dX6_minute_131 rfl rfl ?_
                  refine va_iald hx hb hK.1 hP 0 0 rfl rfl (vp_in_nI (by omega) (by omega)) dX6_minute_132 ?_
                  refine lv_topi (fun ov_222 _ => ?_)
                  refine lv_iload_n hx hb dX6_minute_133 rfl (lv_at hl 0 rfl) ?_
                  refine lv_isub hx hb dX6_minute_134 ?_
                  refine lv_topi (fun ov_223 _ => ?_)
                  refine va_iast hx hb hK.1 hP hD hS 0 0 rfl rfl (vp_in_nI (by omega) (by omega)) dX6_minute_135 (fun H locs hP hD hS => ?_)
                  have hP : va_P D vwCl [(rw, .inl (cI, 45, .inl (upd f2_192 ((nI (5 + (2 * q_34))).toNatClampNeg) ov_223)))] H := hP
                  have hD : va_D A [(rw, .inl (cI, 45, .inl (upd f2_192 ((nI (5 + (2 * q_34))).toNatClampNeg) ov_223)))] := hD
                  have rk_224 : rk R T (upd f2_192 ((nI (5 + (2 * q_34))).toNatClampNeg) ov_223) := rk_upd (k := (5 + (2 * q_34))) x_193 (nI_clamp (by omega)) (by omega) _
                  generalize upd f2_192 ((nI (5 + (2 * q_34))).toNatClampNeg) ov_223 = rf_225 at hP hD rk_224
                  refine lv_aload_n hx hb dX6_minute_136 rfl (lv_at hl 5 rfl) ?_
                  refine lv_iload_n hx hb dX6_minute_137 rfl (lv_at hl 4 rfl) ?_
                  refine lv_iconst (v := 4) hx hb dX6_minute_138 (by decide) ?_
                  refine lv_aload_n hx hb dX6_minute_139 rfl (lv_at hl 5 rfl) ?_
                  refine lv_iload_n hx hb dX6_minute_140 rfl (lv_at hl 4 rfl) ?_
                  refine lv_iconst (v := 4) hx hb dX6_minute_141 (by decide) ?_
                  refine wt_rS (As := [.ref rw, .int (nI i_1), .int 4]) (rest := [.int 4, .int (nI i_1), .ref rw]) ⟨hx, hb, hml, hown, hts⟩ (c_X6_of_w l D cI cZ cH rw R T rf_225 i_1 4 (by first | assumption | omega) (by first | assumption | omega) (by first | assumption | omega) (by first | assumption | omega) (by first | assumption | omega)) (va_cwS 3 hts gX6_minute_X6_of rfl rfl rfl (by decide +kernel) ⟨Nat.le_of_ble_eq_true rfl, Nat.le_of_ble_eq_true rfl⟩) hK hP [0] rfl rfl hl.1 rfl (Nat.le_of_ble_eq_true rfl) dX6_minute_142 ⟨Nat.le_of_ble_eq_true rfl, Nat.le_of_ble_eq_true rfl⟩ (fun r_226 e_227 => ?_)
                  refine lv_iload_n hx hb dX6_minute_145 rfl (lv_at hl 0 rfl) ?_
                  refine lv_iadd hx hb dX6_minute_146 ?_
                  refine lv_topi (fun ov_228 _ => ?_)
                  refine wt_goV (wr := []) (wt_runS (As := [.ref rw, .int (nI i_1), .int 4, .int ov_228]) (rest := []) ⟨hx, hb, hml, hown, hts⟩ (c_X6_be_w l D cI cZ cH rw R T rf_225 i_1 4 ov_228 (by first | assumption | omega) (by first | assumption | omega) (by first | assumption | omega) (by first | assumption | omega) (by first | assumption | omega)) (va_cwS 4 hts gX6_minute_X6_be rfl rfl rfl (by decide +kernel) ⟨Nat.le_of_ble_eq_true rfl, Nat.le_of_ble_eq_true rfl⟩) hK hP hD [0] rfl (by decide) rfl hl.1 rfl (Nat.le_of_ble_eq_true rfl) dX6_minute_147 ⟨Nat.le_of_ble_eq_true rfl, Nat.le_of_ble_eq_true rfl⟩) hP hD hS hA [0] [] rfl rfl (by decide) (by decide) (fun w_230 H locs h_231 hP hD hS => ?_)
                  obtain ⟨f2_232, rfl, x_233⟩ := h_231
                  have hP : va_P D vwCl [(rw, .inl (cI, 45, .inl f2_232))] H := hP
                  have hD : va_D A [(rw, .inl (cI, 45, .inl f2_232))] := hD
                  refine lv_iinc (v := nI (i_1 + 1)) (lv' := [(1, .int (nI (i_1 + 1))), (3, .int r_204), (5, .int r_204), (4, .int ov_200), (2, .int (nI q_34)), (0, .ref rw)]) hx hb dX6_minute_150 hl (k := 4) rfl (nI_add i_1 1) (by decide) rfl (fun ls hl => ?_)
                  refine lv_goto (tgt := 2) hx hb dX6_minute_153 (by decide) ?_
                  exact ih2 ((i_1 + 1)) f2_232 H locs ls (by omega) x_233 hP hD hS (lv_sub hl [0, 5] rfl)
            · skip
              refine lv_iload hx hb dX6_minute_101 (lv_at hl 1 rfl) ?_
              refine lv_goto (tgt := 107) hx hb dX6_minute_103 (by decide) ?_
              refine lv_istore_n (lv' := [(3, .int ov_200), (5, .int r_204), (4, .int ov_200), (2, .int (nI q_34)), (1, .int (nI i_1)), (0, .ref rw)]) hx hb dX6_minute_107 rfl hl (by decide) rfl (fun ls hl => ?_)
              refine lv_iload_n hx hb dX6_minute_108 rfl (lv_at hl 0 rfl) ?_
              refine lv_iload hx hb dX6_minute_109 (lv_at hl 1 rfl) ?_
              refine lv_icmp_le (tgt := 119) hx hb dX6_minute_111 (by decide) (fun c_234 => ?_) (fun c_234 => ?_)
              · skip
                refine lv_iload_n hx hb dX6_minute_119 rfl (lv_at hl 0 rfl) ?_
                refine lv_istore_n (lv' := [(3, .int ov_200), (5, .int r_204), (4, .int ov_200), (2, .int (nI q_34)), (1, .int (nI i_1)), (0, .ref rw)]) hx hb dX6_minute_120 rfl hl (by decide) rfl (fun ls hl => ?_)
                refine lv_iload_n hx hb dX6_minute_121 rfl (lv_at hl 0 rfl) ?_
                refine lv_if_le (tgt := 150) hx hb dX6_minute_122 (by decide) (fun c_235 => ?_) (fun c_235 => ?_)
                · skip
                  refine lv_iinc (v := nI (i_1 + 1)) (lv' := [(1, .int (nI (i_1 + 1))), (3, .int ov_200), (5, .int r_204), (4, .int ov_200), (2, .int (nI q_34)), (0, .ref rw)]) hx hb dX6_minute_150 hl (k := 4) rfl (nI_add i_1 1) (by decide) rfl (fun ls hl => ?_)
                  refine lv_goto (tgt := 2) hx hb dX6_minute_153 (by decide) ?_
                  exact ih2 ((i_1 + 1)) f2_192 H locs ls (by omega) x_193 hP hD hS (lv_sub hl [0, 5] rfl)
                · skip
                  refine lv_aload_n hx hb dX6_minute_125 rfl (lv_at hl 5 rfl) ?_
                  refine lv_iconst (v := 5) hx hb dX6_minute_126 (by decide) ?_
                  refine lv_iconst (v := 2) hx hb dX6_minute_127 (by decide) ?_
                  refine lv_iload_n hx hb dX6_minute_128 rfl (lv_at hl 3 rfl) ?_
                  refine lv_imul hx hb dX6_minute_129 ?_
                  refine wt_top (z := nI (2 * q_34)) (pk_mul 2 q_34) ?_
                  refine lv_iadd hx hb dX6_minute_130 ?_
                  refine wt_top (z := nI (5 + (2 * q_34))) (nI_add 5 (2 * q_34)) ?_
                  refine lv_dup2_11 hx hb dX6_minute_131 rfl rfl ?_
                  refine va_iald hx hb hK.1 hP 0 0 rfl rfl (vp_in_nI (by omega) (by omega)) dX6_minute_132 ?_
                  refine lv_topi (fun ov_236 _ => ?_)
                  refine lv_iload_n hx hb dX6_minute_133 rfl (lv_at hl 0 rfl) ?_
                  refine lv_isub hx hb dX6_minute_134 ?_
                  refine lv_topi (fun ov_237 _ => ?_)
                  refine va_iast hx hb hK.1 hP hD hS 0 0 rfl rfl (vp_in_nI (by omega) (by omega)) dX6_minute_135 (fun H locs hP hD hS => ?_)
                  have hP : va_P D vwCl [(rw, .inl (cI, 45, .inl (upd f2_192 ((nI (5 + (2 * q_34))).toNatClampNeg) ov_237)))] H := hP
                  have hD : va_D A [(rw, .inl (cI, 45, .inl (upd f2_192 ((nI (5 + (2 * q_34))).toNatClampNeg) ov_237)))] := hD
                  have rk_238 : rk R T (upd f2_192 ((nI (5 + (2 * q_34))).toNatClampNeg) ov_237) := rk_upd (k := (5 + (2 * q_34))) x_193 (nI_clamp (by omega)) (by omega) _
                  generalize upd f2_192 ((nI (5 + (2 * q_34))).toNatClampNeg) ov_237 = rf_239 at hP hD rk_238
                  refine lv_aload_n hx hb dX6_minute_136 rfl (lv_at hl 5 rfl) ?_
                  refine lv_iload_n hx hb dX6_minute_137 rfl (lv_at hl 4 rfl) ?_
                  refine lv_iconst (v := 4) hx hb dX6_minute_138 (by decide) ?_
                  refine lv_aload_n hx hb dX6_minute_139 rfl (lv_at hl 5 rfl) ?_
                  refine lv_iload_n hx hb dX6_minute_140 rfl (lv_at hl 4 rfl) ?_
                  refine lv_iconst (v := 4) hx hb dX6_minute_141 (by decide) ?_
                  refine wt_rS (As := [.ref rw, .int (nI i_1), .int 4]) (rest := [.int 4, .int (nI i_1), .ref rw]) ⟨hx, hb, hml, hown, hts⟩ (c_X6_of_w l D cI cZ cH rw R T rf_239 i_1 4 (by first | assumption | omega) (by first | assumption | omega) (by first | assumption | omega) (by first | assumption | omega) (by first | assumption | omega)) (va_cwS 3 hts gX6_minute_X6_of rfl rfl rfl (by decide +kernel) ⟨Nat.le_of_ble_eq_true rfl, Nat.le_of_ble_eq_true rfl⟩) hK hP [0] rfl rfl hl.1 rfl (Nat.le_of_ble_eq_true rfl) dX6_minute_142 ⟨Nat.le_of_ble_eq_true rfl, Nat.le_of_ble_eq_true rfl⟩ (fun r_240 e_241 => ?_)
                  refine lv_iload_n hx hb dX6_minute_145 rfl (lv_at hl 0 rfl) ?_
                  refine lv_iadd hx hb dX6_minute_146 ?_
                  refine lv_topi (fun ov_242 _ => ?_)
                  refine wt_goV (wr := []) (wt_runS (As := [.ref rw, .int (nI i_1), .int 4, .int ov_242]) (rest := []) ⟨hx, hb, hml, hown, hts⟩ (c_X6_be_w l D cI cZ cH rw R T rf_239 i_1 4 ov_242 (by first | assumption | omega) (by first | assumption | omega) (by first | assumption | omega) (by first | assumption | omega) (by first | assumption | omega)) (va_cwS 4 hts gX6_minute_X6_be rfl rfl rfl (by decide +kernel) ⟨Nat.le_of_ble_eq_true rfl, Nat.le_of_ble_eq_true rfl⟩) hK hP hD [0] rfl (by decide) rfl hl.1 rfl (Nat.le_of_ble_eq_true rfl) dX6_minute_147 ⟨Nat.le_of_ble_eq_true rfl, Nat.le_of_ble_eq_true rfl⟩) hP hD hS hA [0] [] rfl rfl (by decide) (by decide) (fun w_244 H locs h_245 hP hD hS => ?_)
                  obtain ⟨f2_246, rfl, x_247⟩ := h_245
                  have hP : va_P D vwCl [(rw, .inl (cI, 45, .inl f2_246))] H := hP
                  have hD : va_D A [(rw, .inl (cI, 45, .inl f2_246))] := hD
                  refine lv_iinc (v := nI (i_1 + 1)) (lv' := [(1, .int (nI (i_1 + 1))), (3, .int ov_200), (5, .int r_204), (4, .int ov_200), (2, .int (nI q_34)), (0, .ref rw)]) hx hb dX6_minute_150 hl (k := 4) rfl (nI_add i_1 1) (by decide) rfl (fun ls hl => ?_)
                  refine lv_goto (tgt := 2) hx hb dX6_minute_153 (by decide) ?_
                  exact ih2 ((i_1 + 1)) f2_246 H locs ls (by omega) x_247 hP hD hS (lv_sub hl [0, 5] rfl)
              · skip
                refine lv_iload hx hb dX6_minute_114 (lv_at hl 1 rfl) ?_
                refine lv_goto (tgt := 120) hx hb dX6_minute_116 (by decide) ?_
                refine lv_istore_n (lv' := [(3, .int r_204), (5, .int r_204), (4, .int ov_200), (2, .int (nI q_34)), (1, .int (nI i_1)), (0, .ref rw)]) hx hb dX6_minute_120 rfl hl (by decide) rfl (fun ls hl => ?_)
                refine lv_iload_n hx hb dX6_minute_121 rfl (lv_at hl 0 rfl) ?_
                refine lv_if_le (tgt := 150) hx hb dX6_minute_122 (by decide) (fun c_248 => ?_) (fun c_248 => ?_)
                · skip
                  refine lv_iinc (v := nI (i_1 + 1)) (lv' := [(1, .int (nI (i_1 + 1))), (3, .int r_204), (5, .int r_204), (4, .int ov_200), (2, .int (nI q_34)), (0, .ref rw)]) hx hb dX6_minute_150 hl (k := 4) rfl (nI_add i_1 1) (by decide) rfl (fun ls hl => ?_)
                  refine lv_goto (tgt := 2) hx hb dX6_minute_153 (by decide) ?_
                  exact ih2 ((i_1 + 1)) f2_192 H locs ls (by omega) x_193 hP hD hS (lv_sub hl [0, 5] rfl)
                · skip
                  refine lv_aload_n hx hb dX6_minute_125 rfl (lv_at hl 5 rfl) ?_
                  refine lv_iconst (v := 5) hx hb dX6_minute_126 (by decide) ?_
                  refine lv_iconst (v := 2) hx hb dX6_minute_127 (by decide) ?_
                  refine lv_iload_n hx hb dX6_minute_128 rfl (lv_at hl 3 rfl) ?_
                  refine lv_imul hx hb dX6_minute_129 ?_
                  refine wt_top (z := nI (2 * q_34)) (pk_mul 2 q_34) ?_
                  refine lv_iadd hx hb dX6_minute_130 ?_
                  refine wt_top (z := nI (5 + (2 * q_34))) (nI_add 5 (2 * q_34)) ?_
                  refine lv_dup2_11 hx hb dX6_minute_131 rfl rfl ?_
                  refine va_iald hx hb hK.1 hP 0 0 rfl rfl (vp_in_nI (by omega) (by omega)) dX6_minute_132 ?_
                  refine lv_topi (fun ov_249 _ => ?_)
                  refine lv_iload_n hx hb dX6_minute_133 rfl (lv_at hl 0 rfl) ?_
                  refine lv_isub hx hb dX6_minute_134 ?_
                  refine lv_topi (fun ov_250 _ => ?_)
                  refine va_iast hx hb hK.1 hP hD hS 0 0 rfl rfl (vp_in_nI (by omega) (by omega)) dX6_minute_135 (fun H locs hP hD hS => ?_)
                  have hP : va_P D vwCl [(rw, .inl (cI, 45, .inl (upd f2_192 ((nI (5 + (2 * q_34))).toNatClampNeg) ov_250)))] H := hP
                  have hD : va_D A [(rw, .inl (cI, 45, .inl (upd f2_192 ((nI (5 + (2 * q_34))).toNatClampNeg) ov_250)))] := hD
                  have rk_251 : rk R T (upd f2_192 ((nI (5 + (2 * q_34))).toNatClampNeg) ov_250) := rk_upd (k := (5 + (2 * q_34))) x_193 (nI_clamp (by omega)) (by omega) _
                  generalize upd f2_192 ((nI (5 + (2 * q_34))).toNatClampNeg) ov_250 = rf_252 at hP hD rk_251
                  refine lv_aload_n hx hb dX6_minute_136 rfl (lv_at hl 5 rfl) ?_
                  refine lv_iload_n hx hb dX6_minute_137 rfl (lv_at hl 4 rfl) ?_
                  refine lv_iconst (v := 4) hx hb dX6_minute_138 (by decide) ?_
                  refine lv_aload_n hx hb dX6_minute_139 rfl (lv_at hl 5 rfl) ?_
                  refine lv_iload_n hx hb dX6_minute_140 rfl (lv_at hl 4 rfl) ?_
                  refine lv_iconst (v := 4) hx hb dX6_minute_141 (by decide) ?_
                  refine wt_rS (As := [.ref rw, .int (nI i_1), .int 4]) (rest := [.int 4, .int (nI i_1), .ref rw]) ⟨hx, hb, hml, hown, hts⟩ (c_X6_of_w l D cI cZ cH rw R T rf_252 i_1 4 (by first | assumption | omega) (by first | assumption | omega) (by first | assumption | omega) (by first | assumption | omega) (by first | assumption | omega)) (va_cwS 3 hts gX6_minute_X6_of rfl rfl rfl (by decide +kernel) ⟨Nat.le_of_ble_eq_true rfl, Nat.le_of_ble_eq_true rfl⟩) hK hP [0] rfl rfl hl.1 rfl (Nat.le_of_ble_eq_true rfl) dX6_minute_142 ⟨Nat.le_of_ble_eq_true rfl, Nat.le_of_ble_eq_true rfl⟩ (fun r_253 e_254 => ?_)
                  refine lv_iload_n hx hb dX6_minute_145 rfl (lv_at hl 0 rfl) ?_
                  refine lv_iadd hx hb dX6_minute_146 ?_
                  refine lv_topi (fun ov_255 _ => ?_)
                  refine wt_goV (wr := []) (wt_runS (As := [.ref rw, .int (nI i_1), .int 4, .int ov_255]) (rest := []) ⟨hx, hb, hml, hown, hts⟩ (c_X6_be_w l D cI cZ cH rw R T rf_252 i_1 4 ov_255 (by first | assumption | omega) (by first | assumption | omega) (by first | assumption | omega) (by first | assumption | omega) (by first | assumption | omega)) (va_cwS 4 hts gX6_minute_X6_be rfl rfl rfl (by decide +kernel) ⟨Nat.le_of_ble_eq_true rfl, Nat.le_of_ble_eq_true rfl⟩) hK hP hD [0] rfl (by decide) rfl hl.1 rfl (Nat.le_of_ble_eq_true rfl) dX6_minute_147 ⟨Nat.le_of_ble_eq_true rfl, Nat.le_of_ble_eq_true rfl⟩) hP hD hS hA [0] [] rfl rfl (by decide) (by decide) (fun w_257 H locs h_258 hP hD hS => ?_)
                  obtain ⟨f2_259, rfl, x_260⟩ := h_258
                  have hP : va_P D vwCl [(rw, .inl (cI, 45, .inl f2_259))] H := hP
                  have hD : va_D A [(rw, .inl (cI, 45, .inl f2_259))] := hD
                  refine lv_iinc (v := nI (i_1 + 1)) (lv' := [(1, .int (nI (i_1 + 1))), (3, .int r_204), (5, .int r_204), (4, .int ov_200), (2, .int (nI q_34)), (0, .ref rw)]) hx hb dX6_minute_150 hl (k := 4) rfl (nI_add i_1 1) (by decide) rfl (fun ls hl => ?_)
                  refine lv_goto (tgt := 2) hx hb dX6_minute_153 (by decide) ?_
                  exact ih2 ((i_1 + 1)) f2_259 H locs ls (by omega) x_260 hP hD hS (lv_sub hl [0, 5] rfl)
          · skip
            refine lv_iconst (v := 0) hx hb dX6_minute_84 (by decide) ?_
            refine lv_goto (tgt := 93) hx hb dX6_minute_85 (by decide) ?_
            refine lv_istore (lv' := [(5, .int 0), (4, .int ov_200), (3, .int r_194), (2, .int (nI q_34)), (1, .int (nI i_1)), (0, .ref rw)]) hx hb dX6_minute_93 hl (by decide) rfl (fun ls hl => ?_)
            refine lv_iload_n hx hb dX6_minute_95 rfl (lv_at hl 2 rfl) ?_
            refine lv_iload hx hb dX6_minute_96 (lv_at hl 1 rfl) ?_
            refine lv_icmp_le (tgt := 106) hx hb dX6_minute_98 (by decide) (fun c_261 => ?_) (fun c_261 => ?_)
            · skip
              refine lv_iload_n hx hb dX6_minute_106 rfl (lv_at hl 2 rfl) ?_
              refine lv_istore_n (lv' := [(3, .int r_194), (5, .int 0), (4, .int ov_200), (2, .int (nI q_34)), (1, .int (nI i_1)), (0, .ref rw)]) hx hb dX6_minute_107 rfl hl (by decide) rfl (fun ls hl => ?_)
              refine lv_iload_n hx hb dX6_minute_108 rfl (lv_at hl 0 rfl) ?_
              refine lv_iload hx hb dX6_minute_109 (lv_at hl 1 rfl) ?_
              refine lv_icmp_le (tgt := 119) hx hb dX6_minute_111 (by decide) (fun c_262 => ?_) (fun c_262 => ?_)
              · skip
                refine lv_iload_n hx hb dX6_minute_119 rfl (lv_at hl 0 rfl) ?_
                refine lv_istore_n (lv' := [(3, .int r_194), (5, .int 0), (4, .int ov_200), (2, .int (nI q_34)), (1, .int (nI i_1)), (0, .ref rw)]) hx hb dX6_minute_120 rfl hl (by decide) rfl (fun ls hl => ?_)
                refine lv_iload_n hx hb dX6_minute_121 rfl (lv_at hl 0 rfl) ?_
                refine lv_if_le (tgt := 150) hx hb dX6_minute_122 (by decide) (fun _ => ?_) (fun h => absurd c_262 h)
                refine lv_iinc (v := nI (i_1 + 1)) (lv' := [(1, .int (nI (i_1 + 1))), (3, .int r_194), (5, .int 0), (4, .int ov_200), (2, .int (nI q_34)), (0, .ref rw)]) hx hb dX6_minute_150 hl (k := 4) rfl (nI_add i_1 1) (by decide) rfl (fun ls hl => ?_)
                refine lv_goto (tgt := 2) hx hb dX6_minute_153 (by decide) ?_
                exact ih2 ((i_1 + 1)) f2_192 H locs ls (by omega) x_193 hP hD hS (lv_sub hl [0, 5] rfl)
              · skip
                refine lv_iload hx hb dX6_minute_114 (lv_at hl 1 rfl) ?_
                refine lv_goto (tgt := 120) hx hb dX6_minute_116 (by decide) ?_
                refine lv_istore_n (lv' := [(3, .int 0), (5, .int 0), (4, .int ov_200), (2, .int (nI q_34)), (1, .int (nI i_1)), (0, .ref rw)]) hx hb dX6_minute_120 rfl hl (by decide) rfl (fun ls hl => ?_)
                refine lv_iload_n hx hb dX6_minute_121 rfl (lv_at hl 0 rfl) ?_
                refine lv_if_le (tgt := 150) hx hb dX6_minute_122 (by decide) (fun _ => ?_) (fun h => absurd h (by decide))
                refine lv_iinc (v := nI (i_1 + 1)) (lv' := [(1, .int (nI (i_1 + 1))), (3, .int 0), (5, .int 0), (4, .int ov_200), (2, .int (nI q_34)), (0, .ref rw)]) hx hb dX6_minute_150 hl (k := 4) rfl (nI_add i_1 1) (by decide) rfl (fun ls hl => ?_)
                refine lv_goto (tgt := 2) hx hb dX6_minute_153 (by decide) ?_
                exact ih2 ((i_1 + 1)) f2_192 H locs ls (by omega) x_193 hP hD hS (lv_sub hl [0, 5] rfl)
            · skip
              refine lv_iload hx hb dX6_minute_101 (lv_at hl 1 rfl) ?_
              refine lv_goto (tgt := 107) hx hb dX6_minute_103 (by decide) ?_
              refine lv_istore_n (lv' := [(3, .int ov_200), (5, .int 0), (4, .int ov_200), (2, .int (nI q_34)), (1, .int (nI i_1)), (0, .ref rw)]) hx hb dX6_minute_107 rfl hl (by decide) rfl (fun ls hl => ?_)
              refine lv_iload_n hx hb dX6_minute_108 rfl (lv_at hl 0 rfl) ?_
              refine lv_iload hx hb dX6_minute_109 (lv_at hl 1 rfl) ?_
              refine lv_icmp_le (tgt := 119) hx hb dX6_minute_111 (by decide) (fun c_263 => ?_) (fun c_263 => ?_)
              · skip
                refine lv_iload_n hx hb dX6_minute_119 rfl (lv_at hl 0 rfl) ?_
                refine lv_istore_n (lv' := [(3, .int ov_200), (5, .int 0), (4, .int ov_200), (2, .int (nI q_34)), (1, .int (nI i_1)), (0, .ref rw)]) hx hb dX6_minute_120 rfl hl (by decide) rfl (fun ls hl => ?_)
                refine lv_iload_n hx hb dX6_minute_121 rfl (lv_at hl 0 rfl) ?_
                refine lv_if_le (tgt := 150) hx hb dX6_minute_122 (by decide) (fun _ => ?_) (fun h => absurd c_263 h)
                refine lv_iinc (v := nI (i_1 + 1)) (lv' := [(1, .int (nI (i_1 + 1))), (3, .int ov_200), (5, .int 0), (4, .int ov_200), (2, .int (nI q_34)), (0, .ref rw)]) hx hb dX6_minute_150 hl (k := 4) rfl (nI_add i_1 1) (by decide) rfl (fun ls hl => ?_)
                refine lv_goto (tgt := 2) hx hb dX6_minute_153 (by decide) ?_
                exact ih2 ((i_1 + 1)) f2_192 H locs ls (by omega) x_193 hP hD hS (lv_sub hl [0, 5] rfl)
              · skip
                refine lv_iload hx hb dX6_minute_114 (lv_at hl 1 rfl) ?_
                refine lv_goto (tgt := 120) hx hb dX6_minute_116 (by decide) ?_
                refine lv_istore_n (lv' := [(3, .int 0), (5, .int 0), (4, .int ov_200), (2, .int (nI q_34)), (1, .int (nI i_1)), (0, .ref rw)]) hx hb dX6_minute_120 rfl hl (by decide) rfl (fun ls hl => ?_)
                refine lv_iload_n hx hb dX6_minute_121 rfl (lv_at hl 0 rfl) ?_
                refine lv_if_le (tgt := 150) hx hb dX6_minute_122 (by decide) (fun _ => ?_) (fun h => absurd h (by decide))
                refine lv_iinc (v := nI (i_1 + 1)) (lv' := [(1, .int (nI (i_1 + 1))), (3, .int 0), (5, .int 0), (4, .int ov_200), (2, .int (nI q_34)), (0, .ref rw)]) hx hb dX6_minute_150 hl (k := 4) rfl (nI_add i_1 1) (by decide) rfl (fun ls hl => ?_)
                refine lv_goto (tgt := 2) hx hb dX6_minute_153 (by decide) ?_
                exact ih2 ((i_1 + 1)) f2_192 H locs ls (by omega) x_193 hP hD hS (lv_sub hl [0, 5] rfl)
  exact loop2 (T - 0) (0) f _ _ ls (by omega) hrk hP hD hS hl
set_option maxHeartbeats 4000000 in
set_option maxRecDepth 100000 in
theorem c_X6_minutesOf (l : Launch) (D : va_G) (cI cZ cH : ClassId) (rw : Nat) (R T : Nat) (f : Nat → Int32) (n : Nat) (hR5 : R ≤ 5) (hT6 : T ≤ 6) (hrk : rk R T f) (hn60 : n ≤ 60) : wt_M l yX6_minutesOf wsX6_minutesOf ({ frames := 4, cells := 0, slots := 0, locals := 91 } : Room) D (wt_T cI cZ cH) [.ref rw, .int (nI n)] [(rw, .inl (cI, 45, .inl f))] (wt_QV D (fun w => ∃ (f2 : Nat → Int32), w = [(rw, .inl (cI, 45, .inl f2))] ∧ rk R T f2)) := by
  refine wt_M.ofW (cc := cX6_minutesOf) (maxL := 3) (ret := none) (by decide) rfl (Nat.le_of_ble_eq_true rfl) ?_
  intro p e s m below meth c A ls hx hb hr hts hown hlocks hml hnm hP hK hD hA hS hl
  have hP : va_P D vwCl [(rw, .inl (cI, 45, .inl f))] s.heap := hP
  have hown : s.vm.findClass RX6 = some m.cls := hown
  have hl : lv_has ls 3 [(0, .ref rw), (1, .int (nI n))] := hl
  refine lv_iconst (v := 0) hx hb dX6_minutesOf_0 (by decide) ?_
  refine lv_istore_n (lv' := [(2, .int 0), (0, .ref rw), (1, .int (nI n))]) hx hb dX6_minutesOf_1 rfl hl (by decide) rfl (fun ls hl => ?_)
  have loop2 : ∀ (k i_1 : Nat) (f_2 : Nat → Int32) (H : Heap) (locs : List Loc) (ls : Array Slot), i_1 + k = n → (rk R T f_2) → va_P D vwCl [(rw, .inl (cI, 45, .inl f_2))] H → va_D A [(rw, .inl (cI, 45, .inl f_2))] → va_S A s.heap H locs → lv_has ls 3 [(2, .int (nI i_1)), (0, .ref rw), (1, .int (nI n))] → W p l e ({ frames := 4, cells := 0, slots := 0, locals := 91 } : Room) s m ([.ref rw, .int (nI n)] : List Value).toArray below meth c H locs 0 0 (MQ below (wt_QV D (fun w => ∃ (f2 : Nat → Int32), w = [(rw, .inl (cI, 45, .inl f2))] ∧ rk R T f2) A) ([.ref rw, .int (nI n)] : List Value).toArray s 0 0 A) (F0 m 2 ls []) := by
    intro k
    induction k with
    | zero =>
      intro i_1 f_2 H locs ls hik rk_3 hP hD hS hl
      refine lv_iload_n hx hb dX6_minutesOf_2 rfl (lv_at hl 0 rfl) ?_
      refine lv_iload_n hx hb dX6_minutesOf_3 rfl (lv_at hl 2 rfl) ?_
      refine lv_icmp_ge (tgt := 17) hx hb dX6_minutesOf_4 (by decide) (fun _ => ?_) (fun h => absurd (nI_le (a := n) (b := i_1) (by omega) (by omega)) h)
      have hP9 := hP.sub (ws' := [(rw, .inl (cI, 45, .inl f_2))]) [0] rfl
      have hD9 := hD.sub (ws' := [(rw, .inl (cI, 45, .inl f_2))]) [0] (by decide) rfl
      exact wt_vret hx hb hr hlocks hP9 hD9 hS ⟨f_2, rfl, rk_3⟩ dX6_minutesOf_17
    | succ k ih2 =>
      intro i_1 f_2 H locs ls hik rk_3 hP hD hS hl
      refine lv_iload_n hx hb dX6_minutesOf_2 rfl (lv_at hl 0 rfl) ?_
      refine lv_iload_n hx hb dX6_minutesOf_3 rfl (lv_at hl 2 rfl) ?_
      refine lv_icmp_ge (tgt := 17) hx hb dX6_minutesOf_4 (by decide) (fun h => absurd h (nI_ge (a := i_1) (b := n) (by omega) (by omega))) (fun _ => ?_)
      refine lv_aload_n hx hb dX6_minutesOf_7 rfl (lv_at hl 1 rfl) ?_
      refine wt_goV (wr := []) (wt_runS (As := [.ref rw]) (rest := []) ⟨hx, hb, hml, hown, hts⟩ (c_X6_minute l D cI cZ cH rw R T f_2 (by first | assumption | omega) (by first | assumption | omega) (by first | assumption | omega)) (va_cwS 1 hts gX6_minutesOf_X6_minute rfl rfl rfl (by decide +kernel) ⟨Nat.le_of_ble_eq_true rfl, Nat.le_of_ble_eq_true rfl⟩) hK hP hD [0] rfl (by decide) rfl hl.1 rfl (Nat.le_of_ble_eq_true rfl) dX6_minutesOf_8 ⟨Nat.le_of_ble_eq_true rfl, Nat.le_of_ble_eq_true rfl⟩) hP hD hS hA [0] [] rfl rfl (by decide) (by decide) (fun w_5 H locs h_6 hP hD hS => ?_)
      obtain ⟨f2_7, rfl, x_8⟩ := h_6
      have hP : va_P D vwCl [(rw, .inl (cI, 45, .inl f2_7))] H := hP
      have hD : va_D A [(rw, .inl (cI, 45, .inl f2_7))] := hD
      refine lv_iinc (v := nI (i_1 + 1)) (lv' := [(2, .int (nI (i_1 + 1))), (0, .ref rw), (1, .int (nI n))]) hx hb dX6_minutesOf_11 hl (k := 0) rfl (nI_add i_1 1) (by decide) rfl (fun ls hl => ?_)
      refine lv_goto (tgt := 2) hx hb dX6_minutesOf_14 (by decide) ?_
      exact ih2 ((i_1 + 1)) f2_7 H locs ls (by omega) x_8 hP hD hS (lv_sub hl [0, 1, 2] rfl)
  exact loop2 (n - 0) (0) f _ _ ls (by omega) hrk hP hD hS hl
set_option maxHeartbeats 4000000 in
set_option maxRecDepth 100000 in
theorem c_X6_colds (l : Launch) (D : va_G) (cI cZ cH : ClassId) (rw : Nat) (R T : Nat) (f : Nat → Int32) (hR5 : R ≤ 5) (hT6 : T ≤ 6) (hrk : rk R T f) : wt_R l yX6_colds wsX6_colds ({ frames := 2, cells := 0, slots := 0, locals := 42 } : Room) D (wt_T cI cZ cH) [.ref rw] [(rw, .inl (cI, 45, .inl f))] (vp_Si (fun r => True)) := by
  refine wt_R.ofW (cc := cX6_colds) (maxL := 3) (ret := (some .int)) (by decide) rfl (Nat.le_of_ble_eq_true rfl) ?_
  intro p e s m below meth c ls hx hb hr hts hown hlocks hml hP hK hl
  have hown : s.vm.findClass RX6 = some m.cls := hown
  have hl : lv_has ls 3 [(0, .ref rw)] := hl
  refine lv_iconst (v := 0) hx hb dX6_colds_0 (by decide) ?_
  refine lv_istore_n (lv' := [(1, .int 0), (0, .ref rw)]) hx hb dX6_colds_1 rfl hl (by decide) rfl (fun ls hl => ?_)
  refine lv_iconst (v := 0) hx hb dX6_colds_2 (by decide) ?_
  refine lv_istore_n (lv' := [(2, .int 0), (1, .int 0), (0, .ref rw)]) hx hb dX6_colds_3 rfl hl (by decide) rfl (fun ls hl => ?_)
  have loop4 : ∀ (k i_1 : Nat) (y_2 : Int32) (ls : Array Slot), i_1 + k = R → lv_has ls 3 [(2, .int (nI i_1)), (1, .int y_2), (0, .ref rw)] → W p l e ({ frames := 2, cells := 0, slots := 0, locals := 42 } : Room) s m ([.ref rw] : List Value).toArray below meth c s.heap [] 0 0 (MQ below (vp_Si (fun r => True)) ([.ref rw] : List Value).toArray s 0 0 (fun _ => False)) (F0 m 4 ls []) := by
    intro k
    induction k with
    | zero =>
      intro i_1 y_2 ls hik  hl
      refine lv_iload_n hx hb dX6_colds_4 rfl (lv_at hl 0 rfl) ?_
      refine lv_aload_n hx hb dX6_colds_5 rfl (lv_at hl 2 rfl) ?_
      refine lv_iconst (v := 0) hx hb dX6_colds_6 (by decide) ?_
      refine va_iald hx hb hK.1 hP 0 0 rfl rfl (by rw [vp_in_iff]; decide) dX6_colds_7 ?_
      refine wt_top (z := nI R) (hrk.1) ?_
      refine lv_icmp_ge (tgt := 35) hx hb dX6_colds_8 (by decide) (fun _ => ?_) (fun h => absurd (nI_le (a := R) (b := i_1) (by omega) (by omega)) h)
      refine lv_iload_n hx hb dX6_colds_35 rfl (lv_at hl 1 rfl) ?_
      exact wt_siret hx hb hr hlocks (by trivial) dX6_colds_36
    | succ k ih4 =>
      intro i_1 y_2 ls hik  hl
      refine lv_iload_n hx hb dX6_colds_4 rfl (lv_at hl 0 rfl) ?_
      refine lv_aload_n hx hb dX6_colds_5 rfl (lv_at hl 2 rfl) ?_
      refine lv_iconst (v := 0) hx hb dX6_colds_6 (by decide) ?_
      refine va_iald hx hb hK.1 hP 0 0 rfl rfl (by rw [vp_in_iff]; decide) dX6_colds_7 ?_
      refine wt_top (z := nI R) (hrk.1) ?_
      refine lv_icmp_ge (tgt := 35) hx hb dX6_colds_8 (by decide) (fun h => absurd h (nI_ge (a := i_1) (b := R) (by omega) (by omega))) (fun _ => ?_)
      refine lv_iload_n hx hb dX6_colds_11 rfl (lv_at hl 1 rfl) ?_
      refine lv_aload_n hx hb dX6_colds_12 rfl (lv_at hl 2 rfl) ?_
      refine lv_iload_n hx hb dX6_colds_13 rfl (lv_at hl 0 rfl) ?_
      refine wt_rS (As := [.ref rw, .int (nI i_1)]) (rest := [.int y_2]) ⟨hx, hb, hml, hown, hts⟩ (c_X6_isCold l D cI cZ cH rw R T f i_1 (by first | assumption | omega) (by first | assumption | omega) (by first | assumption | omega) (by first | assumption | omega)) (va_cwS 2 hts gX6_colds_X6_isCold rfl rfl rfl (by decide +kernel) ⟨Nat.le_of_ble_eq_true rfl, Nat.le_of_ble_eq_true rfl⟩) hK hP [0] rfl rfl hl.1 rfl (Nat.le_of_ble_eq_true rfl) dX6_colds_14 ⟨Nat.le_of_ble_eq_true rfl, Nat.le_of_ble_eq_true rfl⟩ (fun r_3 e_4 => ?_)
      refine lv_if_eq (tgt := 26) hx hb dX6_colds_17 (by decide) (fun c_5 => ?_) (fun c_5 => ?_)
      · skip
        refine lv_iconst (v := 0) hx hb dX6_colds_26 (by decide) ?_
        refine lv_ior hx hb dX6_colds_27 ?_
        refine lv_topi (fun ov_6 _ => ?_)
        refine lv_istore_n (lv' := [(1, .int ov_6), (2, .int (nI i_1)), (0, .ref rw)]) hx hb dX6_colds_28 rfl hl (by decide) rfl (fun ls hl => ?_)
        refine lv_iinc (v := nI (i_1 + 1)) (lv' := [(2, .int (nI (i_1 + 1))), (1, .int ov_6), (0, .ref rw)]) hx hb dX6_colds_29 hl (k := 1) rfl (nI_add i_1 1) (by decide) rfl (fun ls hl => ?_)
        refine lv_goto (tgt := 4) hx hb dX6_colds_32 (by decide) ?_
        exact ih4 ((i_1 + 1)) ov_6 ls (by omega)  (lv_sub hl [0, 1, 2] rfl)
      · skip
        refine lv_iconst (v := 1) hx hb dX6_colds_20 (by decide) ?_
        refine lv_iload_n hx hb dX6_colds_21 rfl (lv_at hl 0 rfl) ?_
        refine lv_ishl hx hb dX6_colds_22 ?_
        refine wt_top (z := nI (2 ^ i_1)) (wt_shl1 (by omega)) ?_
        refine lv_goto (tgt := 27) hx hb dX6_colds_23 (by decide) ?_
        refine lv_ior hx hb dX6_colds_27 ?_
        refine lv_topi (fun ov_7 _ => ?_)
        refine lv_istore_n (lv' := [(1, .int ov_7), (2, .int (nI i_1)), (0, .ref rw)]) hx hb dX6_colds_28 rfl hl (by decide) rfl (fun ls hl => ?_)
        refine lv_iinc (v := nI (i_1 + 1)) (lv' := [(2, .int (nI (i_1 + 1))), (1, .int ov_7), (0, .ref rw)]) hx hb dX6_colds_29 hl (k := 1) rfl (nI_add i_1 1) (by decide) rfl (fun ls hl => ?_)
        refine lv_goto (tgt := 4) hx hb dX6_colds_32 (by decide) ?_
        exact ih4 ((i_1 + 1)) ov_7 ls (by omega)  (lv_sub hl [0, 1, 2] rfl)
  exact loop4 (R - 0) (0) 0 ls (by omega)  hl
set_option maxHeartbeats 4000000 in
set_option maxRecDepth 100000 in
theorem c_X6_tubesIn (l : Launch) (D : va_G) (cI cZ cH : ClassId) (rw : Nat) (R T : Nat) (f : Nat → Int32) (a1 : Int32) (hR5 : R ≤ 5) (hT6 : T ≤ 6) (hrk : rk R T f) : wt_R l yX6_tubesIn wsX6_tubesIn ({ frames := 1, cells := 0, slots := 0, locals := 22 } : Room) D (wt_T cI cZ cH) [.ref rw, .int a1] [(rw, .inl (cI, 45, .inl f))] (vp_Si (fun r => ∃ b : Nat, b < 64 ∧ r = nI b)) := by
  refine wt_R.ofW (cc := cX6_tubesIn) (maxL := 4) (ret := (some .int)) (by decide) rfl (Nat.le_of_ble_eq_true rfl) ?_
  intro p e s m below meth c ls hx hb hr hts hown hlocks hml hP hK hl
  have hown : s.vm.findClass RX6 = some m.cls := hown
  have hl : lv_has ls 4 [(0, .ref rw), (1, .int a1)] := hl
  refine lv_iconst (v := 0) hx hb dX6_tubesIn_0 (by decide) ?_
  refine lv_istore_n (lv' := [(2, .int 0), (0, .ref rw), (1, .int a1)]) hx hb dX6_tubesIn_1 rfl hl (by decide) rfl (fun ls hl => ?_)
  refine lv_iconst (v := 0) hx hb dX6_tubesIn_2 (by decide) ?_
  refine lv_istore_n (lv' := [(3, .int 0), (2, .int 0), (0, .ref rw), (1, .int a1)]) hx hb dX6_tubesIn_3 rfl hl (by decide) rfl (fun ls hl => ?_)
  have loop4 : ∀ (k i_1 : Nat) (n_2 : Nat) (ls : Array Slot), i_1 + k = T → (n_2 < 64) → lv_has ls 4 [(3, .int (nI i_1)), (2, .int (nI n_2)), (0, .ref rw), (1, .int a1)] → W p l e ({ frames := 1, cells := 0, slots := 0, locals := 22 } : Room) s m ([.ref rw, .int a1] : List Value).toArray below meth c s.heap [] 0 0 (MQ below (vp_Si (fun r => ∃ b : Nat, b < 64 ∧ r = nI b)) ([.ref rw, .int a1] : List Value).toArray s 0 0 (fun _ => False)) (F0 m 4 ls []) := by
    intro k
    induction k with
    | zero =>
      intro i_1 n_2 ls hik hn2 hl
      refine lv_iload_n hx hb dX6_tubesIn_4 rfl (lv_at hl 0 rfl) ?_
      refine lv_aload_n hx hb dX6_tubesIn_5 rfl (lv_at hl 2 rfl) ?_
      refine lv_iconst (v := 1) hx hb dX6_tubesIn_6 (by decide) ?_
      refine va_iald hx hb hK.1 hP 0 0 rfl rfl (by rw [vp_in_iff]; decide) dX6_tubesIn_7 ?_
      refine wt_top (z := nI T) (hrk.2.1) ?_
      refine lv_icmp_ge (tgt := 37) hx hb dX6_tubesIn_8 (by decide) (fun _ => ?_) (fun h => absurd (nI_le (a := T) (b := i_1) (by omega) (by omega)) h)
      refine lv_iload_n hx hb dX6_tubesIn_37 rfl (lv_at hl 1 rfl) ?_
      exact wt_siret hx hb hr hlocks (by exact ⟨n_2, by omega, rfl⟩) dX6_tubesIn_38
    | succ k ih4 =>
      intro i_1 n_2 ls hik hn2 hl
      refine lv_iload_n hx hb dX6_tubesIn_4 rfl (lv_at hl 0 rfl) ?_
      refine lv_aload_n hx hb dX6_tubesIn_5 rfl (lv_at hl 2 rfl) ?_
      refine lv_iconst (v := 1) hx hb dX6_tubesIn_6 (by decide) ?_
      refine va_iald hx hb hK.1 hP 0 0 rfl rfl (by rw [vp_in_iff]; decide) dX6_tubesIn_7 ?_
      refine wt_top (z := nI T) (hrk.2.1) ?_
      refine lv_icmp_ge (tgt := 37) hx hb dX6_tubesIn_8 (by decide) (fun h => absurd h (nI_ge (a := i_1) (b := T) (by omega) (by omega))) (fun _ => ?_)
      refine lv_iload_n hx hb dX6_tubesIn_11 rfl (lv_at hl 1 rfl) ?_
      refine lv_aload_n hx hb dX6_tubesIn_12 rfl (lv_at hl 2 rfl) ?_
      refine lv_iload_n hx hb dX6_tubesIn_13 rfl (lv_at hl 0 rfl) ?_
      refine lv_iconst (v := 1) hx hb dX6_tubesIn_14 (by decide) ?_
      refine wt_rS (As := [.ref rw, .int (nI i_1), .int 1]) (rest := [.int (nI n_2)]) ⟨hx, hb, hml, hown, hts⟩ (c_X6_of_1 l D cI cZ cH rw R T f i_1 (by first | assumption | omega) (by first | assumption | omega) (by first | assumption | omega) (by first | assumption | omega)) (va_cwS 3 hts gX6_tubesIn_X6_of rfl rfl rfl (by decide +kernel) ⟨Nat.le_of_ble_eq_true rfl, Nat.le_of_ble_eq_true rfl⟩) hK hP [0] rfl rfl hl.1 rfl (Nat.le_of_ble_eq_true rfl) dX6_tubesIn_15 ⟨Nat.le_of_ble_eq_true rfl, Nat.le_of_ble_eq_true rfl⟩ (fun r_3 e_4 => ?_)
      obtain ⟨q_5, e_4, rfl⟩ := e_4
      refine lv_iload_n hx hb dX6_tubesIn_18 rfl (lv_at hl 3 rfl) ?_
      refine lv_icmp_ne (tgt := 28) hx hb dX6_tubesIn_19 (by decide) (fun c_6 => ?_) (fun c_6 => ?_)
      · skip
        refine lv_iconst (v := 0) hx hb dX6_tubesIn_28 (by decide) ?_
        refine lv_ior hx hb dX6_tubesIn_29 ?_
        refine wt_top (z := nI (n_2 ||| 0)) (wt_or n_2 0) ?_
        refine lv_istore_n (lv' := [(2, .int (nI (n_2 ||| 0))), (3, .int (nI i_1)), (0, .ref rw), (1, .int a1)]) hx hb dX6_tubesIn_30 rfl hl (by decide) rfl (fun ls hl => ?_)
        refine lv_iinc (v := nI (i_1 + 1)) (lv' := [(3, .int (nI (i_1 + 1))), (2, .int (nI (n_2 ||| 0))), (0, .ref rw), (1, .int a1)]) hx hb dX6_tubesIn_31 hl (k := 1) rfl (nI_add i_1 1) (by decide) rfl (fun ls hl => ?_)
        refine lv_goto (tgt := 4) hx hb dX6_tubesIn_34 (by decide) ?_
        exact ih4 ((i_1 + 1)) (n_2 ||| 0) ls (by omega) (by first | omega | (rw [Nat.or_zero]; omega) | exact wt_or64 (by omega) (by omega)) (lv_sub hl [0, 1, 2, 3] rfl)
      · skip
        refine lv_iconst (v := 1) hx hb dX6_tubesIn_22 (by decide) ?_
        refine lv_iload_n hx hb dX6_tubesIn_23 rfl (lv_at hl 0 rfl) ?_
        refine lv_ishl hx hb dX6_tubesIn_24 ?_
        refine wt_top (z := nI (2 ^ i_1)) (wt_shl1 (by omega)) ?_
        refine lv_goto (tgt := 29) hx hb dX6_tubesIn_25 (by decide) ?_
        refine lv_ior hx hb dX6_tubesIn_29 ?_
        refine wt_top (z := nI (n_2 ||| (2 ^ i_1))) (wt_or n_2 (2 ^ i_1)) ?_
        refine lv_istore_n (lv' := [(2, .int (nI (n_2 ||| (2 ^ i_1)))), (3, .int (nI i_1)), (0, .ref rw), (1, .int a1)]) hx hb dX6_tubesIn_30 rfl hl (by decide) rfl (fun ls hl => ?_)
        refine lv_iinc (v := nI (i_1 + 1)) (lv' := [(3, .int (nI (i_1 + 1))), (2, .int (nI (n_2 ||| (2 ^ i_1)))), (0, .ref rw), (1, .int a1)]) hx hb dX6_tubesIn_31 hl (k := 1) rfl (nI_add i_1 1) (by decide) rfl (fun ls hl => ?_)
        refine lv_goto (tgt := 4) hx hb dX6_tubesIn_34 (by decide) ?_
        exact ih4 ((i_1 + 1)) (n_2 ||| (2 ^ i_1)) ls (by omega) (by first | omega | (rw [Nat.or_zero]; omega) | exact wt_or64 (by omega) (by omega)) (lv_sub hl [0, 1, 2, 3] rfl)
  exact loop4 (T - 0) (0) 0 ls (by omega) (by omega) hl
set_option maxHeartbeats 4000000 in
set_option maxRecDepth 100000 in
theorem c_X6_shaken (l : Launch) (D : va_G) (cI cZ cH : ClassId) (rw : Nat) (R T : Nat) (f : Nat → Int32) (j : Nat) (hR5 : R ≤ 5) (hT6 : T ≤ 6) (hrk : rk R T f) (hj6 : j < 6) : wt_M l yX6_shaken wsX6_shaken ({ frames := 2, cells := 0, slots := 0, locals := 44 } : Room) D (wt_T cI cZ cH) [.ref rw, .int (nI j)] [(rw, .inl (cI, 45, .inl f))] (wt_QI D (fun r w => ∃ (f2 : Nat → Int32), w = [(rw, .inl (cI, 45, .inl f2))] ∧ rk R T f2)) := by
  refine wt_M.ofW (cc := cX6_shaken) (maxL := 3) (ret := (some .int)) (by decide) rfl (Nat.le_of_ble_eq_true rfl) ?_
  intro p e s m below meth c A ls hx hb hr hts hown hlocks hml hnm hP hK hD hA hS hl
  have hP : va_P D vwCl [(rw, .inl (cI, 45, .inl f))] s.heap := hP
  have hown : s.vm.findClass RX6 = some m.cls := hown
  have hl : lv_has ls 3 [(0, .ref rw), (1, .int (nI j))] := hl
  refine lv_aload_n hx hb dX6_shaken_0 rfl (lv_at hl 0 rfl) ?_
  refine lv_iload_n hx hb dX6_shaken_1 rfl (lv_at hl 1 rfl) ?_
  refine lv_iconst (v := 4) hx hb dX6_shaken_2 (by decide) ?_
  refine wt_rS (As := [.ref rw, .int (nI j), .int 4]) (rest := []) ⟨hx, hb, hml, hown, hts⟩ (c_X6_of_w l D cI cZ cH rw R T f j 4 (by first | assumption | omega) (by first | assumption | omega) (by first | assumption | omega) (by first | assumption | omega) (by first | assumption | omega)) (va_cwS 3 hts gX6_shaken_X6_of rfl rfl rfl (by decide +kernel) ⟨Nat.le_of_ble_eq_true rfl, Nat.le_of_ble_eq_true rfl⟩) hK hP [0] rfl rfl hl.1 rfl (Nat.le_of_ble_eq_true rfl) dX6_shaken_3 ⟨Nat.le_of_ble_eq_true rfl, Nat.le_of_ble_eq_true rfl⟩ (fun r_1 e_2 => ?_)
  refine lv_istore_n (lv' := [(2, .int r_1), (0, .ref rw), (1, .int (nI j))]) hx hb dX6_shaken_6 rfl hl (by decide) rfl (fun ls hl => ?_)
  refine lv_aload_n hx hb dX6_shaken_7 rfl (lv_at hl 1 rfl) ?_
  refine lv_aload_n hx hb dX6_shaken_8 rfl (lv_at hl 1 rfl) ?_
  refine lv_iload_n hx hb dX6_shaken_9 rfl (lv_at hl 2 rfl) ?_
  refine lv_iconst (v := 1) hx hb dX6_shaken_10 (by decide) ?_
  refine wt_rS (As := [.ref rw, .int (nI j), .int 1]) (rest := [.ref rw]) ⟨hx, hb, hml, hown, hts⟩ (c_X6_of_1 l D cI cZ cH rw R T f j (by first | assumption | omega) (by first | assumption | omega) (by first | assumption | omega) (by first | assumption | omega)) (va_cwS 3 hts gX6_shaken_X6_of rfl rfl rfl (by decide +kernel) ⟨Nat.le_of_ble_eq_true rfl, Nat.le_of_ble_eq_true rfl⟩) hK hP [0] rfl rfl hl.1 rfl (Nat.le_of_ble_eq_true rfl) dX6_shaken_11 ⟨Nat.le_of_ble_eq_true rfl, Nat.le_of_ble_eq_true rfl⟩ (fun r_3 e_4 => ?_)
  obtain ⟨q_5, e_4, rfl⟩ := e_4
  refine lv_iload_n hx hb dX6_shaken_14 rfl (lv_at hl 0 rfl) ?_
  refine wt_goV (wr := []) (wt_runS (As := [.ref rw, .int (nI q_5), .int r_1]) (rest := []) ⟨hx, hb, hml, hown, hts⟩ (c_X6_gives l D cI cZ cH rw R T f q_5 r_1 (by first | assumption | omega) (by first | assumption | omega) (by first | assumption | omega) (by first | assumption | omega)) (va_cwS 3 hts gX6_shaken_X6_gives rfl rfl rfl (by decide +kernel) ⟨Nat.le_of_ble_eq_true rfl, Nat.le_of_ble_eq_true rfl⟩) hK hP hD [0] rfl (by decide) rfl hl.1 rfl (Nat.le_of_ble_eq_true rfl) dX6_shaken_15 ⟨Nat.le_of_ble_eq_true rfl, Nat.le_of_ble_eq_true rfl⟩) hP hD hS hA [0] [] rfl rfl (by decide) (by decide) (fun w_7 H locs h_8 hP hD hS => ?_)
  obtain ⟨f2_9, rfl, x_10⟩ := h_8
  have hP : va_P D vwCl [(rw, .inl (cI, 45, .inl f2_9))] H := hP
  have hD : va_D A [(rw, .inl (cI, 45, .inl f2_9))] := hD
  refine lv_aload_n hx hb dX6_shaken_18 rfl (lv_at hl 1 rfl) ?_
  refine lv_iload_n hx hb dX6_shaken_19 rfl (lv_at hl 2 rfl) ?_
  refine lv_iconst (v := 4) hx hb dX6_shaken_20 (by decide) ?_
  refine lv_iconst (v := 0) hx hb dX6_shaken_21 (by decide) ?_
  refine wt_goV (wr := []) (wt_runS (As := [.ref rw, .int (nI j), .int 4, .int 0]) (rest := []) ⟨hx, hb, hml, hown, hts⟩ (c_X6_be_w l D cI cZ cH rw R T f2_9 j 4 0 (by first | assumption | omega) (by first | assumption | omega) (by first | assumption | omega) (by first | assumption | omega) (by first | assumption | omega)) (va_cwS 4 hts gX6_shaken_X6_be rfl rfl rfl (by decide +kernel) ⟨Nat.le_of_ble_eq_true rfl, Nat.le_of_ble_eq_true rfl⟩) hK hP hD [0] rfl (by decide) rfl hl.1 rfl (Nat.le_of_ble_eq_true rfl) dX6_shaken_22 ⟨Nat.le_of_ble_eq_true rfl, Nat.le_of_ble_eq_true rfl⟩) hP hD hS hA [0] [] rfl rfl (by decide) (by decide) (fun w_12 H locs h_13 hP hD hS => ?_)
  obtain ⟨f2_14, rfl, x_15⟩ := h_13
  have hP : va_P D vwCl [(rw, .inl (cI, 45, .inl f2_14))] H := hP
  have hD : va_D A [(rw, .inl (cI, 45, .inl f2_14))] := hD
  refine lv_iload_n hx hb dX6_shaken_25 rfl (lv_at hl 0 rfl) ?_
  have hP9 := hP.sub (ws' := [(rw, .inl (cI, 45, .inl f2_14))]) [0] rfl
  have hD9 := hD.sub (ws' := [(rw, .inl (cI, 45, .inl f2_14))]) [0] (by decide) rfl
  exact wt_iret hx hb hr hlocks hP9 hD9 hS ⟨f2_14, rfl, x_15⟩ dX6_shaken_26
set_option maxHeartbeats 4000000 in
set_option maxRecDepth 100000 in
theorem c_X6_poured (l : Launch) (D : va_G) (cI cZ cH : ClassId) (rw : Nat) (R T : Nat) (f : Nat → Int32) (j k : Nat) (hR5 : R ≤ 5) (hT6 : T ≤ 6) (hrk : rk R T f) (hj6 : j < 6) (hk6 : k < 6) : wt_M l yX6_poured wsX6_poured ({ frames := 1, cells := 0, slots := 0, locals := 23 } : Room) D (wt_T cI cZ cH) [.ref rw, .int (nI j), .int (nI k)] [(rw, .inl (cI, 45, .inl f))] (wt_QI D (fun r w => ∃ (f2 : Nat → Int32), w = [(rw, .inl (cI, 45, .inl f2))] ∧ rk R T f2)) := by
  refine wt_M.ofW (cc := cX6_poured) (maxL := 5) (ret := (some .int)) (by decide) rfl (Nat.le_of_ble_eq_true rfl) ?_
  intro p e s m below meth c A ls hx hb hr hts hown hlocks hml hnm hP hK hD hA hS hl
  have hP : va_P D vwCl [(rw, .inl (cI, 45, .inl f))] s.heap := hP
  have hown : s.vm.findClass RX6 = some m.cls := hown
  have hl : lv_has ls 5 [(0, .ref rw), (1, .int (nI j)), (2, .int (nI k))] := hl
  refine lv_aload_n hx hb dX6_poured_0 rfl (lv_at hl 0 rfl) ?_
  refine lv_iload_n hx hb dX6_poured_1 rfl (lv_at hl 2 rfl) ?_
  refine lv_iconst (v := 3) hx hb dX6_poured_2 (by decide) ?_
  refine wt_rS (As := [.ref rw, .int (nI k), .int 3]) (rest := []) ⟨hx, hb, hml, hown, hts⟩ (c_X6_of_w l D cI cZ cH rw R T f k 3 (by first | assumption | omega) (by first | assumption | omega) (by first | assumption | omega) (by first | assumption | omega) (by first | assumption | omega)) (va_cwS 3 hts gX6_poured_X6_of rfl rfl rfl (by decide +kernel) ⟨Nat.le_of_ble_eq_true rfl, Nat.le_of_ble_eq_true rfl⟩) hK hP [0] rfl rfl hl.1 rfl (Nat.le_of_ble_eq_true rfl) dX6_poured_3 ⟨Nat.le_of_ble_eq_true rfl, Nat.le_of_ble_eq_true rfl⟩ (fun r_1 e_2 => ?_)
  refine lv_aload_n hx hb dX6_poured_6 rfl (lv_at hl 0 rfl) ?_
  refine lv_iload_n hx hb dX6_poured_7 rfl (lv_at hl 2 rfl) ?_
  refine lv_iconst (v := 4) hx hb dX6_poured_8 (by decide) ?_
  refine wt_rS (As := [.ref rw, .int (nI k), .int 4]) (rest := [.int r_1]) ⟨hx, hb, hml, hown, hts⟩ (c_X6_of_w l D cI cZ cH rw R T f k 4 (by first | assumption | omega) (by first | assumption | omega) (by first | assumption | omega) (by first | assumption | omega) (by first | assumption | omega)) (va_cwS 3 hts gX6_poured_X6_of rfl rfl rfl (by decide +kernel) ⟨Nat.le_of_ble_eq_true rfl, Nat.le_of_ble_eq_true rfl⟩) hK hP [0] rfl rfl hl.1 rfl (Nat.le_of_ble_eq_true rfl) dX6_poured_9 ⟨Nat.le_of_ble_eq_true rfl, Nat.le_of_ble_eq_true rfl⟩ (fun r_3 e_4 => ?_)
  refine lv_isub hx hb dX6_poured_12 ?_
  refine lv_topi (fun ov_5 _ => ?_)
  refine lv_istore_n (lv' := [(3, .int ov_5), (0, .ref rw), (1, .int (nI j)), (2, .int (nI k))]) hx hb dX6_poured_13 rfl hl (by decide) rfl (fun ls hl => ?_)
  refine lv_aload_n hx hb dX6_poured_14 rfl (lv_at hl 1 rfl) ?_
  refine lv_iload_n hx hb dX6_poured_15 rfl (lv_at hl 2 rfl) ?_
  refine lv_iconst (v := 4) hx hb dX6_poured_16 (by decide) ?_
  refine wt_rS (As := [.ref rw, .int (nI j), .int 4]) (rest := []) ⟨hx, hb, hml, hown, hts⟩ (c_X6_of_w l D cI cZ cH rw R T f j 4 (by first | assumption | omega) (by first | assumption | omega) (by first | assumption | omega) (by first | assumption | omega) (by first | assumption | omega)) (va_cwS 3 hts gX6_poured_X6_of rfl rfl rfl (by decide +kernel) ⟨Nat.le_of_ble_eq_true rfl, Nat.le_of_ble_eq_true rfl⟩) hK hP [0] rfl rfl hl.1 rfl (Nat.le_of_ble_eq_true rfl) dX6_poured_17 ⟨Nat.le_of_ble_eq_true rfl, Nat.le_of_ble_eq_true rfl⟩ (fun r_6 e_7 => ?_)
  refine lv_iload_n hx hb dX6_poured_20 rfl (lv_at hl 0 rfl) ?_
  refine lv_icmp_le (tgt := 28) hx hb dX6_poured_21 (by decide) (fun c_8 => ?_) (fun c_8 => ?_)
  · skip
    refine lv_aload_n hx hb dX6_poured_28 rfl (lv_at hl 1 rfl) ?_
    refine lv_iload_n hx hb dX6_poured_29 rfl (lv_at hl 2 rfl) ?_
    refine lv_iconst (v := 4) hx hb dX6_poured_30 (by decide) ?_
    refine wt_rS (As := [.ref rw, .int (nI j), .int 4]) (rest := []) ⟨hx, hb, hml, hown, hts⟩ (c_X6_of_w l D cI cZ cH rw R T f j 4 (by first | assumption | omega) (by first | assumption | omega) (by first | assumption | omega) (by first | assumption | omega) (by first | assumption | omega)) (va_cwS 3 hts gX6_poured_X6_of rfl rfl rfl (by decide +kernel) ⟨Nat.le_of_ble_eq_true rfl, Nat.le_of_ble_eq_true rfl⟩) hK hP [0] rfl rfl hl.1 rfl (Nat.le_of_ble_eq_true rfl) dX6_poured_31 ⟨Nat.le_of_ble_eq_true rfl, Nat.le_of_ble_eq_true rfl⟩ (fun r_9 e_10 => ?_)
    refine lv_istore (lv' := [(4, .int r_9), (3, .int ov_5), (0, .ref rw), (1, .int (nI j)), (2, .int (nI k))]) hx hb dX6_poured_34 hl (by decide) rfl (fun ls hl => ?_)
    refine lv_aload_n hx hb dX6_poured_36 rfl (lv_at hl 2 rfl) ?_
    refine lv_iload_n hx hb dX6_poured_37 rfl (lv_at hl 3 rfl) ?_
    refine lv_iconst (v := 1) hx hb dX6_poured_38 (by decide) ?_
    refine wt_rS (As := [.ref rw, .int (nI j), .int 1]) (rest := []) ⟨hx, hb, hml, hown, hts⟩ (c_X6_of_1 l D cI cZ cH rw R T f j (by first | assumption | omega) (by first | assumption | omega) (by first | assumption | omega) (by first | assumption | omega)) (va_cwS 3 hts gX6_poured_X6_of rfl rfl rfl (by decide +kernel) ⟨Nat.le_of_ble_eq_true rfl, Nat.le_of_ble_eq_true rfl⟩) hK hP [0] rfl rfl hl.1 rfl (Nat.le_of_ble_eq_true rfl) dX6_poured_39 ⟨Nat.le_of_ble_eq_true rfl, Nat.le_of_ble_eq_true rfl⟩ (fun r_11 e_12 => ?_)
    obtain ⟨q_13, e_12, rfl⟩ := e_12
    refine lv_aload_n hx hb dX6_poured_42 rfl (lv_at hl 2 rfl) ?_
    refine lv_iload_n hx hb dX6_poured_43 rfl (lv_at hl 4 rfl) ?_
    refine lv_iconst (v := 1) hx hb dX6_poured_44 (by decide) ?_
    refine wt_rS (As := [.ref rw, .int (nI k), .int 1]) (rest := [.int (nI q_13)]) ⟨hx, hb, hml, hown, hts⟩ (c_X6_of_1 l D cI cZ cH rw R T f k (by first | assumption | omega) (by first | assumption | omega) (by first | assumption | omega) (by first | assumption | omega)) (va_cwS 3 hts gX6_poured_X6_of rfl rfl rfl (by decide +kernel) ⟨Nat.le_of_ble_eq_true rfl, Nat.le_of_ble_eq_true rfl⟩) hK hP [0] rfl rfl hl.1 rfl (Nat.le_of_ble_eq_true rfl) dX6_poured_45 ⟨Nat.le_of_ble_eq_true rfl, Nat.le_of_ble_eq_true rfl⟩ (fun r_14 e_15 => ?_)
    obtain ⟨q_16, e_15, rfl⟩ := e_15
    refine lv_icmp_ne (tgt := 56) hx hb dX6_poured_48 (by decide) (fun c_17 => ?_) (fun c_17 => ?_)
    · skip
      have c_17 : ¬ (q_13 = q_16) := fun h => c_17 ((nI_eq (a := q_13) (b := q_16) (by omega) (by omega)).mpr h)
      refine lv_iconst (v := 0) hx hb dX6_poured_56 (by decide) ?_
      refine lv_istore (lv' := [(4, .int 0), (3, .int ov_5), (0, .ref rw), (1, .int (nI j)), (2, .int (nI k))]) hx hb dX6_poured_57 hl (by decide) rfl (fun ls hl => ?_)
      refine lv_aload_n hx hb dX6_poured_59 rfl (lv_at hl 2 rfl) ?_
      refine lv_iload_n hx hb dX6_poured_60 rfl (lv_at hl 3 rfl) ?_
      refine lv_iconst (v := 4) hx hb dX6_poured_61 (by decide) ?_
      refine lv_aload_n hx hb dX6_poured_62 rfl (lv_at hl 2 rfl) ?_
      refine lv_iload_n hx hb dX6_poured_63 rfl (lv_at hl 3 rfl) ?_
      refine lv_iconst (v := 4) hx hb dX6_poured_64 (by decide) ?_
      refine wt_rS (As := [.ref rw, .int (nI j), .int 4]) (rest := [.int 4, .int (nI j), .ref rw]) ⟨hx, hb, hml, hown, hts⟩ (c_X6_of_w l D cI cZ cH rw R T f j 4 (by first | assumption | omega) (by first | assumption | omega) (by first | assumption | omega) (by first | assumption | omega) (by first | assumption | omega)) (va_cwS 3 hts gX6_poured_X6_of rfl rfl rfl (by decide +kernel) ⟨Nat.le_of_ble_eq_true rfl, Nat.le_of_ble_eq_true rfl⟩) hK hP [0] rfl rfl hl.1 rfl (Nat.le_of_ble_eq_true rfl) dX6_poured_65 ⟨Nat.le_of_ble_eq_true rfl, Nat.le_of_ble_eq_true rfl⟩ (fun r_18 e_19 => ?_)
      refine lv_iload hx hb dX6_poured_68 (lv_at hl 0 rfl) ?_
      refine lv_isub hx hb dX6_poured_70 ?_
      refine lv_topi (fun ov_20 _ => ?_)
      refine wt_goV (wr := []) (wt_runS (As := [.ref rw, .int (nI j), .int 4, .int ov_20]) (rest := []) ⟨hx, hb, hml, hown, hts⟩ (c_X6_be_w l D cI cZ cH rw R T f j 4 ov_20 (by first | assumption | omega) (by first | assumption | omega) (by first | assumption | omega) (by first | assumption | omega) (by first | assumption | omega)) (va_cwS 4 hts gX6_poured_X6_be rfl rfl rfl (by decide +kernel) ⟨Nat.le_of_ble_eq_true rfl, Nat.le_of_ble_eq_true rfl⟩) hK hP hD [0] rfl (by decide) rfl hl.1 rfl (Nat.le_of_ble_eq_true rfl) dX6_poured_71 ⟨Nat.le_of_ble_eq_true rfl, Nat.le_of_ble_eq_true rfl⟩) hP hD hS hA [0] [] rfl rfl (by decide) (by decide) (fun w_22 H locs h_23 hP hD hS => ?_)
      obtain ⟨f2_24, rfl, x_25⟩ := h_23
      have hP : va_P D vwCl [(rw, .inl (cI, 45, .inl f2_24))] H := hP
      have hD : va_D A [(rw, .inl (cI, 45, .inl f2_24))] := hD
      refine lv_aload_n hx hb dX6_poured_74 rfl (lv_at hl 2 rfl) ?_
      refine lv_iload_n hx hb dX6_poured_75 rfl (lv_at hl 4 rfl) ?_
      refine lv_iconst (v := 4) hx hb dX6_poured_76 (by decide) ?_
      refine lv_aload_n hx hb dX6_poured_77 rfl (lv_at hl 2 rfl) ?_
      refine lv_iload_n hx hb dX6_poured_78 rfl (lv_at hl 4 rfl) ?_
      refine lv_iconst (v := 4) hx hb dX6_poured_79 (by decide) ?_
      refine wt_rS (As := [.ref rw, .int (nI k), .int 4]) (rest := [.int 4, .int (nI k), .ref rw]) ⟨hx, hb, hml, hown, hts⟩ (c_X6_of_w l D cI cZ cH rw R T f2_24 k 4 (by first | assumption | omega) (by first | assumption | omega) (by first | assumption | omega) (by first | assumption | omega) (by first | assumption | omega)) (va_cwS 3 hts gX6_poured_X6_of rfl rfl rfl (by decide +kernel) ⟨Nat.le_of_ble_eq_true rfl, Nat.le_of_ble_eq_true rfl⟩) hK hP [0] rfl rfl hl.1 rfl (Nat.le_of_ble_eq_true rfl) dX6_poured_80 ⟨Nat.le_of_ble_eq_true rfl, Nat.le_of_ble_eq_true rfl⟩ (fun r_26 e_27 => ?_)
      refine lv_iload hx hb dX6_poured_83 (lv_at hl 0 rfl) ?_
      refine lv_iadd hx hb dX6_poured_85 ?_
      refine lv_topi (fun ov_28 _ => ?_)
      refine wt_goV (wr := []) (wt_runS (As := [.ref rw, .int (nI k), .int 4, .int ov_28]) (rest := []) ⟨hx, hb, hml, hown, hts⟩ (c_X6_be_w l D cI cZ cH rw R T f2_24 k 4 ov_28 (by first | assumption | omega) (by first | assumption | omega) (by first | assumption | omega) (by first | assumption | omega) (by first | assumption | omega)) (va_cwS 4 hts gX6_poured_X6_be rfl rfl rfl (by decide +kernel) ⟨Nat.le_of_ble_eq_true rfl, Nat.le_of_ble_eq_true rfl⟩) hK hP hD [0] rfl (by decide) rfl hl.1 rfl (Nat.le_of_ble_eq_true rfl) dX6_poured_86 ⟨Nat.le_of_ble_eq_true rfl, Nat.le_of_ble_eq_true rfl⟩) hP hD hS hA [0] [] rfl rfl (by decide) (by decide) (fun w_30 H locs h_31 hP hD hS => ?_)
      obtain ⟨f2_32, rfl, x_33⟩ := h_31
      have hP : va_P D vwCl [(rw, .inl (cI, 45, .inl f2_32))] H := hP
      have hD : va_D A [(rw, .inl (cI, 45, .inl f2_32))] := hD
      refine lv_iload hx hb dX6_poured_89 (lv_at hl 0 rfl) ?_
      have hP9 := hP.sub (ws' := [(rw, .inl (cI, 45, .inl f2_32))]) [0] rfl
      have hD9 := hD.sub (ws' := [(rw, .inl (cI, 45, .inl f2_32))]) [0] (by decide) rfl
      exact wt_iret hx hb hr hlocks hP9 hD9 hS ⟨f2_32, rfl, x_33⟩ dX6_poured_91
    · skip
      have c_17 : q_13 = q_16 := (nI_eq (a := q_13) (b := q_16) (by omega) (by omega)).mp c_17
      refine lv_iload hx hb dX6_poured_51 (lv_at hl 0 rfl) ?_
      refine lv_goto (tgt := 57) hx hb dX6_poured_53 (by decide) ?_
      refine lv_istore (lv' := [(4, .int r_9), (3, .int ov_5), (0, .ref rw), (1, .int (nI j)), (2, .int (nI k))]) hx hb dX6_poured_57 hl (by decide) rfl (fun ls hl => ?_)
      refine lv_aload_n hx hb dX6_poured_59 rfl (lv_at hl 2 rfl) ?_
      refine lv_iload_n hx hb dX6_poured_60 rfl (lv_at hl 3 rfl) ?_
      refine lv_iconst (v := 4) hx hb dX6_poured_61 (by decide) ?_
      refine lv_aload_n hx hb dX6_poured_62 rfl (lv_at hl 2 rfl) ?_
      refine lv_iload_n hx hb dX6_poured_63 rfl (lv_at hl 3 rfl) ?_
      refine lv_iconst (v := 4) hx hb dX6_poured_64 (by decide) ?_
      refine wt_rS (As := [.ref rw, .int (nI j), .int 4]) (rest := [.int 4, .int (nI j), .ref rw]) ⟨hx, hb, hml, hown, hts⟩ (c_X6_of_w l D cI cZ cH rw R T f j 4 (by first | assumption | omega) (by first | assumption | omega) (by first | assumption | omega) (by first | assumption | omega) (by first | assumption | omega)) (va_cwS 3 hts gX6_poured_X6_of rfl rfl rfl (by decide +kernel) ⟨Nat.le_of_ble_eq_true rfl, Nat.le_of_ble_eq_true rfl⟩) hK hP [0] rfl rfl hl.1 rfl (Nat.le_of_ble_eq_true rfl) dX6_poured_65 ⟨Nat.le_of_ble_eq_true rfl, Nat.le_of_ble_eq_true rfl⟩ (fun r_34 e_35 => ?_)
      refine lv_iload hx hb dX6_poured_68 (lv_at hl 0 rfl) ?_
      refine lv_isub hx hb dX6_poured_70 ?_
      refine lv_topi (fun ov_36 _ => ?_)
      refine wt_goV (wr := []) (wt_runS (As := [.ref rw, .int (nI j), .int 4, .int ov_36]) (rest := []) ⟨hx, hb, hml, hown, hts⟩ (c_X6_be_w l D cI cZ cH rw R T f j 4 ov_36 (by first | assumption | omega) (by first | assumption | omega) (by first | assumption | omega) (by first | assumption | omega) (by first | assumption | omega)) (va_cwS 4 hts gX6_poured_X6_be rfl rfl rfl (by decide +kernel) ⟨Nat.le_of_ble_eq_true rfl, Nat.le_of_ble_eq_true rfl⟩) hK hP hD [0] rfl (by decide) rfl hl.1 rfl (Nat.le_of_ble_eq_true rfl) dX6_poured_71 ⟨Nat.le_of_ble_eq_true rfl, Nat.le_of_ble_eq_true rfl⟩) hP hD hS hA [0] [] rfl rfl (by decide) (by decide) (fun w_38 H locs h_39 hP hD hS => ?_)
      obtain ⟨f2_40, rfl, x_41⟩ := h_39
      have hP : va_P D vwCl [(rw, .inl (cI, 45, .inl f2_40))] H := hP
      have hD : va_D A [(rw, .inl (cI, 45, .inl f2_40))] := hD
      refine lv_aload_n hx hb dX6_poured_74 rfl (lv_at hl 2 rfl) ?_
      refine lv_iload_n hx hb dX6_poured_75 rfl (lv_at hl 4 rfl) ?_
      refine lv_iconst (v := 4) hx hb dX6_poured_76 (by decide) ?_
      refine lv_aload_n hx hb dX6_poured_77 rfl (lv_at hl 2 rfl) ?_
      refine lv_iload_n hx hb dX6_poured_78 rfl (lv_at hl 4 rfl) ?_
      refine lv_iconst (v := 4) hx hb dX6_poured_79 (by decide) ?_
      refine wt_rS (As := [.ref rw, .int (nI k), .int 4]) (rest := [.int 4, .int (nI k), .ref rw]) ⟨hx, hb, hml, hown, hts⟩ (c_X6_of_w l D cI cZ cH rw R T f2_40 k 4 (by first | assumption | omega) (by first | assumption | omega) (by first | assumption | omega) (by first | assumption | omega) (by first | assumption | omega)) (va_cwS 3 hts gX6_poured_X6_of rfl rfl rfl (by decide +kernel) ⟨Nat.le_of_ble_eq_true rfl, Nat.le_of_ble_eq_true rfl⟩) hK hP [0] rfl rfl hl.1 rfl (Nat.le_of_ble_eq_true rfl) dX6_poured_80 ⟨Nat.le_of_ble_eq_true rfl, Nat.le_of_ble_eq_true rfl⟩ (fun r_42 e_43 => ?_)
      refine lv_iload hx hb dX6_poured_83 (lv_at hl 0 rfl) ?_
      refine lv_iadd hx hb dX6_poured_85 ?_
      refine lv_topi (fun ov_44 _ => ?_)
      refine wt_goV (wr := []) (wt_runS (As := [.ref rw, .int (nI k), .int 4, .int ov_44]) (rest := []) ⟨hx, hb, hml, hown, hts⟩ (c_X6_be_w l D cI cZ cH rw R T f2_40 k 4 ov_44 (by first | assumption | omega) (by first | assumption | omega) (by first | assumption | omega) (by first | assumption | omega) (by first | assumption | omega)) (va_cwS 4 hts gX6_poured_X6_be rfl rfl rfl (by decide +kernel) ⟨Nat.le_of_ble_eq_true rfl, Nat.le_of_ble_eq_true rfl⟩) hK hP hD [0] rfl (by decide) rfl hl.1 rfl (Nat.le_of_ble_eq_true rfl) dX6_poured_86 ⟨Nat.le_of_ble_eq_true rfl, Nat.le_of_ble_eq_true rfl⟩) hP hD hS hA [0] [] rfl rfl (by decide) (by decide) (fun w_46 H locs h_47 hP hD hS => ?_)
      obtain ⟨f2_48, rfl, x_49⟩ := h_47
      have hP : va_P D vwCl [(rw, .inl (cI, 45, .inl f2_48))] H := hP
      have hD : va_D A [(rw, .inl (cI, 45, .inl f2_48))] := hD
      refine lv_iload hx hb dX6_poured_89 (lv_at hl 0 rfl) ?_
      have hP9 := hP.sub (ws' := [(rw, .inl (cI, 45, .inl f2_48))]) [0] rfl
      have hD9 := hD.sub (ws' := [(rw, .inl (cI, 45, .inl f2_48))]) [0] (by decide) rfl
      exact wt_iret hx hb hr hlocks hP9 hD9 hS ⟨f2_48, rfl, x_49⟩ dX6_poured_91
  · skip
    refine lv_iload_n hx hb dX6_poured_24 rfl (lv_at hl 0 rfl) ?_
    refine lv_goto (tgt := 34) hx hb dX6_poured_25 (by decide) ?_
    refine lv_istore (lv' := [(4, .int ov_5), (3, .int ov_5), (0, .ref rw), (1, .int (nI j)), (2, .int (nI k))]) hx hb dX6_poured_34 hl (by decide) rfl (fun ls hl => ?_)
    refine lv_aload_n hx hb dX6_poured_36 rfl (lv_at hl 2 rfl) ?_
    refine lv_iload_n hx hb dX6_poured_37 rfl (lv_at hl 3 rfl) ?_
    refine lv_iconst (v := 1) hx hb dX6_poured_38 (by decide) ?_
    refine wt_rS (As := [.ref rw, .int (nI j), .int 1]) (rest := []) ⟨hx, hb, hml, hown, hts⟩ (c_X6_of_1 l D cI cZ cH rw R T f j (by first | assumption | omega) (by first | assumption | omega) (by first | assumption | omega) (by first | assumption | omega)) (va_cwS 3 hts gX6_poured_X6_of rfl rfl rfl (by decide +kernel) ⟨Nat.le_of_ble_eq_true rfl, Nat.le_of_ble_eq_true rfl⟩) hK hP [0] rfl rfl hl.1 rfl (Nat.le_of_ble_eq_true rfl) dX6_poured_39 ⟨Nat.le_of_ble_eq_true rfl, Nat.le_of_ble_eq_true rfl⟩ (fun r_50 e_51 => ?_)
    obtain ⟨q_52, e_51, rfl⟩ := e_51
    refine lv_aload_n hx hb dX6_poured_42 rfl (lv_at hl 2 rfl) ?_
    refine lv_iload_n hx hb dX6_poured_43 rfl (lv_at hl 4 rfl) ?_
    refine lv_iconst (v := 1) hx hb dX6_poured_44 (by decide) ?_
    refine wt_rS (As := [.ref rw, .int (nI k), .int 1]) (rest := [.int (nI q_52)]) ⟨hx, hb, hml, hown, hts⟩ (c_X6_of_1 l D cI cZ cH rw R T f k (by first | assumption | omega) (by first | assumption | omega) (by first | assumption | omega) (by first | assumption | omega)) (va_cwS 3 hts gX6_poured_X6_of rfl rfl rfl (by decide +kernel) ⟨Nat.le_of_ble_eq_true rfl, Nat.le_of_ble_eq_true rfl⟩) hK hP [0] rfl rfl hl.1 rfl (Nat.le_of_ble_eq_true rfl) dX6_poured_45 ⟨Nat.le_of_ble_eq_true rfl, Nat.le_of_ble_eq_true rfl⟩ (fun r_53 e_54 => ?_)
    obtain ⟨q_55, e_54, rfl⟩ := e_54
    refine lv_icmp_ne (tgt := 56) hx hb dX6_poured_48 (by decide) (fun c_56 => ?_) (fun c_56 => ?_)
    · skip
      have c_56 : ¬ (q_52 = q_55) := fun h => c_56 ((nI_eq (a := q_52) (b := q_55) (by omega) (by omega)).mpr h)
      refine lv_iconst (v := 0) hx hb dX6_poured_56 (by decide) ?_
      refine lv_istore (lv' := [(4, .int 0), (3, .int ov_5), (0, .ref rw), (1, .int (nI j)), (2, .int (nI k))]) hx hb dX6_poured_57 hl (by decide) rfl (fun ls hl => ?_)
      refine lv_aload_n hx hb dX6_poured_59 rfl (lv_at hl 2 rfl) ?_
      refine lv_iload_n hx hb dX6_poured_60 rfl (lv_at hl 3 rfl) ?_
      refine lv_iconst (v := 4) hx hb dX6_poured_61 (by decide) ?_
      refine lv_aload_n hx hb dX6_poured_62 rfl (lv_at hl 2 rfl) ?_
      refine lv_iload_n hx hb dX6_poured_63 rfl (lv_at hl 3 rfl) ?_
      refine lv_iconst (v := 4) hx hb dX6_poured_64 (by decide) ?_
      refine wt_rS (As := [.ref rw, .int (nI j), .int 4]) (rest := [.int 4, .int (nI j), .ref rw]) ⟨hx, hb, hml, hown, hts⟩ (c_X6_of_w l D cI cZ cH rw R T f j 4 (by first | assumption | omega) (by first | assumption | omega) (by first | assumption | omega) (by first | assumption | omega) (by first | assumption | omega)) (va_cwS 3 hts gX6_poured_X6_of rfl rfl rfl (by decide +kernel) ⟨Nat.le_of_ble_eq_true rfl, Nat.le_of_ble_eq_true rfl⟩) hK hP [0] rfl rfl hl.1 rfl (Nat.le_of_ble_eq_true rfl) dX6_poured_65 ⟨Nat.le_of_ble_eq_true rfl, Nat.le_of_ble_eq_true rfl⟩ (fun r_57 e_58 => ?_)
      refine lv_iload hx hb dX6_poured_68 (lv_at hl 0 rfl) ?_
      refine lv_isub hx hb dX6_poured_70 ?_
      refine lv_topi (fun ov_59 _ => ?_)
      refine wt_goV (wr := []) (wt_runS (As := [.ref rw, .int (nI j), .int 4, .int ov_59]) (rest := []) ⟨hx, hb, hml, hown, hts⟩ (c_X6_be_w l D cI cZ cH rw R T f j 4 ov_59 (by first | assumption | omega) (by first | assumption | omega) (by first | assumption | omega) (by first | assumption | omega) (by first | assumption | omega)) (va_cwS 4 hts gX6_poured_X6_be rfl rfl rfl (by decide +kernel) ⟨Nat.le_of_ble_eq_true rfl, Nat.le_of_ble_eq_true rfl⟩) hK hP hD [0] rfl (by decide) rfl hl.1 rfl (Nat.le_of_ble_eq_true rfl) dX6_poured_71 ⟨Nat.le_of_ble_eq_true rfl, Nat.le_of_ble_eq_true rfl⟩) hP hD hS hA [0] [] rfl rfl (by decide) (by decide) (fun w_61 H locs h_62 hP hD hS => ?_)
      obtain ⟨f2_63, rfl, x_64⟩ := h_62
      have hP : va_P D vwCl [(rw, .inl (cI, 45, .inl f2_63))] H := hP
      have hD : va_D A [(rw, .inl (cI, 45, .inl f2_63))] := hD
      refine lv_aload_n hx hb dX6_poured_74 rfl (lv_at hl 2 rfl) ?_
      refine lv_iload_n hx hb dX6_poured_75 rfl (lv_at hl 4 rfl) ?_
      refine lv_iconst (v := 4) hx hb dX6_poured_76 (by decide) ?_
      refine lv_aload_n hx hb dX6_poured_77 rfl (lv_at hl 2 rfl) ?_
      refine lv_iload_n hx hb dX6_poured_78 rfl (lv_at hl 4 rfl) ?_
      refine lv_iconst (v := 4) hx hb dX6_poured_79 (by decide) ?_
      refine wt_rS (As := [.ref rw, .int (nI k), .int 4]) (rest := [.int 4, .int (nI k), .ref rw]) ⟨hx, hb, hml, hown, hts⟩ (c_X6_of_w l D cI cZ cH rw R T f2_63 k 4 (by first | assumption | omega) (by first | assumption | omega) (by first | assumption | omega) (by first | assumption | omega) (by first | assumption | omega)) (va_cwS 3 hts gX6_poured_X6_of rfl rfl rfl (by decide +kernel) ⟨Nat.le_of_ble_eq_true rfl, Nat.le_of_ble_eq_true rfl⟩) hK hP [0] rfl rfl hl.1 rfl (Nat.le_of_ble_eq_true rfl) dX6_poured_80 ⟨Nat.le_of_ble_eq_true rfl, Nat.le_of_ble_eq_true rfl⟩ (fun r_65 e_66 => ?_)
      refine lv_iload hx hb dX6_poured_83 (lv_at hl 0 rfl) ?_
      refine lv_iadd hx hb dX6_poured_85 ?_
      refine lv_topi (fun ov_67 _ => ?_)
      refine wt_goV (wr := []) (wt_runS (As := [.ref rw, .int (nI k), .int 4, .int ov_67]) (rest := []) ⟨hx, hb, hml, hown, hts⟩ (c_X6_be_w l D cI cZ cH rw R T f2_63 k 4 ov_67 (by first | assumption | omega) (by first | assumption | omega) (by first | assumption | omega) (by first | assumption | omega) (by first | assumption | omega)) (va_cwS 4 hts gX6_poured_X6_be rfl rfl rfl (by decide +kernel) ⟨Nat.le_of_ble_eq_true rfl, Nat.le_of_ble_eq_true rfl⟩) hK hP hD [0] rfl (by decide) rfl hl.1 rfl (Nat.le_of_ble_eq_true rfl) dX6_poured_86 ⟨Nat.le_of_ble_eq_true rfl, Nat.le_of_ble_eq_true rfl⟩) hP hD hS hA [0] [] rfl rfl (by decide) (by decide) (fun w_69 H locs h_70 hP hD hS => ?_)
      obtain ⟨f2_71, rfl, x_72⟩ := h_70
      have hP : va_P D vwCl [(rw, .inl (cI, 45, .inl f2_71))] H := hP
      have hD : va_D A [(rw, .inl (cI, 45, .inl f2_71))] := hD
      refine lv_iload hx hb dX6_poured_89 (lv_at hl 0 rfl) ?_
      have hP9 := hP.sub (ws' := [(rw, .inl (cI, 45, .inl f2_71))]) [0] rfl
      have hD9 := hD.sub (ws' := [(rw, .inl (cI, 45, .inl f2_71))]) [0] (by decide) rfl
      exact wt_iret hx hb hr hlocks hP9 hD9 hS ⟨f2_71, rfl, x_72⟩ dX6_poured_91
    · skip
      have c_56 : q_52 = q_55 := (nI_eq (a := q_52) (b := q_55) (by omega) (by omega)).mp c_56
      refine lv_iload hx hb dX6_poured_51 (lv_at hl 0 rfl) ?_
      refine lv_goto (tgt := 57) hx hb dX6_poured_53 (by decide) ?_
      refine lv_istore (lv' := [(4, .int ov_5), (3, .int ov_5), (0, .ref rw), (1, .int (nI j)), (2, .int (nI k))]) hx hb dX6_poured_57 hl (by decide) rfl (fun ls hl => ?_)
      refine lv_aload_n hx hb dX6_poured_59 rfl (lv_at hl 2 rfl) ?_
      refine lv_iload_n hx hb dX6_poured_60 rfl (lv_at hl 3 rfl) ?_
      refine lv_iconst (v := 4) hx hb dX6_poured_61 (by decide) ?_
      refine lv_aload_n hx hb dX6_poured_62 rfl (lv_at hl 2 rfl) ?_
      refine lv_iload_n hx hb dX6_poured_63 rfl (lv_at hl 3 rfl) ?_
      refine lv_iconst (v := 4) hx hb dX6_poured_64 (by decide) ?_
      refine wt_rS (As := [.ref rw, .int (nI j), .int 4]) (rest := [.int 4, .int (nI j), .ref rw]) ⟨hx, hb, hml, hown, hts⟩ (c_X6_of_w l D cI cZ cH rw R T f j 4 (by first | assumption | omega) (by first | assumption | omega) (by first | assumption | omega) (by first | assumption | omega) (by first | assumption | omega)) (va_cwS 3 hts gX6_poured_X6_of rfl rfl rfl (by decide +kernel) ⟨Nat.le_of_ble_eq_true rfl, Nat.le_of_ble_eq_true rfl⟩) hK hP [0] rfl rfl hl.1 rfl (Nat.le_of_ble_eq_true rfl) dX6_poured_65 ⟨Nat.le_of_ble_eq_true rfl, Nat.le_of_ble_eq_true rfl⟩ (fun r_73 e_74 => ?_)
      refine lv_iload hx hb dX6_poured_68 (lv_at hl 0 rfl) ?_
      refine lv_isub hx hb dX6_poured_70 ?_
      refine lv_topi (fun ov_75 _ => ?_)
      refine wt_goV (wr := []) (wt_runS (As := [.ref rw, .int (nI j), .int 4, .int ov_75]) (rest := []) ⟨hx, hb, hml, hown, hts⟩ (c_X6_be_w l D cI cZ cH rw R T f j 4 ov_75 (by first | assumption | omega) (by first | assumption | omega) (by first | assumption | omega) (by first | assumption | omega) (by first | assumption | omega)) (va_cwS 4 hts gX6_poured_X6_be rfl rfl rfl (by decide +kernel) ⟨Nat.le_of_ble_eq_true rfl, Nat.le_of_ble_eq_true rfl⟩) hK hP hD [0] rfl (by decide) rfl hl.1 rfl (Nat.le_of_ble_eq_true rfl) dX6_poured_71 ⟨Nat.le_of_ble_eq_true rfl, Nat.le_of_ble_eq_true rfl⟩) hP hD hS hA [0] [] rfl rfl (by decide) (by decide) (fun w_77 H locs h_78 hP hD hS => ?_)
      obtain ⟨f2_79, rfl, x_80⟩ := h_78
      have hP : va_P D vwCl [(rw, .inl (cI, 45, .inl f2_79))] H := hP
      have hD : va_D A [(rw, .inl (cI, 45, .inl f2_79))] := hD
      refine lv_aload_n hx hb dX6_poured_74 rfl (lv_at hl 2 rfl) ?_
      refine lv_iload_n hx hb dX6_poured_75 rfl (lv_at hl 4 rfl) ?_
      refine lv_iconst (v := 4) hx hb dX6_poured_76 (by decide) ?_
      refine lv_aload_n hx hb dX6_poured_77 rfl (lv_at hl 2 rfl) ?_
      refine lv_iload_n hx hb dX6_poured_78 rfl (lv_at hl 4 rfl) ?_
      refine lv_iconst (v := 4) hx hb dX6_poured_79 (by decide) ?_
      refine wt_rS (As := [.ref rw, .int (nI k), .int 4]) (rest := [.int 4, .int (nI k), .ref rw]) ⟨hx, hb, hml, hown, hts⟩ (c_X6_of_w l D cI cZ cH rw R T f2_79 k 4 (by first | assumption | omega) (by first | assumption | omega) (by first | assumption | omega) (by first | assumption | omega) (by first | assumption | omega)) (va_cwS 3 hts gX6_poured_X6_of rfl rfl rfl (by decide +kernel) ⟨Nat.le_of_ble_eq_true rfl, Nat.le_of_ble_eq_true rfl⟩) hK hP [0] rfl rfl hl.1 rfl (Nat.le_of_ble_eq_true rfl) dX6_poured_80 ⟨Nat.le_of_ble_eq_true rfl, Nat.le_of_ble_eq_true rfl⟩ (fun r_81 e_82 => ?_)
      refine lv_iload hx hb dX6_poured_83 (lv_at hl 0 rfl) ?_
      refine lv_iadd hx hb dX6_poured_85 ?_
      refine lv_topi (fun ov_83 _ => ?_)
      refine wt_goV (wr := []) (wt_runS (As := [.ref rw, .int (nI k), .int 4, .int ov_83]) (rest := []) ⟨hx, hb, hml, hown, hts⟩ (c_X6_be_w l D cI cZ cH rw R T f2_79 k 4 ov_83 (by first | assumption | omega) (by first | assumption | omega) (by first | assumption | omega) (by first | assumption | omega) (by first | assumption | omega)) (va_cwS 4 hts gX6_poured_X6_be rfl rfl rfl (by decide +kernel) ⟨Nat.le_of_ble_eq_true rfl, Nat.le_of_ble_eq_true rfl⟩) hK hP hD [0] rfl (by decide) rfl hl.1 rfl (Nat.le_of_ble_eq_true rfl) dX6_poured_86 ⟨Nat.le_of_ble_eq_true rfl, Nat.le_of_ble_eq_true rfl⟩) hP hD hS hA [0] [] rfl rfl (by decide) (by decide) (fun w_85 H locs h_86 hP hD hS => ?_)
      obtain ⟨f2_87, rfl, x_88⟩ := h_86
      have hP : va_P D vwCl [(rw, .inl (cI, 45, .inl f2_87))] H := hP
      have hD : va_D A [(rw, .inl (cI, 45, .inl f2_87))] := hD
      refine lv_iload hx hb dX6_poured_89 (lv_at hl 0 rfl) ?_
      have hP9 := hP.sub (ws' := [(rw, .inl (cI, 45, .inl f2_87))]) [0] rfl
      have hD9 := hD.sub (ws' := [(rw, .inl (cI, 45, .inl f2_87))]) [0] (by decide) rfl
      exact wt_iret hx hb hr hlocks hP9 hD9 hS ⟨f2_87, rfl, x_88⟩ dX6_poured_91
set_option maxHeartbeats 4000000 in
set_option maxRecDepth 100000 in
theorem c_X6_upOf (l : Launch) (D : va_G) (cI cZ cH : ClassId) (rw : Nat) (R T : Nat) (f : Nat → Int32) (hR5 : R ≤ 5) (hT6 : T ≤ 6) (hrk : rk R T f) : wt_R l yX6_upOf wsX6_upOf ({ frames := 1, cells := 0, slots := 0, locals := 22 } : Room) D (wt_T cI cZ cH) [.ref rw] [(rw, .inl (cI, 45, .inl f))] (vp_Si (fun r => True)) := by
  refine wt_R.ofW (cc := cX6_upOf) (maxL := 3) (ret := (some .int)) (by decide) rfl (Nat.le_of_ble_eq_true rfl) ?_
  intro p e s m below meth c ls hx hb hr hts hown hlocks hml hP hK hl
  have hown : s.vm.findClass RX6 = some m.cls := hown
  have hl : lv_has ls 3 [(0, .ref rw)] := hl
  refine lv_iconst (v := 0) hx hb dX6_upOf_0 (by decide) ?_
  refine lv_istore_n (lv' := [(1, .int 0), (0, .ref rw)]) hx hb dX6_upOf_1 rfl hl (by decide) rfl (fun ls hl => ?_)
  refine lv_iconst (v := 0) hx hb dX6_upOf_2 (by decide) ?_
  refine lv_istore_n (lv' := [(2, .int 0), (1, .int 0), (0, .ref rw)]) hx hb dX6_upOf_3 rfl hl (by decide) rfl (fun ls hl => ?_)
  have loop4 : ∀ (k i_1 : Nat) (y_2 : Int32) (ls : Array Slot), i_1 + k = T → lv_has ls 3 [(2, .int (nI i_1)), (1, .int y_2), (0, .ref rw)] → W p l e ({ frames := 1, cells := 0, slots := 0, locals := 22 } : Room) s m ([.ref rw] : List Value).toArray below meth c s.heap [] 0 0 (MQ below (vp_Si (fun r => True)) ([.ref rw] : List Value).toArray s 0 0 (fun _ => False)) (F0 m 4 ls []) := by
    intro k
    induction k with
    | zero =>
      intro i_1 y_2 ls hik  hl
      refine lv_iload_n hx hb dX6_upOf_4 rfl (lv_at hl 0 rfl) ?_
      refine lv_aload_n hx hb dX6_upOf_5 rfl (lv_at hl 2 rfl) ?_
      refine lv_iconst (v := 1) hx hb dX6_upOf_6 (by decide) ?_
      refine va_iald hx hb hK.1 hP 0 0 rfl rfl (by rw [vp_in_iff]; decide) dX6_upOf_7 ?_
      refine wt_top (z := nI T) (hrk.2.1) ?_
      refine lv_icmp_ge (tgt := 26) hx hb dX6_upOf_8 (by decide) (fun _ => ?_) (fun h => absurd (nI_le (a := T) (b := i_1) (by omega) (by omega)) h)
      refine lv_iload_n hx hb dX6_upOf_26 rfl (lv_at hl 1 rfl) ?_
      exact wt_siret hx hb hr hlocks (by trivial) dX6_upOf_27
    | succ k ih4 =>
      intro i_1 y_2 ls hik  hl
      refine lv_iload_n hx hb dX6_upOf_4 rfl (lv_at hl 0 rfl) ?_
      refine lv_aload_n hx hb dX6_upOf_5 rfl (lv_at hl 2 rfl) ?_
      refine lv_iconst (v := 1) hx hb dX6_upOf_6 (by decide) ?_
      refine va_iald hx hb hK.1 hP 0 0 rfl rfl (by rw [vp_in_iff]; decide) dX6_upOf_7 ?_
      refine wt_top (z := nI T) (hrk.2.1) ?_
      refine lv_icmp_ge (tgt := 26) hx hb dX6_upOf_8 (by decide) (fun h => absurd h (nI_ge (a := i_1) (b := T) (by omega) (by omega))) (fun _ => ?_)
      refine lv_iload_n hx hb dX6_upOf_11 rfl (lv_at hl 1 rfl) ?_
      refine lv_aload_n hx hb dX6_upOf_12 rfl (lv_at hl 2 rfl) ?_
      refine lv_iload_n hx hb dX6_upOf_13 rfl (lv_at hl 0 rfl) ?_
      refine lv_iconst (v := 4) hx hb dX6_upOf_14 (by decide) ?_
      refine wt_rS (As := [.ref rw, .int (nI i_1), .int 4]) (rest := [.int y_2]) ⟨hx, hb, hml, hown, hts⟩ (c_X6_of_w l D cI cZ cH rw R T f i_1 4 (by first | assumption | omega) (by first | assumption | omega) (by first | assumption | omega) (by first | assumption | omega) (by first | assumption | omega)) (va_cwS 3 hts gX6_upOf_X6_of rfl rfl rfl (by decide +kernel) ⟨Nat.le_of_ble_eq_true rfl, Nat.le_of_ble_eq_true rfl⟩) hK hP [0] rfl rfl hl.1 rfl (Nat.le_of_ble_eq_true rfl) dX6_upOf_15 ⟨Nat.le_of_ble_eq_true rfl, Nat.le_of_ble_eq_true rfl⟩ (fun r_3 e_4 => ?_)
      refine lv_iadd hx hb dX6_upOf_18 ?_
      refine lv_topi (fun ov_5 _ => ?_)
      refine lv_istore_n (lv' := [(1, .int ov_5), (2, .int (nI i_1)), (0, .ref rw)]) hx hb dX6_upOf_19 rfl hl (by decide) rfl (fun ls hl => ?_)
      refine lv_iinc (v := nI (i_1 + 1)) (lv' := [(2, .int (nI (i_1 + 1))), (1, .int ov_5), (0, .ref rw)]) hx hb dX6_upOf_20 hl (k := 1) rfl (nI_add i_1 1) (by decide) rfl (fun ls hl => ?_)
      refine lv_goto (tgt := 4) hx hb dX6_upOf_23 (by decide) ?_
      exact ih4 ((i_1 + 1)) ov_5 ls (by omega)  (lv_sub hl [0, 1, 2] rfl)
  exact loop4 (T - 0) (0) 0 ls (by omega)  hl
set_option maxHeartbeats 4000000 in
set_option maxRecDepth 100000 in
theorem c_X6_degreesOf (l : Launch) (D : va_G) (cI cZ cH : ClassId) (rw : Nat) (R T : Nat) (f : Nat → Int32) (hR5 : R ≤ 5) (hT6 : T ≤ 6) (hrk : rk R T f) : wt_R l yX6_degreesOf wsX6_degreesOf ({ frames := 2, cells := 0, slots := 0, locals := 44 } : Room) D (wt_T cI cZ cH) [.ref rw] [(rw, .inl (cI, 45, .inl f))] (vp_Si (fun r => True)) := by
  refine wt_R.ofW (cc := cX6_degreesOf) (maxL := 3) (ret := (some .int)) (by decide) rfl (Nat.le_of_ble_eq_true rfl) ?_
  intro p e s m below meth c ls hx hb hr hts hown hlocks hml hP hK hl
  have hown : s.vm.findClass RX6 = some m.cls := hown
  have hl : lv_has ls 3 [(0, .ref rw)] := hl
  refine lv_aload_n hx hb dX6_degreesOf_0 rfl (lv_at hl 0 rfl) ?_
  refine wt_rS (As := [.ref rw]) (rest := []) ⟨hx, hb, hml, hown, hts⟩ (c_X6_upOf l D cI cZ cH rw R T f (by first | assumption | omega) (by first | assumption | omega) (by first | assumption | omega)) (va_cwS 1 hts gX6_degreesOf_X6_upOf rfl rfl rfl (by decide +kernel) ⟨Nat.le_of_ble_eq_true rfl, Nat.le_of_ble_eq_true rfl⟩) hK hP [0] rfl rfl hl.1 rfl (Nat.le_of_ble_eq_true rfl) dX6_degreesOf_1 ⟨Nat.le_of_ble_eq_true rfl, Nat.le_of_ble_eq_true rfl⟩ (fun r_1 e_2 => ?_)
  refine lv_istore_n (lv' := [(1, .int r_1), (0, .ref rw)]) hx hb dX6_degreesOf_4 rfl hl (by decide) rfl (fun ls hl => ?_)
  refine lv_iconst (v := 0) hx hb dX6_degreesOf_5 (by decide) ?_
  refine lv_istore_n (lv' := [(2, .int 0), (1, .int r_1), (0, .ref rw)]) hx hb dX6_degreesOf_6 rfl hl (by decide) rfl (fun ls hl => ?_)
  have loop7 : ∀ (k i_3 : Nat) (y_4 : Int32) (ls : Array Slot), i_3 + k = R → lv_has ls 3 [(2, .int (nI i_3)), (1, .int y_4), (0, .ref rw)] → W p l e ({ frames := 2, cells := 0, slots := 0, locals := 44 } : Room) s m ([.ref rw] : List Value).toArray below meth c s.heap [] 0 0 (MQ below (vp_Si (fun r => True)) ([.ref rw] : List Value).toArray s 0 0 (fun _ => False)) (F0 m 7 ls []) := by
    intro k
    induction k with
    | zero =>
      intro i_3 y_4 ls hik  hl
      refine lv_iload_n hx hb dX6_degreesOf_7 rfl (lv_at hl 0 rfl) ?_
      refine lv_aload_n hx hb dX6_degreesOf_8 rfl (lv_at hl 2 rfl) ?_
      refine lv_iconst (v := 0) hx hb dX6_degreesOf_9 (by decide) ?_
      refine va_iald hx hb hK.1 hP 0 0 rfl rfl (by rw [vp_in_iff]; decide) dX6_degreesOf_10 ?_
      refine wt_top (z := nI R) (hrk.1) ?_
      refine lv_icmp_ge (tgt := 28) hx hb dX6_degreesOf_11 (by decide) (fun _ => ?_) (fun h => absurd (nI_le (a := R) (b := i_3) (by omega) (by omega)) h)
      refine lv_iload_n hx hb dX6_degreesOf_28 rfl (lv_at hl 1 rfl) ?_
      exact wt_siret hx hb hr hlocks (by trivial) dX6_degreesOf_29
    | succ k ih7 =>
      intro i_3 y_4 ls hik  hl
      refine lv_iload_n hx hb dX6_degreesOf_7 rfl (lv_at hl 0 rfl) ?_
      refine lv_aload_n hx hb dX6_degreesOf_8 rfl (lv_at hl 2 rfl) ?_
      refine lv_iconst (v := 0) hx hb dX6_degreesOf_9 (by decide) ?_
      refine va_iald hx hb hK.1 hP 0 0 rfl rfl (by rw [vp_in_iff]; decide) dX6_degreesOf_10 ?_
      refine wt_top (z := nI R) (hrk.1) ?_
      refine lv_icmp_ge (tgt := 28) hx hb dX6_degreesOf_11 (by decide) (fun h => absurd h (nI_ge (a := i_3) (b := R) (by omega) (by omega))) (fun _ => ?_)
      refine lv_iload_n hx hb dX6_degreesOf_14 rfl (lv_at hl 1 rfl) ?_
      refine lv_aload_n hx hb dX6_degreesOf_15 rfl (lv_at hl 2 rfl) ?_
      refine lv_iload_n hx hb dX6_degreesOf_16 rfl (lv_at hl 0 rfl) ?_
      refine wt_rS (As := [.ref rw, .int (nI i_3)]) (rest := [.int y_4]) ⟨hx, hb, hml, hown, hts⟩ (c_X6_warmth l D cI cZ cH rw R T f i_3 (by first | assumption | omega) (by first | assumption | omega) (by first | assumption | omega) (by first | assumption | omega)) (va_cwS 2 hts gX6_degreesOf_X6_warmth rfl rfl rfl (by decide +kernel) ⟨Nat.le_of_ble_eq_true rfl, Nat.le_of_ble_eq_true rfl⟩) hK hP [0] rfl rfl hl.1 rfl (Nat.le_of_ble_eq_true rfl) dX6_degreesOf_17 ⟨Nat.le_of_ble_eq_true rfl, Nat.le_of_ble_eq_true rfl⟩ (fun r_5 e_6 => ?_)
      refine lv_iadd hx hb dX6_degreesOf_20 ?_
      refine lv_topi (fun ov_7 _ => ?_)
      refine lv_istore_n (lv' := [(1, .int ov_7), (2, .int (nI i_3)), (0, .ref rw)]) hx hb dX6_degreesOf_21 rfl hl (by decide) rfl (fun ls hl => ?_)
      refine lv_iinc (v := nI (i_3 + 1)) (lv' := [(2, .int (nI (i_3 + 1))), (1, .int ov_7), (0, .ref rw)]) hx hb dX6_degreesOf_22 hl (k := 1) rfl (nI_add i_3 1) (by decide) rfl (fun ls hl => ?_)
      refine lv_goto (tgt := 7) hx hb dX6_degreesOf_25 (by decide) ?_
      exact ih7 ((i_3 + 1)) ov_7 ls (by omega)  (lv_sub hl [0, 1, 2] rfl)
  exact loop7 (R - 0) (0) r_1 ls (by omega)  hl
set_option maxHeartbeats 4000000 in
set_option maxRecDepth 100000 in
theorem c_X6_isThere (l : Launch) (D : va_G) (cI cZ cH : ClassId) (md hs : Nat) (R T : Nat) (f : Nat → Int32) (vm_0 vm_1 vm_2 vm_3 vm_4 vm_6 vm_7 vm_8 vm_9 vm_10 vm_11 vm_12 vm_13 vm_14 vm_15 vm_16 vm_17 vm_18 vm_19 vm_20 vm_21 vm_22 vm_23 : Value) (hR5 : R ≤ 5) (hT6 : T ≤ 6) (hrk : rk R T f) : wt_R l yX6_isThere wsX6_isThere ({ frames := 0, cells := 0, slots := 0, locals := 0 } : Room) D (wt_T cI cZ cH) [.ref md] [(md, .inr (6, [vm_0, vm_1, vm_2, vm_3, vm_4, .ref hs, vm_6, vm_7, vm_8, vm_9, vm_10, vm_11, vm_12, vm_13, vm_14, vm_15, vm_16, vm_17, vm_18, vm_19, vm_20, vm_21, vm_22, vm_23])), (hs, .inl (cI, 45, .inl f))] (vp_Si (fun r => r = wP (nI R))) := by
  refine wt_R.ofW (cc := cX6_isThere) (maxL := 1) (ret := (some .boolean)) (by decide) rfl (Nat.le_of_ble_eq_true rfl) ?_
  intro p e s m below meth c ls hx hb hr hts hown hlocks hml hP hK hl
  have hown : s.vm.findClass RX6 = some m.cls := hown
  have hl : lv_has ls 1 [(0, .ref md)] := hl
  have hi6 : ∀ w ∈ u_ws RX6 TX6 24, w ∈ wsX6_isThere := by decide +kernel
  have wf19 := hts (.fieldLink RX6 19 "WarmTubesModel" "house" "[I") (by decide +kernel)
  refine lv_aload_n hx hb dX6_isThere_0 rfl (lv_at hl 0 rfl) ?_
  refine va_get (D := D) (ci := 6) (v := .ref hs) (C := RX6) (T := TX6) (N := 24) hx hb hts hi6 hown hK.1 hP 0 rfl rfl 5 (by decide) wf19 (fun _ h9 => h9) rfl dX6_isThere_1 ?_
  refine lv_iconst (v := 0) hx hb dX6_isThere_4 (by decide) ?_
  refine va_iald hx hb hK.1 hP 1 0 rfl rfl (by rw [vp_in_iff]; decide) dX6_isThere_5 ?_
  refine wt_top (z := nI R) (hrk.1) ?_
  refine lv_if_le (tgt := 13) hx hb dX6_isThere_6 (by decide) (fun c_1 => ?_) (fun c_1 => ?_)
  · skip
    refine lv_iconst (v := 0) hx hb dX6_isThere_13 (by decide) ?_
    exact wt_szret hx hb hr hlocks (by decide) (by simp [wP, c_1]) dX6_isThere_14
  · skip
    refine lv_iconst (v := 1) hx hb dX6_isThere_9 (by decide) ?_
    refine lv_goto (tgt := 14) hx hb dX6_isThere_10 (by decide) ?_
    exact wt_szret hx hb hr hlocks (by decide) (by simp [wP, c_1]) dX6_isThere_14
set_option maxHeartbeats 4000000 in
set_option maxRecDepth 100000 in
theorem c_X6_isTube (l : Launch) (D : va_G) (cI cZ cH : ClassId) (md hs : Nat) (R T : Nat) (f : Nat → Int32) (t : Int32) (vm_0 vm_1 vm_2 vm_3 vm_4 vm_6 vm_7 vm_8 vm_9 vm_10 vm_11 vm_12 vm_13 vm_14 vm_15 vm_16 vm_17 vm_18 vm_19 vm_20 vm_21 vm_22 vm_23 : Value) (hR5 : R ≤ 5) (hT6 : T ≤ 6) (hrk : rk R T f) : wt_R l yX6_isTube wsX6_isTube ({ frames := 1, cells := 0, slots := 0, locals := 25 } : Room) D (wt_T cI cZ cH) [.ref md, .int t] [(md, .inr (6, [vm_0, vm_1, vm_2, vm_3, vm_4, .ref hs, vm_6, vm_7, vm_8, vm_9, vm_10, vm_11, vm_12, vm_13, vm_14, vm_15, vm_16, vm_17, vm_18, vm_19, vm_20, vm_21, vm_22, vm_23])), (hs, .inl (cI, 45, .inl f))] (vp_Si (fun r => r = wI t 0 (nI T - 1))) := by
  refine wt_R.ofW (cc := cX6_isTube) (maxL := 2) (ret := (some .boolean)) (by decide) rfl (Nat.le_of_ble_eq_true rfl) ?_
  intro p e s m below meth c ls hx hb hr hts hown hlocks hml hP hK hl
  have hown : s.vm.findClass RX6 = some m.cls := hown
  have hl : lv_has ls 2 [(0, .ref md), (1, .int t)] := hl
  have hi6 : ∀ w ∈ u_ws RX6 TX6 24, w ∈ wsX6_isTube := by decide +kernel
  have wf19 := hts (.fieldLink RX6 19 "WarmTubesModel" "house" "[I") (by decide +kernel)
  refine lv_iload_n hx hb dX6_isTube_0 rfl (lv_at hl 1 rfl) ?_
  refine lv_i2l hx hb dX6_isTube_1 rfl ?_
  refine lv_lconst (v := 0) hx hb dX6_isTube_2 (by decide) ?_
  refine lv_aload_n hx hb dX6_isTube_3 rfl (lv_at hl 0 rfl) ?_
  refine va_get (D := D) (ci := 6) (v := .ref hs) (C := RX6) (T := TX6) (N := 24) hx hb hts hi6 hown hK.1 hP 0 rfl rfl 5 (by decide) wf19 (fun _ h9 => h9) rfl dX6_isTube_4 ?_
  refine lv_iconst (v := 1) hx hb dX6_isTube_7 (by decide) ?_
  refine va_iald hx hb hK.1 hP 1 0 rfl rfl (by rw [vp_in_iff]; decide) dX6_isTube_8 ?_
  refine wt_top (z := nI T) (hrk.2.1) ?_
  refine lv_iconst (v := 1) hx hb dX6_isTube_9 (by decide) ?_
  refine lv_isub hx hb dX6_isTube_10 ?_
  refine lv_i2l hx hb dX6_isTube_11 rfl ?_
  refine wt_rS (As := [.long t.toInt64, .long 0, .long (((nI T) - 1).toInt64)]) (rest := []) ⟨hx, hb, hml, hown, hts⟩ (c_X6_in l D cI cZ cH t.toInt64 0 (((nI T) - 1).toInt64)) (va_cwS 3 hts gX6_isTube_X6_in rfl rfl rfl (by decide +kernel) ⟨Nat.le_of_ble_eq_true rfl, Nat.le_of_ble_eq_true rfl⟩) hK hP [] rfl rfl hl.1 rfl (Nat.le_of_ble_eq_true rfl) dX6_isTube_12 ⟨Nat.le_of_ble_eq_true rfl, Nat.le_of_ble_eq_true rfl⟩ (fun r_1 e_2 => ?_)
  subst e_2
  refine wt_top (z := wI t 0 ((nI T) - 1)) (wL_I' (by decide) rfl) ?_
  exact wt_szret hx hb hr hlocks (wI_01 _ _ _) (by rfl) dX6_isTube_15
set_option maxHeartbeats 4000000 in
set_option maxRecDepth 100000 in
theorem c_X6_isRoom (l : Launch) (D : va_G) (cI cZ cH : ClassId) (md hs : Nat) (R T : Nat) (f : Nat → Int32) (t : Int32) (vm_0 vm_1 vm_2 vm_3 vm_4 vm_6 vm_7 vm_8 vm_9 vm_10 vm_11 vm_12 vm_13 vm_14 vm_15 vm_16 vm_17 vm_18 vm_19 vm_20 vm_21 vm_22 vm_23 : Value) (hR5 : R ≤ 5) (hT6 : T ≤ 6) (hrk : rk R T f) : wt_R l yX6_isRoom wsX6_isRoom ({ frames := 1, cells := 0, slots := 0, locals := 25 } : Room) D (wt_T cI cZ cH) [.ref md, .int t] [(md, .inr (6, [vm_0, vm_1, vm_2, vm_3, vm_4, .ref hs, vm_6, vm_7, vm_8, vm_9, vm_10, vm_11, vm_12, vm_13, vm_14, vm_15, vm_16, vm_17, vm_18, vm_19, vm_20, vm_21, vm_22, vm_23])), (hs, .inl (cI, 45, .inl f))] (vp_Si (fun r => r = wI t 0 (nI R - 1))) := by
  refine wt_R.ofW (cc := cX6_isRoom) (maxL := 2) (ret := (some .boolean)) (by decide) rfl (Nat.le_of_ble_eq_true rfl) ?_
  intro p e s m below meth c ls hx hb hr hts hown hlocks hml hP hK hl
  have hown : s.vm.findClass RX6 = some m.cls := hown
  have hl : lv_has ls 2 [(0, .ref md), (1, .int t)] := hl
  have hi6 : ∀ w ∈ u_ws RX6 TX6 24, w ∈ wsX6_isRoom := by decide +kernel
  have wf19 := hts (.fieldLink RX6 19 "WarmTubesModel" "house" "[I") (by decide +kernel)
  refine lv_iload_n hx hb dX6_isRoom_0 rfl (lv_at hl 1 rfl) ?_
  refine lv_i2l hx hb dX6_isRoom_1 rfl ?_
  refine lv_lconst (v := 0) hx hb dX6_isRoom_2 (by decide) ?_
  refine lv_aload_n hx hb dX6_isRoom_3 rfl (lv_at hl 0 rfl) ?_
  refine va_get (D := D) (ci := 6) (v := .ref hs) (C := RX6) (T := TX6) (N := 24) hx hb hts hi6 hown hK.1 hP 0 rfl rfl 5 (by decide) wf19 (fun _ h9 => h9) rfl dX6_isRoom_4 ?_
  refine lv_iconst (v := 0) hx hb dX6_isRoom_7 (by decide) ?_
  refine va_iald hx hb hK.1 hP 1 0 rfl rfl (by rw [vp_in_iff]; decide) dX6_isRoom_8 ?_
  refine wt_top (z := nI R) (hrk.1) ?_
  refine lv_iconst (v := 1) hx hb dX6_isRoom_9 (by decide) ?_
  refine lv_isub hx hb dX6_isRoom_10 ?_
  refine lv_i2l hx hb dX6_isRoom_11 rfl ?_
  refine wt_rS (As := [.long t.toInt64, .long 0, .long (((nI R) - 1).toInt64)]) (rest := []) ⟨hx, hb, hml, hown, hts⟩ (c_X6_in l D cI cZ cH t.toInt64 0 (((nI R) - 1).toInt64)) (va_cwS 3 hts gX6_isRoom_X6_in rfl rfl rfl (by decide +kernel) ⟨Nat.le_of_ble_eq_true rfl, Nat.le_of_ble_eq_true rfl⟩) hK hP [] rfl rfl hl.1 rfl (Nat.le_of_ble_eq_true rfl) dX6_isRoom_12 ⟨Nat.le_of_ble_eq_true rfl, Nat.le_of_ble_eq_true rfl⟩ (fun r_1 e_2 => ?_)
  subst e_2
  refine wt_top (z := wI t 0 ((nI R) - 1)) (wL_I' (by decide) rfl) ?_
  exact wt_szret hx hb hr hlocks (wI_01 _ _ _) (by rfl) dX6_isRoom_15
set_option maxHeartbeats 4000000 in
set_option maxRecDepth 100000 in
theorem c_X6_isPlace (l : Launch) (D : va_G) (cI cZ cH : ClassId) (md hs : Nat) (R T : Nat) (f : Nat → Int32) (t : Int32) (vm_0 vm_1 vm_2 vm_3 vm_4 vm_6 vm_7 vm_8 vm_9 vm_10 vm_11 vm_12 vm_13 vm_14 vm_15 vm_16 vm_17 vm_18 vm_19 vm_20 vm_21 vm_22 vm_23 : Value) (hR5 : R ≤ 5) (hT6 : T ≤ 6) (hrk : rk R T f) : wt_R l yX6_isPlace wsX6_isPlace ({ frames := 1, cells := 0, slots := 0, locals := 25 } : Room) D (wt_T cI cZ cH) [.ref md, .int t] [(md, .inr (6, [vm_0, vm_1, vm_2, vm_3, vm_4, .ref hs, vm_6, vm_7, vm_8, vm_9, vm_10, vm_11, vm_12, vm_13, vm_14, vm_15, vm_16, vm_17, vm_18, vm_19, vm_20, vm_21, vm_22, vm_23])), (hs, .inl (cI, 45, .inl f))] (vp_Si (fun r => r = gP t R)) := by
  refine wt_R.ofW (cc := cX6_isPlace) (maxL := 2) (ret := (some .boolean)) (by decide) rfl (Nat.le_of_ble_eq_true rfl) ?_
  intro p e s m below meth c ls hx hb hr hts hown hlocks hml hP hK hl
  have hown : s.vm.findClass RX6 = some m.cls := hown
  have hl : lv_has ls 2 [(0, .ref md), (1, .int t)] := hl
  have hi6 : ∀ w ∈ u_ws RX6 TX6 24, w ∈ wsX6_isPlace := by decide +kernel
  have wf19 := hts (.fieldLink RX6 19 "WarmTubesModel" "house" "[I") (by decide +kernel)
  refine lv_aload_n hx hb dX6_isPlace_0 rfl (lv_at hl 0 rfl) ?_
  refine wt_rV (As := []) (rest := []) ⟨hx, hb, hml, hown, hts⟩ (c_X6_isThere l D cI cZ cH md hs R T f vm_0 vm_1 vm_2 vm_3 vm_4 vm_6 vm_7 vm_8 vm_9 vm_10 vm_11 vm_12 vm_13 vm_14 vm_15 vm_16 vm_17 vm_18 vm_19 vm_20 vm_21 vm_22 vm_23 (by first | assumption | omega) (by first | assumption | omega) (by first | assumption | omega)) (cwV 0 hts gX6_isPlace_X6_isThere rfl rfl rfl (by decide +kernel) ⟨Nat.le_of_ble_eq_true rfl, Nat.le_of_ble_eq_true rfl⟩) hK hP [0, 1] rfl (va_recv hK.1 hP (ci := 6) (q0 := 0) rfl rfl) rfl hl.1 rfl (Nat.le_of_ble_eq_true rfl) dX6_isPlace_1 ⟨Nat.le_of_ble_eq_true rfl, Nat.le_of_ble_eq_true rfl⟩ (fun r_1 e_2 => ?_)
  subst e_2
  refine lv_if_eq (tgt := 27) hx hb dX6_isPlace_4 (by decide) (fun c_3 => ?_) (fun c_3 => ?_)
  · skip
    refine lv_iconst (v := 0) hx hb dX6_isPlace_27 (by decide) ?_
    exact wt_szret hx hb hr hlocks (by decide) (by simp_all [gP]) dX6_isPlace_28
  · skip
    refine lv_iload_n hx hb dX6_isPlace_7 rfl (lv_at hl 1 rfl) ?_
    refine lv_i2l hx hb dX6_isPlace_8 rfl ?_
    refine lv_lconst (v := 0) hx hb dX6_isPlace_9 (by decide) ?_
    refine lv_aload_n hx hb dX6_isPlace_10 rfl (lv_at hl 0 rfl) ?_
    refine va_get (D := D) (ci := 6) (v := .ref hs) (C := RX6) (T := TX6) (N := 24) hx hb hts hi6 hown hK.1 hP 0 rfl rfl 5 (by decide) wf19 (fun _ h9 => h9) rfl dX6_isPlace_11 ?_
    refine lv_iconst (v := 0) hx hb dX6_isPlace_14 (by decide) ?_
    refine va_iald hx hb hK.1 hP 1 0 rfl rfl (by rw [vp_in_iff]; decide) dX6_isPlace_15 ?_
    refine wt_top (z := nI R) (hrk.1) ?_
    refine lv_i2l hx hb dX6_isPlace_16 rfl ?_
    refine wt_rS (As := [.long t.toInt64, .long 0, .long ((nI R).toInt64)]) (rest := []) ⟨hx, hb, hml, hown, hts⟩ (c_X6_in l D cI cZ cH t.toInt64 0 ((nI R).toInt64)) (va_cwS 3 hts gX6_isPlace_X6_in rfl rfl rfl (by decide +kernel) ⟨Nat.le_of_ble_eq_true rfl, Nat.le_of_ble_eq_true rfl⟩) hK hP [] rfl rfl hl.1 rfl (Nat.le_of_ble_eq_true rfl) dX6_isPlace_17 ⟨Nat.le_of_ble_eq_true rfl, Nat.le_of_ble_eq_true rfl⟩ (fun r_4 e_5 => ?_)
    subst e_5
    refine wt_top (z := wI t 0 (nI R)) (wL_I' (by decide) rfl) ?_
    refine lv_if_eq (tgt := 27) hx hb dX6_isPlace_20 (by decide) (fun c_6 => ?_) (fun c_6 => ?_)
    · skip
      refine lv_iconst (v := 0) hx hb dX6_isPlace_27 (by decide) ?_
      exact wt_szret hx hb hr hlocks (by decide) (by simp_all [gP]) dX6_isPlace_28
    · skip
      refine lv_iconst (v := 1) hx hb dX6_isPlace_23 (by decide) ?_
      refine lv_goto (tgt := 28) hx hb dX6_isPlace_24 (by decide) ?_
      exact wt_szret hx hb hr hlocks (by decide) (by simp_all [gP]) dX6_isPlace_28
set_option maxHeartbeats 4000000 in
set_option maxRecDepth 100000 in
theorem c_X6_layThen (l : Launch) (D : va_G) (cI cZ cH : ClassId) (md hs : Nat) (R T : Nat) (f : Nat → Int32) (tn : Nat) (g : Nat → Int32) (vm_0 vm_1 vm_2 vm_3 vm_4 vm_6 vm_8 vm_9 vm_10 vm_11 vm_12 vm_13 vm_14 vm_15 vm_16 vm_17 vm_18 vm_19 vm_20 vm_21 vm_22 vm_23 : Value) (hR5 : R ≤ 5) (hT6 : T ≤ 6) (hrk : rk R T f) : wt_M l yX6_layThen wsX6_layThen ({ frames := 0, cells := 0, slots := 0, locals := 0 } : Room) D (wt_T cI cZ cH) [.ref md] [(md, .inr (6, [vm_0, vm_1, vm_2, vm_3, vm_4, .ref hs, vm_6, .ref tn, vm_8, vm_9, vm_10, vm_11, vm_12, vm_13, vm_14, vm_15, vm_16, vm_17, vm_18, vm_19, vm_20, vm_21, vm_22, vm_23])), (hs, .inl (cI, 45, .inl f)), (tn, .inl (cI, 45, .inl g))] (wt_QV D (fun w => ∃ (g2 : Nat → Int32), w = [(md, .inr (6, [vm_0, vm_1, vm_2, vm_3, vm_4, .ref hs, vm_6, .ref tn, vm_8, vm_9, vm_10, vm_11, vm_12, vm_13, vm_14, vm_15, vm_16, vm_17, vm_18, vm_19, vm_20, vm_21, vm_22, vm_23])), (hs, .inl (cI, 45, .inl f)), (tn, .inl (cI, 45, .inl g2))] ∧ rk R T g2)) := by
  refine wt_M.ofW (cc := cX6_layThen) (maxL := 2) (ret := none) (by decide) rfl (Nat.le_of_ble_eq_true rfl) ?_
  intro p e s m below meth c A ls hx hb hr hts hown hlocks hml hnm hP hK hD hA hS hl
  have hP : va_P D vwCl [(md, .inr (6, [vm_0, vm_1, vm_2, vm_3, vm_4, .ref hs, vm_6, .ref tn, vm_8, vm_9, vm_10, vm_11, vm_12, vm_13, vm_14, vm_15, vm_16, vm_17, vm_18, vm_19, vm_20, vm_21, vm_22, vm_23])), (hs, .inl (cI, 45, .inl f)), (tn, .inl (cI, 45, .inl g))] s.heap := hP
  have hown : s.vm.findClass RX6 = some m.cls := hown
  have hl : lv_has ls 2 [(0, .ref md)] := hl
  have hi6 : ∀ w ∈ u_ws RX6 TX6 24, w ∈ wsX6_layThen := by decide +kernel
  have wf19 := hts (.fieldLink RX6 19 "WarmTubesModel" "house" "[I") (by decide +kernel)
  have wf25 := hts (.fieldLink RX6 25 "WarmTubesModel" "then" "[I") (by decide +kernel)
  refine lv_iconst (v := 0) hx hb dX6_layThen_0 (by decide) ?_
  refine lv_istore_n (lv' := [(1, .int 0), (0, .ref md)]) hx hb dX6_layThen_1 rfl hl (by decide) rfl (fun ls hl => ?_)
  have loop2 : ∀ (k i_1 : Nat) (g_2 : Nat → Int32) (H : Heap) (locs : List Loc) (ls : Array Slot), i_1 + k = 45 → (cpd i_1 0 0 g_2 f) → va_P D vwCl [(md, .inr (6, [vm_0, vm_1, vm_2, vm_3, vm_4, .ref hs, vm_6, .ref tn, vm_8, vm_9, vm_10, vm_11, vm_12, vm_13, vm_14, vm_15, vm_16, vm_17, vm_18, vm_19, vm_20, vm_21, vm_22, vm_23])), (hs, .inl (cI, 45, .inl f)), (tn, .inl (cI, 45, .inl g_2))] H → va_D A [(md, .inr (6, [vm_0, vm_1, vm_2, vm_3, vm_4, .ref hs, vm_6, .ref tn, vm_8, vm_9, vm_10, vm_11, vm_12, vm_13, vm_14, vm_15, vm_16, vm_17, vm_18, vm_19, vm_20, vm_21, vm_22, vm_23])), (hs, .inl (cI, 45, .inl f)), (tn, .inl (cI, 45, .inl g_2))] → va_S A s.heap H locs → lv_has ls 2 [(1, .int (nI i_1)), (0, .ref md)] → W p l e ({ frames := 0, cells := 0, slots := 0, locals := 0 } : Room) s m ([.ref md] : List Value).toArray below meth c H locs 0 0 (MQ below (wt_QV D (fun w => ∃ (g2 : Nat → Int32), w = [(md, .inr (6, [vm_0, vm_1, vm_2, vm_3, vm_4, .ref hs, vm_6, .ref tn, vm_8, vm_9, vm_10, vm_11, vm_12, vm_13, vm_14, vm_15, vm_16, vm_17, vm_18, vm_19, vm_20, vm_21, vm_22, vm_23])), (hs, .inl (cI, 45, .inl f)), (tn, .inl (cI, 45, .inl g2))] ∧ rk R T g2) A) ([.ref md] : List Value).toArray s 0 0 A) (F0 m 2 ls []) := by
    intro k
    induction k with
    | zero =>
      intro i_1 g_2 H locs ls hik hcp hP hD hS hl
      refine lv_iload_n hx hb dX6_layThen_2 rfl (lv_at hl 0 rfl) ?_
      refine lv_bipush (v := 45) hx hb dX6_layThen_3 (by decide) ?_
      refine lv_icmp_ge (tgt := 26) hx hb dX6_layThen_5 (by decide) (fun _ => ?_) (fun h => absurd (nI_le (a := 45) (b := i_1) (by omega) (by omega)) h)
      have hP9 := hP.sub (ws' := [(md, .inr (6, [vm_0, vm_1, vm_2, vm_3, vm_4, .ref hs, vm_6, .ref tn, vm_8, vm_9, vm_10, vm_11, vm_12, vm_13, vm_14, vm_15, vm_16, vm_17, vm_18, vm_19, vm_20, vm_21, vm_22, vm_23])), (hs, .inl (cI, 45, .inl f)), (tn, .inl (cI, 45, .inl g_2))]) [0, 1, 2] rfl
      have hD9 := hD.sub (ws' := [(md, .inr (6, [vm_0, vm_1, vm_2, vm_3, vm_4, .ref hs, vm_6, .ref tn, vm_8, vm_9, vm_10, vm_11, vm_12, vm_13, vm_14, vm_15, vm_16, vm_17, vm_18, vm_19, vm_20, vm_21, vm_22, vm_23])), (hs, .inl (cI, 45, .inl f)), (tn, .inl (cI, 45, .inl g_2))]) [0, 1, 2] (by decide) rfl
      exact wt_vret hx hb hr hlocks hP9 hD9 hS ⟨g_2, rfl, (rk_cp hrk hcp (by omega))⟩ dX6_layThen_26
    | succ k ih2 =>
      intro i_1 g_2 H locs ls hik hcp hP hD hS hl
      refine lv_iload_n hx hb dX6_layThen_2 rfl (lv_at hl 0 rfl) ?_
      refine lv_bipush (v := 45) hx hb dX6_layThen_3 (by decide) ?_
      refine lv_icmp_ge (tgt := 26) hx hb dX6_layThen_5 (by decide) (fun h => absurd h (nI_ge (a := i_1) (b := 45) (by omega) (by omega))) (fun _ => ?_)
      refine lv_aload_n hx hb dX6_layThen_8 rfl (lv_at hl 1 rfl) ?_
      refine va_get (D := D) (ci := 6) (v := .ref tn) (C := RX6) (T := TX6) (N := 24) hx hb hts hi6 hown hK.1 hP 0 rfl rfl 7 (by decide) wf25 (fun _ h9 => h9) rfl dX6_layThen_9 ?_
      refine lv_iload_n hx hb dX6_layThen_12 rfl (lv_at hl 0 rfl) ?_
      refine lv_aload_n hx hb dX6_layThen_13 rfl (lv_at hl 1 rfl) ?_
      refine va_get (D := D) (ci := 6) (v := .ref hs) (C := RX6) (T := TX6) (N := 24) hx hb hts hi6 hown hK.1 hP 0 rfl rfl 5 (by decide) wf19 (fun _ h9 => h9) rfl dX6_layThen_14 ?_
      refine lv_iload_n hx hb dX6_layThen_17 rfl (lv_at hl 0 rfl) ?_
      refine va_iald hx hb hK.1 hP 1 0 rfl rfl (vp_in_nI (by omega) (by omega)) dX6_layThen_18 ?_
      refine wt_top (z := f (0 + i_1)) (by rw [nI_clamp (by omega)]; first | rw [Nat.zero_add] | skip) ?_
      refine va_iast hx hb hK.1 hP hD hS 2 0 rfl rfl (vp_in_nI (by omega) (by omega)) dX6_layThen_19 (fun H locs hP hD hS => ?_)
      have hP : va_P D vwCl [(md, .inr (6, [vm_0, vm_1, vm_2, vm_3, vm_4, .ref hs, vm_6, .ref tn, vm_8, vm_9, vm_10, vm_11, vm_12, vm_13, vm_14, vm_15, vm_16, vm_17, vm_18, vm_19, vm_20, vm_21, vm_22, vm_23])), (hs, .inl (cI, 45, .inl f)), (tn, .inl (cI, 45, .inl (upd g_2 ((nI i_1).toNatClampNeg) (f (0 + i_1)))))] H := hP
      have hD : va_D A [(md, .inr (6, [vm_0, vm_1, vm_2, vm_3, vm_4, .ref hs, vm_6, .ref tn, vm_8, vm_9, vm_10, vm_11, vm_12, vm_13, vm_14, vm_15, vm_16, vm_17, vm_18, vm_19, vm_20, vm_21, vm_22, vm_23])), (hs, .inl (cI, 45, .inl f)), (tn, .inl (cI, 45, .inl (upd g_2 ((nI i_1).toNatClampNeg) (f (0 + i_1)))))] := hD
      rw [nI_clamp (n := i_1) (by omega)] at hP hD
      have hP : va_P D vwCl [(md, .inr (6, [vm_0, vm_1, vm_2, vm_3, vm_4, .ref hs, vm_6, .ref tn, vm_8, vm_9, vm_10, vm_11, vm_12, vm_13, vm_14, vm_15, vm_16, vm_17, vm_18, vm_19, vm_20, vm_21, vm_22, vm_23])), (hs, .inl (cI, 45, .inl f)), (tn, .inl (cI, 45, .inl (upd g_2 i_1 (f (0 + i_1)))))] H := hP
      have hD : va_D A [(md, .inr (6, [vm_0, vm_1, vm_2, vm_3, vm_4, .ref hs, vm_6, .ref tn, vm_8, vm_9, vm_10, vm_11, vm_12, vm_13, vm_14, vm_15, vm_16, vm_17, vm_18, vm_19, vm_20, vm_21, vm_22, vm_23])), (hs, .inl (cI, 45, .inl f)), (tn, .inl (cI, 45, .inl (upd g_2 i_1 (f (0 + i_1)))))] := hD
      refine lv_iinc (v := nI (i_1 + 1)) (lv' := [(1, .int (nI (i_1 + 1))), (0, .ref md)]) hx hb dX6_layThen_20 hl (k := 0) rfl (nI_add i_1 1) (by decide) rfl (fun ls hl => ?_)
      refine lv_goto (tgt := 2) hx hb dX6_layThen_23 (by decide) ?_
      exact ih2 ((i_1 + 1)) (upd g_2 i_1 (f (0 + i_1))) H locs ls (by omega) (cpd_s0 hcp) hP hD hS (lv_sub hl [0, 1] rfl)
  exact loop2 (45 - 0) (0) g _ _ ls (by omega) cpd_0 hP hD hS hl

set_option maxHeartbeats 4000000 in
set_option maxRecDepth 100000 in
theorem c_X5_within (l : Launch) (D : va_G) (cI cZ cH : ClassId) (n a b : Int32) : wt_R l yX5_within wsX5_within ({ frames := 0, cells := 0, slots := 0, locals := 0 } : Room) D (wt_T cI cZ cH) [.int n, .int a, .int b] [] (vp_Si (fun r => r = wI n a b)) := by
  refine wt_R.ofW (cc := cX5_within) (maxL := 3) (ret := (some .boolean)) (by decide) rfl (Nat.le_of_ble_eq_true rfl) ?_
  intro p e s m below meth c ls hx hb hr hts hown hlocks hml hP hK hl
  have hown : s.vm.findClass RX5 = some m.cls := hown
  have hl : lv_has ls 3 [(0, .int n), (1, .int a), (2, .int b)] := hl
  refine lv_iload_n hx hb dX5_within_0 rfl (lv_at hl 0 rfl) ?_
  refine lv_iload_n hx hb dX5_within_1 rfl (lv_at hl 1 rfl) ?_
  refine lv_icmp_lt (tgt := 14) hx hb dX5_within_2 (by decide) (fun c_1 => ?_) (fun c_1 => ?_)
  · skip
    refine lv_iconst (v := 0) hx hb dX5_within_14 (by decide) ?_
    exact wt_szret hx hb hr hlocks (by decide) (by simp [wI, c_1]) dX5_within_15
  · skip
    refine lv_iload_n hx hb dX5_within_5 rfl (lv_at hl 0 rfl) ?_
    refine lv_iload_n hx hb dX5_within_6 rfl (lv_at hl 2 rfl) ?_
    refine lv_icmp_gt (tgt := 14) hx hb dX5_within_7 (by decide) (fun c_2 => ?_) (fun c_2 => ?_)
    · skip
      refine lv_iconst (v := 0) hx hb dX5_within_14 (by decide) ?_
      exact wt_szret hx hb hr hlocks (by decide) (by simp [wI, c_1, c_2]) dX5_within_15
    · skip
      refine lv_iconst (v := 1) hx hb dX5_within_10 (by decide) ?_
      refine lv_goto (tgt := 15) hx hb dX5_within_11 (by decide) ?_
      exact wt_szret hx hb hr hlocks (by decide) (by simp [wI, c_1, c_2]) dX5_within_15
set_option maxHeartbeats 4000000 in
set_option maxRecDepth 100000 in
theorem c_X5_isRow (l : Launch) (D : va_G) (cI cZ cH : ClassId) (n : Int32) : wt_R l yX5_isRow wsX5_isRow ({ frames := 1, cells := 0, slots := 0, locals := 22 } : Room) D (wt_T cI cZ cH) [.int n] [] (vp_Si (fun r => r = wI n 0 7)) := by
  refine wt_R.ofW (cc := cX5_isRow) (maxL := 1) (ret := (some .boolean)) (by decide) rfl (Nat.le_of_ble_eq_true rfl) ?_
  intro p e s m below meth c ls hx hb hr hts hown hlocks hml hP hK hl
  have hown : s.vm.findClass RX5 = some m.cls := hown
  have hl : lv_has ls 1 [(0, .int n)] := hl
  refine lv_iload_n hx hb dX5_isRow_0 rfl (lv_at hl 0 rfl) ?_
  refine lv_iconst (v := 0) hx hb dX5_isRow_1 (by decide) ?_
  refine lv_bipush (v := 7) hx hb dX5_isRow_2 (by decide) ?_
  refine wt_rS (As := [.int n, .int 0, .int 7]) (rest := []) ⟨hx, hb, hml, hown, hts⟩ (c_X5_within l D cI cZ cH n 0 7) (va_cwS 3 hts gX5_isRow_X5_within rfl rfl rfl (by decide +kernel) ⟨Nat.le_of_ble_eq_true rfl, Nat.le_of_ble_eq_true rfl⟩) hK hP [] rfl rfl hl.1 rfl (Nat.le_of_ble_eq_true rfl) dX5_isRow_4 ⟨Nat.le_of_ble_eq_true rfl, Nat.le_of_ble_eq_true rfl⟩ (fun r_1 e_2 => ?_)
  subst e_2
  exact wt_szret hx hb hr hlocks (wI_01 _ _ _) (by rfl) dX5_isRow_7
set_option maxHeartbeats 4000000 in
set_option maxRecDepth 100000 in
theorem c_X6_in (l : Launch) (D : va_G) (cI cZ cH : ClassId) (n a b : Int64) : wt_R l yX6_in wsX6_in ({ frames := 0, cells := 0, slots := 0, locals := 0 } : Room) D (wt_T cI cZ cH) [.long n, .long a, .long b] [] (vp_Si (fun r => r = wL n a b)) := by
  refine wt_R.ofW (cc := cX6_in) (maxL := 6) (ret := (some .boolean)) (by decide) rfl (Nat.le_of_ble_eq_true rfl) ?_
  intro p e s m below meth c ls hx hb hr hts hown hlocks hml hP hK hl
  have hown : s.vm.findClass RX6 = some m.cls := hown
  have hl : lv_has ls 6 [(0, .long n), (2, .long a), (4, .long b)] := hl
  refine lv_lload_n hx hb dX6_in_0 rfl (lv_at hl 0 rfl) ?_
  refine lv_lload_n hx hb dX6_in_1 rfl (lv_at hl 1 rfl) ?_
  refine W.lcmp hx hb dX6_in_2 ?_
  refine lv_if_lt (tgt := 17) hx hb dX6_in_3 (by decide) (fun c_1 => ?_) (fun c_1 => ?_)
  · skip
    refine lv_iconst (v := 0) hx hb dX6_in_17 (by decide) ?_
    exact wt_szret hx hb hr hlocks (by decide) (by simp only [lg_cmp_lt, lg_cmp_gt] at *; simp [wL, c_1]) dX6_in_18
  · skip
    refine lv_lload_n hx hb dX6_in_6 rfl (lv_at hl 0 rfl) ?_
    refine lv_lload hx hb dX6_in_7 (lv_at hl 2 rfl) ?_
    refine W.lcmp hx hb dX6_in_9 ?_
    refine lv_if_gt (tgt := 17) hx hb dX6_in_10 (by decide) (fun c_2 => ?_) (fun c_2 => ?_)
    · skip
      refine lv_iconst (v := 0) hx hb dX6_in_17 (by decide) ?_
      exact wt_szret hx hb hr hlocks (by decide) (by simp only [lg_cmp_lt, lg_cmp_gt] at *; simp [wL, c_1, c_2]) dX6_in_18
    · skip
      refine lv_iconst (v := 1) hx hb dX6_in_13 (by decide) ?_
      refine lv_goto (tgt := 18) hx hb dX6_in_14 (by decide) ?_
      exact wt_szret hx hb hr hlocks (by decide) (by simp only [lg_cmp_lt, lg_cmp_gt] at *; simp [wL, c_1, c_2]) dX6_in_18
set_option maxHeartbeats 4000000 in
set_option maxRecDepth 100000 in
theorem c_X6_isRow (l : Launch) (D : va_G) (cI cZ cH : ClassId) (n : Int32) : wt_R l yX6_isRow wsX6_isRow ({ frames := 1, cells := 0, slots := 0, locals := 25 } : Room) D (wt_T cI cZ cH) [.int n] [] (vp_Si (fun r => r = wI n 0 7)) := by
  refine wt_R.ofW (cc := cX6_isRow) (maxL := 1) (ret := (some .boolean)) (by decide) rfl (Nat.le_of_ble_eq_true rfl) ?_
  intro p e s m below meth c ls hx hb hr hts hown hlocks hml hP hK hl
  have hown : s.vm.findClass RX6 = some m.cls := hown
  have hl : lv_has ls 1 [(0, .int n)] := hl
  have wl55 := hts (.constantLong RX6 55 (7)) (by decide +kernel)
  refine lv_iload_n hx hb dX6_isRow_0 rfl (lv_at hl 0 rfl) ?_
  refine lv_i2l (v := n.toInt64) hx hb dX6_isRow_1 rfl ?_
  refine lv_lconst (v := 0) hx hb dX6_isRow_2 (by decide) ?_
  refine lv_ldc2 hx hb hown wl55 dX6_isRow_3 ?_
  refine wt_rS (As := [.long n.toInt64, .long 0, .long 7]) (rest := []) ⟨hx, hb, hml, hown, hts⟩ (c_X6_in l D cI cZ cH n.toInt64 0 7) (va_cwS 3 hts gX6_isRow_X6_in rfl rfl rfl (by decide +kernel) ⟨Nat.le_of_ble_eq_true rfl, Nat.le_of_ble_eq_true rfl⟩) hK hP [] rfl rfl hl.1 rfl (Nat.le_of_ble_eq_true rfl) dX6_isRow_6 ⟨Nat.le_of_ble_eq_true rfl, Nat.le_of_ble_eq_true rfl⟩ (fun r_1 e_2 => ?_)
  subst e_2
  refine wt_top (z := wI n 0 7) (wL_I' (by decide) (by decide)) ?_
  exact wt_szret hx hb hr hlocks (wI_01 _ _ _) (by rfl) dX6_isRow_9
set_option maxHeartbeats 4000000 in
set_option maxRecDepth 100000 in
theorem c_X0_stands (l : Launch) (D : va_G) (cI cZ cH : ClassId) (nw : Nat) (rooms : Int32) (n_0 n_1 n_3 n_4 n_5 n_6 n_7 n_8 n_9 n_10 n_11 : Value) : wt_R l yX0_stands wsX0_stands ({ frames := 0, cells := 0, slots := 0, locals := 0 } : Room) D (wt_T cI cZ cH) [.ref nw] [(nw, .inr (0, [n_0, n_1, .int rooms, n_3, n_4, n_5, n_6, n_7, n_8, n_9, n_10, n_11]))] (vp_Si (fun r => r = wP rooms)) := by
  refine wt_R.ofW (cc := cX0_stands) (maxL := 1) (ret := (some .boolean)) (by decide) rfl (Nat.le_of_ble_eq_true rfl) ?_
  intro p e s m below meth c ls hx hb hr hts hown hlocks hml hP hK hl
  have hown : s.vm.findClass RX0 = some m.cls := hown
  have hl : lv_has ls 1 [(0, .ref nw)] := hl
  have hi0 : ∀ w ∈ u_ws RX0 TX0 12, w ∈ wsX0_stands := by decide +kernel
  have wf18 := hts (.fieldLink RX0 18 "WarmTubes$House" "rooms" "I") (by decide +kernel)
  refine lv_aload_n hx hb dX0_stands_0 rfl (lv_at hl 0 rfl) ?_
  refine va_get (D := D) (ci := 0) (v := .int rooms) (C := RX0) (T := TX0) (N := 12) hx hb hts hi0 hown hK.1 hP 0 rfl rfl 2 (by decide) wf18 (fun _ h9 => h9) rfl dX0_stands_1 ?_
  refine lv_if_le (tgt := 11) hx hb dX0_stands_4 (by decide) (fun c_1 => ?_) (fun c_1 => ?_)
  · skip
    refine lv_iconst (v := 0) hx hb dX0_stands_11 (by decide) ?_
    exact wt_szret hx hb hr hlocks (by decide) (by simp [wP, c_1]) dX0_stands_12
  · skip
    refine lv_iconst (v := 1) hx hb dX0_stands_7 (by decide) ?_
    refine lv_goto (tgt := 12) hx hb dX0_stands_8 (by decide) ?_
    exact wt_szret hx hb hr hlocks (by decide) (by simp [wP, c_1]) dX0_stands_12
set_option maxHeartbeats 4000000 in
set_option maxRecDepth 100000 in
theorem c_X5_isTube (l : Launch) (D : va_G) (cI cZ cH : ClassId) (x nw : Nat) (tubes t : Int32) (x_0 x_1 x_3 x_4 x_5 x_6 x_7 x_8 x_9 n_0 n_1 n_2 n_4 n_5 n_6 n_7 n_8 n_9 n_10 n_11 : Value) : wt_R l yX5_isTube wsX5_isTube ({ frames := 1, cells := 0, slots := 0, locals := 22 } : Room) D (wt_T cI cZ cH) [.ref x, .int t] [(x, .inr (5, [x_0, x_1, .ref nw, x_3, x_4, x_5, x_6, x_7, x_8, x_9])), (nw, .inr (0, [n_0, n_1, n_2, .int tubes, n_4, n_5, n_6, n_7, n_8, n_9, n_10, n_11]))] (vp_Si (fun r => r = wI t 0 (tubes - 1))) := by
  refine wt_R.ofW (cc := cX5_isTube) (maxL := 2) (ret := (some .boolean)) (by decide) rfl (Nat.le_of_ble_eq_true rfl) ?_
  intro p e s m below meth c ls hx hb hr hts hown hlocks hml hP hK hl
  have hown : s.vm.findClass RX5 = some m.cls := hown
  have hl : lv_has ls 2 [(0, .ref x), (1, .int t)] := hl
  have hi0 : ∀ w ∈ u_ws RX0 TX0 12, w ∈ wsX5_isTube := by decide +kernel
  have hi5 : ∀ w ∈ u_ws RX5 TX5 10, w ∈ wsX5_isTube := by decide +kernel
  have wf140 := hts (.fieldLink RX5 140 "WarmTubes$House" "tubes" "I") (by decide +kernel)
  have wf26 := hts (.fieldLink RX5 26 "WarmTubes" "now" "LWarmTubes$House;") (by decide +kernel)
  refine lv_iload_n hx hb dX5_isTube_0 rfl (lv_at hl 1 rfl) ?_
  refine lv_iconst (v := 0) hx hb dX5_isTube_1 (by decide) ?_
  refine lv_aload_n hx hb dX5_isTube_2 rfl (lv_at hl 0 rfl) ?_
  refine va_get (D := D) (ci := 5) (v := .ref nw) (C := RX5) (T := TX5) (N := 10) hx hb hts hi5 hown hK.1 hP 0 rfl rfl 2 (by decide) wf26 (fun _ h9 => h9) rfl dX5_isTube_3 ?_
  refine va_get (D := D) (ci := 0) (v := .int tubes) (C := RX0) (T := TX0) (N := 12) hx hb hts hi0 hown hK.1 hP 1 rfl rfl 3 (by decide) wf140 (fun _ h9 => h9) rfl dX5_isTube_6 ?_
  refine lv_iconst (v := 1) hx hb dX5_isTube_9 (by decide) ?_
  refine lv_isub hx hb dX5_isTube_10 ?_
  refine wt_rS (As := [.int t, .int 0, .int (tubes - 1)]) (rest := []) ⟨hx, hb, hml, hown, hts⟩ (c_X5_within l D cI cZ cH t 0 (tubes - 1)) (va_cwS 3 hts gX5_isTube_X5_within rfl rfl rfl (by decide +kernel) ⟨Nat.le_of_ble_eq_true rfl, Nat.le_of_ble_eq_true rfl⟩) hK hP [] rfl rfl hl.1 rfl (Nat.le_of_ble_eq_true rfl) dX5_isTube_11 ⟨Nat.le_of_ble_eq_true rfl, Nat.le_of_ble_eq_true rfl⟩ (fun r_1 e_2 => ?_)
  subst e_2
  exact wt_szret hx hb hr hlocks (wI_01 _ _ _) (by rfl) dX5_isTube_14
set_option maxHeartbeats 4000000 in
set_option maxRecDepth 100000 in
theorem c_X5_isRoom (l : Launch) (D : va_G) (cI cZ cH : ClassId) (x nw : Nat) (rooms t : Int32) (x_0 x_1 x_3 x_4 x_5 x_6 x_7 x_8 x_9 n_0 n_1 n_3 n_4 n_5 n_6 n_7 n_8 n_9 n_10 n_11 : Value) : wt_R l yX5_isRoom wsX5_isRoom ({ frames := 1, cells := 0, slots := 0, locals := 22 } : Room) D (wt_T cI cZ cH) [.ref x, .int t] [(x, .inr (5, [x_0, x_1, .ref nw, x_3, x_4, x_5, x_6, x_7, x_8, x_9])), (nw, .inr (0, [n_0, n_1, .int rooms, n_3, n_4, n_5, n_6, n_7, n_8, n_9, n_10, n_11]))] (vp_Si (fun r => r = wI t 0 (rooms - 1))) := by
  refine wt_R.ofW (cc := cX5_isRoom) (maxL := 2) (ret := (some .boolean)) (by decide) rfl (Nat.le_of_ble_eq_true rfl) ?_
  intro p e s m below meth c ls hx hb hr hts hown hlocks hml hP hK hl
  have hown : s.vm.findClass RX5 = some m.cls := hown
  have hl : lv_has ls 2 [(0, .ref x), (1, .int t)] := hl
  have hi0 : ∀ w ∈ u_ws RX0 TX0 12, w ∈ wsX5_isRoom := by decide +kernel
  have hi5 : ∀ w ∈ u_ws RX5 TX5 10, w ∈ wsX5_isRoom := by decide +kernel
  have wf239 := hts (.fieldLink RX5 239 "WarmTubes$House" "rooms" "I") (by decide +kernel)
  have wf26 := hts (.fieldLink RX5 26 "WarmTubes" "now" "LWarmTubes$House;") (by decide +kernel)
  refine lv_iload_n hx hb dX5_isRoom_0 rfl (lv_at hl 1 rfl) ?_
  refine lv_iconst (v := 0) hx hb dX5_isRoom_1 (by decide) ?_
  refine lv_aload_n hx hb dX5_isRoom_2 rfl (lv_at hl 0 rfl) ?_
  refine va_get (D := D) (ci := 5) (v := .ref nw) (C := RX5) (T := TX5) (N := 10) hx hb hts hi5 hown hK.1 hP 0 rfl rfl 2 (by decide) wf26 (fun _ h9 => h9) rfl dX5_isRoom_3 ?_
  refine va_get (D := D) (ci := 0) (v := .int rooms) (C := RX0) (T := TX0) (N := 12) hx hb hts hi0 hown hK.1 hP 1 rfl rfl 2 (by decide) wf239 (fun _ h9 => h9) rfl dX5_isRoom_6 ?_
  refine lv_iconst (v := 1) hx hb dX5_isRoom_9 (by decide) ?_
  refine lv_isub hx hb dX5_isRoom_10 ?_
  refine wt_rS (As := [.int t, .int 0, .int (rooms - 1)]) (rest := []) ⟨hx, hb, hml, hown, hts⟩ (c_X5_within l D cI cZ cH t 0 (rooms - 1)) (va_cwS 3 hts gX5_isRoom_X5_within rfl rfl rfl (by decide +kernel) ⟨Nat.le_of_ble_eq_true rfl, Nat.le_of_ble_eq_true rfl⟩) hK hP [] rfl rfl hl.1 rfl (Nat.le_of_ble_eq_true rfl) dX5_isRoom_11 ⟨Nat.le_of_ble_eq_true rfl, Nat.le_of_ble_eq_true rfl⟩ (fun r_1 e_2 => ?_)
  subst e_2
  exact wt_szret hx hb hr hlocks (wI_01 _ _ _) (by rfl) dX5_isRoom_14
set_option maxHeartbeats 4000000 in
set_option maxRecDepth 100000 in
theorem c_X5_isPlace (l : Launch) (D : va_G) (cI cZ cH : ClassId) (x nw : Nat) (rooms t : Int32) (x_0 x_1 x_3 x_4 x_5 x_6 x_7 x_8 x_9 n_0 n_1 n_3 n_4 n_5 n_6 n_7 n_8 n_9 n_10 n_11 : Value) : wt_R l yX5_isPlace wsX5_isPlace ({ frames := 1, cells := 0, slots := 0, locals := 22 } : Room) D (wt_T cI cZ cH) [.ref x, .int t] [(x, .inr (5, [x_0, x_1, .ref nw, x_3, x_4, x_5, x_6, x_7, x_8, x_9])), (nw, .inr (0, [n_0, n_1, .int rooms, n_3, n_4, n_5, n_6, n_7, n_8, n_9, n_10, n_11]))] (vp_Si (fun r => r = (if wP rooms = 0 then 0 else if wI t 0 rooms = 0 then 0 else 1))) := by
  refine wt_R.ofW (cc := cX5_isPlace) (maxL := 2) (ret := (some .boolean)) (by decide) rfl (Nat.le_of_ble_eq_true rfl) ?_
  intro p e s m below meth c ls hx hb hr hts hown hlocks hml hP hK hl
  have hown : s.vm.findClass RX5 = some m.cls := hown
  have hl : lv_has ls 2 [(0, .ref x), (1, .int t)] := hl
  have hi0 : ∀ w ∈ u_ws RX0 TX0 12, w ∈ wsX5_isPlace := by decide +kernel
  have hi5 : ∀ w ∈ u_ws RX5 TX5 10, w ∈ wsX5_isPlace := by decide +kernel
  have wf239 := hts (.fieldLink RX5 239 "WarmTubes$House" "rooms" "I") (by decide +kernel)
  have wf26 := hts (.fieldLink RX5 26 "WarmTubes" "now" "LWarmTubes$House;") (by decide +kernel)
  refine lv_aload_n hx hb dX5_isPlace_0 rfl (lv_at hl 0 rfl) ?_
  refine va_get (D := D) (ci := 5) (v := .ref nw) (C := RX5) (T := TX5) (N := 10) hx hb hts hi5 hown hK.1 hP 0 rfl rfl 2 (by decide) wf26 (fun _ h9 => h9) rfl dX5_isPlace_1 ?_
  refine wt_rV (As := []) (rest := []) ⟨hx, hb, hml, hown, hts⟩ (c_X0_stands l D cI cZ cH nw rooms n_0 n_1 n_3 n_4 n_5 n_6 n_7 n_8 n_9 n_10 n_11) (cwV 0 hts gX5_isPlace_X0_stands rfl rfl rfl (by decide +kernel) ⟨Nat.le_of_ble_eq_true rfl, Nat.le_of_ble_eq_true rfl⟩) hK hP [1] rfl (va_recv hK.1 hP (ci := 0) (q0 := 1) rfl rfl) rfl hl.1 rfl (Nat.le_of_ble_eq_true rfl) dX5_isPlace_4 ⟨Nat.le_of_ble_eq_true rfl, Nat.le_of_ble_eq_true rfl⟩ (fun r_1 e_2 => ?_)
  subst e_2
  refine lv_if_eq (tgt := 29) hx hb dX5_isPlace_7 (by decide) (fun c_3 => ?_) (fun c_3 => ?_)
  · skip
    refine lv_iconst (v := 0) hx hb dX5_isPlace_29 (by decide) ?_
    exact wt_szret hx hb hr hlocks (by decide) (by simp_all) dX5_isPlace_30
  · skip
    refine lv_iload_n hx hb dX5_isPlace_10 rfl (lv_at hl 1 rfl) ?_
    refine lv_iconst (v := 0) hx hb dX5_isPlace_11 (by decide) ?_
    refine lv_aload_n hx hb dX5_isPlace_12 rfl (lv_at hl 0 rfl) ?_
    refine va_get (D := D) (ci := 5) (v := .ref nw) (C := RX5) (T := TX5) (N := 10) hx hb hts hi5 hown hK.1 hP 0 rfl rfl 2 (by decide) wf26 (fun _ h9 => h9) rfl dX5_isPlace_13 ?_
    refine va_get (D := D) (ci := 0) (v := .int rooms) (C := RX0) (T := TX0) (N := 12) hx hb hts hi0 hown hK.1 hP 1 rfl rfl 2 (by decide) wf239 (fun _ h9 => h9) rfl dX5_isPlace_16 ?_
    refine wt_rS (As := [.int t, .int 0, .int rooms]) (rest := []) ⟨hx, hb, hml, hown, hts⟩ (c_X5_within l D cI cZ cH t 0 rooms) (va_cwS 3 hts gX5_isPlace_X5_within rfl rfl rfl (by decide +kernel) ⟨Nat.le_of_ble_eq_true rfl, Nat.le_of_ble_eq_true rfl⟩) hK hP [] rfl rfl hl.1 rfl (Nat.le_of_ble_eq_true rfl) dX5_isPlace_19 ⟨Nat.le_of_ble_eq_true rfl, Nat.le_of_ble_eq_true rfl⟩ (fun r_4 e_5 => ?_)
    subst e_5
    refine lv_if_eq (tgt := 29) hx hb dX5_isPlace_22 (by decide) (fun c_6 => ?_) (fun c_6 => ?_)
    · skip
      refine lv_iconst (v := 0) hx hb dX5_isPlace_29 (by decide) ?_
      exact wt_szret hx hb hr hlocks (by decide) (by simp_all) dX5_isPlace_30
    · skip
      refine lv_iconst (v := 1) hx hb dX5_isPlace_25 (by decide) ?_
      refine lv_goto (tgt := 30) hx hb dX5_isPlace_26 (by decide) ?_
      exact wt_szret hx hb hr hlocks (by decide) (by simp_all) dX5_isPlace_30
set_option maxHeartbeats 4000000 in
set_option maxRecDepth 100000 in
theorem c_X0_coldRooms (l : Launch) (D : va_G) (cI cZ cH : ClassId) (nw : Nat) (n_0 n_1 n_3 n_4 n_5 n_6 n_7 n_8 n_9 n_10 n_11 : Value) : wt_R l yX0_coldRooms wsX0_coldRooms ({ frames := 0, cells := 0, slots := 0, locals := 0 } : Room) D (wt_T cI cZ cH) [.ref nw] [(nw, .inr (0, [n_0, n_1, .int 0, n_3, n_4, n_5, n_6, n_7, n_8, n_9, n_10, n_11]))] (vp_Si (fun r => r = 0)) := by
  refine wt_R.ofW (cc := cX0_coldRooms) (maxL := 3) (ret := (some .int)) (by decide) rfl (Nat.le_of_ble_eq_true rfl) ?_
  intro p e s m below meth c ls hx hb hr hts hown hlocks hml hP hK hl
  have hown : s.vm.findClass RX0 = some m.cls := hown
  have hl : lv_has ls 3 [(0, .ref nw)] := hl
  have hi0 : ∀ w ∈ u_ws RX0 TX0 12, w ∈ wsX0_coldRooms := by decide +kernel
  have wf18 := hts (.fieldLink RX0 18 "WarmTubes$House" "rooms" "I") (by decide +kernel)
  refine lv_iconst (v := 0) hx hb dX0_coldRooms_0 (by decide) ?_
  refine lv_istore_n (lv' := [(1, .int 0), (0, .ref nw)]) hx hb dX0_coldRooms_1 rfl hl (by decide) rfl (fun ls hl => ?_)
  refine lv_iconst (v := 0) hx hb dX0_coldRooms_2 (by decide) ?_
  refine lv_istore_n (lv' := [(2, .int 0), (1, .int 0), (0, .ref nw)]) hx hb dX0_coldRooms_3 rfl hl (by decide) rfl (fun ls hl => ?_)
  refine lv_iload_n hx hb dX0_coldRooms_4 rfl (lv_at hl 0 rfl) ?_
  refine lv_aload_n hx hb dX0_coldRooms_5 rfl (lv_at hl 2 rfl) ?_
  refine va_get (D := D) (ci := 0) (v := .int 0) (C := RX0) (T := TX0) (N := 12) hx hb hts hi0 hown hK.1 hP 0 rfl rfl 2 (by decide) wf18 (fun _ h9 => h9) rfl dX0_coldRooms_6 ?_
  refine lv_icmp_ge (tgt := 37) hx hb dX0_coldRooms_9 (by decide) (fun _ => ?_) (fun h => absurd h (by decide))
  refine lv_iload_n hx hb dX0_coldRooms_37 rfl (lv_at hl 1 rfl) ?_
  exact wt_siret hx hb hr hlocks (by rfl) dX0_coldRooms_38
set_option maxHeartbeats 4000000 in
set_option maxRecDepth 100000 in
theorem c_X0_upIn (l : Launch) (D : va_G) (cI cZ cH : ClassId) (nw : Nat) (set : Int32) (n_0 n_1 n_2 n_4 n_5 n_6 n_7 n_8 n_9 n_10 n_11 : Value) : wt_R l yX0_upIn wsX0_upIn ({ frames := 0, cells := 0, slots := 0, locals := 0 } : Room) D (wt_T cI cZ cH) [.ref nw, .int set] [(nw, .inr (0, [n_0, n_1, n_2, .int 0, n_4, n_5, n_6, n_7, n_8, n_9, n_10, n_11]))] (vp_Si (fun r => r = 0)) := by
  refine wt_R.ofW (cc := cX0_upIn) (maxL := 4) (ret := (some .int)) (by decide) rfl (Nat.le_of_ble_eq_true rfl) ?_
  intro p e s m below meth c ls hx hb hr hts hown hlocks hml hP hK hl
  have hown : s.vm.findClass RX0 = some m.cls := hown
  have hl : lv_has ls 4 [(0, .ref nw), (1, .int set)] := hl
  have hi0 : ∀ w ∈ u_ws RX0 TX0 12, w ∈ wsX0_upIn := by decide +kernel
  have wf21 := hts (.fieldLink RX0 21 "WarmTubes$House" "tubes" "I") (by decide +kernel)
  refine lv_iconst (v := 0) hx hb dX0_upIn_0 (by decide) ?_
  refine lv_istore_n (lv' := [(2, .int 0), (0, .ref nw), (1, .int set)]) hx hb dX0_upIn_1 rfl hl (by decide) rfl (fun ls hl => ?_)
  refine lv_iconst (v := 0) hx hb dX0_upIn_2 (by decide) ?_
  refine lv_istore_n (lv' := [(3, .int 0), (2, .int 0), (0, .ref nw), (1, .int set)]) hx hb dX0_upIn_3 rfl hl (by decide) rfl (fun ls hl => ?_)
  refine lv_iload_n hx hb dX0_upIn_4 rfl (lv_at hl 0 rfl) ?_
  refine lv_aload_n hx hb dX0_upIn_5 rfl (lv_at hl 2 rfl) ?_
  refine va_get (D := D) (ci := 0) (v := .int 0) (C := RX0) (T := TX0) (N := 12) hx hb hts hi0 hown hK.1 hP 0 rfl rfl 3 (by decide) wf21 (fun _ h9 => h9) rfl dX0_upIn_6 ?_
  refine lv_icmp_ge (tgt := 35) hx hb dX0_upIn_9 (by decide) (fun _ => ?_) (fun h => absurd h (by decide))
  refine lv_iload_n hx hb dX0_upIn_35 rfl (lv_at hl 1 rfl) ?_
  exact wt_siret hx hb hr hlocks (by rfl) dX0_upIn_36
set_option maxHeartbeats 4000000 in
set_option maxRecDepth 100000 in
theorem c_X5_carry (l : Launch) (D : va_G) (cI cZ cH : ClassId) (x nw : Nat) (a1 a2 : Int32) (x_0 x_1 x_3 x_4 x_5 x_6 x_7 x_8 x_9 n_0 n_1 n_2 n_4 n_5 n_6 n_7 n_8 n_9 n_10 n_11 : Value) : wt_R l yX5_carry wsX5_carry ({ frames := 2, cells := 0, slots := 0, locals := 43 } : Room) D (wt_T cI cZ cH) [.ref x, .int a1, .int a2] [(x, .inr (5, [x_0, x_1, .ref nw, x_3, x_4, x_5, x_6, x_7, x_8, x_9])), (nw, .inr (0, [n_0, n_1, n_2, .int 0, n_4, n_5, n_6, n_7, n_8, n_9, n_10, n_11]))] (vp_Si (fun r => r = (-1000001))) := by
  refine wt_R.ofW (cc := cX5_carry) (maxL := 4) (ret := (some .int)) (by decide) rfl (Nat.le_of_ble_eq_true rfl) ?_
  intro p e s m below meth c ls hx hb hr hts hown hlocks hml hP hK hl
  have hown : s.vm.findClass RX5 = some m.cls := hown
  have hl : lv_has ls 4 [(0, .ref x), (1, .int a1), (2, .int a2)] := hl
  have wc70 := hts (.constant RX5 70 (-1000001)) (by decide +kernel)
  refine lv_aload_n hx hb dX5_carry_0 rfl (lv_at hl 0 rfl) ?_
  refine lv_iload_n hx hb dX5_carry_1 rfl (lv_at hl 1 rfl) ?_
  refine wt_rV (As := [.int a1]) (rest := []) ⟨hx, hb, hml, hown, hts⟩ (c_X5_isTube l D cI cZ cH x nw 0 a1 x_0 x_1 x_3 x_4 x_5 x_6 x_7 x_8 x_9 n_0 n_1 n_2 n_4 n_5 n_6 n_7 n_8 n_9 n_10 n_11) (cwV 1 hts gX5_carry_X5_isTube rfl rfl rfl (by decide +kernel) ⟨Nat.le_of_ble_eq_true rfl, Nat.le_of_ble_eq_true rfl⟩) hK hP [0, 1] rfl (va_recv hK.1 hP (ci := 5) (q0 := 0) rfl rfl) rfl hl.1 rfl (Nat.le_of_ble_eq_true rfl) dX5_carry_2 ⟨Nat.le_of_ble_eq_true rfl, Nat.le_of_ble_eq_true rfl⟩ (fun r_1 e_2 => ?_)
  subst e_2
  refine wt_top (z := 0) (wI_m1' _) ?_
  refine lv_if_eq (tgt := 16) hx hb dX5_carry_5 (by decide) (fun _ => ?_) (fun h => absurd h (by decide))
  refine lv_ldc hx hb hown wc70 dX5_carry_16 ?_
  exact wt_siret hx hb hr hlocks (by rfl) dX5_carry_18
set_option maxHeartbeats 4000000 in
set_option maxRecDepth 100000 in
theorem c_X5_shake (l : Launch) (D : va_G) (cI cZ cH : ClassId) (x nw : Nat) (a1 : Int32) (x_0 x_1 x_3 x_4 x_5 x_6 x_7 x_8 x_9 n_0 n_1 n_2 n_4 n_5 n_6 n_7 n_8 n_9 n_10 n_11 : Value) : wt_R l yX5_shake wsX5_shake ({ frames := 2, cells := 0, slots := 0, locals := 43 } : Room) D (wt_T cI cZ cH) [.ref x, .int a1] [(x, .inr (5, [x_0, x_1, .ref nw, x_3, x_4, x_5, x_6, x_7, x_8, x_9])), (nw, .inr (0, [n_0, n_1, n_2, .int 0, n_4, n_5, n_6, n_7, n_8, n_9, n_10, n_11]))] (vp_Si (fun r => r = (-1000001))) := by
  refine wt_R.ofW (cc := cX5_shake) (maxL := 3) (ret := (some .int)) (by decide) rfl (Nat.le_of_ble_eq_true rfl) ?_
  intro p e s m below meth c ls hx hb hr hts hown hlocks hml hP hK hl
  have hown : s.vm.findClass RX5 = some m.cls := hown
  have hl : lv_has ls 3 [(0, .ref x), (1, .int a1)] := hl
  have wc70 := hts (.constant RX5 70 (-1000001)) (by decide +kernel)
  refine lv_aload_n hx hb dX5_shake_0 rfl (lv_at hl 0 rfl) ?_
  refine lv_iload_n hx hb dX5_shake_1 rfl (lv_at hl 1 rfl) ?_
  refine wt_rV (As := [.int a1]) (rest := []) ⟨hx, hb, hml, hown, hts⟩ (c_X5_isTube l D cI cZ cH x nw 0 a1 x_0 x_1 x_3 x_4 x_5 x_6 x_7 x_8 x_9 n_0 n_1 n_2 n_4 n_5 n_6 n_7 n_8 n_9 n_10 n_11) (cwV 1 hts gX5_shake_X5_isTube rfl rfl rfl (by decide +kernel) ⟨Nat.le_of_ble_eq_true rfl, Nat.le_of_ble_eq_true rfl⟩) hK hP [0, 1] rfl (va_recv hK.1 hP (ci := 5) (q0 := 0) rfl rfl) rfl hl.1 rfl (Nat.le_of_ble_eq_true rfl) dX5_shake_2 ⟨Nat.le_of_ble_eq_true rfl, Nat.le_of_ble_eq_true rfl⟩ (fun r_1 e_2 => ?_)
  subst e_2
  refine wt_top (z := 0) (wI_m1' _) ?_
  refine lv_if_ne (tgt := 11) hx hb dX5_shake_5 (by decide) (fun h => absurd h (by decide)) (fun _ => ?_)
  refine lv_ldc hx hb hown wc70 dX5_shake_8 ?_
  exact wt_siret hx hb hr hlocks (by rfl) dX5_shake_10
set_option maxHeartbeats 4000000 in
set_option maxRecDepth 100000 in
theorem c_X5_pour (l : Launch) (D : va_G) (cI cZ cH : ClassId) (x nw : Nat) (a1 a2 : Int32) (x_0 x_1 x_3 x_4 x_5 x_6 x_7 x_8 x_9 n_0 n_1 n_2 n_4 n_5 n_6 n_7 n_8 n_9 n_10 n_11 : Value) : wt_R l yX5_pour wsX5_pour ({ frames := 2, cells := 0, slots := 0, locals := 43 } : Room) D (wt_T cI cZ cH) [.ref x, .int a1, .int a2] [(x, .inr (5, [x_0, x_1, .ref nw, x_3, x_4, x_5, x_6, x_7, x_8, x_9])), (nw, .inr (0, [n_0, n_1, n_2, .int 0, n_4, n_5, n_6, n_7, n_8, n_9, n_10, n_11]))] (vp_Si (fun r => r = (-1000001))) := by
  refine wt_R.ofW (cc := cX5_pour) (maxL := 4) (ret := (some .int)) (by decide) rfl (Nat.le_of_ble_eq_true rfl) ?_
  intro p e s m below meth c ls hx hb hr hts hown hlocks hml hP hK hl
  have hown : s.vm.findClass RX5 = some m.cls := hown
  have hl : lv_has ls 4 [(0, .ref x), (1, .int a1), (2, .int a2)] := hl
  have wc70 := hts (.constant RX5 70 (-1000001)) (by decide +kernel)
  refine lv_aload_n hx hb dX5_pour_0 rfl (lv_at hl 0 rfl) ?_
  refine lv_iload_n hx hb dX5_pour_1 rfl (lv_at hl 1 rfl) ?_
  refine wt_rV (As := [.int a1]) (rest := []) ⟨hx, hb, hml, hown, hts⟩ (c_X5_isTube l D cI cZ cH x nw 0 a1 x_0 x_1 x_3 x_4 x_5 x_6 x_7 x_8 x_9 n_0 n_1 n_2 n_4 n_5 n_6 n_7 n_8 n_9 n_10 n_11) (cwV 1 hts gX5_pour_X5_isTube rfl rfl rfl (by decide +kernel) ⟨Nat.le_of_ble_eq_true rfl, Nat.le_of_ble_eq_true rfl⟩) hK hP [0, 1] rfl (va_recv hK.1 hP (ci := 5) (q0 := 0) rfl rfl) rfl hl.1 rfl (Nat.le_of_ble_eq_true rfl) dX5_pour_2 ⟨Nat.le_of_ble_eq_true rfl, Nat.le_of_ble_eq_true rfl⟩ (fun r_1 e_2 => ?_)
  subst e_2
  refine wt_top (z := 0) (wI_m1' _) ?_
  refine lv_if_eq (tgt := 21) hx hb dX5_pour_5 (by decide) (fun _ => ?_) (fun h => absurd h (by decide))
  refine lv_ldc hx hb hown wc70 dX5_pour_21 ?_
  exact wt_siret hx hb hr hlocks (by rfl) dX5_pour_23
set_option maxHeartbeats 4000000 in
set_option maxRecDepth 100000 in
theorem c_X5_tube (l : Launch) (D : va_G) (cI cZ cH : ClassId) (x nw : Nat) (a1 a2 : Int32) (x_0 x_1 x_3 x_4 x_5 x_6 x_7 x_8 x_9 n_0 n_1 n_2 n_4 n_5 n_6 n_7 n_8 n_9 n_10 n_11 : Value) : wt_R l yX5_tube wsX5_tube ({ frames := 2, cells := 0, slots := 0, locals := 43 } : Room) D (wt_T cI cZ cH) [.ref x, .int a1, .int a2] [(x, .inr (5, [x_0, x_1, .ref nw, x_3, x_4, x_5, x_6, x_7, x_8, x_9])), (nw, .inr (0, [n_0, n_1, n_2, .int 0, n_4, n_5, n_6, n_7, n_8, n_9, n_10, n_11]))] (vp_Si (fun r => r = (-1000001))) := by
  refine wt_R.ofW (cc := cX5_tube) (maxL := 3) (ret := (some .int)) (by decide) rfl (Nat.le_of_ble_eq_true rfl) ?_
  intro p e s m below meth c ls hx hb hr hts hown hlocks hml hP hK hl
  have hown : s.vm.findClass RX5 = some m.cls := hown
  have hl : lv_has ls 3 [(0, .ref x), (1, .int a1), (2, .int a2)] := hl
  have wc70 := hts (.constant RX5 70 (-1000001)) (by decide +kernel)
  refine lv_aload_n hx hb dX5_tube_0 rfl (lv_at hl 0 rfl) ?_
  refine lv_iload_n hx hb dX5_tube_1 rfl (lv_at hl 1 rfl) ?_
  refine wt_rV (As := [.int a1]) (rest := []) ⟨hx, hb, hml, hown, hts⟩ (c_X5_isTube l D cI cZ cH x nw 0 a1 x_0 x_1 x_3 x_4 x_5 x_6 x_7 x_8 x_9 n_0 n_1 n_2 n_4 n_5 n_6 n_7 n_8 n_9 n_10 n_11) (cwV 1 hts gX5_tube_X5_isTube rfl rfl rfl (by decide +kernel) ⟨Nat.le_of_ble_eq_true rfl, Nat.le_of_ble_eq_true rfl⟩) hK hP [0, 1] rfl (va_recv hK.1 hP (ci := 5) (q0 := 0) rfl rfl) rfl hl.1 rfl (Nat.le_of_ble_eq_true rfl) dX5_tube_2 ⟨Nat.le_of_ble_eq_true rfl, Nat.le_of_ble_eq_true rfl⟩ (fun r_1 e_2 => ?_)
  subst e_2
  refine wt_top (z := 0) (wI_m1' _) ?_
  refine lv_if_ne (tgt := 11) hx hb dX5_tube_5 (by decide) (fun h => absurd h (by decide)) (fun _ => ?_)
  refine lv_ldc hx hb hown wc70 dX5_tube_8 ?_
  exact wt_siret hx hb hr hlocks (by rfl) dX5_tube_10
set_option maxHeartbeats 4000000 in
set_option maxRecDepth 100000 in
theorem c_X5_upAhead (l : Launch) (D : va_G) (cI cZ cH : ClassId) (x nw : Nat) (a1 a2 : Int32) (x_0 x_1 x_3 x_4 x_5 x_6 x_7 x_8 x_9 n_0 n_1 n_2 n_4 n_5 n_6 n_7 n_8 n_9 n_10 n_11 : Value) : wt_R l yX5_upAhead wsX5_upAhead ({ frames := 2, cells := 0, slots := 0, locals := 43 } : Room) D (wt_T cI cZ cH) [.ref x, .int a1, .int a2] [(x, .inr (5, [x_0, x_1, .ref nw, x_3, x_4, x_5, x_6, x_7, x_8, x_9])), (nw, .inr (0, [n_0, n_1, n_2, .int 0, n_4, n_5, n_6, n_7, n_8, n_9, n_10, n_11]))] (vp_Si (fun r => r = (-1000001))) := by
  refine wt_R.ofW (cc := cX5_upAhead) (maxL := 3) (ret := (some .int)) (by decide) rfl (Nat.le_of_ble_eq_true rfl) ?_
  intro p e s m below meth c ls hx hb hr hts hown hlocks hml hP hK hl
  have hown : s.vm.findClass RX5 = some m.cls := hown
  have hl : lv_has ls 3 [(0, .ref x), (1, .int a1), (2, .int a2)] := hl
  have wc70 := hts (.constant RX5 70 (-1000001)) (by decide +kernel)
  refine lv_aload_n hx hb dX5_upAhead_0 rfl (lv_at hl 0 rfl) ?_
  refine lv_iload_n hx hb dX5_upAhead_1 rfl (lv_at hl 1 rfl) ?_
  refine wt_rV (As := [.int a1]) (rest := []) ⟨hx, hb, hml, hown, hts⟩ (c_X5_isTube l D cI cZ cH x nw 0 a1 x_0 x_1 x_3 x_4 x_5 x_6 x_7 x_8 x_9 n_0 n_1 n_2 n_4 n_5 n_6 n_7 n_8 n_9 n_10 n_11) (cwV 1 hts gX5_upAhead_X5_isTube rfl rfl rfl (by decide +kernel) ⟨Nat.le_of_ble_eq_true rfl, Nat.le_of_ble_eq_true rfl⟩) hK hP [0, 1] rfl (va_recv hK.1 hP (ci := 5) (q0 := 0) rfl rfl) rfl hl.1 rfl (Nat.le_of_ble_eq_true rfl) dX5_upAhead_2 ⟨Nat.le_of_ble_eq_true rfl, Nat.le_of_ble_eq_true rfl⟩ (fun r_1 e_2 => ?_)
  subst e_2
  refine wt_top (z := 0) (wI_m1' _) ?_
  refine lv_if_eq (tgt := 18) hx hb dX5_upAhead_5 (by decide) (fun _ => ?_) (fun h => absurd h (by decide))
  refine lv_ldc hx hb hown wc70 dX5_upAhead_18 ?_
  exact wt_siret hx hb hr hlocks (by rfl) dX5_upAhead_20
set_option maxHeartbeats 4000000 in
set_option maxRecDepth 100000 in
theorem c_X5_filled (l : Launch) (D : va_G) (cI cZ cH : ClassId) (x nw : Nat) (a1 : Int32) (x_0 x_1 x_3 x_4 x_5 x_6 x_7 x_8 x_9 n_0 n_1 n_2 n_4 n_5 n_6 n_7 n_8 n_9 n_10 n_11 : Value) : wt_R l yX5_filled wsX5_filled ({ frames := 2, cells := 0, slots := 0, locals := 43 } : Room) D (wt_T cI cZ cH) [.ref x, .int a1] [(x, .inr (5, [x_0, x_1, .ref nw, x_3, x_4, x_5, x_6, x_7, x_8, x_9])), (nw, .inr (0, [n_0, n_1, n_2, .int 0, n_4, n_5, n_6, n_7, n_8, n_9, n_10, n_11]))] (vp_Si (fun r => r = (-1000001))) := by
  refine wt_R.ofW (cc := cX5_filled) (maxL := 3) (ret := (some .int)) (by decide) rfl (Nat.le_of_ble_eq_true rfl) ?_
  intro p e s m below meth c ls hx hb hr hts hown hlocks hml hP hK hl
  have hown : s.vm.findClass RX5 = some m.cls := hown
  have hl : lv_has ls 3 [(0, .ref x), (1, .int a1)] := hl
  have wc70 := hts (.constant RX5 70 (-1000001)) (by decide +kernel)
  refine lv_aload_n hx hb dX5_filled_0 rfl (lv_at hl 0 rfl) ?_
  refine lv_iload_n hx hb dX5_filled_1 rfl (lv_at hl 1 rfl) ?_
  refine wt_rV (As := [.int a1]) (rest := []) ⟨hx, hb, hml, hown, hts⟩ (c_X5_isTube l D cI cZ cH x nw 0 a1 x_0 x_1 x_3 x_4 x_5 x_6 x_7 x_8 x_9 n_0 n_1 n_2 n_4 n_5 n_6 n_7 n_8 n_9 n_10 n_11) (cwV 1 hts gX5_filled_X5_isTube rfl rfl rfl (by decide +kernel) ⟨Nat.le_of_ble_eq_true rfl, Nat.le_of_ble_eq_true rfl⟩) hK hP [0, 1] rfl (va_recv hK.1 hP (ci := 5) (q0 := 0) rfl rfl) rfl hl.1 rfl (Nat.le_of_ble_eq_true rfl) dX5_filled_2 ⟨Nat.le_of_ble_eq_true rfl, Nat.le_of_ble_eq_true rfl⟩ (fun r_1 e_2 => ?_)
  subst e_2
  refine wt_top (z := 0) (wI_m1' _) ?_
  refine lv_if_ne (tgt := 11) hx hb dX5_filled_5 (by decide) (fun h => absurd h (by decide)) (fun _ => ?_)
  refine lv_ldc hx hb hown wc70 dX5_filled_8 ?_
  exact wt_siret hx hb hr hlocks (by rfl) dX5_filled_10
set_option maxHeartbeats 4000000 in
set_option maxRecDepth 100000 in
theorem c_X5_hang (l : Launch) (D : va_G) (cI cZ cH : ClassId) (x nw : Nat) (a1 a2 a3 : Int32) (x_0 x_1 x_3 x_4 x_5 x_6 x_7 x_8 x_9 n_0 n_1 n_2 n_4 n_5 n_6 n_7 n_8 n_9 n_10 n_11 : Value) : wt_R l yX5_hang wsX5_hang ({ frames := 2, cells := 0, slots := 0, locals := 43 } : Room) D (wt_T cI cZ cH) [.ref x, .int a1, .int a2, .int a3] [(x, .inr (5, [x_0, x_1, .ref nw, x_3, x_4, x_5, x_6, x_7, x_8, x_9])), (nw, .inr (0, [n_0, n_1, n_2, .int 0, n_4, n_5, n_6, n_7, n_8, n_9, n_10, n_11]))] (vp_Si (fun r => r = (-1000001))) := by
  refine wt_R.ofW (cc := cX5_hang) (maxL := 7) (ret := (some .int)) (by decide) rfl (Nat.le_of_ble_eq_true rfl) ?_
  intro p e s m below meth c ls hx hb hr hts hown hlocks hml hP hK hl
  have hown : s.vm.findClass RX5 = some m.cls := hown
  have hl : lv_has ls 7 [(0, .ref x), (1, .int a1), (2, .int a2), (3, .int a3)] := hl
  have wc70 := hts (.constant RX5 70 (-1000001)) (by decide +kernel)
  refine lv_aload_n hx hb dX5_hang_0 rfl (lv_at hl 0 rfl) ?_
  refine lv_iload_n hx hb dX5_hang_1 rfl (lv_at hl 1 rfl) ?_
  refine wt_rV (As := [.int a1]) (rest := []) ⟨hx, hb, hml, hown, hts⟩ (c_X5_isTube l D cI cZ cH x nw 0 a1 x_0 x_1 x_3 x_4 x_5 x_6 x_7 x_8 x_9 n_0 n_1 n_2 n_4 n_5 n_6 n_7 n_8 n_9 n_10 n_11) (cwV 1 hts gX5_hang_X5_isTube rfl rfl rfl (by decide +kernel) ⟨Nat.le_of_ble_eq_true rfl, Nat.le_of_ble_eq_true rfl⟩) hK hP [0, 1] rfl (va_recv hK.1 hP (ci := 5) (q0 := 0) rfl rfl) rfl hl.1 rfl (Nat.le_of_ble_eq_true rfl) dX5_hang_2 ⟨Nat.le_of_ble_eq_true rfl, Nat.le_of_ble_eq_true rfl⟩ (fun r_1 e_2 => ?_)
  subst e_2
  refine wt_top (z := 0) (wI_m1' _) ?_
  refine lv_if_eq (tgt := 27) hx hb dX5_hang_5 (by decide) (fun _ => ?_) (fun h => absurd h (by decide))
  refine lv_ldc hx hb hown wc70 dX5_hang_27 ?_
  exact wt_siret hx hb hr hlocks (by rfl) dX5_hang_29
set_option maxHeartbeats 4000000 in
set_option maxRecDepth 100000 in
theorem c_X5_pours (l : Launch) (D : va_G) (cI cZ cH : ClassId) (x nw : Nat) (a1 a2 a3 : Int32) (x_0 x_1 x_3 x_4 x_5 x_6 x_7 x_8 x_9 n_0 n_1 n_2 n_4 n_5 n_6 n_7 n_8 n_9 n_10 n_11 : Value) : wt_R l yX5_pours wsX5_pours ({ frames := 2, cells := 0, slots := 0, locals := 43 } : Room) D (wt_T cI cZ cH) [.ref x, .int a1, .int a2, .int a3] [(x, .inr (5, [x_0, x_1, .ref nw, x_3, x_4, x_5, x_6, x_7, x_8, x_9])), (nw, .inr (0, [n_0, n_1, n_2, .int 0, n_4, n_5, n_6, n_7, n_8, n_9, n_10, n_11]))] (vp_Si (fun r => r = (-1000001))) := by
  refine wt_R.ofW (cc := cX5_pours) (maxL := 5) (ret := (some .int)) (by decide) rfl (Nat.le_of_ble_eq_true rfl) ?_
  intro p e s m below meth c ls hx hb hr hts hown hlocks hml hP hK hl
  have hown : s.vm.findClass RX5 = some m.cls := hown
  have hl : lv_has ls 5 [(0, .ref x), (1, .int a1), (2, .int a2), (3, .int a3)] := hl
  have wc70 := hts (.constant RX5 70 (-1000001)) (by decide +kernel)
  refine lv_aload_n hx hb dX5_pours_0 rfl (lv_at hl 0 rfl) ?_
  refine lv_iload_n hx hb dX5_pours_1 rfl (lv_at hl 1 rfl) ?_
  refine wt_rV (As := [.int a1]) (rest := []) ⟨hx, hb, hml, hown, hts⟩ (c_X5_isTube l D cI cZ cH x nw 0 a1 x_0 x_1 x_3 x_4 x_5 x_6 x_7 x_8 x_9 n_0 n_1 n_2 n_4 n_5 n_6 n_7 n_8 n_9 n_10 n_11) (cwV 1 hts gX5_pours_X5_isTube rfl rfl rfl (by decide +kernel) ⟨Nat.le_of_ble_eq_true rfl, Nat.le_of_ble_eq_true rfl⟩) hK hP [0, 1] rfl (va_recv hK.1 hP (ci := 5) (q0 := 0) rfl rfl) rfl hl.1 rfl (Nat.le_of_ble_eq_true rfl) dX5_pours_2 ⟨Nat.le_of_ble_eq_true rfl, Nat.le_of_ble_eq_true rfl⟩ (fun r_1 e_2 => ?_)
  subst e_2
  refine wt_top (z := 0) (wI_m1' _) ?_
  refine lv_if_eq (tgt := 23) hx hb dX5_pours_5 (by decide) (fun _ => ?_) (fun h => absurd h (by decide))
  refine lv_ldc hx hb hown wc70 dX5_pours_23 ?_
  exact wt_siret hx hb hr hlocks (by rfl) dX5_pours_25
set_option maxHeartbeats 4000000 in
set_option maxRecDepth 100000 in
theorem c_X5_sale (l : Launch) (D : va_G) (cI cZ cH : ClassId) (x nw : Nat) (a1 a2 a3 a4 a5 : Int32) (x_0 x_1 x_3 x_4 x_5 x_6 x_7 x_8 x_9 n_0 n_1 n_2 n_4 n_5 n_6 n_7 n_8 n_9 n_10 n_11 : Value) : wt_R l yX5_sale wsX5_sale ({ frames := 2, cells := 0, slots := 0, locals := 43 } : Room) D (wt_T cI cZ cH) [.ref x, .int a1, .int a2, .int a3, .int a4, .int a5] [(x, .inr (5, [x_0, x_1, .ref nw, x_3, x_4, x_5, x_6, x_7, x_8, x_9])), (nw, .inr (0, [n_0, n_1, n_2, .int 0, n_4, n_5, n_6, n_7, n_8, n_9, n_10, n_11]))] (vp_Si (fun r => r = (-1000001))) := by
  refine wt_R.ofW (cc := cX5_sale) (maxL := 10) (ret := (some .int)) (by decide) rfl (Nat.le_of_ble_eq_true rfl) ?_
  intro p e s m below meth c ls hx hb hr hts hown hlocks hml hP hK hl
  have hown : s.vm.findClass RX5 = some m.cls := hown
  have hl : lv_has ls 10 [(0, .ref x), (1, .int a1), (2, .int a2), (3, .int a3), (4, .int a4), (5, .int a5)] := hl
  have wc70 := hts (.constant RX5 70 (-1000001)) (by decide +kernel)
  refine lv_aload_n hx hb dX5_sale_0 rfl (lv_at hl 0 rfl) ?_
  refine lv_iload_n hx hb dX5_sale_1 rfl (lv_at hl 1 rfl) ?_
  refine wt_rV (As := [.int a1]) (rest := []) ⟨hx, hb, hml, hown, hts⟩ (c_X5_isTube l D cI cZ cH x nw 0 a1 x_0 x_1 x_3 x_4 x_5 x_6 x_7 x_8 x_9 n_0 n_1 n_2 n_4 n_5 n_6 n_7 n_8 n_9 n_10 n_11) (cwV 1 hts gX5_sale_X5_isTube rfl rfl rfl (by decide +kernel) ⟨Nat.le_of_ble_eq_true rfl, Nat.le_of_ble_eq_true rfl⟩) hK hP [0, 1] rfl (va_recv hK.1 hP (ci := 5) (q0 := 0) rfl rfl) rfl hl.1 rfl (Nat.le_of_ble_eq_true rfl) dX5_sale_2 ⟨Nat.le_of_ble_eq_true rfl, Nat.le_of_ble_eq_true rfl⟩ (fun r_1 e_2 => ?_)
  subst e_2
  refine wt_top (z := 0) (wI_m1' _) ?_
  refine lv_if_eq (tgt := 49) hx hb dX5_sale_5 (by decide) (fun _ => ?_) (fun h => absurd h (by decide))
  refine lv_ldc hx hb hown wc70 dX5_sale_49 ?_
  exact wt_siret hx hb hr hlocks (by rfl) dX5_sale_51
set_option maxHeartbeats 4000000 in
set_option maxRecDepth 100000 in
theorem c_X5_who (l : Launch) (D : va_G) (cI cZ cH : ClassId) (x nw : Nat) (a1 a2 a3 a4 a5 a6 : Int32) (x_0 x_1 x_3 x_4 x_5 x_6 x_7 x_8 x_9 n_0 n_1 n_2 n_4 n_5 n_6 n_7 n_8 n_9 n_10 n_11 : Value) : wt_R l yX5_who wsX5_who ({ frames := 2, cells := 0, slots := 0, locals := 43 } : Room) D (wt_T cI cZ cH) [.ref x, .int a1, .int a2, .int a3, .int a4, .int a5, .int a6] [(x, .inr (5, [x_0, x_1, .ref nw, x_3, x_4, x_5, x_6, x_7, x_8, x_9])), (nw, .inr (0, [n_0, n_1, n_2, .int 0, n_4, n_5, n_6, n_7, n_8, n_9, n_10, n_11]))] (vp_Si (fun r => r = (-1000001))) := by
  refine wt_R.ofW (cc := cX5_who) (maxL := 12) (ret := (some .int)) (by decide) rfl (Nat.le_of_ble_eq_true rfl) ?_
  intro p e s m below meth c ls hx hb hr hts hown hlocks hml hP hK hl
  have hown : s.vm.findClass RX5 = some m.cls := hown
  have hl : lv_has ls 12 [(0, .ref x), (1, .int a1), (2, .int a2), (3, .int a3), (4, .int a4), (5, .int a5), (6, .int a6)] := hl
  have wc70 := hts (.constant RX5 70 (-1000001)) (by decide +kernel)
  refine lv_aload_n hx hb dX5_who_0 rfl (lv_at hl 0 rfl) ?_
  refine lv_iload_n hx hb dX5_who_1 rfl (lv_at hl 1 rfl) ?_
  refine wt_rV (As := [.int a1]) (rest := []) ⟨hx, hb, hml, hown, hts⟩ (c_X5_isTube l D cI cZ cH x nw 0 a1 x_0 x_1 x_3 x_4 x_5 x_6 x_7 x_8 x_9 n_0 n_1 n_2 n_4 n_5 n_6 n_7 n_8 n_9 n_10 n_11) (cwV 1 hts gX5_who_X5_isTube rfl rfl rfl (by decide +kernel) ⟨Nat.le_of_ble_eq_true rfl, Nat.le_of_ble_eq_true rfl⟩) hK hP [0, 1] rfl (va_recv hK.1 hP (ci := 5) (q0 := 0) rfl rfl) rfl hl.1 rfl (Nat.le_of_ble_eq_true rfl) dX5_who_2 ⟨Nat.le_of_ble_eq_true rfl, Nat.le_of_ble_eq_true rfl⟩ (fun r_1 e_2 => ?_)
  subst e_2
  refine wt_top (z := 0) (wI_m1' _) ?_
  refine lv_if_eq (tgt := 44) hx hb dX5_who_5 (by decide) (fun _ => ?_) (fun h => absurd h (by decide))
  refine lv_ldc hx hb hown wc70 dX5_who_44 ?_
  exact wt_siret hx hb hr hlocks (by rfl) dX5_who_46
set_option maxHeartbeats 4000000 in
set_option maxRecDepth 100000 in
theorem c_X5_kind (l : Launch) (D : va_G) (cI cZ cH : ClassId) (x nw : Nat) (a1 : Int32) (x_0 x_1 x_3 x_4 x_5 x_6 x_7 x_8 x_9 n_0 n_1 n_2 n_4 n_5 n_6 n_7 n_8 n_9 n_10 n_11 : Value) : wt_R l yX5_kind wsX5_kind ({ frames := 2, cells := 0, slots := 0, locals := 43 } : Room) D (wt_T cI cZ cH) [.ref x, .int a1] [(x, .inr (5, [x_0, x_1, .ref nw, x_3, x_4, x_5, x_6, x_7, x_8, x_9])), (nw, .inr (0, [n_0, n_1, n_2, .int 0, n_4, n_5, n_6, n_7, n_8, n_9, n_10, n_11]))] (vp_Si (fun r => r = (-1000001))) := by
  refine wt_R.ofW (cc := cX5_kind) (maxL := 2) (ret := (some .int)) (by decide) rfl (Nat.le_of_ble_eq_true rfl) ?_
  intro p e s m below meth c ls hx hb hr hts hown hlocks hml hP hK hl
  have hown : s.vm.findClass RX5 = some m.cls := hown
  have hl : lv_has ls 2 [(0, .ref x), (1, .int a1)] := hl
  have wc70 := hts (.constant RX5 70 (-1000001)) (by decide +kernel)
  refine lv_aload_n hx hb dX5_kind_0 rfl (lv_at hl 0 rfl) ?_
  refine lv_iload_n hx hb dX5_kind_1 rfl (lv_at hl 1 rfl) ?_
  refine wt_rV (As := [.int a1]) (rest := []) ⟨hx, hb, hml, hown, hts⟩ (c_X5_isTube l D cI cZ cH x nw 0 a1 x_0 x_1 x_3 x_4 x_5 x_6 x_7 x_8 x_9 n_0 n_1 n_2 n_4 n_5 n_6 n_7 n_8 n_9 n_10 n_11) (cwV 1 hts gX5_kind_X5_isTube rfl rfl rfl (by decide +kernel) ⟨Nat.le_of_ble_eq_true rfl, Nat.le_of_ble_eq_true rfl⟩) hK hP [0, 1] rfl (va_recv hK.1 hP (ci := 5) (q0 := 0) rfl rfl) rfl hl.1 rfl (Nat.le_of_ble_eq_true rfl) dX5_kind_2 ⟨Nat.le_of_ble_eq_true rfl, Nat.le_of_ble_eq_true rfl⟩ (fun r_1 e_2 => ?_)
  subst e_2
  refine wt_top (z := 0) (wI_m1' _) ?_
  refine lv_if_eq (tgt := 20) hx hb dX5_kind_5 (by decide) (fun _ => ?_) (fun h => absurd h (by decide))
  refine lv_ldc hx hb hown wc70 dX5_kind_20 ?_
  exact wt_siret hx hb hr hlocks (by rfl) dX5_kind_22
set_option maxHeartbeats 4000000 in
set_option maxRecDepth 100000 in
theorem c_X5_as (l : Launch) (D : va_G) (cI cZ cH : ClassId) (x nw : Nat) (a1 a2 : Int32) (x_0 x_1 x_3 x_4 x_5 x_6 x_7 x_8 x_9 n_0 n_1 n_2 n_4 n_5 n_6 n_7 n_8 n_9 n_10 n_11 : Value) : wt_R l yX5_as wsX5_as ({ frames := 2, cells := 0, slots := 0, locals := 43 } : Room) D (wt_T cI cZ cH) [.ref x, .int a1, .int a2] [(x, .inr (5, [x_0, x_1, .ref nw, x_3, x_4, x_5, x_6, x_7, x_8, x_9])), (nw, .inr (0, [n_0, n_1, n_2, .int 0, n_4, n_5, n_6, n_7, n_8, n_9, n_10, n_11]))] (vp_Si (fun r => r = (-1000001))) := by
  refine wt_R.ofW (cc := cX5_as) (maxL := 5) (ret := (some .int)) (by decide) rfl (Nat.le_of_ble_eq_true rfl) ?_
  intro p e s m below meth c ls hx hb hr hts hown hlocks hml hP hK hl
  have hown : s.vm.findClass RX5 = some m.cls := hown
  have hl : lv_has ls 5 [(0, .ref x), (1, .int a1), (2, .int a2)] := hl
  have wc70 := hts (.constant RX5 70 (-1000001)) (by decide +kernel)
  refine lv_aload_n hx hb dX5_as_0 rfl (lv_at hl 0 rfl) ?_
  refine lv_iload_n hx hb dX5_as_1 rfl (lv_at hl 1 rfl) ?_
  refine wt_rV (As := [.int a1]) (rest := []) ⟨hx, hb, hml, hown, hts⟩ (c_X5_isTube l D cI cZ cH x nw 0 a1 x_0 x_1 x_3 x_4 x_5 x_6 x_7 x_8 x_9 n_0 n_1 n_2 n_4 n_5 n_6 n_7 n_8 n_9 n_10 n_11) (cwV 1 hts gX5_as_X5_isTube rfl rfl rfl (by decide +kernel) ⟨Nat.le_of_ble_eq_true rfl, Nat.le_of_ble_eq_true rfl⟩) hK hP [0, 1] rfl (va_recv hK.1 hP (ci := 5) (q0 := 0) rfl rfl) rfl hl.1 rfl (Nat.le_of_ble_eq_true rfl) dX5_as_2 ⟨Nat.le_of_ble_eq_true rfl, Nat.le_of_ble_eq_true rfl⟩ (fun r_1 e_2 => ?_)
  subst e_2
  refine wt_top (z := 0) (wI_m1' _) ?_
  refine lv_if_eq (tgt := 17) hx hb dX5_as_5 (by decide) (fun _ => ?_) (fun h => absurd h (by decide))
  refine lv_ldc hx hb hown wc70 dX5_as_17 ?_
  exact wt_siret hx hb hr hlocks (by rfl) dX5_as_19
set_option maxHeartbeats 4000000 in
set_option maxRecDepth 100000 in
theorem c_X5_ask (l : Launch) (D : va_G) (cI cZ cH : ClassId) (x nw : Nat) (a1 a2 : Int32) (x_0 x_1 x_3 x_4 x_5 x_6 x_7 x_8 x_9 n_0 n_1 n_2 n_4 n_5 n_6 n_7 n_8 n_9 n_10 n_11 : Value) : wt_R l yX5_ask wsX5_ask ({ frames := 2, cells := 0, slots := 0, locals := 43 } : Room) D (wt_T cI cZ cH) [.ref x, .int a1, .int a2] [(x, .inr (5, [x_0, x_1, .ref nw, x_3, x_4, x_5, x_6, x_7, x_8, x_9])), (nw, .inr (0, [n_0, n_1, n_2, .int 0, n_4, n_5, n_6, n_7, n_8, n_9, n_10, n_11]))] (vp_Si (fun r => r = (-1000001))) := by
  refine wt_R.ofW (cc := cX5_ask) (maxL := 3) (ret := (some .int)) (by decide) rfl (Nat.le_of_ble_eq_true rfl) ?_
  intro p e s m below meth c ls hx hb hr hts hown hlocks hml hP hK hl
  have hown : s.vm.findClass RX5 = some m.cls := hown
  have hl : lv_has ls 3 [(0, .ref x), (1, .int a1), (2, .int a2)] := hl
  have wc70 := hts (.constant RX5 70 (-1000001)) (by decide +kernel)
  refine lv_aload_n hx hb dX5_ask_0 rfl (lv_at hl 0 rfl) ?_
  refine lv_iload_n hx hb dX5_ask_1 rfl (lv_at hl 1 rfl) ?_
  refine wt_rV (As := [.int a1]) (rest := []) ⟨hx, hb, hml, hown, hts⟩ (c_X5_isTube l D cI cZ cH x nw 0 a1 x_0 x_1 x_3 x_4 x_5 x_6 x_7 x_8 x_9 n_0 n_1 n_2 n_4 n_5 n_6 n_7 n_8 n_9 n_10 n_11) (cwV 1 hts gX5_ask_X5_isTube rfl rfl rfl (by decide +kernel) ⟨Nat.le_of_ble_eq_true rfl, Nat.le_of_ble_eq_true rfl⟩) hK hP [0, 1] rfl (va_recv hK.1 hP (ci := 5) (q0 := 0) rfl rfl) rfl hl.1 rfl (Nat.le_of_ble_eq_true rfl) dX5_ask_2 ⟨Nat.le_of_ble_eq_true rfl, Nat.le_of_ble_eq_true rfl⟩ (fun r_1 e_2 => ?_)
  subst e_2
  refine wt_top (z := 0) (wI_m1' _) ?_
  refine lv_if_eq (tgt := 17) hx hb dX5_ask_5 (by decide) (fun _ => ?_) (fun h => absurd h (by decide))
  refine lv_ldc hx hb hown wc70 dX5_ask_17 ?_
  exact wt_siret hx hb hr hlocks (by rfl) dX5_ask_19
set_option maxHeartbeats 4000000 in
set_option maxRecDepth 100000 in
theorem c_X5_stove (l : Launch) (D : va_G) (cI cZ cH : ClassId) (x nw : Nat) (a1 a2 : Int32) (x_0 x_1 x_3 x_4 x_5 x_6 x_7 x_8 x_9 n_0 n_1 n_3 n_4 n_5 n_6 n_7 n_8 n_9 n_10 n_11 : Value) : wt_R l yX5_stove wsX5_stove ({ frames := 2, cells := 0, slots := 0, locals := 43 } : Room) D (wt_T cI cZ cH) [.ref x, .int a1, .int a2] [(x, .inr (5, [x_0, x_1, .ref nw, x_3, x_4, x_5, x_6, x_7, x_8, x_9])), (nw, .inr (0, [n_0, n_1, .int 0, n_3, n_4, n_5, n_6, n_7, n_8, n_9, n_10, n_11]))] (vp_Si (fun r => r = (-1000001))) := by
  refine wt_R.ofW (cc := cX5_stove) (maxL := 4) (ret := (some .int)) (by decide) rfl (Nat.le_of_ble_eq_true rfl) ?_
  intro p e s m below meth c ls hx hb hr hts hown hlocks hml hP hK hl
  have hown : s.vm.findClass RX5 = some m.cls := hown
  have hl : lv_has ls 4 [(0, .ref x), (1, .int a1), (2, .int a2)] := hl
  have wc70 := hts (.constant RX5 70 (-1000001)) (by decide +kernel)
  refine lv_aload_n hx hb dX5_stove_0 rfl (lv_at hl 0 rfl) ?_
  refine lv_iload_n hx hb dX5_stove_1 rfl (lv_at hl 1 rfl) ?_
  refine wt_rV (As := [.int a1]) (rest := []) ⟨hx, hb, hml, hown, hts⟩ (c_X5_isRoom l D cI cZ cH x nw 0 a1 x_0 x_1 x_3 x_4 x_5 x_6 x_7 x_8 x_9 n_0 n_1 n_3 n_4 n_5 n_6 n_7 n_8 n_9 n_10 n_11) (cwV 1 hts gX5_stove_X5_isRoom rfl rfl rfl (by decide +kernel) ⟨Nat.le_of_ble_eq_true rfl, Nat.le_of_ble_eq_true rfl⟩) hK hP [0, 1] rfl (va_recv hK.1 hP (ci := 5) (q0 := 0) rfl rfl) rfl hl.1 rfl (Nat.le_of_ble_eq_true rfl) dX5_stove_2 ⟨Nat.le_of_ble_eq_true rfl, Nat.le_of_ble_eq_true rfl⟩ (fun r_1 e_2 => ?_)
  subst e_2
  refine wt_top (z := 0) (wI_m1' _) ?_
  refine lv_if_eq (tgt := 18) hx hb dX5_stove_5 (by decide) (fun _ => ?_) (fun h => absurd h (by decide))
  refine lv_ldc hx hb hown wc70 dX5_stove_18 ?_
  exact wt_siret hx hb hr hlocks (by rfl) dX5_stove_20
set_option maxHeartbeats 4000000 in
set_option maxRecDepth 100000 in
theorem c_X5_ahead (l : Launch) (D : va_G) (cI cZ cH : ClassId) (x nw : Nat) (a1 a2 : Int32) (x_0 x_1 x_3 x_4 x_5 x_6 x_7 x_8 x_9 n_0 n_1 n_3 n_4 n_5 n_6 n_7 n_8 n_9 n_10 n_11 : Value) : wt_R l yX5_ahead wsX5_ahead ({ frames := 2, cells := 0, slots := 0, locals := 43 } : Room) D (wt_T cI cZ cH) [.ref x, .int a1, .int a2] [(x, .inr (5, [x_0, x_1, .ref nw, x_3, x_4, x_5, x_6, x_7, x_8, x_9])), (nw, .inr (0, [n_0, n_1, .int 0, n_3, n_4, n_5, n_6, n_7, n_8, n_9, n_10, n_11]))] (vp_Si (fun r => r = (-1000001))) := by
  refine wt_R.ofW (cc := cX5_ahead) (maxL := 3) (ret := (some .int)) (by decide) rfl (Nat.le_of_ble_eq_true rfl) ?_
  intro p e s m below meth c ls hx hb hr hts hown hlocks hml hP hK hl
  have hown : s.vm.findClass RX5 = some m.cls := hown
  have hl : lv_has ls 3 [(0, .ref x), (1, .int a1), (2, .int a2)] := hl
  have wc70 := hts (.constant RX5 70 (-1000001)) (by decide +kernel)
  refine lv_aload_n hx hb dX5_ahead_0 rfl (lv_at hl 0 rfl) ?_
  refine lv_iload_n hx hb dX5_ahead_1 rfl (lv_at hl 1 rfl) ?_
  refine wt_rV (As := [.int a1]) (rest := []) ⟨hx, hb, hml, hown, hts⟩ (c_X5_isRoom l D cI cZ cH x nw 0 a1 x_0 x_1 x_3 x_4 x_5 x_6 x_7 x_8 x_9 n_0 n_1 n_3 n_4 n_5 n_6 n_7 n_8 n_9 n_10 n_11) (cwV 1 hts gX5_ahead_X5_isRoom rfl rfl rfl (by decide +kernel) ⟨Nat.le_of_ble_eq_true rfl, Nat.le_of_ble_eq_true rfl⟩) hK hP [0, 1] rfl (va_recv hK.1 hP (ci := 5) (q0 := 0) rfl rfl) rfl hl.1 rfl (Nat.le_of_ble_eq_true rfl) dX5_ahead_2 ⟨Nat.le_of_ble_eq_true rfl, Nat.le_of_ble_eq_true rfl⟩ (fun r_1 e_2 => ?_)
  subst e_2
  refine wt_top (z := 0) (wI_m1' _) ?_
  refine lv_if_eq (tgt := 18) hx hb dX5_ahead_5 (by decide) (fun _ => ?_) (fun h => absurd h (by decide))
  refine lv_ldc hx hb hown wc70 dX5_ahead_18 ?_
  exact wt_siret hx hb hr hlocks (by rfl) dX5_ahead_20
set_option maxHeartbeats 4000000 in
set_option maxRecDepth 100000 in
theorem c_X5_chill (l : Launch) (D : va_G) (cI cZ cH : ClassId) (x nw : Nat) (a1 : Int32) (x_0 x_1 x_3 x_4 x_5 x_6 x_7 x_8 x_9 n_0 n_1 n_3 n_4 n_5 n_6 n_7 n_8 n_9 n_10 n_11 : Value) : wt_R l yX5_chill wsX5_chill ({ frames := 2, cells := 0, slots := 0, locals := 43 } : Room) D (wt_T cI cZ cH) [.ref x, .int a1] [(x, .inr (5, [x_0, x_1, .ref nw, x_3, x_4, x_5, x_6, x_7, x_8, x_9])), (nw, .inr (0, [n_0, n_1, .int 0, n_3, n_4, n_5, n_6, n_7, n_8, n_9, n_10, n_11]))] (vp_Si (fun r => r = (-1000001))) := by
  refine wt_R.ofW (cc := cX5_chill) (maxL := 2) (ret := (some .int)) (by decide) rfl (Nat.le_of_ble_eq_true rfl) ?_
  intro p e s m below meth c ls hx hb hr hts hown hlocks hml hP hK hl
  have hown : s.vm.findClass RX5 = some m.cls := hown
  have hl : lv_has ls 2 [(0, .ref x), (1, .int a1)] := hl
  have wc70 := hts (.constant RX5 70 (-1000001)) (by decide +kernel)
  refine lv_aload_n hx hb dX5_chill_0 rfl (lv_at hl 0 rfl) ?_
  refine lv_iload_n hx hb dX5_chill_1 rfl (lv_at hl 1 rfl) ?_
  refine wt_rV (As := [.int a1]) (rest := []) ⟨hx, hb, hml, hown, hts⟩ (c_X5_isRoom l D cI cZ cH x nw 0 a1 x_0 x_1 x_3 x_4 x_5 x_6 x_7 x_8 x_9 n_0 n_1 n_3 n_4 n_5 n_6 n_7 n_8 n_9 n_10 n_11) (cwV 1 hts gX5_chill_X5_isRoom rfl rfl rfl (by decide +kernel) ⟨Nat.le_of_ble_eq_true rfl, Nat.le_of_ble_eq_true rfl⟩) hK hP [0, 1] rfl (va_recv hK.1 hP (ci := 5) (q0 := 0) rfl rfl) rfl hl.1 rfl (Nat.le_of_ble_eq_true rfl) dX5_chill_2 ⟨Nat.le_of_ble_eq_true rfl, Nat.le_of_ble_eq_true rfl⟩ (fun r_1 e_2 => ?_)
  subst e_2
  refine wt_top (z := 0) (wI_m1' _) ?_
  refine lv_if_ne (tgt := 11) hx hb dX5_chill_5 (by decide) (fun h => absurd h (by decide)) (fun _ => ?_)
  refine lv_ldc hx hb hown wc70 dX5_chill_8 ?_
  exact wt_siret hx hb hr hlocks (by rfl) dX5_chill_10
set_option maxHeartbeats 4000000 in
set_option maxRecDepth 100000 in
theorem c_X5_outs (l : Launch) (D : va_G) (cI cZ cH : ClassId) (x nw : Nat) (a1 a2 a3 : Int32) (x_0 x_1 x_3 x_4 x_5 x_6 x_7 x_8 x_9 n_0 n_1 n_3 n_4 n_5 n_6 n_7 n_8 n_9 n_10 n_11 : Value) : wt_R l yX5_outs wsX5_outs ({ frames := 2, cells := 0, slots := 0, locals := 43 } : Room) D (wt_T cI cZ cH) [.ref x, .int a1, .int a2, .int a3] [(x, .inr (5, [x_0, x_1, .ref nw, x_3, x_4, x_5, x_6, x_7, x_8, x_9])), (nw, .inr (0, [n_0, n_1, .int 0, n_3, n_4, n_5, n_6, n_7, n_8, n_9, n_10, n_11]))] (vp_Si (fun r => r = (-1000001))) := by
  refine wt_R.ofW (cc := cX5_outs) (maxL := 7) (ret := (some .int)) (by decide) rfl (Nat.le_of_ble_eq_true rfl) ?_
  intro p e s m below meth c ls hx hb hr hts hown hlocks hml hP hK hl
  have hown : s.vm.findClass RX5 = some m.cls := hown
  have hl : lv_has ls 7 [(0, .ref x), (1, .int a1), (2, .int a2), (3, .int a3)] := hl
  have wc70 := hts (.constant RX5 70 (-1000001)) (by decide +kernel)
  refine lv_aload_n hx hb dX5_outs_0 rfl (lv_at hl 0 rfl) ?_
  refine lv_iload_n hx hb dX5_outs_1 rfl (lv_at hl 1 rfl) ?_
  refine wt_rV (As := [.int a1]) (rest := []) ⟨hx, hb, hml, hown, hts⟩ (c_X5_isRoom l D cI cZ cH x nw 0 a1 x_0 x_1 x_3 x_4 x_5 x_6 x_7 x_8 x_9 n_0 n_1 n_3 n_4 n_5 n_6 n_7 n_8 n_9 n_10 n_11) (cwV 1 hts gX5_outs_X5_isRoom rfl rfl rfl (by decide +kernel) ⟨Nat.le_of_ble_eq_true rfl, Nat.le_of_ble_eq_true rfl⟩) hK hP [0, 1] rfl (va_recv hK.1 hP (ci := 5) (q0 := 0) rfl rfl) rfl hl.1 rfl (Nat.le_of_ble_eq_true rfl) dX5_outs_2 ⟨Nat.le_of_ble_eq_true rfl, Nat.le_of_ble_eq_true rfl⟩ (fun r_1 e_2 => ?_)
  subst e_2
  refine wt_top (z := 0) (wI_m1' _) ?_
  refine lv_if_eq (tgt := 27) hx hb dX5_outs_5 (by decide) (fun _ => ?_) (fun h => absurd h (by decide))
  refine lv_ldc hx hb hown wc70 dX5_outs_27 ?_
  exact wt_siret hx hb hr hlocks (by rfl) dX5_outs_29
set_option maxHeartbeats 4000000 in
set_option maxRecDepth 100000 in
theorem c_X5_shakes (l : Launch) (D : va_G) (cI cZ cH : ClassId) (x nw : Nat) (a1 a2 a3 : Int32) (x_0 x_1 x_3 x_4 x_5 x_6 x_7 x_8 x_9 n_0 n_1 n_3 n_4 n_5 n_6 n_7 n_8 n_9 n_10 n_11 : Value) : wt_R l yX5_shakes wsX5_shakes ({ frames := 2, cells := 0, slots := 0, locals := 43 } : Room) D (wt_T cI cZ cH) [.ref x, .int a1, .int a2, .int a3] [(x, .inr (5, [x_0, x_1, .ref nw, x_3, x_4, x_5, x_6, x_7, x_8, x_9])), (nw, .inr (0, [n_0, n_1, .int 0, n_3, n_4, n_5, n_6, n_7, n_8, n_9, n_10, n_11]))] (vp_Si (fun r => r = (-1000001))) := by
  refine wt_R.ofW (cc := cX5_shakes) (maxL := 7) (ret := (some .int)) (by decide) rfl (Nat.le_of_ble_eq_true rfl) ?_
  intro p e s m below meth c ls hx hb hr hts hown hlocks hml hP hK hl
  have hown : s.vm.findClass RX5 = some m.cls := hown
  have hl : lv_has ls 7 [(0, .ref x), (1, .int a1), (2, .int a2), (3, .int a3)] := hl
  have wc70 := hts (.constant RX5 70 (-1000001)) (by decide +kernel)
  refine lv_aload_n hx hb dX5_shakes_0 rfl (lv_at hl 0 rfl) ?_
  refine lv_iload_n hx hb dX5_shakes_1 rfl (lv_at hl 1 rfl) ?_
  refine wt_rV (As := [.int a1]) (rest := []) ⟨hx, hb, hml, hown, hts⟩ (c_X5_isRoom l D cI cZ cH x nw 0 a1 x_0 x_1 x_3 x_4 x_5 x_6 x_7 x_8 x_9 n_0 n_1 n_3 n_4 n_5 n_6 n_7 n_8 n_9 n_10 n_11) (cwV 1 hts gX5_shakes_X5_isRoom rfl rfl rfl (by decide +kernel) ⟨Nat.le_of_ble_eq_true rfl, Nat.le_of_ble_eq_true rfl⟩) hK hP [0, 1] rfl (va_recv hK.1 hP (ci := 5) (q0 := 0) rfl rfl) rfl hl.1 rfl (Nat.le_of_ble_eq_true rfl) dX5_shakes_2 ⟨Nat.le_of_ble_eq_true rfl, Nat.le_of_ble_eq_true rfl⟩ (fun r_1 e_2 => ?_)
  subst e_2
  refine wt_top (z := 0) (wI_m1' _) ?_
  refine lv_if_eq (tgt := 27) hx hb dX5_shakes_5 (by decide) (fun _ => ?_) (fun h => absurd h (by decide))
  refine lv_ldc hx hb hown wc70 dX5_shakes_27 ?_
  exact wt_siret hx hb hr hlocks (by rfl) dX5_shakes_29
set_option maxHeartbeats 4000000 in
set_option maxRecDepth 100000 in
theorem c_X5_fire (l : Launch) (D : va_G) (cI cZ cH : ClassId) (x nw : Nat) (a1 a2 : Int32) (x_0 x_1 x_3 x_4 x_5 x_6 x_7 x_8 x_9 n_0 n_1 n_3 n_4 n_5 n_6 n_7 n_8 n_9 n_10 n_11 : Value) : wt_R l yX5_fire wsX5_fire ({ frames := 2, cells := 0, slots := 0, locals := 43 } : Room) D (wt_T cI cZ cH) [.ref x, .int a1, .int a2] [(x, .inr (5, [x_0, x_1, .ref nw, x_3, x_4, x_5, x_6, x_7, x_8, x_9])), (nw, .inr (0, [n_0, n_1, .int 0, n_3, n_4, n_5, n_6, n_7, n_8, n_9, n_10, n_11]))] (vp_Si (fun r => r = (-1000001))) := by
  refine wt_R.ofW (cc := cX5_fire) (maxL := 4) (ret := (some .int)) (by decide) rfl (Nat.le_of_ble_eq_true rfl) ?_
  intro p e s m below meth c ls hx hb hr hts hown hlocks hml hP hK hl
  have hown : s.vm.findClass RX5 = some m.cls := hown
  have hl : lv_has ls 4 [(0, .ref x), (1, .int a1), (2, .int a2)] := hl
  have wc70 := hts (.constant RX5 70 (-1000001)) (by decide +kernel)
  refine lv_aload_n hx hb dX5_fire_0 rfl (lv_at hl 0 rfl) ?_
  refine lv_iload_n hx hb dX5_fire_1 rfl (lv_at hl 1 rfl) ?_
  refine wt_rV (As := [.int a1]) (rest := []) ⟨hx, hb, hml, hown, hts⟩ (c_X5_isRoom l D cI cZ cH x nw 0 a1 x_0 x_1 x_3 x_4 x_5 x_6 x_7 x_8 x_9 n_0 n_1 n_3 n_4 n_5 n_6 n_7 n_8 n_9 n_10 n_11) (cwV 1 hts gX5_fire_X5_isRoom rfl rfl rfl (by decide +kernel) ⟨Nat.le_of_ble_eq_true rfl, Nat.le_of_ble_eq_true rfl⟩) hK hP [0, 1] rfl (va_recv hK.1 hP (ci := 5) (q0 := 0) rfl rfl) rfl hl.1 rfl (Nat.le_of_ble_eq_true rfl) dX5_fire_2 ⟨Nat.le_of_ble_eq_true rfl, Nat.le_of_ble_eq_true rfl⟩ (fun r_1 e_2 => ?_)
  subst e_2
  refine wt_top (z := 0) (wI_m1' _) ?_
  refine lv_if_eq (tgt := 18) hx hb dX5_fire_5 (by decide) (fun _ => ?_) (fun h => absurd h (by decide))
  refine lv_ldc hx hb hown wc70 dX5_fire_18 ?_
  exact wt_siret hx hb hr hlocks (by rfl) dX5_fire_20
set_option maxHeartbeats 4000000 in
set_option maxRecDepth 100000 in
theorem c_X5_mix (l : Launch) (D : va_G) (cI cZ cH : ClassId) (x nw : Nat) (a1 a2 a3 : Int32) (x_0 x_1 x_3 x_4 x_5 x_6 x_7 x_8 x_9 n_0 n_1 n_3 n_4 n_5 n_6 n_7 n_8 n_9 n_10 n_11 : Value) : wt_R l yX5_mix wsX5_mix ({ frames := 2, cells := 0, slots := 0, locals := 43 } : Room) D (wt_T cI cZ cH) [.ref x, .int a1, .int a2, .int a3] [(x, .inr (5, [x_0, x_1, .ref nw, x_3, x_4, x_5, x_6, x_7, x_8, x_9])), (nw, .inr (0, [n_0, n_1, .int 0, n_3, n_4, n_5, n_6, n_7, n_8, n_9, n_10, n_11]))] (vp_Si (fun r => r = (-1000001))) := by
  refine wt_R.ofW (cc := cX5_mix) (maxL := 8) (ret := (some .int)) (by decide) rfl (Nat.le_of_ble_eq_true rfl) ?_
  intro p e s m below meth c ls hx hb hr hts hown hlocks hml hP hK hl
  have hown : s.vm.findClass RX5 = some m.cls := hown
  have hl : lv_has ls 8 [(0, .ref x), (1, .int a1), (2, .int a2), (3, .int a3)] := hl
  have wc70 := hts (.constant RX5 70 (-1000001)) (by decide +kernel)
  refine lv_aload_n hx hb dX5_mix_0 rfl (lv_at hl 0 rfl) ?_
  refine lv_iload_n hx hb dX5_mix_1 rfl (lv_at hl 1 rfl) ?_
  refine wt_rV (As := [.int a1]) (rest := []) ⟨hx, hb, hml, hown, hts⟩ (c_X5_isRoom l D cI cZ cH x nw 0 a1 x_0 x_1 x_3 x_4 x_5 x_6 x_7 x_8 x_9 n_0 n_1 n_3 n_4 n_5 n_6 n_7 n_8 n_9 n_10 n_11) (cwV 1 hts gX5_mix_X5_isRoom rfl rfl rfl (by decide +kernel) ⟨Nat.le_of_ble_eq_true rfl, Nat.le_of_ble_eq_true rfl⟩) hK hP [0, 1] rfl (va_recv hK.1 hP (ci := 5) (q0 := 0) rfl rfl) rfl hl.1 rfl (Nat.le_of_ble_eq_true rfl) dX5_mix_2 ⟨Nat.le_of_ble_eq_true rfl, Nat.le_of_ble_eq_true rfl⟩ (fun r_1 e_2 => ?_)
  subst e_2
  refine wt_top (z := 0) (wI_m1' _) ?_
  refine lv_if_eq (tgt := 28) hx hb dX5_mix_5 (by decide) (fun _ => ?_) (fun h => absurd h (by decide))
  refine lv_ldc hx hb hown wc70 dX5_mix_28 ?_
  exact wt_siret hx hb hr hlocks (by rfl) dX5_mix_30
set_option maxHeartbeats 4000000 in
set_option maxRecDepth 100000 in
theorem c_X5_frosts (l : Launch) (D : va_G) (cI cZ cH : ClassId) (x nw : Nat) (a1 a2 a3 a4 a5 : Int32) (x_0 x_1 x_3 x_4 x_5 x_6 x_7 x_8 x_9 n_0 n_1 n_3 n_4 n_5 n_6 n_7 n_8 n_9 n_10 n_11 : Value) : wt_R l yX5_frosts wsX5_frosts ({ frames := 2, cells := 0, slots := 0, locals := 43 } : Room) D (wt_T cI cZ cH) [.ref x, .int a1, .int a2, .int a3, .int a4, .int a5] [(x, .inr (5, [x_0, x_1, .ref nw, x_3, x_4, x_5, x_6, x_7, x_8, x_9])), (nw, .inr (0, [n_0, n_1, .int 0, n_3, n_4, n_5, n_6, n_7, n_8, n_9, n_10, n_11]))] (vp_Si (fun r => r = (-1000001))) := by
  refine wt_R.ofW (cc := cX5_frosts) (maxL := 7) (ret := (some .int)) (by decide) rfl (Nat.le_of_ble_eq_true rfl) ?_
  intro p e s m below meth c ls hx hb hr hts hown hlocks hml hP hK hl
  have hown : s.vm.findClass RX5 = some m.cls := hown
  have hl : lv_has ls 7 [(0, .ref x), (1, .int a1), (2, .int a2), (3, .int a3), (4, .int a4), (5, .int a5)] := hl
  have wc70 := hts (.constant RX5 70 (-1000001)) (by decide +kernel)
  refine lv_aload_n hx hb dX5_frosts_0 rfl (lv_at hl 0 rfl) ?_
  refine lv_iload_n hx hb dX5_frosts_1 rfl (lv_at hl 1 rfl) ?_
  refine wt_rV (As := [.int a1]) (rest := []) ⟨hx, hb, hml, hown, hts⟩ (c_X5_isRoom l D cI cZ cH x nw 0 a1 x_0 x_1 x_3 x_4 x_5 x_6 x_7 x_8 x_9 n_0 n_1 n_3 n_4 n_5 n_6 n_7 n_8 n_9 n_10 n_11) (cwV 1 hts gX5_frosts_X5_isRoom rfl rfl rfl (by decide +kernel) ⟨Nat.le_of_ble_eq_true rfl, Nat.le_of_ble_eq_true rfl⟩) hK hP [0, 1] rfl (va_recv hK.1 hP (ci := 5) (q0 := 0) rfl rfl) rfl hl.1 rfl (Nat.le_of_ble_eq_true rfl) dX5_frosts_2 ⟨Nat.le_of_ble_eq_true rfl, Nat.le_of_ble_eq_true rfl⟩ (fun r_1 e_2 => ?_)
  subst e_2
  refine wt_top (z := 0) (wI_m1' _) ?_
  refine lv_if_eq (tgt := 35) hx hb dX5_frosts_5 (by decide) (fun _ => ?_) (fun h => absurd h (by decide))
  refine lv_ldc hx hb hown wc70 dX5_frosts_35 ?_
  exact wt_siret hx hb hr hlocks (by rfl) dX5_frosts_37
set_option maxHeartbeats 4000000 in
set_option maxRecDepth 100000 in
theorem c_X5_forgotten (l : Launch) (D : va_G) (cI cZ cH : ClassId) (x nw : Nat) (a1 a2 a3 a4 : Int32) (x_0 x_1 x_3 x_4 x_5 x_6 x_7 x_8 x_9 n_0 n_1 n_3 n_4 n_5 n_6 n_7 n_8 n_9 n_10 n_11 : Value) : wt_R l yX5_forgotten wsX5_forgotten ({ frames := 2, cells := 0, slots := 0, locals := 43 } : Room) D (wt_T cI cZ cH) [.ref x, .int a1, .int a2, .int a3, .int a4] [(x, .inr (5, [x_0, x_1, .ref nw, x_3, x_4, x_5, x_6, x_7, x_8, x_9])), (nw, .inr (0, [n_0, n_1, .int 0, n_3, n_4, n_5, n_6, n_7, n_8, n_9, n_10, n_11]))] (vp_Sl (fun r => r = (-1000001))) := by
  refine wt_R.ofW (cc := cX5_forgotten) (maxL := 12) (ret := (some .long)) (by decide) rfl (Nat.le_of_ble_eq_true rfl) ?_
  intro p e s m below meth c ls hx hb hr hts hown hlocks hml hP hK hl
  have hown : s.vm.findClass RX5 = some m.cls := hown
  have hl : lv_has ls 12 [(0, .ref x), (1, .int a1), (2, .int a2), (3, .int a3), (4, .int a4)] := hl
  have wl274 := hts (.constantLong RX5 274 (-1000001)) (by decide +kernel)
  refine lv_aload_n hx hb dX5_forgotten_0 rfl (lv_at hl 0 rfl) ?_
  refine lv_iload_n hx hb dX5_forgotten_1 rfl (lv_at hl 1 rfl) ?_
  refine wt_rV (As := [.int a1]) (rest := []) ⟨hx, hb, hml, hown, hts⟩ (c_X5_isRoom l D cI cZ cH x nw 0 a1 x_0 x_1 x_3 x_4 x_5 x_6 x_7 x_8 x_9 n_0 n_1 n_3 n_4 n_5 n_6 n_7 n_8 n_9 n_10 n_11) (cwV 1 hts gX5_forgotten_X5_isRoom rfl rfl rfl (by decide +kernel) ⟨Nat.le_of_ble_eq_true rfl, Nat.le_of_ble_eq_true rfl⟩) hK hP [0, 1] rfl (va_recv hK.1 hP (ci := 5) (q0 := 0) rfl rfl) rfl hl.1 rfl (Nat.le_of_ble_eq_true rfl) dX5_forgotten_2 ⟨Nat.le_of_ble_eq_true rfl, Nat.le_of_ble_eq_true rfl⟩ (fun r_1 e_2 => ?_)
  subst e_2
  refine wt_top (z := 0) (wI_m1' _) ?_
  refine lv_if_eq (tgt := 38) hx hb dX5_forgotten_5 (by decide) (fun _ => ?_) (fun h => absurd h (by decide))
  refine lv_ldc2 hx hb hown wl274 dX5_forgotten_38 ?_
  exact wt_slret hx hb hr hlocks (by rfl) dX5_forgotten_41
set_option maxHeartbeats 4000000 in
set_option maxRecDepth 100000 in
theorem c_X5_room (l : Launch) (D : va_G) (cI cZ cH : ClassId) (x nw : Nat) (a1 a2 : Int32) (x_0 x_1 x_3 x_4 x_5 x_6 x_7 x_8 x_9 n_0 n_1 n_3 n_4 n_5 n_6 n_7 n_8 n_9 n_10 n_11 : Value) : wt_R l yX5_room wsX5_room ({ frames := 2, cells := 0, slots := 0, locals := 43 } : Room) D (wt_T cI cZ cH) [.ref x, .int a1, .int a2] [(x, .inr (5, [x_0, x_1, .ref nw, x_3, x_4, x_5, x_6, x_7, x_8, x_9])), (nw, .inr (0, [n_0, n_1, .int 0, n_3, n_4, n_5, n_6, n_7, n_8, n_9, n_10, n_11]))] (vp_Si (fun r => r = (-1000001))) := by
  refine wt_R.ofW (cc := cX5_room) (maxL := 3) (ret := (some .int)) (by decide) rfl (Nat.le_of_ble_eq_true rfl) ?_
  intro p e s m below meth c ls hx hb hr hts hown hlocks hml hP hK hl
  have hown : s.vm.findClass RX5 = some m.cls := hown
  have hl : lv_has ls 3 [(0, .ref x), (1, .int a1), (2, .int a2)] := hl
  have wc70 := hts (.constant RX5 70 (-1000001)) (by decide +kernel)
  refine lv_aload_n hx hb dX5_room_0 rfl (lv_at hl 0 rfl) ?_
  refine lv_iload_n hx hb dX5_room_1 rfl (lv_at hl 1 rfl) ?_
  refine wt_rV (As := [.int a1]) (rest := []) ⟨hx, hb, hml, hown, hts⟩ (c_X5_isPlace l D cI cZ cH x nw 0 a1 x_0 x_1 x_3 x_4 x_5 x_6 x_7 x_8 x_9 n_0 n_1 n_3 n_4 n_5 n_6 n_7 n_8 n_9 n_10 n_11) (cwV 1 hts gX5_room_X5_isPlace rfl rfl rfl (by decide +kernel) ⟨Nat.le_of_ble_eq_true rfl, Nat.le_of_ble_eq_true rfl⟩) hK hP [0, 1] rfl (va_recv hK.1 hP (ci := 5) (q0 := 0) rfl rfl) rfl hl.1 rfl (Nat.le_of_ble_eq_true rfl) dX5_room_2 ⟨Nat.le_of_ble_eq_true rfl, Nat.le_of_ble_eq_true rfl⟩ (fun r_1 e_2 => ?_)
  subst e_2
  refine wt_top (z := 0) (by simp [wP]) ?_
  refine lv_if_ne (tgt := 11) hx hb dX5_room_5 (by decide) (fun h => absurd h (by decide)) (fun _ => ?_)
  refine lv_ldc hx hb hown wc70 dX5_room_8 ?_
  exact wt_siret hx hb hr hlocks (by rfl) dX5_room_10
set_option maxHeartbeats 4000000 in
set_option maxRecDepth 100000 in
theorem c_X5_minutes (l : Launch) (D : va_G) (cI cZ cH : ClassId) (x nw : Nat) (a1 : Int32) (x_0 x_1 x_3 x_4 x_5 x_6 x_7 x_8 x_9 n_0 n_1 n_3 n_4 n_5 n_6 n_7 n_8 n_9 n_10 n_11 : Value) : wt_R l yX5_minutes wsX5_minutes ({ frames := 1, cells := 0, slots := 0, locals := 20 } : Room) D (wt_T cI cZ cH) [.ref x, .int a1] [(x, .inr (5, [x_0, x_1, .ref nw, x_3, x_4, x_5, x_6, x_7, x_8, x_9])), (nw, .inr (0, [n_0, n_1, .int 0, n_3, n_4, n_5, n_6, n_7, n_8, n_9, n_10, n_11]))] (vp_Si (fun r => r = (-1000002))) := by
  refine wt_R.ofW (cc := cX5_minutes) (maxL := 3) (ret := (some .int)) (by decide) rfl (Nat.le_of_ble_eq_true rfl) ?_
  intro p e s m below meth c ls hx hb hr hts hown hlocks hml hP hK hl
  have hown : s.vm.findClass RX5 = some m.cls := hown
  have hl : lv_has ls 3 [(0, .ref x), (1, .int a1)] := hl
  have hi5 : ∀ w ∈ u_ws RX5 TX5 10, w ∈ wsX5_minutes := by decide +kernel
  have wc145 := hts (.constant RX5 145 (-1000002)) (by decide +kernel)
  have wf26 := hts (.fieldLink RX5 26 "WarmTubes" "now" "LWarmTubes$House;") (by decide +kernel)
  refine lv_aload_n hx hb dX5_minutes_0 rfl (lv_at hl 0 rfl) ?_
  refine va_get (D := D) (ci := 5) (v := .ref nw) (C := RX5) (T := TX5) (N := 10) hx hb hts hi5 hown hK.1 hP 0 rfl rfl 2 (by decide) wf26 (fun _ h9 => h9) rfl dX5_minutes_1 ?_
  refine wt_rV (As := []) (rest := []) ⟨hx, hb, hml, hown, hts⟩ (c_X0_stands l D cI cZ cH nw 0 n_0 n_1 n_3 n_4 n_5 n_6 n_7 n_8 n_9 n_10 n_11) (cwV 0 hts gX5_minutes_X0_stands rfl rfl rfl (by decide +kernel) ⟨Nat.le_of_ble_eq_true rfl, Nat.le_of_ble_eq_true rfl⟩) hK hP [1] rfl (va_recv hK.1 hP (ci := 0) (q0 := 1) rfl rfl) rfl hl.1 rfl (Nat.le_of_ble_eq_true rfl) dX5_minutes_4 ⟨Nat.le_of_ble_eq_true rfl, Nat.le_of_ble_eq_true rfl⟩ (fun r_1 e_2 => ?_)
  subst e_2
  refine wt_top (z := 0) (by decide) ?_
  refine lv_if_ne (tgt := 13) hx hb dX5_minutes_7 (by decide) (fun h => absurd h (by decide)) (fun _ => ?_)
  refine lv_ldc hx hb hown wc145 dX5_minutes_10 ?_
  exact wt_siret hx hb hr hlocks (by rfl) dX5_minutes_12
set_option maxHeartbeats 4000000 in
set_option maxRecDepth 100000 in
theorem c_X5_first (l : Launch) (D : va_G) (cI cZ cH : ClassId) (x nw : Nat) (a1 : Int32) (x_0 x_1 x_3 x_4 x_5 x_6 x_7 x_8 x_9 n_0 n_1 n_3 n_4 n_5 n_6 n_7 n_8 n_9 n_10 n_11 : Value) : wt_R l yX5_first wsX5_first ({ frames := 1, cells := 0, slots := 0, locals := 20 } : Room) D (wt_T cI cZ cH) [.ref x, .int a1] [(x, .inr (5, [x_0, x_1, .ref nw, x_3, x_4, x_5, x_6, x_7, x_8, x_9])), (nw, .inr (0, [n_0, n_1, .int 0, n_3, n_4, n_5, n_6, n_7, n_8, n_9, n_10, n_11]))] (vp_Si (fun r => r = (-1000002))) := by
  refine wt_R.ofW (cc := cX5_first) (maxL := 3) (ret := (some .int)) (by decide) rfl (Nat.le_of_ble_eq_true rfl) ?_
  intro p e s m below meth c ls hx hb hr hts hown hlocks hml hP hK hl
  have hown : s.vm.findClass RX5 = some m.cls := hown
  have hl : lv_has ls 3 [(0, .ref x), (1, .int a1)] := hl
  have hi5 : ∀ w ∈ u_ws RX5 TX5 10, w ∈ wsX5_first := by decide +kernel
  have wc145 := hts (.constant RX5 145 (-1000002)) (by decide +kernel)
  have wf26 := hts (.fieldLink RX5 26 "WarmTubes" "now" "LWarmTubes$House;") (by decide +kernel)
  refine lv_aload_n hx hb dX5_first_0 rfl (lv_at hl 0 rfl) ?_
  refine va_get (D := D) (ci := 5) (v := .ref nw) (C := RX5) (T := TX5) (N := 10) hx hb hts hi5 hown hK.1 hP 0 rfl rfl 2 (by decide) wf26 (fun _ h9 => h9) rfl dX5_first_1 ?_
  refine wt_rV (As := []) (rest := []) ⟨hx, hb, hml, hown, hts⟩ (c_X0_stands l D cI cZ cH nw 0 n_0 n_1 n_3 n_4 n_5 n_6 n_7 n_8 n_9 n_10 n_11) (cwV 0 hts gX5_first_X0_stands rfl rfl rfl (by decide +kernel) ⟨Nat.le_of_ble_eq_true rfl, Nat.le_of_ble_eq_true rfl⟩) hK hP [1] rfl (va_recv hK.1 hP (ci := 0) (q0 := 1) rfl rfl) rfl hl.1 rfl (Nat.le_of_ble_eq_true rfl) dX5_first_4 ⟨Nat.le_of_ble_eq_true rfl, Nat.le_of_ble_eq_true rfl⟩ (fun r_1 e_2 => ?_)
  subst e_2
  refine wt_top (z := 0) (by decide) ?_
  refine lv_if_ne (tgt := 13) hx hb dX5_first_7 (by decide) (fun h => absurd h (by decide)) (fun _ => ?_)
  refine lv_ldc hx hb hown wc145 dX5_first_10 ?_
  exact wt_siret hx hb hr hlocks (by rfl) dX5_first_12
set_option maxHeartbeats 4000000 in
set_option maxRecDepth 100000 in
theorem c_X5_drawn (l : Launch) (D : va_G) (cI cZ cH : ClassId) (x nw : Nat) (a1 a2 a3 : Int32) (x_0 x_1 x_3 x_4 x_5 x_6 x_7 x_8 x_9 n_0 n_1 n_3 n_4 n_5 n_6 n_7 n_8 n_9 n_10 n_11 : Value) : wt_R l yX5_drawn wsX5_drawn ({ frames := 1, cells := 0, slots := 0, locals := 20 } : Room) D (wt_T cI cZ cH) [.ref x, .int a1, .int a2, .int a3] [(x, .inr (5, [x_0, x_1, .ref nw, x_3, x_4, x_5, x_6, x_7, x_8, x_9])), (nw, .inr (0, [n_0, n_1, .int 0, n_3, n_4, n_5, n_6, n_7, n_8, n_9, n_10, n_11]))] (vp_Si (fun r => r = (-1000002))) := by
  refine wt_R.ofW (cc := cX5_drawn) (maxL := 7) (ret := (some .int)) (by decide) rfl (Nat.le_of_ble_eq_true rfl) ?_
  intro p e s m below meth c ls hx hb hr hts hown hlocks hml hP hK hl
  have hown : s.vm.findClass RX5 = some m.cls := hown
  have hl : lv_has ls 7 [(0, .ref x), (1, .int a1), (2, .int a2), (3, .int a3)] := hl
  have hi5 : ∀ w ∈ u_ws RX5 TX5 10, w ∈ wsX5_drawn := by decide +kernel
  have wc145 := hts (.constant RX5 145 (-1000002)) (by decide +kernel)
  have wf26 := hts (.fieldLink RX5 26 "WarmTubes" "now" "LWarmTubes$House;") (by decide +kernel)
  refine lv_aload_n hx hb dX5_drawn_0 rfl (lv_at hl 0 rfl) ?_
  refine va_get (D := D) (ci := 5) (v := .ref nw) (C := RX5) (T := TX5) (N := 10) hx hb hts hi5 hown hK.1 hP 0 rfl rfl 2 (by decide) wf26 (fun _ h9 => h9) rfl dX5_drawn_1 ?_
  refine wt_rV (As := []) (rest := []) ⟨hx, hb, hml, hown, hts⟩ (c_X0_stands l D cI cZ cH nw 0 n_0 n_1 n_3 n_4 n_5 n_6 n_7 n_8 n_9 n_10 n_11) (cwV 0 hts gX5_drawn_X0_stands rfl rfl rfl (by decide +kernel) ⟨Nat.le_of_ble_eq_true rfl, Nat.le_of_ble_eq_true rfl⟩) hK hP [1] rfl (va_recv hK.1 hP (ci := 0) (q0 := 1) rfl rfl) rfl hl.1 rfl (Nat.le_of_ble_eq_true rfl) dX5_drawn_4 ⟨Nat.le_of_ble_eq_true rfl, Nat.le_of_ble_eq_true rfl⟩ (fun r_1 e_2 => ?_)
  subst e_2
  refine wt_top (z := 0) (by decide) ?_
  refine lv_if_ne (tgt := 13) hx hb dX5_drawn_7 (by decide) (fun h => absurd h (by decide)) (fun _ => ?_)
  refine lv_ldc hx hb hown wc145 dX5_drawn_10 ?_
  exact wt_siret hx hb hr hlocks (by rfl) dX5_drawn_12
set_option maxHeartbeats 4000000 in
set_option maxRecDepth 100000 in
theorem c_X5_degrees (l : Launch) (D : va_G) (cI cZ cH : ClassId) (x nw : Nat) (x_0 x_1 x_3 x_4 x_5 x_6 x_7 x_8 x_9 n_0 n_1 n_3 n_4 n_5 n_6 n_7 n_8 n_9 n_10 n_11 : Value) : wt_R l yX5_degrees wsX5_degrees ({ frames := 1, cells := 0, slots := 0, locals := 20 } : Room) D (wt_T cI cZ cH) [.ref x] [(x, .inr (5, [x_0, x_1, .ref nw, x_3, x_4, x_5, x_6, x_7, x_8, x_9])), (nw, .inr (0, [n_0, n_1, .int 0, n_3, n_4, n_5, n_6, n_7, n_8, n_9, n_10, n_11]))] (vp_Si (fun r => r = (-1000002))) := by
  refine wt_R.ofW (cc := cX5_degrees) (maxL := 1) (ret := (some .int)) (by decide) rfl (Nat.le_of_ble_eq_true rfl) ?_
  intro p e s m below meth c ls hx hb hr hts hown hlocks hml hP hK hl
  have hown : s.vm.findClass RX5 = some m.cls := hown
  have hl : lv_has ls 1 [(0, .ref x)] := hl
  have hi5 : ∀ w ∈ u_ws RX5 TX5 10, w ∈ wsX5_degrees := by decide +kernel
  have wc145 := hts (.constant RX5 145 (-1000002)) (by decide +kernel)
  have wf26 := hts (.fieldLink RX5 26 "WarmTubes" "now" "LWarmTubes$House;") (by decide +kernel)
  refine lv_aload_n hx hb dX5_degrees_0 rfl (lv_at hl 0 rfl) ?_
  refine va_get (D := D) (ci := 5) (v := .ref nw) (C := RX5) (T := TX5) (N := 10) hx hb hts hi5 hown hK.1 hP 0 rfl rfl 2 (by decide) wf26 (fun _ h9 => h9) rfl dX5_degrees_1 ?_
  refine wt_rV (As := []) (rest := []) ⟨hx, hb, hml, hown, hts⟩ (c_X0_stands l D cI cZ cH nw 0 n_0 n_1 n_3 n_4 n_5 n_6 n_7 n_8 n_9 n_10 n_11) (cwV 0 hts gX5_degrees_X0_stands rfl rfl rfl (by decide +kernel) ⟨Nat.le_of_ble_eq_true rfl, Nat.le_of_ble_eq_true rfl⟩) hK hP [1] rfl (va_recv hK.1 hP (ci := 0) (q0 := 1) rfl rfl) rfl hl.1 rfl (Nat.le_of_ble_eq_true rfl) dX5_degrees_4 ⟨Nat.le_of_ble_eq_true rfl, Nat.le_of_ble_eq_true rfl⟩ (fun r_1 e_2 => ?_)
  subst e_2
  refine wt_top (z := 0) (by decide) ?_
  refine lv_if_eq (tgt := 20) hx hb dX5_degrees_7 (by decide) (fun _ => ?_) (fun h => absurd h (by decide))
  refine lv_ldc hx hb hown wc145 dX5_degrees_20 ?_
  exact wt_siret hx hb hr hlocks (by rfl) dX5_degrees_22
set_option maxHeartbeats 4000000 in
set_option maxRecDepth 100000 in
theorem c_X5_image (l : Launch) (D : va_G) (cI cZ cH : ClassId) (x nw : Nat) (a1 : Int32) (x_0 x_1 x_3 x_4 x_5 x_6 x_7 x_8 x_9 n_0 n_1 n_3 n_4 n_5 n_6 n_7 n_8 n_9 n_10 n_11 : Value) : wt_R l yX5_image wsX5_image ({ frames := 1, cells := 0, slots := 0, locals := 22 } : Room) D (wt_T cI cZ cH) [.ref x, .int a1] [(x, .inr (5, [x_0, x_1, .ref nw, x_3, x_4, x_5, x_6, x_7, x_8, x_9])), (nw, .inr (0, [n_0, n_1, .int 0, n_3, n_4, n_5, n_6, n_7, n_8, n_9, n_10, n_11]))] (vp_Si (fun r => r = (if wI a1 0 1 = 0 then (-1000001) else (-1000002)))) := by
  refine wt_R.ofW (cc := cX5_image) (maxL := 2) (ret := (some .int)) (by decide) rfl (Nat.le_of_ble_eq_true rfl) ?_
  intro p e s m below meth c ls hx hb hr hts hown hlocks hml hP hK hl
  have hown : s.vm.findClass RX5 = some m.cls := hown
  have hl : lv_has ls 2 [(0, .ref x), (1, .int a1)] := hl
  have hi5 : ∀ w ∈ u_ws RX5 TX5 10, w ∈ wsX5_image := by decide +kernel
  have wc145 := hts (.constant RX5 145 (-1000002)) (by decide +kernel)
  have wc70 := hts (.constant RX5 70 (-1000001)) (by decide +kernel)
  have wf26 := hts (.fieldLink RX5 26 "WarmTubes" "now" "LWarmTubes$House;") (by decide +kernel)
  refine lv_iload_n hx hb dX5_image_0 rfl (lv_at hl 1 rfl) ?_
  refine lv_iconst (v := 0) hx hb dX5_image_1 (by decide) ?_
  refine lv_iconst (v := 1) hx hb dX5_image_2 (by decide) ?_
  refine wt_rS (As := [.int a1, .int 0, .int 1]) (rest := []) ⟨hx, hb, hml, hown, hts⟩ (c_X5_within l D cI cZ cH a1 0 1) (va_cwS 3 hts gX5_image_X5_within rfl rfl rfl (by decide +kernel) ⟨Nat.le_of_ble_eq_true rfl, Nat.le_of_ble_eq_true rfl⟩) hK hP [] rfl rfl hl.1 rfl (Nat.le_of_ble_eq_true rfl) dX5_image_3 ⟨Nat.le_of_ble_eq_true rfl, Nat.le_of_ble_eq_true rfl⟩ (fun r_1 e_2 => ?_)
  subst e_2
  refine lv_if_ne (tgt := 12) hx hb dX5_image_6 (by decide) (fun c_3 => ?_) (fun c_3 => ?_)
  · skip
    refine lv_aload_n hx hb dX5_image_12 rfl (lv_at hl 0 rfl) ?_
    refine va_get (D := D) (ci := 5) (v := .ref nw) (C := RX5) (T := TX5) (N := 10) hx hb hts hi5 hown hK.1 hP 0 rfl rfl 2 (by decide) wf26 (fun _ h9 => h9) rfl dX5_image_13 ?_
    refine wt_rV (As := []) (rest := []) ⟨hx, hb, hml, hown, hts⟩ (c_X0_stands l D cI cZ cH nw 0 n_0 n_1 n_3 n_4 n_5 n_6 n_7 n_8 n_9 n_10 n_11) (cwV 0 hts gX5_image_X0_stands rfl rfl rfl (by decide +kernel) ⟨Nat.le_of_ble_eq_true rfl, Nat.le_of_ble_eq_true rfl⟩) hK hP [1] rfl (va_recv hK.1 hP (ci := 0) (q0 := 1) rfl rfl) rfl hl.1 rfl (Nat.le_of_ble_eq_true rfl) dX5_image_16 ⟨Nat.le_of_ble_eq_true rfl, Nat.le_of_ble_eq_true rfl⟩ (fun r_4 e_5 => ?_)
    subst e_5
    refine wt_top (z := 0) (by decide) ?_
    refine lv_if_ne (tgt := 25) hx hb dX5_image_19 (by decide) (fun h => absurd h (by decide)) (fun _ => ?_)
    refine lv_ldc hx hb hown wc145 dX5_image_22 ?_
    exact wt_siret hx hb hr hlocks (by simp [c_3]) dX5_image_24
  · skip
    refine lv_ldc hx hb hown wc70 dX5_image_9 ?_
    exact wt_siret hx hb hr hlocks (by simp [c_3]) dX5_image_11
set_option maxHeartbeats 4000000 in
set_option maxRecDepth 100000 in
theorem c_X5_restore (l : Launch) (D : va_G) (cI cZ cH : ClassId) (x im i0 i1 : Nat) (a1 : Int32) (imf : Nat → Option Nat) (x_0 x_1 x_2 x_3 x_5 x_6 x_7 x_8 x_9 n_0 n_1 n_3 n_4 n_5 n_6 n_7 n_8 n_9 n_10 n_11 o_0 o_1 o_3 o_4 o_5 o_6 o_7 o_8 o_9 o_10 o_11 : Value) (h0 : imf 0 = some i0) (h1 : imf 1 = some i1) : wt_R l yX5_restore wsX5_restore ({ frames := 1, cells := 0, slots := 0, locals := 22 } : Room) D (wt_T cI cZ cH) [.ref x, .int a1] [(x, .inr (5, [x_0, x_1, x_2, x_3, .ref im, x_5, x_6, x_7, x_8, x_9])), (im, .inl (cH, 2, .inr (.inr (.inr (.inr imf))))), (i0, .inr (0, [n_0, n_1, .int 0, n_3, n_4, n_5, n_6, n_7, n_8, n_9, n_10, n_11])), (i1, .inr (0, [o_0, o_1, .int 0, o_3, o_4, o_5, o_6, o_7, o_8, o_9, o_10, o_11]))] (vp_Si (fun r => r = (if wI a1 0 1 = 0 then (-1000001) else (-1000002)))) := by
  refine wt_R.ofW (cc := cX5_restore) (maxL := 2) (ret := (some .int)) (by decide) rfl (Nat.le_of_ble_eq_true rfl) ?_
  intro p e s m below meth c ls hx hb hr hts hown hlocks hml hP hK hl
  have hown : s.vm.findClass RX5 = some m.cls := hown
  have hl : lv_has ls 2 [(0, .ref x), (1, .int a1)] := hl
  have hi5 : ∀ w ∈ u_ws RX5 TX5 10, w ∈ wsX5_restore := by decide +kernel
  have wc145 := hts (.constant RX5 145 (-1000002)) (by decide +kernel)
  have wc70 := hts (.constant RX5 70 (-1000001)) (by decide +kernel)
  have wf33 := hts (.fieldLink RX5 33 "WarmTubes" "images" "[LWarmTubes$House;") (by decide +kernel)
  refine lv_iload_n hx hb dX5_restore_0 rfl (lv_at hl 1 rfl) ?_
  refine lv_iconst (v := 0) hx hb dX5_restore_1 (by decide) ?_
  refine lv_iconst (v := 1) hx hb dX5_restore_2 (by decide) ?_
  refine wt_rS (As := [.int a1, .int 0, .int 1]) (rest := []) ⟨hx, hb, hml, hown, hts⟩ (c_X5_within l D cI cZ cH a1 0 1) (va_cwS 3 hts gX5_restore_X5_within rfl rfl rfl (by decide +kernel) ⟨Nat.le_of_ble_eq_true rfl, Nat.le_of_ble_eq_true rfl⟩) hK hP [] rfl rfl hl.1 rfl (Nat.le_of_ble_eq_true rfl) dX5_restore_3 ⟨Nat.le_of_ble_eq_true rfl, Nat.le_of_ble_eq_true rfl⟩ (fun r_1 e_2 => ?_)
  subst e_2
  refine lv_if_ne (tgt := 12) hx hb dX5_restore_6 (by decide) (fun c_3 => ?_) (fun c_3 => ?_)
  · skip
    rcases wt_01 c_3 with rfl | rfl
    · skip
      refine lv_aload_n hx hb dX5_restore_12 rfl (lv_at hl 0 rfl) ?_
      refine va_get (D := D) (ci := 5) (v := .ref im) (C := RX5) (T := TX5) (N := 10) hx hb hts hi5 hown hK.1 hP 0 rfl rfl 4 (by decide) wf33 (fun _ h9 => h9) rfl dX5_restore_13 ?_
      refine lv_iload_n hx hb dX5_restore_16 rfl (lv_at hl 1 rfl) ?_
      refine va_aldq hx hb hK.1 hP 1 2 rfl rfl (by rw [vp_in_iff]; decide) dX5_restore_17 ?_
      rw [show va_rf (imf (Int32.toNatClampNeg 0)) = .ref i0 from by rw [show Int32.toNatClampNeg 0 = 0 from rfl, h0]; rfl]
      refine wt_rV (As := []) (rest := []) ⟨hx, hb, hml, hown, hts⟩ (c_X0_stands l D cI cZ cH i0 0 n_0 n_1 n_3 n_4 n_5 n_6 n_7 n_8 n_9 n_10 n_11) (cwV 0 hts gX5_restore_X0_stands rfl rfl rfl (by decide +kernel) ⟨Nat.le_of_ble_eq_true rfl, Nat.le_of_ble_eq_true rfl⟩) hK hP [2] rfl (va_recv hK.1 hP (ci := 0) (q0 := 2) rfl rfl) rfl hl.1 rfl (Nat.le_of_ble_eq_true rfl) dX5_restore_18 ⟨Nat.le_of_ble_eq_true rfl, Nat.le_of_ble_eq_true rfl⟩ (fun r_4 e_5 => ?_)
      subst e_5
      refine wt_top (z := 0) (by decide) ?_
      refine lv_if_ne (tgt := 27) hx hb dX5_restore_21 (by decide) (fun h => absurd h (by decide)) (fun _ => ?_)
      refine lv_ldc hx hb hown wc145 dX5_restore_24 ?_
      exact wt_siret hx hb hr hlocks (by simp [c_3]) dX5_restore_26
    · skip
      refine lv_aload_n hx hb dX5_restore_12 rfl (lv_at hl 0 rfl) ?_
      refine va_get (D := D) (ci := 5) (v := .ref im) (C := RX5) (T := TX5) (N := 10) hx hb hts hi5 hown hK.1 hP 0 rfl rfl 4 (by decide) wf33 (fun _ h9 => h9) rfl dX5_restore_13 ?_
      refine lv_iload_n hx hb dX5_restore_16 rfl (lv_at hl 1 rfl) ?_
      refine va_aldq hx hb hK.1 hP 1 2 rfl rfl (by rw [vp_in_iff]; decide) dX5_restore_17 ?_
      rw [show va_rf (imf (Int32.toNatClampNeg 1)) = .ref i1 from by rw [show Int32.toNatClampNeg 1 = 1 from rfl, h1]; rfl]
      refine wt_rV (As := []) (rest := []) ⟨hx, hb, hml, hown, hts⟩ (c_X0_stands l D cI cZ cH i1 0 o_0 o_1 o_3 o_4 o_5 o_6 o_7 o_8 o_9 o_10 o_11) (cwV 0 hts gX5_restore_X0_stands rfl rfl rfl (by decide +kernel) ⟨Nat.le_of_ble_eq_true rfl, Nat.le_of_ble_eq_true rfl⟩) hK hP [3] rfl (va_recv hK.1 hP (ci := 0) (q0 := 3) rfl rfl) rfl hl.1 rfl (Nat.le_of_ble_eq_true rfl) dX5_restore_18 ⟨Nat.le_of_ble_eq_true rfl, Nat.le_of_ble_eq_true rfl⟩ (fun r_6 e_7 => ?_)
      subst e_7
      refine wt_top (z := 0) (by decide) ?_
      refine lv_if_ne (tgt := 27) hx hb dX5_restore_21 (by decide) (fun h => absurd h (by decide)) (fun _ => ?_)
      refine lv_ldc hx hb hown wc145 dX5_restore_24 ?_
      exact wt_siret hx hb hr hlocks (by simp [c_3]) dX5_restore_26
  · skip
    refine lv_ldc hx hb hown wc70 dX5_restore_9 ?_
    exact wt_siret hx hb hr hlocks (by simp [c_3]) dX5_restore_11
set_option maxHeartbeats 4000000 in
set_option maxRecDepth 100000 in
theorem c_X5_fault (l : Launch) (D : va_G) (cI cZ cH : ClassId) (x : Nat) (x_0 x_1 x_2 x_3 x_4 x_5 x_6 x_7 x_9 : Value) : wt_R l yX5_fault wsX5_fault ({ frames := 0, cells := 0, slots := 0, locals := 0 } : Room) D (wt_T cI cZ cH) [.ref x] [(x, .inr (5, [x_0, x_1, x_2, x_3, x_4, x_5, x_6, x_7, .int 0, x_9]))] (vp_Si (fun r => r = 0)) := by
  refine wt_R.ofW (cc := cX5_fault) (maxL := 1) (ret := (some .int)) (by decide) rfl (Nat.le_of_ble_eq_true rfl) ?_
  intro p e s m below meth c ls hx hb hr hts hown hlocks hml hP hK hl
  have hown : s.vm.findClass RX5 = some m.cls := hown
  have hl : lv_has ls 1 [(0, .ref x)] := hl
  have hi5 : ∀ w ∈ u_ws RX5 TX5 10, w ∈ wsX5_fault := by decide +kernel
  have wf55 := hts (.fieldLink RX5 55 "WarmTubes" "latestFault" "I") (by decide +kernel)
  refine lv_aload_n hx hb dX5_fault_0 rfl (lv_at hl 0 rfl) ?_
  refine va_get (D := D) (ci := 5) (v := .int 0) (C := RX5) (T := TX5) (N := 10) hx hb hts hi5 hown hK.1 hP 0 rfl rfl 8 (by decide) wf55 (fun _ h9 => h9) rfl dX5_fault_1 ?_
  exact wt_siret hx hb hr hlocks (by rfl) dX5_fault_4
set_option maxHeartbeats 4000000 in
set_option maxRecDepth 100000 in
theorem c_X5_status (l : Launch) (D : va_G) (cI cZ cH : ClassId) (x : Nat) (x_0 x_1 x_2 x_3 x_4 x_5 x_6 x_7 x_8 : Value) : wt_R l yX5_status wsX5_status ({ frames := 0, cells := 0, slots := 0, locals := 0 } : Room) D (wt_T cI cZ cH) [.ref x] [(x, .inr (5, [x_0, x_1, x_2, x_3, x_4, x_5, x_6, x_7, x_8, .int 0]))] (vp_Si (fun r => r = 0)) := by
  refine wt_R.ofW (cc := cX5_status) (maxL := 1) (ret := (some .int)) (by decide) rfl (Nat.le_of_ble_eq_true rfl) ?_
  intro p e s m below meth c ls hx hb hr hts hown hlocks hml hP hK hl
  have hown : s.vm.findClass RX5 = some m.cls := hown
  have hl : lv_has ls 1 [(0, .ref x)] := hl
  have hi5 : ∀ w ∈ u_ws RX5 TX5 10, w ∈ wsX5_status := by decide +kernel
  have wf59 := hts (.fieldLink RX5 59 "WarmTubes" "latestFinding" "I") (by decide +kernel)
  refine lv_aload_n hx hb dX5_status_0 rfl (lv_at hl 0 rfl) ?_
  refine va_get (D := D) (ci := 5) (v := .int 0) (C := RX5) (T := TX5) (N := 10) hx hb hts hi5 hown hK.1 hP 0 rfl rfl 9 (by decide) wf59 (fun _ h9 => h9) rfl dX5_status_1 ?_
  exact wt_siret hx hb hr hlocks (by rfl) dX5_status_4
set_option maxHeartbeats 4000000 in
set_option maxRecDepth 100000 in
theorem c_X5_undo (l : Launch) (D : va_G) (cI cZ cH : ClassId) (x ps : Nat) (x_0 x_1 x_2 x_3 x_4 x_6 x_7 x_8 x_9 p_0 p_1 : Value) : wt_R l yX5_undo wsX5_undo ({ frames := 0, cells := 0, slots := 0, locals := 0 } : Room) D (wt_T cI cZ cH) [.ref x] [(x, .inr (5, [x_0, x_1, x_2, x_3, x_4, .ref ps, x_6, x_7, x_8, x_9])), (ps, .inr (1, [p_0, p_1, .int 0]))] (vp_Si (fun r => r = (-1000002))) := by
  refine wt_R.ofW (cc := cX5_undo) (maxL := 1) (ret := (some .int)) (by decide) rfl (Nat.le_of_ble_eq_true rfl) ?_
  intro p e s m below meth c ls hx hb hr hts hown hlocks hml hP hK hl
  have hown : s.vm.findClass RX5 = some m.cls := hown
  have hl : lv_has ls 1 [(0, .ref x)] := hl
  have hi1 : ∀ w ∈ u_ws RX1 TX1 3, w ∈ wsX5_undo := by decide +kernel
  have hi5 : ∀ w ∈ u_ws RX5 TX5 10, w ∈ wsX5_undo := by decide +kernel
  have wc145 := hts (.constant RX5 145 (-1000002)) (by decide +kernel)
  have wf143 := hts (.fieldLink RX5 143 "WarmTubes$Past" "size" "I") (by decide +kernel)
  have wf40 := hts (.fieldLink RX5 40 "WarmTubes" "past" "LWarmTubes$Past;") (by decide +kernel)
  refine lv_aload_n hx hb dX5_undo_0 rfl (lv_at hl 0 rfl) ?_
  refine va_get (D := D) (ci := 5) (v := .ref ps) (C := RX5) (T := TX5) (N := 10) hx hb hts hi5 hown hK.1 hP 0 rfl rfl 5 (by decide) wf40 (fun _ h9 => h9) rfl dX5_undo_1 ?_
  refine va_get (D := D) (ci := 1) (v := .int 0) (C := RX1) (T := TX1) (N := 3) hx hb hts hi1 hown hK.1 hP 1 rfl rfl 2 (by decide) wf143 (fun _ h9 => h9) rfl dX5_undo_4 ?_
  refine lv_if_ne (tgt := 13) hx hb dX5_undo_7 (by decide) (fun h => absurd h (by decide)) (fun _ => ?_)
  refine lv_ldc hx hb hown wc145 dX5_undo_10 ?_
  exact wt_siret hx hb hr hlocks (by rfl) dX5_undo_12
set_option maxHeartbeats 4000000 in
set_option maxRecDepth 100000 in
theorem c_X5_trace (l : Launch) (D : va_G) (cI cZ cH : ClassId) (x tr : Nat) (a1 : Int32) (x_0 x_1 x_2 x_3 x_4 x_5 x_6 x_8 x_9 t_0 : Value) : wt_R l yX5_trace wsX5_trace ({ frames := 1, cells := 0, slots := 0, locals := 22 } : Room) D (wt_T cI cZ cH) [.ref x, .int a1] [(x, .inr (5, [x_0, x_1, x_2, x_3, x_4, x_5, x_6, .ref tr, x_8, x_9])), (tr, .inr (4, [t_0, .int 0]))] (vp_Si (fun r => r = (-1000000))) := by
  refine wt_R.ofW (cc := cX5_trace) (maxL := 2) (ret := (some .int)) (by decide) rfl (Nat.le_of_ble_eq_true rfl) ?_
  intro p e s m below meth c ls hx hb hr hts hown hlocks hml hP hK hl
  have hown : s.vm.findClass RX5 = some m.cls := hown
  have hl : lv_has ls 2 [(0, .ref x), (1, .int a1)] := hl
  have hi4 : ∀ w ∈ u_ws RX4 TX4 2, w ∈ wsX5_trace := by decide +kernel
  have hi5 : ∀ w ∈ u_ws RX5 TX5 10, w ∈ wsX5_trace := by decide +kernel
  have wc217 := hts (.constant RX5 217 (-1000000)) (by decide +kernel)
  have wf307 := hts (.fieldLink RX5 307 "WarmTubes$Trace" "length" "I") (by decide +kernel)
  have wf51 := hts (.fieldLink RX5 51 "WarmTubes" "trace" "LWarmTubes$Trace;") (by decide +kernel)
  refine lv_iload_n hx hb dX5_trace_0 rfl (lv_at hl 1 rfl) ?_
  refine lv_iconst (v := 0) hx hb dX5_trace_1 (by decide) ?_
  refine lv_aload_n hx hb dX5_trace_2 rfl (lv_at hl 0 rfl) ?_
  refine va_get (D := D) (ci := 5) (v := .ref tr) (C := RX5) (T := TX5) (N := 10) hx hb hts hi5 hown hK.1 hP 0 rfl rfl 7 (by decide) wf51 (fun _ h9 => h9) rfl dX5_trace_3 ?_
  refine va_get (D := D) (ci := 4) (v := .int 0) (C := RX4) (T := TX4) (N := 2) hx hb hts hi4 hown hK.1 hP 1 rfl rfl 1 (by decide) wf307 (fun _ h9 => h9) rfl dX5_trace_6 ?_
  refine lv_iconst (v := 1) hx hb dX5_trace_9 (by decide) ?_
  refine lv_isub hx hb dX5_trace_10 ?_
  refine wt_top (z := (-1)) (by decide) ?_
  refine wt_rS (As := [.int a1, .int 0, .int (-1)]) (rest := []) ⟨hx, hb, hml, hown, hts⟩ (c_X5_within l D cI cZ cH a1 0 (-1)) (va_cwS 3 hts gX5_trace_X5_within rfl rfl rfl (by decide +kernel) ⟨Nat.le_of_ble_eq_true rfl, Nat.le_of_ble_eq_true rfl⟩) hK hP [] rfl rfl hl.1 rfl (Nat.le_of_ble_eq_true rfl) dX5_trace_11 ⟨Nat.le_of_ble_eq_true rfl, Nat.le_of_ble_eq_true rfl⟩ (fun r_1 e_2 => ?_)
  subst e_2
  refine wt_top (z := 0) (wI_m1 _) ?_
  refine lv_if_eq (tgt := 29) hx hb dX5_trace_14 (by decide) (fun _ => ?_) (fun h => absurd h (by decide))
  refine lv_ldc hx hb hown wc217 dX5_trace_29 ?_
  exact wt_siret hx hb hr hlocks (by rfl) dX5_trace_31
set_option maxHeartbeats 4000000 in
set_option maxRecDepth 100000 in
theorem c_X2_isMissing (l : Launch) (D : va_G) (cI cZ cH : ClassId) (rw ln : Nat) (lf : Nat → Int32) (row : Int32) (r_1 r_2 : Value) (hr8 : vp_in row 8) (hl8 : ∀ j, j < 8 → lf j = -1) : wt_R l yX2_isMissing wsX2_isMissing ({ frames := 0, cells := 0, slots := 0, locals := 0 } : Room) D (wt_T cI cZ cH) [.ref rw, .int row] [(rw, .inr (2, [.ref ln, r_1, r_2])), (ln, .inl (cI, 8, .inl lf))] (vp_Si (fun r => r = 1)) := by
  refine wt_R.ofW (cc := cX2_isMissing) (maxL := 2) (ret := (some .boolean)) (by decide) rfl (Nat.le_of_ble_eq_true rfl) ?_
  intro p e s m below meth c ls hx hb hr hts hown hlocks hml hP hK hl
  have hown : s.vm.findClass RX2 = some m.cls := hown
  have hl : lv_has ls 2 [(0, .ref rw), (1, .int row)] := hl
  have hi2 : ∀ w ∈ u_ws RX2 TX2 3, w ∈ wsX2_isMissing := by decide +kernel
  have wf11 := hts (.fieldLink RX2 11 "WarmTubes$Rows" "lane" "[I") (by decide +kernel)
  refine lv_aload_n hx hb dX2_isMissing_0 rfl (lv_at hl 0 rfl) ?_
  refine va_get (D := D) (ci := 2) (v := .ref ln) (C := RX2) (T := TX2) (N := 3) hx hb hts hi2 hown hK.1 hP 0 rfl rfl 0 (by decide) wf11 (fun _ h9 => h9) rfl dX2_isMissing_1 ?_
  refine lv_iload_n hx hb dX2_isMissing_4 rfl (lv_at hl 1 rfl) ?_
  refine va_iald hx hb hK.1 hP 1 0 rfl rfl hr8 dX2_isMissing_5 ?_
  refine wt_top (z := (-1)) (wt_all hr8 hl8) ?_
  refine lv_iconst (v := (-1)) hx hb dX2_isMissing_6 (by decide) ?_
  refine lv_icmp_ne (tgt := 14) hx hb dX2_isMissing_7 (by decide) (fun h => absurd h (by decide)) (fun _ => ?_)
  refine lv_iconst (v := 1) hx hb dX2_isMissing_10 (by decide) ?_
  refine lv_goto (tgt := 15) hx hb dX2_isMissing_11 (by decide) ?_
  exact wt_szret hx hb hr hlocks (by decide) (by rfl) dX2_isMissing_15
set_option maxHeartbeats 4000000 in
set_option maxRecDepth 100000 in
theorem c_X2_reach (l : Launch) (D : va_G) (cI cZ cH : ClassId) (rw ln : Nat) (lf : Nat → Int32) (row i n : Int32) (r_1 r_2 : Value) (hr8 : vp_in row 8) (hl8 : ∀ j, j < 8 → lf j = -1) : wt_R l yX2_reach wsX2_reach ({ frames := 1, cells := 0, slots := 0, locals := 21 } : Room) D (wt_T cI cZ cH) [.ref rw, .int row, .int i, .int n] [(rw, .inr (2, [.ref ln, r_1, r_2])), (ln, .inl (cI, 8, .inl lf))] (vp_Si (fun r => r = 1)) := by
  refine wt_R.ofW (cc := cX2_reach) (maxL := 4) (ret := (some .int)) (by decide) rfl (Nat.le_of_ble_eq_true rfl) ?_
  intro p e s m below meth c ls hx hb hr hts hown hlocks hml hP hK hl
  have hown : s.vm.findClass RX2 = some m.cls := hown
  have hl : lv_has ls 4 [(0, .ref rw), (1, .int row), (2, .int i), (3, .int n)] := hl
  refine lv_aload_n hx hb dX2_reach_0 rfl (lv_at hl 0 rfl) ?_
  refine lv_iload_n hx hb dX2_reach_1 rfl (lv_at hl 1 rfl) ?_
  refine wt_rV (As := [.int row]) (rest := []) ⟨hx, hb, hml, hown, hts⟩ (c_X2_isMissing l D cI cZ cH rw ln lf row r_1 r_2 hr8 hl8) (cwV 1 hts gX2_reach_X2_isMissing rfl rfl rfl (by decide +kernel) ⟨Nat.le_of_ble_eq_true rfl, Nat.le_of_ble_eq_true rfl⟩) hK hP [0, 1] rfl (va_recv hK.1 hP (ci := 2) (q0 := 0) rfl rfl) rfl hl.1 rfl (Nat.le_of_ble_eq_true rfl) dX2_reach_2 ⟨Nat.le_of_ble_eq_true rfl, Nat.le_of_ble_eq_true rfl⟩ (fun r_1 e_2 => ?_)
  subst e_2
  refine lv_if_eq (tgt := 10) hx hb dX2_reach_5 (by decide) (fun h => absurd h (by decide)) (fun _ => ?_)
  refine lv_iconst (v := 1) hx hb dX2_reach_8 (by decide) ?_
  exact wt_siret hx hb hr hlocks (by rfl) dX2_reach_9
set_option maxHeartbeats 4000000 in
set_option maxRecDepth 100000 in
theorem c_X2_present (l : Launch) (D : va_G) (cI cZ cH : ClassId) (rw ln : Nat) (lf : Nat → Int32) (r_1 r_2 : Value) (hl8 : ∀ j, j < 8 → lf j = -1) : wt_R l yX2_present wsX2_present ({ frames := 1, cells := 0, slots := 0, locals := 21 } : Room) D (wt_T cI cZ cH) [.ref rw] [(rw, .inr (2, [.ref ln, r_1, r_2])), (ln, .inl (cI, 8, .inl lf))] (vp_Si (fun r => r = 0)) := by
  refine wt_R.ofW (cc := cX2_present) (maxL := 3) (ret := (some .int)) (by decide) rfl (Nat.le_of_ble_eq_true rfl) ?_
  intro p e s m below meth c ls hx hb hr hts hown hlocks hml hP hK hl
  have hown : s.vm.findClass RX2 = some m.cls := hown
  have hl : lv_has ls 3 [(0, .ref rw)] := hl
  refine lv_iconst (v := 0) hx hb dX2_present_0 (by decide) ?_
  refine lv_istore_n (lv' := [(1, .int 0), (0, .ref rw)]) hx hb dX2_present_1 rfl hl (by decide) rfl (fun ls hl => ?_)
  refine lv_iconst (v := 0) hx hb dX2_present_2 (by decide) ?_
  refine lv_istore_n (lv' := [(2, .int 0), (1, .int 0), (0, .ref rw)]) hx hb dX2_present_3 rfl hl (by decide) rfl (fun ls hl => ?_)
  have loop : ∀ (k : Nat) (i : Int32) (ls : Array Slot), i.toInt = ((8 : Nat) : Int) - (k : Int) → k ≤ 8 → lv_has ls 3 [(2, .int i), (1, .int 0), (0, .ref rw)] → W p l e ({ frames := 1, cells := 0, slots := 0, locals := 21 } : Room) s m ([.ref rw] : List Value).toArray below meth c s.heap [] 0 0 (MQ below (vp_Si (fun r => r = 0)) ([.ref rw] : List Value).toArray s 0 0 (fun _ => False)) (F0 m 4 ls []) := by
    intro k
    induction k with
    | zero =>
      intro i  ls hi hk hl
      refine lv_iload_n hx hb dX2_present_4 rfl (lv_at hl 0 rfl) ?_
      refine lv_bipush (v := 8) hx hb dX2_present_5 (by decide) ?_
      refine lv_icmp_ge (tgt := 27) hx hb dX2_present_7 (by decide) (fun _ => ?_) (fun h => absurd (wt_lp0 rfl hi) h)
      refine lv_iload_n hx hb dX2_present_27 rfl (lv_at hl 1 rfl) ?_
      exact wt_siret hx hb hr hlocks (by rfl) dX2_present_28
    | succ k ih =>
      intro i  ls hi hk hl
      have hin := wt_lpi hi hk
      refine lv_iload_n hx hb dX2_present_4 rfl (lv_at hl 0 rfl) ?_
      refine lv_bipush (v := 8) hx hb dX2_present_5 (by decide) ?_
      refine lv_icmp_ge (tgt := 27) hx hb dX2_present_7 (by decide) (fun h => absurd h (wt_lpS rfl hi)) (fun _ => ?_)
      refine lv_aload_n hx hb dX2_present_10 rfl (lv_at hl 2 rfl) ?_
      refine lv_iload_n hx hb dX2_present_11 rfl (lv_at hl 0 rfl) ?_
      refine wt_rV (As := [.int i]) (rest := []) ⟨hx, hb, hml, hown, hts⟩ (c_X2_isMissing l D cI cZ cH rw ln lf i r_1 r_2 hin hl8) (cwV 1 hts gX2_present_X2_isMissing rfl rfl rfl (by decide +kernel) ⟨Nat.le_of_ble_eq_true rfl, Nat.le_of_ble_eq_true rfl⟩) hK hP [0, 1] rfl (va_recv hK.1 hP (ci := 2) (q0 := 0) rfl rfl) rfl hl.1 rfl (Nat.le_of_ble_eq_true rfl) dX2_present_12 ⟨Nat.le_of_ble_eq_true rfl, Nat.le_of_ble_eq_true rfl⟩ (fun r_1 e_2 => ?_)
      subst e_2
      refine lv_if_ne (tgt := 21) hx hb dX2_present_15 (by decide) (fun _ => ?_) (fun h => absurd h (by decide))
      refine lv_iinc (v := i + 1) (lv' := [(2, .int (i + 1)), (1, .int 0), (0, .ref rw)]) hx hb dX2_present_21 hl (k := 0) rfl rfl (by decide) rfl (fun ls hl => ?_)
      refine lv_goto (tgt := 4) hx hb dX2_present_24 (by decide) ?_
      exact ih (i + 1) ls (wt_lpn (by decide) hi hk) (Nat.le_of_succ_le hk) (lv_sub hl [0, 1, 2] rfl)
  exact loop 8 0  ls (by decide) (Nat.le_refl _) hl
set_option maxHeartbeats 4000000 in
set_option maxRecDepth 100000 in
theorem c_X2_at (l : Launch) (D : va_G) (cI cZ cH : ClassId) (rw : Nat) (row i : Int32) : wt_R l yX2_at wsX2_at ({ frames := 0, cells := 0, slots := 0, locals := 0 } : Room) D (wt_T cI cZ cH) [.ref rw, .int row, .int i] [] (vp_Si (fun r => r = row * 40 + i)) := by
  refine wt_R.ofW (cc := cX2_at) (maxL := 3) (ret := (some .int)) (by decide) rfl (Nat.le_of_ble_eq_true rfl) ?_
  intro p e s m below meth c ls hx hb hr hts hown hlocks hml hP hK hl
  have hown : s.vm.findClass RX2 = some m.cls := hown
  have hl : lv_has ls 3 [(0, .ref rw), (1, .int row), (2, .int i)] := hl
  refine lv_iload_n hx hb dX2_at_0 rfl (lv_at hl 1 rfl) ?_
  refine lv_bipush (v := 40) hx hb dX2_at_1 (by decide) ?_
  refine lv_imul hx hb dX2_at_3 ?_
  refine lv_iload_n hx hb dX2_at_4 rfl (lv_at hl 2 rfl) ?_
  refine lv_iadd hx hb dX2_at_5 ?_
  exact wt_siret hx hb hr hlocks (by rfl) dX2_at_6
set_option maxHeartbeats 4000000 in
set_option maxRecDepth 100000 in
theorem c_X2_lay (l : Launch) (D : va_G) (cI cZ cH : ClassId) (rw ln sz it : Nat) (lf sf tf : Nat → Int32) (row kept n : Int32) (hr8 : vp_in row 8) : wt_M l yX2_lay wsX2_lay ({ frames := 1, cells := 0, slots := 0, locals := 22 } : Room) D (wt_T cI cZ cH) [.ref rw, .int row, .int kept, .int n] [(rw, .inr (2, [.ref ln, .ref sz, .ref it])), (ln, .inl (cI, 8, .inl lf)), (sz, .inl (cI, 8, .inl sf)), (it, .inl (cI, 320, .inl tf))] (wt_QV D (fun w => True)) := by
  refine wt_M.ofW (cc := cX2_lay) (maxL := 5) (ret := none) (by decide) rfl (Nat.le_of_ble_eq_true rfl) ?_
  intro p e s m below meth c A ls hx hb hr hts hown hlocks hml hnm hP hK hD hA hS hl
  have hP : va_P D vwCl [(rw, .inr (2, [.ref ln, .ref sz, .ref it])), (ln, .inl (cI, 8, .inl lf)), (sz, .inl (cI, 8, .inl sf)), (it, .inl (cI, 320, .inl tf))] s.heap := hP
  have hown : s.vm.findClass RX2 = some m.cls := hown
  have hl : lv_has ls 5 [(0, .ref rw), (1, .int row), (2, .int kept), (3, .int n)] := hl
  have hi2 : ∀ w ∈ u_ws RX2 TX2 3, w ∈ wsX2_lay := by decide +kernel
  have wf11 := hts (.fieldLink RX2 11 "WarmTubes$Rows" "lane" "[I") (by decide +kernel)
  have wf15 := hts (.fieldLink RX2 15 "WarmTubes$Rows" "size" "[I") (by decide +kernel)
  have wf18 := hts (.fieldLink RX2 18 "WarmTubes$Rows" "items" "[I") (by decide +kernel)
  refine lv_aload_n hx hb dX2_lay_0 rfl (lv_at hl 0 rfl) ?_
  refine va_get (D := D) (ci := 2) (v := .ref ln) (C := RX2) (T := TX2) (N := 3) hx hb hts hi2 hown hK.1 hP 0 rfl rfl 0 (by decide) wf11 (fun _ h9 => h9) rfl dX2_lay_1 ?_
  refine lv_iload_n hx hb dX2_lay_4 rfl (lv_at hl 1 rfl) ?_
  refine lv_iload_n hx hb dX2_lay_5 rfl (lv_at hl 2 rfl) ?_
  refine va_iast hx hb hK.1 hP hD hS 1 0 rfl rfl hr8 dX2_lay_6 (fun H locs hP hD hS => ?_)
  have hP : va_P D vwCl [(rw, .inr (2, [.ref ln, .ref sz, .ref it])), (ln, .inl (cI, 8, .inl (upd lf (row.toNatClampNeg) kept))), (sz, .inl (cI, 8, .inl sf)), (it, .inl (cI, 320, .inl tf))] H := hP
  have hD : va_D A [(rw, .inr (2, [.ref ln, .ref sz, .ref it])), (ln, .inl (cI, 8, .inl (upd lf (row.toNatClampNeg) kept))), (sz, .inl (cI, 8, .inl sf)), (it, .inl (cI, 320, .inl tf))] := hD
  refine lv_aload_n hx hb dX2_lay_7 rfl (lv_at hl 0 rfl) ?_
  refine va_get (D := D) (ci := 2) (v := .ref sz) (C := RX2) (T := TX2) (N := 3) hx hb hts hi2 hown hK.1 hP 0 rfl rfl 1 (by decide) wf15 (fun _ h9 => h9) rfl dX2_lay_8 ?_
  refine lv_iload_n hx hb dX2_lay_11 rfl (lv_at hl 1 rfl) ?_
  refine lv_iload_n hx hb dX2_lay_12 rfl (lv_at hl 3 rfl) ?_
  refine va_iast hx hb hK.1 hP hD hS 2 0 rfl rfl hr8 dX2_lay_13 (fun H locs hP hD hS => ?_)
  have hP : va_P D vwCl [(rw, .inr (2, [.ref ln, .ref sz, .ref it])), (ln, .inl (cI, 8, .inl (upd lf (row.toNatClampNeg) kept))), (sz, .inl (cI, 8, .inl (upd sf (row.toNatClampNeg) n))), (it, .inl (cI, 320, .inl tf))] H := hP
  have hD : va_D A [(rw, .inr (2, [.ref ln, .ref sz, .ref it])), (ln, .inl (cI, 8, .inl (upd lf (row.toNatClampNeg) kept))), (sz, .inl (cI, 8, .inl (upd sf (row.toNatClampNeg) n))), (it, .inl (cI, 320, .inl tf))] := hD
  refine lv_iconst (v := 0) hx hb dX2_lay_14 (by decide) ?_
  refine lv_istore (lv' := [(4, .int 0), (0, .ref rw), (1, .int row), (2, .int kept), (3, .int n)]) hx hb dX2_lay_15 hl (by decide) rfl (fun ls hl => ?_)
  have loop : ∀ (k : Nat) (i : Int32) (f0 : Nat → Int32) (H : Heap) (locs : List Loc) (ls : Array Slot), i.toInt = ((40 : Nat) : Int) - (k : Int) → k ≤ 40 → va_P D vwCl [(rw, .inr (2, [.ref ln, .ref sz, .ref it])), (ln, .inl (cI, 8, .inl (upd lf (row.toNatClampNeg) kept))), (sz, .inl (cI, 8, .inl (upd sf (row.toNatClampNeg) n))), (it, .inl (cI, 320, .inl f0))] H → va_D A [(rw, .inr (2, [.ref ln, .ref sz, .ref it])), (ln, .inl (cI, 8, .inl (upd lf (row.toNatClampNeg) kept))), (sz, .inl (cI, 8, .inl (upd sf (row.toNatClampNeg) n))), (it, .inl (cI, 320, .inl f0))] → va_S A s.heap H locs → lv_has ls 5 [(4, .int i), (0, .ref rw), (1, .int row), (2, .int kept), (3, .int n)] → W p l e ({ frames := 1, cells := 0, slots := 0, locals := 22 } : Room) s m ([.ref rw, .int row, .int kept, .int n] : List Value).toArray below meth c H locs 0 0 (MQ below (wt_QV D (fun w => True) A) ([.ref rw, .int row, .int kept, .int n] : List Value).toArray s 0 0 A) (F0 m 17 ls []) := by
    intro k
    induction k with
    | zero =>
      intro i f0 H locs ls hi hk hP hD hS hl
      refine lv_iload hx hb dX2_lay_17 (lv_at hl 0 rfl) ?_
      refine lv_bipush (v := 40) hx hb dX2_lay_19 (by decide) ?_
      refine lv_icmp_ge (tgt := 43) hx hb dX2_lay_21 (by decide) (fun _ => ?_) (fun h => absurd (wt_lp0 rfl hi) h)
      exact wt_vret hx hb hr hlocks hP hD hS trivial dX2_lay_43
    | succ k ih =>
      intro i f0 H locs ls hi hk hP hD hS hl
      have hin := wt_lpi hi hk
      refine lv_iload hx hb dX2_lay_17 (lv_at hl 0 rfl) ?_
      refine lv_bipush (v := 40) hx hb dX2_lay_19 (by decide) ?_
      refine lv_icmp_ge (tgt := 43) hx hb dX2_lay_21 (by decide) (fun h => absurd h (wt_lpS rfl hi)) (fun _ => ?_)
      refine lv_aload_n hx hb dX2_lay_24 rfl (lv_at hl 1 rfl) ?_
      refine va_get (D := D) (ci := 2) (v := .ref it) (C := RX2) (T := TX2) (N := 3) hx hb hts hi2 hown hK.1 hP 0 rfl rfl 2 (by decide) wf18 (fun _ h9 => h9) rfl dX2_lay_25 ?_
      refine lv_aload_n hx hb dX2_lay_28 rfl (lv_at hl 1 rfl) ?_
      refine lv_iload_n hx hb dX2_lay_29 rfl (lv_at hl 2 rfl) ?_
      refine lv_iload hx hb dX2_lay_30 (lv_at hl 0 rfl) ?_
      refine wt_rV (As := [.int row, .int i]) (rest := [.ref it]) ⟨hx, hb, hml, hown, hts⟩ (c_X2_at l D cI cZ cH rw row i) (cwV 2 hts gX2_lay_X2_at rfl rfl rfl (by decide +kernel) ⟨Nat.le_of_ble_eq_true rfl, Nat.le_of_ble_eq_true rfl⟩) hK hP [] rfl (va_recv hK.1 hP (ci := 2) (q0 := 0) rfl rfl) rfl hl.1 rfl (Nat.le_of_ble_eq_true rfl) dX2_lay_32 ⟨Nat.le_of_ble_eq_true rfl, Nat.le_of_ble_eq_true rfl⟩ (fun r_1 e_2 => ?_)
      subst e_2
      refine lv_iconst (v := 0) hx hb dX2_lay_35 (by decide) ?_
      refine va_iast hx hb hK.1 hP hD hS 3 0 rfl rfl (wt_ix hr8 hin) dX2_lay_36 (fun H locs hP hD hS => ?_)
      have hP : va_P D vwCl [(rw, .inr (2, [.ref ln, .ref sz, .ref it])), (ln, .inl (cI, 8, .inl (upd lf (row.toNatClampNeg) kept))), (sz, .inl (cI, 8, .inl (upd sf (row.toNatClampNeg) n))), (it, .inl (cI, 320, .inl (upd f0 ((row * 40 + i).toNatClampNeg) 0)))] H := hP
      have hD : va_D A [(rw, .inr (2, [.ref ln, .ref sz, .ref it])), (ln, .inl (cI, 8, .inl (upd lf (row.toNatClampNeg) kept))), (sz, .inl (cI, 8, .inl (upd sf (row.toNatClampNeg) n))), (it, .inl (cI, 320, .inl (upd f0 ((row * 40 + i).toNatClampNeg) 0)))] := hD
      refine lv_iinc (v := i + 1) (lv' := [(4, .int (i + 1)), (0, .ref rw), (1, .int row), (2, .int kept), (3, .int n)]) hx hb dX2_lay_37 hl (k := 0) rfl rfl (by decide) rfl (fun ls hl => ?_)
      refine lv_goto (tgt := 17) hx hb dX2_lay_40 (by decide) ?_
      exact ih (i + 1) (upd f0 ((row * 40 + i).toNatClampNeg) 0) H locs ls (wt_lpn (by decide) hi hk) (Nat.le_of_succ_le hk) hP hD hS (lv_sub hl [0, 1, 2, 3, 4] rfl)
  exact loop 40 0 tf _ _ ls (by decide) (Nat.le_refl _) hP hD hS hl
set_option maxHeartbeats 4000000 in
set_option maxRecDepth 100000 in
theorem c_X5_count (l : Launch) (D : va_G) (cI cZ cH : ClassId) (x rw ln tp nw ps : Nat) (lf : Nat → Int32) (a1 : Int32) (x_3 x_4 x_6 x_7 x_8 x_9 r_1 r_2 t_0 t_2 t_3 t_4 n_0 n_1 n_5 n_6 n_7 n_8 n_9 n_10 n_11 p_0 p_1 : Value) (hl8 : ∀ j, j < 8 → lf j = -1) : wt_R l yX5_count wsX5_count ({ frames := 2, cells := 0, slots := 0, locals := 43 } : Room) D (wt_T cI cZ cH) [.ref x, .int a1] [(x, .inr (5, [.ref rw, .ref tp, .ref nw, x_3, x_4, .ref ps, x_6, x_7, x_8, x_9])), (rw, .inr (2, [.ref ln, r_1, r_2])), (ln, .inl (cI, 8, .inl lf)), (tp, .inr (3, [t_0, .int 0, t_2, t_3, t_4])), (nw, .inr (0, [n_0, n_1, .int 0, .int 0, .int 0, n_5, n_6, n_7, n_8, n_9, n_10, n_11])), (ps, .inr (1, [p_0, p_1, .int 0]))] (vp_Si (fun r => r = (if wI a1 0 7 = 0 then (-1000001) else 0))) := by
  refine wt_R.ofW (cc := cX5_count) (maxL := 2) (ret := (some .int)) (by decide) rfl (Nat.le_of_ble_eq_true rfl) ?_
  intro p e s m below meth c ls hx hb hr hts hown hlocks hml hP hK hl
  have hown : s.vm.findClass RX5 = some m.cls := hown
  have hl : lv_has ls 2 [(0, .ref x), (1, .int a1)] := hl
  have hi0 : ∀ w ∈ u_ws RX0 TX0 12, w ∈ wsX5_count := by decide +kernel
  have hi1 : ∀ w ∈ u_ws RX1 TX1 3, w ∈ wsX5_count := by decide +kernel
  have hi3 : ∀ w ∈ u_ws RX3 TX3 5, w ∈ wsX5_count := by decide +kernel
  have hi5 : ∀ w ∈ u_ws RX5 TX5 10, w ∈ wsX5_count := by decide +kernel
  have wc70 := hts (.constant RX5 70 (-1000001)) (by decide +kernel)
  have wf10 := hts (.fieldLink RX5 10 "WarmTubes" "rows" "LWarmTubes$Rows;") (by decide +kernel)
  have wf115 := hts (.fieldLink RX5 115 "WarmTubes$Tape" "length" "I") (by decide +kernel)
  have wf140 := hts (.fieldLink RX5 140 "WarmTubes$House" "tubes" "I") (by decide +kernel)
  have wf143 := hts (.fieldLink RX5 143 "WarmTubes$Past" "size" "I") (by decide +kernel)
  have wf153 := hts (.fieldLink RX5 153 "WarmTubes$House" "minute" "I") (by decide +kernel)
  have wf19 := hts (.fieldLink RX5 19 "WarmTubes" "tape" "LWarmTubes$Tape;") (by decide +kernel)
  have wf239 := hts (.fieldLink RX5 239 "WarmTubes$House" "rooms" "I") (by decide +kernel)
  have wf26 := hts (.fieldLink RX5 26 "WarmTubes" "now" "LWarmTubes$House;") (by decide +kernel)
  have wf40 := hts (.fieldLink RX5 40 "WarmTubes" "past" "LWarmTubes$Past;") (by decide +kernel)
  refine lv_iload_n hx hb dX5_count_0 rfl (lv_at hl 1 rfl) ?_
  rcases wt_dec (a1) 0 with c_2 | c_2
  · subst c_2
    refine lv_tableIn (off := 47) (tgt := 48) hx hb dX5_count_1 (by decide) (by decide) rfl (by decide) ?_
    refine lv_aload_n hx hb dX5_count_48 rfl (lv_at hl 0 rfl) ?_
    refine va_get (D := D) (ci := 5) (v := .ref rw) (C := RX5) (T := TX5) (N := 10) hx hb hts hi5 hown hK.1 hP 0 rfl rfl 0 (by decide) wf10 (fun _ h9 => h9) rfl dX5_count_49 ?_
    refine wt_rV (As := []) (rest := []) ⟨hx, hb, hml, hown, hts⟩ (c_X2_present l D cI cZ cH rw ln lf r_1 r_2 hl8) (cwV 0 hts gX5_count_X2_present rfl rfl rfl (by decide +kernel) ⟨Nat.le_of_ble_eq_true rfl, Nat.le_of_ble_eq_true rfl⟩) hK hP [1, 2] rfl (va_recv hK.1 hP (ci := 2) (q0 := 1) rfl rfl) rfl hl.1 rfl (Nat.le_of_ble_eq_true rfl) dX5_count_52 ⟨Nat.le_of_ble_eq_true rfl, Nat.le_of_ble_eq_true rfl⟩ (fun r_3 e_4 => ?_)
    subst e_4
    exact wt_siret hx hb hr hlocks (by decide) dX5_count_55
  rcases wt_dec (a1) 1 with c_5 | c_5
  · subst c_5
    refine lv_tableIn (off := 55) (tgt := 56) hx hb dX5_count_1 (by decide) (by decide) rfl (by decide) ?_
    refine lv_aload_n hx hb dX5_count_56 rfl (lv_at hl 0 rfl) ?_
    refine va_get (D := D) (ci := 5) (v := .ref nw) (C := RX5) (T := TX5) (N := 10) hx hb hts hi5 hown hK.1 hP 0 rfl rfl 2 (by decide) wf26 (fun _ h9 => h9) rfl dX5_count_57 ?_
    refine va_get (D := D) (ci := 0) (v := .int 0) (C := RX0) (T := TX0) (N := 12) hx hb hts hi0 hown hK.1 hP 4 rfl rfl 2 (by decide) wf239 (fun _ h9 => h9) rfl dX5_count_60 ?_
    exact wt_siret hx hb hr hlocks (by decide) dX5_count_63
  rcases wt_dec (a1) 2 with c_6 | c_6
  · subst c_6
    refine lv_tableIn (off := 63) (tgt := 64) hx hb dX5_count_1 (by decide) (by decide) rfl (by decide) ?_
    refine lv_aload_n hx hb dX5_count_64 rfl (lv_at hl 0 rfl) ?_
    refine va_get (D := D) (ci := 5) (v := .ref nw) (C := RX5) (T := TX5) (N := 10) hx hb hts hi5 hown hK.1 hP 0 rfl rfl 2 (by decide) wf26 (fun _ h9 => h9) rfl dX5_count_65 ?_
    refine va_get (D := D) (ci := 0) (v := .int 0) (C := RX0) (T := TX0) (N := 12) hx hb hts hi0 hown hK.1 hP 4 rfl rfl 3 (by decide) wf140 (fun _ h9 => h9) rfl dX5_count_68 ?_
    exact wt_siret hx hb hr hlocks (by decide) dX5_count_71
  rcases wt_dec (a1) 3 with c_7 | c_7
  · subst c_7
    refine lv_tableIn (off := 71) (tgt := 72) hx hb dX5_count_1 (by decide) (by decide) rfl (by decide) ?_
    refine lv_aload_n hx hb dX5_count_72 rfl (lv_at hl 0 rfl) ?_
    refine va_get (D := D) (ci := 5) (v := .ref nw) (C := RX5) (T := TX5) (N := 10) hx hb hts hi5 hown hK.1 hP 0 rfl rfl 2 (by decide) wf26 (fun _ h9 => h9) rfl dX5_count_73 ?_
    refine va_get (D := D) (ci := 0) (v := .int 0) (C := RX0) (T := TX0) (N := 12) hx hb hts hi0 hown hK.1 hP 4 rfl rfl 4 (by decide) wf153 (fun _ h9 => h9) rfl dX5_count_76 ?_
    exact wt_siret hx hb hr hlocks (by decide) dX5_count_79
  rcases wt_dec (a1) 4 with c_8 | c_8
  · subst c_8
    refine lv_tableIn (off := 79) (tgt := 80) hx hb dX5_count_1 (by decide) (by decide) rfl (by decide) ?_
    refine lv_aload_n hx hb dX5_count_80 rfl (lv_at hl 0 rfl) ?_
    refine va_get (D := D) (ci := 5) (v := .ref nw) (C := RX5) (T := TX5) (N := 10) hx hb hts hi5 hown hK.1 hP 0 rfl rfl 2 (by decide) wf26 (fun _ h9 => h9) rfl dX5_count_81 ?_
    refine wt_rV (As := []) (rest := []) ⟨hx, hb, hml, hown, hts⟩ (c_X0_coldRooms l D cI cZ cH nw n_0 n_1 (.int 0) (.int 0) n_5 n_6 n_7 n_8 n_9 n_10 n_11) (cwV 0 hts gX5_count_X0_coldRooms rfl rfl rfl (by decide +kernel) ⟨Nat.le_of_ble_eq_true rfl, Nat.le_of_ble_eq_true rfl⟩) hK hP [4] rfl (va_recv hK.1 hP (ci := 0) (q0 := 4) rfl rfl) rfl hl.1 rfl (Nat.le_of_ble_eq_true rfl) dX5_count_84 ⟨Nat.le_of_ble_eq_true rfl, Nat.le_of_ble_eq_true rfl⟩ (fun r_9 e_10 => ?_)
    subst e_10
    exact wt_siret hx hb hr hlocks (by decide) dX5_count_87
  rcases wt_dec (a1) 5 with c_11 | c_11
  · subst c_11
    refine lv_tableIn (off := 87) (tgt := 88) hx hb dX5_count_1 (by decide) (by decide) rfl (by decide) ?_
    refine lv_aload_n hx hb dX5_count_88 rfl (lv_at hl 0 rfl) ?_
    refine va_get (D := D) (ci := 5) (v := .ref nw) (C := RX5) (T := TX5) (N := 10) hx hb hts hi5 hown hK.1 hP 0 rfl rfl 2 (by decide) wf26 (fun _ h9 => h9) rfl dX5_count_89 ?_
    refine lv_iconst (v := (-1)) hx hb dX5_count_92 (by decide) ?_
    refine wt_rV (As := [.int (-1)]) (rest := []) ⟨hx, hb, hml, hown, hts⟩ (c_X0_upIn l D cI cZ cH nw (-1) n_0 n_1 (.int 0) (.int 0) n_5 n_6 n_7 n_8 n_9 n_10 n_11) (cwV 1 hts gX5_count_X0_upIn rfl rfl rfl (by decide +kernel) ⟨Nat.le_of_ble_eq_true rfl, Nat.le_of_ble_eq_true rfl⟩) hK hP [4] rfl (va_recv hK.1 hP (ci := 0) (q0 := 4) rfl rfl) rfl hl.1 rfl (Nat.le_of_ble_eq_true rfl) dX5_count_93 ⟨Nat.le_of_ble_eq_true rfl, Nat.le_of_ble_eq_true rfl⟩ (fun r_12 e_13 => ?_)
    subst e_13
    exact wt_siret hx hb hr hlocks (by decide) dX5_count_96
  rcases wt_dec (a1) 6 with c_14 | c_14
  · subst c_14
    refine lv_tableIn (off := 96) (tgt := 97) hx hb dX5_count_1 (by decide) (by decide) rfl (by decide) ?_
    refine lv_aload_n hx hb dX5_count_97 rfl (lv_at hl 0 rfl) ?_
    refine va_get (D := D) (ci := 5) (v := .ref ps) (C := RX5) (T := TX5) (N := 10) hx hb hts hi5 hown hK.1 hP 0 rfl rfl 5 (by decide) wf40 (fun _ h9 => h9) rfl dX5_count_98 ?_
    refine va_get (D := D) (ci := 1) (v := .int 0) (C := RX1) (T := TX1) (N := 3) hx hb hts hi1 hown hK.1 hP 5 rfl rfl 2 (by decide) wf143 (fun _ h9 => h9) rfl dX5_count_101 ?_
    exact wt_siret hx hb hr hlocks (by decide) dX5_count_104
  rcases wt_dec (a1) 7 with c_15 | c_15
  · subst c_15
    refine lv_tableIn (off := 104) (tgt := 105) hx hb dX5_count_1 (by decide) (by decide) rfl (by decide) ?_
    refine lv_aload_n hx hb dX5_count_105 rfl (lv_at hl 0 rfl) ?_
    refine va_get (D := D) (ci := 5) (v := .ref tp) (C := RX5) (T := TX5) (N := 10) hx hb hts hi5 hown hK.1 hP 0 rfl rfl 1 (by decide) wf19 (fun _ h9 => h9) rfl dX5_count_106 ?_
    refine va_get (D := D) (ci := 3) (v := .int 0) (C := RX3) (T := TX3) (N := 5) hx hb hts hi3 hown hK.1 hP 3 rfl rfl 1 (by decide) wf115 (fun _ h9 => h9) rfl dX5_count_109 ?_
    exact wt_siret hx hb hr hlocks (by decide) dX5_count_112
  refine lv_tableOut (tgt := 113) hx hb dX5_count_1 (by have := lv_neT (a := 0) c_2 rfl; have := lv_neT (a := 1) c_5 rfl; have := lv_neT (a := 2) c_6 rfl; have := lv_neT (a := 3) c_7 rfl; have := lv_neT (a := 4) c_8 rfl; have := lv_neT (a := 5) c_11 rfl; have := lv_neT (a := 6) c_14 rfl; have := lv_neT (a := 7) c_15 rfl; omega) (by decide) ?_
  refine lv_ldc hx hb hown wc70 dX5_count_113 ?_
  exact wt_siret hx hb hr hlocks (by rw [wt_w07 c_2 c_5 c_6 c_7 c_8 c_11 c_14 c_15]; rfl) dX5_count_115
set_option maxHeartbeats 4000000 in
set_option maxRecDepth 100000 in
theorem c_X5_found (l : Launch) (D : va_G) (cI cZ cH : ClassId) (x : Nat) (f : Int32) (x_0 x_1 x_2 x_3 x_4 x_5 x_6 x_7 x_8 x_9 : Value) : wt_M l yX5_found wsX5_found ({ frames := 0, cells := 0, slots := 0, locals := 0 } : Room) D (wt_T cI cZ cH) [.ref x, .int f] [(x, .inr (5, [x_0, x_1, x_2, x_3, x_4, x_5, x_6, x_7, x_8, x_9]))] (wt_QI D (fun r w => r = (-1000010) - f)) := by
  refine wt_M.ofW (cc := cX5_found) (maxL := 2) (ret := (some .int)) (by decide) rfl (Nat.le_of_ble_eq_true rfl) ?_
  intro p e s m below meth c A ls hx hb hr hts hown hlocks hml hnm hP hK hD hA hS hl
  have hP : va_P D vwCl [(x, .inr (5, [x_0, x_1, x_2, x_3, x_4, x_5, x_6, x_7, x_8, x_9]))] s.heap := hP
  have hown : s.vm.findClass RX5 = some m.cls := hown
  have hl : lv_has ls 2 [(0, .ref x), (1, .int f)] := hl
  have hi5 : ∀ w ∈ u_ws RX5 TX5 10, w ∈ wsX5_found := by decide +kernel
  have wc325 := hts (.constant RX5 325 (-1000010)) (by decide +kernel)
  have wf59 := hts (.fieldLink RX5 59 "WarmTubes" "latestFinding" "I") (by decide +kernel)
  refine lv_aload_n hx hb dX5_found_0 rfl (lv_at hl 0 rfl) ?_
  refine lv_iload_n hx hb dX5_found_1 rfl (lv_at hl 1 rfl) ?_
  refine va_put (D := D) (ci := 5) (v := .int f) (ty := .int) (C := RX5) (T := TX5) (N := 10) hx hb hts hi5 tyX5 tyX5_ok nmX5 hown hK.1 hP hD hS 0 rfl rfl 9 (by decide) wf59 (fun _ h9 => h9) rfl (by decide +kernel) rfl rfl (Nat.le_of_ble_eq_true rfl) dX5_found_2 (fun H locs hP hD hS => ?_)
  have hP : va_P D vwCl [(x, .inr (5, [x_0, x_1, x_2, x_3, x_4, x_5, x_6, x_7, x_8, .int f]))] H := hP
  have hD : va_D A [(x, .inr (5, [x_0, x_1, x_2, x_3, x_4, x_5, x_6, x_7, x_8, .int f]))] := hD
  refine lv_ldcw hx hb hown wc325 dX5_found_5 ?_
  refine lv_iload_n hx hb dX5_found_8 rfl (lv_at hl 1 rfl) ?_
  refine lv_isub hx hb dX5_found_9 ?_
  exact wt_iret hx hb hr hlocks hP hD hS (by rfl) dX5_found_10
set_option maxHeartbeats 4000000 in
set_option maxRecDepth 100000 in
theorem c_X5_plain (l : Launch) (D : va_G) (cI cZ cH : ClassId) (x : Nat) (v : Int32) (x_0 x_1 x_2 x_3 x_4 x_5 x_6 x_7 x_8 x_9 : Value) : wt_M l yX5_plain wsX5_plain ({ frames := 0, cells := 0, slots := 0, locals := 0 } : Room) D (wt_T cI cZ cH) [.ref x, .int v] [(x, .inr (5, [x_0, x_1, x_2, x_3, x_4, x_5, x_6, x_7, x_8, x_9]))] (wt_QI D (fun r w => r = v)) := by
  refine wt_M.ofW (cc := cX5_plain) (maxL := 2) (ret := (some .int)) (by decide) rfl (Nat.le_of_ble_eq_true rfl) ?_
  intro p e s m below meth c A ls hx hb hr hts hown hlocks hml hnm hP hK hD hA hS hl
  have hP : va_P D vwCl [(x, .inr (5, [x_0, x_1, x_2, x_3, x_4, x_5, x_6, x_7, x_8, x_9]))] s.heap := hP
  have hown : s.vm.findClass RX5 = some m.cls := hown
  have hl : lv_has ls 2 [(0, .ref x), (1, .int v)] := hl
  have hi5 : ∀ w ∈ u_ws RX5 TX5 10, w ∈ wsX5_plain := by decide +kernel
  have wf59 := hts (.fieldLink RX5 59 "WarmTubes" "latestFinding" "I") (by decide +kernel)
  refine lv_aload_n hx hb dX5_plain_0 rfl (lv_at hl 0 rfl) ?_
  refine lv_iconst (v := 0) hx hb dX5_plain_1 (by decide) ?_
  refine va_put (D := D) (ci := 5) (v := .int 0) (ty := .int) (C := RX5) (T := TX5) (N := 10) hx hb hts hi5 tyX5 tyX5_ok nmX5 hown hK.1 hP hD hS 0 rfl rfl 9 (by decide) wf59 (fun _ h9 => h9) rfl (by decide +kernel) rfl rfl (Nat.le_of_ble_eq_true rfl) dX5_plain_2 (fun H locs hP hD hS => ?_)
  have hP : va_P D vwCl [(x, .inr (5, [x_0, x_1, x_2, x_3, x_4, x_5, x_6, x_7, x_8, .int 0]))] H := hP
  have hD : va_D A [(x, .inr (5, [x_0, x_1, x_2, x_3, x_4, x_5, x_6, x_7, x_8, .int 0]))] := hD
  refine lv_iload_n hx hb dX5_plain_5 rfl (lv_at hl 1 rfl) ?_
  exact wt_iret hx hb hr hlocks hP hD hS (by rfl) dX5_plain_6
set_option maxHeartbeats 4000000 in
set_option maxRecDepth 100000 in
theorem c_X5_row (l : Launch) (D : va_G) (cI cZ cH : ClassId) (x rw ln sz it : Nat) (lf sf tf : Nat → Int32) (a1 a2 a3 : Int32) (x_1 x_2 x_3 x_4 x_5 x_6 x_7 x_8 x_9 : Value) : wt_M l yX5_row wsX5_row ({ frames := 2, cells := 0, slots := 0, locals := 46 } : Room) D (wt_T cI cZ cH) [.ref x, .int a1, .int a2, .int a3] [(x, .inr (5, [.ref rw, x_1, x_2, x_3, x_4, x_5, x_6, x_7, x_8, x_9])), (rw, .inr (2, [.ref ln, .ref sz, .ref it])), (ln, .inl (cI, 8, .inl lf)), (sz, .inl (cI, 8, .inl sf)), (it, .inl (cI, 320, .inl tf))] (wt_QI D (fun r w => r = (if wI a1 0 7 = 0 then (-1000001) else if wI a2 0 2 = 0 then (-1000001) else if a3 ≤ 40 then (if 0 ≤ a3 then a3 else (-1000014)) else (-1000001)))) := by
  refine wt_M.ofW (cc := cX5_row) (maxL := 4) (ret := (some .int)) (by decide) rfl (Nat.le_of_ble_eq_true rfl) ?_
  intro p e s m below meth c A ls hx hb hr hts hown hlocks hml hnm hP hK hD hA hS hl
  have hP : va_P D vwCl [(x, .inr (5, [.ref rw, x_1, x_2, x_3, x_4, x_5, x_6, x_7, x_8, x_9])), (rw, .inr (2, [.ref ln, .ref sz, .ref it])), (ln, .inl (cI, 8, .inl lf)), (sz, .inl (cI, 8, .inl sf)), (it, .inl (cI, 320, .inl tf))] s.heap := hP
  have hown : s.vm.findClass RX5 = some m.cls := hown
  have hl : lv_has ls 4 [(0, .ref x), (1, .int a1), (2, .int a2), (3, .int a3)] := hl
  have hi5 : ∀ w ∈ u_ws RX5 TX5 10, w ∈ wsX5_row := by decide +kernel
  have wc70 := hts (.constant RX5 70 (-1000001)) (by decide +kernel)
  have wf10 := hts (.fieldLink RX5 10 "WarmTubes" "rows" "LWarmTubes$Rows;") (by decide +kernel)
  refine lv_iload_n hx hb dX5_row_0 rfl (lv_at hl 1 rfl) ?_
  refine wt_rS (As := [.int a1]) (rest := []) ⟨hx, hb, hml, hown, hts⟩ (c_X5_isRow l D cI cZ cH a1) (va_cwS 1 hts gX5_row_X5_isRow rfl rfl rfl (by decide +kernel) ⟨Nat.le_of_ble_eq_true rfl, Nat.le_of_ble_eq_true rfl⟩) hK hP [] rfl rfl hl.1 rfl (Nat.le_of_ble_eq_true rfl) dX5_row_1 ⟨Nat.le_of_ble_eq_true rfl, Nat.le_of_ble_eq_true rfl⟩ (fun r_1 e_2 => ?_)
  subst e_2
  refine lv_if_eq (tgt := 22) hx hb dX5_row_4 (by decide) (fun c_3 => ?_) (fun c_3 => ?_)
  · skip
    refine lv_ldc hx hb hown wc70 dX5_row_22 ?_
    exact wt_iret hx hb hr hlocks hP hD hS (by simp [c_3]) dX5_row_24
  · skip
    refine lv_iload_n hx hb dX5_row_7 rfl (lv_at hl 2 rfl) ?_
    refine lv_iconst (v := 0) hx hb dX5_row_8 (by decide) ?_
    refine lv_iconst (v := 2) hx hb dX5_row_9 (by decide) ?_
    refine wt_rS (As := [.int a2, .int 0, .int 2]) (rest := []) ⟨hx, hb, hml, hown, hts⟩ (c_X5_within l D cI cZ cH a2 0 2) (va_cwS 3 hts gX5_row_X5_within rfl rfl rfl (by decide +kernel) ⟨Nat.le_of_ble_eq_true rfl, Nat.le_of_ble_eq_true rfl⟩) hK hP [] rfl rfl hl.1 rfl (Nat.le_of_ble_eq_true rfl) dX5_row_10 ⟨Nat.le_of_ble_eq_true rfl, Nat.le_of_ble_eq_true rfl⟩ (fun r_4 e_5 => ?_)
    subst e_5
    refine lv_if_eq (tgt := 22) hx hb dX5_row_13 (by decide) (fun c_6 => ?_) (fun c_6 => ?_)
    · skip
      refine lv_ldc hx hb hown wc70 dX5_row_22 ?_
      exact wt_iret hx hb hr hlocks hP hD hS (by simp [c_3, c_6]) dX5_row_24
    · skip
      refine lv_iload_n hx hb dX5_row_16 rfl (lv_at hl 3 rfl) ?_
      refine lv_bipush (v := 40) hx hb dX5_row_17 (by decide) ?_
      refine lv_icmp_le (tgt := 25) hx hb dX5_row_19 (by decide) (fun c_7 => ?_) (fun c_7 => ?_)
      · skip
        refine lv_iload_n hx hb dX5_row_25 rfl (lv_at hl 3 rfl) ?_
        refine lv_if_ge (tgt := 35) hx hb dX5_row_26 (by decide) (fun c_8 => ?_) (fun c_8 => ?_)
        · skip
          refine lv_aload_n hx hb dX5_row_35 rfl (lv_at hl 0 rfl) ?_
          refine va_get (D := D) (ci := 5) (v := .ref rw) (C := RX5) (T := TX5) (N := 10) hx hb hts hi5 hown hK.1 hP 0 rfl rfl 0 (by decide) wf10 (fun _ h9 => h9) rfl dX5_row_36 ?_
          refine lv_iload_n hx hb dX5_row_39 rfl (lv_at hl 1 rfl) ?_
          refine lv_iload_n hx hb dX5_row_40 rfl (lv_at hl 2 rfl) ?_
          refine lv_iload_n hx hb dX5_row_41 rfl (lv_at hl 3 rfl) ?_
          refine wt_goV (wr := [(x, .inr (5, [.ref rw, x_1, x_2, x_3, x_4, x_5, x_6, x_7, x_8, x_9]))]) (wt_runV (As := [.int a1, .int a2, .int a3]) (rest := []) ⟨hx, hb, hml, hown, hts⟩ (c_X2_lay l D cI cZ cH rw ln sz it lf sf tf a1 a2 a3 (wI_in (N := 8) rfl c_3)) (cwV 3 hts gX5_row_X2_lay rfl rfl rfl (by decide +kernel) ⟨Nat.le_of_ble_eq_true rfl, Nat.le_of_ble_eq_true rfl⟩) hK hP hD [1, 2, 3, 4] rfl (by decide) (va_recv hK.1 hP (ci := 2) (q0 := 1) rfl rfl) rfl hl.1 rfl (Nat.le_of_ble_eq_true rfl) dX5_row_42 ⟨Nat.le_of_ble_eq_true rfl, Nat.le_of_ble_eq_true rfl⟩) hP hD hS hA [1, 2, 3, 4] [0] rfl rfl (by decide) (by decide) (fun w_10 H locs h_11 hP hD hS => ?_)
          obtain - := h_11
          have hP := hP.sub (ws' := [(x, .inr (5, [.ref rw, x_1, x_2, x_3, x_4, x_5, x_6, x_7, x_8, x_9]))]) [0] rfl
          have hD := hD.sub (ws' := [(x, .inr (5, [.ref rw, x_1, x_2, x_3, x_4, x_5, x_6, x_7, x_8, x_9]))]) [0] (by decide) rfl
          refine lv_aload_n hx hb dX5_row_45 rfl (lv_at hl 0 rfl) ?_
          refine lv_iload_n hx hb dX5_row_46 rfl (lv_at hl 3 rfl) ?_
          refine wt_goI (wr := []) (wt_runV (As := [.int a3]) (rest := []) ⟨hx, hb, hml, hown, hts⟩ (c_X5_plain l D cI cZ cH x a3 (.ref rw) x_1 x_2 x_3 x_4 x_5 x_6 x_7 x_8 x_9) (cwV 1 hts gX5_row_X5_plain rfl rfl rfl (by decide +kernel) ⟨Nat.le_of_ble_eq_true rfl, Nat.le_of_ble_eq_true rfl⟩) hK hP hD [0] rfl (by decide) (va_recv hK.1 hP (ci := 5) (q0 := 0) rfl rfl) rfl hl.1 rfl (Nat.le_of_ble_eq_true rfl) dX5_row_47 ⟨Nat.le_of_ble_eq_true rfl, Nat.le_of_ble_eq_true rfl⟩) hP hD hS hA [0] [] rfl rfl (by decide) (by decide) (fun r_12 w_13 H locs h_14 hP hD hS => ?_)
          obtain rfl := h_14
          have hP := hP.sub (ws' := []) [] rfl
          have hD := hD.sub (ws' := []) [] (by decide) rfl
          exact wt_iret hx hb hr hlocks hP hD hS (by simp [c_3, c_6, c_7, c_8]) dX5_row_50
        · skip
          refine lv_aload_n hx hb dX5_row_29 rfl (lv_at hl 0 rfl) ?_
          refine lv_iconst (v := 4) hx hb dX5_row_30 (by decide) ?_
          refine wt_goI (wr := [(rw, .inr (2, [.ref ln, .ref sz, .ref it])), (ln, .inl (cI, 8, .inl lf)), (sz, .inl (cI, 8, .inl sf)), (it, .inl (cI, 320, .inl tf))]) (wt_runV (As := [.int 4]) (rest := []) ⟨hx, hb, hml, hown, hts⟩ (c_X5_found l D cI cZ cH x 4 (.ref rw) x_1 x_2 x_3 x_4 x_5 x_6 x_7 x_8 x_9) (cwV 1 hts gX5_row_X5_found rfl rfl rfl (by decide +kernel) ⟨Nat.le_of_ble_eq_true rfl, Nat.le_of_ble_eq_true rfl⟩) hK hP hD [0] rfl (by decide) (va_recv hK.1 hP (ci := 5) (q0 := 0) rfl rfl) rfl hl.1 rfl (Nat.le_of_ble_eq_true rfl) dX5_row_31 ⟨Nat.le_of_ble_eq_true rfl, Nat.le_of_ble_eq_true rfl⟩) hP hD hS hA [0] [1, 2, 3, 4] rfl rfl (by decide) (by decide) (fun r_15 w_16 H locs h_17 hP hD hS => ?_)
          obtain rfl := h_17
          have hP := hP.sub (ws' := [(rw, .inr (2, [.ref ln, .ref sz, .ref it])), (ln, .inl (cI, 8, .inl lf)), (sz, .inl (cI, 8, .inl sf)), (it, .inl (cI, 320, .inl tf))]) [0, 1, 2, 3] rfl
          have hD := hD.sub (ws' := [(rw, .inr (2, [.ref ln, .ref sz, .ref it])), (ln, .inl (cI, 8, .inl lf)), (sz, .inl (cI, 8, .inl sf)), (it, .inl (cI, 320, .inl tf))]) [0, 1, 2, 3] (by decide) rfl
          refine wt_top (z := (-1000014)) (by decide) ?_
          exact wt_iret hx hb hr hlocks hP hD hS (by simp [c_3, c_6, c_7, c_8]) dX5_row_34
      · skip
        refine lv_ldc hx hb hown wc70 dX5_row_22 ?_
        exact wt_iret hx hb hr hlocks hP hD hS (by simp [c_3, c_6, c_7]) dX5_row_24
set_option maxHeartbeats 4000000 in
set_option maxRecDepth 100000 in
theorem c_X5_set (l : Launch) (D : va_G) (cI cZ cH : ClassId) (x rw ln : Nat) (lf : Nat → Int32) (a1 a2 a3 : Int32) (x_1 x_2 x_3 x_4 x_5 x_6 x_7 x_8 x_9 r_1 r_2 : Value) (hl8 : ∀ j, j < 8 → lf j = -1) : wt_M l yX5_set wsX5_set ({ frames := 2, cells := 0, slots := 0, locals := 44 } : Room) D (wt_T cI cZ cH) [.ref x, .int a1, .int a2, .int a3] [(x, .inr (5, [.ref rw, x_1, x_2, x_3, x_4, x_5, x_6, x_7, x_8, x_9])), (rw, .inr (2, [.ref ln, r_1, r_2])), (ln, .inl (cI, 8, .inl lf))] (wt_QI D (fun r w => r = (if wI a1 0 7 = 0 then (-1000001) else (-1000011)))) := by
  refine wt_M.ofW (cc := cX5_set) (maxL := 5) (ret := (some .int)) (by decide) rfl (Nat.le_of_ble_eq_true rfl) ?_
  intro p e s m below meth c A ls hx hb hr hts hown hlocks hml hnm hP hK hD hA hS hl
  have hP : va_P D vwCl [(x, .inr (5, [.ref rw, x_1, x_2, x_3, x_4, x_5, x_6, x_7, x_8, x_9])), (rw, .inr (2, [.ref ln, r_1, r_2])), (ln, .inl (cI, 8, .inl lf))] s.heap := hP
  have hown : s.vm.findClass RX5 = some m.cls := hown
  have hl : lv_has ls 5 [(0, .ref x), (1, .int a1), (2, .int a2), (3, .int a3)] := hl
  have hi5 : ∀ w ∈ u_ws RX5 TX5 10, w ∈ wsX5_set := by decide +kernel
  have wc70 := hts (.constant RX5 70 (-1000001)) (by decide +kernel)
  have wf10 := hts (.fieldLink RX5 10 "WarmTubes" "rows" "LWarmTubes$Rows;") (by decide +kernel)
  refine lv_iload_n hx hb dX5_set_0 rfl (lv_at hl 1 rfl) ?_
  refine wt_rS (As := [.int a1]) (rest := []) ⟨hx, hb, hml, hown, hts⟩ (c_X5_isRow l D cI cZ cH a1) (va_cwS 1 hts gX5_set_X5_isRow rfl rfl rfl (by decide +kernel) ⟨Nat.le_of_ble_eq_true rfl, Nat.le_of_ble_eq_true rfl⟩) hK hP [] rfl rfl hl.1 rfl (Nat.le_of_ble_eq_true rfl) dX5_set_1 ⟨Nat.le_of_ble_eq_true rfl, Nat.le_of_ble_eq_true rfl⟩ (fun r_1 e_2 => ?_)
  subst e_2
  refine lv_if_ne (tgt := 10) hx hb dX5_set_4 (by decide) (fun c_3 => ?_) (fun c_3 => ?_)
  · skip
    refine lv_aload_n hx hb dX5_set_10 rfl (lv_at hl 0 rfl) ?_
    refine va_get (D := D) (ci := 5) (v := .ref rw) (C := RX5) (T := TX5) (N := 10) hx hb hts hi5 hown hK.1 hP 0 rfl rfl 0 (by decide) wf10 (fun _ h9 => h9) rfl dX5_set_11 ?_
    refine lv_iload_n hx hb dX5_set_14 rfl (lv_at hl 1 rfl) ?_
    refine lv_iload_n hx hb dX5_set_15 rfl (lv_at hl 2 rfl) ?_
    refine lv_iconst (v := 1) hx hb dX5_set_16 (by decide) ?_
    refine wt_rV (As := [.int a1, .int a2, .int 1]) (rest := []) ⟨hx, hb, hml, hown, hts⟩ (c_X2_reach l D cI cZ cH rw ln lf a1 a2 1 r_1 r_2 (wI_in (N := 8) rfl c_3) hl8) (cwV 3 hts gX5_set_X2_reach rfl rfl rfl (by decide +kernel) ⟨Nat.le_of_ble_eq_true rfl, Nat.le_of_ble_eq_true rfl⟩) hK hP [1, 2] rfl (va_recv hK.1 hP (ci := 2) (q0 := 1) rfl rfl) rfl hl.1 rfl (Nat.le_of_ble_eq_true rfl) dX5_set_17 ⟨Nat.le_of_ble_eq_true rfl, Nat.le_of_ble_eq_true rfl⟩ (fun r_4 e_5 => ?_)
    subst e_5
    refine lv_istore (lv' := [(4, .int 1), (0, .ref x), (1, .int a1), (2, .int a2), (3, .int a3)]) hx hb dX5_set_20 hl (by decide) rfl (fun ls hl => ?_)
    refine lv_iload hx hb dX5_set_22 (lv_at hl 0 rfl) ?_
    refine lv_if_eq (tgt := 34) hx hb dX5_set_24 (by decide) (fun h => absurd h (by decide)) (fun _ => ?_)
    refine lv_aload_n hx hb dX5_set_27 rfl (lv_at hl 1 rfl) ?_
    refine lv_iload hx hb dX5_set_28 (lv_at hl 0 rfl) ?_
    refine wt_goI (wr := [(rw, .inr (2, [.ref ln, r_1, r_2])), (ln, .inl (cI, 8, .inl lf))]) (wt_runV (As := [.int 1]) (rest := []) ⟨hx, hb, hml, hown, hts⟩ (c_X5_found l D cI cZ cH x 1 (.ref rw) x_1 x_2 x_3 x_4 x_5 x_6 x_7 x_8 x_9) (cwV 1 hts gX5_set_X5_found rfl rfl rfl (by decide +kernel) ⟨Nat.le_of_ble_eq_true rfl, Nat.le_of_ble_eq_true rfl⟩) hK hP hD [0] rfl (by decide) (va_recv hK.1 hP (ci := 5) (q0 := 0) rfl rfl) rfl hl.1 rfl (Nat.le_of_ble_eq_true rfl) dX5_set_30 ⟨Nat.le_of_ble_eq_true rfl, Nat.le_of_ble_eq_true rfl⟩) hP hD hS hA [0] [1, 2] rfl rfl (by decide) (by decide) (fun r_6 w_7 H locs h_8 hP hD hS => ?_)
    obtain rfl := h_8
    have hP := hP.sub (ws' := [(rw, .inr (2, [.ref ln, r_1, r_2])), (ln, .inl (cI, 8, .inl lf))]) [0, 1] rfl
    have hD := hD.sub (ws' := [(rw, .inr (2, [.ref ln, r_1, r_2])), (ln, .inl (cI, 8, .inl lf))]) [0, 1] (by decide) rfl
    refine wt_top (z := (-1000011)) (by decide) ?_
    exact wt_iret hx hb hr hlocks hP hD hS (by simp [c_3]) dX5_set_33
  · skip
    refine lv_ldc hx hb hown wc70 dX5_set_7 ?_
    exact wt_iret hx hb hr hlocks hP hD hS (by simp [c_3]) dX5_set_9
set_option maxHeartbeats 4000000 in
set_option maxRecDepth 100000 in
theorem c_X5_copy (l : Launch) (D : va_G) (cI cZ cH : ClassId) (x rw ln : Nat) (lf : Nat → Int32) (a1 a2 a3 a4 a5 : Int32) (x_1 x_2 x_3 x_4 x_5 x_6 x_7 x_8 x_9 r_1 r_2 : Value) (hl8 : ∀ j, j < 8 → lf j = -1) : wt_M l yX5_copy wsX5_copy ({ frames := 2, cells := 0, slots := 0, locals := 42 } : Room) D (wt_T cI cZ cH) [.ref x, .int a1, .int a2, .int a3, .int a4, .int a5] [(x, .inr (5, [.ref rw, x_1, x_2, x_3, x_4, x_5, x_6, x_7, x_8, x_9])), (rw, .inr (2, [.ref ln, r_1, r_2])), (ln, .inl (cI, 8, .inl lf))] (wt_QI D (fun r w => r = (if wI a1 0 7 = 0 then (-1000001) else if wI a3 0 7 = 0 then (-1000001) else (-1000011)))) := by
  refine wt_M.ofW (cc := cX5_copy) (maxL := 6) (ret := (some .int)) (by decide) rfl (Nat.le_of_ble_eq_true rfl) ?_
  intro p e s m below meth c A ls hx hb hr hts hown hlocks hml hnm hP hK hD hA hS hl
  have hP : va_P D vwCl [(x, .inr (5, [.ref rw, x_1, x_2, x_3, x_4, x_5, x_6, x_7, x_8, x_9])), (rw, .inr (2, [.ref ln, r_1, r_2])), (ln, .inl (cI, 8, .inl lf))] s.heap := hP
  have hown : s.vm.findClass RX5 = some m.cls := hown
  have hl : lv_has ls 6 [(0, .ref x), (1, .int a1), (2, .int a2), (3, .int a3), (4, .int a4), (5, .int a5)] := hl
  have hi5 : ∀ w ∈ u_ws RX5 TX5 10, w ∈ wsX5_copy := by decide +kernel
  have wc70 := hts (.constant RX5 70 (-1000001)) (by decide +kernel)
  have wf10 := hts (.fieldLink RX5 10 "WarmTubes" "rows" "LWarmTubes$Rows;") (by decide +kernel)
  refine lv_iload_n hx hb dX5_copy_0 rfl (lv_at hl 1 rfl) ?_
  refine wt_rS (As := [.int a1]) (rest := []) ⟨hx, hb, hml, hown, hts⟩ (c_X5_isRow l D cI cZ cH a1) (va_cwS 1 hts gX5_copy_X5_isRow rfl rfl rfl (by decide +kernel) ⟨Nat.le_of_ble_eq_true rfl, Nat.le_of_ble_eq_true rfl⟩) hK hP [] rfl rfl hl.1 rfl (Nat.le_of_ble_eq_true rfl) dX5_copy_1 ⟨Nat.le_of_ble_eq_true rfl, Nat.le_of_ble_eq_true rfl⟩ (fun r_1 e_2 => ?_)
  subst e_2
  refine lv_if_eq (tgt := 14) hx hb dX5_copy_4 (by decide) (fun c_3 => ?_) (fun c_3 => ?_)
  · skip
    refine lv_ldc hx hb hown wc70 dX5_copy_14 ?_
    exact wt_iret hx hb hr hlocks hP hD hS (by simp [c_3]) dX5_copy_16
  · skip
    refine lv_iload_n hx hb dX5_copy_7 rfl (lv_at hl 3 rfl) ?_
    refine wt_rS (As := [.int a3]) (rest := []) ⟨hx, hb, hml, hown, hts⟩ (c_X5_isRow l D cI cZ cH a3) (va_cwS 1 hts gX5_copy_X5_isRow rfl rfl rfl (by decide +kernel) ⟨Nat.le_of_ble_eq_true rfl, Nat.le_of_ble_eq_true rfl⟩) hK hP [] rfl rfl hl.1 rfl (Nat.le_of_ble_eq_true rfl) dX5_copy_8 ⟨Nat.le_of_ble_eq_true rfl, Nat.le_of_ble_eq_true rfl⟩ (fun r_4 e_5 => ?_)
    subst e_5
    refine lv_if_ne (tgt := 17) hx hb dX5_copy_11 (by decide) (fun c_6 => ?_) (fun c_6 => ?_)
    · skip
      refine lv_aload_n hx hb dX5_copy_17 rfl (lv_at hl 0 rfl) ?_
      refine va_get (D := D) (ci := 5) (v := .ref rw) (C := RX5) (T := TX5) (N := 10) hx hb hts hi5 hown hK.1 hP 0 rfl rfl 0 (by decide) wf10 (fun _ h9 => h9) rfl dX5_copy_18 ?_
      refine lv_iload_n hx hb dX5_copy_21 rfl (lv_at hl 1 rfl) ?_
      refine wt_rV (As := [.int a1]) (rest := []) ⟨hx, hb, hml, hown, hts⟩ (c_X2_isMissing l D cI cZ cH rw ln lf a1 r_1 r_2 (wI_in (N := 8) rfl c_3) hl8) (cwV 1 hts gX5_copy_X2_isMissing rfl rfl rfl (by decide +kernel) ⟨Nat.le_of_ble_eq_true rfl, Nat.le_of_ble_eq_true rfl⟩) hK hP [1, 2] rfl (va_recv hK.1 hP (ci := 2) (q0 := 1) rfl rfl) rfl hl.1 rfl (Nat.le_of_ble_eq_true rfl) dX5_copy_22 ⟨Nat.le_of_ble_eq_true rfl, Nat.le_of_ble_eq_true rfl⟩ (fun r_7 e_8 => ?_)
      subst e_8
      refine lv_if_ne (tgt := 39) hx hb dX5_copy_25 (by decide) (fun _ => ?_) (fun h => absurd h (by decide))
      refine lv_aload_n hx hb dX5_copy_39 rfl (lv_at hl 0 rfl) ?_
      refine lv_iconst (v := 1) hx hb dX5_copy_40 (by decide) ?_
      refine wt_goI (wr := [(rw, .inr (2, [.ref ln, r_1, r_2])), (ln, .inl (cI, 8, .inl lf))]) (wt_runV (As := [.int 1]) (rest := []) ⟨hx, hb, hml, hown, hts⟩ (c_X5_found l D cI cZ cH x 1 (.ref rw) x_1 x_2 x_3 x_4 x_5 x_6 x_7 x_8 x_9) (cwV 1 hts gX5_copy_X5_found rfl rfl rfl (by decide +kernel) ⟨Nat.le_of_ble_eq_true rfl, Nat.le_of_ble_eq_true rfl⟩) hK hP hD [0] rfl (by decide) (va_recv hK.1 hP (ci := 5) (q0 := 0) rfl rfl) rfl hl.1 rfl (Nat.le_of_ble_eq_true rfl) dX5_copy_41 ⟨Nat.le_of_ble_eq_true rfl, Nat.le_of_ble_eq_true rfl⟩) hP hD hS hA [0] [1, 2] rfl rfl (by decide) (by decide) (fun r_9 w_10 H locs h_11 hP hD hS => ?_)
      obtain rfl := h_11
      have hP := hP.sub (ws' := [(rw, .inr (2, [.ref ln, r_1, r_2])), (ln, .inl (cI, 8, .inl lf))]) [0, 1] rfl
      have hD := hD.sub (ws' := [(rw, .inr (2, [.ref ln, r_1, r_2])), (ln, .inl (cI, 8, .inl lf))]) [0, 1] (by decide) rfl
      refine wt_top (z := (-1000011)) (by decide) ?_
      exact wt_iret hx hb hr hlocks hP hD hS (by simp [c_3, c_6]) dX5_copy_44
    · skip
      refine lv_ldc hx hb hown wc70 dX5_copy_14 ?_
      exact wt_iret hx hb hr hlocks hP hD hS (by simp [c_3, c_6]) dX5_copy_16
set_option maxHeartbeats 4000000 in
set_option maxRecDepth 100000 in
theorem c_X5_drop (l : Launch) (D : va_G) (cI cZ cH : ClassId) (x rw ln : Nat) (lf : Nat → Int32) (a1 : Int32) (x_1 x_2 x_3 x_4 x_5 x_6 x_7 x_8 x_9 r_1 r_2 : Value) (hl8 : ∀ j, j < 8 → lf j = -1) : wt_M l yX5_drop wsX5_drop ({ frames := 2, cells := 0, slots := 0, locals := 42 } : Room) D (wt_T cI cZ cH) [.ref x, .int a1] [(x, .inr (5, [.ref rw, x_1, x_2, x_3, x_4, x_5, x_6, x_7, x_8, x_9])), (rw, .inr (2, [.ref ln, r_1, r_2])), (ln, .inl (cI, 8, .inl lf))] (wt_QI D (fun r w => r = (if wI a1 0 7 = 0 then (-1000001) else (-1000011)))) := by
  refine wt_M.ofW (cc := cX5_drop) (maxL := 3) (ret := (some .int)) (by decide) rfl (Nat.le_of_ble_eq_true rfl) ?_
  intro p e s m below meth c A ls hx hb hr hts hown hlocks hml hnm hP hK hD hA hS hl
  have hP : va_P D vwCl [(x, .inr (5, [.ref rw, x_1, x_2, x_3, x_4, x_5, x_6, x_7, x_8, x_9])), (rw, .inr (2, [.ref ln, r_1, r_2])), (ln, .inl (cI, 8, .inl lf))] s.heap := hP
  have hown : s.vm.findClass RX5 = some m.cls := hown
  have hl : lv_has ls 3 [(0, .ref x), (1, .int a1)] := hl
  have hi5 : ∀ w ∈ u_ws RX5 TX5 10, w ∈ wsX5_drop := by decide +kernel
  have wc70 := hts (.constant RX5 70 (-1000001)) (by decide +kernel)
  have wf10 := hts (.fieldLink RX5 10 "WarmTubes" "rows" "LWarmTubes$Rows;") (by decide +kernel)
  refine lv_iload_n hx hb dX5_drop_0 rfl (lv_at hl 1 rfl) ?_
  refine wt_rS (As := [.int a1]) (rest := []) ⟨hx, hb, hml, hown, hts⟩ (c_X5_isRow l D cI cZ cH a1) (va_cwS 1 hts gX5_drop_X5_isRow rfl rfl rfl (by decide +kernel) ⟨Nat.le_of_ble_eq_true rfl, Nat.le_of_ble_eq_true rfl⟩) hK hP [] rfl rfl hl.1 rfl (Nat.le_of_ble_eq_true rfl) dX5_drop_1 ⟨Nat.le_of_ble_eq_true rfl, Nat.le_of_ble_eq_true rfl⟩ (fun r_1 e_2 => ?_)
  subst e_2
  refine lv_if_ne (tgt := 10) hx hb dX5_drop_4 (by decide) (fun c_3 => ?_) (fun c_3 => ?_)
  · skip
    refine lv_aload_n hx hb dX5_drop_10 rfl (lv_at hl 0 rfl) ?_
    refine va_get (D := D) (ci := 5) (v := .ref rw) (C := RX5) (T := TX5) (N := 10) hx hb hts hi5 hown hK.1 hP 0 rfl rfl 0 (by decide) wf10 (fun _ h9 => h9) rfl dX5_drop_11 ?_
    refine lv_iload_n hx hb dX5_drop_14 rfl (lv_at hl 1 rfl) ?_
    refine wt_rV (As := [.int a1]) (rest := []) ⟨hx, hb, hml, hown, hts⟩ (c_X2_isMissing l D cI cZ cH rw ln lf a1 r_1 r_2 (wI_in (N := 8) rfl c_3) hl8) (cwV 1 hts gX5_drop_X2_isMissing rfl rfl rfl (by decide +kernel) ⟨Nat.le_of_ble_eq_true rfl, Nat.le_of_ble_eq_true rfl⟩) hK hP [1, 2] rfl (va_recv hK.1 hP (ci := 2) (q0 := 1) rfl rfl) rfl hl.1 rfl (Nat.le_of_ble_eq_true rfl) dX5_drop_15 ⟨Nat.le_of_ble_eq_true rfl, Nat.le_of_ble_eq_true rfl⟩ (fun r_4 e_5 => ?_)
    subst e_5
    refine lv_if_eq (tgt := 27) hx hb dX5_drop_18 (by decide) (fun h => absurd h (by decide)) (fun _ => ?_)
    refine lv_aload_n hx hb dX5_drop_21 rfl (lv_at hl 0 rfl) ?_
    refine lv_iconst (v := 1) hx hb dX5_drop_22 (by decide) ?_
    refine wt_goI (wr := [(rw, .inr (2, [.ref ln, r_1, r_2])), (ln, .inl (cI, 8, .inl lf))]) (wt_runV (As := [.int 1]) (rest := []) ⟨hx, hb, hml, hown, hts⟩ (c_X5_found l D cI cZ cH x 1 (.ref rw) x_1 x_2 x_3 x_4 x_5 x_6 x_7 x_8 x_9) (cwV 1 hts gX5_drop_X5_found rfl rfl rfl (by decide +kernel) ⟨Nat.le_of_ble_eq_true rfl, Nat.le_of_ble_eq_true rfl⟩) hK hP hD [0] rfl (by decide) (va_recv hK.1 hP (ci := 5) (q0 := 0) rfl rfl) rfl hl.1 rfl (Nat.le_of_ble_eq_true rfl) dX5_drop_23 ⟨Nat.le_of_ble_eq_true rfl, Nat.le_of_ble_eq_true rfl⟩) hP hD hS hA [0] [1, 2] rfl rfl (by decide) (by decide) (fun r_6 w_7 H locs h_8 hP hD hS => ?_)
    obtain rfl := h_8
    have hP := hP.sub (ws' := [(rw, .inr (2, [.ref ln, r_1, r_2])), (ln, .inl (cI, 8, .inl lf))]) [0, 1] rfl
    have hD := hD.sub (ws' := [(rw, .inr (2, [.ref ln, r_1, r_2])), (ln, .inl (cI, 8, .inl lf))]) [0, 1] (by decide) rfl
    refine wt_top (z := (-1000011)) (by decide) ?_
    exact wt_iret hx hb hr hlocks hP hD hS (by simp [c_3]) dX5_drop_26
  · skip
    refine lv_ldc hx hb hown wc70 dX5_drop_7 ?_
    exact wt_iret hx hb hr hlocks hP hD hS (by simp [c_3]) dX5_drop_9
set_option maxHeartbeats 4000000 in
set_option maxRecDepth 100000 in
theorem c_X5_feed (l : Launch) (D : va_G) (cI cZ cH : ClassId) (x tp bt : Nat) (bf : Nat → Int32) (a1 : Int32) (x_0 x_2 x_3 x_4 x_5 x_6 x_7 x_8 x_9 t_2 t_3 t_4 : Value) : wt_M l yX5_feed wsX5_feed ({ frames := 1, cells := 0, slots := 0, locals := 22 } : Room) D (wt_T cI cZ cH) [.ref x, .int a1] [(x, .inr (5, [x_0, .ref tp, x_2, x_3, x_4, x_5, x_6, x_7, x_8, x_9])), (tp, .inr (3, [.ref bt, .int 0, t_2, t_3, t_4])), (bt, .inl (cI, 120, .inl bf))] (wt_QI D (fun r w => r = (if wI a1 0 255 = 0 then (-1000001) else 1))) := by
  refine wt_M.ofW (cc := cX5_feed) (maxL := 2) (ret := (some .int)) (by decide) rfl (Nat.le_of_ble_eq_true rfl) ?_
  intro p e s m below meth c A ls hx hb hr hts hown hlocks hml hnm hP hK hD hA hS hl
  have hP : va_P D vwCl [(x, .inr (5, [x_0, .ref tp, x_2, x_3, x_4, x_5, x_6, x_7, x_8, x_9])), (tp, .inr (3, [.ref bt, .int 0, t_2, t_3, t_4])), (bt, .inl (cI, 120, .inl bf))] s.heap := hP
  have hown : s.vm.findClass RX5 = some m.cls := hown
  have hl : lv_has ls 2 [(0, .ref x), (1, .int a1)] := hl
  have hi3 : ∀ w ∈ u_ws RX3 TX3 5, w ∈ wsX5_feed := by decide +kernel
  have hi5 : ∀ w ∈ u_ws RX5 TX5 10, w ∈ wsX5_feed := by decide +kernel
  have wc70 := hts (.constant RX5 70 (-1000001)) (by decide +kernel)
  have wf115 := hts (.fieldLink RX5 115 "WarmTubes$Tape" "length" "I") (by decide +kernel)
  have wf119 := hts (.fieldLink RX5 119 "WarmTubes$Tape" "bytes" "[I") (by decide +kernel)
  have wf19 := hts (.fieldLink RX5 19 "WarmTubes" "tape" "LWarmTubes$Tape;") (by decide +kernel)
  refine lv_iload_n hx hb dX5_feed_0 rfl (lv_at hl 1 rfl) ?_
  refine lv_iconst (v := 0) hx hb dX5_feed_1 (by decide) ?_
  refine lv_sipush (v := 255) hx hb dX5_feed_2 (by decide) ?_
  refine wt_rS (As := [.int a1, .int 0, .int 255]) (rest := []) ⟨hx, hb, hml, hown, hts⟩ (c_X5_within l D cI cZ cH a1 0 255) (va_cwS 3 hts gX5_feed_X5_within rfl rfl rfl (by decide +kernel) ⟨Nat.le_of_ble_eq_true rfl, Nat.le_of_ble_eq_true rfl⟩) hK hP [] rfl rfl hl.1 rfl (Nat.le_of_ble_eq_true rfl) dX5_feed_5 ⟨Nat.le_of_ble_eq_true rfl, Nat.le_of_ble_eq_true rfl⟩ (fun r_1 e_2 => ?_)
  subst e_2
  refine lv_if_ne (tgt := 14) hx hb dX5_feed_8 (by decide) (fun c_3 => ?_) (fun c_3 => ?_)
  · skip
    refine lv_aload_n hx hb dX5_feed_14 rfl (lv_at hl 0 rfl) ?_
    refine va_get (D := D) (ci := 5) (v := .ref tp) (C := RX5) (T := TX5) (N := 10) hx hb hts hi5 hown hK.1 hP 0 rfl rfl 1 (by decide) wf19 (fun _ h9 => h9) rfl dX5_feed_15 ?_
    refine va_get (D := D) (ci := 3) (v := .int 0) (C := RX3) (T := TX3) (N := 5) hx hb hts hi3 hown hK.1 hP 1 rfl rfl 1 (by decide) wf115 (fun _ h9 => h9) rfl dX5_feed_18 ?_
    refine lv_bipush (v := 120) hx hb dX5_feed_21 (by decide) ?_
    refine lv_icmp_lt (tgt := 29) hx hb dX5_feed_23 (by decide) (fun _ => ?_) (fun h => absurd h (by decide))
    refine lv_aload_n hx hb dX5_feed_29 rfl (lv_at hl 0 rfl) ?_
    refine va_get (D := D) (ci := 5) (v := .ref tp) (C := RX5) (T := TX5) (N := 10) hx hb hts hi5 hown hK.1 hP 0 rfl rfl 1 (by decide) wf19 (fun _ h9 => h9) rfl dX5_feed_30 ?_
    refine va_get (D := D) (ci := 3) (v := .ref bt) (C := RX3) (T := TX3) (N := 5) hx hb hts hi3 hown hK.1 hP 1 rfl rfl 0 (by decide) wf119 (fun _ h9 => h9) rfl dX5_feed_33 ?_
    refine lv_aload_n hx hb dX5_feed_36 rfl (lv_at hl 0 rfl) ?_
    refine va_get (D := D) (ci := 5) (v := .ref tp) (C := RX5) (T := TX5) (N := 10) hx hb hts hi5 hown hK.1 hP 0 rfl rfl 1 (by decide) wf19 (fun _ h9 => h9) rfl dX5_feed_37 ?_
    refine va_get (D := D) (ci := 3) (v := .int 0) (C := RX3) (T := TX3) (N := 5) hx hb hts hi3 hown hK.1 hP 1 rfl rfl 1 (by decide) wf115 (fun _ h9 => h9) rfl dX5_feed_40 ?_
    refine lv_iload_n hx hb dX5_feed_43 rfl (lv_at hl 1 rfl) ?_
    refine va_iast hx hb hK.1 hP hD hS 2 0 rfl rfl (by rw [vp_in_iff]; decide) dX5_feed_44 (fun H locs hP hD hS => ?_)
    have hP : va_P D vwCl [(x, .inr (5, [x_0, .ref tp, x_2, x_3, x_4, x_5, x_6, x_7, x_8, x_9])), (tp, .inr (3, [.ref bt, .int 0, t_2, t_3, t_4])), (bt, .inl (cI, 120, .inl (upd bf (Int32.toNatClampNeg 0) a1)))] H := hP
    have hD : va_D A [(x, .inr (5, [x_0, .ref tp, x_2, x_3, x_4, x_5, x_6, x_7, x_8, x_9])), (tp, .inr (3, [.ref bt, .int 0, t_2, t_3, t_4])), (bt, .inl (cI, 120, .inl (upd bf (Int32.toNatClampNeg 0) a1)))] := hD
    refine lv_aload_n hx hb dX5_feed_45 rfl (lv_at hl 0 rfl) ?_
    refine va_get (D := D) (ci := 5) (v := .ref tp) (C := RX5) (T := TX5) (N := 10) hx hb hts hi5 hown hK.1 hP 0 rfl rfl 1 (by decide) wf19 (fun _ h9 => h9) rfl dX5_feed_46 ?_
    refine lv_dup hx hb dX5_feed_49 rfl ?_
    refine va_get (D := D) (ci := 3) (v := .int 0) (C := RX3) (T := TX3) (N := 5) hx hb hts hi3 hown hK.1 hP 1 rfl rfl 1 (by decide) wf115 (fun _ h9 => h9) rfl dX5_feed_50 ?_
    refine lv_iconst (v := 1) hx hb dX5_feed_53 (by decide) ?_
    refine lv_iadd hx hb dX5_feed_54 ?_
    refine wt_top (z := 1) (by decide) ?_
    refine va_put (D := D) (ci := 3) (v := .int 1) (ty := .int) (C := RX3) (T := TX3) (N := 5) hx hb hts hi3 tyX3 tyX3_ok nmX3 hown hK.1 hP hD hS 1 rfl rfl 1 (by decide) wf115 (fun _ h9 => h9) rfl (by decide +kernel) rfl rfl (Nat.le_of_ble_eq_true rfl) dX5_feed_55 (fun H locs hP hD hS => ?_)
    have hP : va_P D vwCl [(x, .inr (5, [x_0, .ref tp, x_2, x_3, x_4, x_5, x_6, x_7, x_8, x_9])), (tp, .inr (3, [.ref bt, .int 1, t_2, t_3, t_4])), (bt, .inl (cI, 120, .inl (upd bf (Int32.toNatClampNeg 0) a1)))] H := hP
    have hD : va_D A [(x, .inr (5, [x_0, .ref tp, x_2, x_3, x_4, x_5, x_6, x_7, x_8, x_9])), (tp, .inr (3, [.ref bt, .int 1, t_2, t_3, t_4])), (bt, .inl (cI, 120, .inl (upd bf (Int32.toNatClampNeg 0) a1)))] := hD
    refine lv_aload_n hx hb dX5_feed_58 rfl (lv_at hl 0 rfl) ?_
    refine va_get (D := D) (ci := 5) (v := .ref tp) (C := RX5) (T := TX5) (N := 10) hx hb hts hi5 hown hK.1 hP 0 rfl rfl 1 (by decide) wf19 (fun _ h9 => h9) rfl dX5_feed_59 ?_
    refine va_get (D := D) (ci := 3) (v := .int 1) (C := RX3) (T := TX3) (N := 5) hx hb hts hi3 hown hK.1 hP 1 rfl rfl 1 (by decide) wf115 (fun _ h9 => h9) rfl dX5_feed_62 ?_
    exact wt_iret hx hb hr hlocks hP hD hS (by simp [c_3]) dX5_feed_65
  · skip
    refine lv_ldc hx hb hown wc70 dX5_feed_11 ?_
    exact wt_iret hx hb hr hlocks hP hD hS (by simp [c_3]) dX5_feed_13
set_option maxHeartbeats 4000000 in
set_option maxRecDepth 100000 in
theorem c_X3_peek (l : Launch) (D : va_G) (cI cZ cH : ClassId) (tp : Nat) (t_0 t_2 t_3 : Value) : wt_R l yX3_peek wsX3_peek ({ frames := 0, cells := 0, slots := 0, locals := 0 } : Room) D (wt_T cI cZ cH) [.ref tp] [(tp, .inr (3, [t_0, .int 0, t_2, t_3, .int 0]))] (vp_Si (fun r => r = (-1))) := by
  refine wt_R.ofW (cc := cX3_peek) (maxL := 1) (ret := (some .int)) (by decide) rfl (Nat.le_of_ble_eq_true rfl) ?_
  intro p e s m below meth c ls hx hb hr hts hown hlocks hml hP hK hl
  have hown : s.vm.findClass RX3 = some m.cls := hown
  have hl : lv_has ls 1 [(0, .ref tp)] := hl
  have hi3 : ∀ w ∈ u_ws RX3 TX3 5, w ∈ wsX3_peek := by decide +kernel
  have wf15 := hts (.fieldLink RX3 15 "WarmTubes$Tape" "length" "I") (by decide +kernel)
  have wf25 := hts (.fieldLink RX3 25 "WarmTubes$Tape" "at" "I") (by decide +kernel)
  refine lv_aload_n hx hb dX3_peek_0 rfl (lv_at hl 0 rfl) ?_
  refine va_get (D := D) (ci := 3) (v := .int 0) (C := RX3) (T := TX3) (N := 5) hx hb hts hi3 hown hK.1 hP 0 rfl rfl 4 (by decide) wf25 (fun _ h9 => h9) rfl dX3_peek_1 ?_
  refine lv_aload_n hx hb dX3_peek_4 rfl (lv_at hl 0 rfl) ?_
  refine va_get (D := D) (ci := 3) (v := .int 0) (C := RX3) (T := TX3) (N := 5) hx hb hts hi3 hown hK.1 hP 0 rfl rfl 1 (by decide) wf15 (fun _ h9 => h9) rfl dX3_peek_5 ?_
  refine lv_icmp_ge (tgt := 32) hx hb dX3_peek_8 (by decide) (fun _ => ?_) (fun h => absurd h (by decide))
  refine lv_iconst (v := (-1)) hx hb dX3_peek_32 (by decide) ?_
  exact wt_siret hx hb hr hlocks (by rfl) dX3_peek_33
set_option maxHeartbeats 4000000 in
set_option maxRecDepth 100000 in
theorem c_X3_fail (l : Launch) (D : va_G) (cI cZ cH : ClassId) (tp : Nat) (pl k : Int32) (t_0 t_1 t_2 t_3 : Value) : wt_M l yX3_fail wsX3_fail ({ frames := 0, cells := 0, slots := 0, locals := 0 } : Room) D (wt_T cI cZ cH) [.ref tp, .int k] [(tp, .inr (3, [t_0, t_1, t_2, t_3, .int pl]))] (wt_QI D (fun r w => w = [(tp, .inr (3, [t_0, t_1, .int k, .int pl, .int pl]))] ∧ r = 0)) := by
  refine wt_M.ofW (cc := cX3_fail) (maxL := 2) (ret := (some .boolean)) (by decide) rfl (Nat.le_of_ble_eq_true rfl) ?_
  intro p e s m below meth c A ls hx hb hr hts hown hlocks hml hnm hP hK hD hA hS hl
  have hP : va_P D vwCl [(tp, .inr (3, [t_0, t_1, t_2, t_3, .int pl]))] s.heap := hP
  have hown : s.vm.findClass RX3 = some m.cls := hown
  have hl : lv_has ls 2 [(0, .ref tp), (1, .int k)] := hl
  have hi3 : ∀ w ∈ u_ws RX3 TX3 5, w ∈ wsX3_fail := by decide +kernel
  have wf19 := hts (.fieldLink RX3 19 "WarmTubes$Tape" "fault" "I") (by decide +kernel)
  have wf22 := hts (.fieldLink RX3 22 "WarmTubes$Tape" "place" "I") (by decide +kernel)
  have wf25 := hts (.fieldLink RX3 25 "WarmTubes$Tape" "at" "I") (by decide +kernel)
  refine lv_aload_n hx hb dX3_fail_0 rfl (lv_at hl 0 rfl) ?_
  refine lv_iload_n hx hb dX3_fail_1 rfl (lv_at hl 1 rfl) ?_
  refine va_put (D := D) (ci := 3) (v := .int k) (ty := .int) (C := RX3) (T := TX3) (N := 5) hx hb hts hi3 tyX3 tyX3_ok nmX3 hown hK.1 hP hD hS 0 rfl rfl 2 (by decide) wf19 (fun _ h9 => h9) rfl (by decide +kernel) rfl rfl (Nat.le_of_ble_eq_true rfl) dX3_fail_2 (fun H locs hP hD hS => ?_)
  have hP : va_P D vwCl [(tp, .inr (3, [t_0, t_1, .int k, t_3, .int pl]))] H := hP
  have hD : va_D A [(tp, .inr (3, [t_0, t_1, .int k, t_3, .int pl]))] := hD
  refine lv_aload_n hx hb dX3_fail_5 rfl (lv_at hl 0 rfl) ?_
  refine lv_aload_n hx hb dX3_fail_6 rfl (lv_at hl 0 rfl) ?_
  refine va_get (D := D) (ci := 3) (v := .int pl) (C := RX3) (T := TX3) (N := 5) hx hb hts hi3 hown hK.1 hP 0 rfl rfl 4 (by decide) wf25 (fun _ h9 => h9) rfl dX3_fail_7 ?_
  refine va_put (D := D) (ci := 3) (v := .int pl) (ty := .int) (C := RX3) (T := TX3) (N := 5) hx hb hts hi3 tyX3 tyX3_ok nmX3 hown hK.1 hP hD hS 0 rfl rfl 3 (by decide) wf22 (fun _ h9 => h9) rfl (by decide +kernel) rfl rfl (Nat.le_of_ble_eq_true rfl) dX3_fail_10 (fun H locs hP hD hS => ?_)
  have hP : va_P D vwCl [(tp, .inr (3, [t_0, t_1, .int k, .int pl, .int pl]))] H := hP
  have hD : va_D A [(tp, .inr (3, [t_0, t_1, .int k, .int pl, .int pl]))] := hD
  refine lv_iconst (v := 0) hx hb dX3_fail_13 (by decide) ?_
  have hP9 := hP.sub (ws' := [(tp, .inr (3, [t_0, t_1, .int k, .int pl, .int pl]))]) [0] rfl
  have hD9 := hD.sub (ws' := [(tp, .inr (3, [t_0, t_1, .int k, .int pl, .int pl]))]) [0] (by decide) rfl
  exact wt_zret hx hb hr hlocks (by decide) hP9 hD9 hS ⟨rfl, (by rfl)⟩ dX3_fail_14
set_option maxHeartbeats 4000000 in
set_option maxRecDepth 100000 in
theorem c_X3_pass (l : Launch) (D : va_G) (cI cZ cH : ClassId) (tp : Nat) (t_0 t_2 t_3 : Value) : wt_M l yX3_pass wsX3_pass ({ frames := 1, cells := 0, slots := 0, locals := 21 } : Room) D (wt_T cI cZ cH) [.ref tp, .int 104] [(tp, .inr (3, [t_0, .int 0, t_2, t_3, .int 0]))] (wt_QI D (fun r w => w = [(tp, .inr (3, [t_0, .int 0, .int 1, .int 0, .int 0]))] ∧ r = 0)) := by
  refine wt_M.ofW (cc := cX3_pass) (maxL := 2) (ret := (some .boolean)) (by decide) rfl (Nat.le_of_ble_eq_true rfl) ?_
  intro p e s m below meth c A ls hx hb hr hts hown hlocks hml hnm hP hK hD hA hS hl
  have hP : va_P D vwCl [(tp, .inr (3, [t_0, .int 0, t_2, t_3, .int 0]))] s.heap := hP
  have hown : s.vm.findClass RX3 = some m.cls := hown
  have hl : lv_has ls 2 [(0, .ref tp), (1, .int 104)] := hl
  refine lv_aload_n hx hb dX3_pass_0 rfl (lv_at hl 0 rfl) ?_
  refine wt_rV (As := []) (rest := []) ⟨hx, hb, hml, hown, hts⟩ (c_X3_peek l D cI cZ cH tp t_0 t_2 t_3) (cwV 0 hts gX3_pass_X3_peek rfl rfl rfl (by decide +kernel) ⟨Nat.le_of_ble_eq_true rfl, Nat.le_of_ble_eq_true rfl⟩) hK hP [0] rfl (va_recv hK.1 hP (ci := 3) (q0 := 0) rfl rfl) rfl hl.1 rfl (Nat.le_of_ble_eq_true rfl) dX3_pass_1 ⟨Nat.le_of_ble_eq_true rfl, Nat.le_of_ble_eq_true rfl⟩ (fun r_1 e_2 => ?_)
  subst e_2
  refine lv_iload_n hx hb dX3_pass_4 rfl (lv_at hl 1 rfl) ?_
  refine lv_icmp_eq (tgt := 14) hx hb dX3_pass_5 (by decide) (fun h => absurd h (by decide)) (fun _ => ?_)
  refine lv_aload_n hx hb dX3_pass_8 rfl (lv_at hl 0 rfl) ?_
  refine lv_iconst (v := 1) hx hb dX3_pass_9 (by decide) ?_
  refine wt_goI (wr := []) (wt_runV (As := [.int 1]) (rest := []) ⟨hx, hb, hml, hown, hts⟩ (c_X3_fail l D cI cZ cH tp 0 1 t_0 (.int 0) t_2 t_3) (cwV 1 hts gX3_pass_X3_fail rfl rfl rfl (by decide +kernel) ⟨Nat.le_of_ble_eq_true rfl, Nat.le_of_ble_eq_true rfl⟩) hK hP hD [0] rfl (by decide) (va_recv hK.1 hP (ci := 3) (q0 := 0) rfl rfl) rfl hl.1 rfl (Nat.le_of_ble_eq_true rfl) dX3_pass_10 ⟨Nat.le_of_ble_eq_true rfl, Nat.le_of_ble_eq_true rfl⟩) hP hD hS hA [0] [] rfl rfl (by decide) (by decide) (fun r_3 w_4 H locs h_5 hP hD hS => ?_)
  obtain ⟨rfl, rfl⟩ := h_5
  have hP : va_P D vwCl [(tp, .inr (3, [t_0, .int 0, .int 1, .int 0, .int 0]))] H := hP
  have hD : va_D A [(tp, .inr (3, [t_0, .int 0, .int 1, .int 0, .int 0]))] := hD
  have hP9 := hP.sub (ws' := [(tp, .inr (3, [t_0, .int 0, .int 1, .int 0, .int 0]))]) [0] rfl
  have hD9 := hD.sub (ws' := [(tp, .inr (3, [t_0, .int 0, .int 1, .int 0, .int 0]))]) [0] (by decide) rfl
  exact wt_zret hx hb hr hlocks (by decide) hP9 hD9 hS ⟨rfl, (by rfl)⟩ dX3_pass_13
set_option maxHeartbeats 4000000 in
set_option maxRecDepth 100000 in
theorem c_X3_tellLaw (l : Launch) (D : va_G) (cI cZ cH : ClassId) (tp th : Nat) (t_0 t_2 t_3 : Value) : wt_M l yX3_tellLaw wsX3_tellLaw ({ frames := 2, cells := 0, slots := 0, locals := 42 } : Room) D (wt_T cI cZ cH) [.ref tp, .ref th] [(tp, .inr (3, [t_0, .int 0, t_2, t_3, .int 0]))] (wt_QI D (fun r w => w = [(tp, .inr (3, [t_0, .int 0, .int 1, .int 0, .int 0]))] ∧ r = 0)) := by
  refine wt_M.ofW (cc := cX3_tellLaw) (maxL := 2) (ret := (some .boolean)) (by decide) rfl (Nat.le_of_ble_eq_true rfl) ?_
  intro p e s m below meth c A ls hx hb hr hts hown hlocks hml hnm hP hK hD hA hS hl
  have hP : va_P D vwCl [(tp, .inr (3, [t_0, .int 0, t_2, t_3, .int 0]))] s.heap := hP
  have hown : s.vm.findClass RX3 = some m.cls := hown
  have hl : lv_has ls 2 [(0, .ref tp), (1, .ref th)] := hl
  refine lv_aload_n hx hb dX3_tellLaw_0 rfl (lv_at hl 0 rfl) ?_
  refine lv_bipush (v := 104) hx hb dX3_tellLaw_1 (by decide) ?_
  refine wt_goI (wr := []) (wt_runV (As := [.int 104]) (rest := []) ⟨hx, hb, hml, hown, hts⟩ (c_X3_pass l D cI cZ cH tp t_0 t_2 t_3) (cwV 1 hts gX3_tellLaw_X3_pass rfl rfl rfl (by decide +kernel) ⟨Nat.le_of_ble_eq_true rfl, Nat.le_of_ble_eq_true rfl⟩) hK hP hD [0] rfl (by decide) (va_recv hK.1 hP (ci := 3) (q0 := 0) rfl rfl) rfl hl.1 rfl (Nat.le_of_ble_eq_true rfl) dX3_tellLaw_3 ⟨Nat.le_of_ble_eq_true rfl, Nat.le_of_ble_eq_true rfl⟩) hP hD hS hA [0] [] rfl rfl (by decide) (by decide) (fun r_1 w_2 H locs h_3 hP hD hS => ?_)
  obtain ⟨rfl, rfl⟩ := h_3
  have hP : va_P D vwCl [(tp, .inr (3, [t_0, .int 0, .int 1, .int 0, .int 0]))] H := hP
  have hD : va_D A [(tp, .inr (3, [t_0, .int 0, .int 1, .int 0, .int 0]))] := hD
  refine lv_if_ne (tgt := 11) hx hb dX3_tellLaw_6 (by decide) (fun h => absurd h (by decide)) (fun _ => ?_)
  refine lv_iconst (v := 0) hx hb dX3_tellLaw_9 (by decide) ?_
  have hP9 := hP.sub (ws' := [(tp, .inr (3, [t_0, .int 0, .int 1, .int 0, .int 0]))]) [0] rfl
  have hD9 := hD.sub (ws' := [(tp, .inr (3, [t_0, .int 0, .int 1, .int 0, .int 0]))]) [0] (by decide) rfl
  exact wt_zret hx hb hr hlocks (by decide) hP9 hD9 hS ⟨rfl, (by rfl)⟩ dX3_tellLaw_10
set_option maxHeartbeats 4000000 in
set_option maxRecDepth 100000 in
theorem c_X3_tell (l : Launch) (D : va_G) (cI cZ cH : ClassId) (tp th : Nat) (t_0 t_2 t_3 t_4 h_0 h_1 h_2 h_3 h_4 h_5 h_6 h_7 h_8 h_9 h_10 h_11 : Value) : wt_M l yX3_tell wsX3_tell ({ frames := 3, cells := 0, slots := 0, locals := 63 } : Room) D (wt_T cI cZ cH) [.ref tp, .ref th] [(tp, .inr (3, [t_0, .int 0, t_2, t_3, t_4])), (th, .inr (0, [h_0, h_1, h_2, h_3, h_4, h_5, h_6, h_7, h_8, h_9, h_10, h_11]))] (wt_QI D (fun r w => w = [(tp, .inr (3, [t_0, .int 0, .int 1, .int 0, .int 0])), (th, .inr (0, [h_0, h_1, .int 0, .int 0, .int 0, h_5, h_6, h_7, h_8, h_9, h_10, h_11]))] ∧ r = 0)) := by
  refine wt_M.ofW (cc := cX3_tell) (maxL := 2) (ret := (some .boolean)) (by decide) rfl (Nat.le_of_ble_eq_true rfl) ?_
  intro p e s m below meth c A ls hx hb hr hts hown hlocks hml hnm hP hK hD hA hS hl
  have hP : va_P D vwCl [(tp, .inr (3, [t_0, .int 0, t_2, t_3, t_4])), (th, .inr (0, [h_0, h_1, h_2, h_3, h_4, h_5, h_6, h_7, h_8, h_9, h_10, h_11]))] s.heap := hP
  have hown : s.vm.findClass RX3 = some m.cls := hown
  have hl : lv_has ls 2 [(0, .ref tp), (1, .ref th)] := hl
  have hi0 : ∀ w ∈ u_ws RX0 TX0 12, w ∈ wsX3_tell := by decide +kernel
  have hi3 : ∀ w ∈ u_ws RX3 TX3 5, w ∈ wsX3_tell := by decide +kernel
  have wf25 := hts (.fieldLink RX3 25 "WarmTubes$Tape" "at" "I") (by decide +kernel)
  have wf28 := hts (.fieldLink RX3 28 "WarmTubes$House" "rooms" "I") (by decide +kernel)
  have wf33 := hts (.fieldLink RX3 33 "WarmTubes$House" "tubes" "I") (by decide +kernel)
  have wf36 := hts (.fieldLink RX3 36 "WarmTubes$House" "minute" "I") (by decide +kernel)
  refine lv_aload_n hx hb dX3_tell_0 rfl (lv_at hl 0 rfl) ?_
  refine lv_iconst (v := 0) hx hb dX3_tell_1 (by decide) ?_
  refine va_put (D := D) (ci := 3) (v := .int 0) (ty := .int) (C := RX3) (T := TX3) (N := 5) hx hb hts hi3 tyX3 tyX3_ok nmX3 hown hK.1 hP hD hS 0 rfl rfl 4 (by decide) wf25 (fun _ h9 => h9) rfl (by decide +kernel) rfl rfl (Nat.le_of_ble_eq_true rfl) dX3_tell_2 (fun H locs hP hD hS => ?_)
  have hP : va_P D vwCl [(tp, .inr (3, [t_0, .int 0, t_2, t_3, .int 0])), (th, .inr (0, [h_0, h_1, h_2, h_3, h_4, h_5, h_6, h_7, h_8, h_9, h_10, h_11]))] H := hP
  have hD : va_D A [(tp, .inr (3, [t_0, .int 0, t_2, t_3, .int 0])), (th, .inr (0, [h_0, h_1, h_2, h_3, h_4, h_5, h_6, h_7, h_8, h_9, h_10, h_11]))] := hD
  refine lv_aload_n hx hb dX3_tell_5 rfl (lv_at hl 1 rfl) ?_
  refine lv_iconst (v := 0) hx hb dX3_tell_6 (by decide) ?_
  refine va_put (D := D) (ci := 0) (v := .int 0) (ty := .int) (C := RX0) (T := TX0) (N := 12) hx hb hts hi0 tyX0 tyX0_ok nmX0 hown hK.1 hP hD hS 1 rfl rfl 2 (by decide) wf28 (fun _ h9 => h9) rfl (by decide +kernel) rfl rfl (Nat.le_of_ble_eq_true rfl) dX3_tell_7 (fun H locs hP hD hS => ?_)
  have hP : va_P D vwCl [(tp, .inr (3, [t_0, .int 0, t_2, t_3, .int 0])), (th, .inr (0, [h_0, h_1, .int 0, h_3, h_4, h_5, h_6, h_7, h_8, h_9, h_10, h_11]))] H := hP
  have hD : va_D A [(tp, .inr (3, [t_0, .int 0, t_2, t_3, .int 0])), (th, .inr (0, [h_0, h_1, .int 0, h_3, h_4, h_5, h_6, h_7, h_8, h_9, h_10, h_11]))] := hD
  refine lv_aload_n hx hb dX3_tell_10 rfl (lv_at hl 1 rfl) ?_
  refine lv_iconst (v := 0) hx hb dX3_tell_11 (by decide) ?_
  refine va_put (D := D) (ci := 0) (v := .int 0) (ty := .int) (C := RX0) (T := TX0) (N := 12) hx hb hts hi0 tyX0 tyX0_ok nmX0 hown hK.1 hP hD hS 1 rfl rfl 3 (by decide) wf33 (fun _ h9 => h9) rfl (by decide +kernel) rfl rfl (Nat.le_of_ble_eq_true rfl) dX3_tell_12 (fun H locs hP hD hS => ?_)
  have hP : va_P D vwCl [(tp, .inr (3, [t_0, .int 0, t_2, t_3, .int 0])), (th, .inr (0, [h_0, h_1, .int 0, .int 0, h_4, h_5, h_6, h_7, h_8, h_9, h_10, h_11]))] H := hP
  have hD : va_D A [(tp, .inr (3, [t_0, .int 0, t_2, t_3, .int 0])), (th, .inr (0, [h_0, h_1, .int 0, .int 0, h_4, h_5, h_6, h_7, h_8, h_9, h_10, h_11]))] := hD
  refine lv_aload_n hx hb dX3_tell_15 rfl (lv_at hl 1 rfl) ?_
  refine lv_iconst (v := 0) hx hb dX3_tell_16 (by decide) ?_
  refine va_put (D := D) (ci := 0) (v := .int 0) (ty := .int) (C := RX0) (T := TX0) (N := 12) hx hb hts hi0 tyX0 tyX0_ok nmX0 hown hK.1 hP hD hS 1 rfl rfl 4 (by decide) wf36 (fun _ h9 => h9) rfl (by decide +kernel) rfl rfl (Nat.le_of_ble_eq_true rfl) dX3_tell_17 (fun H locs hP hD hS => ?_)
  have hP : va_P D vwCl [(tp, .inr (3, [t_0, .int 0, t_2, t_3, .int 0])), (th, .inr (0, [h_0, h_1, .int 0, .int 0, .int 0, h_5, h_6, h_7, h_8, h_9, h_10, h_11]))] H := hP
  have hD : va_D A [(tp, .inr (3, [t_0, .int 0, t_2, t_3, .int 0])), (th, .inr (0, [h_0, h_1, .int 0, .int 0, .int 0, h_5, h_6, h_7, h_8, h_9, h_10, h_11]))] := hD
  refine lv_aload_n hx hb dX3_tell_20 rfl (lv_at hl 0 rfl) ?_
  refine lv_aload_n hx hb dX3_tell_21 rfl (lv_at hl 1 rfl) ?_
  refine wt_goI (wr := [(th, .inr (0, [h_0, h_1, .int 0, .int 0, .int 0, h_5, h_6, h_7, h_8, h_9, h_10, h_11]))]) (wt_runV (As := [.ref th]) (rest := []) ⟨hx, hb, hml, hown, hts⟩ (c_X3_tellLaw l D cI cZ cH tp th t_0 t_2 t_3) (cwV 1 hts gX3_tell_X3_tellLaw rfl rfl rfl (by decide +kernel) ⟨Nat.le_of_ble_eq_true rfl, Nat.le_of_ble_eq_true rfl⟩) hK hP hD [0] rfl (by decide) (va_recv hK.1 hP (ci := 3) (q0 := 0) rfl rfl) rfl hl.1 rfl (Nat.le_of_ble_eq_true rfl) dX3_tell_22 ⟨Nat.le_of_ble_eq_true rfl, Nat.le_of_ble_eq_true rfl⟩) hP hD hS hA [0] [1] rfl rfl (by decide) (by decide) (fun r_1 w_2 H locs h_3 hP hD hS => ?_)
  obtain ⟨rfl, rfl⟩ := h_3
  have hP : va_P D vwCl [(th, .inr (0, [h_0, h_1, .int 0, .int 0, .int 0, h_5, h_6, h_7, h_8, h_9, h_10, h_11])), (tp, .inr (3, [t_0, .int 0, .int 1, .int 0, .int 0]))] H := hP
  have hD : va_D A [(th, .inr (0, [h_0, h_1, .int 0, .int 0, .int 0, h_5, h_6, h_7, h_8, h_9, h_10, h_11])), (tp, .inr (3, [t_0, .int 0, .int 1, .int 0, .int 0]))] := hD
  refine lv_if_eq (tgt := 48) hx hb dX3_tell_25 (by decide) (fun _ => ?_) (fun h => absurd h (by decide))
  refine lv_iconst (v := 0) hx hb dX3_tell_48 (by decide) ?_
  have hP9 := hP.sub (ws' := [(tp, .inr (3, [t_0, .int 0, .int 1, .int 0, .int 0])), (th, .inr (0, [h_0, h_1, .int 0, .int 0, .int 0, h_5, h_6, h_7, h_8, h_9, h_10, h_11]))]) [1, 0] rfl
  have hD9 := hD.sub (ws' := [(tp, .inr (3, [t_0, .int 0, .int 1, .int 0, .int 0])), (th, .inr (0, [h_0, h_1, .int 0, .int 0, .int 0, h_5, h_6, h_7, h_8, h_9, h_10, h_11]))]) [1, 0] (by decide) rfl
  exact wt_zret hx hb hr hlocks (by decide) hP9 hD9 hS ⟨rfl, (by rfl)⟩ dX3_tell_49
set_option maxHeartbeats 4000000 in
set_option maxRecDepth 100000 in
theorem c_X5_house (l : Launch) (D : va_G) (cI cZ cH : ClassId) (x tp th : Nat) (x_0 x_2 x_4 x_5 x_6 x_7 x_8 x_9 t_0 t_2 t_3 t_4 h_0 h_1 h_2 h_3 h_4 h_5 h_6 h_7 h_8 h_9 h_10 h_11 : Value) : wt_M l yX5_house wsX5_house ({ frames := 4, cells := 0, slots := 0, locals := 84 } : Room) D (wt_T cI cZ cH) [.ref x] [(x, .inr (5, [x_0, .ref tp, x_2, .ref th, x_4, x_5, x_6, x_7, x_8, x_9])), (tp, .inr (3, [t_0, .int 0, t_2, t_3, t_4])), (th, .inr (0, [h_0, h_1, h_2, h_3, h_4, h_5, h_6, h_7, h_8, h_9, h_10, h_11]))] (wt_QI D (fun r w => r = (-1000100))) := by
  refine wt_M.ofW (cc := cX5_house) (maxL := 2) (ret := (some .int)) (by decide) rfl (Nat.le_of_ble_eq_true rfl) ?_
  intro p e s m below meth c A ls hx hb hr hts hown hlocks hml hnm hP hK hD hA hS hl
  have hP : va_P D vwCl [(x, .inr (5, [x_0, .ref tp, x_2, .ref th, x_4, x_5, x_6, x_7, x_8, x_9])), (tp, .inr (3, [t_0, .int 0, t_2, t_3, t_4])), (th, .inr (0, [h_0, h_1, h_2, h_3, h_4, h_5, h_6, h_7, h_8, h_9, h_10, h_11]))] s.heap := hP
  have hown : s.vm.findClass RX5 = some m.cls := hown
  have hl : lv_has ls 2 [(0, .ref x)] := hl
  have hi3 : ∀ w ∈ u_ws RX3 TX3 5, w ∈ wsX5_house := by decide +kernel
  have hi5 : ∀ w ∈ u_ws RX5 TX5 10, w ∈ wsX5_house := by decide +kernel
  have wc129 := hts (.constant RX5 129 (-1000100)) (by decide +kernel)
  have wf115 := hts (.fieldLink RX5 115 "WarmTubes$Tape" "length" "I") (by decide +kernel)
  have wf126 := hts (.fieldLink RX5 126 "WarmTubes$Tape" "fault" "I") (by decide +kernel)
  have wf130 := hts (.fieldLink RX5 130 "WarmTubes$Tape" "place" "I") (by decide +kernel)
  have wf19 := hts (.fieldLink RX5 19 "WarmTubes" "tape" "LWarmTubes$Tape;") (by decide +kernel)
  have wf30 := hts (.fieldLink RX5 30 "WarmTubes" "then" "LWarmTubes$House;") (by decide +kernel)
  have wf55 := hts (.fieldLink RX5 55 "WarmTubes" "latestFault" "I") (by decide +kernel)
  refine lv_aload_n hx hb dX5_house_0 rfl (lv_at hl 0 rfl) ?_
  refine va_get (D := D) (ci := 5) (v := .ref tp) (C := RX5) (T := TX5) (N := 10) hx hb hts hi5 hown hK.1 hP 0 rfl rfl 1 (by decide) wf19 (fun _ h9 => h9) rfl dX5_house_1 ?_
  refine lv_aload_n hx hb dX5_house_4 rfl (lv_at hl 0 rfl) ?_
  refine va_get (D := D) (ci := 5) (v := .ref th) (C := RX5) (T := TX5) (N := 10) hx hb hts hi5 hown hK.1 hP 0 rfl rfl 3 (by decide) wf30 (fun _ h9 => h9) rfl dX5_house_5 ?_
  refine wt_goI (wr := [(x, .inr (5, [x_0, .ref tp, x_2, .ref th, x_4, x_5, x_6, x_7, x_8, x_9]))]) (wt_runV (As := [.ref th]) (rest := []) ⟨hx, hb, hml, hown, hts⟩ (c_X3_tell l D cI cZ cH tp th t_0 t_2 t_3 t_4 h_0 h_1 h_2 h_3 h_4 h_5 h_6 h_7 h_8 h_9 h_10 h_11) (cwV 1 hts gX5_house_X3_tell rfl rfl rfl (by decide +kernel) ⟨Nat.le_of_ble_eq_true rfl, Nat.le_of_ble_eq_true rfl⟩) hK hP hD [1, 2] rfl (by decide) (va_recv hK.1 hP (ci := 3) (q0 := 1) rfl rfl) rfl hl.1 rfl (Nat.le_of_ble_eq_true rfl) dX5_house_8 ⟨Nat.le_of_ble_eq_true rfl, Nat.le_of_ble_eq_true rfl⟩) hP hD hS hA [1, 2] [0] rfl rfl (by decide) (by decide) (fun r_1 w_2 H locs h_3 hP hD hS => ?_)
  obtain ⟨rfl, rfl⟩ := h_3
  have hP : va_P D vwCl [(x, .inr (5, [x_0, .ref tp, x_2, .ref th, x_4, x_5, x_6, x_7, x_8, x_9])), (tp, .inr (3, [t_0, .int 0, .int 1, .int 0, .int 0])), (th, .inr (0, [h_0, h_1, .int 0, .int 0, .int 0, h_5, h_6, h_7, h_8, h_9, h_10, h_11]))] H := hP
  have hD : va_D A [(x, .inr (5, [x_0, .ref tp, x_2, .ref th, x_4, x_5, x_6, x_7, x_8, x_9])), (tp, .inr (3, [t_0, .int 0, .int 1, .int 0, .int 0])), (th, .inr (0, [h_0, h_1, .int 0, .int 0, .int 0, h_5, h_6, h_7, h_8, h_9, h_10, h_11]))] := hD
  refine lv_istore_n (lv' := [(1, .int 0), (0, .ref x)]) hx hb dX5_house_11 rfl hl (by decide) rfl (fun ls hl => ?_)
  refine lv_aload_n hx hb dX5_house_12 rfl (lv_at hl 1 rfl) ?_
  refine va_get (D := D) (ci := 5) (v := .ref tp) (C := RX5) (T := TX5) (N := 10) hx hb hts hi5 hown hK.1 hP 0 rfl rfl 1 (by decide) wf19 (fun _ h9 => h9) rfl dX5_house_13 ?_
  refine lv_iconst (v := 0) hx hb dX5_house_16 (by decide) ?_
  refine va_put (D := D) (ci := 3) (v := .int 0) (ty := .int) (C := RX3) (T := TX3) (N := 5) hx hb hts hi3 tyX3 tyX3_ok nmX3 hown hK.1 hP hD hS 1 rfl rfl 1 (by decide) wf115 (fun _ h9 => h9) rfl (by decide +kernel) rfl rfl (Nat.le_of_ble_eq_true rfl) dX5_house_17 (fun H locs hP hD hS => ?_)
  have hP : va_P D vwCl [(x, .inr (5, [x_0, .ref tp, x_2, .ref th, x_4, x_5, x_6, x_7, x_8, x_9])), (tp, .inr (3, [t_0, .int 0, .int 1, .int 0, .int 0])), (th, .inr (0, [h_0, h_1, .int 0, .int 0, .int 0, h_5, h_6, h_7, h_8, h_9, h_10, h_11]))] H := hP
  have hD : va_D A [(x, .inr (5, [x_0, .ref tp, x_2, .ref th, x_4, x_5, x_6, x_7, x_8, x_9])), (tp, .inr (3, [t_0, .int 0, .int 1, .int 0, .int 0])), (th, .inr (0, [h_0, h_1, .int 0, .int 0, .int 0, h_5, h_6, h_7, h_8, h_9, h_10, h_11]))] := hD
  refine lv_iload_n hx hb dX5_house_20 rfl (lv_at hl 0 rfl) ?_
  refine lv_if_ne (tgt := 46) hx hb dX5_house_21 (by decide) (fun h => absurd h (by decide)) (fun _ => ?_)
  refine lv_aload_n hx hb dX5_house_24 rfl (lv_at hl 1 rfl) ?_
  refine lv_aload_n hx hb dX5_house_25 rfl (lv_at hl 1 rfl) ?_
  refine va_get (D := D) (ci := 5) (v := .ref tp) (C := RX5) (T := TX5) (N := 10) hx hb hts hi5 hown hK.1 hP 0 rfl rfl 1 (by decide) wf19 (fun _ h9 => h9) rfl dX5_house_26 ?_
  refine va_get (D := D) (ci := 3) (v := .int 1) (C := RX3) (T := TX3) (N := 5) hx hb hts hi3 hown hK.1 hP 1 rfl rfl 2 (by decide) wf126 (fun _ h9 => h9) rfl dX5_house_29 ?_
  refine va_put (D := D) (ci := 5) (v := .int 1) (ty := .int) (C := RX5) (T := TX5) (N := 10) hx hb hts hi5 tyX5 tyX5_ok nmX5 hown hK.1 hP hD hS 0 rfl rfl 8 (by decide) wf55 (fun _ h9 => h9) rfl (by decide +kernel) rfl rfl (Nat.le_of_ble_eq_true rfl) dX5_house_32 (fun H locs hP hD hS => ?_)
  have hP : va_P D vwCl [(x, .inr (5, [x_0, .ref tp, x_2, .ref th, x_4, x_5, x_6, x_7, .int 1, x_9])), (tp, .inr (3, [t_0, .int 0, .int 1, .int 0, .int 0])), (th, .inr (0, [h_0, h_1, .int 0, .int 0, .int 0, h_5, h_6, h_7, h_8, h_9, h_10, h_11]))] H := hP
  have hD : va_D A [(x, .inr (5, [x_0, .ref tp, x_2, .ref th, x_4, x_5, x_6, x_7, .int 1, x_9])), (tp, .inr (3, [t_0, .int 0, .int 1, .int 0, .int 0])), (th, .inr (0, [h_0, h_1, .int 0, .int 0, .int 0, h_5, h_6, h_7, h_8, h_9, h_10, h_11]))] := hD
  refine lv_ldc hx hb hown wc129 dX5_house_35 ?_
  refine lv_aload_n hx hb dX5_house_37 rfl (lv_at hl 1 rfl) ?_
  refine va_get (D := D) (ci := 5) (v := .ref tp) (C := RX5) (T := TX5) (N := 10) hx hb hts hi5 hown hK.1 hP 0 rfl rfl 1 (by decide) wf19 (fun _ h9 => h9) rfl dX5_house_38 ?_
  refine va_get (D := D) (ci := 3) (v := .int 0) (C := RX3) (T := TX3) (N := 5) hx hb hts hi3 hown hK.1 hP 1 rfl rfl 3 (by decide) wf130 (fun _ h9 => h9) rfl dX5_house_41 ?_
  refine lv_isub hx hb dX5_house_44 ?_
  refine wt_top (z := (-1000100)) (by decide) ?_
  exact wt_iret hx hb hr hlocks hP hD hS (by rfl) dX5_house_45

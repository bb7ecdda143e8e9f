set_option maxHeartbeats 4000000 in
set_option maxRecDepth 100000 in
theorem c_X6_isLetter (l : Launch) (D : va_G) (cI cZ cH : ClassId) (md : Nat) (s14 s15 bd k : Int32) (vm_0 vm_1 vm_2 vm_3 vm_4 vm_5 vm_6 vm_7 vm_8 vm_9 vm_10 vm_11 vm_12 vm_13 vm_17 vm_18 vm_19 vm_20 vm_21 vm_22 vm_23 : Value) : wt_R l yX6_isLetter wsX6_isLetter ({ frames := 0, cells := 0, slots := 0, locals := 0 } : Room) D (wt_T cI cZ cH) [.ref md, .int k] [(md, .inr (6, [vm_0, vm_1, vm_2, vm_3, vm_4, vm_5, vm_6, vm_7, vm_8, vm_9, vm_10, vm_11, vm_12, vm_13, .int s14, .int s15, .int bd, vm_17, vm_18, vm_19, vm_20, vm_21, vm_22, vm_23]))] (vp_Si (fun r => r = lB bd s14 s15 k)) := by
  refine wt_R.ofW (cc := cX6_isLetter) (maxL := 2) (ret := (some .boolean)) (by decide) rfl (Nat.le_of_ble_eq_true rfl) ?_
  intro p e s m below meth c ls hx hb hr hts hown hlocks hml hP hK hl
  have hown : s.vm.findClass RX6 = some m.cls := hown
  have hl : lv_has ls 2 [(0, .ref md), (1, .int k)] := hl
  have hi6 : ∀ w ∈ u_ws RX6 TX6 24, w ∈ wsX6_isLetter := by decide +kernel
  have wf102 := hts (.fieldLink RX6 102 "WarmTubesModel" "token" "I") (by decide +kernel)
  have wf78 := hts (.fieldLink RX6 78 "WarmTubesModel" "fault" "I") (by decide +kernel)
  have wf91 := hts (.fieldLink RX6 91 "WarmTubesModel" "value" "I") (by decide +kernel)
  refine lv_aload_n hx hb dX6_isLetter_0 rfl (lv_at hl 0 rfl) ?_
  refine va_get (D := D) (ci := 6) (v := .int bd) (C := RX6) (T := TX6) (N := 24) hx hb hts hi6 hown hK.1 hP 0 rfl rfl 16 (by decide) wf78 (fun _ h9 => h9) rfl dX6_isLetter_1 ?_
  refine lv_if_ne (tgt := 27) hx hb dX6_isLetter_4 (by decide) (fun c_1 => ?_) (fun c_1 => ?_)
  · skip
    refine lv_iconst (v := 0) hx hb dX6_isLetter_27 (by decide) ?_
    exact wt_szret hx hb hr hlocks (by decide) (by simp [lB, c_1]) dX6_isLetter_28
  · skip
    refine lv_aload_n hx hb dX6_isLetter_7 rfl (lv_at hl 0 rfl) ?_
    refine va_get (D := D) (ci := 6) (v := .int s14) (C := RX6) (T := TX6) (N := 24) hx hb hts hi6 hown hK.1 hP 0 rfl rfl 14 (by decide) wf102 (fun _ h9 => h9) rfl dX6_isLetter_8 ?_
    refine lv_iconst (v := 2) hx hb dX6_isLetter_11 (by decide) ?_
    refine lv_icmp_ne (tgt := 27) hx hb dX6_isLetter_12 (by decide) (fun c_2 => ?_) (fun c_2 => ?_)
    · skip
      refine lv_iconst (v := 0) hx hb dX6_isLetter_27 (by decide) ?_
      exact wt_szret hx hb hr hlocks (by decide) (by simp [lB, c_1, c_2]) dX6_isLetter_28
    · skip
      refine lv_aload_n hx hb dX6_isLetter_15 rfl (lv_at hl 0 rfl) ?_
      refine va_get (D := D) (ci := 6) (v := .int s15) (C := RX6) (T := TX6) (N := 24) hx hb hts hi6 hown hK.1 hP 0 rfl rfl 15 (by decide) wf91 (fun _ h9 => h9) rfl dX6_isLetter_16 ?_
      refine lv_iload_n hx hb dX6_isLetter_19 rfl (lv_at hl 1 rfl) ?_
      refine lv_icmp_ne (tgt := 27) hx hb dX6_isLetter_20 (by decide) (fun c_3 => ?_) (fun c_3 => ?_)
      · skip
        refine lv_iconst (v := 0) hx hb dX6_isLetter_27 (by decide) ?_
        exact wt_szret hx hb hr hlocks (by decide) (by simp [lB, c_1, c_2, c_3]) dX6_isLetter_28
      · skip
        refine lv_iconst (v := 1) hx hb dX6_isLetter_23 (by decide) ?_
        refine lv_goto (tgt := 28) hx hb dX6_isLetter_24 (by decide) ?_
        exact wt_szret hx hb hr hlocks (by decide) (by simp [lB, c_1, c_2, c_3]) dX6_isLetter_28
set_option maxHeartbeats 4000000 in
set_option maxRecDepth 100000 in
theorem c_X6_kindBy (l : Launch) (D : va_G) (cI cZ cH : ClassId) (a1 : Int32) : wt_R l yX6_kindBy wsX6_kindBy ({ frames := 0, cells := 0, slots := 0, locals := 0 } : Room) D (wt_T cI cZ cH) [.int a1] [] (vp_Si (fun r => r = kB a1)) := by
  refine wt_R.ofW (cc := cX6_kindBy) (maxL := 1) (ret := (some .int)) (by decide) rfl (Nat.le_of_ble_eq_true rfl) ?_
  intro p e s m below meth c ls hx hb hr hts hown hlocks hml hP hK hl
  have hown : s.vm.findClass RX6 = some m.cls := hown
  have hl : lv_has ls 1 [(0, .int a1)] := hl
  have wc90 := hts (.constant RX6 90 (-1000000)) (by decide +kernel)
  refine lv_iload_n hx hb dX6_kindBy_0 rfl (lv_at hl 0 rfl) ?_
  refine lv_bipush (v := 112) hx hb dX6_kindBy_1 (by decide) ?_
  refine lv_icmp_ne (tgt := 10) hx hb dX6_kindBy_3 (by decide) (fun c_1 => ?_) (fun c_1 => ?_)
  · skip
    refine lv_iload_n hx hb dX6_kindBy_10 rfl (lv_at hl 0 rfl) ?_
    refine lv_bipush (v := 103) hx hb dX6_kindBy_11 (by decide) ?_
    refine lv_icmp_ne (tgt := 20) hx hb dX6_kindBy_13 (by decide) (fun c_2 => ?_) (fun c_2 => ?_)
    · skip
      refine lv_iload_n hx hb dX6_kindBy_20 rfl (lv_at hl 0 rfl) ?_
      refine lv_bipush (v := 115) hx hb dX6_kindBy_21 (by decide) ?_
      refine lv_icmp_ne (tgt := 30) hx hb dX6_kindBy_23 (by decide) (fun c_3 => ?_) (fun c_3 => ?_)
      · skip
        refine lv_iload_n hx hb dX6_kindBy_30 rfl (lv_at hl 0 rfl) ?_
        refine lv_bipush (v := 119) hx hb dX6_kindBy_31 (by decide) ?_
        refine lv_icmp_ne (tgt := 40) hx hb dX6_kindBy_33 (by decide) (fun c_4 => ?_) (fun c_4 => ?_)
        · skip
          refine lv_iload_n hx hb dX6_kindBy_40 rfl (lv_at hl 0 rfl) ?_
          refine lv_bipush (v := 108) hx hb dX6_kindBy_41 (by decide) ?_
          refine lv_icmp_ne (tgt := 50) hx hb dX6_kindBy_43 (by decide) (fun c_5 => ?_) (fun c_5 => ?_)
          · skip
            refine lv_ldc hx hb hown wc90 dX6_kindBy_50 ?_
            exact wt_siret hx hb hr hlocks (by simp [kB, c_1, c_2, c_3, c_4, c_5]) dX6_kindBy_52
          · skip
            refine lv_iconst (v := 5) hx hb dX6_kindBy_46 (by decide) ?_
            refine lv_goto (tgt := 52) hx hb dX6_kindBy_47 (by decide) ?_
            exact wt_siret hx hb hr hlocks (by simp [kB, c_1, c_2, c_3, c_4, c_5]) dX6_kindBy_52
        · skip
          refine lv_iconst (v := 4) hx hb dX6_kindBy_36 (by decide) ?_
          refine lv_goto (tgt := 52) hx hb dX6_kindBy_37 (by decide) ?_
          exact wt_siret hx hb hr hlocks (by simp [kB, c_1, c_2, c_3, c_4]) dX6_kindBy_52
      · skip
        refine lv_iconst (v := 3) hx hb dX6_kindBy_26 (by decide) ?_
        refine lv_goto (tgt := 52) hx hb dX6_kindBy_27 (by decide) ?_
        exact wt_siret hx hb hr hlocks (by simp [kB, c_1, c_2, c_3]) dX6_kindBy_52
    · skip
      refine lv_iconst (v := 2) hx hb dX6_kindBy_16 (by decide) ?_
      refine lv_goto (tgt := 52) hx hb dX6_kindBy_17 (by decide) ?_
      exact wt_siret hx hb hr hlocks (by simp [kB, c_1, c_2]) dX6_kindBy_52
  · skip
    refine lv_iconst (v := 1) hx hb dX6_kindBy_6 (by decide) ?_
    refine lv_goto (tgt := 52) hx hb dX6_kindBy_7 (by decide) ?_
    exact wt_siret hx hb hr hlocks (by simp [kB, c_1]) dX6_kindBy_52
set_option maxHeartbeats 4000000 in
set_option maxRecDepth 100000 in
theorem c_X6_isSort (l : Launch) (D : va_G) (cI cZ cH : ClassId) (md : Nat) (s14 s15 bd : Int32) (vm_0 vm_1 vm_2 vm_3 vm_4 vm_5 vm_6 vm_7 vm_8 vm_9 vm_10 vm_11 vm_12 vm_13 vm_17 vm_18 vm_19 vm_20 vm_21 vm_22 vm_23 : Value) : wt_R l yX6_isSort wsX6_isSort ({ frames := 1, cells := 0, slots := 0, locals := 20 } : Room) D (wt_T cI cZ cH) [.ref md] [(md, .inr (6, [vm_0, vm_1, vm_2, vm_3, vm_4, vm_5, vm_6, vm_7, vm_8, vm_9, vm_10, vm_11, vm_12, vm_13, .int s14, .int s15, .int bd, vm_17, vm_18, vm_19, vm_20, vm_21, vm_22, vm_23]))] (vp_Si (fun r => r = sB bd s14 s15)) := by
  refine wt_R.ofW (cc := cX6_isSort) (maxL := 1) (ret := (some .boolean)) (by decide) rfl (Nat.le_of_ble_eq_true rfl) ?_
  intro p e s m below meth c ls hx hb hr hts hown hlocks hml hP hK hl
  have hown : s.vm.findClass RX6 = some m.cls := hown
  have hl : lv_has ls 1 [(0, .ref md)] := hl
  have hi6 : ∀ w ∈ u_ws RX6 TX6 24, w ∈ wsX6_isSort := by decide +kernel
  have wc90 := hts (.constant RX6 90 (-1000000)) (by decide +kernel)
  have wf102 := hts (.fieldLink RX6 102 "WarmTubesModel" "token" "I") (by decide +kernel)
  have wf78 := hts (.fieldLink RX6 78 "WarmTubesModel" "fault" "I") (by decide +kernel)
  have wf91 := hts (.fieldLink RX6 91 "WarmTubesModel" "value" "I") (by decide +kernel)
  refine lv_aload_n hx hb dX6_isSort_0 rfl (lv_at hl 0 rfl) ?_
  refine va_get (D := D) (ci := 6) (v := .int bd) (C := RX6) (T := TX6) (N := 24) hx hb hts hi6 hown hK.1 hP 0 rfl rfl 16 (by decide) wf78 (fun _ h9 => h9) rfl dX6_isSort_1 ?_
  refine lv_if_ne (tgt := 31) hx hb dX6_isSort_4 (by decide) (fun c_1 => ?_) (fun c_1 => ?_)
  · skip
    refine lv_iconst (v := 0) hx hb dX6_isSort_31 (by decide) ?_
    exact wt_szret hx hb hr hlocks (by decide) (by simp [sB, c_1]) dX6_isSort_32
  · skip
    refine lv_aload_n hx hb dX6_isSort_7 rfl (lv_at hl 0 rfl) ?_
    refine va_get (D := D) (ci := 6) (v := .int s14) (C := RX6) (T := TX6) (N := 24) hx hb hts hi6 hown hK.1 hP 0 rfl rfl 14 (by decide) wf102 (fun _ h9 => h9) rfl dX6_isSort_8 ?_
    refine lv_iconst (v := 2) hx hb dX6_isSort_11 (by decide) ?_
    refine lv_icmp_ne (tgt := 31) hx hb dX6_isSort_12 (by decide) (fun c_2 => ?_) (fun c_2 => ?_)
    · skip
      refine lv_iconst (v := 0) hx hb dX6_isSort_31 (by decide) ?_
      exact wt_szret hx hb hr hlocks (by decide) (by simp [sB, c_1, c_2]) dX6_isSort_32
    · skip
      refine lv_aload_n hx hb dX6_isSort_15 rfl (lv_at hl 0 rfl) ?_
      refine va_get (D := D) (ci := 6) (v := .int s15) (C := RX6) (T := TX6) (N := 24) hx hb hts hi6 hown hK.1 hP 0 rfl rfl 15 (by decide) wf91 (fun _ h9 => h9) rfl dX6_isSort_16 ?_
      refine wt_rS (As := [.int s15]) (rest := []) ⟨hx, hb, hml, hown, hts⟩ (c_X6_kindBy l D cI cZ cH s15) (va_cwS 1 hts gX6_isSort_X6_kindBy rfl rfl rfl (by decide +kernel) ⟨Nat.le_of_ble_eq_true rfl, Nat.le_of_ble_eq_true rfl⟩) hK hP [] rfl rfl hl.1 rfl (Nat.le_of_ble_eq_true rfl) dX6_isSort_19 ⟨Nat.le_of_ble_eq_true rfl, Nat.le_of_ble_eq_true rfl⟩ (fun r_3 e_4 => ?_)
      subst e_4
      refine lv_ldc hx hb hown wc90 dX6_isSort_22 ?_
      refine lv_icmp_eq (tgt := 31) hx hb dX6_isSort_24 (by decide) (fun c_5 => ?_) (fun c_5 => ?_)
      · skip
        refine lv_iconst (v := 0) hx hb dX6_isSort_31 (by decide) ?_
        exact wt_szret hx hb hr hlocks (by decide) (by simp [sB, c_1, c_2, c_5]) dX6_isSort_32
      · skip
        refine lv_iconst (v := 1) hx hb dX6_isSort_27 (by decide) ?_
        refine lv_goto (tgt := 32) hx hb dX6_isSort_28 (by decide) ?_
        exact wt_szret hx hb hr hlocks (by decide) (by simp [sB, c_1, c_2, c_5]) dX6_isSort_32

/-! What the class's static tables hold. -/
def abF (j : Nat) : Int32 := match j with | 0 => -1 | 1 => 0 | 2 => 1 | 3 => 1 | 4 => 0 | _ => 4
def sbF (j : Nat) : Int32 := match j with | 0 => 10 | 1 => 11 | 2 => 12 | 3 => 11 | 4 => 13 | _ => 14
def mbF (j : Nat) : Int32 := match j with | 0 => 20 | 1 => 21 | 2 => 24 | 3 => 22 | _ => 23
set_option maxHeartbeats 4000000 in
set_option maxRecDepth 100000 in
theorem c_X5_sizeBody (l : Launch) (D : va_G) (cI cZ cH : ClassId) (ab sb mb : Nat) (ho aK : Nat) (T j : Nat) (fK : Nat → Int32) (vz_0 vz_1 vz_2 vz_4 vz_5 vz_6 vz_8 vz_9 vz_10 vz_11 : Value) (hT6 : T ≤ 6) (hjT : j < T) : wt_MZ (wt_ZS ab sb mb abF sbF mbF) l yX5_sizeBody wsX5_sizeBody ({ frames := 1, cells := 0, slots := 0, locals := 22 } : Room) D (wt_T cI cZ cH) [.ref ho, .int (nI j)] [(ho, .inr (0, [vz_0, vz_1, vz_2, .int (nI T), vz_4, vz_5, vz_6, .ref aK, vz_8, vz_9, vz_10, vz_11])), (aK, .inl (cI, 6, .inl fK))] (wt_QI D (fun r w => w = [(ho, .inr (0, [vz_0, vz_1, vz_2, .int (nI T), vz_4, vz_5, vz_6, .ref aK, vz_8, vz_9, vz_10, vz_11])), (aK, .inl (cI, 6, .inl fK))])) := by
  refine wt_MZ.ofW (cc := cX5_sizeBody) (maxL := 3) (ret := (some .int)) (by decide) rfl (Nat.le_of_ble_eq_true rfl) ?_
  intro p e s m below meth c A ls hx hb hr hts hown hlocks hml hnm hP hK hD hA hS hl hZ
  have hP : va_P D vwCl [(ho, .inr (0, [vz_0, vz_1, vz_2, .int (nI T), vz_4, vz_5, vz_6, .ref aK, vz_8, vz_9, vz_10, vz_11])), (aK, .inl (cI, 6, .inl fK))] s.heap := hP
  have hown : s.vm.findClass RX5 = some m.cls := hown
  have hl : lv_has ls 3 [(0, .ref ho), (1, .int (nI j))] := hl
  have hi0 : ∀ w ∈ u_ws RX0 TX0 12, w ∈ wsX5_sizeBody := by decide +kernel
  have wf301 := hts (.fieldLink RX5 301 "WarmTubes$House" "sort" "[I") (by decide +kernel)
  have wf335 := hts (.fieldLink RX5 335 "WarmTubes" "SIZE_BODY" "[I") (by decide +kernel)
  refine lv_aload_n hx hb dX5_sizeBody_0 rfl (lv_at hl 0 rfl) ?_
  refine va_get (D := D) (ci := 0) (v := .ref aK) (C := RX0) (T := TX0) (N := 12) hx hb hts hi0 hown hK.1 hP 0 rfl rfl 7 (by decide) wf301 (fun _ h9 => h9) rfl dX5_sizeBody_1 ?_
  refine lv_iload_n hx hb dX5_sizeBody_4 rfl (lv_at hl 1 rfl) ?_
  refine va_iald hx hb hK.1 hP 1 0 rfl rfl (vp_in_nI (by omega) (by omega)) dX5_sizeBody_5 ?_
  refine lv_topi (fun ov_1 _ => ?_)
  refine lv_istore_n (lv' := [(2, .int ov_1), (0, .ref ho), (1, .int (nI j))]) hx hb dX5_sizeBody_6 rfl hl (by decide) rfl (fun ls hl => ?_)
  refine lv_iload_n hx hb dX5_sizeBody_7 rfl (lv_at hl 0 rfl) ?_
  refine lv_iconst (v := 0) hx hb dX5_sizeBody_8 (by decide) ?_
  refine lv_iconst (v := 5) hx hb dX5_sizeBody_9 (by decide) ?_
  refine wt_rS (As := [.int ov_1, .int 0, .int 5]) (rest := []) ⟨hx, hb, hml, hown, hts⟩ (c_X5_within l D cI cZ cH ov_1 0 5) (va_cwS 3 hts gX5_sizeBody_X5_within rfl rfl rfl (by decide +kernel) ⟨Nat.le_of_ble_eq_true rfl, Nat.le_of_ble_eq_true rfl⟩) hK hP [] rfl rfl hl.1 rfl (Nat.le_of_ble_eq_true rfl) dX5_sizeBody_10 ⟨Nat.le_of_ble_eq_true rfl, Nat.le_of_ble_eq_true rfl⟩ (fun r_2 e_3 => ?_)
  subst e_3
  refine lv_if_eq (tgt := 24) hx hb dX5_sizeBody_13 (by decide) (fun c_4 => ?_) (fun c_4 => ?_)
  · skip
    refine va_gets hx hb hZ.2.1.1 hS hown wf335 (fun _ h => h) dX5_sizeBody_24 ?_
    refine lv_iconst (v := 0) hx hb dX5_sizeBody_27 (by decide) ?_
    refine va_ti hx hb hZ.2.1.2 hS (by rw [vp_in_iff]; decide) rfl dX5_sizeBody_28 ?_
    refine lv_topi (fun ov_5 _ => ?_)
    have hP9 := hP.sub (ws' := [(ho, .inr (0, [vz_0, vz_1, vz_2, .int (nI T), vz_4, vz_5, vz_6, .ref aK, vz_8, vz_9, vz_10, vz_11])), (aK, .inl (cI, 6, .inl fK))]) [0, 1] rfl
    have hD9 := hD.sub (ws' := [(ho, .inr (0, [vz_0, vz_1, vz_2, .int (nI T), vz_4, vz_5, vz_6, .ref aK, vz_8, vz_9, vz_10, vz_11])), (aK, .inl (cI, 6, .inl fK))]) [0, 1] (by decide) rfl
    exact wt_iret hx hb hr hlocks hP9 hD9 hS rfl dX5_sizeBody_29
  · skip
    obtain ⟨j_6, hj_6, hj_6b, rfl⟩ := wI_nat (a := 0) (b := 5) (by omega) (by omega) c_4
    refine va_gets hx hb hZ.2.1.1 hS hown wf335 (fun _ h => h) dX5_sizeBody_16 ?_
    refine lv_iload_n hx hb dX5_sizeBody_19 rfl (lv_at hl 0 rfl) ?_
    refine va_ti hx hb hZ.2.1.2 hS (vp_in_nI (by omega) (by omega)) rfl dX5_sizeBody_20 ?_
    refine lv_topi (fun ov_7 _ => ?_)
    refine lv_goto (tgt := 29) hx hb dX5_sizeBody_21 (by decide) ?_
    have hP9 := hP.sub (ws' := [(ho, .inr (0, [vz_0, vz_1, vz_2, .int (nI T), vz_4, vz_5, vz_6, .ref aK, vz_8, vz_9, vz_10, vz_11])), (aK, .inl (cI, 6, .inl fK))]) [0, 1] rfl
    have hD9 := hD.sub (ws' := [(ho, .inr (0, [vz_0, vz_1, vz_2, .int (nI T), vz_4, vz_5, vz_6, .ref aK, vz_8, vz_9, vz_10, vz_11])), (aK, .inl (cI, 6, .inl fK))]) [0, 1] (by decide) rfl
    exact wt_iret hx hb hr hlocks hP9 hD9 hS rfl dX5_sizeBody_29
set_option maxHeartbeats 4000000 in
set_option maxRecDepth 100000 in
theorem c_X5_markBody (l : Launch) (D : va_G) (cI cZ cH : ClassId) (ab sb mb : Nat) (ho aK : Nat) (T j : Nat) (fK : Nat → Int32) (vz_0 vz_1 vz_2 vz_4 vz_5 vz_6 vz_8 vz_9 vz_10 vz_11 : Value) (hT6 : T ≤ 6) (hjT : j < T) : wt_MZ (wt_ZS ab sb mb abF sbF mbF) l yX5_markBody wsX5_markBody ({ frames := 1, cells := 0, slots := 0, locals := 22 } : Room) D (wt_T cI cZ cH) [.ref ho, .int (nI j)] [(ho, .inr (0, [vz_0, vz_1, vz_2, .int (nI T), vz_4, vz_5, vz_6, .ref aK, vz_8, vz_9, vz_10, vz_11])), (aK, .inl (cI, 6, .inl fK))] (wt_QI D (fun r w => w = [(ho, .inr (0, [vz_0, vz_1, vz_2, .int (nI T), vz_4, vz_5, vz_6, .ref aK, vz_8, vz_9, vz_10, vz_11])), (aK, .inl (cI, 6, .inl fK))])) := by
  refine wt_MZ.ofW (cc := cX5_markBody) (maxL := 3) (ret := (some .int)) (by decide) rfl (Nat.le_of_ble_eq_true rfl) ?_
  intro p e s m below meth c A ls hx hb hr hts hown hlocks hml hnm hP hK hD hA hS hl hZ
  have hP : va_P D vwCl [(ho, .inr (0, [vz_0, vz_1, vz_2, .int (nI T), vz_4, vz_5, vz_6, .ref aK, vz_8, vz_9, vz_10, vz_11])), (aK, .inl (cI, 6, .inl fK))] s.heap := hP
  have hown : s.vm.findClass RX5 = some m.cls := hown
  have hl : lv_has ls 3 [(0, .ref ho), (1, .int (nI j))] := hl
  have hi0 : ∀ w ∈ u_ws RX0 TX0 12, w ∈ wsX5_markBody := by decide +kernel
  have wf301 := hts (.fieldLink RX5 301 "WarmTubes$House" "sort" "[I") (by decide +kernel)
  have wf338 := hts (.fieldLink RX5 338 "WarmTubes" "MARK_BODY" "[I") (by decide +kernel)
  refine lv_aload_n hx hb dX5_markBody_0 rfl (lv_at hl 0 rfl) ?_
  refine va_get (D := D) (ci := 0) (v := .ref aK) (C := RX0) (T := TX0) (N := 12) hx hb hts hi0 hown hK.1 hP 0 rfl rfl 7 (by decide) wf301 (fun _ h9 => h9) rfl dX5_markBody_1 ?_
  refine lv_iload_n hx hb dX5_markBody_4 rfl (lv_at hl 1 rfl) ?_
  refine va_iald hx hb hK.1 hP 1 0 rfl rfl (vp_in_nI (by omega) (by omega)) dX5_markBody_5 ?_
  refine lv_topi (fun ov_1 _ => ?_)
  refine lv_istore_n (lv' := [(2, .int ov_1), (0, .ref ho), (1, .int (nI j))]) hx hb dX5_markBody_6 rfl hl (by decide) rfl (fun ls hl => ?_)
  refine lv_iload_n hx hb dX5_markBody_7 rfl (lv_at hl 0 rfl) ?_
  refine lv_iconst (v := 0) hx hb dX5_markBody_8 (by decide) ?_
  refine lv_iconst (v := 5) hx hb dX5_markBody_9 (by decide) ?_
  refine wt_rS (As := [.int ov_1, .int 0, .int 5]) (rest := []) ⟨hx, hb, hml, hown, hts⟩ (c_X5_within l D cI cZ cH ov_1 0 5) (va_cwS 3 hts gX5_markBody_X5_within rfl rfl rfl (by decide +kernel) ⟨Nat.le_of_ble_eq_true rfl, Nat.le_of_ble_eq_true rfl⟩) hK hP [] rfl rfl hl.1 rfl (Nat.le_of_ble_eq_true rfl) dX5_markBody_10 ⟨Nat.le_of_ble_eq_true rfl, Nat.le_of_ble_eq_true rfl⟩ (fun r_2 e_3 => ?_)
  subst e_3
  refine lv_if_eq (tgt := 24) hx hb dX5_markBody_13 (by decide) (fun c_4 => ?_) (fun c_4 => ?_)
  · skip
    refine va_gets hx hb hZ.2.2.1 hS hown wf338 (fun _ h => h) dX5_markBody_24 ?_
    refine lv_iconst (v := 0) hx hb dX5_markBody_27 (by decide) ?_
    refine va_ti hx hb hZ.2.2.2 hS (by rw [vp_in_iff]; decide) rfl dX5_markBody_28 ?_
    refine lv_topi (fun ov_5 _ => ?_)
    have hP9 := hP.sub (ws' := [(ho, .inr (0, [vz_0, vz_1, vz_2, .int (nI T), vz_4, vz_5, vz_6, .ref aK, vz_8, vz_9, vz_10, vz_11])), (aK, .inl (cI, 6, .inl fK))]) [0, 1] rfl
    have hD9 := hD.sub (ws' := [(ho, .inr (0, [vz_0, vz_1, vz_2, .int (nI T), vz_4, vz_5, vz_6, .ref aK, vz_8, vz_9, vz_10, vz_11])), (aK, .inl (cI, 6, .inl fK))]) [0, 1] (by decide) rfl
    exact wt_iret hx hb hr hlocks hP9 hD9 hS rfl dX5_markBody_29
  · skip
    obtain ⟨j_6, hj_6, hj_6b, rfl⟩ := wI_nat (a := 0) (b := 5) (by omega) (by omega) c_4
    refine va_gets hx hb hZ.2.2.1 hS hown wf338 (fun _ h => h) dX5_markBody_16 ?_
    refine lv_iload_n hx hb dX5_markBody_19 rfl (lv_at hl 0 rfl) ?_
    refine va_ti hx hb hZ.2.2.2 hS (vp_in_nI (by omega) (by omega)) rfl dX5_markBody_20 ?_
    refine lv_topi (fun ov_7 _ => ?_)
    refine lv_goto (tgt := 29) hx hb dX5_markBody_21 (by decide) ?_
    have hP9 := hP.sub (ws' := [(ho, .inr (0, [vz_0, vz_1, vz_2, .int (nI T), vz_4, vz_5, vz_6, .ref aK, vz_8, vz_9, vz_10, vz_11])), (aK, .inl (cI, 6, .inl fK))]) [0, 1] rfl
    have hD9 := hD.sub (ws' := [(ho, .inr (0, [vz_0, vz_1, vz_2, .int (nI T), vz_4, vz_5, vz_6, .ref aK, vz_8, vz_9, vz_10, vz_11])), (aK, .inl (cI, 6, .inl fK))]) [0, 1] (by decide) rfl
    exact wt_iret hx hb hr hlocks hP9 hD9 hS rfl dX5_markBody_29
set_option maxHeartbeats 4000000 in
set_option maxRecDepth 100000 in
theorem c_X5_begin_0 (l : Launch) (D : va_G) (cI cZ cH : ClassId) (ab sb mb : Nat) (ho aK aH aU : Nat) (T j d : Nat) (fK fH fU : Nat → Int32) (tr bg : Nat) (tc : Nat) (gf : Nat → Int32) (bo : Int32) (vz_0 vz_1 vz_2 vz_4 vz_5 vz_6 vz_8 vz_9 : Value) (hT6 : T ≤ 6) (hjT : j < T) (hd : d + 0 = 16) (htc : tc ≤ 16) : wt_MZ (wt_ZS ab sb mb abF sbF mbF) l yX5_begin wsX5_begin ({ frames := 0, cells := 0, slots := 0, locals := 0 } : Room) D (wt_T cI cZ cH) [.ref ho, .ref tr, .int bo, .int (nI j), .int (nI d)] [(ho, .inr (0, [vz_0, vz_1, vz_2, .int (nI T), vz_4, vz_5, vz_6, .ref aK, vz_8, vz_9, .ref aH, .ref aU])), (aK, .inl (cI, 6, .inl fK)), (aH, .inl (cI, 6, .inl fH)), (aU, .inl (cI, 6, .inl fU)), (tr, .inr (4, [.ref bg, .int (nI tc)])), (bg, .inl (cI, 16, .inl gf))] (wt_QI D (fun r w => ∃ (gf2 : Nat → Int32) (tc2 : Nat), w = [(ho, .inr (0, [vz_0, vz_1, vz_2, .int (nI T), vz_4, vz_5, vz_6, .ref aK, vz_8, vz_9, .ref aH, .ref aU])), (aK, .inl (cI, 6, .inl fK)), (aH, .inl (cI, 6, .inl fH)), (aU, .inl (cI, 6, .inl fU)), (tr, .inr (4, [.ref bg, .int (nI tc2)])), (bg, .inl (cI, 16, .inl gf2))] ∧ tc2 ≤ 16)) := by
  refine wt_MZ.ofW (cc := cX5_begin) (maxL := 6) (ret := (some .int)) (by decide) rfl (Nat.le_of_ble_eq_true rfl) ?_
  intro p e s m below meth c A ls hx hb hr hts hown hlocks hml hnm hP hK hD hA hS hl hZ
  have hP : va_P D vwCl [(ho, .inr (0, [vz_0, vz_1, vz_2, .int (nI T), vz_4, vz_5, vz_6, .ref aK, vz_8, vz_9, .ref aH, .ref aU])), (aK, .inl (cI, 6, .inl fK)), (aH, .inl (cI, 6, .inl fH)), (aU, .inl (cI, 6, .inl fU)), (tr, .inr (4, [.ref bg, .int (nI tc)])), (bg, .inl (cI, 16, .inl gf))] s.heap := hP
  have hown : s.vm.findClass RX5 = some m.cls := hown
  have hl : lv_has ls 6 [(0, .ref ho), (1, .ref tr), (2, .int bo), (3, .int (nI j)), (4, .int (nI d))] := hl
  refine lv_iload hx hb dX5_begin_0 (lv_at hl 4 rfl) ?_
  refine lv_bipush (v := 16) hx hb dX5_begin_2 (by decide) ?_
  refine lv_icmp_lt (tgt := 9) hx hb dX5_begin_4 (by decide) (fun h => absurd h (nI_nlt (a := d) (b := 16) (by omega) (by omega))) (fun _ => ?_)
  refine lv_iconst (v := 0) hx hb dX5_begin_7 (by decide) ?_
  have hP9 := hP.sub (ws' := [(ho, .inr (0, [vz_0, vz_1, vz_2, .int (nI T), vz_4, vz_5, vz_6, .ref aK, vz_8, vz_9, .ref aH, .ref aU])), (aK, .inl (cI, 6, .inl fK)), (aH, .inl (cI, 6, .inl fH)), (aU, .inl (cI, 6, .inl fU)), (tr, .inr (4, [.ref bg, .int (nI tc)])), (bg, .inl (cI, 16, .inl gf))]) [0, 1, 2, 3, 4, 5] rfl
  have hD9 := hD.sub (ws' := [(ho, .inr (0, [vz_0, vz_1, vz_2, .int (nI T), vz_4, vz_5, vz_6, .ref aK, vz_8, vz_9, .ref aH, .ref aU])), (aK, .inl (cI, 6, .inl fK)), (aH, .inl (cI, 6, .inl fH)), (aU, .inl (cI, 6, .inl fU)), (tr, .inr (4, [.ref bg, .int (nI tc)])), (bg, .inl (cI, 16, .inl gf))]) [0, 1, 2, 3, 4, 5] (by decide) rfl
  exact wt_iret hx hb hr hlocks hP9 hD9 hS ⟨gf, tc, rfl, (by omega)⟩ dX5_begin_8
set_option maxHeartbeats 4000000 in
set_option maxRecDepth 100000 in
theorem c_X5_begin_1 (l : Launch) (D : va_G) (cI cZ cH : ClassId) (ab sb mb : Nat) (ho aK aH aU : Nat) (T j d : Nat) (fK fH fU : Nat → Int32) (tr bg : Nat) (tc : Nat) (gf : Nat → Int32) (bo : Int32) (vz_0 vz_1 vz_2 vz_4 vz_5 vz_6 vz_8 vz_9 : Value) (hT6 : T ≤ 6) (hjT : j < T) (hd : d + 1 = 16) (htc : tc ≤ 16) : wt_MZ (wt_ZS ab sb mb abF sbF mbF) l yX5_begin wsX5_begin ({ frames := 2, cells := 0, slots := 0, locals := 44 } : Room) D (wt_T cI cZ cH) [.ref ho, .ref tr, .int bo, .int (nI j), .int (nI d)] [(ho, .inr (0, [vz_0, vz_1, vz_2, .int (nI T), vz_4, vz_5, vz_6, .ref aK, vz_8, vz_9, .ref aH, .ref aU])), (aK, .inl (cI, 6, .inl fK)), (aH, .inl (cI, 6, .inl fH)), (aU, .inl (cI, 6, .inl fU)), (tr, .inr (4, [.ref bg, .int (nI tc)])), (bg, .inl (cI, 16, .inl gf))] (wt_QI D (fun r w => ∃ (gf2 : Nat → Int32) (tc2 : Nat), w = [(ho, .inr (0, [vz_0, vz_1, vz_2, .int (nI T), vz_4, vz_5, vz_6, .ref aK, vz_8, vz_9, .ref aH, .ref aU])), (aK, .inl (cI, 6, .inl fK)), (aH, .inl (cI, 6, .inl fH)), (aU, .inl (cI, 6, .inl fU)), (tr, .inr (4, [.ref bg, .int (nI tc2)])), (bg, .inl (cI, 16, .inl gf2))] ∧ tc2 ≤ 16)) := by
  refine wt_MZ.ofW (cc := cX5_begin) (maxL := 6) (ret := (some .int)) (by decide) rfl (Nat.le_of_ble_eq_true rfl) ?_
  intro p e s m below meth c A ls hx hb hr hts hown hlocks hml hnm hP hK hD hA hS hl hZ
  have hP : va_P D vwCl [(ho, .inr (0, [vz_0, vz_1, vz_2, .int (nI T), vz_4, vz_5, vz_6, .ref aK, vz_8, vz_9, .ref aH, .ref aU])), (aK, .inl (cI, 6, .inl fK)), (aH, .inl (cI, 6, .inl fH)), (aU, .inl (cI, 6, .inl fU)), (tr, .inr (4, [.ref bg, .int (nI tc)])), (bg, .inl (cI, 16, .inl gf))] s.heap := hP
  have hown : s.vm.findClass RX5 = some m.cls := hown
  have hl : lv_has ls 6 [(0, .ref ho), (1, .ref tr), (2, .int bo), (3, .int (nI j)), (4, .int (nI d))] := hl
  have hi0 : ∀ w ∈ u_ws RX0 TX0 12, w ∈ wsX5_begin := by decide +kernel
  have wf175 := hts (.fieldLink RX5 175 "WarmTubes$House" "up" "[I") (by decide +kernel)
  have wf196 := hts (.fieldLink RX5 196 "WarmTubes$House" "holds" "[I") (by decide +kernel)
  refine lv_iload hx hb dX5_begin_0 (lv_at hl 4 rfl) ?_
  refine lv_bipush (v := 16) hx hb dX5_begin_2 (by decide) ?_
  refine lv_icmp_lt (tgt := 9) hx hb dX5_begin_4 (by decide) (fun _ => ?_) (fun h => absurd (nI_lt (a := d) (b := 16) (by omega) (by omega)) h)
  refine lv_aload_n hx hb dX5_begin_9 rfl (lv_at hl 1 rfl) ?_
  refine lv_iload_n hx hb dX5_begin_10 rfl (lv_at hl 2 rfl) ?_
  refine wt_goV (wr := [(ho, .inr (0, [vz_0, vz_1, vz_2, .int (nI T), vz_4, vz_5, vz_6, .ref aK, vz_8, vz_9, .ref aH, .ref aU])), (aK, .inl (cI, 6, .inl fK)), (aH, .inl (cI, 6, .inl fH)), (aU, .inl (cI, 6, .inl fU))]) (wt_runV (As := [.int bo]) (rest := []) ⟨hx, hb, hml, hown, hts⟩ (c_X4_leave l D cI cZ cH tr bg tc gf bo (by first | assumption | omega)) (cwV 1 hts gX5_begin_X4_leave rfl rfl rfl (by decide +kernel) ⟨Nat.le_of_ble_eq_true rfl, Nat.le_of_ble_eq_true rfl⟩) hK hP hD [4, 5] rfl (by decide) (va_recv hK.1 hP (ci := 4) (q0 := 4) rfl rfl) rfl hl.1 rfl (Nat.le_of_ble_eq_true rfl) dX5_begin_11 ⟨Nat.le_of_ble_eq_true rfl, Nat.le_of_ble_eq_true rfl⟩) hP hD hS hA [4, 5] [0, 1, 2, 3] rfl rfl (by decide) (by decide) (fun w_2 H locs h_3 hP hD hS => ?_)
  obtain ⟨gf2_4, tc2_5, rfl, x_6⟩ := h_3
  have hP : va_P D vwCl [(ho, .inr (0, [vz_0, vz_1, vz_2, .int (nI T), vz_4, vz_5, vz_6, .ref aK, vz_8, vz_9, .ref aH, .ref aU])), (aK, .inl (cI, 6, .inl fK)), (aH, .inl (cI, 6, .inl fH)), (aU, .inl (cI, 6, .inl fU)), (tr, .inr (4, [.ref bg, .int (nI tc2_5)])), (bg, .inl (cI, 16, .inl gf2_4))] H := hP
  have hD : va_D A [(ho, .inr (0, [vz_0, vz_1, vz_2, .int (nI T), vz_4, vz_5, vz_6, .ref aK, vz_8, vz_9, .ref aH, .ref aU])), (aK, .inl (cI, 6, .inl fK)), (aH, .inl (cI, 6, .inl fH)), (aU, .inl (cI, 6, .inl fU)), (tr, .inr (4, [.ref bg, .int (nI tc2_5)])), (bg, .inl (cI, 16, .inl gf2_4))] := hD
  refine lv_iload hx hb dX5_begin_14 (lv_at hl 4 rfl) ?_
  refine lv_iconst (v := 1) hx hb dX5_begin_16 (by decide) ?_
  refine lv_iadd hx hb dX5_begin_17 ?_
  refine wt_top (z := nI (d + 1)) (nI_add d 1) ?_
  refine lv_istore (lv' := [(5, .int (nI (d + 1))), (0, .ref ho), (1, .ref tr), (2, .int bo), (3, .int (nI j)), (4, .int (nI d))]) hx hb dX5_begin_18 hl (by decide) rfl (fun ls hl => ?_)
  refine lv_iload_n hx hb dX5_begin_20 rfl (lv_at hl 3 rfl) ?_
  rcases wt_dec (bo) 10 with c_8 | c_8
  · subst c_8
    refine lv_tableIn (off := 75) (tgt := 96) hx hb dX5_begin_21 (by decide) (by decide) rfl (by decide) ?_
    refine lv_aload_n hx hb dX5_begin_96 rfl (lv_at hl 1 rfl) ?_
    refine va_get (D := D) (ci := 0) (v := .ref aH) (C := RX0) (T := TX0) (N := 12) hx hb hts hi0 hown hK.1 hP 0 rfl rfl 10 (by decide) wf196 (fun _ h9 => h9) rfl dX5_begin_97 ?_
    refine lv_iload_n hx hb dX5_begin_100 rfl (lv_at hl 4 rfl) ?_
    refine va_iald hx hb hK.1 hP 2 0 rfl rfl (vp_in_nI (by omega) (by omega)) dX5_begin_101 ?_
    refine lv_topi (fun ov_9 _ => ?_)
    have hP9 := hP.sub (ws' := [(ho, .inr (0, [vz_0, vz_1, vz_2, .int (nI T), vz_4, vz_5, vz_6, .ref aK, vz_8, vz_9, .ref aH, .ref aU])), (aK, .inl (cI, 6, .inl fK)), (aH, .inl (cI, 6, .inl fH)), (aU, .inl (cI, 6, .inl fU)), (tr, .inr (4, [.ref bg, .int (nI tc2_5)])), (bg, .inl (cI, 16, .inl gf2_4))]) [0, 1, 2, 3, 4, 5] rfl
    have hD9 := hD.sub (ws' := [(ho, .inr (0, [vz_0, vz_1, vz_2, .int (nI T), vz_4, vz_5, vz_6, .ref aK, vz_8, vz_9, .ref aH, .ref aU])), (aK, .inl (cI, 6, .inl fK)), (aH, .inl (cI, 6, .inl fH)), (aU, .inl (cI, 6, .inl fU)), (tr, .inr (4, [.ref bg, .int (nI tc2_5)])), (bg, .inl (cI, 16, .inl gf2_4))]) [0, 1, 2, 3, 4, 5] (by decide) rfl
    exact wt_iret hx hb hr hlocks hP9 hD9 hS ⟨gf2_4, tc2_5, rfl, (by omega)⟩ dX5_begin_102
  rcases wt_dec (bo) 11 with c_10 | c_10
  · subst c_10
    refine lv_tableIn (off := 82) (tgt := 103) hx hb dX5_begin_21 (by decide) (by decide) rfl (by decide) ?_
    refine lv_aload_n hx hb dX5_begin_103 rfl (lv_at hl 1 rfl) ?_
    refine lv_aload_n hx hb dX5_begin_104 rfl (lv_at hl 2 rfl) ?_
    refine lv_bipush (v := 10) hx hb dX5_begin_105 (by decide) ?_
    refine lv_iload_n hx hb dX5_begin_107 rfl (lv_at hl 4 rfl) ?_
    refine lv_iload hx hb dX5_begin_108 (lv_at hl 0 rfl) ?_
    refine wt_goI (wr := []) (wt_runSZ (As := [.ref ho, .ref tr, .int 10, .int (nI j), .int (nI (d + 1))]) (rest := []) ⟨hx, hb, hml, hown, hts⟩ (c_X5_begin_0 l D cI cZ cH _ _ _ ho aK aH aU T j (d + 1) fK fH fU tr bg tc2_5 gf2_4 10 vz_0 vz_1 vz_2 vz_4 vz_5 vz_6 vz_8 vz_9 (by first | assumption | omega) (by first | assumption | omega) (by first | assumption | omega) (by first | assumption | omega)) (va_cwS 5 hts gX5_begin_X5_begin rfl rfl rfl (by decide +kernel) ⟨Nat.le_of_ble_eq_true rfl, Nat.le_of_ble_eq_true rfl⟩) hK hP hD [0, 1, 2, 3, 4, 5] rfl (by decide) hZ hS hA rfl hl.1 rfl (Nat.le_of_ble_eq_true rfl) dX5_begin_110 ⟨Nat.le_of_ble_eq_true rfl, Nat.le_of_ble_eq_true rfl⟩) hP hD hS hA [0, 1, 2, 3, 4, 5] [] rfl rfl (by decide) (by decide) (fun r_11 w_12 H locs h_13 hP hD hS => ?_)
    obtain ⟨gf2_14, tc2_15, rfl, x_16⟩ := h_13
    have hP : va_P D vwCl [(ho, .inr (0, [vz_0, vz_1, vz_2, .int (nI T), vz_4, vz_5, vz_6, .ref aK, vz_8, vz_9, .ref aH, .ref aU])), (aK, .inl (cI, 6, .inl fK)), (aH, .inl (cI, 6, .inl fH)), (aU, .inl (cI, 6, .inl fU)), (tr, .inr (4, [.ref bg, .int (nI tc2_15)])), (bg, .inl (cI, 16, .inl gf2_14))] H := hP
    have hD : va_D A [(ho, .inr (0, [vz_0, vz_1, vz_2, .int (nI T), vz_4, vz_5, vz_6, .ref aK, vz_8, vz_9, .ref aH, .ref aU])), (aK, .inl (cI, 6, .inl fK)), (aH, .inl (cI, 6, .inl fH)), (aU, .inl (cI, 6, .inl fU)), (tr, .inr (4, [.ref bg, .int (nI tc2_15)])), (bg, .inl (cI, 16, .inl gf2_14))] := hD
    refine lv_aload_n hx hb dX5_begin_113 rfl (lv_at hl 1 rfl) ?_
    refine lv_aload_n hx hb dX5_begin_114 rfl (lv_at hl 2 rfl) ?_
    refine lv_aload_n hx hb dX5_begin_115 rfl (lv_at hl 1 rfl) ?_
    refine lv_iload_n hx hb dX5_begin_116 rfl (lv_at hl 4 rfl) ?_
    refine wt_goI (wr := [(aH, .inl (cI, 6, .inl fH)), (aU, .inl (cI, 6, .inl fU)), (tr, .inr (4, [.ref bg, .int (nI tc2_15)])), (bg, .inl (cI, 16, .inl gf2_14))]) (wt_runSZ (As := [.ref ho, .int (nI j)]) (rest := [.ref tr, .ref ho, .int r_11]) ⟨hx, hb, hml, hown, hts⟩ (c_X5_markBody l D cI cZ cH _ _ _ ho aK T j fK vz_0 vz_1 vz_2 vz_4 vz_5 vz_6 vz_8 vz_9 (.ref aH) (.ref aU) (by first | assumption | omega) (by first | assumption | omega)) (va_cwS 2 hts gX5_begin_X5_markBody rfl rfl rfl (by decide +kernel) ⟨Nat.le_of_ble_eq_true rfl, Nat.le_of_ble_eq_true rfl⟩) hK hP hD [0, 1] rfl (by decide) hZ hS hA rfl hl.1 rfl (Nat.le_of_ble_eq_true rfl) dX5_begin_117 ⟨Nat.le_of_ble_eq_true rfl, Nat.le_of_ble_eq_true rfl⟩) hP hD hS hA [0, 1] [2, 3, 4, 5] rfl rfl (by decide) (by decide) (fun r_17 w_18 H locs h_19 hP hD hS => ?_)
    obtain rfl := h_19
    have hP : va_P D vwCl [(aH, .inl (cI, 6, .inl fH)), (aU, .inl (cI, 6, .inl fU)), (tr, .inr (4, [.ref bg, .int (nI tc2_15)])), (bg, .inl (cI, 16, .inl gf2_14)), (ho, .inr (0, [vz_0, vz_1, vz_2, .int (nI T), vz_4, vz_5, vz_6, .ref aK, vz_8, vz_9, .ref aH, .ref aU])), (aK, .inl (cI, 6, .inl fK))] H := hP
    have hD : va_D A [(aH, .inl (cI, 6, .inl fH)), (aU, .inl (cI, 6, .inl fU)), (tr, .inr (4, [.ref bg, .int (nI tc2_15)])), (bg, .inl (cI, 16, .inl gf2_14)), (ho, .inr (0, [vz_0, vz_1, vz_2, .int (nI T), vz_4, vz_5, vz_6, .ref aK, vz_8, vz_9, .ref aH, .ref aU])), (aK, .inl (cI, 6, .inl fK))] := hD
    refine lv_iload_n hx hb dX5_begin_120 rfl (lv_at hl 4 rfl) ?_
    refine lv_iload hx hb dX5_begin_121 (lv_at hl 0 rfl) ?_
    refine wt_goI (wr := []) (wt_runSZ (As := [.ref ho, .ref tr, .int r_17, .int (nI j), .int (nI (d + 1))]) (rest := [.int r_11]) ⟨hx, hb, hml, hown, hts⟩ (c_X5_begin_0 l D cI cZ cH _ _ _ ho aK aH aU T j (d + 1) fK fH fU tr bg tc2_15 gf2_14 r_17 vz_0 vz_1 vz_2 vz_4 vz_5 vz_6 vz_8 vz_9 (by first | assumption | omega) (by first | assumption | omega) (by first | assumption | omega) (by first | assumption | omega)) (va_cwS 5 hts gX5_begin_X5_begin rfl rfl rfl (by decide +kernel) ⟨Nat.le_of_ble_eq_true rfl, Nat.le_of_ble_eq_true rfl⟩) hK hP hD [4, 5, 0, 1, 2, 3] rfl (by decide) hZ hS hA rfl hl.1 rfl (Nat.le_of_ble_eq_true rfl) dX5_begin_123 ⟨Nat.le_of_ble_eq_true rfl, Nat.le_of_ble_eq_true rfl⟩) hP hD hS hA [4, 5, 0, 1, 2, 3] [] rfl rfl (by decide) (by decide) (fun r_20 w_21 H locs h_22 hP hD hS => ?_)
    obtain ⟨gf2_23, tc2_24, rfl, x_25⟩ := h_22
    have hP : va_P D vwCl [(ho, .inr (0, [vz_0, vz_1, vz_2, .int (nI T), vz_4, vz_5, vz_6, .ref aK, vz_8, vz_9, .ref aH, .ref aU])), (aK, .inl (cI, 6, .inl fK)), (aH, .inl (cI, 6, .inl fH)), (aU, .inl (cI, 6, .inl fU)), (tr, .inr (4, [.ref bg, .int (nI tc2_24)])), (bg, .inl (cI, 16, .inl gf2_23))] H := hP
    have hD : va_D A [(ho, .inr (0, [vz_0, vz_1, vz_2, .int (nI T), vz_4, vz_5, vz_6, .ref aK, vz_8, vz_9, .ref aH, .ref aU])), (aK, .inl (cI, 6, .inl fK)), (aH, .inl (cI, 6, .inl fH)), (aU, .inl (cI, 6, .inl fU)), (tr, .inr (4, [.ref bg, .int (nI tc2_24)])), (bg, .inl (cI, 16, .inl gf2_23))] := hD
    refine lv_iadd hx hb dX5_begin_126 ?_
    refine lv_topi (fun ov_26 _ => ?_)
    have hP9 := hP.sub (ws' := [(ho, .inr (0, [vz_0, vz_1, vz_2, .int (nI T), vz_4, vz_5, vz_6, .ref aK, vz_8, vz_9, .ref aH, .ref aU])), (aK, .inl (cI, 6, .inl fK)), (aH, .inl (cI, 6, .inl fH)), (aU, .inl (cI, 6, .inl fU)), (tr, .inr (4, [.ref bg, .int (nI tc2_24)])), (bg, .inl (cI, 16, .inl gf2_23))]) [0, 1, 2, 3, 4, 5] rfl
    have hD9 := hD.sub (ws' := [(ho, .inr (0, [vz_0, vz_1, vz_2, .int (nI T), vz_4, vz_5, vz_6, .ref aK, vz_8, vz_9, .ref aH, .ref aU])), (aK, .inl (cI, 6, .inl fK)), (aH, .inl (cI, 6, .inl fH)), (aU, .inl (cI, 6, .inl fU)), (tr, .inr (4, [.ref bg, .int (nI tc2_24)])), (bg, .inl (cI, 16, .inl gf2_23))]) [0, 1, 2, 3, 4, 5] (by decide) rfl
    exact wt_iret hx hb hr hlocks hP9 hD9 hS ⟨gf2_23, tc2_24, rfl, (by omega)⟩ dX5_begin_127
  rcases wt_dec (bo) 12 with c_27 | c_27
  · subst c_27
    refine lv_tableIn (off := 107) (tgt := 128) hx hb dX5_begin_21 (by decide) (by decide) rfl (by decide) ?_
    refine lv_aload_n hx hb dX5_begin_128 rfl (lv_at hl 1 rfl) ?_
    refine lv_aload_n hx hb dX5_begin_129 rfl (lv_at hl 2 rfl) ?_
    refine lv_bipush (v := 11) hx hb dX5_begin_130 (by decide) ?_
    refine lv_iload_n hx hb dX5_begin_132 rfl (lv_at hl 4 rfl) ?_
    refine lv_iload hx hb dX5_begin_133 (lv_at hl 0 rfl) ?_
    refine wt_goI (wr := []) (wt_runSZ (As := [.ref ho, .ref tr, .int 11, .int (nI j), .int (nI (d + 1))]) (rest := []) ⟨hx, hb, hml, hown, hts⟩ (c_X5_begin_0 l D cI cZ cH _ _ _ ho aK aH aU T j (d + 1) fK fH fU tr bg tc2_5 gf2_4 11 vz_0 vz_1 vz_2 vz_4 vz_5 vz_6 vz_8 vz_9 (by first | assumption | omega) (by first | assumption | omega) (by first | assumption | omega) (by first | assumption | omega)) (va_cwS 5 hts gX5_begin_X5_begin rfl rfl rfl (by decide +kernel) ⟨Nat.le_of_ble_eq_true rfl, Nat.le_of_ble_eq_true rfl⟩) hK hP hD [0, 1, 2, 3, 4, 5] rfl (by decide) hZ hS hA rfl hl.1 rfl (Nat.le_of_ble_eq_true rfl) dX5_begin_135 ⟨Nat.le_of_ble_eq_true rfl, Nat.le_of_ble_eq_true rfl⟩) hP hD hS hA [0, 1, 2, 3, 4, 5] [] rfl rfl (by decide) (by decide) (fun r_28 w_29 H locs h_30 hP hD hS => ?_)
    obtain ⟨gf2_31, tc2_32, rfl, x_33⟩ := h_30
    have hP : va_P D vwCl [(ho, .inr (0, [vz_0, vz_1, vz_2, .int (nI T), vz_4, vz_5, vz_6, .ref aK, vz_8, vz_9, .ref aH, .ref aU])), (aK, .inl (cI, 6, .inl fK)), (aH, .inl (cI, 6, .inl fH)), (aU, .inl (cI, 6, .inl fU)), (tr, .inr (4, [.ref bg, .int (nI tc2_32)])), (bg, .inl (cI, 16, .inl gf2_31))] H := hP
    have hD : va_D A [(ho, .inr (0, [vz_0, vz_1, vz_2, .int (nI T), vz_4, vz_5, vz_6, .ref aK, vz_8, vz_9, .ref aH, .ref aU])), (aK, .inl (cI, 6, .inl fK)), (aH, .inl (cI, 6, .inl fH)), (aU, .inl (cI, 6, .inl fU)), (tr, .inr (4, [.ref bg, .int (nI tc2_32)])), (bg, .inl (cI, 16, .inl gf2_31))] := hD
    refine lv_ineg hx hb dX5_begin_138 ?_
    refine lv_topi (fun ov_34 _ => ?_)
    have hP9 := hP.sub (ws' := [(ho, .inr (0, [vz_0, vz_1, vz_2, .int (nI T), vz_4, vz_5, vz_6, .ref aK, vz_8, vz_9, .ref aH, .ref aU])), (aK, .inl (cI, 6, .inl fK)), (aH, .inl (cI, 6, .inl fH)), (aU, .inl (cI, 6, .inl fU)), (tr, .inr (4, [.ref bg, .int (nI tc2_32)])), (bg, .inl (cI, 16, .inl gf2_31))]) [0, 1, 2, 3, 4, 5] rfl
    have hD9 := hD.sub (ws' := [(ho, .inr (0, [vz_0, vz_1, vz_2, .int (nI T), vz_4, vz_5, vz_6, .ref aK, vz_8, vz_9, .ref aH, .ref aU])), (aK, .inl (cI, 6, .inl fK)), (aH, .inl (cI, 6, .inl fH)), (aU, .inl (cI, 6, .inl fU)), (tr, .inr (4, [.ref bg, .int (nI tc2_32)])), (bg, .inl (cI, 16, .inl gf2_31))]) [0, 1, 2, 3, 4, 5] (by decide) rfl
    exact wt_iret hx hb hr hlocks hP9 hD9 hS ⟨gf2_31, tc2_32, rfl, (by omega)⟩ dX5_begin_139
  rcases wt_dec (bo) 13 with c_35 | c_35
  · subst c_35
    refine lv_tableIn (off := 119) (tgt := 140) hx hb dX5_begin_21 (by decide) (by decide) rfl (by decide) ?_
    refine lv_aload_n hx hb dX5_begin_140 rfl (lv_at hl 1 rfl) ?_
    refine lv_aload_n hx hb dX5_begin_141 rfl (lv_at hl 2 rfl) ?_
    refine lv_bipush (v := 10) hx hb dX5_begin_142 (by decide) ?_
    refine lv_iload_n hx hb dX5_begin_144 rfl (lv_at hl 4 rfl) ?_
    refine lv_iload hx hb dX5_begin_145 (lv_at hl 0 rfl) ?_
    refine wt_goI (wr := []) (wt_runSZ (As := [.ref ho, .ref tr, .int 10, .int (nI j), .int (nI (d + 1))]) (rest := []) ⟨hx, hb, hml, hown, hts⟩ (c_X5_begin_0 l D cI cZ cH _ _ _ ho aK aH aU T j (d + 1) fK fH fU tr bg tc2_5 gf2_4 10 vz_0 vz_1 vz_2 vz_4 vz_5 vz_6 vz_8 vz_9 (by first | assumption | omega) (by first | assumption | omega) (by first | assumption | omega) (by first | assumption | omega)) (va_cwS 5 hts gX5_begin_X5_begin rfl rfl rfl (by decide +kernel) ⟨Nat.le_of_ble_eq_true rfl, Nat.le_of_ble_eq_true rfl⟩) hK hP hD [0, 1, 2, 3, 4, 5] rfl (by decide) hZ hS hA rfl hl.1 rfl (Nat.le_of_ble_eq_true rfl) dX5_begin_147 ⟨Nat.le_of_ble_eq_true rfl, Nat.le_of_ble_eq_true rfl⟩) hP hD hS hA [0, 1, 2, 3, 4, 5] [] rfl rfl (by decide) (by decide) (fun r_36 w_37 H locs h_38 hP hD hS => ?_)
    obtain ⟨gf2_39, tc2_40, rfl, x_41⟩ := h_38
    have hP : va_P D vwCl [(ho, .inr (0, [vz_0, vz_1, vz_2, .int (nI T), vz_4, vz_5, vz_6, .ref aK, vz_8, vz_9, .ref aH, .ref aU])), (aK, .inl (cI, 6, .inl fK)), (aH, .inl (cI, 6, .inl fH)), (aU, .inl (cI, 6, .inl fU)), (tr, .inr (4, [.ref bg, .int (nI tc2_40)])), (bg, .inl (cI, 16, .inl gf2_39))] H := hP
    have hD : va_D A [(ho, .inr (0, [vz_0, vz_1, vz_2, .int (nI T), vz_4, vz_5, vz_6, .ref aK, vz_8, vz_9, .ref aH, .ref aU])), (aK, .inl (cI, 6, .inl fK)), (aH, .inl (cI, 6, .inl fH)), (aU, .inl (cI, 6, .inl fU)), (tr, .inr (4, [.ref bg, .int (nI tc2_40)])), (bg, .inl (cI, 16, .inl gf2_39))] := hD
    refine lv_bipush (v := 100) hx hb dX5_begin_150 (by decide) ?_
    refine lv_isub hx hb dX5_begin_152 ?_
    refine lv_topi (fun ov_42 _ => ?_)
    have hP9 := hP.sub (ws' := [(ho, .inr (0, [vz_0, vz_1, vz_2, .int (nI T), vz_4, vz_5, vz_6, .ref aK, vz_8, vz_9, .ref aH, .ref aU])), (aK, .inl (cI, 6, .inl fK)), (aH, .inl (cI, 6, .inl fH)), (aU, .inl (cI, 6, .inl fU)), (tr, .inr (4, [.ref bg, .int (nI tc2_40)])), (bg, .inl (cI, 16, .inl gf2_39))]) [0, 1, 2, 3, 4, 5] rfl
    have hD9 := hD.sub (ws' := [(ho, .inr (0, [vz_0, vz_1, vz_2, .int (nI T), vz_4, vz_5, vz_6, .ref aK, vz_8, vz_9, .ref aH, .ref aU])), (aK, .inl (cI, 6, .inl fK)), (aH, .inl (cI, 6, .inl fH)), (aU, .inl (cI, 6, .inl fU)), (tr, .inr (4, [.ref bg, .int (nI tc2_40)])), (bg, .inl (cI, 16, .inl gf2_39))]) [0, 1, 2, 3, 4, 5] (by decide) rfl
    exact wt_iret hx hb hr hlocks hP9 hD9 hS ⟨gf2_39, tc2_40, rfl, (by omega)⟩ dX5_begin_153
  rcases wt_dec (bo) 14 with c_43 | c_43
  · subst c_43
    refine lv_tableIn (off := 133) (tgt := 154) hx hb dX5_begin_21 (by decide) (by decide) rfl (by decide) ?_
    refine lv_aload_n hx hb dX5_begin_154 rfl (lv_at hl 1 rfl) ?_
    refine lv_aload_n hx hb dX5_begin_155 rfl (lv_at hl 2 rfl) ?_
    refine lv_bipush (v := 13) hx hb dX5_begin_156 (by decide) ?_
    refine lv_iload_n hx hb dX5_begin_158 rfl (lv_at hl 4 rfl) ?_
    refine lv_iload hx hb dX5_begin_159 (lv_at hl 0 rfl) ?_
    refine wt_goI (wr := []) (wt_runSZ (As := [.ref ho, .ref tr, .int 13, .int (nI j), .int (nI (d + 1))]) (rest := []) ⟨hx, hb, hml, hown, hts⟩ (c_X5_begin_0 l D cI cZ cH _ _ _ ho aK aH aU T j (d + 1) fK fH fU tr bg tc2_5 gf2_4 13 vz_0 vz_1 vz_2 vz_4 vz_5 vz_6 vz_8 vz_9 (by first | assumption | omega) (by first | assumption | omega) (by first | assumption | omega) (by first | assumption | omega)) (va_cwS 5 hts gX5_begin_X5_begin rfl rfl rfl (by decide +kernel) ⟨Nat.le_of_ble_eq_true rfl, Nat.le_of_ble_eq_true rfl⟩) hK hP hD [0, 1, 2, 3, 4, 5] rfl (by decide) hZ hS hA rfl hl.1 rfl (Nat.le_of_ble_eq_true rfl) dX5_begin_161 ⟨Nat.le_of_ble_eq_true rfl, Nat.le_of_ble_eq_true rfl⟩) hP hD hS hA [0, 1, 2, 3, 4, 5] [] rfl rfl (by decide) (by decide) (fun r_44 w_45 H locs h_46 hP hD hS => ?_)
    obtain ⟨gf2_47, tc2_48, rfl, x_49⟩ := h_46
    have hP : va_P D vwCl [(ho, .inr (0, [vz_0, vz_1, vz_2, .int (nI T), vz_4, vz_5, vz_6, .ref aK, vz_8, vz_9, .ref aH, .ref aU])), (aK, .inl (cI, 6, .inl fK)), (aH, .inl (cI, 6, .inl fH)), (aU, .inl (cI, 6, .inl fU)), (tr, .inr (4, [.ref bg, .int (nI tc2_48)])), (bg, .inl (cI, 16, .inl gf2_47))] H := hP
    have hD : va_D A [(ho, .inr (0, [vz_0, vz_1, vz_2, .int (nI T), vz_4, vz_5, vz_6, .ref aK, vz_8, vz_9, .ref aH, .ref aU])), (aK, .inl (cI, 6, .inl fK)), (aH, .inl (cI, 6, .inl fH)), (aU, .inl (cI, 6, .inl fU)), (tr, .inr (4, [.ref bg, .int (nI tc2_48)])), (bg, .inl (cI, 16, .inl gf2_47))] := hD
    refine lv_iconst (v := 2) hx hb dX5_begin_164 (by decide) ?_
    refine lv_imul hx hb dX5_begin_165 ?_
    refine lv_topi (fun ov_50 _ => ?_)
    have hP9 := hP.sub (ws' := [(ho, .inr (0, [vz_0, vz_1, vz_2, .int (nI T), vz_4, vz_5, vz_6, .ref aK, vz_8, vz_9, .ref aH, .ref aU])), (aK, .inl (cI, 6, .inl fK)), (aH, .inl (cI, 6, .inl fH)), (aU, .inl (cI, 6, .inl fU)), (tr, .inr (4, [.ref bg, .int (nI tc2_48)])), (bg, .inl (cI, 16, .inl gf2_47))]) [0, 1, 2, 3, 4, 5] rfl
    have hD9 := hD.sub (ws' := [(ho, .inr (0, [vz_0, vz_1, vz_2, .int (nI T), vz_4, vz_5, vz_6, .ref aK, vz_8, vz_9, .ref aH, .ref aU])), (aK, .inl (cI, 6, .inl fK)), (aH, .inl (cI, 6, .inl fH)), (aU, .inl (cI, 6, .inl fU)), (tr, .inr (4, [.ref bg, .int (nI tc2_48)])), (bg, .inl (cI, 16, .inl gf2_47))]) [0, 1, 2, 3, 4, 5] (by decide) rfl
    exact wt_iret hx hb hr hlocks hP9 hD9 hS ⟨gf2_47, tc2_48, rfl, (by omega)⟩ dX5_begin_166
  rcases wt_dec (bo) 15 with c_51 | c_51
  · subst c_51
    refine lv_tableIn (off := 219) (tgt := 240) hx hb dX5_begin_21 (by decide) (by decide) rfl (by decide) ?_
    refine lv_iconst (v := 0) hx hb dX5_begin_240 (by decide) ?_
    have hP9 := hP.sub (ws' := [(ho, .inr (0, [vz_0, vz_1, vz_2, .int (nI T), vz_4, vz_5, vz_6, .ref aK, vz_8, vz_9, .ref aH, .ref aU])), (aK, .inl (cI, 6, .inl fK)), (aH, .inl (cI, 6, .inl fH)), (aU, .inl (cI, 6, .inl fU)), (tr, .inr (4, [.ref bg, .int (nI tc2_5)])), (bg, .inl (cI, 16, .inl gf2_4))]) [0, 1, 2, 3, 4, 5] rfl
    have hD9 := hD.sub (ws' := [(ho, .inr (0, [vz_0, vz_1, vz_2, .int (nI T), vz_4, vz_5, vz_6, .ref aK, vz_8, vz_9, .ref aH, .ref aU])), (aK, .inl (cI, 6, .inl fK)), (aH, .inl (cI, 6, .inl fH)), (aU, .inl (cI, 6, .inl fU)), (tr, .inr (4, [.ref bg, .int (nI tc2_5)])), (bg, .inl (cI, 16, .inl gf2_4))]) [0, 1, 2, 3, 4, 5] (by decide) rfl
    exact wt_iret hx hb hr hlocks hP9 hD9 hS ⟨gf2_4, tc2_5, rfl, (by omega)⟩ dX5_begin_241
  rcases wt_dec (bo) 16 with c_52 | c_52
  · subst c_52
    refine lv_tableIn (off := 219) (tgt := 240) hx hb dX5_begin_21 (by decide) (by decide) rfl (by decide) ?_
    refine lv_iconst (v := 0) hx hb dX5_begin_240 (by decide) ?_
    have hP9 := hP.sub (ws' := [(ho, .inr (0, [vz_0, vz_1, vz_2, .int (nI T), vz_4, vz_5, vz_6, .ref aK, vz_8, vz_9, .ref aH, .ref aU])), (aK, .inl (cI, 6, .inl fK)), (aH, .inl (cI, 6, .inl fH)), (aU, .inl (cI, 6, .inl fU)), (tr, .inr (4, [.ref bg, .int (nI tc2_5)])), (bg, .inl (cI, 16, .inl gf2_4))]) [0, 1, 2, 3, 4, 5] rfl
    have hD9 := hD.sub (ws' := [(ho, .inr (0, [vz_0, vz_1, vz_2, .int (nI T), vz_4, vz_5, vz_6, .ref aK, vz_8, vz_9, .ref aH, .ref aU])), (aK, .inl (cI, 6, .inl fK)), (aH, .inl (cI, 6, .inl fH)), (aU, .inl (cI, 6, .inl fU)), (tr, .inr (4, [.ref bg, .int (nI tc2_5)])), (bg, .inl (cI, 16, .inl gf2_4))]) [0, 1, 2, 3, 4, 5] (by decide) rfl
    exact wt_iret hx hb hr hlocks hP9 hD9 hS ⟨gf2_4, tc2_5, rfl, (by omega)⟩ dX5_begin_241
  rcases wt_dec (bo) 17 with c_53 | c_53
  · subst c_53
    refine lv_tableIn (off := 219) (tgt := 240) hx hb dX5_begin_21 (by decide) (by decide) rfl (by decide) ?_
    refine lv_iconst (v := 0) hx hb dX5_begin_240 (by decide) ?_
    have hP9 := hP.sub (ws' := [(ho, .inr (0, [vz_0, vz_1, vz_2, .int (nI T), vz_4, vz_5, vz_6, .ref aK, vz_8, vz_9, .ref aH, .ref aU])), (aK, .inl (cI, 6, .inl fK)), (aH, .inl (cI, 6, .inl fH)), (aU, .inl (cI, 6, .inl fU)), (tr, .inr (4, [.ref bg, .int (nI tc2_5)])), (bg, .inl (cI, 16, .inl gf2_4))]) [0, 1, 2, 3, 4, 5] rfl
    have hD9 := hD.sub (ws' := [(ho, .inr (0, [vz_0, vz_1, vz_2, .int (nI T), vz_4, vz_5, vz_6, .ref aK, vz_8, vz_9, .ref aH, .ref aU])), (aK, .inl (cI, 6, .inl fK)), (aH, .inl (cI, 6, .inl fH)), (aU, .inl (cI, 6, .inl fU)), (tr, .inr (4, [.ref bg, .int (nI tc2_5)])), (bg, .inl (cI, 16, .inl gf2_4))]) [0, 1, 2, 3, 4, 5] (by decide) rfl
    exact wt_iret hx hb hr hlocks hP9 hD9 hS ⟨gf2_4, tc2_5, rfl, (by omega)⟩ dX5_begin_241
  rcases wt_dec (bo) 18 with c_54 | c_54
  · subst c_54
    refine lv_tableIn (off := 219) (tgt := 240) hx hb dX5_begin_21 (by decide) (by decide) rfl (by decide) ?_
    refine lv_iconst (v := 0) hx hb dX5_begin_240 (by decide) ?_
    have hP9 := hP.sub (ws' := [(ho, .inr (0, [vz_0, vz_1, vz_2, .int (nI T), vz_4, vz_5, vz_6, .ref aK, vz_8, vz_9, .ref aH, .ref aU])), (aK, .inl (cI, 6, .inl fK)), (aH, .inl (cI, 6, .inl fH)), (aU, .inl (cI, 6, .inl fU)), (tr, .inr (4, [.ref bg, .int (nI tc2_5)])), (bg, .inl (cI, 16, .inl gf2_4))]) [0, 1, 2, 3, 4, 5] rfl
    have hD9 := hD.sub (ws' := [(ho, .inr (0, [vz_0, vz_1, vz_2, .int (nI T), vz_4, vz_5, vz_6, .ref aK, vz_8, vz_9, .ref aH, .ref aU])), (aK, .inl (cI, 6, .inl fK)), (aH, .inl (cI, 6, .inl fH)), (aU, .inl (cI, 6, .inl fU)), (tr, .inr (4, [.ref bg, .int (nI tc2_5)])), (bg, .inl (cI, 16, .inl gf2_4))]) [0, 1, 2, 3, 4, 5] (by decide) rfl
    exact wt_iret hx hb hr hlocks hP9 hD9 hS ⟨gf2_4, tc2_5, rfl, (by omega)⟩ dX5_begin_241
  rcases wt_dec (bo) 19 with c_55 | c_55
  · subst c_55
    refine lv_tableIn (off := 219) (tgt := 240) hx hb dX5_begin_21 (by decide) (by decide) rfl (by decide) ?_
    refine lv_iconst (v := 0) hx hb dX5_begin_240 (by decide) ?_
    have hP9 := hP.sub (ws' := [(ho, .inr (0, [vz_0, vz_1, vz_2, .int (nI T), vz_4, vz_5, vz_6, .ref aK, vz_8, vz_9, .ref aH, .ref aU])), (aK, .inl (cI, 6, .inl fK)), (aH, .inl (cI, 6, .inl fH)), (aU, .inl (cI, 6, .inl fU)), (tr, .inr (4, [.ref bg, .int (nI tc2_5)])), (bg, .inl (cI, 16, .inl gf2_4))]) [0, 1, 2, 3, 4, 5] rfl
    have hD9 := hD.sub (ws' := [(ho, .inr (0, [vz_0, vz_1, vz_2, .int (nI T), vz_4, vz_5, vz_6, .ref aK, vz_8, vz_9, .ref aH, .ref aU])), (aK, .inl (cI, 6, .inl fK)), (aH, .inl (cI, 6, .inl fH)), (aU, .inl (cI, 6, .inl fU)), (tr, .inr (4, [.ref bg, .int (nI tc2_5)])), (bg, .inl (cI, 16, .inl gf2_4))]) [0, 1, 2, 3, 4, 5] (by decide) rfl
    exact wt_iret hx hb hr hlocks hP9 hD9 hS ⟨gf2_4, tc2_5, rfl, (by omega)⟩ dX5_begin_241
  rcases wt_dec (bo) 20 with c_56 | c_56
  · subst c_56
    refine lv_tableIn (off := 146) (tgt := 167) hx hb dX5_begin_21 (by decide) (by decide) rfl (by decide) ?_
    refine lv_iload_n hx hb dX5_begin_167 rfl (lv_at hl 4 rfl) ?_
    have hP9 := hP.sub (ws' := [(ho, .inr (0, [vz_0, vz_1, vz_2, .int (nI T), vz_4, vz_5, vz_6, .ref aK, vz_8, vz_9, .ref aH, .ref aU])), (aK, .inl (cI, 6, .inl fK)), (aH, .inl (cI, 6, .inl fH)), (aU, .inl (cI, 6, .inl fU)), (tr, .inr (4, [.ref bg, .int (nI tc2_5)])), (bg, .inl (cI, 16, .inl gf2_4))]) [0, 1, 2, 3, 4, 5] rfl
    have hD9 := hD.sub (ws' := [(ho, .inr (0, [vz_0, vz_1, vz_2, .int (nI T), vz_4, vz_5, vz_6, .ref aK, vz_8, vz_9, .ref aH, .ref aU])), (aK, .inl (cI, 6, .inl fK)), (aH, .inl (cI, 6, .inl fH)), (aU, .inl (cI, 6, .inl fU)), (tr, .inr (4, [.ref bg, .int (nI tc2_5)])), (bg, .inl (cI, 16, .inl gf2_4))]) [0, 1, 2, 3, 4, 5] (by decide) rfl
    exact wt_iret hx hb hr hlocks hP9 hD9 hS ⟨gf2_4, tc2_5, rfl, (by omega)⟩ dX5_begin_168
  rcases wt_dec (bo) 21 with c_57 | c_57
  · subst c_57
    refine lv_tableIn (off := 148) (tgt := 169) hx hb dX5_begin_21 (by decide) (by decide) rfl (by decide) ?_
    refine lv_aload_n hx hb dX5_begin_169 rfl (lv_at hl 1 rfl) ?_
    refine lv_aload_n hx hb dX5_begin_170 rfl (lv_at hl 2 rfl) ?_
    refine lv_bipush (v := 20) hx hb dX5_begin_171 (by decide) ?_
    refine lv_iload_n hx hb dX5_begin_173 rfl (lv_at hl 4 rfl) ?_
    refine lv_iload hx hb dX5_begin_174 (lv_at hl 0 rfl) ?_
    refine wt_goI (wr := []) (wt_runSZ (As := [.ref ho, .ref tr, .int 20, .int (nI j), .int (nI (d + 1))]) (rest := []) ⟨hx, hb, hml, hown, hts⟩ (c_X5_begin_0 l D cI cZ cH _ _ _ ho aK aH aU T j (d + 1) fK fH fU tr bg tc2_5 gf2_4 20 vz_0 vz_1 vz_2 vz_4 vz_5 vz_6 vz_8 vz_9 (by first | assumption | omega) (by first | assumption | omega) (by first | assumption | omega) (by first | assumption | omega)) (va_cwS 5 hts gX5_begin_X5_begin rfl rfl rfl (by decide +kernel) ⟨Nat.le_of_ble_eq_true rfl, Nat.le_of_ble_eq_true rfl⟩) hK hP hD [0, 1, 2, 3, 4, 5] rfl (by decide) hZ hS hA rfl hl.1 rfl (Nat.le_of_ble_eq_true rfl) dX5_begin_176 ⟨Nat.le_of_ble_eq_true rfl, Nat.le_of_ble_eq_true rfl⟩) hP hD hS hA [0, 1, 2, 3, 4, 5] [] rfl rfl (by decide) (by decide) (fun r_58 w_59 H locs h_60 hP hD hS => ?_)
    obtain ⟨gf2_61, tc2_62, rfl, x_63⟩ := h_60
    have hP : va_P D vwCl [(ho, .inr (0, [vz_0, vz_1, vz_2, .int (nI T), vz_4, vz_5, vz_6, .ref aK, vz_8, vz_9, .ref aH, .ref aU])), (aK, .inl (cI, 6, .inl fK)), (aH, .inl (cI, 6, .inl fH)), (aU, .inl (cI, 6, .inl fU)), (tr, .inr (4, [.ref bg, .int (nI tc2_62)])), (bg, .inl (cI, 16, .inl gf2_61))] H := hP
    have hD : va_D A [(ho, .inr (0, [vz_0, vz_1, vz_2, .int (nI T), vz_4, vz_5, vz_6, .ref aK, vz_8, vz_9, .ref aH, .ref aU])), (aK, .inl (cI, 6, .inl fK)), (aH, .inl (cI, 6, .inl fH)), (aU, .inl (cI, 6, .inl fU)), (tr, .inr (4, [.ref bg, .int (nI tc2_62)])), (bg, .inl (cI, 16, .inl gf2_61))] := hD
    refine lv_aload_n hx hb dX5_begin_179 rfl (lv_at hl 1 rfl) ?_
    refine va_get (D := D) (ci := 0) (v := .ref aU) (C := RX0) (T := TX0) (N := 12) hx hb hts hi0 hown hK.1 hP 0 rfl rfl 11 (by decide) wf175 (fun _ h9 => h9) rfl dX5_begin_180 ?_
    refine lv_iload_n hx hb dX5_begin_183 rfl (lv_at hl 4 rfl) ?_
    refine va_iald hx hb hK.1 hP 3 0 rfl rfl (vp_in_nI (by omega) (by omega)) dX5_begin_184 ?_
    refine lv_topi (fun ov_64 _ => ?_)
    refine lv_iadd hx hb dX5_begin_185 ?_
    refine lv_topi (fun ov_65 _ => ?_)
    have hP9 := hP.sub (ws' := [(ho, .inr (0, [vz_0, vz_1, vz_2, .int (nI T), vz_4, vz_5, vz_6, .ref aK, vz_8, vz_9, .ref aH, .ref aU])), (aK, .inl (cI, 6, .inl fK)), (aH, .inl (cI, 6, .inl fH)), (aU, .inl (cI, 6, .inl fU)), (tr, .inr (4, [.ref bg, .int (nI tc2_62)])), (bg, .inl (cI, 16, .inl gf2_61))]) [0, 1, 2, 3, 4, 5] rfl
    have hD9 := hD.sub (ws' := [(ho, .inr (0, [vz_0, vz_1, vz_2, .int (nI T), vz_4, vz_5, vz_6, .ref aK, vz_8, vz_9, .ref aH, .ref aU])), (aK, .inl (cI, 6, .inl fK)), (aH, .inl (cI, 6, .inl fH)), (aU, .inl (cI, 6, .inl fU)), (tr, .inr (4, [.ref bg, .int (nI tc2_62)])), (bg, .inl (cI, 16, .inl gf2_61))]) [0, 1, 2, 3, 4, 5] (by decide) rfl
    exact wt_iret hx hb hr hlocks hP9 hD9 hS ⟨gf2_61, tc2_62, rfl, (by omega)⟩ dX5_begin_186
  rcases wt_dec (bo) 22 with c_66 | c_66
  · subst c_66
    refine lv_tableIn (off := 166) (tgt := 187) hx hb dX5_begin_21 (by decide) (by decide) rfl (by decide) ?_
    refine lv_aload_n hx hb dX5_begin_187 rfl (lv_at hl 1 rfl) ?_
    refine lv_aload_n hx hb dX5_begin_188 rfl (lv_at hl 2 rfl) ?_
    refine lv_bipush (v := 21) hx hb dX5_begin_189 (by decide) ?_
    refine lv_iload_n hx hb dX5_begin_191 rfl (lv_at hl 4 rfl) ?_
    refine lv_iload hx hb dX5_begin_192 (lv_at hl 0 rfl) ?_
    refine wt_goI (wr := []) (wt_runSZ (As := [.ref ho, .ref tr, .int 21, .int (nI j), .int (nI (d + 1))]) (rest := []) ⟨hx, hb, hml, hown, hts⟩ (c_X5_begin_0 l D cI cZ cH _ _ _ ho aK aH aU T j (d + 1) fK fH fU tr bg tc2_5 gf2_4 21 vz_0 vz_1 vz_2 vz_4 vz_5 vz_6 vz_8 vz_9 (by first | assumption | omega) (by first | assumption | omega) (by first | assumption | omega) (by first | assumption | omega)) (va_cwS 5 hts gX5_begin_X5_begin rfl rfl rfl (by decide +kernel) ⟨Nat.le_of_ble_eq_true rfl, Nat.le_of_ble_eq_true rfl⟩) hK hP hD [0, 1, 2, 3, 4, 5] rfl (by decide) hZ hS hA rfl hl.1 rfl (Nat.le_of_ble_eq_true rfl) dX5_begin_194 ⟨Nat.le_of_ble_eq_true rfl, Nat.le_of_ble_eq_true rfl⟩) hP hD hS hA [0, 1, 2, 3, 4, 5] [] rfl rfl (by decide) (by decide) (fun r_67 w_68 H locs h_69 hP hD hS => ?_)
    obtain ⟨gf2_70, tc2_71, rfl, x_72⟩ := h_69
    have hP : va_P D vwCl [(ho, .inr (0, [vz_0, vz_1, vz_2, .int (nI T), vz_4, vz_5, vz_6, .ref aK, vz_8, vz_9, .ref aH, .ref aU])), (aK, .inl (cI, 6, .inl fK)), (aH, .inl (cI, 6, .inl fH)), (aU, .inl (cI, 6, .inl fU)), (tr, .inr (4, [.ref bg, .int (nI tc2_71)])), (bg, .inl (cI, 16, .inl gf2_70))] H := hP
    have hD : va_D A [(ho, .inr (0, [vz_0, vz_1, vz_2, .int (nI T), vz_4, vz_5, vz_6, .ref aK, vz_8, vz_9, .ref aH, .ref aU])), (aK, .inl (cI, 6, .inl fK)), (aH, .inl (cI, 6, .inl fH)), (aU, .inl (cI, 6, .inl fU)), (tr, .inr (4, [.ref bg, .int (nI tc2_71)])), (bg, .inl (cI, 16, .inl gf2_70))] := hD
    refine lv_sipush (v := 1000) hx hb dX5_begin_197 (by decide) ?_
    refine lv_isub hx hb dX5_begin_200 ?_
    refine lv_topi (fun ov_73 _ => ?_)
    have hP9 := hP.sub (ws' := [(ho, .inr (0, [vz_0, vz_1, vz_2, .int (nI T), vz_4, vz_5, vz_6, .ref aK, vz_8, vz_9, .ref aH, .ref aU])), (aK, .inl (cI, 6, .inl fK)), (aH, .inl (cI, 6, .inl fH)), (aU, .inl (cI, 6, .inl fU)), (tr, .inr (4, [.ref bg, .int (nI tc2_71)])), (bg, .inl (cI, 16, .inl gf2_70))]) [0, 1, 2, 3, 4, 5] rfl
    have hD9 := hD.sub (ws' := [(ho, .inr (0, [vz_0, vz_1, vz_2, .int (nI T), vz_4, vz_5, vz_6, .ref aK, vz_8, vz_9, .ref aH, .ref aU])), (aK, .inl (cI, 6, .inl fK)), (aH, .inl (cI, 6, .inl fH)), (aU, .inl (cI, 6, .inl fU)), (tr, .inr (4, [.ref bg, .int (nI tc2_71)])), (bg, .inl (cI, 16, .inl gf2_70))]) [0, 1, 2, 3, 4, 5] (by decide) rfl
    exact wt_iret hx hb hr hlocks hP9 hD9 hS ⟨gf2_70, tc2_71, rfl, (by omega)⟩ dX5_begin_201
  rcases wt_dec (bo) 23 with c_74 | c_74
  · subst c_74
    refine lv_tableIn (off := 181) (tgt := 202) hx hb dX5_begin_21 (by decide) (by decide) rfl (by decide) ?_
    refine lv_aload_n hx hb dX5_begin_202 rfl (lv_at hl 1 rfl) ?_
    refine lv_aload_n hx hb dX5_begin_203 rfl (lv_at hl 2 rfl) ?_
    refine lv_bipush (v := 20) hx hb dX5_begin_204 (by decide) ?_
    refine lv_iload_n hx hb dX5_begin_206 rfl (lv_at hl 4 rfl) ?_
    refine lv_iload hx hb dX5_begin_207 (lv_at hl 0 rfl) ?_
    refine wt_goI (wr := []) (wt_runSZ (As := [.ref ho, .ref tr, .int 20, .int (nI j), .int (nI (d + 1))]) (rest := []) ⟨hx, hb, hml, hown, hts⟩ (c_X5_begin_0 l D cI cZ cH _ _ _ ho aK aH aU T j (d + 1) fK fH fU tr bg tc2_5 gf2_4 20 vz_0 vz_1 vz_2 vz_4 vz_5 vz_6 vz_8 vz_9 (by first | assumption | omega) (by first | assumption | omega) (by first | assumption | omega) (by first | assumption | omega)) (va_cwS 5 hts gX5_begin_X5_begin rfl rfl rfl (by decide +kernel) ⟨Nat.le_of_ble_eq_true rfl, Nat.le_of_ble_eq_true rfl⟩) hK hP hD [0, 1, 2, 3, 4, 5] rfl (by decide) hZ hS hA rfl hl.1 rfl (Nat.le_of_ble_eq_true rfl) dX5_begin_209 ⟨Nat.le_of_ble_eq_true rfl, Nat.le_of_ble_eq_true rfl⟩) hP hD hS hA [0, 1, 2, 3, 4, 5] [] rfl rfl (by decide) (by decide) (fun r_75 w_76 H locs h_77 hP hD hS => ?_)
    obtain ⟨gf2_78, tc2_79, rfl, x_80⟩ := h_77
    have hP : va_P D vwCl [(ho, .inr (0, [vz_0, vz_1, vz_2, .int (nI T), vz_4, vz_5, vz_6, .ref aK, vz_8, vz_9, .ref aH, .ref aU])), (aK, .inl (cI, 6, .inl fK)), (aH, .inl (cI, 6, .inl fH)), (aU, .inl (cI, 6, .inl fU)), (tr, .inr (4, [.ref bg, .int (nI tc2_79)])), (bg, .inl (cI, 16, .inl gf2_78))] H := hP
    have hD : va_D A [(ho, .inr (0, [vz_0, vz_1, vz_2, .int (nI T), vz_4, vz_5, vz_6, .ref aK, vz_8, vz_9, .ref aH, .ref aU])), (aK, .inl (cI, 6, .inl fK)), (aH, .inl (cI, 6, .inl fH)), (aU, .inl (cI, 6, .inl fU)), (tr, .inr (4, [.ref bg, .int (nI tc2_79)])), (bg, .inl (cI, 16, .inl gf2_78))] := hD
    refine lv_aload_n hx hb dX5_begin_212 rfl (lv_at hl 1 rfl) ?_
    refine lv_aload_n hx hb dX5_begin_213 rfl (lv_at hl 2 rfl) ?_
    refine lv_aload_n hx hb dX5_begin_214 rfl (lv_at hl 1 rfl) ?_
    refine lv_iload_n hx hb dX5_begin_215 rfl (lv_at hl 4 rfl) ?_
    refine wt_goI (wr := [(aH, .inl (cI, 6, .inl fH)), (aU, .inl (cI, 6, .inl fU)), (tr, .inr (4, [.ref bg, .int (nI tc2_79)])), (bg, .inl (cI, 16, .inl gf2_78))]) (wt_runSZ (As := [.ref ho, .int (nI j)]) (rest := [.ref tr, .ref ho, .int r_75]) ⟨hx, hb, hml, hown, hts⟩ (c_X5_sizeBody l D cI cZ cH _ _ _ ho aK T j fK vz_0 vz_1 vz_2 vz_4 vz_5 vz_6 vz_8 vz_9 (.ref aH) (.ref aU) (by first | assumption | omega) (by first | assumption | omega)) (va_cwS 2 hts gX5_begin_X5_sizeBody rfl rfl rfl (by decide +kernel) ⟨Nat.le_of_ble_eq_true rfl, Nat.le_of_ble_eq_true rfl⟩) hK hP hD [0, 1] rfl (by decide) hZ hS hA rfl hl.1 rfl (Nat.le_of_ble_eq_true rfl) dX5_begin_216 ⟨Nat.le_of_ble_eq_true rfl, Nat.le_of_ble_eq_true rfl⟩) hP hD hS hA [0, 1] [2, 3, 4, 5] rfl rfl (by decide) (by decide) (fun r_81 w_82 H locs h_83 hP hD hS => ?_)
    obtain rfl := h_83
    have hP : va_P D vwCl [(aH, .inl (cI, 6, .inl fH)), (aU, .inl (cI, 6, .inl fU)), (tr, .inr (4, [.ref bg, .int (nI tc2_79)])), (bg, .inl (cI, 16, .inl gf2_78)), (ho, .inr (0, [vz_0, vz_1, vz_2, .int (nI T), vz_4, vz_5, vz_6, .ref aK, vz_8, vz_9, .ref aH, .ref aU])), (aK, .inl (cI, 6, .inl fK))] H := hP
    have hD : va_D A [(aH, .inl (cI, 6, .inl fH)), (aU, .inl (cI, 6, .inl fU)), (tr, .inr (4, [.ref bg, .int (nI tc2_79)])), (bg, .inl (cI, 16, .inl gf2_78)), (ho, .inr (0, [vz_0, vz_1, vz_2, .int (nI T), vz_4, vz_5, vz_6, .ref aK, vz_8, vz_9, .ref aH, .ref aU])), (aK, .inl (cI, 6, .inl fK))] := hD
    refine lv_iload_n hx hb dX5_begin_219 rfl (lv_at hl 4 rfl) ?_
    refine lv_iload hx hb dX5_begin_220 (lv_at hl 0 rfl) ?_
    refine wt_goI (wr := []) (wt_runSZ (As := [.ref ho, .ref tr, .int r_81, .int (nI j), .int (nI (d + 1))]) (rest := [.int r_75]) ⟨hx, hb, hml, hown, hts⟩ (c_X5_begin_0 l D cI cZ cH _ _ _ ho aK aH aU T j (d + 1) fK fH fU tr bg tc2_79 gf2_78 r_81 vz_0 vz_1 vz_2 vz_4 vz_5 vz_6 vz_8 vz_9 (by first | assumption | omega) (by first | assumption | omega) (by first | assumption | omega) (by first | assumption | omega)) (va_cwS 5 hts gX5_begin_X5_begin rfl rfl rfl (by decide +kernel) ⟨Nat.le_of_ble_eq_true rfl, Nat.le_of_ble_eq_true rfl⟩) hK hP hD [4, 5, 0, 1, 2, 3] rfl (by decide) hZ hS hA rfl hl.1 rfl (Nat.le_of_ble_eq_true rfl) dX5_begin_222 ⟨Nat.le_of_ble_eq_true rfl, Nat.le_of_ble_eq_true rfl⟩) hP hD hS hA [4, 5, 0, 1, 2, 3] [] rfl rfl (by decide) (by decide) (fun r_84 w_85 H locs h_86 hP hD hS => ?_)
    obtain ⟨gf2_87, tc2_88, rfl, x_89⟩ := h_86
    have hP : va_P D vwCl [(ho, .inr (0, [vz_0, vz_1, vz_2, .int (nI T), vz_4, vz_5, vz_6, .ref aK, vz_8, vz_9, .ref aH, .ref aU])), (aK, .inl (cI, 6, .inl fK)), (aH, .inl (cI, 6, .inl fH)), (aU, .inl (cI, 6, .inl fU)), (tr, .inr (4, [.ref bg, .int (nI tc2_88)])), (bg, .inl (cI, 16, .inl gf2_87))] H := hP
    have hD : va_D A [(ho, .inr (0, [vz_0, vz_1, vz_2, .int (nI T), vz_4, vz_5, vz_6, .ref aK, vz_8, vz_9, .ref aH, .ref aU])), (aK, .inl (cI, 6, .inl fK)), (aH, .inl (cI, 6, .inl fH)), (aU, .inl (cI, 6, .inl fU)), (tr, .inr (4, [.ref bg, .int (nI tc2_88)])), (bg, .inl (cI, 16, .inl gf2_87))] := hD
    refine lv_isub hx hb dX5_begin_225 ?_
    refine lv_topi (fun ov_90 _ => ?_)
    have hP9 := hP.sub (ws' := [(ho, .inr (0, [vz_0, vz_1, vz_2, .int (nI T), vz_4, vz_5, vz_6, .ref aK, vz_8, vz_9, .ref aH, .ref aU])), (aK, .inl (cI, 6, .inl fK)), (aH, .inl (cI, 6, .inl fH)), (aU, .inl (cI, 6, .inl fU)), (tr, .inr (4, [.ref bg, .int (nI tc2_88)])), (bg, .inl (cI, 16, .inl gf2_87))]) [0, 1, 2, 3, 4, 5] rfl
    have hD9 := hD.sub (ws' := [(ho, .inr (0, [vz_0, vz_1, vz_2, .int (nI T), vz_4, vz_5, vz_6, .ref aK, vz_8, vz_9, .ref aH, .ref aU])), (aK, .inl (cI, 6, .inl fK)), (aH, .inl (cI, 6, .inl fH)), (aU, .inl (cI, 6, .inl fU)), (tr, .inr (4, [.ref bg, .int (nI tc2_88)])), (bg, .inl (cI, 16, .inl gf2_87))]) [0, 1, 2, 3, 4, 5] (by decide) rfl
    exact wt_iret hx hb hr hlocks hP9 hD9 hS ⟨gf2_87, tc2_88, rfl, (by omega)⟩ dX5_begin_226
  rcases wt_dec (bo) 24 with c_91 | c_91
  · subst c_91
    refine lv_tableIn (off := 206) (tgt := 227) hx hb dX5_begin_21 (by decide) (by decide) rfl (by decide) ?_
    refine lv_aload_n hx hb dX5_begin_227 rfl (lv_at hl 1 rfl) ?_
    refine lv_aload_n hx hb dX5_begin_228 rfl (lv_at hl 2 rfl) ?_
    refine lv_bipush (v := 21) hx hb dX5_begin_229 (by decide) ?_
    refine lv_iload_n hx hb dX5_begin_231 rfl (lv_at hl 4 rfl) ?_
    refine lv_iload hx hb dX5_begin_232 (lv_at hl 0 rfl) ?_
    refine wt_goI (wr := []) (wt_runSZ (As := [.ref ho, .ref tr, .int 21, .int (nI j), .int (nI (d + 1))]) (rest := []) ⟨hx, hb, hml, hown, hts⟩ (c_X5_begin_0 l D cI cZ cH _ _ _ ho aK aH aU T j (d + 1) fK fH fU tr bg tc2_5 gf2_4 21 vz_0 vz_1 vz_2 vz_4 vz_5 vz_6 vz_8 vz_9 (by first | assumption | omega) (by first | assumption | omega) (by first | assumption | omega) (by first | assumption | omega)) (va_cwS 5 hts gX5_begin_X5_begin rfl rfl rfl (by decide +kernel) ⟨Nat.le_of_ble_eq_true rfl, Nat.le_of_ble_eq_true rfl⟩) hK hP hD [0, 1, 2, 3, 4, 5] rfl (by decide) hZ hS hA rfl hl.1 rfl (Nat.le_of_ble_eq_true rfl) dX5_begin_234 ⟨Nat.le_of_ble_eq_true rfl, Nat.le_of_ble_eq_true rfl⟩) hP hD hS hA [0, 1, 2, 3, 4, 5] [] rfl rfl (by decide) (by decide) (fun r_92 w_93 H locs h_94 hP hD hS => ?_)
    obtain ⟨gf2_95, tc2_96, rfl, x_97⟩ := h_94
    have hP : va_P D vwCl [(ho, .inr (0, [vz_0, vz_1, vz_2, .int (nI T), vz_4, vz_5, vz_6, .ref aK, vz_8, vz_9, .ref aH, .ref aU])), (aK, .inl (cI, 6, .inl fK)), (aH, .inl (cI, 6, .inl fH)), (aU, .inl (cI, 6, .inl fU)), (tr, .inr (4, [.ref bg, .int (nI tc2_96)])), (bg, .inl (cI, 16, .inl gf2_95))] H := hP
    have hD : va_D A [(ho, .inr (0, [vz_0, vz_1, vz_2, .int (nI T), vz_4, vz_5, vz_6, .ref aK, vz_8, vz_9, .ref aH, .ref aU])), (aK, .inl (cI, 6, .inl fK)), (aH, .inl (cI, 6, .inl fH)), (aU, .inl (cI, 6, .inl fU)), (tr, .inr (4, [.ref bg, .int (nI tc2_96)])), (bg, .inl (cI, 16, .inl gf2_95))] := hD
    refine lv_iconst (v := 2) hx hb dX5_begin_237 (by decide) ?_
    refine lv_imul hx hb dX5_begin_238 ?_
    refine lv_topi (fun ov_98 _ => ?_)
    have hP9 := hP.sub (ws' := [(ho, .inr (0, [vz_0, vz_1, vz_2, .int (nI T), vz_4, vz_5, vz_6, .ref aK, vz_8, vz_9, .ref aH, .ref aU])), (aK, .inl (cI, 6, .inl fK)), (aH, .inl (cI, 6, .inl fH)), (aU, .inl (cI, 6, .inl fU)), (tr, .inr (4, [.ref bg, .int (nI tc2_96)])), (bg, .inl (cI, 16, .inl gf2_95))]) [0, 1, 2, 3, 4, 5] rfl
    have hD9 := hD.sub (ws' := [(ho, .inr (0, [vz_0, vz_1, vz_2, .int (nI T), vz_4, vz_5, vz_6, .ref aK, vz_8, vz_9, .ref aH, .ref aU])), (aK, .inl (cI, 6, .inl fK)), (aH, .inl (cI, 6, .inl fH)), (aU, .inl (cI, 6, .inl fU)), (tr, .inr (4, [.ref bg, .int (nI tc2_96)])), (bg, .inl (cI, 16, .inl gf2_95))]) [0, 1, 2, 3, 4, 5] (by decide) rfl
    exact wt_iret hx hb hr hlocks hP9 hD9 hS ⟨gf2_95, tc2_96, rfl, (by omega)⟩ dX5_begin_239
  refine lv_tableOut (tgt := 240) hx hb dX5_begin_21 (by have := lv_neT (a := 10) c_8 rfl; have := lv_neT (a := 11) c_10 rfl; have := lv_neT (a := 12) c_27 rfl; have := lv_neT (a := 13) c_35 rfl; have := lv_neT (a := 14) c_43 rfl; have := lv_neT (a := 15) c_51 rfl; have := lv_neT (a := 16) c_52 rfl; have := lv_neT (a := 17) c_53 rfl; have := lv_neT (a := 18) c_54 rfl; have := lv_neT (a := 19) c_55 rfl; have := lv_neT (a := 20) c_56 rfl; have := lv_neT (a := 21) c_57 rfl; have := lv_neT (a := 22) c_66 rfl; have := lv_neT (a := 23) c_74 rfl; have := lv_neT (a := 24) c_91 rfl; omega) (by decide) ?_
  refine lv_iconst (v := 0) hx hb dX5_begin_240 (by decide) ?_
  have hP9 := hP.sub (ws' := [(ho, .inr (0, [vz_0, vz_1, vz_2, .int (nI T), vz_4, vz_5, vz_6, .ref aK, vz_8, vz_9, .ref aH, .ref aU])), (aK, .inl (cI, 6, .inl fK)), (aH, .inl (cI, 6, .inl fH)), (aU, .inl (cI, 6, .inl fU)), (tr, .inr (4, [.ref bg, .int (nI tc2_5)])), (bg, .inl (cI, 16, .inl gf2_4))]) [0, 1, 2, 3, 4, 5] rfl
  have hD9 := hD.sub (ws' := [(ho, .inr (0, [vz_0, vz_1, vz_2, .int (nI T), vz_4, vz_5, vz_6, .ref aK, vz_8, vz_9, .ref aH, .ref aU])), (aK, .inl (cI, 6, .inl fK)), (aH, .inl (cI, 6, .inl fH)), (aU, .inl (cI, 6, .inl fU)), (tr, .inr (4, [.ref bg, .int (nI tc2_5)])), (bg, .inl (cI, 16, .inl gf2_4))]) [0, 1, 2, 3, 4, 5] (by decide) rfl
  exact wt_iret hx hb hr hlocks hP9 hD9 hS ⟨gf2_4, tc2_5, rfl, (by omega)⟩ dX5_begin_241
set_option maxHeartbeats 4000000 in
set_option maxRecDepth 100000 in
theorem c_X5_begin_2 (l : Launch) (D : va_G) (cI cZ cH : ClassId) (ab sb mb : Nat) (ho aK aH aU : Nat) (T j d : Nat) (fK fH fU : Nat → Int32) (tr bg : Nat) (tc : Nat) (gf : Nat → Int32) (bo : Int32) (vz_0 vz_1 vz_2 vz_4 vz_5 vz_6 vz_8 vz_9 : Value) (hT6 : T ≤ 6) (hjT : j < T) (hd : d + 2 = 16) (htc : tc ≤ 16) : wt_MZ (wt_ZS ab sb mb abF sbF mbF) l yX5_begin wsX5_begin ({ frames := 3, cells := 0, slots := 0, locals := 69 } : Room) D (wt_T cI cZ cH) [.ref ho, .ref tr, .int bo, .int (nI j), .int (nI d)] [(ho, .inr (0, [vz_0, vz_1, vz_2, .int (nI T), vz_4, vz_5, vz_6, .ref aK, vz_8, vz_9, .ref aH, .ref aU])), (aK, .inl (cI, 6, .inl fK)), (aH, .inl (cI, 6, .inl fH)), (aU, .inl (cI, 6, .inl fU)), (tr, .inr (4, [.ref bg, .int (nI tc)])), (bg, .inl (cI, 16, .inl gf))] (wt_QI D (fun r w => ∃ (gf2 : Nat → Int32) (tc2 : Nat), w = [(ho, .inr (0, [vz_0, vz_1, vz_2, .int (nI T), vz_4, vz_5, vz_6, .ref aK, vz_8, vz_9, .ref aH, .ref aU])), (aK, .inl (cI, 6, .inl fK)), (aH, .inl (cI, 6, .inl fH)), (aU, .inl (cI, 6, .inl fU)), (tr, .inr (4, [.ref bg, .int (nI tc2)])), (bg, .inl (cI, 16, .inl gf2))] ∧ tc2 ≤ 16)) := by
  refine wt_MZ.ofW (cc := cX5_begin) (maxL := 6) (ret := (some .int)) (by decide) rfl (Nat.le_of_ble_eq_true rfl) ?_
  intro p e s m below meth c A ls hx hb hr hts hown hlocks hml hnm hP hK hD hA hS hl hZ
  have hP : va_P D vwCl [(ho, .inr (0, [vz_0, vz_1, vz_2, .int (nI T), vz_4, vz_5, vz_6, .ref aK, vz_8, vz_9, .ref aH, .ref aU])), (aK, .inl (cI, 6, .inl fK)), (aH, .inl (cI, 6, .inl fH)), (aU, .inl (cI, 6, .inl fU)), (tr, .inr (4, [.ref bg, .int (nI tc)])), (bg, .inl (cI, 16, .inl gf))] s.heap := hP
  have hown : s.vm.findClass RX5 = some m.cls := hown
  have hl : lv_has ls 6 [(0, .ref ho), (1, .ref tr), (2, .int bo), (3, .int (nI j)), (4, .int (nI d))] := hl
  have hi0 : ∀ w ∈ u_ws RX0 TX0 12, w ∈ wsX5_begin := by decide +kernel
  have wf175 := hts (.fieldLink RX5 175 "WarmTubes$House" "up" "[I") (by decide +kernel)
  have wf196 := hts (.fieldLink RX5 196 "WarmTubes$House" "holds" "[I") (by decide +kernel)
  refine lv_iload hx hb dX5_begin_0 (lv_at hl 4 rfl) ?_
  refine lv_bipush (v := 16) hx hb dX5_begin_2 (by decide) ?_
  refine lv_icmp_lt (tgt := 9) hx hb dX5_begin_4 (by decide) (fun _ => ?_) (fun h => absurd (nI_lt (a := d) (b := 16) (by omega) (by omega)) h)
  refine lv_aload_n hx hb dX5_begin_9 rfl (lv_at hl 1 rfl) ?_
  refine lv_iload_n hx hb dX5_begin_10 rfl (lv_at hl 2 rfl) ?_
  refine wt_goV (wr := [(ho, .inr (0, [vz_0, vz_1, vz_2, .int (nI T), vz_4, vz_5, vz_6, .ref aK, vz_8, vz_9, .ref aH, .ref aU])), (aK, .inl (cI, 6, .inl fK)), (aH, .inl (cI, 6, .inl fH)), (aU, .inl (cI, 6, .inl fU))]) (wt_runV (As := [.int bo]) (rest := []) ⟨hx, hb, hml, hown, hts⟩ (c_X4_leave l D cI cZ cH tr bg tc gf bo (by first | assumption | omega)) (cwV 1 hts gX5_begin_X4_leave rfl rfl rfl (by decide +kernel) ⟨Nat.le_of_ble_eq_true rfl, Nat.le_of_ble_eq_true rfl⟩) hK hP hD [4, 5] rfl (by decide) (va_recv hK.1 hP (ci := 4) (q0 := 4) rfl rfl) rfl hl.1 rfl (Nat.le_of_ble_eq_true rfl) dX5_begin_11 ⟨Nat.le_of_ble_eq_true rfl, Nat.le_of_ble_eq_true rfl⟩) hP hD hS hA [4, 5] [0, 1, 2, 3] rfl rfl (by decide) (by decide) (fun w_2 H locs h_3 hP hD hS => ?_)
  obtain ⟨gf2_4, tc2_5, rfl, x_6⟩ := h_3
  have hP : va_P D vwCl [(ho, .inr (0, [vz_0, vz_1, vz_2, .int (nI T), vz_4, vz_5, vz_6, .ref aK, vz_8, vz_9, .ref aH, .ref aU])), (aK, .inl (cI, 6, .inl fK)), (aH, .inl (cI, 6, .inl fH)), (aU, .inl (cI, 6, .inl fU)), (tr, .inr (4, [.ref bg, .int (nI tc2_5)])), (bg, .inl (cI, 16, .inl gf2_4))] H := hP
  have hD : va_D A [(ho, .inr (0, [vz_0, vz_1, vz_2, .int (nI T), vz_4, vz_5, vz_6, .ref aK, vz_8, vz_9, .ref aH, .ref aU])), (aK, .inl (cI, 6, .inl fK)), (aH, .inl (cI, 6, .inl fH)), (aU, .inl (cI, 6, .inl fU)), (tr, .inr (4, [.ref bg, .int (nI tc2_5)])), (bg, .inl (cI, 16, .inl gf2_4))] := hD
  refine lv_iload hx hb dX5_begin_14 (lv_at hl 4 rfl) ?_
  refine lv_iconst (v := 1) hx hb dX5_begin_16 (by decide) ?_
  refine lv_iadd hx hb dX5_begin_17 ?_
  refine wt_top (z := nI (d + 1)) (nI_add d 1) ?_
  refine lv_istore (lv' := [(5, .int (nI (d + 1))), (0, .ref ho), (1, .ref tr), (2, .int bo), (3, .int (nI j)), (4, .int (nI d))]) hx hb dX5_begin_18 hl (by decide) rfl (fun ls hl => ?_)
  refine lv_iload_n hx hb dX5_begin_20 rfl (lv_at hl 3 rfl) ?_
  rcases wt_dec (bo) 10 with c_8 | c_8
  · subst c_8
    refine lv_tableIn (off := 75) (tgt := 96) hx hb dX5_begin_21 (by decide) (by decide) rfl (by decide) ?_
    refine lv_aload_n hx hb dX5_begin_96 rfl (lv_at hl 1 rfl) ?_
    refine va_get (D := D) (ci := 0) (v := .ref aH) (C := RX0) (T := TX0) (N := 12) hx hb hts hi0 hown hK.1 hP 0 rfl rfl 10 (by decide) wf196 (fun _ h9 => h9) rfl dX5_begin_97 ?_
    refine lv_iload_n hx hb dX5_begin_100 rfl (lv_at hl 4 rfl) ?_
    refine va_iald hx hb hK.1 hP 2 0 rfl rfl (vp_in_nI (by omega) (by omega)) dX5_begin_101 ?_
    refine lv_topi (fun ov_9 _ => ?_)
    have hP9 := hP.sub (ws' := [(ho, .inr (0, [vz_0, vz_1, vz_2, .int (nI T), vz_4, vz_5, vz_6, .ref aK, vz_8, vz_9, .ref aH, .ref aU])), (aK, .inl (cI, 6, .inl fK)), (aH, .inl (cI, 6, .inl fH)), (aU, .inl (cI, 6, .inl fU)), (tr, .inr (4, [.ref bg, .int (nI tc2_5)])), (bg, .inl (cI, 16, .inl gf2_4))]) [0, 1, 2, 3, 4, 5] rfl
    have hD9 := hD.sub (ws' := [(ho, .inr (0, [vz_0, vz_1, vz_2, .int (nI T), vz_4, vz_5, vz_6, .ref aK, vz_8, vz_9, .ref aH, .ref aU])), (aK, .inl (cI, 6, .inl fK)), (aH, .inl (cI, 6, .inl fH)), (aU, .inl (cI, 6, .inl fU)), (tr, .inr (4, [.ref bg, .int (nI tc2_5)])), (bg, .inl (cI, 16, .inl gf2_4))]) [0, 1, 2, 3, 4, 5] (by decide) rfl
    exact wt_iret hx hb hr hlocks hP9 hD9 hS ⟨gf2_4, tc2_5, rfl, (by omega)⟩ dX5_begin_102
  rcases wt_dec (bo) 11 with c_10 | c_10
  · subst c_10
    refine lv_tableIn (off := 82) (tgt := 103) hx hb dX5_begin_21 (by decide) (by decide) rfl (by decide) ?_
    refine lv_aload_n hx hb dX5_begin_103 rfl (lv_at hl 1 rfl) ?_
    refine lv_aload_n hx hb dX5_begin_104 rfl (lv_at hl 2 rfl) ?_
    refine lv_bipush (v := 10) hx hb dX5_begin_105 (by decide) ?_
    refine lv_iload_n hx hb dX5_begin_107 rfl (lv_at hl 4 rfl) ?_
    refine lv_iload hx hb dX5_begin_108 (lv_at hl 0 rfl) ?_
    refine wt_goI (wr := []) (wt_runSZ (As := [.ref ho, .ref tr, .int 10, .int (nI j), .int (nI (d + 1))]) (rest := []) ⟨hx, hb, hml, hown, hts⟩ (c_X5_begin_1 l D cI cZ cH _ _ _ ho aK aH aU T j (d + 1) fK fH fU tr bg tc2_5 gf2_4 10 vz_0 vz_1 vz_2 vz_4 vz_5 vz_6 vz_8 vz_9 (by first | assumption | omega) (by first | assumption | omega) (by first | assumption | omega) (by first | assumption | omega)) (va_cwS 5 hts gX5_begin_X5_begin rfl rfl rfl (by decide +kernel) ⟨Nat.le_of_ble_eq_true rfl, Nat.le_of_ble_eq_true rfl⟩) hK hP hD [0, 1, 2, 3, 4, 5] rfl (by decide) hZ hS hA rfl hl.1 rfl (Nat.le_of_ble_eq_true rfl) dX5_begin_110 ⟨Nat.le_of_ble_eq_true rfl, Nat.le_of_ble_eq_true rfl⟩) hP hD hS hA [0, 1, 2, 3, 4, 5] [] rfl rfl (by decide) (by decide) (fun r_11 w_12 H locs h_13 hP hD hS => ?_)
    obtain ⟨gf2_14, tc2_15, rfl, x_16⟩ := h_13
    have hP : va_P D vwCl [(ho, .inr (0, [vz_0, vz_1, vz_2, .int (nI T), vz_4, vz_5, vz_6, .ref aK, vz_8, vz_9, .ref aH, .ref aU])), (aK, .inl (cI, 6, .inl fK)), (aH, .inl (cI, 6, .inl fH)), (aU, .inl (cI, 6, .inl fU)), (tr, .inr (4, [.ref bg, .int (nI tc2_15)])), (bg, .inl (cI, 16, .inl gf2_14))] H := hP
    have hD : va_D A [(ho, .inr (0, [vz_0, vz_1, vz_2, .int (nI T), vz_4, vz_5, vz_6, .ref aK, vz_8, vz_9, .ref aH, .ref aU])), (aK, .inl (cI, 6, .inl fK)), (aH, .inl (cI, 6, .inl fH)), (aU, .inl (cI, 6, .inl fU)), (tr, .inr (4, [.ref bg, .int (nI tc2_15)])), (bg, .inl (cI, 16, .inl gf2_14))] := hD
    refine lv_aload_n hx hb dX5_begin_113 rfl (lv_at hl 1 rfl) ?_
    refine lv_aload_n hx hb dX5_begin_114 rfl (lv_at hl 2 rfl) ?_
    refine lv_aload_n hx hb dX5_begin_115 rfl (lv_at hl 1 rfl) ?_
    refine lv_iload_n hx hb dX5_begin_116 rfl (lv_at hl 4 rfl) ?_
    refine wt_goI (wr := [(aH, .inl (cI, 6, .inl fH)), (aU, .inl (cI, 6, .inl fU)), (tr, .inr (4, [.ref bg, .int (nI tc2_15)])), (bg, .inl (cI, 16, .inl gf2_14))]) (wt_runSZ (As := [.ref ho, .int (nI j)]) (rest := [.ref tr, .ref ho, .int r_11]) ⟨hx, hb, hml, hown, hts⟩ (c_X5_markBody l D cI cZ cH _ _ _ ho aK T j fK vz_0 vz_1 vz_2 vz_4 vz_5 vz_6 vz_8 vz_9 (.ref aH) (.ref aU) (by first | assumption | omega) (by first | assumption | omega)) (va_cwS 2 hts gX5_begin_X5_markBody rfl rfl rfl (by decide +kernel) ⟨Nat.le_of_ble_eq_true rfl, Nat.le_of_ble_eq_true rfl⟩) hK hP hD [0, 1] rfl (by decide) hZ hS hA rfl hl.1 rfl (Nat.le_of_ble_eq_true rfl) dX5_begin_117 ⟨Nat.le_of_ble_eq_true rfl, Nat.le_of_ble_eq_true rfl⟩) hP hD hS hA [0, 1] [2, 3, 4, 5] rfl rfl (by decide) (by decide) (fun r_17 w_18 H locs h_19 hP hD hS => ?_)
    obtain rfl := h_19
    have hP : va_P D vwCl [(aH, .inl (cI, 6, .inl fH)), (aU, .inl (cI, 6, .inl fU)), (tr, .inr (4, [.ref bg, .int (nI tc2_15)])), (bg, .inl (cI, 16, .inl gf2_14)), (ho, .inr (0, [vz_0, vz_1, vz_2, .int (nI T), vz_4, vz_5, vz_6, .ref aK, vz_8, vz_9, .ref aH, .ref aU])), (aK, .inl (cI, 6, .inl fK))] H := hP
    have hD : va_D A [(aH, .inl (cI, 6, .inl fH)), (aU, .inl (cI, 6, .inl fU)), (tr, .inr (4, [.ref bg, .int (nI tc2_15)])), (bg, .inl (cI, 16, .inl gf2_14)), (ho, .inr (0, [vz_0, vz_1, vz_2, .int (nI T), vz_4, vz_5, vz_6, .ref aK, vz_8, vz_9, .ref aH, .ref aU])), (aK, .inl (cI, 6, .inl fK))] := hD
    refine lv_iload_n hx hb dX5_begin_120 rfl (lv_at hl 4 rfl) ?_
    refine lv_iload hx hb dX5_begin_121 (lv_at hl 0 rfl) ?_
    refine wt_goI (wr := []) (wt_runSZ (As := [.ref ho, .ref tr, .int r_17, .int (nI j), .int (nI (d + 1))]) (rest := [.int r_11]) ⟨hx, hb, hml, hown, hts⟩ (c_X5_begin_1 l D cI cZ cH _ _ _ ho aK aH aU T j (d + 1) fK fH fU tr bg tc2_15 gf2_14 r_17 vz_0 vz_1 vz_2 vz_4 vz_5 vz_6 vz_8 vz_9 (by first | assumption | omega) (by first | assumption | omega) (by first | assumption | omega) (by first | assumption | omega)) (va_cwS 5 hts gX5_begin_X5_begin rfl rfl rfl (by decide +kernel) ⟨Nat.le_of_ble_eq_true rfl, Nat.le_of_ble_eq_true rfl⟩) hK hP hD [4, 5, 0, 1, 2, 3] rfl (by decide) hZ hS hA rfl hl.1 rfl (Nat.le_of_ble_eq_true rfl) dX5_begin_123 ⟨Nat.le_of_ble_eq_true rfl, Nat.le_of_ble_eq_true rfl⟩) hP hD hS hA [4, 5, 0, 1, 2, 3] [] rfl rfl (by decide) (by decide) (fun r_20 w_21 H locs h_22 hP hD hS => ?_)
    obtain ⟨gf2_23, tc2_24, rfl, x_25⟩ := h_22
    have hP : va_P D vwCl [(ho, .inr (0, [vz_0, vz_1, vz_2, .int (nI T), vz_4, vz_5, vz_6, .ref aK, vz_8, vz_9, .ref aH, .ref aU])), (aK, .inl (cI, 6, .inl fK)), (aH, .inl (cI, 6, .inl fH)), (aU, .inl (cI, 6, .inl fU)), (tr, .inr (4, [.ref bg, .int (nI tc2_24)])), (bg, .inl (cI, 16, .inl gf2_23))] H := hP
    have hD : va_D A [(ho, .inr (0, [vz_0, vz_1, vz_2, .int (nI T), vz_4, vz_5, vz_6, .ref aK, vz_8, vz_9, .ref aH, .ref aU])), (aK, .inl (cI, 6, .inl fK)), (aH, .inl (cI, 6, .inl fH)), (aU, .inl (cI, 6, .inl fU)), (tr, .inr (4, [.ref bg, .int (nI tc2_24)])), (bg, .inl (cI, 16, .inl gf2_23))] := hD
    refine lv_iadd hx hb dX5_begin_126 ?_
    refine lv_topi (fun ov_26 _ => ?_)
    have hP9 := hP.sub (ws' := [(ho, .inr (0, [vz_0, vz_1, vz_2, .int (nI T), vz_4, vz_5, vz_6, .ref aK, vz_8, vz_9, .ref aH, .ref aU])), (aK, .inl (cI, 6, .inl fK)), (aH, .inl (cI, 6, .inl fH)), (aU, .inl (cI, 6, .inl fU)), (tr, .inr (4, [.ref bg, .int (nI tc2_24)])), (bg, .inl (cI, 16, .inl gf2_23))]) [0, 1, 2, 3, 4, 5] rfl
    have hD9 := hD.sub (ws' := [(ho, .inr (0, [vz_0, vz_1, vz_2, .int (nI T), vz_4, vz_5, vz_6, .ref aK, vz_8, vz_9, .ref aH, .ref aU])), (aK, .inl (cI, 6, .inl fK)), (aH, .inl (cI, 6, .inl fH)), (aU, .inl (cI, 6, .inl fU)), (tr, .inr (4, [.ref bg, .int (nI tc2_24)])), (bg, .inl (cI, 16, .inl gf2_23))]) [0, 1, 2, 3, 4, 5] (by decide) rfl
    exact wt_iret hx hb hr hlocks hP9 hD9 hS ⟨gf2_23, tc2_24, rfl, (by omega)⟩ dX5_begin_127
  rcases wt_dec (bo) 12 with c_27 | c_27
  · subst c_27
    refine lv_tableIn (off := 107) (tgt := 128) hx hb dX5_begin_21 (by decide) (by decide) rfl (by decide) ?_
    refine lv_aload_n hx hb dX5_begin_128 rfl (lv_at hl 1 rfl) ?_
    refine lv_aload_n hx hb dX5_begin_129 rfl (lv_at hl 2 rfl) ?_
    refine lv_bipush (v := 11) hx hb dX5_begin_130 (by decide) ?_
    refine lv_iload_n hx hb dX5_begin_132 rfl (lv_at hl 4 rfl) ?_
    refine lv_iload hx hb dX5_begin_133 (lv_at hl 0 rfl) ?_
    refine wt_goI (wr := []) (wt_runSZ (As := [.ref ho, .ref tr, .int 11, .int (nI j), .int (nI (d + 1))]) (rest := []) ⟨hx, hb, hml, hown, hts⟩ (c_X5_begin_1 l D cI cZ cH _ _ _ ho aK aH aU T j (d + 1) fK fH fU tr bg tc2_5 gf2_4 11 vz_0 vz_1 vz_2 vz_4 vz_5 vz_6 vz_8 vz_9 (by first | assumption | omega) (by first | assumption | omega) (by first | assumption | omega) (by first | assumption | omega)) (va_cwS 5 hts gX5_begin_X5_begin rfl rfl rfl (by decide +kernel) ⟨Nat.le_of_ble_eq_true rfl, Nat.le_of_ble_eq_true rfl⟩) hK hP hD [0, 1, 2, 3, 4, 5] rfl (by decide) hZ hS hA rfl hl.1 rfl (Nat.le_of_ble_eq_true rfl) dX5_begin_135 ⟨Nat.le_of_ble_eq_true rfl, Nat.le_of_ble_eq_true rfl⟩) hP hD hS hA [0, 1, 2, 3, 4, 5] [] rfl rfl (by decide) (by decide) (fun r_28 w_29 H locs h_30 hP hD hS => ?_)
    obtain ⟨gf2_31, tc2_32, rfl, x_33⟩ := h_30
    have hP : va_P D vwCl [(ho, .inr (0, [vz_0, vz_1, vz_2, .int (nI T), vz_4, vz_5, vz_6, .ref aK, vz_8, vz_9, .ref aH, .ref aU])), (aK, .inl (cI, 6, .inl fK)), (aH, .inl (cI, 6, .inl fH)), (aU, .inl (cI, 6, .inl fU)), (tr, .inr (4, [.ref bg, .int (nI tc2_32)])), (bg, .inl (cI, 16, .inl gf2_31))] H := hP
    have hD : va_D A [(ho, .inr (0, [vz_0, vz_1, vz_2, .int (nI T), vz_4, vz_5, vz_6, .ref aK, vz_8, vz_9, .ref aH, .ref aU])), (aK, .inl (cI, 6, .inl fK)), (aH, .inl (cI, 6, .inl fH)), (aU, .inl (cI, 6, .inl fU)), (tr, .inr (4, [.ref bg, .int (nI tc2_32)])), (bg, .inl (cI, 16, .inl gf2_31))] := hD
    refine lv_ineg hx hb dX5_begin_138 ?_
    refine lv_topi (fun ov_34 _ => ?_)
    have hP9 := hP.sub (ws' := [(ho, .inr (0, [vz_0, vz_1, vz_2, .int (nI T), vz_4, vz_5, vz_6, .ref aK, vz_8, vz_9, .ref aH, .ref aU])), (aK, .inl (cI, 6, .inl fK)), (aH, .inl (cI, 6, .inl fH)), (aU, .inl (cI, 6, .inl fU)), (tr, .inr (4, [.ref bg, .int (nI tc2_32)])), (bg, .inl (cI, 16, .inl gf2_31))]) [0, 1, 2, 3, 4, 5] rfl
    have hD9 := hD.sub (ws' := [(ho, .inr (0, [vz_0, vz_1, vz_2, .int (nI T), vz_4, vz_5, vz_6, .ref aK, vz_8, vz_9, .ref aH, .ref aU])), (aK, .inl (cI, 6, .inl fK)), (aH, .inl (cI, 6, .inl fH)), (aU, .inl (cI, 6, .inl fU)), (tr, .inr (4, [.ref bg, .int (nI tc2_32)])), (bg, .inl (cI, 16, .inl gf2_31))]) [0, 1, 2, 3, 4, 5] (by decide) rfl
    exact wt_iret hx hb hr hlocks hP9 hD9 hS ⟨gf2_31, tc2_32, rfl, (by omega)⟩ dX5_begin_139
  rcases wt_dec (bo) 13 with c_35 | c_35
  · subst c_35
    refine lv_tableIn (off := 119) (tgt := 140) hx hb dX5_begin_21 (by decide) (by decide) rfl (by decide) ?_
    refine lv_aload_n hx hb dX5_begin_140 rfl (lv_at hl 1 rfl) ?_
    refine lv_aload_n hx hb dX5_begin_141 rfl (lv_at hl 2 rfl) ?_
    refine lv_bipush (v := 10) hx hb dX5_begin_142 (by decide) ?_
    refine lv_iload_n hx hb dX5_begin_144 rfl (lv_at hl 4 rfl) ?_
    refine lv_iload hx hb dX5_begin_145 (lv_at hl 0 rfl) ?_
    refine wt_goI (wr := []) (wt_runSZ (As := [.ref ho, .ref tr, .int 10, .int (nI j), .int (nI (d + 1))]) (rest := []) ⟨hx, hb, hml, hown, hts⟩ (c_X5_begin_1 l D cI cZ cH _ _ _ ho aK aH aU T j (d + 1) fK fH fU tr bg tc2_5 gf2_4 10 vz_0 vz_1 vz_2 vz_4 vz_5 vz_6 vz_8 vz_9 (by first | assumption | omega) (by first | assumption | omega) (by first | assumption | omega) (by first | assumption | omega)) (va_cwS 5 hts gX5_begin_X5_begin rfl rfl rfl (by decide +kernel) ⟨Nat.le_of_ble_eq_true rfl, Nat.le_of_ble_eq_true rfl⟩) hK hP hD [0, 1, 2, 3, 4, 5] rfl (by decide) hZ hS hA rfl hl.1 rfl (Nat.le_of_ble_eq_true rfl) dX5_begin_147 ⟨Nat.le_of_ble_eq_true rfl, Nat.le_of_ble_eq_true rfl⟩) hP hD hS hA [0, 1, 2, 3, 4, 5] [] rfl rfl (by decide) (by decide) (fun r_36 w_37 H locs h_38 hP hD hS => ?_)
    obtain ⟨gf2_39, tc2_40, rfl, x_41⟩ := h_38
    have hP : va_P D vwCl [(ho, .inr (0, [vz_0, vz_1, vz_2, .int (nI T), vz_4, vz_5, vz_6, .ref aK, vz_8, vz_9, .ref aH, .ref aU])), (aK, .inl (cI, 6, .inl fK)), (aH, .inl (cI, 6, .inl fH)), (aU, .inl (cI, 6, .inl fU)), (tr, .inr (4, [.ref bg, .int (nI tc2_40)])), (bg, .inl (cI, 16, .inl gf2_39))] H := hP
    have hD : va_D A [(ho, .inr (0, [vz_0, vz_1, vz_2, .int (nI T), vz_4, vz_5, vz_6, .ref aK, vz_8, vz_9, .ref aH, .ref aU])), (aK, .inl (cI, 6, .inl fK)), (aH, .inl (cI, 6, .inl fH)), (aU, .inl (cI, 6, .inl fU)), (tr, .inr (4, [.ref bg, .int (nI tc2_40)])), (bg, .inl (cI, 16, .inl gf2_39))] := hD
    refine lv_bipush (v := 100) hx hb dX5_begin_150 (by decide) ?_
    refine lv_isub hx hb dX5_begin_152 ?_
    refine lv_topi (fun ov_42 _ => ?_)
    have hP9 := hP.sub (ws' := [(ho, .inr (0, [vz_0, vz_1, vz_2, .int (nI T), vz_4, vz_5, vz_6, .ref aK, vz_8, vz_9, .ref aH, .ref aU])), (aK, .inl (cI, 6, .inl fK)), (aH, .inl (cI, 6, .inl fH)), (aU, .inl (cI, 6, .inl fU)), (tr, .inr (4, [.ref bg, .int (nI tc2_40)])), (bg, .inl (cI, 16, .inl gf2_39))]) [0, 1, 2, 3, 4, 5] rfl
    have hD9 := hD.sub (ws' := [(ho, .inr (0, [vz_0, vz_1, vz_2, .int (nI T), vz_4, vz_5, vz_6, .ref aK, vz_8, vz_9, .ref aH, .ref aU])), (aK, .inl (cI, 6, .inl fK)), (aH, .inl (cI, 6, .inl fH)), (aU, .inl (cI, 6, .inl fU)), (tr, .inr (4, [.ref bg, .int (nI tc2_40)])), (bg, .inl (cI, 16, .inl gf2_39))]) [0, 1, 2, 3, 4, 5] (by decide) rfl
    exact wt_iret hx hb hr hlocks hP9 hD9 hS ⟨gf2_39, tc2_40, rfl, (by omega)⟩ dX5_begin_153
  rcases wt_dec (bo) 14 with c_43 | c_43
  · subst c_43
    refine lv_tableIn (off := 133) (tgt := 154) hx hb dX5_begin_21 (by decide) (by decide) rfl (by decide) ?_
    refine lv_aload_n hx hb dX5_begin_154 rfl (lv_at hl 1 rfl) ?_
    refine lv_aload_n hx hb dX5_begin_155 rfl (lv_at hl 2 rfl) ?_
    refine lv_bipush (v := 13) hx hb dX5_begin_156 (by decide) ?_
    refine lv_iload_n hx hb dX5_begin_158 rfl (lv_at hl 4 rfl) ?_
    refine lv_iload hx hb dX5_begin_159 (lv_at hl 0 rfl) ?_
    refine wt_goI (wr := []) (wt_runSZ (As := [.ref ho, .ref tr, .int 13, .int (nI j), .int (nI (d + 1))]) (rest := []) ⟨hx, hb, hml, hown, hts⟩ (c_X5_begin_1 l D cI cZ cH _ _ _ ho aK aH aU T j (d + 1) fK fH fU tr bg tc2_5 gf2_4 13 vz_0 vz_1 vz_2 vz_4 vz_5 vz_6 vz_8 vz_9 (by first | assumption | omega) (by first | assumption | omega) (by first | assumption | omega) (by first | assumption | omega)) (va_cwS 5 hts gX5_begin_X5_begin rfl rfl rfl (by decide +kernel) ⟨Nat.le_of_ble_eq_true rfl, Nat.le_of_ble_eq_true rfl⟩) hK hP hD [0, 1, 2, 3, 4, 5] rfl (by decide) hZ hS hA rfl hl.1 rfl (Nat.le_of_ble_eq_true rfl) dX5_begin_161 ⟨Nat.le_of_ble_eq_true rfl, Nat.le_of_ble_eq_true rfl⟩) hP hD hS hA [0, 1, 2, 3, 4, 5] [] rfl rfl (by decide) (by decide) (fun r_44 w_45 H locs h_46 hP hD hS => ?_)
    obtain ⟨gf2_47, tc2_48, rfl, x_49⟩ := h_46
    have hP : va_P D vwCl [(ho, .inr (0, [vz_0, vz_1, vz_2, .int (nI T), vz_4, vz_5, vz_6, .ref aK, vz_8, vz_9, .ref aH, .ref aU])), (aK, .inl (cI, 6, .inl fK)), (aH, .inl (cI, 6, .inl fH)), (aU, .inl (cI, 6, .inl fU)), (tr, .inr (4, [.ref bg, .int (nI tc2_48)])), (bg, .inl (cI, 16, .inl gf2_47))] H := hP
    have hD : va_D A [(ho, .inr (0, [vz_0, vz_1, vz_2, .int (nI T), vz_4, vz_5, vz_6, .ref aK, vz_8, vz_9, .ref aH, .ref aU])), (aK, .inl (cI, 6, .inl fK)), (aH, .inl (cI, 6, .inl fH)), (aU, .inl (cI, 6, .inl fU)), (tr, .inr (4, [.ref bg, .int (nI tc2_48)])), (bg, .inl (cI, 16, .inl gf2_47))] := hD
    refine lv_iconst (v := 2) hx hb dX5_begin_164 (by decide) ?_
    refine lv_imul hx hb dX5_begin_165 ?_
    refine lv_topi (fun ov_50 _ => ?_)
    have hP9 := hP.sub (ws' := [(ho, .inr (0, [vz_0, vz_1, vz_2, .int (nI T), vz_4, vz_5, vz_6, .ref aK, vz_8, vz_9, .ref aH, .ref aU])), (aK, .inl (cI, 6, .inl fK)), (aH, .inl (cI, 6, .inl fH)), (aU, .inl (cI, 6, .inl fU)), (tr, .inr (4, [.ref bg, .int (nI tc2_48)])), (bg, .inl (cI, 16, .inl gf2_47))]) [0, 1, 2, 3, 4, 5] rfl
    have hD9 := hD.sub (ws' := [(ho, .inr (0, [vz_0, vz_1, vz_2, .int (nI T), vz_4, vz_5, vz_6, .ref aK, vz_8, vz_9, .ref aH, .ref aU])), (aK, .inl (cI, 6, .inl fK)), (aH, .inl (cI, 6, .inl fH)), (aU, .inl (cI, 6, .inl fU)), (tr, .inr (4, [.ref bg, .int (nI tc2_48)])), (bg, .inl (cI, 16, .inl gf2_47))]) [0, 1, 2, 3, 4, 5] (by decide) rfl
    exact wt_iret hx hb hr hlocks hP9 hD9 hS ⟨gf2_47, tc2_48, rfl, (by omega)⟩ dX5_begin_166
  rcases wt_dec (bo) 15 with c_51 | c_51
  · subst c_51
    refine lv_tableIn (off := 219) (tgt := 240) hx hb dX5_begin_21 (by decide) (by decide) rfl (by decide) ?_
    refine lv_iconst (v := 0) hx hb dX5_begin_240 (by decide) ?_
    have hP9 := hP.sub (ws' := [(ho, .inr (0, [vz_0, vz_1, vz_2, .int (nI T), vz_4, vz_5, vz_6, .ref aK, vz_8, vz_9, .ref aH, .ref aU])), (aK, .inl (cI, 6, .inl fK)), (aH, .inl (cI, 6, .inl fH)), (aU, .inl (cI, 6, .inl fU)), (tr, .inr (4, [.ref bg, .int (nI tc2_5)])), (bg, .inl (cI, 16, .inl gf2_4))]) [0, 1, 2, 3, 4, 5] rfl
    have hD9 := hD.sub (ws' := [(ho, .inr (0, [vz_0, vz_1, vz_2, .int (nI T), vz_4, vz_5, vz_6, .ref aK, vz_8, vz_9, .ref aH, .ref aU])), (aK, .inl (cI, 6, .inl fK)), (aH, .inl (cI, 6, .inl fH)), (aU, .inl (cI, 6, .inl fU)), (tr, .inr (4, [.ref bg, .int (nI tc2_5)])), (bg, .inl (cI, 16, .inl gf2_4))]) [0, 1, 2, 3, 4, 5] (by decide) rfl
    exact wt_iret hx hb hr hlocks hP9 hD9 hS ⟨gf2_4, tc2_5, rfl, (by omega)⟩ dX5_begin_241
  rcases wt_dec (bo) 16 with c_52 | c_52
  · subst c_52
    refine lv_tableIn (off := 219) (tgt := 240) hx hb dX5_begin_21 (by decide) (by decide) rfl (by decide) ?_
    refine lv_iconst (v := 0) hx hb dX5_begin_240 (by decide) ?_
    have hP9 := hP.sub (ws' := [(ho, .inr (0, [vz_0, vz_1, vz_2, .int (nI T), vz_4, vz_5, vz_6, .ref aK, vz_8, vz_9, .ref aH, .ref aU])), (aK, .inl (cI, 6, .inl fK)), (aH, .inl (cI, 6, .inl fH)), (aU, .inl (cI, 6, .inl fU)), (tr, .inr (4, [.ref bg, .int (nI tc2_5)])), (bg, .inl (cI, 16, .inl gf2_4))]) [0, 1, 2, 3, 4, 5] rfl
    have hD9 := hD.sub (ws' := [(ho, .inr (0, [vz_0, vz_1, vz_2, .int (nI T), vz_4, vz_5, vz_6, .ref aK, vz_8, vz_9, .ref aH, .ref aU])), (aK, .inl (cI, 6, .inl fK)), (aH, .inl (cI, 6, .inl fH)), (aU, .inl (cI, 6, .inl fU)), (tr, .inr (4, [.ref bg, .int (nI tc2_5)])), (bg, .inl (cI, 16, .inl gf2_4))]) [0, 1, 2, 3, 4, 5] (by decide) rfl
    exact wt_iret hx hb hr hlocks hP9 hD9 hS ⟨gf2_4, tc2_5, rfl, (by omega)⟩ dX5_begin_241
  rcases wt_dec (bo) 17 with c_53 | c_53
  · subst c_53
    refine lv_tableIn (off := 219) (tgt := 240) hx hb dX5_begin_21 (by decide) (by decide) rfl (by decide) ?_
    refine lv_iconst (v := 0) hx hb dX5_begin_240 (by decide) ?_
    have hP9 := hP.sub (ws' := [(ho, .inr (0, [vz_0, vz_1, vz_2, .int (nI T), vz_4, vz_5, vz_6, .ref aK, vz_8, vz_9, .ref aH, .ref aU])), (aK, .inl (cI, 6, .inl fK)), (aH, .inl (cI, 6, .inl fH)), (aU, .inl (cI, 6, .inl fU)), (tr, .inr (4, [.ref bg, .int (nI tc2_5)])), (bg, .inl (cI, 16, .inl gf2_4))]) [0, 1, 2, 3, 4, 5] rfl
    have hD9 := hD.sub (ws' := [(ho, .inr (0, [vz_0, vz_1, vz_2, .int (nI T), vz_4, vz_5, vz_6, .ref aK, vz_8, vz_9, .ref aH, .ref aU])), (aK, .inl (cI, 6, .inl fK)), (aH, .inl (cI, 6, .inl fH)), (aU, .inl (cI, 6, .inl fU)), (tr, .inr (4, [.ref bg, .int (nI tc2_5)])), (bg, .inl (cI, 16, .inl gf2_4))]) [0, 1, 2, 3, 4, 5] (by decide) rfl
    exact wt_iret hx hb hr hlocks hP9 hD9 hS ⟨gf2_4, tc2_5, rfl, (by omega)⟩ dX5_begin_241
  rcases wt_dec (bo) 18 with c_54 | c_54
  · subst c_54
    refine lv_tableIn (off := 219) (tgt := 240) hx hb dX5_begin_21 (by decide) (by decide) rfl (by decide) ?_
    refine lv_iconst (v := 0) hx hb dX5_begin_240 (by decide) ?_
    have hP9 := hP.sub (ws' := [(ho, .inr (0, [vz_0, vz_1, vz_2, .int (nI T), vz_4, vz_5, vz_6, .ref aK, vz_8, vz_9, .ref aH, .ref aU])), (aK, .inl (cI, 6, .inl fK)), (aH, .inl (cI, 6, .inl fH)), (aU, .inl (cI, 6, .inl fU)), (tr, .inr (4, [.ref bg, .int (nI tc2_5)])), (bg, .inl (cI, 16, .inl gf2_4))]) [0, 1, 2, 3, 4, 5] rfl
    have hD9 := hD.sub (ws' := [(ho, .inr (0, [vz_0, vz_1, vz_2, .int (nI T), vz_4, vz_5, vz_6, .ref aK, vz_8, vz_9, .ref aH, .ref aU])), (aK, .inl (cI, 6, .inl fK)), (aH, .inl (cI, 6, .inl fH)), (aU, .inl (cI, 6, .inl fU)), (tr, .inr (4, [.ref bg, .int (nI tc2_5)])), (bg, .inl (cI, 16, .inl gf2_4))]) [0, 1, 2, 3, 4, 5] (by decide) rfl
    exact wt_iret hx hb hr hlocks hP9 hD9 hS ⟨gf2_4, tc2_5, rfl, (by omega)⟩ dX5_begin_241
  rcases wt_dec (bo) 19 with c_55 | c_55
  · subst c_55
    refine lv_tableIn (off := 219) (tgt := 240) hx hb dX5_begin_21 (by decide) (by decide) rfl (by decide) ?_
    refine lv_iconst (v := 0) hx hb dX5_begin_240 (by decide) ?_
    have hP9 := hP.sub (ws' := [(ho, .inr (0, [vz_0, vz_1, vz_2, .int (nI T), vz_4, vz_5, vz_6, .ref aK, vz_8, vz_9, .ref aH, .ref aU])), (aK, .inl (cI, 6, .inl fK)), (aH, .inl (cI, 6, .inl fH)), (aU, .inl (cI, 6, .inl fU)), (tr, .inr (4, [.ref bg, .int (nI tc2_5)])), (bg, .inl (cI, 16, .inl gf2_4))]) [0, 1, 2, 3, 4, 5] rfl
    have hD9 := hD.sub (ws' := [(ho, .inr (0, [vz_0, vz_1, vz_2, .int (nI T), vz_4, vz_5, vz_6, .ref aK, vz_8, vz_9, .ref aH, .ref aU])), (aK, .inl (cI, 6, .inl fK)), (aH, .inl (cI, 6, .inl fH)), (aU, .inl (cI, 6, .inl fU)), (tr, .inr (4, [.ref bg, .int (nI tc2_5)])), (bg, .inl (cI, 16, .inl gf2_4))]) [0, 1, 2, 3, 4, 5] (by decide) rfl
    exact wt_iret hx hb hr hlocks hP9 hD9 hS ⟨gf2_4, tc2_5, rfl, (by omega)⟩ dX5_begin_241
  rcases wt_dec (bo) 20 with c_56 | c_56
  · subst c_56
    refine lv_tableIn (off := 146) (tgt := 167) hx hb dX5_begin_21 (by decide) (by decide) rfl (by decide) ?_
    refine lv_iload_n hx hb dX5_begin_167 rfl (lv_at hl 4 rfl) ?_
    have hP9 := hP.sub (ws' := [(ho, .inr (0, [vz_0, vz_1, vz_2, .int (nI T), vz_4, vz_5, vz_6, .ref aK, vz_8, vz_9, .ref aH, .ref aU])), (aK, .inl (cI, 6, .inl fK)), (aH, .inl (cI, 6, .inl fH)), (aU, .inl (cI, 6, .inl fU)), (tr, .inr (4, [.ref bg, .int (nI tc2_5)])), (bg, .inl (cI, 16, .inl gf2_4))]) [0, 1, 2, 3, 4, 5] rfl
    have hD9 := hD.sub (ws' := [(ho, .inr (0, [vz_0, vz_1, vz_2, .int (nI T), vz_4, vz_5, vz_6, .ref aK, vz_8, vz_9, .ref aH, .ref aU])), (aK, .inl (cI, 6, .inl fK)), (aH, .inl (cI, 6, .inl fH)), (aU, .inl (cI, 6, .inl fU)), (tr, .inr (4, [.ref bg, .int (nI tc2_5)])), (bg, .inl (cI, 16, .inl gf2_4))]) [0, 1, 2, 3, 4, 5] (by decide) rfl
    exact wt_iret hx hb hr hlocks hP9 hD9 hS ⟨gf2_4, tc2_5, rfl, (by omega)⟩ dX5_begin_168
  rcases wt_dec (bo) 21 with c_57 | c_57
  · subst c_57
    refine lv_tableIn (off := 148) (tgt := 169) hx hb dX5_begin_21 (by decide) (by decide) rfl (by decide) ?_
    refine lv_aload_n hx hb dX5_begin_169 rfl (lv_at hl 1 rfl) ?_
    refine lv_aload_n hx hb dX5_begin_170 rfl (lv_at hl 2 rfl) ?_
    refine lv_bipush (v := 20) hx hb dX5_begin_171 (by decide) ?_
    refine lv_iload_n hx hb dX5_begin_173 rfl (lv_at hl 4 rfl) ?_
    refine lv_iload hx hb dX5_begin_174 (lv_at hl 0 rfl) ?_
    refine wt_goI (wr := []) (wt_runSZ (As := [.ref ho, .ref tr, .int 20, .int (nI j), .int (nI (d + 1))]) (rest := []) ⟨hx, hb, hml, hown, hts⟩ (c_X5_begin_1 l D cI cZ cH _ _ _ ho aK aH aU T j (d + 1) fK fH fU tr bg tc2_5 gf2_4 20 vz_0 vz_1 vz_2 vz_4 vz_5 vz_6 vz_8 vz_9 (by first | assumption | omega) (by first | assumption | omega) (by first | assumption | omega) (by first | assumption | omega)) (va_cwS 5 hts gX5_begin_X5_begin rfl rfl rfl (by decide +kernel) ⟨Nat.le_of_ble_eq_true rfl, Nat.le_of_ble_eq_true rfl⟩) hK hP hD [0, 1, 2, 3, 4, 5] rfl (by decide) hZ hS hA rfl hl.1 rfl (Nat.le_of_ble_eq_true rfl) dX5_begin_176 ⟨Nat.le_of_ble_eq_true rfl, Nat.le_of_ble_eq_true rfl⟩) hP hD hS hA [0, 1, 2, 3, 4, 5] [] rfl rfl (by decide) (by decide) (fun r_58 w_59 H locs h_60 hP hD hS => ?_)
    obtain ⟨gf2_61, tc2_62, rfl, x_63⟩ := h_60
    have hP : va_P D vwCl [(ho, .inr (0, [vz_0, vz_1, vz_2, .int (nI T), vz_4, vz_5, vz_6, .ref aK, vz_8, vz_9, .ref aH, .ref aU])), (aK, .inl (cI, 6, .inl fK)), (aH, .inl (cI, 6, .inl fH)), (aU, .inl (cI, 6, .inl fU)), (tr, .inr (4, [.ref bg, .int (nI tc2_62)])), (bg, .inl (cI, 16, .inl gf2_61))] H := hP
    have hD : va_D A [(ho, .inr (0, [vz_0, vz_1, vz_2, .int (nI T), vz_4, vz_5, vz_6, .ref aK, vz_8, vz_9, .ref aH, .ref aU])), (aK, .inl (cI, 6, .inl fK)), (aH, .inl (cI, 6, .inl fH)), (aU, .inl (cI, 6, .inl fU)), (tr, .inr (4, [.ref bg, .int (nI tc2_62)])), (bg, .inl (cI, 16, .inl gf2_61))] := hD
    refine lv_aload_n hx hb dX5_begin_179 rfl (lv_at hl 1 rfl) ?_
    refine va_get (D := D) (ci := 0) (v := .ref aU) (C := RX0) (T := TX0) (N := 12) hx hb hts hi0 hown hK.1 hP 0 rfl rfl 11 (by decide) wf175 (fun _ h9 => h9) rfl dX5_begin_180 ?_
    refine lv_iload_n hx hb dX5_begin_183 rfl (lv_at hl 4 rfl) ?_
    refine va_iald hx hb hK.1 hP 3 0 rfl rfl (vp_in_nI (by omega) (by omega)) dX5_begin_184 ?_
    refine lv_topi (fun ov_64 _ => ?_)
    refine lv_iadd hx hb dX5_begin_185 ?_
    refine lv_topi (fun ov_65 _ => ?_)
    have hP9 := hP.sub (ws' := [(ho, .inr (0, [vz_0, vz_1, vz_2, .int (nI T), vz_4, vz_5, vz_6, .ref aK, vz_8, vz_9, .ref aH, .ref aU])), (aK, .inl (cI, 6, .inl fK)), (aH, .inl (cI, 6, .inl fH)), (aU, .inl (cI, 6, .inl fU)), (tr, .inr (4, [.ref bg, .int (nI tc2_62)])), (bg, .inl (cI, 16, .inl gf2_61))]) [0, 1, 2, 3, 4, 5] rfl
    have hD9 := hD.sub (ws' := [(ho, .inr (0, [vz_0, vz_1, vz_2, .int (nI T), vz_4, vz_5, vz_6, .ref aK, vz_8, vz_9, .ref aH, .ref aU])), (aK, .inl (cI, 6, .inl fK)), (aH, .inl (cI, 6, .inl fH)), (aU, .inl (cI, 6, .inl fU)), (tr, .inr (4, [.ref bg, .int (nI tc2_62)])), (bg, .inl (cI, 16, .inl gf2_61))]) [0, 1, 2, 3, 4, 5] (by decide) rfl
    exact wt_iret hx hb hr hlocks hP9 hD9 hS ⟨gf2_61, tc2_62, rfl, (by omega)⟩ dX5_begin_186
  rcases wt_dec (bo) 22 with c_66 | c_66
  · subst c_66
    refine lv_tableIn (off := 166) (tgt := 187) hx hb dX5_begin_21 (by decide) (by decide) rfl (by decide) ?_
    refine lv_aload_n hx hb dX5_begin_187 rfl (lv_at hl 1 rfl) ?_
    refine lv_aload_n hx hb dX5_begin_188 rfl (lv_at hl 2 rfl) ?_
    refine lv_bipush (v := 21) hx hb dX5_begin_189 (by decide) ?_
    refine lv_iload_n hx hb dX5_begin_191 rfl (lv_at hl 4 rfl) ?_
    refine lv_iload hx hb dX5_begin_192 (lv_at hl 0 rfl) ?_
    refine wt_goI (wr := []) (wt_runSZ (As := [.ref ho, .ref tr, .int 21, .int (nI j), .int (nI (d + 1))]) (rest := []) ⟨hx, hb, hml, hown, hts⟩ (c_X5_begin_1 l D cI cZ cH _ _ _ ho aK aH aU T j (d + 1) fK fH fU tr bg tc2_5 gf2_4 21 vz_0 vz_1 vz_2 vz_4 vz_5 vz_6 vz_8 vz_9 (by first | assumption | omega) (by first | assumption | omega) (by first | assumption | omega) (by first | assumption | omega)) (va_cwS 5 hts gX5_begin_X5_begin rfl rfl rfl (by decide +kernel) ⟨Nat.le_of_ble_eq_true rfl, Nat.le_of_ble_eq_true rfl⟩) hK hP hD [0, 1, 2, 3, 4, 5] rfl (by decide) hZ hS hA rfl hl.1 rfl (Nat.le_of_ble_eq_true rfl) dX5_begin_194 ⟨Nat.le_of_ble_eq_true rfl, Nat.le_of_ble_eq_true rfl⟩) hP hD hS hA [0, 1, 2, 3, 4, 5] [] rfl rfl (by decide) (by decide) (fun r_67 w_68 H locs h_69 hP hD hS => ?_)
    obtain ⟨gf2_70, tc2_71, rfl, x_72⟩ := h_69
    have hP : va_P D vwCl [(ho, .inr (0, [vz_0, vz_1, vz_2, .int (nI T), vz_4, vz_5, vz_6, .ref aK, vz_8, vz_9, .ref aH, .ref aU])), (aK, .inl (cI, 6, .inl fK)), (aH, .inl (cI, 6, .inl fH)), (aU, .inl (cI, 6, .inl fU)), (tr, .inr (4, [.ref bg, .int (nI tc2_71)])), (bg, .inl (cI, 16, .inl gf2_70))] H := hP
    have hD : va_D A [(ho, .inr (0, [vz_0, vz_1, vz_2, .int (nI T), vz_4, vz_5, vz_6, .ref aK, vz_8, vz_9, .ref aH, .ref aU])), (aK, .inl (cI, 6, .inl fK)), (aH, .inl (cI, 6, .inl fH)), (aU, .inl (cI, 6, .inl fU)), (tr, .inr (4, [.ref bg, .int (nI tc2_71)])), (bg, .inl (cI, 16, .inl gf2_70))] := hD
    refine lv_sipush (v := 1000) hx hb dX5_begin_197 (by decide) ?_
    refine lv_isub hx hb dX5_begin_200 ?_
    refine lv_topi (fun ov_73 _ => ?_)
    have hP9 := hP.sub (ws' := [(ho, .inr (0, [vz_0, vz_1, vz_2, .int (nI T), vz_4, vz_5, vz_6, .ref aK, vz_8, vz_9, .ref aH, .ref aU])), (aK, .inl (cI, 6, .inl fK)), (aH, .inl (cI, 6, .inl fH)), (aU, .inl (cI, 6, .inl fU)), (tr, .inr (4, [.ref bg, .int (nI tc2_71)])), (bg, .inl (cI, 16, .inl gf2_70))]) [0, 1, 2, 3, 4, 5] rfl
    have hD9 := hD.sub (ws' := [(ho, .inr (0, [vz_0, vz_1, vz_2, .int (nI T), vz_4, vz_5, vz_6, .ref aK, vz_8, vz_9, .ref aH, .ref aU])), (aK, .inl (cI, 6, .inl fK)), (aH, .inl (cI, 6, .inl fH)), (aU, .inl (cI, 6, .inl fU)), (tr, .inr (4, [.ref bg, .int (nI tc2_71)])), (bg, .inl (cI, 16, .inl gf2_70))]) [0, 1, 2, 3, 4, 5] (by decide) rfl
    exact wt_iret hx hb hr hlocks hP9 hD9 hS ⟨gf2_70, tc2_71, rfl, (by omega)⟩ dX5_begin_201
  rcases wt_dec (bo) 23 with c_74 | c_74
  · subst c_74
    refine lv_tableIn (off := 181) (tgt := 202) hx hb dX5_begin_21 (by decide) (by decide) rfl (by decide) ?_
    refine lv_aload_n hx hb dX5_begin_202 rfl (lv_at hl 1 rfl) ?_
    refine lv_aload_n hx hb dX5_begin_203 rfl (lv_at hl 2 rfl) ?_
    refine lv_bipush (v := 20) hx hb dX5_begin_204 (by decide) ?_
    refine lv_iload_n hx hb dX5_begin_206 rfl (lv_at hl 4 rfl) ?_
    refine lv_iload hx hb dX5_begin_207 (lv_at hl 0 rfl) ?_
    refine wt_goI (wr := []) (wt_runSZ (As := [.ref ho, .ref tr, .int 20, .int (nI j), .int (nI (d + 1))]) (rest := []) ⟨hx, hb, hml, hown, hts⟩ (c_X5_begin_1 l D cI cZ cH _ _ _ ho aK aH aU T j (d + 1) fK fH fU tr bg tc2_5 gf2_4 20 vz_0 vz_1 vz_2 vz_4 vz_5 vz_6 vz_8 vz_9 (by first | assumption | omega) (by first | assumption | omega) (by first | assumption | omega) (by first | assumption | omega)) (va_cwS 5 hts gX5_begin_X5_begin rfl rfl rfl (by decide +kernel) ⟨Nat.le_of_ble_eq_true rfl, Nat.le_of_ble_eq_true rfl⟩) hK hP hD [0, 1, 2, 3, 4, 5] rfl (by decide) hZ hS hA rfl hl.1 rfl (Nat.le_of_ble_eq_true rfl) dX5_begin_209 ⟨Nat.le_of_ble_eq_true rfl, Nat.le_of_ble_eq_true rfl⟩) hP hD hS hA [0, 1, 2, 3, 4, 5] [] rfl rfl (by decide) (by decide) (fun r_75 w_76 H locs h_77 hP hD hS => ?_)
    obtain ⟨gf2_78, tc2_79, rfl, x_80⟩ := h_77
    have hP : va_P D vwCl [(ho, .inr (0, [vz_0, vz_1, vz_2, .int (nI T), vz_4, vz_5, vz_6, .ref aK, vz_8, vz_9, .ref aH, .ref aU])), (aK, .inl (cI, 6, .inl fK)), (aH, .inl (cI, 6, .inl fH)), (aU, .inl (cI, 6, .inl fU)), (tr, .inr (4, [.ref bg, .int (nI tc2_79)])), (bg, .inl (cI, 16, .inl gf2_78))] H := hP
    have hD : va_D A [(ho, .inr (0, [vz_0, vz_1, vz_2, .int (nI T), vz_4, vz_5, vz_6, .ref aK, vz_8, vz_9, .ref aH, .ref aU])), (aK, .inl (cI, 6, .inl fK)), (aH, .inl (cI, 6, .inl fH)), (aU, .inl (cI, 6, .inl fU)), (tr, .inr (4, [.ref bg, .int (nI tc2_79)])), (bg, .inl (cI, 16, .inl gf2_78))] := hD
    refine lv_aload_n hx hb dX5_begin_212 rfl (lv_at hl 1 rfl) ?_
    refine lv_aload_n hx hb dX5_begin_213 rfl (lv_at hl 2 rfl) ?_
    refine lv_aload_n hx hb dX5_begin_214 rfl (lv_at hl 1 rfl) ?_
    refine lv_iload_n hx hb dX5_begin_215 rfl (lv_at hl 4 rfl) ?_
    refine wt_goI (wr := [(aH, .inl (cI, 6, .inl fH)), (aU, .inl (cI, 6, .inl fU)), (tr, .inr (4, [.ref bg, .int (nI tc2_79)])), (bg, .inl (cI, 16, .inl gf2_78))]) (wt_runSZ (As := [.ref ho, .int (nI j)]) (rest := [.ref tr, .ref ho, .int r_75]) ⟨hx, hb, hml, hown, hts⟩ (c_X5_sizeBody l D cI cZ cH _ _ _ ho aK T j fK vz_0 vz_1 vz_2 vz_4 vz_5 vz_6 vz_8 vz_9 (.ref aH) (.ref aU) (by first | assumption | omega) (by first | assumption | omega)) (va_cwS 2 hts gX5_begin_X5_sizeBody rfl rfl rfl (by decide +kernel) ⟨Nat.le_of_ble_eq_true rfl, Nat.le_of_ble_eq_true rfl⟩) hK hP hD [0, 1] rfl (by decide) hZ hS hA rfl hl.1 rfl (Nat.le_of_ble_eq_true rfl) dX5_begin_216 ⟨Nat.le_of_ble_eq_true rfl, Nat.le_of_ble_eq_true rfl⟩) hP hD hS hA [0, 1] [2, 3, 4, 5] rfl rfl (by decide) (by decide) (fun r_81 w_82 H locs h_83 hP hD hS => ?_)
    obtain rfl := h_83
    have hP : va_P D vwCl [(aH, .inl (cI, 6, .inl fH)), (aU, .inl (cI, 6, .inl fU)), (tr, .inr (4, [.ref bg, .int (nI tc2_79)])), (bg, .inl (cI, 16, .inl gf2_78)), (ho, .inr (0, [vz_0, vz_1, vz_2, .int (nI T), vz_4, vz_5, vz_6, .ref aK, vz_8, vz_9, .ref aH, .ref aU])), (aK, .inl (cI, 6, .inl fK))] H := hP
    have hD : va_D A [(aH, .inl (cI, 6, .inl fH)), (aU, .inl (cI, 6, .inl fU)), (tr, .inr (4, [.ref bg, .int (nI tc2_79)])), (bg, .inl (cI, 16, .inl gf2_78)), (ho, .inr (0, [vz_0, vz_1, vz_2, .int (nI T), vz_4, vz_5, vz_6, .ref aK, vz_8, vz_9, .ref aH, .ref aU])), (aK, .inl (cI, 6, .inl fK))] := hD
    refine lv_iload_n hx hb dX5_begin_219 rfl (lv_at hl 4 rfl) ?_
    refine lv_iload hx hb dX5_begin_220 (lv_at hl 0 rfl) ?_
    refine wt_goI (wr := []) (wt_runSZ (As := [.ref ho, .ref tr, .int r_81, .int (nI j), .int (nI (d + 1))]) (rest := [.int r_75]) ⟨hx, hb, hml, hown, hts⟩ (c_X5_begin_1 l D cI cZ cH _ _ _ ho aK aH aU T j (d + 1) fK fH fU tr bg tc2_79 gf2_78 r_81 vz_0 vz_1 vz_2 vz_4 vz_5 vz_6 vz_8 vz_9 (by first | assumption | omega) (by first | assumption | omega) (by first | assumption | omega) (by first | assumption | omega)) (va_cwS 5 hts gX5_begin_X5_begin rfl rfl rfl (by decide +kernel) ⟨Nat.le_of_ble_eq_true rfl, Nat.le_of_ble_eq_true rfl⟩) hK hP hD [4, 5, 0, 1, 2, 3] rfl (by decide) hZ hS hA rfl hl.1 rfl (Nat.le_of_ble_eq_true rfl) dX5_begin_222 ⟨Nat.le_of_ble_eq_true rfl, Nat.le_of_ble_eq_true rfl⟩) hP hD hS hA [4, 5, 0, 1, 2, 3] [] rfl rfl (by decide) (by decide) (fun r_84 w_85 H locs h_86 hP hD hS => ?_)
    obtain ⟨gf2_87, tc2_88, rfl, x_89⟩ := h_86
    have hP : va_P D vwCl [(ho, .inr (0, [vz_0, vz_1, vz_2, .int (nI T), vz_4, vz_5, vz_6, .ref aK, vz_8, vz_9, .ref aH, .ref aU])), (aK, .inl (cI, 6, .inl fK)), (aH, .inl (cI, 6, .inl fH)), (aU, .inl (cI, 6, .inl fU)), (tr, .inr (4, [.ref bg, .int (nI tc2_88)])), (bg, .inl (cI, 16, .inl gf2_87))] H := hP
    have hD : va_D A [(ho, .inr (0, [vz_0, vz_1, vz_2, .int (nI T), vz_4, vz_5, vz_6, .ref aK, vz_8, vz_9, .ref aH, .ref aU])), (aK, .inl (cI, 6, .inl fK)), (aH, .inl (cI, 6, .inl fH)), (aU, .inl (cI, 6, .inl fU)), (tr, .inr (4, [.ref bg, .int (nI tc2_88)])), (bg, .inl (cI, 16, .inl gf2_87))] := hD
    refine lv_isub hx hb dX5_begin_225 ?_
    refine lv_topi (fun ov_90 _ => ?_)
    have hP9 := hP.sub (ws' := [(ho, .inr (0, [vz_0, vz_1, vz_2, .int (nI T), vz_4, vz_5, vz_6, .ref aK, vz_8, vz_9, .ref aH, .ref aU])), (aK, .inl (cI, 6, .inl fK)), (aH, .inl (cI, 6, .inl fH)), (aU, .inl (cI, 6, .inl fU)), (tr, .inr (4, [.ref bg, .int (nI tc2_88)])), (bg, .inl (cI, 16, .inl gf2_87))]) [0, 1, 2, 3, 4, 5] rfl
    have hD9 := hD.sub (ws' := [(ho, .inr (0, [vz_0, vz_1, vz_2, .int (nI T), vz_4, vz_5, vz_6, .ref aK, vz_8, vz_9, .ref aH, .ref aU])), (aK, .inl (cI, 6, .inl fK)), (aH, .inl (cI, 6, .inl fH)), (aU, .inl (cI, 6, .inl fU)), (tr, .inr (4, [.ref bg, .int (nI tc2_88)])), (bg, .inl (cI, 16, .inl gf2_87))]) [0, 1, 2, 3, 4, 5] (by decide) rfl
    exact wt_iret hx hb hr hlocks hP9 hD9 hS ⟨gf2_87, tc2_88, rfl, (by omega)⟩ dX5_begin_226
  rcases wt_dec (bo) 24 with c_91 | c_91
  · subst c_91
    refine lv_tableIn (off := 206) (tgt := 227) hx hb dX5_begin_21 (by decide) (by decide) rfl (by decide) ?_
    refine lv_aload_n hx hb dX5_begin_227 rfl (lv_at hl 1 rfl) ?_
    refine lv_aload_n hx hb dX5_begin_228 rfl (lv_at hl 2 rfl) ?_
    refine lv_bipush (v := 21) hx hb dX5_begin_229 (by decide) ?_
    refine lv_iload_n hx hb dX5_begin_231 rfl (lv_at hl 4 rfl) ?_
    refine lv_iload hx hb dX5_begin_232 (lv_at hl 0 rfl) ?_
    refine wt_goI (wr := []) (wt_runSZ (As := [.ref ho, .ref tr, .int 21, .int (nI j), .int (nI (d + 1))]) (rest := []) ⟨hx, hb, hml, hown, hts⟩ (c_X5_begin_1 l D cI cZ cH _ _ _ ho aK aH aU T j (d + 1) fK fH fU tr bg tc2_5 gf2_4 21 vz_0 vz_1 vz_2 vz_4 vz_5 vz_6 vz_8 vz_9 (by first | assumption | omega) (by first | assumption | omega) (by first | assumption | omega) (by first | assumption | omega)) (va_cwS 5 hts gX5_begin_X5_begin rfl rfl rfl (by decide +kernel) ⟨Nat.le_of_ble_eq_true rfl, Nat.le_of_ble_eq_true rfl⟩) hK hP hD [0, 1, 2, 3, 4, 5] rfl (by decide) hZ hS hA rfl hl.1 rfl (Nat.le_of_ble_eq_true rfl) dX5_begin_234 ⟨Nat.le_of_ble_eq_true rfl, Nat.le_of_ble_eq_true rfl⟩) hP hD hS hA [0, 1, 2, 3, 4, 5] [] rfl rfl (by decide) (by decide) (fun r_92 w_93 H locs h_94 hP hD hS => ?_)
    obtain ⟨gf2_95, tc2_96, rfl, x_97⟩ := h_94
    have hP : va_P D vwCl [(ho, .inr (0, [vz_0, vz_1, vz_2, .int (nI T), vz_4, vz_5, vz_6, .ref aK, vz_8, vz_9, .ref aH, .ref aU])), (aK, .inl (cI, 6, .inl fK)), (aH, .inl (cI, 6, .inl fH)), (aU, .inl (cI, 6, .inl fU)), (tr, .inr (4, [.ref bg, .int (nI tc2_96)])), (bg, .inl (cI, 16, .inl gf2_95))] H := hP
    have hD : va_D A [(ho, .inr (0, [vz_0, vz_1, vz_2, .int (nI T), vz_4, vz_5, vz_6, .ref aK, vz_8, vz_9, .ref aH, .ref aU])), (aK, .inl (cI, 6, .inl fK)), (aH, .inl (cI, 6, .inl fH)), (aU, .inl (cI, 6, .inl fU)), (tr, .inr (4, [.ref bg, .int (nI tc2_96)])), (bg, .inl (cI, 16, .inl gf2_95))] := hD
    refine lv_iconst (v := 2) hx hb dX5_begin_237 (by decide) ?_
    refine lv_imul hx hb dX5_begin_238 ?_
    refine lv_topi (fun ov_98 _ => ?_)
    have hP9 := hP.sub (ws' := [(ho, .inr (0, [vz_0, vz_1, vz_2, .int (nI T), vz_4, vz_5, vz_6, .ref aK, vz_8, vz_9, .ref aH, .ref aU])), (aK, .inl (cI, 6, .inl fK)), (aH, .inl (cI, 6, .inl fH)), (aU, .inl (cI, 6, .inl fU)), (tr, .inr (4, [.ref bg, .int (nI tc2_96)])), (bg, .inl (cI, 16, .inl gf2_95))]) [0, 1, 2, 3, 4, 5] rfl
    have hD9 := hD.sub (ws' := [(ho, .inr (0, [vz_0, vz_1, vz_2, .int (nI T), vz_4, vz_5, vz_6, .ref aK, vz_8, vz_9, .ref aH, .ref aU])), (aK, .inl (cI, 6, .inl fK)), (aH, .inl (cI, 6, .inl fH)), (aU, .inl (cI, 6, .inl fU)), (tr, .inr (4, [.ref bg, .int (nI tc2_96)])), (bg, .inl (cI, 16, .inl gf2_95))]) [0, 1, 2, 3, 4, 5] (by decide) rfl
    exact wt_iret hx hb hr hlocks hP9 hD9 hS ⟨gf2_95, tc2_96, rfl, (by omega)⟩ dX5_begin_239
  refine lv_tableOut (tgt := 240) hx hb dX5_begin_21 (by have := lv_neT (a := 10) c_8 rfl; have := lv_neT (a := 11) c_10 rfl; have := lv_neT (a := 12) c_27 rfl; have := lv_neT (a := 13) c_35 rfl; have := lv_neT (a := 14) c_43 rfl; have := lv_neT (a := 15) c_51 rfl; have := lv_neT (a := 16) c_52 rfl; have := lv_neT (a := 17) c_53 rfl; have := lv_neT (a := 18) c_54 rfl; have := lv_neT (a := 19) c_55 rfl; have := lv_neT (a := 20) c_56 rfl; have := lv_neT (a := 21) c_57 rfl; have := lv_neT (a := 22) c_66 rfl; have := lv_neT (a := 23) c_74 rfl; have := lv_neT (a := 24) c_91 rfl; omega) (by decide) ?_
  refine lv_iconst (v := 0) hx hb dX5_begin_240 (by decide) ?_
  have hP9 := hP.sub (ws' := [(ho, .inr (0, [vz_0, vz_1, vz_2, .int (nI T), vz_4, vz_5, vz_6, .ref aK, vz_8, vz_9, .ref aH, .ref aU])), (aK, .inl (cI, 6, .inl fK)), (aH, .inl (cI, 6, .inl fH)), (aU, .inl (cI, 6, .inl fU)), (tr, .inr (4, [.ref bg, .int (nI tc2_5)])), (bg, .inl (cI, 16, .inl gf2_4))]) [0, 1, 2, 3, 4, 5] rfl
  have hD9 := hD.sub (ws' := [(ho, .inr (0, [vz_0, vz_1, vz_2, .int (nI T), vz_4, vz_5, vz_6, .ref aK, vz_8, vz_9, .ref aH, .ref aU])), (aK, .inl (cI, 6, .inl fK)), (aH, .inl (cI, 6, .inl fH)), (aU, .inl (cI, 6, .inl fU)), (tr, .inr (4, [.ref bg, .int (nI tc2_5)])), (bg, .inl (cI, 16, .inl gf2_4))]) [0, 1, 2, 3, 4, 5] (by decide) rfl
  exact wt_iret hx hb hr hlocks hP9 hD9 hS ⟨gf2_4, tc2_5, rfl, (by omega)⟩ dX5_begin_241
set_option maxHeartbeats 4000000 in
set_option maxRecDepth 100000 in
theorem c_X5_begin_3 (l : Launch) (D : va_G) (cI cZ cH : ClassId) (ab sb mb : Nat) (ho aK aH aU : Nat) (T j d : Nat) (fK fH fU : Nat → Int32) (tr bg : Nat) (tc : Nat) (gf : Nat → Int32) (bo : Int32) (vz_0 vz_1 vz_2 vz_4 vz_5 vz_6 vz_8 vz_9 : Value) (hT6 : T ≤ 6) (hjT : j < T) (hd : d + 3 = 16) (htc : tc ≤ 16) : wt_MZ (wt_ZS ab sb mb abF sbF mbF) l yX5_begin wsX5_begin ({ frames := 4, cells := 0, slots := 0, locals := 94 } : Room) D (wt_T cI cZ cH) [.ref ho, .ref tr, .int bo, .int (nI j), .int (nI d)] [(ho, .inr (0, [vz_0, vz_1, vz_2, .int (nI T), vz_4, vz_5, vz_6, .ref aK, vz_8, vz_9, .ref aH, .ref aU])), (aK, .inl (cI, 6, .inl fK)), (aH, .inl (cI, 6, .inl fH)), (aU, .inl (cI, 6, .inl fU)), (tr, .inr (4, [.ref bg, .int (nI tc)])), (bg, .inl (cI, 16, .inl gf))] (wt_QI D (fun r w => ∃ (gf2 : Nat → Int32) (tc2 : Nat), w = [(ho, .inr (0, [vz_0, vz_1, vz_2, .int (nI T), vz_4, vz_5, vz_6, .ref aK, vz_8, vz_9, .ref aH, .ref aU])), (aK, .inl (cI, 6, .inl fK)), (aH, .inl (cI, 6, .inl fH)), (aU, .inl (cI, 6, .inl fU)), (tr, .inr (4, [.ref bg, .int (nI tc2)])), (bg, .inl (cI, 16, .inl gf2))] ∧ tc2 ≤ 16)) := by
  refine wt_MZ.ofW (cc := cX5_begin) (maxL := 6) (ret := (some .int)) (by decide) rfl (Nat.le_of_ble_eq_true rfl) ?_
  intro p e s m below meth c A ls hx hb hr hts hown hlocks hml hnm hP hK hD hA hS hl hZ
  have hP : va_P D vwCl [(ho, .inr (0, [vz_0, vz_1, vz_2, .int (nI T), vz_4, vz_5, vz_6, .ref aK, vz_8, vz_9, .ref aH, .ref aU])), (aK, .inl (cI, 6, .inl fK)), (aH, .inl (cI, 6, .inl fH)), (aU, .inl (cI, 6, .inl fU)), (tr, .inr (4, [.ref bg, .int (nI tc)])), (bg, .inl (cI, 16, .inl gf))] s.heap := hP
  have hown : s.vm.findClass RX5 = some m.cls := hown
  have hl : lv_has ls 6 [(0, .ref ho), (1, .ref tr), (2, .int bo), (3, .int (nI j)), (4, .int (nI d))] := hl
  have hi0 : ∀ w ∈ u_ws RX0 TX0 12, w ∈ wsX5_begin := by decide +kernel
  have wf175 := hts (.fieldLink RX5 175 "WarmTubes$House" "up" "[I") (by decide +kernel)
  have wf196 := hts (.fieldLink RX5 196 "WarmTubes$House" "holds" "[I") (by decide +kernel)
  refine lv_iload hx hb dX5_begin_0 (lv_at hl 4 rfl) ?_
  refine lv_bipush (v := 16) hx hb dX5_begin_2 (by decide) ?_
  refine lv_icmp_lt (tgt := 9) hx hb dX5_begin_4 (by decide) (fun _ => ?_) (fun h => absurd (nI_lt (a := d) (b := 16) (by omega) (by omega)) h)
  refine lv_aload_n hx hb dX5_begin_9 rfl (lv_at hl 1 rfl) ?_
  refine lv_iload_n hx hb dX5_begin_10 rfl (lv_at hl 2 rfl) ?_
  refine wt_goV (wr := [(ho, .inr (0, [vz_0, vz_1, vz_2, .int (nI T), vz_4, vz_5, vz_6, .ref aK, vz_8, vz_9, .ref aH, .ref aU])), (aK, .inl (cI, 6, .inl fK)), (aH, .inl (cI, 6, .inl fH)), (aU, .inl (cI, 6, .inl fU))]) (wt_runV (As := [.int bo]) (rest := []) ⟨hx, hb, hml, hown, hts⟩ (c_X4_leave l D cI cZ cH tr bg tc gf bo (by first | assumption | omega)) (cwV 1 hts gX5_begin_X4_leave rfl rfl rfl (by decide +kernel) ⟨Nat.le_of_ble_eq_true rfl, Nat.le_of_ble_eq_true rfl⟩) hK hP hD [4, 5] rfl (by decide) (va_recv hK.1 hP (ci := 4) (q0 := 4) rfl rfl) rfl hl.1 rfl (Nat.le_of_ble_eq_true rfl) dX5_begin_11 ⟨Nat.le_of_ble_eq_true rfl, Nat.le_of_ble_eq_true rfl⟩) hP hD hS hA [4, 5] [0, 1, 2, 3] rfl rfl (by decide) (by decide) (fun w_2 H locs h_3 hP hD hS => ?_)
  obtain ⟨gf2_4, tc2_5, rfl, x_6⟩ := h_3
  have hP : va_P D vwCl [(ho, .inr (0, [vz_0, vz_1, vz_2, .int (nI T), vz_4, vz_5, vz_6, .ref aK, vz_8, vz_9, .ref aH, .ref aU])), (aK, .inl (cI, 6, .inl fK)), (aH, .inl (cI, 6, .inl fH)), (aU, .inl (cI, 6, .inl fU)), (tr, .inr (4, [.ref bg, .int (nI tc2_5)])), (bg, .inl (cI, 16, .inl gf2_4))] H := hP
  have hD : va_D A [(ho, .inr (0, [vz_0, vz_1, vz_2, .int (nI T), vz_4, vz_5, vz_6, .ref aK, vz_8, vz_9, .ref aH, .ref aU])), (aK, .inl (cI, 6, .inl fK)), (aH, .inl (cI, 6, .inl fH)), (aU, .inl (cI, 6, .inl fU)), (tr, .inr (4, [.ref bg, .int (nI tc2_5)])), (bg, .inl (cI, 16, .inl gf2_4))] := hD
  refine lv_iload hx hb dX5_begin_14 (lv_at hl 4 rfl) ?_
  refine lv_iconst (v := 1) hx hb dX5_begin_16 (by decide) ?_
  refine lv_iadd hx hb dX5_begin_17 ?_
  refine wt_top (z := nI (d + 1)) (nI_add d 1) ?_
  refine lv_istore (lv' := [(5, .int (nI (d + 1))), (0, .ref ho), (1, .ref tr), (2, .int bo), (3, .int (nI j)), (4, .int (nI d))]) hx hb dX5_begin_18 hl (by decide) rfl (fun ls hl => ?_)
  refine lv_iload_n hx hb dX5_begin_20 rfl (lv_at hl 3 rfl) ?_
  rcases wt_dec (bo) 10 with c_8 | c_8
  · subst c_8
    refine lv_tableIn (off := 75) (tgt := 96) hx hb dX5_begin_21 (by decide) (by decide) rfl (by decide) ?_
    refine lv_aload_n hx hb dX5_begin_96 rfl (lv_at hl 1 rfl) ?_
    refine va_get (D := D) (ci := 0) (v := .ref aH) (C := RX0) (T := TX0) (N := 12) hx hb hts hi0 hown hK.1 hP 0 rfl rfl 10 (by decide) wf196 (fun _ h9 => h9) rfl dX5_begin_97 ?_
    refine lv_iload_n hx hb dX5_begin_100 rfl (lv_at hl 4 rfl) ?_
    refine va_iald hx hb hK.1 hP 2 0 rfl rfl (vp_in_nI (by omega) (by omega)) dX5_begin_101 ?_
    refine lv_topi (fun ov_9 _ => ?_)
    have hP9 := hP.sub (ws' := [(ho, .inr (0, [vz_0, vz_1, vz_2, .int (nI T), vz_4, vz_5, vz_6, .ref aK, vz_8, vz_9, .ref aH, .ref aU])), (aK, .inl (cI, 6, .inl fK)), (aH, .inl (cI, 6, .inl fH)), (aU, .inl (cI, 6, .inl fU)), (tr, .inr (4, [.ref bg, .int (nI tc2_5)])), (bg, .inl (cI, 16, .inl gf2_4))]) [0, 1, 2, 3, 4, 5] rfl
    have hD9 := hD.sub (ws' := [(ho, .inr (0, [vz_0, vz_1, vz_2, .int (nI T), vz_4, vz_5, vz_6, .ref aK, vz_8, vz_9, .ref aH, .ref aU])), (aK, .inl (cI, 6, .inl fK)), (aH, .inl (cI, 6, .inl fH)), (aU, .inl (cI, 6, .inl fU)), (tr, .inr (4, [.ref bg, .int (nI tc2_5)])), (bg, .inl (cI, 16, .inl gf2_4))]) [0, 1, 2, 3, 4, 5] (by decide) rfl
    exact wt_iret hx hb hr hlocks hP9 hD9 hS ⟨gf2_4, tc2_5, rfl, (by omega)⟩ dX5_begin_102
  rcases wt_dec (bo) 11 with c_10 | c_10
  · subst c_10
    refine lv_tableIn (off := 82) (tgt := 103) hx hb dX5_begin_21 (by decide) (by decide) rfl (by decide) ?_
    refine lv_aload_n hx hb dX5_begin_103 rfl (lv_at hl 1 rfl) ?_
    refine lv_aload_n hx hb dX5_begin_104 rfl (lv_at hl 2 rfl) ?_
    refine lv_bipush (v := 10) hx hb dX5_begin_105 (by decide) ?_
    refine lv_iload_n hx hb dX5_begin_107 rfl (lv_at hl 4 rfl) ?_
    refine lv_iload hx hb dX5_begin_108 (lv_at hl 0 rfl) ?_
    refine wt_goI (wr := []) (wt_runSZ (As := [.ref ho, .ref tr, .int 10, .int (nI j), .int (nI (d + 1))]) (rest := []) ⟨hx, hb, hml, hown, hts⟩ (c_X5_begin_2 l D cI cZ cH _ _ _ ho aK aH aU T j (d + 1) fK fH fU tr bg tc2_5 gf2_4 10 vz_0 vz_1 vz_2 vz_4 vz_5 vz_6 vz_8 vz_9 (by first | assumption | omega) (by first | assumption | omega) (by first | assumption | omega) (by first | assumption | omega)) (va_cwS 5 hts gX5_begin_X5_begin rfl rfl rfl (by decide +kernel) ⟨Nat.le_of_ble_eq_true rfl, Nat.le_of_ble_eq_true rfl⟩) hK hP hD [0, 1, 2, 3, 4, 5] rfl (by decide) hZ hS hA rfl hl.1 rfl (Nat.le_of_ble_eq_true rfl) dX5_begin_110 ⟨Nat.le_of_ble_eq_true rfl, Nat.le_of_ble_eq_true rfl⟩) hP hD hS hA [0, 1, 2, 3, 4, 5] [] rfl rfl (by decide) (by decide) (fun r_11 w_12 H locs h_13 hP hD hS => ?_)
    obtain ⟨gf2_14, tc2_15, rfl, x_16⟩ := h_13
    have hP : va_P D vwCl [(ho, .inr (0, [vz_0, vz_1, vz_2, .int (nI T), vz_4, vz_5, vz_6, .ref aK, vz_8, vz_9, .ref aH, .ref aU])), (aK, .inl (cI, 6, .inl fK)), (aH, .inl (cI, 6, .inl fH)), (aU, .inl (cI, 6, .inl fU)), (tr, .inr (4, [.ref bg, .int (nI tc2_15)])), (bg, .inl (cI, 16, .inl gf2_14))] H := hP
    have hD : va_D A [(ho, .inr (0, [vz_0, vz_1, vz_2, .int (nI T), vz_4, vz_5, vz_6, .ref aK, vz_8, vz_9, .ref aH, .ref aU])), (aK, .inl (cI, 6, .inl fK)), (aH, .inl (cI, 6, .inl fH)), (aU, .inl (cI, 6, .inl fU)), (tr, .inr (4, [.ref bg, .int (nI tc2_15)])), (bg, .inl (cI, 16, .inl gf2_14))] := hD
    refine lv_aload_n hx hb dX5_begin_113 rfl (lv_at hl 1 rfl) ?_
    refine lv_aload_n hx hb dX5_begin_114 rfl (lv_at hl 2 rfl) ?_
    refine lv_aload_n hx hb dX5_begin_115 rfl (lv_at hl 1 rfl) ?_
    refine lv_iload_n hx hb dX5_begin_116 rfl (lv_at hl 4 rfl) ?_
    refine wt_goI (wr := [(aH, .inl (cI, 6, .inl fH)), (aU, .inl (cI, 6, .inl fU)), (tr, .inr (4, [.ref bg, .int (nI tc2_15)])), (bg, .inl (cI, 16, .inl gf2_14))]) (wt_runSZ (As := [.ref ho, .int (nI j)]) (rest := [.ref tr, .ref ho, .int r_11]) ⟨hx, hb, hml, hown, hts⟩ (c_X5_markBody l D cI cZ cH _ _ _ ho aK T j fK vz_0 vz_1 vz_2 vz_4 vz_5 vz_6 vz_8 vz_9 (.ref aH) (.ref aU) (by first | assumption | omega) (by first | assumption | omega)) (va_cwS 2 hts gX5_begin_X5_markBody rfl rfl rfl (by decide +kernel) ⟨Nat.le_of_ble_eq_true rfl, Nat.le_of_ble_eq_true rfl⟩) hK hP hD [0, 1] rfl (by decide) hZ hS hA rfl hl.1 rfl (Nat.le_of_ble_eq_true rfl) dX5_begin_117 ⟨Nat.le_of_ble_eq_true rfl, Nat.le_of_ble_eq_true rfl⟩) hP hD hS hA [0, 1] [2, 3, 4, 5] rfl rfl (by decide) (by decide) (fun r_17 w_18 H locs h_19 hP hD hS => ?_)
    obtain rfl := h_19
    have hP : va_P D vwCl [(aH, .inl (cI, 6, .inl fH)), (aU, .inl (cI, 6, .inl fU)), (tr, .inr (4, [.ref bg, .int (nI tc2_15)])), (bg, .inl (cI, 16, .inl gf2_14)), (ho, .inr (0, [vz_0, vz_1, vz_2, .int (nI T), vz_4, vz_5, vz_6, .ref aK, vz_8, vz_9, .ref aH, .ref aU])), (aK, .inl (cI, 6, .inl fK))] H := hP
    have hD : va_D A [(aH, .inl (cI, 6, .inl fH)), (aU, .inl (cI, 6, .inl fU)), (tr, .inr (4, [.ref bg, .int (nI tc2_15)])), (bg, .inl (cI, 16, .inl gf2_14)), (ho, .inr (0, [vz_0, vz_1, vz_2, .int (nI T), vz_4, vz_5, vz_6, .ref aK, vz_8, vz_9, .ref aH, .ref aU])), (aK, .inl (cI, 6, .inl fK))] := hD
    refine lv_iload_n hx hb dX5_begin_120 rfl (lv_at hl 4 rfl) ?_
    refine lv_iload hx hb dX5_begin_121 (lv_at hl 0 rfl) ?_
    refine wt_goI (wr := []) (wt_runSZ (As := [.ref ho, .ref tr, .int r_17, .int (nI j), .int (nI (d + 1))]) (rest := [.int r_11]) ⟨hx, hb, hml, hown, hts⟩ (c_X5_begin_2 l D cI cZ cH _ _ _ ho aK aH aU T j (d + 1) fK fH fU tr bg tc2_15 gf2_14 r_17 vz_0 vz_1 vz_2 vz_4 vz_5 vz_6 vz_8 vz_9 (by first | assumption | omega) (by first | assumption | omega) (by first | assumption | omega) (by first | assumption | omega)) (va_cwS 5 hts gX5_begin_X5_begin rfl rfl rfl (by decide +kernel) ⟨Nat.le_of_ble_eq_true rfl, Nat.le_of_ble_eq_true rfl⟩) hK hP hD [4, 5, 0, 1, 2, 3] rfl (by decide) hZ hS hA rfl hl.1 rfl (Nat.le_of_ble_eq_true rfl) dX5_begin_123 ⟨Nat.le_of_ble_eq_true rfl, Nat.le_of_ble_eq_true rfl⟩) hP hD hS hA [4, 5, 0, 1, 2, 3] [] rfl rfl (by decide) (by decide) (fun r_20 w_21 H locs h_22 hP hD hS => ?_)
    obtain ⟨gf2_23, tc2_24, rfl, x_25⟩ := h_22
    have hP : va_P D vwCl [(ho, .inr (0, [vz_0, vz_1, vz_2, .int (nI T), vz_4, vz_5, vz_6, .ref aK, vz_8, vz_9, .ref aH, .ref aU])), (aK, .inl (cI, 6, .inl fK)), (aH, .inl (cI, 6, .inl fH)), (aU, .inl (cI, 6, .inl fU)), (tr, .inr (4, [.ref bg, .int (nI tc2_24)])), (bg, .inl (cI, 16, .inl gf2_23))] H := hP
    have hD : va_D A [(ho, .inr (0, [vz_0, vz_1, vz_2, .int (nI T), vz_4, vz_5, vz_6, .ref aK, vz_8, vz_9, .ref aH, .ref aU])), (aK, .inl (cI, 6, .inl fK)), (aH, .inl (cI, 6, .inl fH)), (aU, .inl (cI, 6, .inl fU)), (tr, .inr (4, [.ref bg, .int (nI tc2_24)])), (bg, .inl (cI, 16, .inl gf2_23))] := hD
    refine lv_iadd hx hb dX5_begin_126 ?_
    refine lv_topi (fun ov_26 _ => ?_)
    have hP9 := hP.sub (ws' := [(ho, .inr (0, [vz_0, vz_1, vz_2, .int (nI T), vz_4, vz_5, vz_6, .ref aK, vz_8, vz_9, .ref aH, .ref aU])), (aK, .inl (cI, 6, .inl fK)), (aH, .inl (cI, 6, .inl fH)), (aU, .inl (cI, 6, .inl fU)), (tr, .inr (4, [.ref bg, .int (nI tc2_24)])), (bg, .inl (cI, 16, .inl gf2_23))]) [0, 1, 2, 3, 4, 5] rfl
    have hD9 := hD.sub (ws' := [(ho, .inr (0, [vz_0, vz_1, vz_2, .int (nI T), vz_4, vz_5, vz_6, .ref aK, vz_8, vz_9, .ref aH, .ref aU])), (aK, .inl (cI, 6, .inl fK)), (aH, .inl (cI, 6, .inl fH)), (aU, .inl (cI, 6, .inl fU)), (tr, .inr (4, [.ref bg, .int (nI tc2_24)])), (bg, .inl (cI, 16, .inl gf2_23))]) [0, 1, 2, 3, 4, 5] (by decide) rfl
    exact wt_iret hx hb hr hlocks hP9 hD9 hS ⟨gf2_23, tc2_24, rfl, (by omega)⟩ dX5_begin_127
  rcases wt_dec (bo) 12 with c_27 | c_27
  · subst c_27
    refine lv_tableIn (off := 107) (tgt := 128) hx hb dX5_begin_21 (by decide) (by decide) rfl (by decide) ?_
    refine lv_aload_n hx hb dX5_begin_128 rfl (lv_at hl 1 rfl) ?_
    refine lv_aload_n hx hb dX5_begin_129 rfl (lv_at hl 2 rfl) ?_
    refine lv_bipush (v := 11) hx hb dX5_begin_130 (by decide) ?_
    refine lv_iload_n hx hb dX5_begin_132 rfl (lv_at hl 4 rfl) ?_
    refine lv_iload hx hb dX5_begin_133 (lv_at hl 0 rfl) ?_
    refine wt_goI (wr := []) (wt_runSZ (As := [.ref ho, .ref tr, .int 11, .int (nI j), .int (nI (d + 1))]) (rest := []) ⟨hx, hb, hml, hown, hts⟩ (c_X5_begin_2 l D cI cZ cH _ _ _ ho aK aH aU T j (d + 1) fK fH fU tr bg tc2_5 gf2_4 11 vz_0 vz_1 vz_2 vz_4 vz_5 vz_6 vz_8 vz_9 (by first | assumption | omega) (by first | assumption | omega) (by first | assumption | omega) (by first | assumption | omega)) (va_cwS 5 hts gX5_begin_X5_begin rfl rfl rfl (by decide +kernel) ⟨Nat.le_of_ble_eq_true rfl, Nat.le_of_ble_eq_true rfl⟩) hK hP hD [0, 1, 2, 3, 4, 5] rfl (by decide) hZ hS hA rfl hl.1 rfl (Nat.le_of_ble_eq_true rfl) dX5_begin_135 ⟨Nat.le_of_ble_eq_true rfl, Nat.le_of_ble_eq_true rfl⟩) hP hD hS hA [0, 1, 2, 3, 4, 5] [] rfl rfl (by decide) (by decide) (fun r_28 w_29 H locs h_30 hP hD hS => ?_)
    obtain ⟨gf2_31, tc2_32, rfl, x_33⟩ := h_30
    have hP : va_P D vwCl [(ho, .inr (0, [vz_0, vz_1, vz_2, .int (nI T), vz_4, vz_5, vz_6, .ref aK, vz_8, vz_9, .ref aH, .ref aU])), (aK, .inl (cI, 6, .inl fK)), (aH, .inl (cI, 6, .inl fH)), (aU, .inl (cI, 6, .inl fU)), (tr, .inr (4, [.ref bg, .int (nI tc2_32)])), (bg, .inl (cI, 16, .inl gf2_31))] H := hP
    have hD : va_D A [(ho, .inr (0, [vz_0, vz_1, vz_2, .int (nI T), vz_4, vz_5, vz_6, .ref aK, vz_8, vz_9, .ref aH, .ref aU])), (aK, .inl (cI, 6, .inl fK)), (aH, .inl (cI, 6, .inl fH)), (aU, .inl (cI, 6, .inl fU)), (tr, .inr (4, [.ref bg, .int (nI tc2_32)])), (bg, .inl (cI, 16, .inl gf2_31))] := hD
    refine lv_ineg hx hb dX5_begin_138 ?_
    refine lv_topi (fun ov_34 _ => ?_)
    have hP9 := hP.sub (ws' := [(ho, .inr (0, [vz_0, vz_1, vz_2, .int (nI T), vz_4, vz_5, vz_6, .ref aK, vz_8, vz_9, .ref aH, .ref aU])), (aK, .inl (cI, 6, .inl fK)), (aH, .inl (cI, 6, .inl fH)), (aU, .inl (cI, 6, .inl fU)), (tr, .inr (4, [.ref bg, .int (nI tc2_32)])), (bg, .inl (cI, 16, .inl gf2_31))]) [0, 1, 2, 3, 4, 5] rfl
    have hD9 := hD.sub (ws' := [(ho, .inr (0, [vz_0, vz_1, vz_2, .int (nI T), vz_4, vz_5, vz_6, .ref aK, vz_8, vz_9, .ref aH, .ref aU])), (aK, .inl (cI, 6, .inl fK)), (aH, .inl (cI, 6, .inl fH)), (aU, .inl (cI, 6, .inl fU)), (tr, .inr (4, [.ref bg, .int (nI tc2_32)])), (bg, .inl (cI, 16, .inl gf2_31))]) [0, 1, 2, 3, 4, 5] (by decide) rfl
    exact wt_iret hx hb hr hlocks hP9 hD9 hS ⟨gf2_31, tc2_32, rfl, (by omega)⟩ dX5_begin_139
  rcases wt_dec (bo) 13 with c_35 | c_35
  · subst c_35
    refine lv_tableIn (off := 119) (tgt := 140) hx hb dX5_begin_21 (by decide) (by decide) rfl (by decide) ?_
    refine lv_aload_n hx hb dX5_begin_140 rfl (lv_at hl 1 rfl) ?_
    refine lv_aload_n hx hb dX5_begin_141 rfl (lv_at hl 2 rfl) ?_
    refine lv_bipush (v := 10) hx hb dX5_begin_142 (by decide) ?_
    refine lv_iload_n hx hb dX5_begin_144 rfl (lv_at hl 4 rfl) ?_
    refine lv_iload hx hb dX5_begin_145 (lv_at hl 0 rfl) ?_
    refine wt_goI (wr := []) (wt_runSZ (As := [.ref ho, .ref tr, .int 10, .int (nI j), .int (nI (d + 1))]) (rest := []) ⟨hx, hb, hml, hown, hts⟩ (c_X5_begin_2 l D cI cZ cH _ _ _ ho aK aH aU T j (d + 1) fK fH fU tr bg tc2_5 gf2_4 10 vz_0 vz_1 vz_2 vz_4 vz_5 vz_6 vz_8 vz_9 (by first | assumption | omega) (by first | assumption | omega) (by first | assumption | omega) (by first | assumption | omega)) (va_cwS 5 hts gX5_begin_X5_begin rfl rfl rfl (by decide +kernel) ⟨Nat.le_of_ble_eq_true rfl, Nat.le_of_ble_eq_true rfl⟩) hK hP hD [0, 1, 2, 3, 4, 5] rfl (by decide) hZ hS hA rfl hl.1 rfl (Nat.le_of_ble_eq_true rfl) dX5_begin_147 ⟨Nat.le_of_ble_eq_true rfl, Nat.le_of_ble_eq_true rfl⟩) hP hD hS hA [0, 1, 2, 3, 4, 5] [] rfl rfl (by decide) (by decide) (fun r_36 w_37 H locs h_38 hP hD hS => ?_)
    obtain ⟨gf2_39, tc2_40, rfl, x_41⟩ := h_38
    have hP : va_P D vwCl [(ho, .inr (0, [vz_0, vz_1, vz_2, .int (nI T), vz_4, vz_5, vz_6, .ref aK, vz_8, vz_9, .ref aH, .ref aU])), (aK, .inl (cI, 6, .inl fK)), (aH, .inl (cI, 6, .inl fH)), (aU, .inl (cI, 6, .inl fU)), (tr, .inr (4, [.ref bg, .int (nI tc2_40)])), (bg, .inl (cI, 16, .inl gf2_39))] H := hP
    have hD : va_D A [(ho, .inr (0, [vz_0, vz_1, vz_2, .int (nI T), vz_4, vz_5, vz_6, .ref aK, vz_8, vz_9, .ref aH, .ref aU])), (aK, .inl (cI, 6, .inl fK)), (aH, .inl (cI, 6, .inl fH)), (aU, .inl (cI, 6, .inl fU)), (tr, .inr (4, [.ref bg, .int (nI tc2_40)])), (bg, .inl (cI, 16, .inl gf2_39))] := hD
    refine lv_bipush (v := 100) hx hb dX5_begin_150 (by decide) ?_
    refine lv_isub hx hb dX5_begin_152 ?_
    refine lv_topi (fun ov_42 _ => ?_)
    have hP9 := hP.sub (ws' := [(ho, .inr (0, [vz_0, vz_1, vz_2, .int (nI T), vz_4, vz_5, vz_6, .ref aK, vz_8, vz_9, .ref aH, .ref aU])), (aK, .inl (cI, 6, .inl fK)), (aH, .inl (cI, 6, .inl fH)), (aU, .inl (cI, 6, .inl fU)), (tr, .inr (4, [.ref bg, .int (nI tc2_40)])), (bg, .inl (cI, 16, .inl gf2_39))]) [0, 1, 2, 3, 4, 5] rfl
    have hD9 := hD.sub (ws' := [(ho, .inr (0, [vz_0, vz_1, vz_2, .int (nI T), vz_4, vz_5, vz_6, .ref aK, vz_8, vz_9, .ref aH, .ref aU])), (aK, .inl (cI, 6, .inl fK)), (aH, .inl (cI, 6, .inl fH)), (aU, .inl (cI, 6, .inl fU)), (tr, .inr (4, [.ref bg, .int (nI tc2_40)])), (bg, .inl (cI, 16, .inl gf2_39))]) [0, 1, 2, 3, 4, 5] (by decide) rfl
    exact wt_iret hx hb hr hlocks hP9 hD9 hS ⟨gf2_39, tc2_40, rfl, (by omega)⟩ dX5_begin_153
  rcases wt_dec (bo) 14 with c_43 | c_43
  · subst c_43
    refine lv_tableIn (off := 133) (tgt := 154) hx hb dX5_begin_21 (by decide) (by decide) rfl (by decide) ?_
    refine lv_aload_n hx hb dX5_begin_154 rfl (lv_at hl 1 rfl) ?_
    refine lv_aload_n hx hb dX5_begin_155 rfl (lv_at hl 2 rfl) ?_
    refine lv_bipush (v := 13) hx hb dX5_begin_156 (by decide) ?_
    refine lv_iload_n hx hb dX5_begin_158 rfl (lv_at hl 4 rfl) ?_
    refine lv_iload hx hb dX5_begin_159 (lv_at hl 0 rfl) ?_
    refine wt_goI (wr := []) (wt_runSZ (As := [.ref ho, .ref tr, .int 13, .int (nI j), .int (nI (d + 1))]) (rest := []) ⟨hx, hb, hml, hown, hts⟩ (c_X5_begin_2 l D cI cZ cH _ _ _ ho aK aH aU T j (d + 1) fK fH fU tr bg tc2_5 gf2_4 13 vz_0 vz_1 vz_2 vz_4 vz_5 vz_6 vz_8 vz_9 (by first | assumption | omega) (by first | assumption | omega) (by first | assumption | omega) (by first | assumption | omega)) (va_cwS 5 hts gX5_begin_X5_begin rfl rfl rfl (by decide +kernel) ⟨Nat.le_of_ble_eq_true rfl, Nat.le_of_ble_eq_true rfl⟩) hK hP hD [0, 1, 2, 3, 4, 5] rfl (by decide) hZ hS hA rfl hl.1 rfl (Nat.le_of_ble_eq_true rfl) dX5_begin_161 ⟨Nat.le_of_ble_eq_true rfl, Nat.le_of_ble_eq_true rfl⟩) hP hD hS hA [0, 1, 2, 3, 4, 5] [] rfl rfl (by decide) (by decide) (fun r_44 w_45 H locs h_46 hP hD hS => ?_)
    obtain ⟨gf2_47, tc2_48, rfl, x_49⟩ := h_46
    have hP : va_P D vwCl [(ho, .inr (0, [vz_0, vz_1, vz_2, .int (nI T), vz_4, vz_5, vz_6, .ref aK, vz_8, vz_9, .ref aH, .ref aU])), (aK, .inl (cI, 6, .inl fK)), (aH, .inl (cI, 6, .inl fH)), (aU, .inl (cI, 6, .inl fU)), (tr, .inr (4, [.ref bg, .int (nI tc2_48)])), (bg, .inl (cI, 16, .inl gf2_47))] H := hP
    have hD : va_D A [(ho, .inr (0, [vz_0, vz_1, vz_2, .int (nI T), vz_4, vz_5, vz_6, .ref aK, vz_8, vz_9, .ref aH, .ref aU])), (aK, .inl (cI, 6, .inl fK)), (aH, .inl (cI, 6, .inl fH)), (aU, .inl (cI, 6, .inl fU)), (tr, .inr (4, [.ref bg, .int (nI tc2_48)])), (bg, .inl (cI, 16, .inl gf2_47))] := hD
    refine lv_iconst (v := 2) hx hb dX5_begin_164 (by decide) ?_
    refine lv_imul hx hb dX5_begin_165 ?_
    refine lv_topi (fun ov_50 _ => ?_)
    have hP9 := hP.sub (ws' := [(ho, .inr (0, [vz_0, vz_1, vz_2, .int (nI T), vz_4, vz_5, vz_6, .ref aK, vz_8, vz_9, .ref aH, .ref aU])), (aK, .inl (cI, 6, .inl fK)), (aH, .inl (cI, 6, .inl fH)), (aU, .inl (cI, 6, .inl fU)), (tr, .inr (4, [.ref bg, .int (nI tc2_48)])), (bg, .inl (cI, 16, .inl gf2_47))]) [0, 1, 2, 3, 4, 5] rfl
    have hD9 := hD.sub (ws' := [(ho, .inr (0, [vz_0, vz_1, vz_2, .int (nI T), vz_4, vz_5, vz_6, .ref aK, vz_8, vz_9, .ref aH, .ref aU])), (aK, .inl (cI, 6, .inl fK)), (aH, .inl (cI, 6, .inl fH)), (aU, .inl (cI, 6, .inl fU)), (tr, .inr (4, [.ref bg, .int (nI tc2_48)])), (bg, .inl (cI, 16, .inl gf2_47))]) [0, 1, 2, 3, 4, 5] (by decide) rfl
    exact wt_iret hx hb hr hlocks hP9 hD9 hS ⟨gf2_47, tc2_48, rfl, (by omega)⟩ dX5_begin_166
  rcases wt_dec (bo) 15 with c_51 | c_51
  · subst c_51
    refine lv_tableIn (off := 219) (tgt := 240) hx hb dX5_begin_21 (by decide) (by decide) rfl (by decide) ?_
    refine lv_iconst (v := 0) hx hb dX5_begin_240 (by decide) ?_
    have hP9 := hP.sub (ws' := [(ho, .inr (0, [vz_0, vz_1, vz_2, .int (nI T), vz_4, vz_5, vz_6, .ref aK, vz_8, vz_9, .ref aH, .ref aU])), (aK, .inl (cI, 6, .inl fK)), (aH, .inl (cI, 6, .inl fH)), (aU, .inl (cI, 6, .inl fU)), (tr, .inr (4, [.ref bg, .int (nI tc2_5)])), (bg, .inl (cI, 16, .inl gf2_4))]) [0, 1, 2, 3, 4, 5] rfl
    have hD9 := hD.sub (ws' := [(ho, .inr (0, [vz_0, vz_1, vz_2, .int (nI T), vz_4, vz_5, vz_6, .ref aK, vz_8, vz_9, .ref aH, .ref aU])), (aK, .inl (cI, 6, .inl fK)), (aH, .inl (cI, 6, .inl fH)), (aU, .inl (cI, 6, .inl fU)), (tr, .inr (4, [.ref bg, .int (nI tc2_5)])), (bg, .inl (cI, 16, .inl gf2_4))]) [0, 1, 2, 3, 4, 5] (by decide) rfl
    exact wt_iret hx hb hr hlocks hP9 hD9 hS ⟨gf2_4, tc2_5, rfl, (by omega)⟩ dX5_begin_241
  rcases wt_dec (bo) 16 with c_52 | c_52
  · subst c_52
    refine lv_tableIn (off := 219) (tgt := 240) hx hb dX5_begin_21 (by decide) (by decide) rfl (by decide) ?_
    refine lv_iconst (v := 0) hx hb dX5_begin_240 (by decide) ?_
    have hP9 := hP.sub (ws' := [(ho, .inr (0, [vz_0, vz_1, vz_2, .int (nI T), vz_4, vz_5, vz_6, .ref aK, vz_8, vz_9, .ref aH, .ref aU])), (aK, .inl (cI, 6, .inl fK)), (aH, .inl (cI, 6, .inl fH)), (aU, .inl (cI, 6, .inl fU)), (tr, .inr (4, [.ref bg, .int (nI tc2_5)])), (bg, .inl (cI, 16, .inl gf2_4))]) [0, 1, 2, 3, 4, 5] rfl
    have hD9 := hD.sub (ws' := [(ho, .inr (0, [vz_0, vz_1, vz_2, .int (nI T), vz_4, vz_5, vz_6, .ref aK, vz_8, vz_9, .ref aH, .ref aU])), (aK, .inl (cI, 6, .inl fK)), (aH, .inl (cI, 6, .inl fH)), (aU, .inl (cI, 6, .inl fU)), (tr, .inr (4, [.ref bg, .int (nI tc2_5)])), (bg, .inl (cI, 16, .inl gf2_4))]) [0, 1, 2, 3, 4, 5] (by decide) rfl
    exact wt_iret hx hb hr hlocks hP9 hD9 hS ⟨gf2_4, tc2_5, rfl, (by omega)⟩ dX5_begin_241
  rcases wt_dec (bo) 17 with c_53 | c_53
  · subst c_53
    refine lv_tableIn (off := 219) (tgt := 240) hx hb dX5_begin_21 (by decide) (by decide) rfl (by decide) ?_
    refine lv_iconst (v := 0) hx hb dX5_begin_240 (by decide) ?_
    have hP9 := hP.sub (ws' := [(ho, .inr (0, [vz_0, vz_1, vz_2, .int (nI T), vz_4, vz_5, vz_6, .ref aK, vz_8, vz_9, .ref aH, .ref aU])), (aK, .inl (cI, 6, .inl fK)), (aH, .inl (cI, 6, .inl fH)), (aU, .inl (cI, 6, .inl fU)), (tr, .inr (4, [.ref bg, .int (nI tc2_5)])), (bg, .inl (cI, 16, .inl gf2_4))]) [0, 1, 2, 3, 4, 5] rfl
    have hD9 := hD.sub (ws' := [(ho, .inr (0, [vz_0, vz_1, vz_2, .int (nI T), vz_4, vz_5, vz_6, .ref aK, vz_8, vz_9, .ref aH, .ref aU])), (aK, .inl (cI, 6, .inl fK)), (aH, .inl (cI, 6, .inl fH)), (aU, .inl (cI, 6, .inl fU)), (tr, .inr (4, [.ref bg, .int (nI tc2_5)])), (bg, .inl (cI, 16, .inl gf2_4))]) [0, 1, 2, 3, 4, 5] (by decide) rfl
    exact wt_iret hx hb hr hlocks hP9 hD9 hS ⟨gf2_4, tc2_5, rfl, (by omega)⟩ dX5_begin_241
  rcases wt_dec (bo) 18 with c_54 | c_54
  · subst c_54
    refine lv_tableIn (off := 219) (tgt := 240) hx hb dX5_begin_21 (by decide) (by decide) rfl (by decide) ?_
    refine lv_iconst (v := 0) hx hb dX5_begin_240 (by decide) ?_
    have hP9 := hP.sub (ws' := [(ho, .inr (0, [vz_0, vz_1, vz_2, .int (nI T), vz_4, vz_5, vz_6, .ref aK, vz_8, vz_9, .ref aH, .ref aU])), (aK, .inl (cI, 6, .inl fK)), (aH, .inl (cI, 6, .inl fH)), (aU, .inl (cI, 6, .inl fU)), (tr, .inr (4, [.ref bg, .int (nI tc2_5)])), (bg, .inl (cI, 16, .inl gf2_4))]) [0, 1, 2, 3, 4, 5] rfl
    have hD9 := hD.sub (ws' := [(ho, .inr (0, [vz_0, vz_1, vz_2, .int (nI T), vz_4, vz_5, vz_6, .ref aK, vz_8, vz_9, .ref aH, .ref aU])), (aK, .inl (cI, 6, .inl fK)), (aH, .inl (cI, 6, .inl fH)), (aU, .inl (cI, 6, .inl fU)), (tr, .inr (4, [.ref bg, .int (nI tc2_5)])), (bg, .inl (cI, 16, .inl gf2_4))]) [0, 1, 2, 3, 4, 5] (by decide) rfl
    exact wt_iret hx hb hr hlocks hP9 hD9 hS ⟨gf2_4, tc2_5, rfl, (by omega)⟩ dX5_begin_241
  rcases wt_dec (bo) 19 with c_55 | c_55
  · subst c_55
    refine lv_tableIn (off := 219) (tgt := 240) hx hb dX5_begin_21 (by decide) (by decide) rfl (by decide) ?_
    refine lv_iconst (v := 0) hx hb dX5_begin_240 (by decide) ?_
    have hP9 := hP.sub (ws' := [(ho, .inr (0, [vz_0, vz_1, vz_2, .int (nI T), vz_4, vz_5, vz_6, .ref aK, vz_8, vz_9, .ref aH, .ref aU])), (aK, .inl (cI, 6, .inl fK)), (aH, .inl (cI, 6, .inl fH)), (aU, .inl (cI, 6, .inl fU)), (tr, .inr (4, [.ref bg, .int (nI tc2_5)])), (bg, .inl (cI, 16, .inl gf2_4))]) [0, 1, 2, 3, 4, 5] rfl
    have hD9 := hD.sub (ws' := [(ho, .inr (0, [vz_0, vz_1, vz_2, .int (nI T), vz_4, vz_5, vz_6, .ref aK, vz_8, vz_9, .ref aH, .ref aU])), (aK, .inl (cI, 6, .inl fK)), (aH, .inl (cI, 6, .inl fH)), (aU, .inl (cI, 6, .inl fU)), (tr, .inr (4, [.ref bg, .int (nI tc2_5)])), (bg, .inl (cI, 16, .inl gf2_4))]) [0, 1, 2, 3, 4, 5] (by decide) rfl
    exact wt_iret hx hb hr hlocks hP9 hD9 hS ⟨gf2_4, tc2_5, rfl, (by omega)⟩ dX5_begin_241
  rcases wt_dec (bo) 20 with c_56 | c_56
  · subst c_56
    refine lv_tableIn (off := 146) (tgt := 167) hx hb dX5_begin_21 (by decide) (by decide) rfl (by decide) ?_
    refine lv_iload_n hx hb dX5_begin_167 rfl (lv_at hl 4 rfl) ?_
    have hP9 := hP.sub (ws' := [(ho, .inr (0, [vz_0, vz_1, vz_2, .int (nI T), vz_4, vz_5, vz_6, .ref aK, vz_8, vz_9, .ref aH, .ref aU])), (aK, .inl (cI, 6, .inl fK)), (aH, .inl (cI, 6, .inl fH)), (aU, .inl (cI, 6, .inl fU)), (tr, .inr (4, [.ref bg, .int (nI tc2_5)])), (bg, .inl (cI, 16, .inl gf2_4))]) [0, 1, 2, 3, 4, 5] rfl
    have hD9 := hD.sub (ws' := [(ho, .inr (0, [vz_0, vz_1, vz_2, .int (nI T), vz_4, vz_5, vz_6, .ref aK, vz_8, vz_9, .ref aH, .ref aU])), (aK, .inl (cI, 6, .inl fK)), (aH, .inl (cI, 6, .inl fH)), (aU, .inl (cI, 6, .inl fU)), (tr, .inr (4, [.ref bg, .int (nI tc2_5)])), (bg, .inl (cI, 16, .inl gf2_4))]) [0, 1, 2, 3, 4, 5] (by decide) rfl
    exact wt_iret hx hb hr hlocks hP9 hD9 hS ⟨gf2_4, tc2_5, rfl, (by omega)⟩ dX5_begin_168
  rcases wt_dec (bo) 21 with c_57 | c_57
  · subst c_57
    refine lv_tableIn (off := 148) (tgt := 169) hx hb dX5_begin_21 (by decide) (by decide) rfl (by decide) ?_
    refine lv_aload_n hx hb dX5_begin_169 rfl (lv_at hl 1 rfl) ?_
    refine lv_aload_n hx hb dX5_begin_170 rfl (lv_at hl 2 rfl) ?_
    refine lv_bipush (v := 20) hx hb dX5_begin_171 (by decide) ?_
    refine lv_iload_n hx hb dX5_begin_173 rfl (lv_at hl 4 rfl) ?_
    refine lv_iload hx hb dX5_begin_174 (lv_at hl 0 rfl) ?_
    refine wt_goI (wr := []) (wt_runSZ (As := [.ref ho, .ref tr, .int 20, .int (nI j), .int (nI (d + 1))]) (rest := []) ⟨hx, hb, hml, hown, hts⟩ (c_X5_begin_2 l D cI cZ cH _ _ _ ho aK aH aU T j (d + 1) fK fH fU tr bg tc2_5 gf2_4 20 vz_0 vz_1 vz_2 vz_4 vz_5 vz_6 vz_8 vz_9 (by first | assumption | omega) (by first | assumption | omega) (by first | assumption | omega) (by first | assumption | omega)) (va_cwS 5 hts gX5_begin_X5_begin rfl rfl rfl (by decide +kernel) ⟨Nat.le_of_ble_eq_true rfl, Nat.le_of_ble_eq_true rfl⟩) hK hP hD [0, 1, 2, 3, 4, 5] rfl (by decide) hZ hS hA rfl hl.1 rfl (Nat.le_of_ble_eq_true rfl) dX5_begin_176 ⟨Nat.le_of_ble_eq_true rfl, Nat.le_of_ble_eq_true rfl⟩) hP hD hS hA [0, 1, 2, 3, 4, 5] [] rfl rfl (by decide) (by decide) (fun r_58 w_59 H locs h_60 hP hD hS => ?_)
    obtain ⟨gf2_61, tc2_62, rfl, x_63⟩ := h_60
    have hP : va_P D vwCl [(ho, .inr (0, [vz_0, vz_1, vz_2, .int (nI T), vz_4, vz_5, vz_6, .ref aK, vz_8, vz_9, .ref aH, .ref aU])), (aK, .inl (cI, 6, .inl fK)), (aH, .inl (cI, 6, .inl fH)), (aU, .inl (cI, 6, .inl fU)), (tr, .inr (4, [.ref bg, .int (nI tc2_62)])), (bg, .inl (cI, 16, .inl gf2_61))] H := hP
    have hD : va_D A [(ho, .inr (0, [vz_0, vz_1, vz_2, .int (nI T), vz_4, vz_5, vz_6, .ref aK, vz_8, vz_9, .ref aH, .ref aU])), (aK, .inl (cI, 6, .inl fK)), (aH, .inl (cI, 6, .inl fH)), (aU, .inl (cI, 6, .inl fU)), (tr, .inr (4, [.ref bg, .int (nI tc2_62)])), (bg, .inl (cI, 16, .inl gf2_61))] := hD
    refine lv_aload_n hx hb dX5_begin_179 rfl (lv_at hl 1 rfl) ?_
    refine va_get (D := D) (ci := 0) (v := .ref aU) (C := RX0) (T := TX0) (N := 12) hx hb hts hi0 hown hK.1 hP 0 rfl rfl 11 (by decide) wf175 (fun _ h9 => h9) rfl dX5_begin_180 ?_
    refine lv_iload_n hx hb dX5_begin_183 rfl (lv_at hl 4 rfl) ?_
    refine va_iald hx hb hK.1 hP 3 0 rfl rfl (vp_in_nI (by omega) (by omega)) dX5_begin_184 ?_
    refine lv_topi (fun ov_64 _ => ?_)
    refine lv_iadd hx hb dX5_begin_185 ?_
    refine lv_topi (fun ov_65 _ => ?_)
    have hP9 := hP.sub (ws' := [(ho, .inr (0, [vz_0, vz_1, vz_2, .int (nI T), vz_4, vz_5, vz_6, .ref aK, vz_8, vz_9, .ref aH, .ref aU])), (aK, .inl (cI, 6, .inl fK)), (aH, .inl (cI, 6, .inl fH)), (aU, .inl (cI, 6, .inl fU)), (tr, .inr (4, [.ref bg, .int (nI tc2_62)])), (bg, .inl (cI, 16, .inl gf2_61))]) [0, 1, 2, 3, 4, 5] rfl
    have hD9 := hD.sub (ws' := [(ho, .inr (0, [vz_0, vz_1, vz_2, .int (nI T), vz_4, vz_5, vz_6, .ref aK, vz_8, vz_9, .ref aH, .ref aU])), (aK, .inl (cI, 6, .inl fK)), (aH, .inl (cI, 6, .inl fH)), (aU, .inl (cI, 6, .inl fU)), (tr, .inr (4, [.ref bg, .int (nI tc2_62)])), (bg, .inl (cI, 16, .inl gf2_61))]) [0, 1, 2, 3, 4, 5] (by decide) rfl
    exact wt_iret hx hb hr hlocks hP9 hD9 hS ⟨gf2_61, tc2_62, rfl, (by omega)⟩ dX5_begin_186
  rcases wt_dec (bo) 22 with c_66 | c_66
  · subst c_66
    refine lv_tableIn (off := 166) (tgt := 187) hx hb dX5_begin_21 (by decide) (by decide) rfl (by decide) ?_
    refine lv_aload_n hx hb dX5_begin_187 rfl (lv_at hl 1 rfl) ?_
    refine lv_aload_n hx hb dX5_begin_188 rfl (lv_at hl 2 rfl) ?_
    refine lv_bipush (v := 21) hx hb dX5_begin_189 (by decide) ?_
    refine lv_iload_n hx hb dX5_begin_191 rfl (lv_at hl 4 rfl) ?_
    refine lv_iload hx hb dX5_begin_192 (lv_at hl 0 rfl) ?_
    refine wt_goI (wr := []) (wt_runSZ (As := [.ref ho, .ref tr, .int 21, .int (nI j), .int (nI (d + 1))]) (rest := []) ⟨hx, hb, hml, hown, hts⟩ (c_X5_begin_2 l D cI cZ cH _ _ _ ho aK aH aU T j (d + 1) fK fH fU tr bg tc2_5 gf2_4 21 vz_0 vz_1 vz_2 vz_4 vz_5 vz_6 vz_8 vz_9 (by first | assumption | omega) (by first | assumption | omega) (by first | assumption | omega) (by first | assumption | omega)) (va_cwS 5 hts gX5_begin_X5_begin rfl rfl rfl (by decide +kernel) ⟨Nat.le_of_ble_eq_true rfl, Nat.le_of_ble_eq_true rfl⟩) hK hP hD [0, 1, 2, 3, 4, 5] rfl (by decide) hZ hS hA rfl hl.1 rfl (Nat.le_of_ble_eq_true rfl) dX5_begin_194 ⟨Nat.le_of_ble_eq_true rfl, Nat.le_of_ble_eq_true rfl⟩) hP hD hS hA [0, 1, 2, 3, 4, 5] [] rfl rfl (by decide) (by decide) (fun r_67 w_68 H locs h_69 hP hD hS => ?_)
    obtain ⟨gf2_70, tc2_71, rfl, x_72⟩ := h_69
    have hP : va_P D vwCl [(ho, .inr (0, [vz_0, vz_1, vz_2, .int (nI T), vz_4, vz_5, vz_6, .ref aK, vz_8, vz_9, .ref aH, .ref aU])), (aK, .inl (cI, 6, .inl fK)), (aH, .inl (cI, 6, .inl fH)), (aU, .inl (cI, 6, .inl fU)), (tr, .inr (4, [.ref bg, .int (nI tc2_71)])), (bg, .inl (cI, 16, .inl gf2_70))] H := hP
    have hD : va_D A [(ho, .inr (0, [vz_0, vz_1, vz_2, .int (nI T), vz_4, vz_5, vz_6, .ref aK, vz_8, vz_9, .ref aH, .ref aU])), (aK, .inl (cI, 6, .inl fK)), (aH, .inl (cI, 6, .inl fH)), (aU, .inl (cI, 6, .inl fU)), (tr, .inr (4, [.ref bg, .int (nI tc2_71)])), (bg, .inl (cI, 16, .inl gf2_70))] := hD
    refine lv_sipush (v := 1000) hx hb dX5_begin_197 (by decide) ?_
    refine lv_isub hx hb dX5_begin_200 ?_
    refine lv_topi (fun ov_73 _ => ?_)
    have hP9 := hP.sub (ws' := [(ho, .inr (0, [vz_0, vz_1, vz_2, .int (nI T), vz_4, vz_5, vz_6, .ref aK, vz_8, vz_9, .ref aH, .ref aU])), (aK, .inl (cI, 6, .inl fK)), (aH, .inl (cI, 6, .inl fH)), (aU, .inl (cI, 6, .inl fU)), (tr, .inr (4, [.ref bg, .int (nI tc2_71)])), (bg, .inl (cI, 16, .inl gf2_70))]) [0, 1, 2, 3, 4, 5] rfl
    have hD9 := hD.sub (ws' := [(ho, .inr (0, [vz_0, vz_1, vz_2, .int (nI T), vz_4, vz_5, vz_6, .ref aK, vz_8, vz_9, .ref aH, .ref aU])), (aK, .inl (cI, 6, .inl fK)), (aH, .inl (cI, 6, .inl fH)), (aU, .inl (cI, 6, .inl fU)), (tr, .inr (4, [.ref bg, .int (nI tc2_71)])), (bg, .inl (cI, 16, .inl gf2_70))]) [0, 1, 2, 3, 4, 5] (by decide) rfl
    exact wt_iret hx hb hr hlocks hP9 hD9 hS ⟨gf2_70, tc2_71, rfl, (by omega)⟩ dX5_begin_201
  rcases wt_dec (bo) 23 with c_74 | c_74
  · subst c_74
    refine lv_tableIn (off := 181) (tgt := 202) hx hb dX5_begin_21 (by decide) (by decide) rfl (by decide) ?_
    refine lv_aload_n hx hb dX5_begin_202 rfl (lv_at hl 1 rfl) ?_
    refine lv_aload_n hx hb dX5_begin_203 rfl (lv_at hl 2 rfl) ?_
    refine lv_bipush (v := 20) hx hb dX5_begin_204 (by decide) ?_
    refine lv_iload_n hx hb dX5_begin_206 rfl (lv_at hl 4 rfl) ?_
    refine lv_iload hx hb dX5_begin_207 (lv_at hl 0 rfl) ?_
    refine wt_goI (wr := []) (wt_runSZ (As := [.ref ho, .ref tr, .int 20, .int (nI j), .int (nI (d + 1))]) (rest := []) ⟨hx, hb, hml, hown, hts⟩ (c_X5_begin_2 l D cI cZ cH _ _ _ ho aK aH aU T j (d + 1) fK fH fU tr bg tc2_5 gf2_4 20 vz_0 vz_1 vz_2 vz_4 vz_5 vz_6 vz_8 vz_9 (by first | assumption | omega) (by first | assumption | omega) (by first | assumption | omega) (by first | assumption | omega)) (va_cwS 5 hts gX5_begin_X5_begin rfl rfl rfl (by decide +kernel) ⟨Nat.le_of_ble_eq_true rfl, Nat.le_of_ble_eq_true rfl⟩) hK hP hD [0, 1, 2, 3, 4, 5] rfl (by decide) hZ hS hA rfl hl.1 rfl (Nat.le_of_ble_eq_true rfl) dX5_begin_209 ⟨Nat.le_of_ble_eq_true rfl, Nat.le_of_ble_eq_true rfl⟩) hP hD hS hA [0, 1, 2, 3, 4, 5] [] rfl rfl (by decide) (by decide) (fun r_75 w_76 H locs h_77 hP hD hS => ?_)
    obtain ⟨gf2_78, tc2_79, rfl, x_80⟩ := h_77
    have hP : va_P D vwCl [(ho, .inr (0, [vz_0, vz_1, vz_2, .int (nI T), vz_4, vz_5, vz_6, .ref aK, vz_8, vz_9, .ref aH, .ref aU])), (aK, .inl (cI, 6, .inl fK)), (aH, .inl (cI, 6, .inl fH)), (aU, .inl (cI, 6, .inl fU)), (tr, .inr (4, [.ref bg, .int (nI tc2_79)])), (bg, .inl (cI, 16, .inl gf2_78))] H := hP
    have hD : va_D A [(ho, .inr (0, [vz_0, vz_1, vz_2, .int (nI T), vz_4, vz_5, vz_6, .ref aK, vz_8, vz_9, .ref aH, .ref aU])), (aK, .inl (cI, 6, .inl fK)), (aH, .inl (cI, 6, .inl fH)), (aU, .inl (cI, 6, .inl fU)), (tr, .inr (4, [.ref bg, .int (nI tc2_79)])), (bg, .inl (cI, 16, .inl gf2_78))] := hD
    refine lv_aload_n hx hb dX5_begin_212 rfl (lv_at hl 1 rfl) ?_
    refine lv_aload_n hx hb dX5_begin_213 rfl (lv_at hl 2 rfl) ?_
    refine lv_aload_n hx hb dX5_begin_214 rfl (lv_at hl 1 rfl) ?_
    refine lv_iload_n hx hb dX5_begin_215 rfl (lv_at hl 4 rfl) ?_
    refine wt_goI (wr := [(aH, .inl (cI, 6, .inl fH)), (aU, .inl (cI, 6, .inl fU)), (tr, .inr (4, [.ref bg, .int (nI tc2_79)])), (bg, .inl (cI, 16, .inl gf2_78))]) (wt_runSZ (As := [.ref ho, .int (nI j)]) (rest := [.ref tr, .ref ho, .int r_75]) ⟨hx, hb, hml, hown, hts⟩ (c_X5_sizeBody l D cI cZ cH _ _ _ ho aK T j fK vz_0 vz_1 vz_2 vz_4 vz_5 vz_6 vz_8 vz_9 (.ref aH) (.ref aU) (by first | assumption | omega) (by first | assumption | omega)) (va_cwS 2 hts gX5_begin_X5_sizeBody rfl rfl rfl (by decide +kernel) ⟨Nat.le_of_ble_eq_true rfl, Nat.le_of_ble_eq_true rfl⟩) hK hP hD [0, 1] rfl (by decide) hZ hS hA rfl hl.1 rfl (Nat.le_of_ble_eq_true rfl) dX5_begin_216 ⟨Nat.le_of_ble_eq_true rfl, Nat.le_of_ble_eq_true rfl⟩) hP hD hS hA [0, 1] [2, 3, 4, 5] rfl rfl (by decide) (by decide) (fun r_81 w_82 H locs h_83 hP hD hS => ?_)
    obtain rfl := h_83
    have hP : va_P D vwCl [(aH, .inl (cI, 6, .inl fH)), (aU, .inl (cI, 6, .inl fU)), (tr, .inr (4, [.ref bg, .int (nI tc2_79)])), (bg, .inl (cI, 16, .inl gf2_78)), (ho, .inr (0, [vz_0, vz_1, vz_2, .int (nI T), vz_4, vz_5, vz_6, .ref aK, vz_8, vz_9, .ref aH, .ref aU])), (aK, .inl (cI, 6, .inl fK))] H := hP
    have hD : va_D A [(aH, .inl (cI, 6, .inl fH)), (aU, .inl (cI, 6, .inl fU)), (tr, .inr (4, [.ref bg, .int (nI tc2_79)])), (bg, .inl (cI, 16, .inl gf2_78)), (ho, .inr (0, [vz_0, vz_1, vz_2, .int (nI T), vz_4, vz_5, vz_6, .ref aK, vz_8, vz_9, .ref aH, .ref aU])), (aK, .inl (cI, 6, .inl fK))] := hD
    refine lv_iload_n hx hb dX5_begin_219 rfl (lv_at hl 4 rfl) ?_
    refine lv_iload hx hb dX5_begin_220 (lv_at hl 0 rfl) ?_
    refine wt_goI (wr := []) (wt_runSZ (As := [.ref ho, .ref tr, .int r_81, .int (nI j), .int (nI (d + 1))]) (rest := [.int r_75]) ⟨hx, hb, hml, hown, hts⟩ (c_X5_begin_2 l D cI cZ cH _ _ _ ho aK aH aU T j (d + 1) fK fH fU tr bg tc2_79 gf2_78 r_81 vz_0 vz_1 vz_2 vz_4 vz_5 vz_6 vz_8 vz_9 (by first | assumption | omega) (by first | assumption | omega) (by first | assumption | omega) (by first | assumption | omega)) (va_cwS 5 hts gX5_begin_X5_begin rfl rfl rfl (by decide +kernel) ⟨Nat.le_of_ble_eq_true rfl, Nat.le_of_ble_eq_true rfl⟩) hK hP hD [4, 5, 0, 1, 2, 3] rfl (by decide) hZ hS hA rfl hl.1 rfl (Nat.le_of_ble_eq_true rfl) dX5_begin_222 ⟨Nat.le_of_ble_eq_true rfl, Nat.le_of_ble_eq_true rfl⟩) hP hD hS hA [4, 5, 0, 1, 2, 3] [] rfl rfl (by decide) (by decide) (fun r_84 w_85 H locs h_86 hP hD hS => ?_)
    obtain ⟨gf2_87, tc2_88, rfl, x_89⟩ := h_86
    have hP : va_P D vwCl [(ho, .inr (0, [vz_0, vz_1, vz_2, .int (nI T), vz_4, vz_5, vz_6, .ref aK, vz_8, vz_9, .ref aH, .ref aU])), (aK, .inl (cI, 6, .inl fK)), (aH, .inl (cI, 6, .inl fH)), (aU, .inl (cI, 6, .inl fU)), (tr, .inr (4, [.ref bg, .int (nI tc2_88)])), (bg, .inl (cI, 16, .inl gf2_87))] H := hP
    have hD : va_D A [(ho, .inr (0, [vz_0, vz_1, vz_2, .int (nI T), vz_4, vz_5, vz_6, .ref aK, vz_8, vz_9, .ref aH, .ref aU])), (aK, .inl (cI, 6, .inl fK)), (aH, .inl (cI, 6, .inl fH)), (aU, .inl (cI, 6, .inl fU)), (tr, .inr (4, [.ref bg, .int (nI tc2_88)])), (bg, .inl (cI, 16, .inl gf2_87))] := hD
    refine lv_isub hx hb dX5_begin_225 ?_
    refine lv_topi (fun ov_90 _ => ?_)
    have hP9 := hP.sub (ws' := [(ho, .inr (0, [vz_0, vz_1, vz_2, .int (nI T), vz_4, vz_5, vz_6, .ref aK, vz_8, vz_9, .ref aH, .ref aU])), (aK, .inl (cI, 6, .inl fK)), (aH, .inl (cI, 6, .inl fH)), (aU, .inl (cI, 6, .inl fU)), (tr, .inr (4, [.ref bg, .int (nI tc2_88)])), (bg, .inl (cI, 16, .inl gf2_87))]) [0, 1, 2, 3, 4, 5] rfl
    have hD9 := hD.sub (ws' := [(ho, .inr (0, [vz_0, vz_1, vz_2, .int (nI T), vz_4, vz_5, vz_6, .ref aK, vz_8, vz_9, .ref aH, .ref aU])), (aK, .inl (cI, 6, .inl fK)), (aH, .inl (cI, 6, .inl fH)), (aU, .inl (cI, 6, .inl fU)), (tr, .inr (4, [.ref bg, .int (nI tc2_88)])), (bg, .inl (cI, 16, .inl gf2_87))]) [0, 1, 2, 3, 4, 5] (by decide) rfl
    exact wt_iret hx hb hr hlocks hP9 hD9 hS ⟨gf2_87, tc2_88, rfl, (by omega)⟩ dX5_begin_226
  rcases wt_dec (bo) 24 with c_91 | c_91
  · subst c_91
    refine lv_tableIn (off := 206) (tgt := 227) hx hb dX5_begin_21 (by decide) (by decide) rfl (by decide) ?_
    refine lv_aload_n hx hb dX5_begin_227 rfl (lv_at hl 1 rfl) ?_
    refine lv_aload_n hx hb dX5_begin_228 rfl (lv_at hl 2 rfl) ?_
    refine lv_bipush (v := 21) hx hb dX5_begin_229 (by decide) ?_
    refine lv_iload_n hx hb dX5_begin_231 rfl (lv_at hl 4 rfl) ?_
    refine lv_iload hx hb dX5_begin_232 (lv_at hl 0 rfl) ?_
    refine wt_goI (wr := []) (wt_runSZ (As := [.ref ho, .ref tr, .int 21, .int (nI j), .int (nI (d + 1))]) (rest := []) ⟨hx, hb, hml, hown, hts⟩ (c_X5_begin_2 l D cI cZ cH _ _ _ ho aK aH aU T j (d + 1) fK fH fU tr bg tc2_5 gf2_4 21 vz_0 vz_1 vz_2 vz_4 vz_5 vz_6 vz_8 vz_9 (by first | assumption | omega) (by first | assumption | omega) (by first | assumption | omega) (by first | assumption | omega)) (va_cwS 5 hts gX5_begin_X5_begin rfl rfl rfl (by decide +kernel) ⟨Nat.le_of_ble_eq_true rfl, Nat.le_of_ble_eq_true rfl⟩) hK hP hD [0, 1, 2, 3, 4, 5] rfl (by decide) hZ hS hA rfl hl.1 rfl (Nat.le_of_ble_eq_true rfl) dX5_begin_234 ⟨Nat.le_of_ble_eq_true rfl, Nat.le_of_ble_eq_true rfl⟩) hP hD hS hA [0, 1, 2, 3, 4, 5] [] rfl rfl (by decide) (by decide) (fun r_92 w_93 H locs h_94 hP hD hS => ?_)
    obtain ⟨gf2_95, tc2_96, rfl, x_97⟩ := h_94
    have hP : va_P D vwCl [(ho, .inr (0, [vz_0, vz_1, vz_2, .int (nI T), vz_4, vz_5, vz_6, .ref aK, vz_8, vz_9, .ref aH, .ref aU])), (aK, .inl (cI, 6, .inl fK)), (aH, .inl (cI, 6, .inl fH)), (aU, .inl (cI, 6, .inl fU)), (tr, .inr (4, [.ref bg, .int (nI tc2_96)])), (bg, .inl (cI, 16, .inl gf2_95))] H := hP
    have hD : va_D A [(ho, .inr (0, [vz_0, vz_1, vz_2, .int (nI T), vz_4, vz_5, vz_6, .ref aK, vz_8, vz_9, .ref aH, .ref aU])), (aK, .inl (cI, 6, .inl fK)), (aH, .inl (cI, 6, .inl fH)), (aU, .inl (cI, 6, .inl fU)), (tr, .inr (4, [.ref bg, .int (nI tc2_96)])), (bg, .inl (cI, 16, .inl gf2_95))] := hD
    refine lv_iconst (v := 2) hx hb dX5_begin_237 (by decide) ?_
    refine lv_imul hx hb dX5_begin_238 ?_
    refine lv_topi (fun ov_98 _ => ?_)
    have hP9 := hP.sub (ws' := [(ho, .inr (0, [vz_0, vz_1, vz_2, .int (nI T), vz_4, vz_5, vz_6, .ref aK, vz_8, vz_9, .ref aH, .ref aU])), (aK, .inl (cI, 6, .inl fK)), (aH, .inl (cI, 6, .inl fH)), (aU, .inl (cI, 6, .inl fU)), (tr, .inr (4, [.ref bg, .int (nI tc2_96)])), (bg, .inl (cI, 16, .inl gf2_95))]) [0, 1, 2, 3, 4, 5] rfl
    have hD9 := hD.sub (ws' := [(ho, .inr (0, [vz_0, vz_1, vz_2, .int (nI T), vz_4, vz_5, vz_6, .ref aK, vz_8, vz_9, .ref aH, .ref aU])), (aK, .inl (cI, 6, .inl fK)), (aH, .inl (cI, 6, .inl fH)), (aU, .inl (cI, 6, .inl fU)), (tr, .inr (4, [.ref bg, .int (nI tc2_96)])), (bg, .inl (cI, 16, .inl gf2_95))]) [0, 1, 2, 3, 4, 5] (by decide) rfl
    exact wt_iret hx hb hr hlocks hP9 hD9 hS ⟨gf2_95, tc2_96, rfl, (by omega)⟩ dX5_begin_239
  refine lv_tableOut (tgt := 240) hx hb dX5_begin_21 (by have := lv_neT (a := 10) c_8 rfl; have := lv_neT (a := 11) c_10 rfl; have := lv_neT (a := 12) c_27 rfl; have := lv_neT (a := 13) c_35 rfl; have := lv_neT (a := 14) c_43 rfl; have := lv_neT (a := 15) c_51 rfl; have := lv_neT (a := 16) c_52 rfl; have := lv_neT (a := 17) c_53 rfl; have := lv_neT (a := 18) c_54 rfl; have := lv_neT (a := 19) c_55 rfl; have := lv_neT (a := 20) c_56 rfl; have := lv_neT (a := 21) c_57 rfl; have := lv_neT (a := 22) c_66 rfl; have := lv_neT (a := 23) c_74 rfl; have := lv_neT (a := 24) c_91 rfl; omega) (by decide) ?_
  refine lv_iconst (v := 0) hx hb dX5_begin_240 (by decide) ?_
  have hP9 := hP.sub (ws' := [(ho, .inr (0, [vz_0, vz_1, vz_2, .int (nI T), vz_4, vz_5, vz_6, .ref aK, vz_8, vz_9, .ref aH, .ref aU])), (aK, .inl (cI, 6, .inl fK)), (aH, .inl (cI, 6, .inl fH)), (aU, .inl (cI, 6, .inl fU)), (tr, .inr (4, [.ref bg, .int (nI tc2_5)])), (bg, .inl (cI, 16, .inl gf2_4))]) [0, 1, 2, 3, 4, 5] rfl
  have hD9 := hD.sub (ws' := [(ho, .inr (0, [vz_0, vz_1, vz_2, .int (nI T), vz_4, vz_5, vz_6, .ref aK, vz_8, vz_9, .ref aH, .ref aU])), (aK, .inl (cI, 6, .inl fK)), (aH, .inl (cI, 6, .inl fH)), (aU, .inl (cI, 6, .inl fU)), (tr, .inr (4, [.ref bg, .int (nI tc2_5)])), (bg, .inl (cI, 16, .inl gf2_4))]) [0, 1, 2, 3, 4, 5] (by decide) rfl
  exact wt_iret hx hb hr hlocks hP9 hD9 hS ⟨gf2_4, tc2_5, rfl, (by omega)⟩ dX5_begin_241
set_option maxHeartbeats 4000000 in
set_option maxRecDepth 100000 in
theorem c_X5_begin_4 (l : Launch) (D : va_G) (cI cZ cH : ClassId) (ab sb mb : Nat) (ho aK aH aU : Nat) (T j d : Nat) (fK fH fU : Nat → Int32) (tr bg : Nat) (tc : Nat) (gf : Nat → Int32) (bo : Int32) (vz_0 vz_1 vz_2 vz_4 vz_5 vz_6 vz_8 vz_9 : Value) (hT6 : T ≤ 6) (hjT : j < T) (hd : d + 4 = 16) (htc : tc ≤ 16) : wt_MZ (wt_ZS ab sb mb abF sbF mbF) l yX5_begin wsX5_begin ({ frames := 5, cells := 0, slots := 0, locals := 119 } : Room) D (wt_T cI cZ cH) [.ref ho, .ref tr, .int bo, .int (nI j), .int (nI d)] [(ho, .inr (0, [vz_0, vz_1, vz_2, .int (nI T), vz_4, vz_5, vz_6, .ref aK, vz_8, vz_9, .ref aH, .ref aU])), (aK, .inl (cI, 6, .inl fK)), (aH, .inl (cI, 6, .inl fH)), (aU, .inl (cI, 6, .inl fU)), (tr, .inr (4, [.ref bg, .int (nI tc)])), (bg, .inl (cI, 16, .inl gf))] (wt_QI D (fun r w => ∃ (gf2 : Nat → Int32) (tc2 : Nat), w = [(ho, .inr (0, [vz_0, vz_1, vz_2, .int (nI T), vz_4, vz_5, vz_6, .ref aK, vz_8, vz_9, .ref aH, .ref aU])), (aK, .inl (cI, 6, .inl fK)), (aH, .inl (cI, 6, .inl fH)), (aU, .inl (cI, 6, .inl fU)), (tr, .inr (4, [.ref bg, .int (nI tc2)])), (bg, .inl (cI, 16, .inl gf2))] ∧ tc2 ≤ 16)) := by
  refine wt_MZ.ofW (cc := cX5_begin) (maxL := 6) (ret := (some .int)) (by decide) rfl (Nat.le_of_ble_eq_true rfl) ?_
  intro p e s m below meth c A ls hx hb hr hts hown hlocks hml hnm hP hK hD hA hS hl hZ
  have hP : va_P D vwCl [(ho, .inr (0, [vz_0, vz_1, vz_2, .int (nI T), vz_4, vz_5, vz_6, .ref aK, vz_8, vz_9, .ref aH, .ref aU])), (aK, .inl (cI, 6, .inl fK)), (aH, .inl (cI, 6, .inl fH)), (aU, .inl (cI, 6, .inl fU)), (tr, .inr (4, [.ref bg, .int (nI tc)])), (bg, .inl (cI, 16, .inl gf))] s.heap := hP
  have hown : s.vm.findClass RX5 = some m.cls := hown
  have hl : lv_has ls 6 [(0, .ref ho), (1, .ref tr), (2, .int bo), (3, .int (nI j)), (4, .int (nI d))] := hl
  have hi0 : ∀ w ∈ u_ws RX0 TX0 12, w ∈ wsX5_begin := by decide +kernel
  have wf175 := hts (.fieldLink RX5 175 "WarmTubes$House" "up" "[I") (by decide +kernel)
  have wf196 := hts (.fieldLink RX5 196 "WarmTubes$House" "holds" "[I") (by decide +kernel)
  refine lv_iload hx hb dX5_begin_0 (lv_at hl 4 rfl) ?_
  refine lv_bipush (v := 16) hx hb dX5_begin_2 (by decide) ?_
  refine lv_icmp_lt (tgt := 9) hx hb dX5_begin_4 (by decide) (fun _ => ?_) (fun h => absurd (nI_lt (a := d) (b := 16) (by omega) (by omega)) h)
  refine lv_aload_n hx hb dX5_begin_9 rfl (lv_at hl 1 rfl) ?_
  refine lv_iload_n hx hb dX5_begin_10 rfl (lv_at hl 2 rfl) ?_
  refine wt_goV (wr := [(ho, .inr (0, [vz_0, vz_1, vz_2, .int (nI T), vz_4, vz_5, vz_6, .ref aK, vz_8, vz_9, .ref aH, .ref aU])), (aK, .inl (cI, 6, .inl fK)), (aH, .inl (cI, 6, .inl fH)), (aU, .inl (cI, 6, .inl fU))]) (wt_runV (As := [.int bo]) (rest := []) ⟨hx, hb, hml, hown, hts⟩ (c_X4_leave l D cI cZ cH tr bg tc gf bo (by first | assumption | omega)) (cwV 1 hts gX5_begin_X4_leave rfl rfl rfl (by decide +kernel) ⟨Nat.le_of_ble_eq_true rfl, Nat.le_of_ble_eq_true rfl⟩) hK hP hD [4, 5] rfl (by decide) (va_recv hK.1 hP (ci := 4) (q0 := 4) rfl rfl) rfl hl.1 rfl (Nat.le_of_ble_eq_true rfl) dX5_begin_11 ⟨Nat.le_of_ble_eq_true rfl, Nat.le_of_ble_eq_true rfl⟩) hP hD hS hA [4, 5] [0, 1, 2, 3] rfl rfl (by decide) (by decide) (fun w_2 H locs h_3 hP hD hS => ?_)
  obtain ⟨gf2_4, tc2_5, rfl, x_6⟩ := h_3
  have hP : va_P D vwCl [(ho, .inr (0, [vz_0, vz_1, vz_2, .int (nI T), vz_4, vz_5, vz_6, .ref aK, vz_8, vz_9, .ref aH, .ref aU])), (aK, .inl (cI, 6, .inl fK)), (aH, .inl (cI, 6, .inl fH)), (aU, .inl (cI, 6, .inl fU)), (tr, .inr (4, [.ref bg, .int (nI tc2_5)])), (bg, .inl (cI, 16, .inl gf2_4))] H := hP
  have hD : va_D A [(ho, .inr (0, [vz_0, vz_1, vz_2, .int (nI T), vz_4, vz_5, vz_6, .ref aK, vz_8, vz_9, .ref aH, .ref aU])), (aK, .inl (cI, 6, .inl fK)), (aH, .inl (cI, 6, .inl fH)), (aU, .inl (cI, 6, .inl fU)), (tr, .inr (4, [.ref bg, .int (nI tc2_5)])), (bg, .inl (cI, 16, .inl gf2_4))] := hD
  refine lv_iload hx hb dX5_begin_14 (lv_at hl 4 rfl) ?_
  refine lv_iconst (v := 1) hx hb dX5_begin_16 (by decide) ?_
  refine lv_iadd hx hb dX5_begin_17 ?_
  refine wt_top (z := nI (d + 1)) (nI_add d 1) ?_
  refine lv_istore (lv' := [(5, .int (nI (d + 1))), (0, .ref ho), (1, .ref tr), (2, .int bo), (3, .int (nI j)), (4, .int (nI d))]) hx hb dX5_begin_18 hl (by decide) rfl (fun ls hl => ?_)
  refine lv_iload_n hx hb dX5_begin_20 rfl (lv_at hl 3 rfl) ?_
  rcases wt_dec (bo) 10 with c_8 | c_8
  · subst c_8
    refine lv_tableIn (off := 75) (tgt := 96) hx hb dX5_begin_21 (by decide) (by decide) rfl (by decide) ?_
    refine lv_aload_n hx hb dX5_begin_96 rfl (lv_at hl 1 rfl) ?_
    refine va_get (D := D) (ci := 0) (v := .ref aH) (C := RX0) (T := TX0) (N := 12) hx hb hts hi0 hown hK.1 hP 0 rfl rfl 10 (by decide) wf196 (fun _ h9 => h9) rfl dX5_begin_97 ?_
    refine lv_iload_n hx hb dX5_begin_100 rfl (lv_at hl 4 rfl) ?_
    refine va_iald hx hb hK.1 hP 2 0 rfl rfl (vp_in_nI (by omega) (by omega)) dX5_begin_101 ?_
    refine lv_topi (fun ov_9 _ => ?_)
    have hP9 := hP.sub (ws' := [(ho, .inr (0, [vz_0, vz_1, vz_2, .int (nI T), vz_4, vz_5, vz_6, .ref aK, vz_8, vz_9, .ref aH, .ref aU])), (aK, .inl (cI, 6, .inl fK)), (aH, .inl (cI, 6, .inl fH)), (aU, .inl (cI, 6, .inl fU)), (tr, .inr (4, [.ref bg, .int (nI tc2_5)])), (bg, .inl (cI, 16, .inl gf2_4))]) [0, 1, 2, 3, 4, 5] rfl
    have hD9 := hD.sub (ws' := [(ho, .inr (0, [vz_0, vz_1, vz_2, .int (nI T), vz_4, vz_5, vz_6, .ref aK, vz_8, vz_9, .ref aH, .ref aU])), (aK, .inl (cI, 6, .inl fK)), (aH, .inl (cI, 6, .inl fH)), (aU, .inl (cI, 6, .inl fU)), (tr, .inr (4, [.ref bg, .int (nI tc2_5)])), (bg, .inl (cI, 16, .inl gf2_4))]) [0, 1, 2, 3, 4, 5] (by decide) rfl
    exact wt_iret hx hb hr hlocks hP9 hD9 hS ⟨gf2_4, tc2_5, rfl, (by omega)⟩ dX5_begin_102
  rcases wt_dec (bo) 11 with c_10 | c_10
  · subst c_10
    refine lv_tableIn (off := 82) (tgt := 103) hx hb dX5_begin_21 (by decide) (by decide) rfl (by decide) ?_
    refine lv_aload_n hx hb dX5_begin_103 rfl (lv_at hl 1 rfl) ?_
    refine lv_aload_n hx hb dX5_begin_104 rfl (lv_at hl 2 rfl) ?_
    refine lv_bipush (v := 10) hx hb dX5_begin_105 (by decide) ?_
    refine lv_iload_n hx hb dX5_begin_107 rfl (lv_at hl 4 rfl) ?_
    refine lv_iload hx hb dX5_begin_108 (lv_at hl 0 rfl) ?_
    refine wt_goI (wr := []) (wt_runSZ (As := [.ref ho, .ref tr, .int 10, .int (nI j), .int (nI (d + 1))]) (rest := []) ⟨hx, hb, hml, hown, hts⟩ (c_X5_begin_3 l D cI cZ cH _ _ _ ho aK aH aU T j (d + 1) fK fH fU tr bg tc2_5 gf2_4 10 vz_0 vz_1 vz_2 vz_4 vz_5 vz_6 vz_8 vz_9 (by first | assumption | omega) (by first | assumption | omega) (by first | assumption | omega) (by first | assumption | omega)) (va_cwS 5 hts gX5_begin_X5_begin rfl rfl rfl (by decide +kernel) ⟨Nat.le_of_ble_eq_true rfl, Nat.le_of_ble_eq_true rfl⟩) hK hP hD [0, 1, 2, 3, 4, 5] rfl (by decide) hZ hS hA rfl hl.1 rfl (Nat.le_of_ble_eq_true rfl) dX5_begin_110 ⟨Nat.le_of_ble_eq_true rfl, Nat.le_of_ble_eq_true rfl⟩) hP hD hS hA [0, 1, 2, 3, 4, 5] [] rfl rfl (by decide) (by decide) (fun r_11 w_12 H locs h_13 hP hD hS => ?_)
    obtain ⟨gf2_14, tc2_15, rfl, x_16⟩ := h_13
    have hP : va_P D vwCl [(ho, .inr (0, [vz_0, vz_1, vz_2, .int (nI T), vz_4, vz_5, vz_6, .ref aK, vz_8, vz_9, .ref aH, .ref aU])), (aK, .inl (cI, 6, .inl fK)), (aH, .inl (cI, 6, .inl fH)), (aU, .inl (cI, 6, .inl fU)), (tr, .inr (4, [.ref bg, .int (nI tc2_15)])), (bg, .inl (cI, 16, .inl gf2_14))] H := hP
    have hD : va_D A [(ho, .inr (0, [vz_0, vz_1, vz_2, .int (nI T), vz_4, vz_5, vz_6, .ref aK, vz_8, vz_9, .ref aH, .ref aU])), (aK, .inl (cI, 6, .inl fK)), (aH, .inl (cI, 6, .inl fH)), (aU, .inl (cI, 6, .inl fU)), (tr, .inr (4, [.ref bg, .int (nI tc2_15)])), (bg, .inl (cI, 16, .inl gf2_14))] := hD
    refine lv_aload_n hx hb dX5_begin_113 rfl (lv_at hl 1 rfl) ?_
    refine lv_aload_n hx hb dX5_begin_114 rfl (lv_at hl 2 rfl) ?_
    refine lv_aload_n hx hb dX5_begin_115 rfl (lv_at hl 1 rfl) ?_
    refine lv_iload_n hx hb dX5_begin_116 rfl (lv_at hl 4 rfl) ?_
    refine wt_goI (wr := [(aH, .inl (cI, 6, .inl fH)), (aU, .inl (cI, 6, .inl fU)), (tr, .inr (4, [.ref bg, .int (nI tc2_15)])), (bg, .inl (cI, 16, .inl gf2_14))]) (wt_runSZ (As := [.ref ho, .int (nI j)]) (rest := [.ref tr, .ref ho, .int r_11]) ⟨hx, hb, hml, hown, hts⟩ (c_X5_markBody l D cI cZ cH _ _ _ ho aK T j fK vz_0 vz_1 vz_2 vz_4 vz_5 vz_6 vz_8 vz_9 (.ref aH) (.ref aU) (by first | assumption | omega) (by first | assumption | omega)) (va_cwS 2 hts gX5_begin_X5_markBody rfl rfl rfl (by decide +kernel) ⟨Nat.le_of_ble_eq_true rfl, Nat.le_of_ble_eq_true rfl⟩) hK hP hD [0, 1] rfl (by decide) hZ hS hA rfl hl.1 rfl (Nat.le_of_ble_eq_true rfl) dX5_begin_117 ⟨Nat.le_of_ble_eq_true rfl, Nat.le_of_ble_eq_true rfl⟩) hP hD hS hA [0, 1] [2, 3, 4, 5] rfl rfl (by decide) (by decide) (fun r_17 w_18 H locs h_19 hP hD hS => ?_)
    obtain rfl := h_19
    have hP : va_P D vwCl [(aH, .inl (cI, 6, .inl fH)), (aU, .inl (cI, 6, .inl fU)), (tr, .inr (4, [.ref bg, .int (nI tc2_15)])), (bg, .inl (cI, 16, .inl gf2_14)), (ho, .inr (0, [vz_0, vz_1, vz_2, .int (nI T), vz_4, vz_5, vz_6, .ref aK, vz_8, vz_9, .ref aH, .ref aU])), (aK, .inl (cI, 6, .inl fK))] H := hP
    have hD : va_D A [(aH, .inl (cI, 6, .inl fH)), (aU, .inl (cI, 6, .inl fU)), (tr, .inr (4, [.ref bg, .int (nI tc2_15)])), (bg, .inl (cI, 16, .inl gf2_14)), (ho, .inr (0, [vz_0, vz_1, vz_2, .int (nI T), vz_4, vz_5, vz_6, .ref aK, vz_8, vz_9, .ref aH, .ref aU])), (aK, .inl (cI, 6, .inl fK))] := hD
    refine lv_iload_n hx hb dX5_begin_120 rfl (lv_at hl 4 rfl) ?_
    refine lv_iload hx hb dX5_begin_121 (lv_at hl 0 rfl) ?_
    refine wt_goI (wr := []) (wt_runSZ (As := [.ref ho, .ref tr, .int r_17, .int (nI j), .int (nI (d + 1))]) (rest := [.int r_11]) ⟨hx, hb, hml, hown, hts⟩ (c_X5_begin_3 l D cI cZ cH _ _ _ ho aK aH aU T j (d + 1) fK fH fU tr bg tc2_15 gf2_14 r_17 vz_0 vz_1 vz_2 vz_4 vz_5 vz_6 vz_8 vz_9 (by first | assumption | omega) (by first | assumption | omega) (by first | assumption | omega) (by first | assumption | omega)) (va_cwS 5 hts gX5_begin_X5_begin rfl rfl rfl (by decide +kernel) ⟨Nat.le_of_ble_eq_true rfl, Nat.le_of_ble_eq_true rfl⟩) hK hP hD [4, 5, 0, 1, 2, 3] rfl (by decide) hZ hS hA rfl hl.1 rfl (Nat.le_of_ble_eq_true rfl) dX5_begin_123 ⟨Nat.le_of_ble_eq_true rfl, Nat.le_of_ble_eq_true rfl⟩) hP hD hS hA [4, 5, 0, 1, 2, 3] [] rfl rfl (by decide) (by decide) (fun r_20 w_21 H locs h_22 hP hD hS => ?_)
    obtain ⟨gf2_23, tc2_24, rfl, x_25⟩ := h_22
    have hP : va_P D vwCl [(ho, .inr (0, [vz_0, vz_1, vz_2, .int (nI T), vz_4, vz_5, vz_6, .ref aK, vz_8, vz_9, .ref aH, .ref aU])), (aK, .inl (cI, 6, .inl fK)), (aH, .inl (cI, 6, .inl fH)), (aU, .inl (cI, 6, .inl fU)), (tr, .inr (4, [.ref bg, .int (nI tc2_24)])), (bg, .inl (cI, 16, .inl gf2_23))] H := hP
    have hD : va_D A [(ho, .inr (0, [vz_0, vz_1, vz_2, .int (nI T), vz_4, vz_5, vz_6, .ref aK, vz_8, vz_9, .ref aH, .ref aU])), (aK, .inl (cI, 6, .inl fK)), (aH, .inl (cI, 6, .inl fH)), (aU, .inl (cI, 6, .inl fU)), (tr, .inr (4, [.ref bg, .int (nI tc2_24)])), (bg, .inl (cI, 16, .inl gf2_23))] := hD
    refine lv_iadd hx hb dX5_begin_126 ?_
    refine lv_topi (fun ov_26 _ => ?_)
    have hP9 := hP.sub (ws' := [(ho, .inr (0, [vz_0, vz_1, vz_2, .int (nI T), vz_4, vz_5, vz_6, .ref aK, vz_8, vz_9, .ref aH, .ref aU])), (aK, .inl (cI, 6, .inl fK)), (aH, .inl (cI, 6, .inl fH)), (aU, .inl (cI, 6, .inl fU)), (tr, .inr (4, [.ref bg, .int (nI tc2_24)])), (bg, .inl (cI, 16, .inl gf2_23))]) [0, 1, 2, 3, 4, 5] rfl
    have hD9 := hD.sub (ws' := [(ho, .inr (0, [vz_0, vz_1, vz_2, .int (nI T), vz_4, vz_5, vz_6, .ref aK, vz_8, vz_9, .ref aH, .ref aU])), (aK, .inl (cI, 6, .inl fK)), (aH, .inl (cI, 6, .inl fH)), (aU, .inl (cI, 6, .inl fU)), (tr, .inr (4, [.ref bg, .int (nI tc2_24)])), (bg, .inl (cI, 16, .inl gf2_23))]) [0, 1, 2, 3, 4, 5] (by decide) rfl
    exact wt_iret hx hb hr hlocks hP9 hD9 hS ⟨gf2_23, tc2_24, rfl, (by omega)⟩ dX5_begin_127
  rcases wt_dec (bo) 12 with c_27 | c_27
  · subst c_27
    refine lv_tableIn (off := 107) (tgt := 128) hx hb dX5_begin_21 (by decide) (by decide) rfl (by decide) ?_
    refine lv_aload_n hx hb dX5_begin_128 rfl (lv_at hl 1 rfl) ?_
    refine lv_aload_n hx hb dX5_begin_129 rfl (lv_at hl 2 rfl) ?_
    refine lv_bipush (v := 11) hx hb dX5_begin_130 (by decide) ?_
    refine lv_iload_n hx hb dX5_begin_132 rfl (lv_at hl 4 rfl) ?_
    refine lv_iload hx hb dX5_begin_133 (lv_at hl 0 rfl) ?_
    refine wt_goI (wr := []) (wt_runSZ (As := [.ref ho, .ref tr, .int 11, .int (nI j), .int (nI (d + 1))]) (rest := []) ⟨hx, hb, hml, hown, hts⟩ (c_X5_begin_3 l D cI cZ cH _ _ _ ho aK aH aU T j (d + 1) fK fH fU tr bg tc2_5 gf2_4 11 vz_0 vz_1 vz_2 vz_4 vz_5 vz_6 vz_8 vz_9 (by first | assumption | omega) (by first | assumption | omega) (by first | assumption | omega) (by first | assumption | omega)) (va_cwS 5 hts gX5_begin_X5_begin rfl rfl rfl (by decide +kernel) ⟨Nat.le_of_ble_eq_true rfl, Nat.le_of_ble_eq_true rfl⟩) hK hP hD [0, 1, 2, 3, 4, 5] rfl (by decide) hZ hS hA rfl hl.1 rfl (Nat.le_of_ble_eq_true rfl) dX5_begin_135 ⟨Nat.le_of_ble_eq_true rfl, Nat.le_of_ble_eq_true rfl⟩) hP hD hS hA [0, 1, 2, 3, 4, 5] [] rfl rfl (by decide) (by decide) (fun r_28 w_29 H locs h_30 hP hD hS => ?_)
    obtain ⟨gf2_31, tc2_32, rfl, x_33⟩ := h_30
    have hP : va_P D vwCl [(ho, .inr (0, [vz_0, vz_1, vz_2, .int (nI T), vz_4, vz_5, vz_6, .ref aK, vz_8, vz_9, .ref aH, .ref aU])), (aK, .inl (cI, 6, .inl fK)), (aH, .inl (cI, 6, .inl fH)), (aU, .inl (cI, 6, .inl fU)), (tr, .inr (4, [.ref bg, .int (nI tc2_32)])), (bg, .inl (cI, 16, .inl gf2_31))] H := hP
    have hD : va_D A [(ho, .inr (0, [vz_0, vz_1, vz_2, .int (nI T), vz_4, vz_5, vz_6, .ref aK, vz_8, vz_9, .ref aH, .ref aU])), (aK, .inl (cI, 6, .inl fK)), (aH, .inl (cI, 6, .inl fH)), (aU, .inl (cI, 6, .inl fU)), (tr, .inr (4, [.ref bg, .int (nI tc2_32)])), (bg, .inl (cI, 16, .inl gf2_31))] := hD
    refine lv_ineg hx hb dX5_begin_138 ?_
    refine lv_topi (fun ov_34 _ => ?_)
    have hP9 := hP.sub (ws' := [(ho, .inr (0, [vz_0, vz_1, vz_2, .int (nI T), vz_4, vz_5, vz_6, .ref aK, vz_8, vz_9, .ref aH, .ref aU])), (aK, .inl (cI, 6, .inl fK)), (aH, .inl (cI, 6, .inl fH)), (aU, .inl (cI, 6, .inl fU)), (tr, .inr (4, [.ref bg, .int (nI tc2_32)])), (bg, .inl (cI, 16, .inl gf2_31))]) [0, 1, 2, 3, 4, 5] rfl
    have hD9 := hD.sub (ws' := [(ho, .inr (0, [vz_0, vz_1, vz_2, .int (nI T), vz_4, vz_5, vz_6, .ref aK, vz_8, vz_9, .ref aH, .ref aU])), (aK, .inl (cI, 6, .inl fK)), (aH, .inl (cI, 6, .inl fH)), (aU, .inl (cI, 6, .inl fU)), (tr, .inr (4, [.ref bg, .int (nI tc2_32)])), (bg, .inl (cI, 16, .inl gf2_31))]) [0, 1, 2, 3, 4, 5] (by decide) rfl
    exact wt_iret hx hb hr hlocks hP9 hD9 hS ⟨gf2_31, tc2_32, rfl, (by omega)⟩ dX5_begin_139
  rcases wt_dec (bo) 13 with c_35 | c_35
  · subst c_35
    refine lv_tableIn (off := 119) (tgt := 140) hx hb dX5_begin_21 (by decide) (by decide) rfl (by decide) ?_
    refine lv_aload_n hx hb dX5_begin_140 rfl (lv_at hl 1 rfl) ?_
    refine lv_aload_n hx hb dX5_begin_141 rfl (lv_at hl 2 rfl) ?_
    refine lv_bipush (v := 10) hx hb dX5_begin_142 (by decide) ?_
    refine lv_iload_n hx hb dX5_begin_144 rfl (lv_at hl 4 rfl) ?_
    refine lv_iload hx hb dX5_begin_145 (lv_at hl 0 rfl) ?_
    refine wt_goI (wr := []) (wt_runSZ (As := [.ref ho, .ref tr, .int 10, .int (nI j), .int (nI (d + 1))]) (rest := []) ⟨hx, hb, hml, hown, hts⟩ (c_X5_begin_3 l D cI cZ cH _ _ _ ho aK aH aU T j (d + 1) fK fH fU tr bg tc2_5 gf2_4 10 vz_0 vz_1 vz_2 vz_4 vz_5 vz_6 vz_8 vz_9 (by first | assumption | omega) (by first | assumption | omega) (by first | assumption | omega) (by first | assumption | omega)) (va_cwS 5 hts gX5_begin_X5_begin rfl rfl rfl (by decide +kernel) ⟨Nat.le_of_ble_eq_true rfl, Nat.le_of_ble_eq_true rfl⟩) hK hP hD [0, 1, 2, 3, 4, 5] rfl (by decide) hZ hS hA rfl hl.1 rfl (Nat.le_of_ble_eq_true rfl) dX5_begin_147 ⟨Nat.le_of_ble_eq_true rfl, Nat.le_of_ble_eq_true rfl⟩) hP hD hS hA [0, 1, 2, 3, 4, 5] [] rfl rfl (by decide) (by decide) (fun r_36 w_37 H locs h_38 hP hD hS => ?_)
    obtain ⟨gf2_39, tc2_40, rfl, x_41⟩ := h_38
    have hP : va_P D vwCl [(ho, .inr (0, [vz_0, vz_1, vz_2, .int (nI T), vz_4, vz_5, vz_6, .ref aK, vz_8, vz_9, .ref aH, .ref aU])), (aK, .inl (cI, 6, .inl fK)), (aH, .inl (cI, 6, .inl fH)), (aU, .inl (cI, 6, .inl fU)), (tr, .inr (4, [.ref bg, .int (nI tc2_40)])), (bg, .inl (cI, 16, .inl gf2_39))] H := hP
    have hD : va_D A [(ho, .inr (0, [vz_0, vz_1, vz_2, .int (nI T), vz_4, vz_5, vz_6, .ref aK, vz_8, vz_9, .ref aH, .ref aU])), (aK, .inl (cI, 6, .inl fK)), (aH, .inl (cI, 6, .inl fH)), (aU, .inl (cI, 6, .inl fU)), (tr, .inr (4, [.ref bg, .int (nI tc2_40)])), (bg, .inl (cI, 16, .inl gf2_39))] := hD
    refine lv_bipush (v := 100) hx hb dX5_begin_150 (by decide) ?_
    refine lv_isub hx hb dX5_begin_152 ?_
    refine lv_topi (fun ov_42 _ => ?_)
    have hP9 := hP.sub (ws' := [(ho, .inr (0, [vz_0, vz_1, vz_2, .int (nI T), vz_4, vz_5, vz_6, .ref aK, vz_8, vz_9, .ref aH, .ref aU])), (aK, .inl (cI, 6, .inl fK)), (aH, .inl (cI, 6, .inl fH)), (aU, .inl (cI, 6, .inl fU)), (tr, .inr (4, [.ref bg, .int (nI tc2_40)])), (bg, .inl (cI, 16, .inl gf2_39))]) [0, 1, 2, 3, 4, 5] rfl
    have hD9 := hD.sub (ws' := [(ho, .inr (0, [vz_0, vz_1, vz_2, .int (nI T), vz_4, vz_5, vz_6, .ref aK, vz_8, vz_9, .ref aH, .ref aU])), (aK, .inl (cI, 6, .inl fK)), (aH, .inl (cI, 6, .inl fH)), (aU, .inl (cI, 6, .inl fU)), (tr, .inr (4, [.ref bg, .int (nI tc2_40)])), (bg, .inl (cI, 16, .inl gf2_39))]) [0, 1, 2, 3, 4, 5] (by decide) rfl
    exact wt_iret hx hb hr hlocks hP9 hD9 hS ⟨gf2_39, tc2_40, rfl, (by omega)⟩ dX5_begin_153
  rcases wt_dec (bo) 14 with c_43 | c_43
  · subst c_43
    refine lv_tableIn (off := 133) (tgt := 154) hx hb dX5_begin_21 (by decide) (by decide) rfl (by decide) ?_
    refine lv_aload_n hx hb dX5_begin_154 rfl (lv_at hl 1 rfl) ?_
    refine lv_aload_n hx hb dX5_begin_155 rfl (lv_at hl 2 rfl) ?_
    refine lv_bipush (v := 13) hx hb dX5_begin_156 (by decide) ?_
    refine lv_iload_n hx hb dX5_begin_158 rfl (lv_at hl 4 rfl) ?_
    refine lv_iload hx hb dX5_begin_159 (lv_at hl 0 rfl) ?_
    refine wt_goI (wr := []) (wt_runSZ (As := [.ref ho, .ref tr, .int 13, .int (nI j), .int (nI (d + 1))]) (rest := []) ⟨hx, hb, hml, hown, hts⟩ (c_X5_begin_3 l D cI cZ cH _ _ _ ho aK aH aU T j (d + 1) fK fH fU tr bg tc2_5 gf2_4 13 vz_0 vz_1 vz_2 vz_4 vz_5 vz_6 vz_8 vz_9 (by first | assumption | omega) (by first | assumption | omega) (by first | assumption | omega) (by first | assumption | omega)) (va_cwS 5 hts gX5_begin_X5_begin rfl rfl rfl (by decide +kernel) ⟨Nat.le_of_ble_eq_true rfl, Nat.le_of_ble_eq_true rfl⟩) hK hP hD [0, 1, 2, 3, 4, 5] rfl (by decide) hZ hS hA rfl hl.1 rfl (Nat.le_of_ble_eq_true rfl) dX5_begin_161 ⟨Nat.le_of_ble_eq_true rfl, Nat.le_of_ble_eq_true rfl⟩) hP hD hS hA [0, 1, 2, 3, 4, 5] [] rfl rfl (by decide) (by decide) (fun r_44 w_45 H locs h_46 hP hD hS => ?_)
    obtain ⟨gf2_47, tc2_48, rfl, x_49⟩ := h_46
    have hP : va_P D vwCl [(ho, .inr (0, [vz_0, vz_1, vz_2, .int (nI T), vz_4, vz_5, vz_6, .ref aK, vz_8, vz_9, .ref aH, .ref aU])), (aK, .inl (cI, 6, .inl fK)), (aH, .inl (cI, 6, .inl fH)), (aU, .inl (cI, 6, .inl fU)), (tr, .inr (4, [.ref bg, .int (nI tc2_48)])), (bg, .inl (cI, 16, .inl gf2_47))] H := hP
    have hD : va_D A [(ho, .inr (0, [vz_0, vz_1, vz_2, .int (nI T), vz_4, vz_5, vz_6, .ref aK, vz_8, vz_9, .ref aH, .ref aU])), (aK, .inl (cI, 6, .inl fK)), (aH, .inl (cI, 6, .inl fH)), (aU, .inl (cI, 6, .inl fU)), (tr, .inr (4, [.ref bg, .int (nI tc2_48)])), (bg, .inl (cI, 16, .inl gf2_47))] := hD
    refine lv_iconst (v := 2) hx hb dX5_begin_164 (by decide) ?_
    refine lv_imul hx hb dX5_begin_165 ?_
    refine lv_topi (fun ov_50 _ => ?_)
    have hP9 := hP.sub (ws' := [(ho, .inr (0, [vz_0, vz_1, vz_2, .int (nI T), vz_4, vz_5, vz_6, .ref aK, vz_8, vz_9, .ref aH, .ref aU])), (aK, .inl (cI, 6, .inl fK)), (aH, .inl (cI, 6, .inl fH)), (aU, .inl (cI, 6, .inl fU)), (tr, .inr (4, [.ref bg, .int (nI tc2_48)])), (bg, .inl (cI, 16, .inl gf2_47))]) [0, 1, 2, 3, 4, 5] rfl
    have hD9 := hD.sub (ws' := [(ho, .inr (0, [vz_0, vz_1, vz_2, .int (nI T), vz_4, vz_5, vz_6, .ref aK, vz_8, vz_9, .ref aH, .ref aU])), (aK, .inl (cI, 6, .inl fK)), (aH, .inl (cI, 6, .inl fH)), (aU, .inl (cI, 6, .inl fU)), (tr, .inr (4, [.ref bg, .int (nI tc2_48)])), (bg, .inl (cI, 16, .inl gf2_47))]) [0, 1, 2, 3, 4, 5] (by decide) rfl
    exact wt_iret hx hb hr hlocks hP9 hD9 hS ⟨gf2_47, tc2_48, rfl, (by omega)⟩ dX5_begin_166
  rcases wt_dec (bo) 15 with c_51 | c_51
  · subst c_51
    refine lv_tableIn (off := 219) (tgt := 240) hx hb dX5_begin_21 (by decide) (by decide) rfl (by decide) ?_
    refine lv_iconst (v := 0) hx hb dX5_begin_240 (by decide) ?_
    have hP9 := hP.sub (ws' := [(ho, .inr (0, [vz_0, vz_1, vz_2, .int (nI T), vz_4, vz_5, vz_6, .ref aK, vz_8, vz_9, .ref aH, .ref aU])), (aK, .inl (cI, 6, .inl fK)), (aH, .inl (cI, 6, .inl fH)), (aU, .inl (cI, 6, .inl fU)), (tr, .inr (4, [.ref bg, .int (nI tc2_5)])), (bg, .inl (cI, 16, .inl gf2_4))]) [0, 1, 2, 3, 4, 5] rfl
    have hD9 := hD.sub (ws' := [(ho, .inr (0, [vz_0, vz_1, vz_2, .int (nI T), vz_4, vz_5, vz_6, .ref aK, vz_8, vz_9, .ref aH, .ref aU])), (aK, .inl (cI, 6, .inl fK)), (aH, .inl (cI, 6, .inl fH)), (aU, .inl (cI, 6, .inl fU)), (tr, .inr (4, [.ref bg, .int (nI tc2_5)])), (bg, .inl (cI, 16, .inl gf2_4))]) [0, 1, 2, 3, 4, 5] (by decide) rfl
    exact wt_iret hx hb hr hlocks hP9 hD9 hS ⟨gf2_4, tc2_5, rfl, (by omega)⟩ dX5_begin_241
  rcases wt_dec (bo) 16 with c_52 | c_52
  · subst c_52
    refine lv_tableIn (off := 219) (tgt := 240) hx hb dX5_begin_21 (by decide) (by decide) rfl (by decide) ?_
    refine lv_iconst (v := 0) hx hb dX5_begin_240 (by decide) ?_
    have hP9 := hP.sub (ws' := [(ho, .inr (0, [vz_0, vz_1, vz_2, .int (nI T), vz_4, vz_5, vz_6, .ref aK, vz_8, vz_9, .ref aH, .ref aU])), (aK, .inl (cI, 6, .inl fK)), (aH, .inl (cI, 6, .inl fH)), (aU, .inl (cI, 6, .inl fU)), (tr, .inr (4, [.ref bg, .int (nI tc2_5)])), (bg, .inl (cI, 16, .inl gf2_4))]) [0, 1, 2, 3, 4, 5] rfl
    have hD9 := hD.sub (ws' := [(ho, .inr (0, [vz_0, vz_1, vz_2, .int (nI T), vz_4, vz_5, vz_6, .ref aK, vz_8, vz_9, .ref aH, .ref aU])), (aK, .inl (cI, 6, .inl fK)), (aH, .inl (cI, 6, .inl fH)), (aU, .inl (cI, 6, .inl fU)), (tr, .inr (4, [.ref bg, .int (nI tc2_5)])), (bg, .inl (cI, 16, .inl gf2_4))]) [0, 1, 2, 3, 4, 5] (by decide) rfl
    exact wt_iret hx hb hr hlocks hP9 hD9 hS ⟨gf2_4, tc2_5, rfl, (by omega)⟩ dX5_begin_241
  rcases wt_dec (bo) 17 with c_53 | c_53
  · subst c_53
    refine lv_tableIn (off := 219) (tgt := 240) hx hb dX5_begin_21 (by decide) (by decide) rfl (by decide) ?_
    refine lv_iconst (v := 0) hx hb dX5_begin_240 (by decide) ?_
    have hP9 := hP.sub (ws' := [(ho, .inr (0, [vz_0, vz_1, vz_2, .int (nI T), vz_4, vz_5, vz_6, .ref aK, vz_8, vz_9, .ref aH, .ref aU])), (aK, .inl (cI, 6, .inl fK)), (aH, .inl (cI, 6, .inl fH)), (aU, .inl (cI, 6, .inl fU)), (tr, .inr (4, [.ref bg, .int (nI tc2_5)])), (bg, .inl (cI, 16, .inl gf2_4))]) [0, 1, 2, 3, 4, 5] rfl
    have hD9 := hD.sub (ws' := [(ho, .inr (0, [vz_0, vz_1, vz_2, .int (nI T), vz_4, vz_5, vz_6, .ref aK, vz_8, vz_9, .ref aH, .ref aU])), (aK, .inl (cI, 6, .inl fK)), (aH, .inl (cI, 6, .inl fH)), (aU, .inl (cI, 6, .inl fU)), (tr, .inr (4, [.ref bg, .int (nI tc2_5)])), (bg, .inl (cI, 16, .inl gf2_4))]) [0, 1, 2, 3, 4, 5] (by decide) rfl
    exact wt_iret hx hb hr hlocks hP9 hD9 hS ⟨gf2_4, tc2_5, rfl, (by omega)⟩ dX5_begin_241
  rcases wt_dec (bo) 18 with c_54 | c_54
  · subst c_54
    refine lv_tableIn (off := 219) (tgt := 240) hx hb dX5_begin_21 (by decide) (by decide) rfl (by decide) ?_
    refine lv_iconst (v := 0) hx hb dX5_begin_240 (by decide) ?_
    have hP9 := hP.sub (ws' := [(ho, .inr (0, [vz_0, vz_1, vz_2, .int (nI T), vz_4, vz_5, vz_6, .ref aK, vz_8, vz_9, .ref aH, .ref aU])), (aK, .inl (cI, 6, .inl fK)), (aH, .inl (cI, 6, .inl fH)), (aU, .inl (cI, 6, .inl fU)), (tr, .inr (4, [.ref bg, .int (nI tc2_5)])), (bg, .inl (cI, 16, .inl gf2_4))]) [0, 1, 2, 3, 4, 5] rfl
    have hD9 := hD.sub (ws' := [(ho, .inr (0, [vz_0, vz_1, vz_2, .int (nI T), vz_4, vz_5, vz_6, .ref aK, vz_8, vz_9, .ref aH, .ref aU])), (aK, .inl (cI, 6, .inl fK)), (aH, .inl (cI, 6, .inl fH)), (aU, .inl (cI, 6, .inl fU)), (tr, .inr (4, [.ref bg, .int (nI tc2_5)])), (bg, .inl (cI, 16, .inl gf2_4))]) [0, 1, 2, 3, 4, 5] (by decide) rfl
    exact wt_iret hx hb hr hlocks hP9 hD9 hS ⟨gf2_4, tc2_5, rfl, (by omega)⟩ dX5_begin_241
  rcases wt_dec (bo) 19 with c_55 | c_55
  · subst c_55
    refine lv_tableIn (off := 219) (tgt := 240) hx hb dX5_begin_21 (by decide) (by decide) rfl (by decide) ?_
    refine lv_iconst (v := 0) hx hb dX5_begin_240 (by decide) ?_
    have hP9 := hP.sub (ws' := [(ho, .inr (0, [vz_0, vz_1, vz_2, .int (nI T), vz_4, vz_5, vz_6, .ref aK, vz_8, vz_9, .ref aH, .ref aU])), (aK, .inl (cI, 6, .inl fK)), (aH, .inl (cI, 6, .inl fH)), (aU, .inl (cI, 6, .inl fU)), (tr, .inr (4, [.ref bg, .int (nI tc2_5)])), (bg, .inl (cI, 16, .inl gf2_4))]) [0, 1, 2, 3, 4, 5] rfl
    have hD9 := hD.sub (ws' := [(ho, .inr (0, [vz_0, vz_1, vz_2, .int (nI T), vz_4, vz_5, vz_6, .ref aK, vz_8, vz_9, .ref aH, .ref aU])), (aK, .inl (cI, 6, .inl fK)), (aH, .inl (cI, 6, .inl fH)), (aU, .inl (cI, 6, .inl fU)), (tr, .inr (4, [.ref bg, .int (nI tc2_5)])), (bg, .inl (cI, 16, .inl gf2_4))]) [0, 1, 2, 3, 4, 5] (by decide) rfl
    exact wt_iret hx hb hr hlocks hP9 hD9 hS ⟨gf2_4, tc2_5, rfl, (by omega)⟩ dX5_begin_241
  rcases wt_dec (bo) 20 with c_56 | c_56
  · subst c_56
    refine lv_tableIn (off := 146) (tgt := 167) hx hb dX5_begin_21 (by decide) (by decide) rfl (by decide) ?_
    refine lv_iload_n hx hb dX5_begin_167 rfl (lv_at hl 4 rfl) ?_
    have hP9 := hP.sub (ws' := [(ho, .inr (0, [vz_0, vz_1, vz_2, .int (nI T), vz_4, vz_5, vz_6, .ref aK, vz_8, vz_9, .ref aH, .ref aU])), (aK, .inl (cI, 6, .inl fK)), (aH, .inl (cI, 6, .inl fH)), (aU, .inl (cI, 6, .inl fU)), (tr, .inr (4, [.ref bg, .int (nI tc2_5)])), (bg, .inl (cI, 16, .inl gf2_4))]) [0, 1, 2, 3, 4, 5] rfl
    have hD9 := hD.sub (ws' := [(ho, .inr (0, [vz_0, vz_1, vz_2, .int (nI T), vz_4, vz_5, vz_6, .ref aK, vz_8, vz_9, .ref aH, .ref aU])), (aK, .inl (cI, 6, .inl fK)), (aH, .inl (cI, 6, .inl fH)), (aU, .inl (cI, 6, .inl fU)), (tr, .inr (4, [.ref bg, .int (nI tc2_5)])), (bg, .inl (cI, 16, .inl gf2_4))]) [0, 1, 2, 3, 4, 5] (by decide) rfl
    exact wt_iret hx hb hr hlocks hP9 hD9 hS ⟨gf2_4, tc2_5, rfl, (by omega)⟩ dX5_begin_168
  rcases wt_dec (bo) 21 with c_57 | c_57
  · subst c_57
    refine lv_tableIn (off := 148) (tgt := 169) hx hb dX5_begin_21 (by decide) (by decide) rfl (by decide) ?_
    refine lv_aload_n hx hb dX5_begin_169 rfl (lv_at hl 1 rfl) ?_
    refine lv_aload_n hx hb dX5_begin_170 rfl (lv_at hl 2 rfl) ?_
    refine lv_bipush (v := 20) hx hb dX5_begin_171 (by decide) ?_
    refine lv_iload_n hx hb dX5_begin_173 rfl (lv_at hl 4 rfl) ?_
    refine lv_iload hx hb dX5_begin_174 (lv_at hl 0 rfl) ?_
    refine wt_goI (wr := []) (wt_runSZ (As := [.ref ho, .ref tr, .int 20, .int (nI j), .int (nI (d + 1))]) (rest := []) ⟨hx, hb, hml, hown, hts⟩ (c_X5_begin_3 l D cI cZ cH _ _ _ ho aK aH aU T j (d + 1) fK fH fU tr bg tc2_5 gf2_4 20 vz_0 vz_1 vz_2 vz_4 vz_5 vz_6 vz_8 vz_9 (by first | assumption | omega) (by first | assumption | omega) (by first | assumption | omega) (by first | assumption | omega)) (va_cwS 5 hts gX5_begin_X5_begin rfl rfl rfl (by decide +kernel) ⟨Nat.le_of_ble_eq_true rfl, Nat.le_of_ble_eq_true rfl⟩) hK hP hD [0, 1, 2, 3, 4, 5] rfl (by decide) hZ hS hA rfl hl.1 rfl (Nat.le_of_ble_eq_true rfl) dX5_begin_176 ⟨Nat.le_of_ble_eq_true rfl, Nat.le_of_ble_eq_true rfl⟩) hP hD hS hA [0, 1, 2, 3, 4, 5] [] rfl rfl (by decide) (by decide) (fun r_58 w_59 H locs h_60 hP hD hS => ?_)
    obtain ⟨gf2_61, tc2_62, rfl, x_63⟩ := h_60
    have hP : va_P D vwCl [(ho, .inr (0, [vz_0, vz_1, vz_2, .int (nI T), vz_4, vz_5, vz_6, .ref aK, vz_8, vz_9, .ref aH, .ref aU])), (aK, .inl (cI, 6, .inl fK)), (aH, .inl (cI, 6, .inl fH)), (aU, .inl (cI, 6, .inl fU)), (tr, .inr (4, [.ref bg, .int (nI tc2_62)])), (bg, .inl (cI, 16, .inl gf2_61))] H := hP
    have hD : va_D A [(ho, .inr (0, [vz_0, vz_1, vz_2, .int (nI T), vz_4, vz_5, vz_6, .ref aK, vz_8, vz_9, .ref aH, .ref aU])), (aK, .inl (cI, 6, .inl fK)), (aH, .inl (cI, 6, .inl fH)), (aU, .inl (cI, 6, .inl fU)), (tr, .inr (4, [.ref bg, .int (nI tc2_62)])), (bg, .inl (cI, 16, .inl gf2_61))] := hD
    refine lv_aload_n hx hb dX5_begin_179 rfl (lv_at hl 1 rfl) ?_
    refine va_get (D := D) (ci := 0) (v := .ref aU) (C := RX0) (T := TX0) (N := 12) hx hb hts hi0 hown hK.1 hP 0 rfl rfl 11 (by decide) wf175 (fun _ h9 => h9) rfl dX5_begin_180 ?_
    refine lv_iload_n hx hb dX5_begin_183 rfl (lv_at hl 4 rfl) ?_
    refine va_iald hx hb hK.1 hP 3 0 rfl rfl (vp_in_nI (by omega) (by omega)) dX5_begin_184 ?_
    refine lv_topi (fun ov_64 _ => ?_)
    refine lv_iadd hx hb dX5_begin_185 ?_
    refine lv_topi (fun ov_65 _ => ?_)
    have hP9 := hP.sub (ws' := [(ho, .inr (0, [vz_0, vz_1, vz_2, .int (nI T), vz_4, vz_5, vz_6, .ref aK, vz_8, vz_9, .ref aH, .ref aU])), (aK, .inl (cI, 6, .inl fK)), (aH, .inl (cI, 6, .inl fH)), (aU, .inl (cI, 6, .inl fU)), (tr, .inr (4, [.ref bg, .int (nI tc2_62)])), (bg, .inl (cI, 16, .inl gf2_61))]) [0, 1, 2, 3, 4, 5] rfl
    have hD9 := hD.sub (ws' := [(ho, .inr (0, [vz_0, vz_1, vz_2, .int (nI T), vz_4, vz_5, vz_6, .ref aK, vz_8, vz_9, .ref aH, .ref aU])), (aK, .inl (cI, 6, .inl fK)), (aH, .inl (cI, 6, .inl fH)), (aU, .inl (cI, 6, .inl fU)), (tr, .inr (4, [.ref bg, .int (nI tc2_62)])), (bg, .inl (cI, 16, .inl gf2_61))]) [0, 1, 2, 3, 4, 5] (by decide) rfl
    exact wt_iret hx hb hr hlocks hP9 hD9 hS ⟨gf2_61, tc2_62, rfl, (by omega)⟩ dX5_begin_186
  rcases wt_dec (bo) 22 with c_66 | c_66
  · subst c_66
    refine lv_tableIn (off := 166) (tgt := 187) hx hb dX5_begin_21 (by decide) (by decide) rfl (by decide) ?_
    refine lv_aload_n hx hb dX5_begin_187 rfl (lv_at hl 1 rfl) ?_
    refine lv_aload_n hx hb dX5_begin_188 rfl (lv_at hl 2 rfl) ?_
    refine lv_bipush (v := 21) hx hb dX5_begin_189 (by decide) ?_
    refine lv_iload_n hx hb dX5_begin_191 rfl (lv_at hl 4 rfl) ?_
    refine lv_iload hx hb dX5_begin_192 (lv_at hl 0 rfl) ?_
    refine wt_goI (wr := []) (wt_runSZ (As := [.ref ho, .ref tr, .int 21, .int (nI j), .int (nI (d + 1))]) (rest := []) ⟨hx, hb, hml, hown, hts⟩ (c_X5_begin_3 l D cI cZ cH _ _ _ ho aK aH aU T j (d + 1) fK fH fU tr bg tc2_5 gf2_4 21 vz_0 vz_1 vz_2 vz_4 vz_5 vz_6 vz_8 vz_9 (by first | assumption | omega) (by first | assumption | omega) (by first | assumption | omega) (by first | assumption | omega)) (va_cwS 5 hts gX5_begin_X5_begin rfl rfl rfl (by decide +kernel) ⟨Nat.le_of_ble_eq_true rfl, Nat.le_of_ble_eq_true rfl⟩) hK hP hD [0, 1, 2, 3, 4, 5] rfl (by decide) hZ hS hA rfl hl.1 rfl (Nat.le_of_ble_eq_true rfl) dX5_begin_194 ⟨Nat.le_of_ble_eq_true rfl, Nat.le_of_ble_eq_true rfl⟩) hP hD hS hA [0, 1, 2, 3, 4, 5] [] rfl rfl (by decide) (by decide) (fun r_67 w_68 H locs h_69 hP hD hS => ?_)
    obtain ⟨gf2_70, tc2_71, rfl, x_72⟩ := h_69
    have hP : va_P D vwCl [(ho, .inr (0, [vz_0, vz_1, vz_2, .int (nI T), vz_4, vz_5, vz_6, .ref aK, vz_8, vz_9, .ref aH, .ref aU])), (aK, .inl (cI, 6, .inl fK)), (aH, .inl (cI, 6, .inl fH)), (aU, .inl (cI, 6, .inl fU)), (tr, .inr (4, [.ref bg, .int (nI tc2_71)])), (bg, .inl (cI, 16, .inl gf2_70))] H := hP
    have hD : va_D A [(ho, .inr (0, [vz_0, vz_1, vz_2, .int (nI T), vz_4, vz_5, vz_6, .ref aK, vz_8, vz_9, .ref aH, .ref aU])), (aK, .inl (cI, 6, .inl fK)), (aH, .inl (cI, 6, .inl fH)), (aU, .inl (cI, 6, .inl fU)), (tr, .inr (4, [.ref bg, .int (nI tc2_71)])), (bg, .inl (cI, 16, .inl gf2_70))] := hD
    refine lv_sipush (v := 1000) hx hb dX5_begin_197 (by decide) ?_
    refine lv_isub hx hb dX5_begin_200 ?_
    refine lv_topi (fun ov_73 _ => ?_)
    have hP9 := hP.sub (ws' := [(ho, .inr (0, [vz_0, vz_1, vz_2, .int (nI T), vz_4, vz_5, vz_6, .ref aK, vz_8, vz_9, .ref aH, .ref aU])), (aK, .inl (cI, 6, .inl fK)), (aH, .inl (cI, 6, .inl fH)), (aU, .inl (cI, 6, .inl fU)), (tr, .inr (4, [.ref bg, .int (nI tc2_71)])), (bg, .inl (cI, 16, .inl gf2_70))]) [0, 1, 2, 3, 4, 5] rfl
    have hD9 := hD.sub (ws' := [(ho, .inr (0, [vz_0, vz_1, vz_2, .int (nI T), vz_4, vz_5, vz_6, .ref aK, vz_8, vz_9, .ref aH, .ref aU])), (aK, .inl (cI, 6, .inl fK)), (aH, .inl (cI, 6, .inl fH)), (aU, .inl (cI, 6, .inl fU)), (tr, .inr (4, [.ref bg, .int (nI tc2_71)])), (bg, .inl (cI, 16, .inl gf2_70))]) [0, 1, 2, 3, 4, 5] (by decide) rfl
    exact wt_iret hx hb hr hlocks hP9 hD9 hS ⟨gf2_70, tc2_71, rfl, (by omega)⟩ dX5_begin_201
  rcases wt_dec (bo) 23 with c_74 | c_74
  · subst c_74
    refine lv_tableIn (off := 181) (tgt := 202) hx hb dX5_begin_21 (by decide) (by decide) rfl (by decide) ?_
    refine lv_aload_n hx hb dX5_begin_202 rfl (lv_at hl 1 rfl) ?_
    refine lv_aload_n hx hb dX5_begin_203 rfl (lv_at hl 2 rfl) ?_
    refine lv_bipush (v := 20) hx hb dX5_begin_204 (by decide) ?_
    refine lv_iload_n hx hb dX5_begin_206 rfl (lv_at hl 4 rfl) ?_
    refine lv_iload hx hb dX5_begin_207 (lv_at hl 0 rfl) ?_
    refine wt_goI (wr := []) (wt_runSZ (As := [.ref ho, .ref tr, .int 20, .int (nI j), .int (nI (d + 1))]) (rest := []) ⟨hx, hb, hml, hown, hts⟩ (c_X5_begin_3 l D cI cZ cH _ _ _ ho aK aH aU T j (d + 1) fK fH fU tr bg tc2_5 gf2_4 20 vz_0 vz_1 vz_2 vz_4 vz_5 vz_6 vz_8 vz_9 (by first | assumption | omega) (by first | assumption | omega) (by first | assumption | omega) (by first | assumption | omega)) (va_cwS 5 hts gX5_begin_X5_begin rfl rfl rfl (by decide +kernel) ⟨Nat.le_of_ble_eq_true rfl, Nat.le_of_ble_eq_true rfl⟩) hK hP hD [0, 1, 2, 3, 4, 5] rfl (by decide) hZ hS hA rfl hl.1 rfl (Nat.le_of_ble_eq_true rfl) dX5_begin_209 ⟨Nat.le_of_ble_eq_true rfl, Nat.le_of_ble_eq_true rfl⟩) hP hD hS hA [0, 1, 2, 3, 4, 5] [] rfl rfl (by decide) (by decide) (fun r_75 w_76 H locs h_77 hP hD hS => ?_)
    obtain ⟨gf2_78, tc2_79, rfl, x_80⟩ := h_77
    have hP : va_P D vwCl [(ho, .inr (0, [vz_0, vz_1, vz_2, .int (nI T), vz_4, vz_5, vz_6, .ref aK, vz_8, vz_9, .ref aH, .ref aU])), (aK, .inl (cI, 6, .inl fK)), (aH, .inl (cI, 6, .inl fH)), (aU, .inl (cI, 6, .inl fU)), (tr, .inr (4, [.ref bg, .int (nI tc2_79)])), (bg, .inl (cI, 16, .inl gf2_78))] H := hP
    have hD : va_D A [(ho, .inr (0, [vz_0, vz_1, vz_2, .int (nI T), vz_4, vz_5, vz_6, .ref aK, vz_8, vz_9, .ref aH, .ref aU])), (aK, .inl (cI, 6, .inl fK)), (aH, .inl (cI, 6, .inl fH)), (aU, .inl (cI, 6, .inl fU)), (tr, .inr (4, [.ref bg, .int (nI tc2_79)])), (bg, .inl (cI, 16, .inl gf2_78))] := hD
    refine lv_aload_n hx hb dX5_begin_212 rfl (lv_at hl 1 rfl) ?_
    refine lv_aload_n hx hb dX5_begin_213 rfl (lv_at hl 2 rfl) ?_
    refine lv_aload_n hx hb dX5_begin_214 rfl (lv_at hl 1 rfl) ?_
    refine lv_iload_n hx hb dX5_begin_215 rfl (lv_at hl 4 rfl) ?_
    refine wt_goI (wr := [(aH, .inl (cI, 6, .inl fH)), (aU, .inl (cI, 6, .inl fU)), (tr, .inr (4, [.ref bg, .int (nI tc2_79)])), (bg, .inl (cI, 16, .inl gf2_78))]) (wt_runSZ (As := [.ref ho, .int (nI j)]) (rest := [.ref tr, .ref ho, .int r_75]) ⟨hx, hb, hml, hown, hts⟩ (c_X5_sizeBody l D cI cZ cH _ _ _ ho aK T j fK vz_0 vz_1 vz_2 vz_4 vz_5 vz_6 vz_8 vz_9 (.ref aH) (.ref aU) (by first | assumption | omega) (by first | assumption | omega)) (va_cwS 2 hts gX5_begin_X5_sizeBody rfl rfl rfl (by decide +kernel) ⟨Nat.le_of_ble_eq_true rfl, Nat.le_of_ble_eq_true rfl⟩) hK hP hD [0, 1] rfl (by decide) hZ hS hA rfl hl.1 rfl (Nat.le_of_ble_eq_true rfl) dX5_begin_216 ⟨Nat.le_of_ble_eq_true rfl, Nat.le_of_ble_eq_true rfl⟩) hP hD hS hA [0, 1] [2, 3, 4, 5] rfl rfl (by decide) (by decide) (fun r_81 w_82 H locs h_83 hP hD hS => ?_)
    obtain rfl := h_83
    have hP : va_P D vwCl [(aH, .inl (cI, 6, .inl fH)), (aU, .inl (cI, 6, .inl fU)), (tr, .inr (4, [.ref bg, .int (nI tc2_79)])), (bg, .inl (cI, 16, .inl gf2_78)), (ho, .inr (0, [vz_0, vz_1, vz_2, .int (nI T), vz_4, vz_5, vz_6, .ref aK, vz_8, vz_9, .ref aH, .ref aU])), (aK, .inl (cI, 6, .inl fK))] H := hP
    have hD : va_D A [(aH, .inl (cI, 6, .inl fH)), (aU, .inl (cI, 6, .inl fU)), (tr, .inr (4, [.ref bg, .int (nI tc2_79)])), (bg, .inl (cI, 16, .inl gf2_78)), (ho, .inr (0, [vz_0, vz_1, vz_2, .int (nI T), vz_4, vz_5, vz_6, .ref aK, vz_8, vz_9, .ref aH, .ref aU])), (aK, .inl (cI, 6, .inl fK))] := hD
    refine lv_iload_n hx hb dX5_begin_219 rfl (lv_at hl 4 rfl) ?_
    refine lv_iload hx hb dX5_begin_220 (lv_at hl 0 rfl) ?_
    refine wt_goI (wr := []) (wt_runSZ (As := [.ref ho, .ref tr, .int r_81, .int (nI j), .int (nI (d + 1))]) (rest := [.int r_75]) ⟨hx, hb, hml, hown, hts⟩ (c_X5_begin_3 l D cI cZ cH _ _ _ ho aK aH aU T j (d + 1) fK fH fU tr bg tc2_79 gf2_78 r_81 vz_0 vz_1 vz_2 vz_4 vz_5 vz_6 vz_8 vz_9 (by first | assumption | omega) (by first | assumption | omega) (by first | assumption | omega) (by first | assumption | omega)) (va_cwS 5 hts gX5_begin_X5_begin rfl rfl rfl (by decide +kernel) ⟨Nat.le_of_ble_eq_true rfl, Nat.le_of_ble_eq_true rfl⟩) hK hP hD [4, 5, 0, 1, 2, 3] rfl (by decide) hZ hS hA rfl hl.1 rfl (Nat.le_of_ble_eq_true rfl) dX5_begin_222 ⟨Nat.le_of_ble_eq_true rfl, Nat.le_of_ble_eq_true rfl⟩) hP hD hS hA [4, 5, 0, 1, 2, 3] [] rfl rfl (by decide) (by decide) (fun r_84 w_85 H locs h_86 hP hD hS => ?_)
    obtain ⟨gf2_87, tc2_88, rfl, x_89⟩ := h_86
    have hP : va_P D vwCl [(ho, .inr (0, [vz_0, vz_1, vz_2, .int (nI T), vz_4, vz_5, vz_6, .ref aK, vz_8, vz_9, .ref aH, .ref aU])), (aK, .inl (cI, 6, .inl fK)), (aH, .inl (cI, 6, .inl fH)), (aU, .inl (cI, 6, .inl fU)), (tr, .inr (4, [.ref bg, .int (nI tc2_88)])), (bg, .inl (cI, 16, .inl gf2_87))] H := hP
    have hD : va_D A [(ho, .inr (0, [vz_0, vz_1, vz_2, .int (nI T), vz_4, vz_5, vz_6, .ref aK, vz_8, vz_9, .ref aH, .ref aU])), (aK, .inl (cI, 6, .inl fK)), (aH, .inl (cI, 6, .inl fH)), (aU, .inl (cI, 6, .inl fU)), (tr, .inr (4, [.ref bg, .int (nI tc2_88)])), (bg, .inl (cI, 16, .inl gf2_87))] := hD
    refine lv_isub hx hb dX5_begin_225 ?_
    refine lv_topi (fun ov_90 _ => ?_)
    have hP9 := hP.sub (ws' := [(ho, .inr (0, [vz_0, vz_1, vz_2, .int (nI T), vz_4, vz_5, vz_6, .ref aK, vz_8, vz_9, .ref aH, .ref aU])), (aK, .inl (cI, 6, .inl fK)), (aH, .inl (cI, 6, .inl fH)), (aU, .inl (cI, 6, .inl fU)), (tr, .inr (4, [.ref bg, .int (nI tc2_88)])), (bg, .inl (cI, 16, .inl gf2_87))]) [0, 1, 2, 3, 4, 5] rfl
    have hD9 := hD.sub (ws' := [(ho, .inr (0, [vz_0, vz_1, vz_2, .int (nI T), vz_4, vz_5, vz_6, .ref aK, vz_8, vz_9, .ref aH, .ref aU])), (aK, .inl (cI, 6, .inl fK)), (aH, .inl (cI, 6, .inl fH)), (aU, .inl (cI, 6, .inl fU)), (tr, .inr (4, [.ref bg, .int (nI tc2_88)])), (bg, .inl (cI, 16, .inl gf2_87))]) [0, 1, 2, 3, 4, 5] (by decide) rfl
    exact wt_iret hx hb hr hlocks hP9 hD9 hS ⟨gf2_87, tc2_88, rfl, (by omega)⟩ dX5_begin_226
  rcases wt_dec (bo) 24 with c_91 | c_91
  · subst c_91
    refine lv_tableIn (off := 206) (tgt := 227) hx hb dX5_begin_21 (by decide) (by decide) rfl (by decide) ?_
    refine lv_aload_n hx hb dX5_begin_227 rfl (lv_at hl 1 rfl) ?_
    refine lv_aload_n hx hb dX5_begin_228 rfl (lv_at hl 2 rfl) ?_
    refine lv_bipush (v := 21) hx hb dX5_begin_229 (by decide) ?_
    refine lv_iload_n hx hb dX5_begin_231 rfl (lv_at hl 4 rfl) ?_
    refine lv_iload hx hb dX5_begin_232 (lv_at hl 0 rfl) ?_
    refine wt_goI (wr := []) (wt_runSZ (As := [.ref ho, .ref tr, .int 21, .int (nI j), .int (nI (d + 1))]) (rest := []) ⟨hx, hb, hml, hown, hts⟩ (c_X5_begin_3 l D cI cZ cH _ _ _ ho aK aH aU T j (d + 1) fK fH fU tr bg tc2_5 gf2_4 21 vz_0 vz_1 vz_2 vz_4 vz_5 vz_6 vz_8 vz_9 (by first | assumption | omega) (by first | assumption | omega) (by first | assumption | omega) (by first | assumption | omega)) (va_cwS 5 hts gX5_begin_X5_begin rfl rfl rfl (by decide +kernel) ⟨Nat.le_of_ble_eq_true rfl, Nat.le_of_ble_eq_true rfl⟩) hK hP hD [0, 1, 2, 3, 4, 5] rfl (by decide) hZ hS hA rfl hl.1 rfl (Nat.le_of_ble_eq_true rfl) dX5_begin_234 ⟨Nat.le_of_ble_eq_true rfl, Nat.le_of_ble_eq_true rfl⟩) hP hD hS hA [0, 1, 2, 3, 4, 5] [] rfl rfl (by decide) (by decide) (fun r_92 w_93 H locs h_94 hP hD hS => ?_)
    obtain ⟨gf2_95, tc2_96, rfl, x_97⟩ := h_94
    have hP : va_P D vwCl [(ho, .inr (0, [vz_0, vz_1, vz_2, .int (nI T), vz_4, vz_5, vz_6, .ref aK, vz_8, vz_9, .ref aH, .ref aU])), (aK, .inl (cI, 6, .inl fK)), (aH, .inl (cI, 6, .inl fH)), (aU, .inl (cI, 6, .inl fU)), (tr, .inr (4, [.ref bg, .int (nI tc2_96)])), (bg, .inl (cI, 16, .inl gf2_95))] H := hP
    have hD : va_D A [(ho, .inr (0, [vz_0, vz_1, vz_2, .int (nI T), vz_4, vz_5, vz_6, .ref aK, vz_8, vz_9, .ref aH, .ref aU])), (aK, .inl (cI, 6, .inl fK)), (aH, .inl (cI, 6, .inl fH)), (aU, .inl (cI, 6, .inl fU)), (tr, .inr (4, [.ref bg, .int (nI tc2_96)])), (bg, .inl (cI, 16, .inl gf2_95))] := hD
    refine lv_iconst (v := 2) hx hb dX5_begin_237 (by decide) ?_
    refine lv_imul hx hb dX5_begin_238 ?_
    refine lv_topi (fun ov_98 _ => ?_)
    have hP9 := hP.sub (ws' := [(ho, .inr (0, [vz_0, vz_1, vz_2, .int (nI T), vz_4, vz_5, vz_6, .ref aK, vz_8, vz_9, .ref aH, .ref aU])), (aK, .inl (cI, 6, .inl fK)), (aH, .inl (cI, 6, .inl fH)), (aU, .inl (cI, 6, .inl fU)), (tr, .inr (4, [.ref bg, .int (nI tc2_96)])), (bg, .inl (cI, 16, .inl gf2_95))]) [0, 1, 2, 3, 4, 5] rfl
    have hD9 := hD.sub (ws' := [(ho, .inr (0, [vz_0, vz_1, vz_2, .int (nI T), vz_4, vz_5, vz_6, .ref aK, vz_8, vz_9, .ref aH, .ref aU])), (aK, .inl (cI, 6, .inl fK)), (aH, .inl (cI, 6, .inl fH)), (aU, .inl (cI, 6, .inl fU)), (tr, .inr (4, [.ref bg, .int (nI tc2_96)])), (bg, .inl (cI, 16, .inl gf2_95))]) [0, 1, 2, 3, 4, 5] (by decide) rfl
    exact wt_iret hx hb hr hlocks hP9 hD9 hS ⟨gf2_95, tc2_96, rfl, (by omega)⟩ dX5_begin_239
  refine lv_tableOut (tgt := 240) hx hb dX5_begin_21 (by have := lv_neT (a := 10) c_8 rfl; have := lv_neT (a := 11) c_10 rfl; have := lv_neT (a := 12) c_27 rfl; have := lv_neT (a := 13) c_35 rfl; have := lv_neT (a := 14) c_43 rfl; have := lv_neT (a := 15) c_51 rfl; have := lv_neT (a := 16) c_52 rfl; have := lv_neT (a := 17) c_53 rfl; have := lv_neT (a := 18) c_54 rfl; have := lv_neT (a := 19) c_55 rfl; have := lv_neT (a := 20) c_56 rfl; have := lv_neT (a := 21) c_57 rfl; have := lv_neT (a := 22) c_66 rfl; have := lv_neT (a := 23) c_74 rfl; have := lv_neT (a := 24) c_91 rfl; omega) (by decide) ?_
  refine lv_iconst (v := 0) hx hb dX5_begin_240 (by decide) ?_
  have hP9 := hP.sub (ws' := [(ho, .inr (0, [vz_0, vz_1, vz_2, .int (nI T), vz_4, vz_5, vz_6, .ref aK, vz_8, vz_9, .ref aH, .ref aU])), (aK, .inl (cI, 6, .inl fK)), (aH, .inl (cI, 6, .inl fH)), (aU, .inl (cI, 6, .inl fU)), (tr, .inr (4, [.ref bg, .int (nI tc2_5)])), (bg, .inl (cI, 16, .inl gf2_4))]) [0, 1, 2, 3, 4, 5] rfl
  have hD9 := hD.sub (ws' := [(ho, .inr (0, [vz_0, vz_1, vz_2, .int (nI T), vz_4, vz_5, vz_6, .ref aK, vz_8, vz_9, .ref aH, .ref aU])), (aK, .inl (cI, 6, .inl fK)), (aH, .inl (cI, 6, .inl fH)), (aU, .inl (cI, 6, .inl fU)), (tr, .inr (4, [.ref bg, .int (nI tc2_5)])), (bg, .inl (cI, 16, .inl gf2_4))]) [0, 1, 2, 3, 4, 5] (by decide) rfl
  exact wt_iret hx hb hr hlocks hP9 hD9 hS ⟨gf2_4, tc2_5, rfl, (by omega)⟩ dX5_begin_241
set_option maxHeartbeats 4000000 in
set_option maxRecDepth 100000 in
theorem c_X5_begin_5 (l : Launch) (D : va_G) (cI cZ cH : ClassId) (ab sb mb : Nat) (ho aK aH aU : Nat) (T j d : Nat) (fK fH fU : Nat → Int32) (tr bg : Nat) (tc : Nat) (gf : Nat → Int32) (bo : Int32) (vz_0 vz_1 vz_2 vz_4 vz_5 vz_6 vz_8 vz_9 : Value) (hT6 : T ≤ 6) (hjT : j < T) (hd : d + 5 = 16) (htc : tc ≤ 16) : wt_MZ (wt_ZS ab sb mb abF sbF mbF) l yX5_begin wsX5_begin ({ frames := 6, cells := 0, slots := 0, locals := 144 } : Room) D (wt_T cI cZ cH) [.ref ho, .ref tr, .int bo, .int (nI j), .int (nI d)] [(ho, .inr (0, [vz_0, vz_1, vz_2, .int (nI T), vz_4, vz_5, vz_6, .ref aK, vz_8, vz_9, .ref aH, .ref aU])), (aK, .inl (cI, 6, .inl fK)), (aH, .inl (cI, 6, .inl fH)), (aU, .inl (cI, 6, .inl fU)), (tr, .inr (4, [.ref bg, .int (nI tc)])), (bg, .inl (cI, 16, .inl gf))] (wt_QI D (fun r w => ∃ (gf2 : Nat → Int32) (tc2 : Nat), w = [(ho, .inr (0, [vz_0, vz_1, vz_2, .int (nI T), vz_4, vz_5, vz_6, .ref aK, vz_8, vz_9, .ref aH, .ref aU])), (aK, .inl (cI, 6, .inl fK)), (aH, .inl (cI, 6, .inl fH)), (aU, .inl (cI, 6, .inl fU)), (tr, .inr (4, [.ref bg, .int (nI tc2)])), (bg, .inl (cI, 16, .inl gf2))] ∧ tc2 ≤ 16)) := by
  refine wt_MZ.ofW (cc := cX5_begin) (maxL := 6) (ret := (some .int)) (by decide) rfl (Nat.le_of_ble_eq_true rfl) ?_
  intro p e s m below meth c A ls hx hb hr hts hown hlocks hml hnm hP hK hD hA hS hl hZ
  have hP : va_P D vwCl [(ho, .inr (0, [vz_0, vz_1, vz_2, .int (nI T), vz_4, vz_5, vz_6, .ref aK, vz_8, vz_9, .ref aH, .ref aU])), (aK, .inl (cI, 6, .inl fK)), (aH, .inl (cI, 6, .inl fH)), (aU, .inl (cI, 6, .inl fU)), (tr, .inr (4, [.ref bg, .int (nI tc)])), (bg, .inl (cI, 16, .inl gf))] s.heap := hP
  have hown : s.vm.findClass RX5 = some m.cls := hown
  have hl : lv_has ls 6 [(0, .ref ho), (1, .ref tr), (2, .int bo), (3, .int (nI j)), (4, .int (nI d))] := hl
  have hi0 : ∀ w ∈ u_ws RX0 TX0 12, w ∈ wsX5_begin := by decide +kernel
  have wf175 := hts (.fieldLink RX5 175 "WarmTubes$House" "up" "[I") (by decide +kernel)
  have wf196 := hts (.fieldLink RX5 196 "WarmTubes$House" "holds" "[I") (by decide +kernel)
  refine lv_iload hx hb dX5_begin_0 (lv_at hl 4 rfl) ?_
  refine lv_bipush (v := 16) hx hb dX5_begin_2 (by decide) ?_
  refine lv_icmp_lt (tgt := 9) hx hb dX5_begin_4 (by decide) (fun _ => ?_) (fun h => absurd (nI_lt (a := d) (b := 16) (by omega) (by omega)) h)
  refine lv_aload_n hx hb dX5_begin_9 rfl (lv_at hl 1 rfl) ?_
  refine lv_iload_n hx hb dX5_begin_10 rfl (lv_at hl 2 rfl) ?_
  refine wt_goV (wr := [(ho, .inr (0, [vz_0, vz_1, vz_2, .int (nI T), vz_4, vz_5, vz_6, .ref aK, vz_8, vz_9, .ref aH, .ref aU])), (aK, .inl (cI, 6, .inl fK)), (aH, .inl (cI, 6, .inl fH)), (aU, .inl (cI, 6, .inl fU))]) (wt_runV (As := [.int bo]) (rest := []) ⟨hx, hb, hml, hown, hts⟩ (c_X4_leave l D cI cZ cH tr bg tc gf bo (by first | assumption | omega)) (cwV 1 hts gX5_begin_X4_leave rfl rfl rfl (by decide +kernel) ⟨Nat.le_of_ble_eq_true rfl, Nat.le_of_ble_eq_true rfl⟩) hK hP hD [4, 5] rfl (by decide) (va_recv hK.1 hP (ci := 4) (q0 := 4) rfl rfl) rfl hl.1 rfl (Nat.le_of_ble_eq_true rfl) dX5_begin_11 ⟨Nat.le_of_ble_eq_true rfl, Nat.le_of_ble_eq_true rfl⟩) hP hD hS hA [4, 5] [0, 1, 2, 3] rfl rfl (by decide) (by decide) (fun w_2 H locs h_3 hP hD hS => ?_)
  obtain ⟨gf2_4, tc2_5, rfl, x_6⟩ := h_3
  have hP : va_P D vwCl [(ho, .inr (0, [vz_0, vz_1, vz_2, .int (nI T), vz_4, vz_5, vz_6, .ref aK, vz_8, vz_9, .ref aH, .ref aU])), (aK, .inl (cI, 6, .inl fK)), (aH, .inl (cI, 6, .inl fH)), (aU, .inl (cI, 6, .inl fU)), (tr, .inr (4, [.ref bg, .int (nI tc2_5)])), (bg, .inl (cI, 16, .inl gf2_4))] H := hP
  have hD : va_D A [(ho, .inr (0, [vz_0, vz_1, vz_2, .int (nI T), vz_4, vz_5, vz_6, .ref aK, vz_8, vz_9, .ref aH, .ref aU])), (aK, .inl (cI, 6, .inl fK)), (aH, .inl (cI, 6, .inl fH)), (aU, .inl (cI, 6, .inl fU)), (tr, .inr (4, [.ref bg, .int (nI tc2_5)])), (bg, .inl (cI, 16, .inl gf2_4))] := hD
  refine lv_iload hx hb dX5_begin_14 (lv_at hl 4 rfl) ?_
  refine lv_iconst (v := 1) hx hb dX5_begin_16 (by decide) ?_
  refine lv_iadd hx hb dX5_begin_17 ?_
  refine wt_top (z := nI (d + 1)) (nI_add d 1) ?_
  refine lv_istore (lv' := [(5, .int (nI (d + 1))), (0, .ref ho), (1, .ref tr), (2, .int bo), (3, .int (nI j)), (4, .int (nI d))]) hx hb dX5_begin_18 hl (by decide) rfl (fun ls hl => ?_)
  refine lv_iload_n hx hb dX5_begin_20 rfl (lv_at hl 3 rfl) ?_
  rcases wt_dec (bo) 10 with c_8 | c_8
  · subst c_8
    refine lv_tableIn (off := 75) (tgt := 96) hx hb dX5_begin_21 (by decide) (by decide) rfl (by decide) ?_
    refine lv_aload_n hx hb dX5_begin_96 rfl (lv_at hl 1 rfl) ?_
    refine va_get (D := D) (ci := 0) (v := .ref aH) (C := RX0) (T := TX0) (N := 12) hx hb hts hi0 hown hK.1 hP 0 rfl rfl 10 (by decide) wf196 (fun _ h9 => h9) rfl dX5_begin_97 ?_
    refine lv_iload_n hx hb dX5_begin_100 rfl (lv_at hl 4 rfl) ?_
    refine va_iald hx hb hK.1 hP 2 0 rfl rfl (vp_in_nI (by omega) (by omega)) dX5_begin_101 ?_
    refine lv_topi (fun ov_9 _ => ?_)
    have hP9 := hP.sub (ws' := [(ho, .inr (0, [vz_0, vz_1, vz_2, .int (nI T), vz_4, vz_5, vz_6, .ref aK, vz_8, vz_9, .ref aH, .ref aU])), (aK, .inl (cI, 6, .inl fK)), (aH, .inl (cI, 6, .inl fH)), (aU, .inl (cI, 6, .inl fU)), (tr, .inr (4, [.ref bg, .int (nI tc2_5)])), (bg, .inl (cI, 16, .inl gf2_4))]) [0, 1, 2, 3, 4, 5] rfl
    have hD9 := hD.sub (ws' := [(ho, .inr (0, [vz_0, vz_1, vz_2, .int (nI T), vz_4, vz_5, vz_6, .ref aK, vz_8, vz_9, .ref aH, .ref aU])), (aK, .inl (cI, 6, .inl fK)), (aH, .inl (cI, 6, .inl fH)), (aU, .inl (cI, 6, .inl fU)), (tr, .inr (4, [.ref bg, .int (nI tc2_5)])), (bg, .inl (cI, 16, .inl gf2_4))]) [0, 1, 2, 3, 4, 5] (by decide) rfl
    exact wt_iret hx hb hr hlocks hP9 hD9 hS ⟨gf2_4, tc2_5, rfl, (by omega)⟩ dX5_begin_102
  rcases wt_dec (bo) 11 with c_10 | c_10
  · subst c_10
    refine lv_tableIn (off := 82) (tgt := 103) hx hb dX5_begin_21 (by decide) (by decide) rfl (by decide) ?_
    refine lv_aload_n hx hb dX5_begin_103 rfl (lv_at hl 1 rfl) ?_
    refine lv_aload_n hx hb dX5_begin_104 rfl (lv_at hl 2 rfl) ?_
    refine lv_bipush (v := 10) hx hb dX5_begin_105 (by decide) ?_
    refine lv_iload_n hx hb dX5_begin_107 rfl (lv_at hl 4 rfl) ?_
    refine lv_iload hx hb dX5_begin_108 (lv_at hl 0 rfl) ?_
    refine wt_goI (wr := []) (wt_runSZ (As := [.ref ho, .ref tr, .int 10, .int (nI j), .int (nI (d + 1))]) (rest := []) ⟨hx, hb, hml, hown, hts⟩ (c_X5_begin_4 l D cI cZ cH _ _ _ ho aK aH aU T j (d + 1) fK fH fU tr bg tc2_5 gf2_4 10 vz_0 vz_1 vz_2 vz_4 vz_5 vz_6 vz_8 vz_9 (by first | assumption | omega) (by first | assumption | omega) (by first | assumption | omega) (by first | assumption | omega)) (va_cwS 5 hts gX5_begin_X5_begin rfl rfl rfl (by decide +kernel) ⟨Nat.le_of_ble_eq_true rfl, Nat.le_of_ble_eq_true rfl⟩) hK hP hD [0, 1, 2, 3, 4, 5] rfl (by decide) hZ hS hA rfl hl.1 rfl (Nat.le_of_ble_eq_true rfl) dX5_begin_110 ⟨Nat.le_of_ble_eq_true rfl, Nat.le_of_ble_eq_true rfl⟩) hP hD hS hA [0, 1, 2, 3, 4, 5] [] rfl rfl (by decide) (by decide) (fun r_11 w_12 H locs h_13 hP hD hS => ?_)
    obtain ⟨gf2_14, tc2_15, rfl, x_16⟩ := h_13
    have hP : va_P D vwCl [(ho, .inr (0, [vz_0, vz_1, vz_2, .int (nI T), vz_4, vz_5, vz_6, .ref aK, vz_8, vz_9, .ref aH, .ref aU])), (aK, .inl (cI, 6, .inl fK)), (aH, .inl (cI, 6, .inl fH)), (aU, .inl (cI, 6, .inl fU)), (tr, .inr (4, [.ref bg, .int (nI tc2_15)])), (bg, .inl (cI, 16, .inl gf2_14))] H := hP
    have hD : va_D A [(ho, .inr (0, [vz_0, vz_1, vz_2, .int (nI T), vz_4, vz_5, vz_6, .ref aK, vz_8, vz_9, .ref aH, .ref aU])), (aK, .inl (cI, 6, .inl fK)), (aH, .inl (cI, 6, .inl fH)), (aU, .inl (cI, 6, .inl fU)), (tr, .inr (4, [.ref bg, .int (nI tc2_15)])), (bg, .inl (cI, 16, .inl gf2_14))] := hD
    refine lv_aload_n hx hb dX5_begin_113 rfl (lv_at hl 1 rfl) ?_
    refine lv_aload_n hx hb dX5_begin_114 rfl (lv_at hl 2 rfl) ?_
    refine lv_aload_n hx hb dX5_begin_115 rfl (lv_at hl 1 rfl) ?_
    refine lv_iload_n hx hb dX5_begin_116 rfl (lv_at hl 4 rfl) ?_
    refine wt_goI (wr := [(aH, .inl (cI, 6, .inl fH)), (aU, .inl (cI, 6, .inl fU)), (tr, .inr (4, [.ref bg, .int (nI tc2_15)])), (bg, .inl (cI, 16, .inl gf2_14))]) (wt_runSZ (As := [.ref ho, .int (nI j)]) (rest := [.ref tr, .ref ho, .int r_11]) ⟨hx, hb, hml, hown, hts⟩ (c_X5_markBody l D cI cZ cH _ _ _ ho aK T j fK vz_0 vz_1 vz_2 vz_4 vz_5 vz_6 vz_8 vz_9 (.ref aH) (.ref aU) (by first | assumption | omega) (by first | assumption | omega)) (va_cwS 2 hts gX5_begin_X5_markBody rfl rfl rfl (by decide +kernel) ⟨Nat.le_of_ble_eq_true rfl, Nat.le_of_ble_eq_true rfl⟩) hK hP hD [0, 1] rfl (by decide) hZ hS hA rfl hl.1 rfl (Nat.le_of_ble_eq_true rfl) dX5_begin_117 ⟨Nat.le_of_ble_eq_true rfl, Nat.le_of_ble_eq_true rfl⟩) hP hD hS hA [0, 1] [2, 3, 4, 5] rfl rfl (by decide) (by decide) (fun r_17 w_18 H locs h_19 hP hD hS => ?_)
    obtain rfl := h_19
    have hP : va_P D vwCl [(aH, .inl (cI, 6, .inl fH)), (aU, .inl (cI, 6, .inl fU)), (tr, .inr (4, [.ref bg, .int (nI tc2_15)])), (bg, .inl (cI, 16, .inl gf2_14)), (ho, .inr (0, [vz_0, vz_1, vz_2, .int (nI T), vz_4, vz_5, vz_6, .ref aK, vz_8, vz_9, .ref aH, .ref aU])), (aK, .inl (cI, 6, .inl fK))] H := hP
    have hD : va_D A [(aH, .inl (cI, 6, .inl fH)), (aU, .inl (cI, 6, .inl fU)), (tr, .inr (4, [.ref bg, .int (nI tc2_15)])), (bg, .inl (cI, 16, .inl gf2_14)), (ho, .inr (0, [vz_0, vz_1, vz_2, .int (nI T), vz_4, vz_5, vz_6, .ref aK, vz_8, vz_9, .ref aH, .ref aU])), (aK, .inl (cI, 6, .inl fK))] := hD
    refine lv_iload_n hx hb dX5_begin_120 rfl (lv_at hl 4 rfl) ?_
    refine lv_iload hx hb dX5_begin_121 (lv_at hl 0 rfl) ?_
    refine wt_goI (wr := []) (wt_runSZ (As := [.ref ho, .ref tr, .int r_17, .int (nI j), .int (nI (d + 1))]) (rest := [.int r_11]) ⟨hx, hb, hml, hown, hts⟩ (c_X5_begin_4 l D cI cZ cH _ _ _ ho aK aH aU T j (d + 1) fK fH fU tr bg tc2_15 gf2_14 r_17 vz_0 vz_1 vz_2 vz_4 vz_5 vz_6 vz_8 vz_9 (by first | assumption | omega) (by first | assumption | omega) (by first | assumption | omega) (by first | assumption | omega)) (va_cwS 5 hts gX5_begin_X5_begin rfl rfl rfl (by decide +kernel) ⟨Nat.le_of_ble_eq_true rfl, Nat.le_of_ble_eq_true rfl⟩) hK hP hD [4, 5, 0, 1, 2, 3] rfl (by decide) hZ hS hA rfl hl.1 rfl (Nat.le_of_ble_eq_true rfl) dX5_begin_123 ⟨Nat.le_of_ble_eq_true rfl, Nat.le_of_ble_eq_true rfl⟩) hP hD hS hA [4, 5, 0, 1, 2, 3] [] rfl rfl (by decide) (by decide) (fun r_20 w_21 H locs h_22 hP hD hS => ?_)
    obtain ⟨gf2_23, tc2_24, rfl, x_25⟩ := h_22
    have hP : va_P D vwCl [(ho, .inr (0, [vz_0, vz_1, vz_2, .int (nI T), vz_4, vz_5, vz_6, .ref aK, vz_8, vz_9, .ref aH, .ref aU])), (aK, .inl (cI, 6, .inl fK)), (aH, .inl (cI, 6, .inl fH)), (aU, .inl (cI, 6, .inl fU)), (tr, .inr (4, [.ref bg, .int (nI tc2_24)])), (bg, .inl (cI, 16, .inl gf2_23))] H := hP
    have hD : va_D A [(ho, .inr (0, [vz_0, vz_1, vz_2, .int (nI T), vz_4, vz_5, vz_6, .ref aK, vz_8, vz_9, .ref aH, .ref aU])), (aK, .inl (cI, 6, .inl fK)), (aH, .inl (cI, 6, .inl fH)), (aU, .inl (cI, 6, .inl fU)), (tr, .inr (4, [.ref bg, .int (nI tc2_24)])), (bg, .inl (cI, 16, .inl gf2_23))] := hD
    refine lv_iadd hx hb dX5_begin_126 ?_
    refine lv_topi (fun ov_26 _ => ?_)
    have hP9 := hP.sub (ws' := [(ho, .inr (0, [vz_0, vz_1, vz_2, .int (nI T), vz_4, vz_5, vz_6, .ref aK, vz_8, vz_9, .ref aH, .ref aU])), (aK, .inl (cI, 6, .inl fK)), (aH, .inl (cI, 6, .inl fH)), (aU, .inl (cI, 6, .inl fU)), (tr, .inr (4, [.ref bg, .int (nI tc2_24)])), (bg, .inl (cI, 16, .inl gf2_23))]) [0, 1, 2, 3, 4, 5] rfl
    have hD9 := hD.sub (ws' := [(ho, .inr (0, [vz_0, vz_1, vz_2, .int (nI T), vz_4, vz_5, vz_6, .ref aK, vz_8, vz_9, .ref aH, .ref aU])), (aK, .inl (cI, 6, .inl fK)), (aH, .inl (cI, 6, .inl fH)), (aU, .inl (cI, 6, .inl fU)), (tr, .inr (4, [.ref bg, .int (nI tc2_24)])), (bg, .inl (cI, 16, .inl gf2_23))]) [0, 1, 2, 3, 4, 5] (by decide) rfl
    exact wt_iret hx hb hr hlocks hP9 hD9 hS ⟨gf2_23, tc2_24, rfl, (by omega)⟩ dX5_begin_127
  rcases wt_dec (bo) 12 with c_27 | c_27
  · subst c_27
    refine lv_tableIn (off := 107) (tgt := 128) hx hb dX5_begin_21 (by decide) (by decide) rfl (by decide) ?_
    refine lv_aload_n hx hb dX5_begin_128 rfl (lv_at hl 1 rfl) ?_
    refine lv_aload_n hx hb dX5_begin_129 rfl (lv_at hl 2 rfl) ?_
    refine lv_bipush (v := 11) hx hb dX5_begin_130 (by decide) ?_
    refine lv_iload_n hx hb dX5_begin_132 rfl (lv_at hl 4 rfl) ?_
    refine lv_iload hx hb dX5_begin_133 (lv_at hl 0 rfl) ?_
    refine wt_goI (wr := []) (wt_runSZ (As := [.ref ho, .ref tr, .int 11, .int (nI j), .int (nI (d + 1))]) (rest := []) ⟨hx, hb, hml, hown, hts⟩ (c_X5_begin_4 l D cI cZ cH _ _ _ ho aK aH aU T j (d + 1) fK fH fU tr bg tc2_5 gf2_4 11 vz_0 vz_1 vz_2 vz_4 vz_5 vz_6 vz_8 vz_9 (by first | assumption | omega) (by first | assumption | omega) (by first | assumption | omega) (by first | assumption | omega)) (va_cwS 5 hts gX5_begin_X5_begin rfl rfl rfl (by decide +kernel) ⟨Nat.le_of_ble_eq_true rfl, Nat.le_of_ble_eq_true rfl⟩) hK hP hD [0, 1, 2, 3, 4, 5] rfl (by decide) hZ hS hA rfl hl.1 rfl (Nat.le_of_ble_eq_true rfl) dX5_begin_135 ⟨Nat.le_of_ble_eq_true rfl, Nat.le_of_ble_eq_true rfl⟩) hP hD hS hA [0, 1, 2, 3, 4, 5] [] rfl rfl (by decide) (by decide) (fun r_28 w_29 H locs h_30 hP hD hS => ?_)
    obtain ⟨gf2_31, tc2_32, rfl, x_33⟩ := h_30
    have hP : va_P D vwCl [(ho, .inr (0, [vz_0, vz_1, vz_2, .int (nI T), vz_4, vz_5, vz_6, .ref aK, vz_8, vz_9, .ref aH, .ref aU])), (aK, .inl (cI, 6, .inl fK)), (aH, .inl (cI, 6, .inl fH)), (aU, .inl (cI, 6, .inl fU)), (tr, .inr (4, [.ref bg, .int (nI tc2_32)])), (bg, .inl (cI, 16, .inl gf2_31))] H := hP
    have hD : va_D A [(ho, .inr (0, [vz_0, vz_1, vz_2, .int (nI T), vz_4, vz_5, vz_6, .ref aK, vz_8, vz_9, .ref aH, .ref aU])), (aK, .inl (cI, 6, .inl fK)), (aH, .inl (cI, 6, .inl fH)), (aU, .inl (cI, 6, .inl fU)), (tr, .inr (4, [.ref bg, .int (nI tc2_32)])), (bg, .inl (cI, 16, .inl gf2_31))] := hD
    refine lv_ineg hx hb dX5_begin_138 ?_
    refine lv_topi (fun ov_34 _ => ?_)
    have hP9 := hP.sub (ws' := [(ho, .inr (0, [vz_0, vz_1, vz_2, .int (nI T), vz_4, vz_5, vz_6, .ref aK, vz_8, vz_9, .ref aH, .ref aU])), (aK, .inl (cI, 6, .inl fK)), (aH, .inl (cI, 6, .inl fH)), (aU, .inl (cI, 6, .inl fU)), (tr, .inr (4, [.ref bg, .int (nI tc2_32)])), (bg, .inl (cI, 16, .inl gf2_31))]) [0, 1, 2, 3, 4, 5] rfl
    have hD9 := hD.sub (ws' := [(ho, .inr (0, [vz_0, vz_1, vz_2, .int (nI T), vz_4, vz_5, vz_6, .ref aK, vz_8, vz_9, .ref aH, .ref aU])), (aK, .inl (cI, 6, .inl fK)), (aH, .inl (cI, 6, .inl fH)), (aU, .inl (cI, 6, .inl fU)), (tr, .inr (4, [.ref bg, .int (nI tc2_32)])), (bg, .inl (cI, 16, .inl gf2_31))]) [0, 1, 2, 3, 4, 5] (by decide) rfl
    exact wt_iret hx hb hr hlocks hP9 hD9 hS ⟨gf2_31, tc2_32, rfl, (by omega)⟩ dX5_begin_139
  rcases wt_dec (bo) 13 with c_35 | c_35
  · subst c_35
    refine lv_tableIn (off := 119) (tgt := 140) hx hb dX5_begin_21 (by decide) (by decide) rfl (by decide) ?_
    refine lv_aload_n hx hb dX5_begin_140 rfl (lv_at hl 1 rfl) ?_
    refine lv_aload_n hx hb dX5_begin_141 rfl (lv_at hl 2 rfl) ?_
    refine lv_bipush (v := 10) hx hb dX5_begin_142 (by decide) ?_
    refine lv_iload_n hx hb dX5_begin_144 rfl (lv_at hl 4 rfl) ?_
    refine lv_iload hx hb dX5_begin_145 (lv_at hl 0 rfl) ?_
    refine wt_goI (wr := []) (wt_runSZ (As := [.ref ho, .ref tr, .int 10, .int (nI j), .int (nI (d + 1))]) (rest := []) ⟨hx, hb, hml, hown, hts⟩ (c_X5_begin_4 l D cI cZ cH _ _ _ ho aK aH aU T j (d + 1) fK fH fU tr bg tc2_5 gf2_4 10 vz_0 vz_1 vz_2 vz_4 vz_5 vz_6 vz_8 vz_9 (by first | assumption | omega) (by first | assumption | omega) (by first | assumption | omega) (by first | assumption | omega)) (va_cwS 5 hts gX5_begin_X5_begin rfl rfl rfl (by decide +kernel) ⟨Nat.le_of_ble_eq_true rfl, Nat.le_of_ble_eq_true rfl⟩) hK hP hD [0, 1, 2, 3, 4, 5] rfl (by decide) hZ hS hA rfl hl.1 rfl (Nat.le_of_ble_eq_true rfl) dX5_begin_147 ⟨Nat.le_of_ble_eq_true rfl, Nat.le_of_ble_eq_true rfl⟩) hP hD hS hA [0, 1, 2, 3, 4, 5] [] rfl rfl (by decide) (by decide) (fun r_36 w_37 H locs h_38 hP hD hS => ?_)
    obtain ⟨gf2_39, tc2_40, rfl, x_41⟩ := h_38
    have hP : va_P D vwCl [(ho, .inr (0, [vz_0, vz_1, vz_2, .int (nI T), vz_4, vz_5, vz_6, .ref aK, vz_8, vz_9, .ref aH, .ref aU])), (aK, .inl (cI, 6, .inl fK)), (aH, .inl (cI, 6, .inl fH)), (aU, .inl (cI, 6, .inl fU)), (tr, .inr (4, [.ref bg, .int (nI tc2_40)])), (bg, .inl (cI, 16, .inl gf2_39))] H := hP
    have hD : va_D A [(ho, .inr (0, [vz_0, vz_1, vz_2, .int (nI T), vz_4, vz_5, vz_6, .ref aK, vz_8, vz_9, .ref aH, .ref aU])), (aK, .inl (cI, 6, .inl fK)), (aH, .inl (cI, 6, .inl fH)), (aU, .inl (cI, 6, .inl fU)), (tr, .inr (4, [.ref bg, .int (nI tc2_40)])), (bg, .inl (cI, 16, .inl gf2_39))] := hD
    refine lv_bipush (v := 100) hx hb dX5_begin_150 (by decide) ?_
    refine lv_isub hx hb dX5_begin_152 ?_
    refine lv_topi (fun ov_42 _ => ?_)
    have hP9 := hP.sub (ws' := [(ho, .inr (0, [vz_0, vz_1, vz_2, .int (nI T), vz_4, vz_5, vz_6, .ref aK, vz_8, vz_9, .ref aH, .ref aU])), (aK, .inl (cI, 6, .inl fK)), (aH, .inl (cI, 6, .inl fH)), (aU, .inl (cI, 6, .inl fU)), (tr, .inr (4, [.ref bg, .int (nI tc2_40)])), (bg, .inl (cI, 16, .inl gf2_39))]) [0, 1, 2, 3, 4, 5] rfl
    have hD9 := hD.sub (ws' := [(ho, .inr (0, [vz_0, vz_1, vz_2, .int (nI T), vz_4, vz_5, vz_6, .ref aK, vz_8, vz_9, .ref aH, .ref aU])), (aK, .inl (cI, 6, .inl fK)), (aH, .inl (cI, 6, .inl fH)), (aU, .inl (cI, 6, .inl fU)), (tr, .inr (4, [.ref bg, .int (nI tc2_40)])), (bg, .inl (cI, 16, .inl gf2_39))]) [0, 1, 2, 3, 4, 5] (by decide) rfl
    exact wt_iret hx hb hr hlocks hP9 hD9 hS ⟨gf2_39, tc2_40, rfl, (by omega)⟩ dX5_begin_153
  rcases wt_dec (bo) 14 with c_43 | c_43
  · subst c_43
    refine lv_tableIn (off := 133) (tgt := 154) hx hb dX5_begin_21 (by decide) (by decide) rfl (by decide) ?_
    refine lv_aload_n hx hb dX5_begin_154 rfl (lv_at hl 1 rfl) ?_
    refine lv_aload_n hx hb dX5_begin_155 rfl (lv_at hl 2 rfl) ?_
    refine lv_bipush (v := 13) hx hb dX5_begin_156 (by decide) ?_
    refine lv_iload_n hx hb dX5_begin_158 rfl (lv_at hl 4 rfl) ?_
    refine lv_iload hx hb dX5_begin_159 (lv_at hl 0 rfl) ?_
    refine wt_goI (wr := []) (wt_runSZ (As := [.ref ho, .ref tr, .int 13, .int (nI j), .int (nI (d + 1))]) (rest := []) ⟨hx, hb, hml, hown, hts⟩ (c_X5_begin_4 l D cI cZ cH _ _ _ ho aK aH aU T j (d + 1) fK fH fU tr bg tc2_5 gf2_4 13 vz_0 vz_1 vz_2 vz_4 vz_5 vz_6 vz_8 vz_9 (by first | assumption | omega) (by first | assumption | omega) (by first | assumption | omega) (by first | assumption | omega)) (va_cwS 5 hts gX5_begin_X5_begin rfl rfl rfl (by decide +kernel) ⟨Nat.le_of_ble_eq_true rfl, Nat.le_of_ble_eq_true rfl⟩) hK hP hD [0, 1, 2, 3, 4, 5] rfl (by decide) hZ hS hA rfl hl.1 rfl (Nat.le_of_ble_eq_true rfl) dX5_begin_161 ⟨Nat.le_of_ble_eq_true rfl, Nat.le_of_ble_eq_true rfl⟩) hP hD hS hA [0, 1, 2, 3, 4, 5] [] rfl rfl (by decide) (by decide) (fun r_44 w_45 H locs h_46 hP hD hS => ?_)
    obtain ⟨gf2_47, tc2_48, rfl, x_49⟩ := h_46
    have hP : va_P D vwCl [(ho, .inr (0, [vz_0, vz_1, vz_2, .int (nI T), vz_4, vz_5, vz_6, .ref aK, vz_8, vz_9, .ref aH, .ref aU])), (aK, .inl (cI, 6, .inl fK)), (aH, .inl (cI, 6, .inl fH)), (aU, .inl (cI, 6, .inl fU)), (tr, .inr (4, [.ref bg, .int (nI tc2_48)])), (bg, .inl (cI, 16, .inl gf2_47))] H := hP
    have hD : va_D A [(ho, .inr (0, [vz_0, vz_1, vz_2, .int (nI T), vz_4, vz_5, vz_6, .ref aK, vz_8, vz_9, .ref aH, .ref aU])), (aK, .inl (cI, 6, .inl fK)), (aH, .inl (cI, 6, .inl fH)), (aU, .inl (cI, 6, .inl fU)), (tr, .inr (4, [.ref bg, .int (nI tc2_48)])), (bg, .inl (cI, 16, .inl gf2_47))] := hD
    refine lv_iconst (v := 2) hx hb dX5_begin_164 (by decide) ?_
    refine lv_imul hx hb dX5_begin_165 ?_
    refine lv_topi (fun ov_50 _ => ?_)
    have hP9 := hP.sub (ws' := [(ho, .inr (0, [vz_0, vz_1, vz_2, .int (nI T), vz_4, vz_5, vz_6, .ref aK, vz_8, vz_9, .ref aH, .ref aU])), (aK, .inl (cI, 6, .inl fK)), (aH, .inl (cI, 6, .inl fH)), (aU, .inl (cI, 6, .inl fU)), (tr, .inr (4, [.ref bg, .int (nI tc2_48)])), (bg, .inl (cI, 16, .inl gf2_47))]) [0, 1, 2, 3, 4, 5] rfl
    have hD9 := hD.sub (ws' := [(ho, .inr (0, [vz_0, vz_1, vz_2, .int (nI T), vz_4, vz_5, vz_6, .ref aK, vz_8, vz_9, .ref aH, .ref aU])), (aK, .inl (cI, 6, .inl fK)), (aH, .inl (cI, 6, .inl fH)), (aU, .inl (cI, 6, .inl fU)), (tr, .inr (4, [.ref bg, .int (nI tc2_48)])), (bg, .inl (cI, 16, .inl gf2_47))]) [0, 1, 2, 3, 4, 5] (by decide) rfl
    exact wt_iret hx hb hr hlocks hP9 hD9 hS ⟨gf2_47, tc2_48, rfl, (by omega)⟩ dX5_begin_166
  rcases wt_dec (bo) 15 with c_51 | c_51
  · subst c_51
    refine lv_tableIn (off := 219) (tgt := 240) hx hb dX5_begin_21 (by decide) (by decide) rfl (by decide) ?_
    refine lv_iconst (v := 0) hx hb dX5_begin_240 (by decide) ?_
    have hP9 := hP.sub (ws' := [(ho, .inr (0, [vz_0, vz_1, vz_2, .int (nI T), vz_4, vz_5, vz_6, .ref aK, vz_8, vz_9, .ref aH, .ref aU])), (aK, .inl (cI, 6, .inl fK)), (aH, .inl (cI, 6, .inl fH)), (aU, .inl (cI, 6, .inl fU)), (tr, .inr (4, [.ref bg, .int (nI tc2_5)])), (bg, .inl (cI, 16, .inl gf2_4))]) [0, 1, 2, 3, 4, 5] rfl
    have hD9 := hD.sub (ws' := [(ho, .inr (0, [vz_0, vz_1, vz_2, .int (nI T), vz_4, vz_5, vz_6, .ref aK, vz_8, vz_9, .ref aH, .ref aU])), (aK, .inl (cI, 6, .inl fK)), (aH, .inl (cI, 6, .inl fH)), (aU, .inl (cI, 6, .inl fU)), (tr, .inr (4, [.ref bg, .int (nI tc2_5)])), (bg, .inl (cI, 16, .inl gf2_4))]) [0, 1, 2, 3, 4, 5] (by decide) rfl
    exact wt_iret hx hb hr hlocks hP9 hD9 hS ⟨gf2_4, tc2_5, rfl, (by omega)⟩ dX5_begin_241
  rcases wt_dec (bo) 16 with c_52 | c_52
  · subst c_52
    refine lv_tableIn (off := 219) (tgt := 240) hx hb dX5_begin_21 (by decide) (by decide) rfl (by decide) ?_
    refine lv_iconst (v := 0) hx hb dX5_begin_240 (by decide) ?_
    have hP9 := hP.sub (ws' := [(ho, .inr (0, [vz_0, vz_1, vz_2, .int (nI T), vz_4, vz_5, vz_6, .ref aK, vz_8, vz_9, .ref aH, .ref aU])), (aK, .inl (cI, 6, .inl fK)), (aH, .inl (cI, 6, .inl fH)), (aU, .inl (cI, 6, .inl fU)), (tr, .inr (4, [.ref bg, .int (nI tc2_5)])), (bg, .inl (cI, 16, .inl gf2_4))]) [0, 1, 2, 3, 4, 5] rfl
    have hD9 := hD.sub (ws' := [(ho, .inr (0, [vz_0, vz_1, vz_2, .int (nI T), vz_4, vz_5, vz_6, .ref aK, vz_8, vz_9, .ref aH, .ref aU])), (aK, .inl (cI, 6, .inl fK)), (aH, .inl (cI, 6, .inl fH)), (aU, .inl (cI, 6, .inl fU)), (tr, .inr (4, [.ref bg, .int (nI tc2_5)])), (bg, .inl (cI, 16, .inl gf2_4))]) [0, 1, 2, 3, 4, 5] (by decide) rfl
    exact wt_iret hx hb hr hlocks hP9 hD9 hS ⟨gf2_4, tc2_5, rfl, (by omega)⟩ dX5_begin_241
  rcases wt_dec (bo) 17 with c_53 | c_53
  · subst c_53
    refine lv_tableIn (off := 219) (tgt := 240) hx hb dX5_begin_21 (by decide) (by decide) rfl (by decide) ?_
    refine lv_iconst (v := 0) hx hb dX5_begin_240 (by decide) ?_
    have hP9 := hP.sub (ws' := [(ho, .inr (0, [vz_0, vz_1, vz_2, .int (nI T), vz_4, vz_5, vz_6, .ref aK, vz_8, vz_9, .ref aH, .ref aU])), (aK, .inl (cI, 6, .inl fK)), (aH, .inl (cI, 6, .inl fH)), (aU, .inl (cI, 6, .inl fU)), (tr, .inr (4, [.ref bg, .int (nI tc2_5)])), (bg, .inl (cI, 16, .inl gf2_4))]) [0, 1, 2, 3, 4, 5] rfl
    have hD9 := hD.sub (ws' := [(ho, .inr (0, [vz_0, vz_1, vz_2, .int (nI T), vz_4, vz_5, vz_6, .ref aK, vz_8, vz_9, .ref aH, .ref aU])), (aK, .inl (cI, 6, .inl fK)), (aH, .inl (cI, 6, .inl fH)), (aU, .inl (cI, 6, .inl fU)), (tr, .inr (4, [.ref bg, .int (nI tc2_5)])), (bg, .inl (cI, 16, .inl gf2_4))]) [0, 1, 2, 3, 4, 5] (by decide) rfl
    exact wt_iret hx hb hr hlocks hP9 hD9 hS ⟨gf2_4, tc2_5, rfl, (by omega)⟩ dX5_begin_241
  rcases wt_dec (bo) 18 with c_54 | c_54
  · subst c_54
    refine lv_tableIn (off := 219) (tgt := 240) hx hb dX5_begin_21 (by decide) (by decide) rfl (by decide) ?_
    refine lv_iconst (v := 0) hx hb dX5_begin_240 (by decide) ?_
    have hP9 := hP.sub (ws' := [(ho, .inr (0, [vz_0, vz_1, vz_2, .int (nI T), vz_4, vz_5, vz_6, .ref aK, vz_8, vz_9, .ref aH, .ref aU])), (aK, .inl (cI, 6, .inl fK)), (aH, .inl (cI, 6, .inl fH)), (aU, .inl (cI, 6, .inl fU)), (tr, .inr (4, [.ref bg, .int (nI tc2_5)])), (bg, .inl (cI, 16, .inl gf2_4))]) [0, 1, 2, 3, 4, 5] rfl
    have hD9 := hD.sub (ws' := [(ho, .inr (0, [vz_0, vz_1, vz_2, .int (nI T), vz_4, vz_5, vz_6, .ref aK, vz_8, vz_9, .ref aH, .ref aU])), (aK, .inl (cI, 6, .inl fK)), (aH, .inl (cI, 6, .inl fH)), (aU, .inl (cI, 6, .inl fU)), (tr, .inr (4, [.ref bg, .int (nI tc2_5)])), (bg, .inl (cI, 16, .inl gf2_4))]) [0, 1, 2, 3, 4, 5] (by decide) rfl
    exact wt_iret hx hb hr hlocks hP9 hD9 hS ⟨gf2_4, tc2_5, rfl, (by omega)⟩ dX5_begin_241
  rcases wt_dec (bo) 19 with c_55 | c_55
  · subst c_55
    refine lv_tableIn (off := 219) (tgt := 240) hx hb dX5_begin_21 (by decide) (by decide) rfl (by decide) ?_
    refine lv_iconst (v := 0) hx hb dX5_begin_240 (by decide) ?_
    have hP9 := hP.sub (ws' := [(ho, .inr (0, [vz_0, vz_1, vz_2, .int (nI T), vz_4, vz_5, vz_6, .ref aK, vz_8, vz_9, .ref aH, .ref aU])), (aK, .inl (cI, 6, .inl fK)), (aH, .inl (cI, 6, .inl fH)), (aU, .inl (cI, 6, .inl fU)), (tr, .inr (4, [.ref bg, .int (nI tc2_5)])), (bg, .inl (cI, 16, .inl gf2_4))]) [0, 1, 2, 3, 4, 5] rfl
    have hD9 := hD.sub (ws' := [(ho, .inr (0, [vz_0, vz_1, vz_2, .int (nI T), vz_4, vz_5, vz_6, .ref aK, vz_8, vz_9, .ref aH, .ref aU])), (aK, .inl (cI, 6, .inl fK)), (aH, .inl (cI, 6, .inl fH)), (aU, .inl (cI, 6, .inl fU)), (tr, .inr (4, [.ref bg, .int (nI tc2_5)])), (bg, .inl (cI, 16, .inl gf2_4))]) [0, 1, 2, 3, 4, 5] (by decide) rfl
    exact wt_iret hx hb hr hlocks hP9 hD9 hS ⟨gf2_4, tc2_5, rfl, (by omega)⟩ dX5_begin_241
  rcases wt_dec (bo) 20 with c_56 | c_56
  · subst c_56
    refine lv_tableIn (off := 146) (tgt := 167) hx hb dX5_begin_21 (by decide) (by decide) rfl (by decide) ?_
    refine lv_iload_n hx hb dX5_begin_167 rfl (lv_at hl 4 rfl) ?_
    have hP9 := hP.sub (ws' := [(ho, .inr (0, [vz_0, vz_1, vz_2, .int (nI T), vz_4, vz_5, vz_6, .ref aK, vz_8, vz_9, .ref aH, .ref aU])), (aK, .inl (cI, 6, .inl fK)), (aH, .inl (cI, 6, .inl fH)), (aU, .inl (cI, 6, .inl fU)), (tr, .inr (4, [.ref bg, .int (nI tc2_5)])), (bg, .inl (cI, 16, .inl gf2_4))]) [0, 1, 2, 3, 4, 5] rfl
    have hD9 := hD.sub (ws' := [(ho, .inr (0, [vz_0, vz_1, vz_2, .int (nI T), vz_4, vz_5, vz_6, .ref aK, vz_8, vz_9, .ref aH, .ref aU])), (aK, .inl (cI, 6, .inl fK)), (aH, .inl (cI, 6, .inl fH)), (aU, .inl (cI, 6, .inl fU)), (tr, .inr (4, [.ref bg, .int (nI tc2_5)])), (bg, .inl (cI, 16, .inl gf2_4))]) [0, 1, 2, 3, 4, 5] (by decide) rfl
    exact wt_iret hx hb hr hlocks hP9 hD9 hS ⟨gf2_4, tc2_5, rfl, (by omega)⟩ dX5_begin_168
  rcases wt_dec (bo) 21 with c_57 | c_57
  · subst c_57
    refine lv_tableIn (off := 148) (tgt := 169) hx hb dX5_begin_21 (by decide) (by decide) rfl (by decide) ?_
    refine lv_aload_n hx hb dX5_begin_169 rfl (lv_at hl 1 rfl) ?_
    refine lv_aload_n hx hb dX5_begin_170 rfl (lv_at hl 2 rfl) ?_
    refine lv_bipush (v := 20) hx hb dX5_begin_171 (by decide) ?_
    refine lv_iload_n hx hb dX5_begin_173 rfl (lv_at hl 4 rfl) ?_
    refine lv_iload hx hb dX5_begin_174 (lv_at hl 0 rfl) ?_
    refine wt_goI (wr := []) (wt_runSZ (As := [.ref ho, .ref tr, .int 20, .int (nI j), .int (nI (d + 1))]) (rest := []) ⟨hx, hb, hml, hown, hts⟩ (c_X5_begin_4 l D cI cZ cH _ _ _ ho aK aH aU T j (d + 1) fK fH fU tr bg tc2_5 gf2_4 20 vz_0 vz_1 vz_2 vz_4 vz_5 vz_6 vz_8 vz_9 (by first | assumption | omega) (by first | assumption | omega) (by first | assumption | omega) (by first | assumption | omega)) (va_cwS 5 hts gX5_begin_X5_begin rfl rfl rfl (by decide +kernel) ⟨Nat.le_of_ble_eq_true rfl, Nat.le_of_ble_eq_true rfl⟩) hK hP hD [0, 1, 2, 3, 4, 5] rfl (by decide) hZ hS hA rfl hl.1 rfl (Nat.le_of_ble_eq_true rfl) dX5_begin_176 ⟨Nat.le_of_ble_eq_true rfl, Nat.le_of_ble_eq_true rfl⟩) hP hD hS hA [0, 1, 2, 3, 4, 5] [] rfl rfl (by decide) (by decide) (fun r_58 w_59 H locs h_60 hP hD hS => ?_)
    obtain ⟨gf2_61, tc2_62, rfl, x_63⟩ := h_60
    have hP : va_P D vwCl [(ho, .inr (0, [vz_0, vz_1, vz_2, .int (nI T), vz_4, vz_5, vz_6, .ref aK, vz_8, vz_9, .ref aH, .ref aU])), (aK, .inl (cI, 6, .inl fK)), (aH, .inl (cI, 6, .inl fH)), (aU, .inl (cI, 6, .inl fU)), (tr, .inr (4, [.ref bg, .int (nI tc2_62)])), (bg, .inl (cI, 16, .inl gf2_61))] H := hP
    have hD : va_D A [(ho, .inr (0, [vz_0, vz_1, vz_2, .int (nI T), vz_4, vz_5, vz_6, .ref aK, vz_8, vz_9, .ref aH, .ref aU])), (aK, .inl (cI, 6, .inl fK)), (aH, .inl (cI, 6, .inl fH)), (aU, .inl (cI, 6, .inl fU)), (tr, .inr (4, [.ref bg, .int (nI tc2_62)])), (bg, .inl (cI, 16, .inl gf2_61))] := hD
    refine lv_aload_n hx hb dX5_begin_179 rfl (lv_at hl 1 rfl) ?_
    refine va_get (D := D) (ci := 0) (v := .ref aU) (C := RX0) (T := TX0) (N := 12) hx hb hts hi0 hown hK.1 hP 0 rfl rfl 11 (by decide) wf175 (fun _ h9 => h9) rfl dX5_begin_180 ?_
    refine lv_iload_n hx hb dX5_begin_183 rfl (lv_at hl 4 rfl) ?_
    refine va_iald hx hb hK.1 hP 3 0 rfl rfl (vp_in_nI (by omega) (by omega)) dX5_begin_184 ?_
    refine lv_topi (fun ov_64 _ => ?_)
    refine lv_iadd hx hb dX5_begin_185 ?_
    refine lv_topi (fun ov_65 _ => ?_)
    have hP9 := hP.sub (ws' := [(ho, .inr (0, [vz_0, vz_1, vz_2, .int (nI T), vz_4, vz_5, vz_6, .ref aK, vz_8, vz_9, .ref aH, .ref aU])), (aK, .inl (cI, 6, .inl fK)), (aH, .inl (cI, 6, .inl fH)), (aU, .inl (cI, 6, .inl fU)), (tr, .inr (4, [.ref bg, .int (nI tc2_62)])), (bg, .inl (cI, 16, .inl gf2_61))]) [0, 1, 2, 3, 4, 5] rfl
    have hD9 := hD.sub (ws' := [(ho, .inr (0, [vz_0, vz_1, vz_2, .int (nI T), vz_4, vz_5, vz_6, .ref aK, vz_8, vz_9, .ref aH, .ref aU])), (aK, .inl (cI, 6, .inl fK)), (aH, .inl (cI, 6, .inl fH)), (aU, .inl (cI, 6, .inl fU)), (tr, .inr (4, [.ref bg, .int (nI tc2_62)])), (bg, .inl (cI, 16, .inl gf2_61))]) [0, 1, 2, 3, 4, 5] (by decide) rfl
    exact wt_iret hx hb hr hlocks hP9 hD9 hS ⟨gf2_61, tc2_62, rfl, (by omega)⟩ dX5_begin_186
  rcases wt_dec (bo) 22 with c_66 | c_66
  · subst c_66
    refine lv_tableIn (off := 166) (tgt := 187) hx hb dX5_begin_21 (by decide) (by decide) rfl (by decide) ?_
    refine lv_aload_n hx hb dX5_begin_187 rfl (lv_at hl 1 rfl) ?_
    refine lv_aload_n hx hb dX5_begin_188 rfl (lv_at hl 2 rfl) ?_
    refine lv_bipush (v := 21) hx hb dX5_begin_189 (by decide) ?_
    refine lv_iload_n hx hb dX5_begin_191 rfl (lv_at hl 4 rfl) ?_
    refine lv_iload hx hb dX5_begin_192 (lv_at hl 0 rfl) ?_
    refine wt_goI (wr := []) (wt_runSZ (As := [.ref ho, .ref tr, .int 21, .int (nI j), .int (nI (d + 1))]) (rest := []) ⟨hx, hb, hml, hown, hts⟩ (c_X5_begin_4 l D cI cZ cH _ _ _ ho aK aH aU T j (d + 1) fK fH fU tr bg tc2_5 gf2_4 21 vz_0 vz_1 vz_2 vz_4 vz_5 vz_6 vz_8 vz_9 (by first | assumption | omega) (by first | assumption | omega) (by first | assumption | omega) (by first | assumption | omega)) (va_cwS 5 hts gX5_begin_X5_begin rfl rfl rfl (by decide +kernel) ⟨Nat.le_of_ble_eq_true rfl, Nat.le_of_ble_eq_true rfl⟩) hK hP hD [0, 1, 2, 3, 4, 5] rfl (by decide) hZ hS hA rfl hl.1 rfl (Nat.le_of_ble_eq_true rfl) dX5_begin_194 ⟨Nat.le_of_ble_eq_true rfl, Nat.le_of_ble_eq_true rfl⟩) hP hD hS hA [0, 1, 2, 3, 4, 5] [] rfl rfl (by decide) (by decide) (fun r_67 w_68 H locs h_69 hP hD hS => ?_)
    obtain ⟨gf2_70, tc2_71, rfl, x_72⟩ := h_69
    have hP : va_P D vwCl [(ho, .inr (0, [vz_0, vz_1, vz_2, .int (nI T), vz_4, vz_5, vz_6, .ref aK, vz_8, vz_9, .ref aH, .ref aU])), (aK, .inl (cI, 6, .inl fK)), (aH, .inl (cI, 6, .inl fH)), (aU, .inl (cI, 6, .inl fU)), (tr, .inr (4, [.ref bg, .int (nI tc2_71)])), (bg, .inl (cI, 16, .inl gf2_70))] H := hP
    have hD : va_D A [(ho, .inr (0, [vz_0, vz_1, vz_2, .int (nI T), vz_4, vz_5, vz_6, .ref aK, vz_8, vz_9, .ref aH, .ref aU])), (aK, .inl (cI, 6, .inl fK)), (aH, .inl (cI, 6, .inl fH)), (aU, .inl (cI, 6, .inl fU)), (tr, .inr (4, [.ref bg, .int (nI tc2_71)])), (bg, .inl (cI, 16, .inl gf2_70))] := hD
    refine lv_sipush (v := 1000) hx hb dX5_begin_197 (by decide) ?_
    refine lv_isub hx hb dX5_begin_200 ?_
    refine lv_topi (fun ov_73 _ => ?_)
    have hP9 := hP.sub (ws' := [(ho, .inr (0, [vz_0, vz_1, vz_2, .int (nI T), vz_4, vz_5, vz_6, .ref aK, vz_8, vz_9, .ref aH, .ref aU])), (aK, .inl (cI, 6, .inl fK)), (aH, .inl (cI, 6, .inl fH)), (aU, .inl (cI, 6, .inl fU)), (tr, .inr (4, [.ref bg, .int (nI tc2_71)])), (bg, .inl (cI, 16, .inl gf2_70))]) [0, 1, 2, 3, 4, 5] rfl
    have hD9 := hD.sub (ws' := [(ho, .inr (0, [vz_0, vz_1, vz_2, .int (nI T), vz_4, vz_5, vz_6, .ref aK, vz_8, vz_9, .ref aH, .ref aU])), (aK, .inl (cI, 6, .inl fK)), (aH, .inl (cI, 6, .inl fH)), (aU, .inl (cI, 6, .inl fU)), (tr, .inr (4, [.ref bg, .int (nI tc2_71)])), (bg, .inl (cI, 16, .inl gf2_70))]) [0, 1, 2, 3, 4, 5] (by decide) rfl
    exact wt_iret hx hb hr hlocks hP9 hD9 hS ⟨gf2_70, tc2_71, rfl, (by omega)⟩ dX5_begin_201
  rcases wt_dec (bo) 23 with c_74 | c_74
  · subst c_74
    refine lv_tableIn (off := 181) (tgt := 202) hx hb dX5_begin_21 (by decide) (by decide) rfl (by decide) ?_
    refine lv_aload_n hx hb dX5_begin_202 rfl (lv_at hl 1 rfl) ?_
    refine lv_aload_n hx hb dX5_begin_203 rfl (lv_at hl 2 rfl) ?_
    refine lv_bipush (v := 20) hx hb dX5_begin_204 (by decide) ?_
    refine lv_iload_n hx hb dX5_begin_206 rfl (lv_at hl 4 rfl) ?_
    refine lv_iload hx hb dX5_begin_207 (lv_at hl 0 rfl) ?_
    refine wt_goI (wr := []) (wt_runSZ (As := [.ref ho, .ref tr, .int 20, .int (nI j), .int (nI (d + 1))]) (rest := []) ⟨hx, hb, hml, hown, hts⟩ (c_X5_begin_4 l D cI cZ cH _ _ _ ho aK aH aU T j (d + 1) fK fH fU tr bg tc2_5 gf2_4 20 vz_0 vz_1 vz_2 vz_4 vz_5 vz_6 vz_8 vz_9 (by first | assumption | omega) (by first | assumption | omega) (by first | assumption | omega) (by first | assumption | omega)) (va_cwS 5 hts gX5_begin_X5_begin rfl rfl rfl (by decide +kernel) ⟨Nat.le_of_ble_eq_true rfl, Nat.le_of_ble_eq_true rfl⟩) hK hP hD [0, 1, 2, 3, 4, 5] rfl (by decide) hZ hS hA rfl hl.1 rfl (Nat.le_of_ble_eq_true rfl) dX5_begin_209 ⟨Nat.le_of_ble_eq_true rfl, Nat.le_of_ble_eq_true rfl⟩) hP hD hS hA [0, 1, 2, 3, 4, 5] [] rfl rfl (by decide) (by decide) (fun r_75 w_76 H locs h_77 hP hD hS => ?_)
    obtain ⟨gf2_78, tc2_79, rfl, x_80⟩ := h_77
    have hP : va_P D vwCl [(ho, .inr (0, [vz_0, vz_1, vz_2, .int (nI T), vz_4, vz_5, vz_6, .ref aK, vz_8, vz_9, .ref aH, .ref aU])), (aK, .inl (cI, 6, .inl fK)), (aH, .inl (cI, 6, .inl fH)), (aU, .inl (cI, 6, .inl fU)), (tr, .inr (4, [.ref bg, .int (nI tc2_79)])), (bg, .inl (cI, 16, .inl gf2_78))] H := hP
    have hD : va_D A [(ho, .inr (0, [vz_0, vz_1, vz_2, .int (nI T), vz_4, vz_5, vz_6, .ref aK, vz_8, vz_9, .ref aH, .ref aU])), (aK, .inl (cI, 6, .inl fK)), (aH, .inl (cI, 6, .inl fH)), (aU, .inl (cI, 6, .inl fU)), (tr, .inr (4, [.ref bg, .int (nI tc2_79)])), (bg, .inl (cI, 16, .inl gf2_78))] := hD
    refine lv_aload_n hx hb dX5_begin_212 rfl (lv_at hl 1 rfl) ?_
    refine lv_aload_n hx hb dX5_begin_213 rfl (lv_at hl 2 rfl) ?_
    refine lv_aload_n hx hb dX5_begin_214 rfl (lv_at hl 1 rfl) ?_
    refine lv_iload_n hx hb dX5_begin_215 rfl (lv_at hl 4 rfl) ?_
    refine wt_goI (wr := [(aH, .inl (cI, 6, .inl fH)), (aU, .inl (cI, 6, .inl fU)), (tr, .inr (4, [.ref bg, .int (nI tc2_79)])), (bg, .inl (cI, 16, .inl gf2_78))]) (wt_runSZ (As := [.ref ho, .int (nI j)]) (rest := [.ref tr, .ref ho, .int r_75]) ⟨hx, hb, hml, hown, hts⟩ (c_X5_sizeBody l D cI cZ cH _ _ _ ho aK T j fK vz_0 vz_1 vz_2 vz_4 vz_5 vz_6 vz_8 vz_9 (.ref aH) (.ref aU) (by first | assumption | omega) (by first | assumption | omega)) (va_cwS 2 hts gX5_begin_X5_sizeBody rfl rfl rfl (by decide +kernel) ⟨Nat.le_of_ble_eq_true rfl, Nat.le_of_ble_eq_true rfl⟩) hK hP hD [0, 1] rfl (by decide) hZ hS hA rfl hl.1 rfl (Nat.le_of_ble_eq_true rfl) dX5_begin_216 ⟨Nat.le_of_ble_eq_true rfl, Nat.le_of_ble_eq_true rfl⟩) hP hD hS hA [0, 1] [2, 3, 4, 5] rfl rfl (by decide) (by decide) (fun r_81 w_82 H locs h_83 hP hD hS => ?_)
    obtain rfl := h_83
    have hP : va_P D vwCl [(aH, .inl (cI, 6, .inl fH)), (aU, .inl (cI, 6, .inl fU)), (tr, .inr (4, [.ref bg, .int (nI tc2_79)])), (bg, .inl (cI, 16, .inl gf2_78)), (ho, .inr (0, [vz_0, vz_1, vz_2, .int (nI T), vz_4, vz_5, vz_6, .ref aK, vz_8, vz_9, .ref aH, .ref aU])), (aK, .inl (cI, 6, .inl fK))] H := hP
    have hD : va_D A [(aH, .inl (cI, 6, .inl fH)), (aU, .inl (cI, 6, .inl fU)), (tr, .inr (4, [.ref bg, .int (nI tc2_79)])), (bg, .inl (cI, 16, .inl gf2_78)), (ho, .inr (0, [vz_0, vz_1, vz_2, .int (nI T), vz_4, vz_5, vz_6, .ref aK, vz_8, vz_9, .ref aH, .ref aU])), (aK, .inl (cI, 6, .inl fK))] := hD
    refine lv_iload_n hx hb dX5_begin_219 rfl (lv_at hl 4 rfl) ?_
    refine lv_iload hx hb dX5_begin_220 (lv_at hl 0 rfl) ?_
    refine wt_goI (wr := []) (wt_runSZ (As := [.ref ho, .ref tr, .int r_81, .int (nI j), .int (nI (d + 1))]) (rest := [.int r_75]) ⟨hx, hb, hml, hown, hts⟩ (c_X5_begin_4 l D cI cZ cH _ _ _ ho aK aH aU T j (d + 1) fK fH fU tr bg tc2_79 gf2_78 r_81 vz_0 vz_1 vz_2 vz_4 vz_5 vz_6 vz_8 vz_9 (by first | assumption | omega) (by first | assumption | omega) (by first | assumption | omega) (by first | assumption | omega)) (va_cwS 5 hts gX5_begin_X5_begin rfl rfl rfl (by decide +kernel) ⟨Nat.le_of_ble_eq_true rfl, Nat.le_of_ble_eq_true rfl⟩) hK hP hD [4, 5, 0, 1, 2, 3] rfl (by decide) hZ hS hA rfl hl.1 rfl (Nat.le_of_ble_eq_true rfl) dX5_begin_222 ⟨Nat.le_of_ble_eq_true rfl, Nat.le_of_ble_eq_true rfl⟩) hP hD hS hA [4, 5, 0, 1, 2, 3] [] rfl rfl (by decide) (by decide) (fun r_84 w_85 H locs h_86 hP hD hS => ?_)
    obtain ⟨gf2_87, tc2_88, rfl, x_89⟩ := h_86
    have hP : va_P D vwCl [(ho, .inr (0, [vz_0, vz_1, vz_2, .int (nI T), vz_4, vz_5, vz_6, .ref aK, vz_8, vz_9, .ref aH, .ref aU])), (aK, .inl (cI, 6, .inl fK)), (aH, .inl (cI, 6, .inl fH)), (aU, .inl (cI, 6, .inl fU)), (tr, .inr (4, [.ref bg, .int (nI tc2_88)])), (bg, .inl (cI, 16, .inl gf2_87))] H := hP
    have hD : va_D A [(ho, .inr (0, [vz_0, vz_1, vz_2, .int (nI T), vz_4, vz_5, vz_6, .ref aK, vz_8, vz_9, .ref aH, .ref aU])), (aK, .inl (cI, 6, .inl fK)), (aH, .inl (cI, 6, .inl fH)), (aU, .inl (cI, 6, .inl fU)), (tr, .inr (4, [.ref bg, .int (nI tc2_88)])), (bg, .inl (cI, 16, .inl gf2_87))] := hD
    refine lv_isub hx hb dX5_begin_225 ?_
    refine lv_topi (fun ov_90 _ => ?_)
    have hP9 := hP.sub (ws' := [(ho, .inr (0, [vz_0, vz_1, vz_2, .int (nI T), vz_4, vz_5, vz_6, .ref aK, vz_8, vz_9, .ref aH, .ref aU])), (aK, .inl (cI, 6, .inl fK)), (aH, .inl (cI, 6, .inl fH)), (aU, .inl (cI, 6, .inl fU)), (tr, .inr (4, [.ref bg, .int (nI tc2_88)])), (bg, .inl (cI, 16, .inl gf2_87))]) [0, 1, 2, 3, 4, 5] rfl
    have hD9 := hD.sub (ws' := [(ho, .inr (0, [vz_0, vz_1, vz_2, .int (nI T), vz_4, vz_5, vz_6, .ref aK, vz_8, vz_9, .ref aH, .ref aU])), (aK, .inl (cI, 6, .inl fK)), (aH, .inl (cI, 6, .inl fH)), (aU, .inl (cI, 6, .inl fU)), (tr, .inr (4, [.ref bg, .int (nI tc2_88)])), (bg, .inl (cI, 16, .inl gf2_87))]) [0, 1, 2, 3, 4, 5] (by decide) rfl
    exact wt_iret hx hb hr hlocks hP9 hD9 hS ⟨gf2_87, tc2_88, rfl, (by omega)⟩ dX5_begin_226
  rcases wt_dec (bo) 24 with c_91 | c_91
  · subst c_91
    refine lv_tableIn (off := 206) (tgt := 227) hx hb dX5_begin_21 (by decide) (by decide) rfl (by decide) ?_
    refine lv_aload_n hx hb dX5_begin_227 rfl (lv_at hl 1 rfl) ?_
    refine lv_aload_n hx hb dX5_begin_228 rfl (lv_at hl 2 rfl) ?_
    refine lv_bipush (v := 21) hx hb dX5_begin_229 (by decide) ?_
    refine lv_iload_n hx hb dX5_begin_231 rfl (lv_at hl 4 rfl) ?_
    refine lv_iload hx hb dX5_begin_232 (lv_at hl 0 rfl) ?_
    refine wt_goI (wr := []) (wt_runSZ (As := [.ref ho, .ref tr, .int 21, .int (nI j), .int (nI (d + 1))]) (rest := []) ⟨hx, hb, hml, hown, hts⟩ (c_X5_begin_4 l D cI cZ cH _ _ _ ho aK aH aU T j (d + 1) fK fH fU tr bg tc2_5 gf2_4 21 vz_0 vz_1 vz_2 vz_4 vz_5 vz_6 vz_8 vz_9 (by first | assumption | omega) (by first | assumption | omega) (by first | assumption | omega) (by first | assumption | omega)) (va_cwS 5 hts gX5_begin_X5_begin rfl rfl rfl (by decide +kernel) ⟨Nat.le_of_ble_eq_true rfl, Nat.le_of_ble_eq_true rfl⟩) hK hP hD [0, 1, 2, 3, 4, 5] rfl (by decide) hZ hS hA rfl hl.1 rfl (Nat.le_of_ble_eq_true rfl) dX5_begin_234 ⟨Nat.le_of_ble_eq_true rfl, Nat.le_of_ble_eq_true rfl⟩) hP hD hS hA [0, 1, 2, 3, 4, 5] [] rfl rfl (by decide) (by decide) (fun r_92 w_93 H locs h_94 hP hD hS => ?_)
    obtain ⟨gf2_95, tc2_96, rfl, x_97⟩ := h_94
    have hP : va_P D vwCl [(ho, .inr (0, [vz_0, vz_1, vz_2, .int (nI T), vz_4, vz_5, vz_6, .ref aK, vz_8, vz_9, .ref aH, .ref aU])), (aK, .inl (cI, 6, .inl fK)), (aH, .inl (cI, 6, .inl fH)), (aU, .inl (cI, 6, .inl fU)), (tr, .inr (4, [.ref bg, .int (nI tc2_96)])), (bg, .inl (cI, 16, .inl gf2_95))] H := hP
    have hD : va_D A [(ho, .inr (0, [vz_0, vz_1, vz_2, .int (nI T), vz_4, vz_5, vz_6, .ref aK, vz_8, vz_9, .ref aH, .ref aU])), (aK, .inl (cI, 6, .inl fK)), (aH, .inl (cI, 6, .inl fH)), (aU, .inl (cI, 6, .inl fU)), (tr, .inr (4, [.ref bg, .int (nI tc2_96)])), (bg, .inl (cI, 16, .inl gf2_95))] := hD
    refine lv_iconst (v := 2) hx hb dX5_begin_237 (by decide) ?_
    refine lv_imul hx hb dX5_begin_238 ?_
    refine lv_topi (fun ov_98 _ => ?_)
    have hP9 := hP.sub (ws' := [(ho, .inr (0, [vz_0, vz_1, vz_2, .int (nI T), vz_4, vz_5, vz_6, .ref aK, vz_8, vz_9, .ref aH, .ref aU])), (aK, .inl (cI, 6, .inl fK)), (aH, .inl (cI, 6, .inl fH)), (aU, .inl (cI, 6, .inl fU)), (tr, .inr (4, [.ref bg, .int (nI tc2_96)])), (bg, .inl (cI, 16, .inl gf2_95))]) [0, 1, 2, 3, 4, 5] rfl
    have hD9 := hD.sub (ws' := [(ho, .inr (0, [vz_0, vz_1, vz_2, .int (nI T), vz_4, vz_5, vz_6, .ref aK, vz_8, vz_9, .ref aH, .ref aU])), (aK, .inl (cI, 6, .inl fK)), (aH, .inl (cI, 6, .inl fH)), (aU, .inl (cI, 6, .inl fU)), (tr, .inr (4, [.ref bg, .int (nI tc2_96)])), (bg, .inl (cI, 16, .inl gf2_95))]) [0, 1, 2, 3, 4, 5] (by decide) rfl
    exact wt_iret hx hb hr hlocks hP9 hD9 hS ⟨gf2_95, tc2_96, rfl, (by omega)⟩ dX5_begin_239
  refine lv_tableOut (tgt := 240) hx hb dX5_begin_21 (by have := lv_neT (a := 10) c_8 rfl; have := lv_neT (a := 11) c_10 rfl; have := lv_neT (a := 12) c_27 rfl; have := lv_neT (a := 13) c_35 rfl; have := lv_neT (a := 14) c_43 rfl; have := lv_neT (a := 15) c_51 rfl; have := lv_neT (a := 16) c_52 rfl; have := lv_neT (a := 17) c_53 rfl; have := lv_neT (a := 18) c_54 rfl; have := lv_neT (a := 19) c_55 rfl; have := lv_neT (a := 20) c_56 rfl; have := lv_neT (a := 21) c_57 rfl; have := lv_neT (a := 22) c_66 rfl; have := lv_neT (a := 23) c_74 rfl; have := lv_neT (a := 24) c_91 rfl; omega) (by decide) ?_
  refine lv_iconst (v := 0) hx hb dX5_begin_240 (by decide) ?_
  have hP9 := hP.sub (ws' := [(ho, .inr (0, [vz_0, vz_1, vz_2, .int (nI T), vz_4, vz_5, vz_6, .ref aK, vz_8, vz_9, .ref aH, .ref aU])), (aK, .inl (cI, 6, .inl fK)), (aH, .inl (cI, 6, .inl fH)), (aU, .inl (cI, 6, .inl fU)), (tr, .inr (4, [.ref bg, .int (nI tc2_5)])), (bg, .inl (cI, 16, .inl gf2_4))]) [0, 1, 2, 3, 4, 5] rfl
  have hD9 := hD.sub (ws' := [(ho, .inr (0, [vz_0, vz_1, vz_2, .int (nI T), vz_4, vz_5, vz_6, .ref aK, vz_8, vz_9, .ref aH, .ref aU])), (aK, .inl (cI, 6, .inl fK)), (aH, .inl (cI, 6, .inl fH)), (aU, .inl (cI, 6, .inl fU)), (tr, .inr (4, [.ref bg, .int (nI tc2_5)])), (bg, .inl (cI, 16, .inl gf2_4))]) [0, 1, 2, 3, 4, 5] (by decide) rfl
  exact wt_iret hx hb hr hlocks hP9 hD9 hS ⟨gf2_4, tc2_5, rfl, (by omega)⟩ dX5_begin_241
set_option maxHeartbeats 4000000 in
set_option maxRecDepth 100000 in
theorem c_X5_begin_6 (l : Launch) (D : va_G) (cI cZ cH : ClassId) (ab sb mb : Nat) (ho aK aH aU : Nat) (T j d : Nat) (fK fH fU : Nat → Int32) (tr bg : Nat) (tc : Nat) (gf : Nat → Int32) (bo : Int32) (vz_0 vz_1 vz_2 vz_4 vz_5 vz_6 vz_8 vz_9 : Value) (hT6 : T ≤ 6) (hjT : j < T) (hd : d + 6 = 16) (htc : tc ≤ 16) : wt_MZ (wt_ZS ab sb mb abF sbF mbF) l yX5_begin wsX5_begin ({ frames := 7, cells := 0, slots := 0, locals := 169 } : Room) D (wt_T cI cZ cH) [.ref ho, .ref tr, .int bo, .int (nI j), .int (nI d)] [(ho, .inr (0, [vz_0, vz_1, vz_2, .int (nI T), vz_4, vz_5, vz_6, .ref aK, vz_8, vz_9, .ref aH, .ref aU])), (aK, .inl (cI, 6, .inl fK)), (aH, .inl (cI, 6, .inl fH)), (aU, .inl (cI, 6, .inl fU)), (tr, .inr (4, [.ref bg, .int (nI tc)])), (bg, .inl (cI, 16, .inl gf))] (wt_QI D (fun r w => ∃ (gf2 : Nat → Int32) (tc2 : Nat), w = [(ho, .inr (0, [vz_0, vz_1, vz_2, .int (nI T), vz_4, vz_5, vz_6, .ref aK, vz_8, vz_9, .ref aH, .ref aU])), (aK, .inl (cI, 6, .inl fK)), (aH, .inl (cI, 6, .inl fH)), (aU, .inl (cI, 6, .inl fU)), (tr, .inr (4, [.ref bg, .int (nI tc2)])), (bg, .inl (cI, 16, .inl gf2))] ∧ tc2 ≤ 16)) := by
  refine wt_MZ.ofW (cc := cX5_begin) (maxL := 6) (ret := (some .int)) (by decide) rfl (Nat.le_of_ble_eq_true rfl) ?_
  intro p e s m below meth c A ls hx hb hr hts hown hlocks hml hnm hP hK hD hA hS hl hZ
  have hP : va_P D vwCl [(ho, .inr (0, [vz_0, vz_1, vz_2, .int (nI T), vz_4, vz_5, vz_6, .ref aK, vz_8, vz_9, .ref aH, .ref aU])), (aK, .inl (cI, 6, .inl fK)), (aH, .inl (cI, 6, .inl fH)), (aU, .inl (cI, 6, .inl fU)), (tr, .inr (4, [.ref bg, .int (nI tc)])), (bg, .inl (cI, 16, .inl gf))] s.heap := hP
  have hown : s.vm.findClass RX5 = some m.cls := hown
  have hl : lv_has ls 6 [(0, .ref ho), (1, .ref tr), (2, .int bo), (3, .int (nI j)), (4, .int (nI d))] := hl
  have hi0 : ∀ w ∈ u_ws RX0 TX0 12, w ∈ wsX5_begin := by decide +kernel
  have wf175 := hts (.fieldLink RX5 175 "WarmTubes$House" "up" "[I") (by decide +kernel)
  have wf196 := hts (.fieldLink RX5 196 "WarmTubes$House" "holds" "[I") (by decide +kernel)
  refine lv_iload hx hb dX5_begin_0 (lv_at hl 4 rfl) ?_
  refine lv_bipush (v := 16) hx hb dX5_begin_2 (by decide) ?_
  refine lv_icmp_lt (tgt := 9) hx hb dX5_begin_4 (by decide) (fun _ => ?_) (fun h => absurd (nI_lt (a := d) (b := 16) (by omega) (by omega)) h)
  refine lv_aload_n hx hb dX5_begin_9 rfl (lv_at hl 1 rfl) ?_
  refine lv_iload_n hx hb dX5_begin_10 rfl (lv_at hl 2 rfl) ?_
  refine wt_goV (wr := [(ho, .inr (0, [vz_0, vz_1, vz_2, .int (nI T), vz_4, vz_5, vz_6, .ref aK, vz_8, vz_9, .ref aH, .ref aU])), (aK, .inl (cI, 6, .inl fK)), (aH, .inl (cI, 6, .inl fH)), (aU, .inl (cI, 6, .inl fU))]) (wt_runV (As := [.int bo]) (rest := []) ⟨hx, hb, hml, hown, hts⟩ (c_X4_leave l D cI cZ cH tr bg tc gf bo (by first | assumption | omega)) (cwV 1 hts gX5_begin_X4_leave rfl rfl rfl (by decide +kernel) ⟨Nat.le_of_ble_eq_true rfl, Nat.le_of_ble_eq_true rfl⟩) hK hP hD [4, 5] rfl (by decide) (va_recv hK.1 hP (ci := 4) (q0 := 4) rfl rfl) rfl hl.1 rfl (Nat.le_of_ble_eq_true rfl) dX5_begin_11 ⟨Nat.le_of_ble_eq_true rfl, Nat.le_of_ble_eq_true rfl⟩) hP hD hS hA [4, 5] [0, 1, 2, 3] rfl rfl (by decide) (by decide) (fun w_2 H locs h_3 hP hD hS => ?_)
  obtain ⟨gf2_4, tc2_5, rfl, x_6⟩ := h_3
  have hP : va_P D vwCl [(ho, .inr (0, [vz_0, vz_1, vz_2, .int (nI T), vz_4, vz_5, vz_6, .ref aK, vz_8, vz_9, .ref aH, .ref aU])), (aK, .inl (cI, 6, .inl fK)), (aH, .inl (cI, 6, .inl fH)), (aU, .inl (cI, 6, .inl fU)), (tr, .inr (4, [.ref bg, .int (nI tc2_5)])), (bg, .inl (cI, 16, .inl gf2_4))] H := hP
  have hD : va_D A [(ho, .inr (0, [vz_0, vz_1, vz_2, .int (nI T), vz_4, vz_5, vz_6, .ref aK, vz_8, vz_9, .ref aH, .ref aU])), (aK, .inl (cI, 6, .inl fK)), (aH, .inl (cI, 6, .inl fH)), (aU, .inl (cI, 6, .inl fU)), (tr, .inr (4, [.ref bg, .int (nI tc2_5)])), (bg, .inl (cI, 16, .inl gf2_4))] := hD
  refine lv_iload hx hb dX5_begin_14 (lv_at hl 4 rfl) ?_
  refine lv_iconst (v := 1) hx hb dX5_begin_16 (by decide) ?_
  refine lv_iadd hx hb dX5_begin_17 ?_
  refine wt_top (z := nI (d + 1)) (nI_add d 1) ?_
  refine lv_istore (lv' := [(5, .int (nI (d + 1))), (0, .ref ho), (1, .ref tr), (2, .int bo), (3, .int (nI j)), (4, .int (nI d))]) hx hb dX5_begin_18 hl (by decide) rfl (fun ls hl => ?_)
  refine lv_iload_n hx hb dX5_begin_20 rfl (lv_at hl 3 rfl) ?_
  rcases wt_dec (bo) 10 with c_8 | c_8
  · subst c_8
    refine lv_tableIn (off := 75) (tgt := 96) hx hb dX5_begin_21 (by decide) (by decide) rfl (by decide) ?_
    refine lv_aload_n hx hb dX5_begin_96 rfl (lv_at hl 1 rfl) ?_
    refine va_get (D := D) (ci := 0) (v := .ref aH) (C := RX0) (T := TX0) (N := 12) hx hb hts hi0 hown hK.1 hP 0 rfl rfl 10 (by decide) wf196 (fun _ h9 => h9) rfl dX5_begin_97 ?_
    refine lv_iload_n hx hb dX5_begin_100 rfl (lv_at hl 4 rfl) ?_
    refine va_iald hx hb hK.1 hP 2 0 rfl rfl (vp_in_nI (by omega) (by omega)) dX5_begin_101 ?_
    refine lv_topi (fun ov_9 _ => ?_)
    have hP9 := hP.sub (ws' := [(ho, .inr (0, [vz_0, vz_1, vz_2, .int (nI T), vz_4, vz_5, vz_6, .ref aK, vz_8, vz_9, .ref aH, .ref aU])), (aK, .inl (cI, 6, .inl fK)), (aH, .inl (cI, 6, .inl fH)), (aU, .inl (cI, 6, .inl fU)), (tr, .inr (4, [.ref bg, .int (nI tc2_5)])), (bg, .inl (cI, 16, .inl gf2_4))]) [0, 1, 2, 3, 4, 5] rfl
    have hD9 := hD.sub (ws' := [(ho, .inr (0, [vz_0, vz_1, vz_2, .int (nI T), vz_4, vz_5, vz_6, .ref aK, vz_8, vz_9, .ref aH, .ref aU])), (aK, .inl (cI, 6, .inl fK)), (aH, .inl (cI, 6, .inl fH)), (aU, .inl (cI, 6, .inl fU)), (tr, .inr (4, [.ref bg, .int (nI tc2_5)])), (bg, .inl (cI, 16, .inl gf2_4))]) [0, 1, 2, 3, 4, 5] (by decide) rfl
    exact wt_iret hx hb hr hlocks hP9 hD9 hS ⟨gf2_4, tc2_5, rfl, (by omega)⟩ dX5_begin_102
  rcases wt_dec (bo) 11 with c_10 | c_10
  · subst c_10
    refine lv_tableIn (off := 82) (tgt := 103) hx hb dX5_begin_21 (by decide) (by decide) rfl (by decide) ?_
    refine lv_aload_n hx hb dX5_begin_103 rfl (lv_at hl 1 rfl) ?_
    refine lv_aload_n hx hb dX5_begin_104 rfl (lv_at hl 2 rfl) ?_
    refine lv_bipush (v := 10) hx hb dX5_begin_105 (by decide) ?_
    refine lv_iload_n hx hb dX5_begin_107 rfl (lv_at hl 4 rfl) ?_
    refine lv_iload hx hb dX5_begin_108 (lv_at hl 0 rfl) ?_
    refine wt_goI (wr := []) (wt_runSZ (As := [.ref ho, .ref tr, .int 10, .int (nI j), .int (nI (d + 1))]) (rest := []) ⟨hx, hb, hml, hown, hts⟩ (c_X5_begin_5 l D cI cZ cH _ _ _ ho aK aH aU T j (d + 1) fK fH fU tr bg tc2_5 gf2_4 10 vz_0 vz_1 vz_2 vz_4 vz_5 vz_6 vz_8 vz_9 (by first | assumption | omega) (by first | assumption | omega) (by first | assumption | omega) (by first | assumption | omega)) (va_cwS 5 hts gX5_begin_X5_begin rfl rfl rfl (by decide +kernel) ⟨Nat.le_of_ble_eq_true rfl, Nat.le_of_ble_eq_true rfl⟩) hK hP hD [0, 1, 2, 3, 4, 5] rfl (by decide) hZ hS hA rfl hl.1 rfl (Nat.le_of_ble_eq_true rfl) dX5_begin_110 ⟨Nat.le_of_ble_eq_true rfl, Nat.le_of_ble_eq_true rfl⟩) hP hD hS hA [0, 1, 2, 3, 4, 5] [] rfl rfl (by decide) (by decide) (fun r_11 w_12 H locs h_13 hP hD hS => ?_)
    obtain ⟨gf2_14, tc2_15, rfl, x_16⟩ := h_13
    have hP : va_P D vwCl [(ho, .inr (0, [vz_0, vz_1, vz_2, .int (nI T), vz_4, vz_5, vz_6, .ref aK, vz_8, vz_9, .ref aH, .ref aU])), (aK, .inl (cI, 6, .inl fK)), (aH, .inl (cI, 6, .inl fH)), (aU, .inl (cI, 6, .inl fU)), (tr, .inr (4, [.ref bg, .int (nI tc2_15)])), (bg, .inl (cI, 16, .inl gf2_14))] H := hP
    have hD : va_D A [(ho, .inr (0, [vz_0, vz_1, vz_2, .int (nI T), vz_4, vz_5, vz_6, .ref aK, vz_8, vz_9, .ref aH, .ref aU])), (aK, .inl (cI, 6, .inl fK)), (aH, .inl (cI, 6, .inl fH)), (aU, .inl (cI, 6, .inl fU)), (tr, .inr (4, [.ref bg, .int (nI tc2_15)])), (bg, .inl (cI, 16, .inl gf2_14))] := hD
    refine lv_aload_n hx hb dX5_begin_113 rfl (lv_at hl 1 rfl) ?_
    refine lv_aload_n hx hb dX5_begin_114 rfl (lv_at hl 2 rfl) ?_
    refine lv_aload_n hx hb dX5_begin_115 rfl (lv_at hl 1 rfl) ?_
    refine lv_iload_n hx hb dX5_begin_116 rfl (lv_at hl 4 rfl) ?_
    refine wt_goI (wr := [(aH, .inl (cI, 6, .inl fH)), (aU, .inl (cI, 6, .inl fU)), (tr, .inr (4, [.ref bg, .int (nI tc2_15)])), (bg, .inl (cI, 16, .inl gf2_14))]) (wt_runSZ (As := [.ref ho, .int (nI j)]) (rest := [.ref tr, .ref ho, .int r_11]) ⟨hx, hb, hml, hown, hts⟩ (c_X5_markBody l D cI cZ cH _ _ _ ho aK T j fK vz_0 vz_1 vz_2 vz_4 vz_5 vz_6 vz_8 vz_9 (.ref aH) (.ref aU) (by first | assumption | omega) (by first | assumption | omega)) (va_cwS 2 hts gX5_begin_X5_markBody rfl rfl rfl (by decide +kernel) ⟨Nat.le_of_ble_eq_true rfl, Nat.le_of_ble_eq_true rfl⟩) hK hP hD [0, 1] rfl (by decide) hZ hS hA rfl hl.1 rfl (Nat.le_of_ble_eq_true rfl) dX5_begin_117 ⟨Nat.le_of_ble_eq_true rfl, Nat.le_of_ble_eq_true rfl⟩) hP hD hS hA [0, 1] [2, 3, 4, 5] rfl rfl (by decide) (by decide) (fun r_17 w_18 H locs h_19 hP hD hS => ?_)
    obtain rfl := h_19
    have hP : va_P D vwCl [(aH, .inl (cI, 6, .inl fH)), (aU, .inl (cI, 6, .inl fU)), (tr, .inr (4, [.ref bg, .int (nI tc2_15)])), (bg, .inl (cI, 16, .inl gf2_14)), (ho, .inr (0, [vz_0, vz_1, vz_2, .int (nI T), vz_4, vz_5, vz_6, .ref aK, vz_8, vz_9, .ref aH, .ref aU])), (aK, .inl (cI, 6, .inl fK))] H := hP
    have hD : va_D A [(aH, .inl (cI, 6, .inl fH)), (aU, .inl (cI, 6, .inl fU)), (tr, .inr (4, [.ref bg, .int (nI tc2_15)])), (bg, .inl (cI, 16, .inl gf2_14)), (ho, .inr (0, [vz_0, vz_1, vz_2, .int (nI T), vz_4, vz_5, vz_6, .ref aK, vz_8, vz_9, .ref aH, .ref aU])), (aK, .inl (cI, 6, .inl fK))] := hD
    refine lv_iload_n hx hb dX5_begin_120 rfl (lv_at hl 4 rfl) ?_
    refine lv_iload hx hb dX5_begin_121 (lv_at hl 0 rfl) ?_
    refine wt_goI (wr := []) (wt_runSZ (As := [.ref ho, .ref tr, .int r_17, .int (nI j), .int (nI (d + 1))]) (rest := [.int r_11]) ⟨hx, hb, hml, hown, hts⟩ (c_X5_begin_5 l D cI cZ cH _ _ _ ho aK aH aU T j (d + 1) fK fH fU tr bg tc2_15 gf2_14 r_17 vz_0 vz_1 vz_2 vz_4 vz_5 vz_6 vz_8 vz_9 (by first | assumption | omega) (by first | assumption | omega) (by first | assumption | omega) (by first | assumption | omega)) (va_cwS 5 hts gX5_begin_X5_begin rfl rfl rfl (by decide +kernel) ⟨Nat.le_of_ble_eq_true rfl, Nat.le_of_ble_eq_true rfl⟩) hK hP hD [4, 5, 0, 1, 2, 3] rfl (by decide) hZ hS hA rfl hl.1 rfl (Nat.le_of_ble_eq_true rfl) dX5_begin_123 ⟨Nat.le_of_ble_eq_true rfl, Nat.le_of_ble_eq_true rfl⟩) hP hD hS hA [4, 5, 0, 1, 2, 3] [] rfl rfl (by decide) (by decide) (fun r_20 w_21 H locs h_22 hP hD hS => ?_)
    obtain ⟨gf2_23, tc2_24, rfl, x_25⟩ := h_22
    have hP : va_P D vwCl [(ho, .inr (0, [vz_0, vz_1, vz_2, .int (nI T), vz_4, vz_5, vz_6, .ref aK, vz_8, vz_9, .ref aH, .ref aU])), (aK, .inl (cI, 6, .inl fK)), (aH, .inl (cI, 6, .inl fH)), (aU, .inl (cI, 6, .inl fU)), (tr, .inr (4, [.ref bg, .int (nI tc2_24)])), (bg, .inl (cI, 16, .inl gf2_23))] H := hP
    have hD : va_D A [(ho, .inr (0, [vz_0, vz_1, vz_2, .int (nI T), vz_4, vz_5, vz_6, .ref aK, vz_8, vz_9, .ref aH, .ref aU])), (aK, .inl (cI, 6, .inl fK)), (aH, .inl (cI, 6, .inl fH)), (aU, .inl (cI, 6, .inl fU)), (tr, .inr (4, [.ref bg, .int (nI tc2_24)])), (bg, .inl (cI, 16, .inl gf2_23))] := hD
    refine lv_iadd hx hb dX5_begin_126 ?_
    refine lv_topi (fun ov_26 _ => ?_)
    have hP9 := hP.sub (ws' := [(ho, .inr (0, [vz_0, vz_1, vz_2, .int (nI T), vz_4, vz_5, vz_6, .ref aK, vz_8, vz_9, .ref aH, .ref aU])), (aK, .inl (cI, 6, .inl fK)), (aH, .inl (cI, 6, .inl fH)), (aU, .inl (cI, 6, .inl fU)), (tr, .inr (4, [.ref bg, .int (nI tc2_24)])), (bg, .inl (cI, 16, .inl gf2_23))]) [0, 1, 2, 3, 4, 5] rfl
    have hD9 := hD.sub (ws' := [(ho, .inr (0, [vz_0, vz_1, vz_2, .int (nI T), vz_4, vz_5, vz_6, .ref aK, vz_8, vz_9, .ref aH, .ref aU])), (aK, .inl (cI, 6, .inl fK)), (aH, .inl (cI, 6, .inl fH)), (aU, .inl (cI, 6, .inl fU)), (tr, .inr (4, [.ref bg, .int (nI tc2_24)])), (bg, .inl (cI, 16, .inl gf2_23))]) [0, 1, 2, 3, 4, 5] (by decide) rfl
    exact wt_iret hx hb hr hlocks hP9 hD9 hS ⟨gf2_23, tc2_24, rfl, (by omega)⟩ dX5_begin_127
  rcases wt_dec (bo) 12 with c_27 | c_27
  · subst c_27
    refine lv_tableIn (off := 107) (tgt := 128) hx hb dX5_begin_21 (by decide) (by decide) rfl (by decide) ?_
    refine lv_aload_n hx hb dX5_begin_128 rfl (lv_at hl 1 rfl) ?_
    refine lv_aload_n hx hb dX5_begin_129 rfl (lv_at hl 2 rfl) ?_
    refine lv_bipush (v := 11) hx hb dX5_begin_130 (by decide) ?_
    refine lv_iload_n hx hb dX5_begin_132 rfl (lv_at hl 4 rfl) ?_
    refine lv_iload hx hb dX5_begin_133 (lv_at hl 0 rfl) ?_
    refine wt_goI (wr := []) (wt_runSZ (As := [.ref ho, .ref tr, .int 11, .int (nI j), .int (nI (d + 1))]) (rest := []) ⟨hx, hb, hml, hown, hts⟩ (c_X5_begin_5 l D cI cZ cH _ _ _ ho aK aH aU T j (d + 1) fK fH fU tr bg tc2_5 gf2_4 11 vz_0 vz_1 vz_2 vz_4 vz_5 vz_6 vz_8 vz_9 (by first | assumption | omega) (by first | assumption | omega) (by first | assumption | omega) (by first | assumption | omega)) (va_cwS 5 hts gX5_begin_X5_begin rfl rfl rfl (by decide +kernel) ⟨Nat.le_of_ble_eq_true rfl, Nat.le_of_ble_eq_true rfl⟩) hK hP hD [0, 1, 2, 3, 4, 5] rfl (by decide) hZ hS hA rfl hl.1 rfl (Nat.le_of_ble_eq_true rfl) dX5_begin_135 ⟨Nat.le_of_ble_eq_true rfl, Nat.le_of_ble_eq_true rfl⟩) hP hD hS hA [0, 1, 2, 3, 4, 5] [] rfl rfl (by decide) (by decide) (fun r_28 w_29 H locs h_30 hP hD hS => ?_)
    obtain ⟨gf2_31, tc2_32, rfl, x_33⟩ := h_30
    have hP : va_P D vwCl [(ho, .inr (0, [vz_0, vz_1, vz_2, .int (nI T), vz_4, vz_5, vz_6, .ref aK, vz_8, vz_9, .ref aH, .ref aU])), (aK, .inl (cI, 6, .inl fK)), (aH, .inl (cI, 6, .inl fH)), (aU, .inl (cI, 6, .inl fU)), (tr, .inr (4, [.ref bg, .int (nI tc2_32)])), (bg, .inl (cI, 16, .inl gf2_31))] H := hP
    have hD : va_D A [(ho, .inr (0, [vz_0, vz_1, vz_2, .int (nI T), vz_4, vz_5, vz_6, .ref aK, vz_8, vz_9, .ref aH, .ref aU])), (aK, .inl (cI, 6, .inl fK)), (aH, .inl (cI, 6, .inl fH)), (aU, .inl (cI, 6, .inl fU)), (tr, .inr (4, [.ref bg, .int (nI tc2_32)])), (bg, .inl (cI, 16, .inl gf2_31))] := hD
    refine lv_ineg hx hb dX5_begin_138 ?_
    refine lv_topi (fun ov_34 _ => ?_)
    have hP9 := hP.sub (ws' := [(ho, .inr (0, [vz_0, vz_1, vz_2, .int (nI T), vz_4, vz_5, vz_6, .ref aK, vz_8, vz_9, .ref aH, .ref aU])), (aK, .inl (cI, 6, .inl fK)), (aH, .inl (cI, 6, .inl fH)), (aU, .inl (cI, 6, .inl fU)), (tr, .inr (4, [.ref bg, .int (nI tc2_32)])), (bg, .inl (cI, 16, .inl gf2_31))]) [0, 1, 2, 3, 4, 5] rfl
    have hD9 := hD.sub (ws' := [(ho, .inr (0, [vz_0, vz_1, vz_2, .int (nI T), vz_4, vz_5, vz_6, .ref aK, vz_8, vz_9, .ref aH, .ref aU])), (aK, .inl (cI, 6, .inl fK)), (aH, .inl (cI, 6, .inl fH)), (aU, .inl (cI, 6, .inl fU)), (tr, .inr (4, [.ref bg, .int (nI tc2_32)])), (bg, .inl (cI, 16, .inl gf2_31))]) [0, 1, 2, 3, 4, 5] (by decide) rfl
    exact wt_iret hx hb hr hlocks hP9 hD9 hS ⟨gf2_31, tc2_32, rfl, (by omega)⟩ dX5_begin_139
  rcases wt_dec (bo) 13 with c_35 | c_35
  · subst c_35
    refine lv_tableIn (off := 119) (tgt := 140) hx hb dX5_begin_21 (by decide) (by decide) rfl (by decide) ?_
    refine lv_aload_n hx hb dX5_begin_140 rfl (lv_at hl 1 rfl) ?_
    refine lv_aload_n hx hb dX5_begin_141 rfl (lv_at hl 2 rfl) ?_
    refine lv_bipush (v := 10) hx hb dX5_begin_142 (by decide) ?_
    refine lv_iload_n hx hb dX5_begin_144 rfl (lv_at hl 4 rfl) ?_
    refine lv_iload hx hb dX5_begin_145 (lv_at hl 0 rfl) ?_
    refine wt_goI (wr := []) (wt_runSZ (As := [.ref ho, .ref tr, .int 10, .int (nI j), .int (nI (d + 1))]) (rest := []) ⟨hx, hb, hml, hown, hts⟩ (c_X5_begin_5 l D cI cZ cH _ _ _ ho aK aH aU T j (d + 1) fK fH fU tr bg tc2_5 gf2_4 10 vz_0 vz_1 vz_2 vz_4 vz_5 vz_6 vz_8 vz_9 (by first | assumption | omega) (by first | assumption | omega) (by first | assumption | omega) (by first | assumption | omega)) (va_cwS 5 hts gX5_begin_X5_begin rfl rfl rfl (by decide +kernel) ⟨Nat.le_of_ble_eq_true rfl, Nat.le_of_ble_eq_true rfl⟩) hK hP hD [0, 1, 2, 3, 4, 5] rfl (by decide) hZ hS hA rfl hl.1 rfl (Nat.le_of_ble_eq_true rfl) dX5_begin_147 ⟨Nat.le_of_ble_eq_true rfl, Nat.le_of_ble_eq_true rfl⟩) hP hD hS hA [0, 1, 2, 3, 4, 5] [] rfl rfl (by decide) (by decide) (fun r_36 w_37 H locs h_38 hP hD hS => ?_)
    obtain ⟨gf2_39, tc2_40, rfl, x_41⟩ := h_38
    have hP : va_P D vwCl [(ho, .inr (0, [vz_0, vz_1, vz_2, .int (nI T), vz_4, vz_5, vz_6, .ref aK, vz_8, vz_9, .ref aH, .ref aU])), (aK, .inl (cI, 6, .inl fK)), (aH, .inl (cI, 6, .inl fH)), (aU, .inl (cI, 6, .inl fU)), (tr, .inr (4, [.ref bg, .int (nI tc2_40)])), (bg, .inl (cI, 16, .inl gf2_39))] H := hP
    have hD : va_D A [(ho, .inr (0, [vz_0, vz_1, vz_2, .int (nI T), vz_4, vz_5, vz_6, .ref aK, vz_8, vz_9, .ref aH, .ref aU])), (aK, .inl (cI, 6, .inl fK)), (aH, .inl (cI, 6, .inl fH)), (aU, .inl (cI, 6, .inl fU)), (tr, .inr (4, [.ref bg, .int (nI tc2_40)])), (bg, .inl (cI, 16, .inl gf2_39))] := hD
    refine lv_bipush (v := 100) hx hb dX5_begin_150 (by decide) ?_
    refine lv_isub hx hb dX5_begin_152 ?_
    refine lv_topi (fun ov_42 _ => ?_)
    have hP9 := hP.sub (ws' := [(ho, .inr (0, [vz_0, vz_1, vz_2, .int (nI T), vz_4, vz_5, vz_6, .ref aK, vz_8, vz_9, .ref aH, .ref aU])), (aK, .inl (cI, 6, .inl fK)), (aH, .inl (cI, 6, .inl fH)), (aU, .inl (cI, 6, .inl fU)), (tr, .inr (4, [.ref bg, .int (nI tc2_40)])), (bg, .inl (cI, 16, .inl gf2_39))]) [0, 1, 2, 3, 4, 5] rfl
    have hD9 := hD.sub (ws' := [(ho, .inr (0, [vz_0, vz_1, vz_2, .int (nI T), vz_4, vz_5, vz_6, .ref aK, vz_8, vz_9, .ref aH, .ref aU])), (aK, .inl (cI, 6, .inl fK)), (aH, .inl (cI, 6, .inl fH)), (aU, .inl (cI, 6, .inl fU)), (tr, .inr (4, [.ref bg, .int (nI tc2_40)])), (bg, .inl (cI, 16, .inl gf2_39))]) [0, 1, 2, 3, 4, 5] (by decide) rfl
    exact wt_iret hx hb hr hlocks hP9 hD9 hS ⟨gf2_39, tc2_40, rfl, (by omega)⟩ dX5_begin_153
  rcases wt_dec (bo) 14 with c_43 | c_43
  · subst c_43
    refine lv_tableIn (off := 133) (tgt := 154) hx hb dX5_begin_21 (by decide) (by decide) rfl (by decide) ?_
    refine lv_aload_n hx hb dX5_begin_154 rfl (lv_at hl 1 rfl) ?_
    refine lv_aload_n hx hb dX5_begin_155 rfl (lv_at hl 2 rfl) ?_
    refine lv_bipush (v := 13) hx hb dX5_begin_156 (by decide) ?_
    refine lv_iload_n hx hb dX5_begin_158 rfl (lv_at hl 4 rfl) ?_
    refine lv_iload hx hb dX5_begin_159 (lv_at hl 0 rfl) ?_
    refine wt_goI (wr := []) (wt_runSZ (As := [.ref ho, .ref tr, .int 13, .int (nI j), .int (nI (d + 1))]) (rest := []) ⟨hx, hb, hml, hown, hts⟩ (c_X5_begin_5 l D cI cZ cH _ _ _ ho aK aH aU T j (d + 1) fK fH fU tr bg tc2_5 gf2_4 13 vz_0 vz_1 vz_2 vz_4 vz_5 vz_6 vz_8 vz_9 (by first | assumption | omega) (by first | assumption | omega) (by first | assumption | omega) (by first | assumption | omega)) (va_cwS 5 hts gX5_begin_X5_begin rfl rfl rfl (by decide +kernel) ⟨Nat.le_of_ble_eq_true rfl, Nat.le_of_ble_eq_true rfl⟩) hK hP hD [0, 1, 2, 3, 4, 5] rfl (by decide) hZ hS hA rfl hl.1 rfl (Nat.le_of_ble_eq_true rfl) dX5_begin_161 ⟨Nat.le_of_ble_eq_true rfl, Nat.le_of_ble_eq_true rfl⟩) hP hD hS hA [0, 1, 2, 3, 4, 5] [] rfl rfl (by decide) (by decide) (fun r_44 w_45 H locs h_46 hP hD hS => ?_)
    obtain ⟨gf2_47, tc2_48, rfl, x_49⟩ := h_46
    have hP : va_P D vwCl [(ho, .inr (0, [vz_0, vz_1, vz_2, .int (nI T), vz_4, vz_5, vz_6, .ref aK, vz_8, vz_9, .ref aH, .ref aU])), (aK, .inl (cI, 6, .inl fK)), (aH, .inl (cI, 6, .inl fH)), (aU, .inl (cI, 6, .inl fU)), (tr, .inr (4, [.ref bg, .int (nI tc2_48)])), (bg, .inl (cI, 16, .inl gf2_47))] H := hP
    have hD : va_D A [(ho, .inr (0, [vz_0, vz_1, vz_2, .int (nI T), vz_4, vz_5, vz_6, .ref aK, vz_8, vz_9, .ref aH, .ref aU])), (aK, .inl (cI, 6, .inl fK)), (aH, .inl (cI, 6, .inl fH)), (aU, .inl (cI, 6, .inl fU)), (tr, .inr (4, [.ref bg, .int (nI tc2_48)])), (bg, .inl (cI, 16, .inl gf2_47))] := hD
    refine lv_iconst (v := 2) hx hb dX5_begin_164 (by decide) ?_
    refine lv_imul hx hb dX5_begin_165 ?_
    refine lv_topi (fun ov_50 _ => ?_)
    have hP9 := hP.sub (ws' := [(ho, .inr (0, [vz_0, vz_1, vz_2, .int (nI T), vz_4, vz_5, vz_6, .ref aK, vz_8, vz_9, .ref aH, .ref aU])), (aK, .inl (cI, 6, .inl fK)), (aH, .inl (cI, 6, .inl fH)), (aU, .inl (cI, 6, .inl fU)), (tr, .inr (4, [.ref bg, .int (nI tc2_48)])), (bg, .inl (cI, 16, .inl gf2_47))]) [0, 1, 2, 3, 4, 5] rfl
    have hD9 := hD.sub (ws' := [(ho, .inr (0, [vz_0, vz_1, vz_2, .int (nI T), vz_4, vz_5, vz_6, .ref aK, vz_8, vz_9, .ref aH, .ref aU])), (aK, .inl (cI, 6, .inl fK)), (aH, .inl (cI, 6, .inl fH)), (aU, .inl (cI, 6, .inl fU)), (tr, .inr (4, [.ref bg, .int (nI tc2_48)])), (bg, .inl (cI, 16, .inl gf2_47))]) [0, 1, 2, 3, 4, 5] (by decide) rfl
    exact wt_iret hx hb hr hlocks hP9 hD9 hS ⟨gf2_47, tc2_48, rfl, (by omega)⟩ dX5_begin_166
  rcases wt_dec (bo) 15 with c_51 | c_51
  · subst c_51
    refine lv_tableIn (off := 219) (tgt := 240) hx hb dX5_begin_21 (by decide) (by decide) rfl (by decide) ?_
    refine lv_iconst (v := 0) hx hb dX5_begin_240 (by decide) ?_
    have hP9 := hP.sub (ws' := [(ho, .inr (0, [vz_0, vz_1, vz_2, .int (nI T), vz_4, vz_5, vz_6, .ref aK, vz_8, vz_9, .ref aH, .ref aU])), (aK, .inl (cI, 6, .inl fK)), (aH, .inl (cI, 6, .inl fH)), (aU, .inl (cI, 6, .inl fU)), (tr, .inr (4, [.ref bg, .int (nI tc2_5)])), (bg, .inl (cI, 16, .inl gf2_4))]) [0, 1, 2, 3, 4, 5] rfl
    have hD9 := hD.sub (ws' := [(ho, .inr (0, [vz_0, vz_1, vz_2, .int (nI T), vz_4, vz_5, vz_6, .ref aK, vz_8, vz_9, .ref aH, .ref aU])), (aK, .inl (cI, 6, .inl fK)), (aH, .inl (cI, 6, .inl fH)), (aU, .inl (cI, 6, .inl fU)), (tr, .inr (4, [.ref bg, .int (nI tc2_5)])), (bg, .inl (cI, 16, .inl gf2_4))]) [0, 1, 2, 3, 4, 5] (by decide) rfl
    exact wt_iret hx hb hr hlocks hP9 hD9 hS ⟨gf2_4, tc2_5, rfl, (by omega)⟩ dX5_begin_241
  rcases wt_dec (bo) 16 with c_52 | c_52
  · subst c_52
    refine lv_tableIn (off := 219) (tgt := 240) hx hb dX5_begin_21 (by decide) (by decide) rfl (by decide) ?_
    refine lv_iconst (v := 0) hx hb dX5_begin_240 (by decide) ?_
    have hP9 := hP.sub (ws' := [(ho, .inr (0, [vz_0, vz_1, vz_2, .int (nI T), vz_4, vz_5, vz_6, .ref aK, vz_8, vz_9, .ref aH, .ref aU])), (aK, .inl (cI, 6, .inl fK)), (aH, .inl (cI, 6, .inl fH)), (aU, .inl (cI, 6, .inl fU)), (tr, .inr (4, [.ref bg, .int (nI tc2_5)])), (bg, .inl (cI, 16, .inl gf2_4))]) [0, 1, 2, 3, 4, 5] rfl
    have hD9 := hD.sub (ws' := [(ho, .inr (0, [vz_0, vz_1, vz_2, .int (nI T), vz_4, vz_5, vz_6, .ref aK, vz_8, vz_9, .ref aH, .ref aU])), (aK, .inl (cI, 6, .inl fK)), (aH, .inl (cI, 6, .inl fH)), (aU, .inl (cI, 6, .inl fU)), (tr, .inr (4, [.ref bg, .int (nI tc2_5)])), (bg, .inl (cI, 16, .inl gf2_4))]) [0, 1, 2, 3, 4, 5] (by decide) rfl
    exact wt_iret hx hb hr hlocks hP9 hD9 hS ⟨gf2_4, tc2_5, rfl, (by omega)⟩ dX5_begin_241
  rcases wt_dec (bo) 17 with c_53 | c_53
  · subst c_53
    refine lv_tableIn (off := 219) (tgt := 240) hx hb dX5_begin_21 (by decide) (by decide) rfl (by decide) ?_
    refine lv_iconst (v := 0) hx hb dX5_begin_240 (by decide) ?_
    have hP9 := hP.sub (ws' := [(ho, .inr (0, [vz_0, vz_1, vz_2, .int (nI T), vz_4, vz_5, vz_6, .ref aK, vz_8, vz_9, .ref aH, .ref aU])), (aK, .inl (cI, 6, .inl fK)), (aH, .inl (cI, 6, .inl fH)), (aU, .inl (cI, 6, .inl fU)), (tr, .inr (4, [.ref bg, .int (nI tc2_5)])), (bg, .inl (cI, 16, .inl gf2_4))]) [0, 1, 2, 3, 4, 5] rfl
    have hD9 := hD.sub (ws' := [(ho, .inr (0, [vz_0, vz_1, vz_2, .int (nI T), vz_4, vz_5, vz_6, .ref aK, vz_8, vz_9, .ref aH, .ref aU])), (aK, .inl (cI, 6, .inl fK)), (aH, .inl (cI, 6, .inl fH)), (aU, .inl (cI, 6, .inl fU)), (tr, .inr (4, [.ref bg, .int (nI tc2_5)])), (bg, .inl (cI, 16, .inl gf2_4))]) [0, 1, 2, 3, 4, 5] (by decide) rfl
    exact wt_iret hx hb hr hlocks hP9 hD9 hS ⟨gf2_4, tc2_5, rfl, (by omega)⟩ dX5_begin_241
  rcases wt_dec (bo) 18 with c_54 | c_54
  · subst c_54
    refine lv_tableIn (off := 219) (tgt := 240) hx hb dX5_begin_21 (by decide) (by decide) rfl (by decide) ?_
    refine lv_iconst (v := 0) hx hb dX5_begin_240 (by decide) ?_
    have hP9 := hP.sub (ws' := [(ho, .inr (0, [vz_0, vz_1, vz_2, .int (nI T), vz_4, vz_5, vz_6, .ref aK, vz_8, vz_9, .ref aH, .ref aU])), (aK, .inl (cI, 6, .inl fK)), (aH, .inl (cI, 6, .inl fH)), (aU, .inl (cI, 6, .inl fU)), (tr, .inr (4, [.ref bg, .int (nI tc2_5)])), (bg, .inl (cI, 16, .inl gf2_4))]) [0, 1, 2, 3, 4, 5] rfl
    have hD9 := hD.sub (ws' := [(ho, .inr (0, [vz_0, vz_1, vz_2, .int (nI T), vz_4, vz_5, vz_6, .ref aK, vz_8, vz_9, .ref aH, .ref aU])), (aK, .inl (cI, 6, .inl fK)), (aH, .inl (cI, 6, .inl fH)), (aU, .inl (cI, 6, .inl fU)), (tr, .inr (4, [.ref bg, .int (nI tc2_5)])), (bg, .inl (cI, 16, .inl gf2_4))]) [0, 1, 2, 3, 4, 5] (by decide) rfl
    exact wt_iret hx hb hr hlocks hP9 hD9 hS ⟨gf2_4, tc2_5, rfl, (by omega)⟩ dX5_begin_241
  rcases wt_dec (bo) 19 with c_55 | c_55
  · subst c_55
    refine lv_tableIn (off := 219) (tgt := 240) hx hb dX5_begin_21 (by decide) (by decide) rfl (by decide) ?_
    refine lv_iconst (v := 0) hx hb dX5_begin_240 (by decide) ?_
    have hP9 := hP.sub (ws' := [(ho, .inr (0, [vz_0, vz_1, vz_2, .int (nI T), vz_4, vz_5, vz_6, .ref aK, vz_8, vz_9, .ref aH, .ref aU])), (aK, .inl (cI, 6, .inl fK)), (aH, .inl (cI, 6, .inl fH)), (aU, .inl (cI, 6, .inl fU)), (tr, .inr (4, [.ref bg, .int (nI tc2_5)])), (bg, .inl (cI, 16, .inl gf2_4))]) [0, 1, 2, 3, 4, 5] rfl
    have hD9 := hD.sub (ws' := [(ho, .inr (0, [vz_0, vz_1, vz_2, .int (nI T), vz_4, vz_5, vz_6, .ref aK, vz_8, vz_9, .ref aH, .ref aU])), (aK, .inl (cI, 6, .inl fK)), (aH, .inl (cI, 6, .inl fH)), (aU, .inl (cI, 6, .inl fU)), (tr, .inr (4, [.ref bg, .int (nI tc2_5)])), (bg, .inl (cI, 16, .inl gf2_4))]) [0, 1, 2, 3, 4, 5] (by decide) rfl
    exact wt_iret hx hb hr hlocks hP9 hD9 hS ⟨gf2_4, tc2_5, rfl, (by omega)⟩ dX5_begin_241
  rcases wt_dec (bo) 20 with c_56 | c_56
  · subst c_56
    refine lv_tableIn (off := 146) (tgt := 167) hx hb dX5_begin_21 (by decide) (by decide) rfl (by decide) ?_
    refine lv_iload_n hx hb dX5_begin_167 rfl (lv_at hl 4 rfl) ?_
    have hP9 := hP.sub (ws' := [(ho, .inr (0, [vz_0, vz_1, vz_2, .int (nI T), vz_4, vz_5, vz_6, .ref aK, vz_8, vz_9, .ref aH, .ref aU])), (aK, .inl (cI, 6, .inl fK)), (aH, .inl (cI, 6, .inl fH)), (aU, .inl (cI, 6, .inl fU)), (tr, .inr (4, [.ref bg, .int (nI tc2_5)])), (bg, .inl (cI, 16, .inl gf2_4))]) [0, 1, 2, 3, 4, 5] rfl
    have hD9 := hD.sub (ws' := [(ho, .inr (0, [vz_0, vz_1, vz_2, .int (nI T), vz_4, vz_5, vz_6, .ref aK, vz_8, vz_9, .ref aH, .ref aU])), (aK, .inl (cI, 6, .inl fK)), (aH, .inl (cI, 6, .inl fH)), (aU, .inl (cI, 6, .inl fU)), (tr, .inr (4, [.ref bg, .int (nI tc2_5)])), (bg, .inl (cI, 16, .inl gf2_4))]) [0, 1, 2, 3, 4, 5] (by decide) rfl
    exact wt_iret hx hb hr hlocks hP9 hD9 hS ⟨gf2_4, tc2_5, rfl, (by omega)⟩ dX5_begin_168
  rcases wt_dec (bo) 21 with c_57 | c_57
  · subst c_57
    refine lv_tableIn (off := 148) (tgt := 169) hx hb dX5_begin_21 (by decide) (by decide) rfl (by decide) ?_
    refine lv_aload_n hx hb dX5_begin_169 rfl (lv_at hl 1 rfl) ?_
    refine lv_aload_n hx hb dX5_begin_170 rfl (lv_at hl 2 rfl) ?_
    refine lv_bipush (v := 20) hx hb dX5_begin_171 (by decide) ?_
    refine lv_iload_n hx hb dX5_begin_173 rfl (lv_at hl 4 rfl) ?_
    refine lv_iload hx hb dX5_begin_174 (lv_at hl 0 rfl) ?_
    refine wt_goI (wr := []) (wt_runSZ (As := [.ref ho, .ref tr, .int 20, .int (nI j), .int (nI (d + 1))]) (rest := []) ⟨hx, hb, hml, hown, hts⟩ (c_X5_begin_5 l D cI cZ cH _ _ _ ho aK aH aU T j (d + 1) fK fH fU tr bg tc2_5 gf2_4 20 vz_0 vz_1 vz_2 vz_4 vz_5 vz_6 vz_8 vz_9 (by first | assumption | omega) (by first | assumption | omega) (by first | assumption | omega) (by first | assumption | omega)) (va_cwS 5 hts gX5_begin_X5_begin rfl rfl rfl (by decide +kernel) ⟨Nat.le_of_ble_eq_true rfl, Nat.le_of_ble_eq_true rfl⟩) hK hP hD [0, 1, 2, 3, 4, 5] rfl (by decide) hZ hS hA rfl hl.1 rfl (Nat.le_of_ble_eq_true rfl) dX5_begin_176 ⟨Nat.le_of_ble_eq_true rfl, Nat.le_of_ble_eq_true rfl⟩) hP hD hS hA [0, 1, 2, 3, 4, 5] [] rfl rfl (by decide) (by decide) (fun r_58 w_59 H locs h_60 hP hD hS => ?_)
    obtain ⟨gf2_61, tc2_62, rfl, x_63⟩ := h_60
    have hP : va_P D vwCl [(ho, .inr (0, [vz_0, vz_1, vz_2, .int (nI T), vz_4, vz_5, vz_6, .ref aK, vz_8, vz_9, .ref aH, .ref aU])), (aK, .inl (cI, 6, .inl fK)), (aH, .inl (cI, 6, .inl fH)), (aU, .inl (cI, 6, .inl fU)), (tr, .inr (4, [.ref bg, .int (nI tc2_62)])), (bg, .inl (cI, 16, .inl gf2_61))] H := hP
    have hD : va_D A [(ho, .inr (0, [vz_0, vz_1, vz_2, .int (nI T), vz_4, vz_5, vz_6, .ref aK, vz_8, vz_9, .ref aH, .ref aU])), (aK, .inl (cI, 6, .inl fK)), (aH, .inl (cI, 6, .inl fH)), (aU, .inl (cI, 6, .inl fU)), (tr, .inr (4, [.ref bg, .int (nI tc2_62)])), (bg, .inl (cI, 16, .inl gf2_61))] := hD
    refine lv_aload_n hx hb dX5_begin_179 rfl (lv_at hl 1 rfl) ?_
    refine va_get (D := D) (ci := 0) (v := .ref aU) (C := RX0) (T := TX0) (N := 12) hx hb hts hi0 hown hK.1 hP 0 rfl rfl 11 (by decide) wf175 (fun _ h9 => h9) rfl dX5_begin_180 ?_
    refine lv_iload_n hx hb dX5_begin_183 rfl (lv_at hl 4 rfl) ?_
    refine va_iald hx hb hK.1 hP 3 0 rfl rfl (vp_in_nI (by omega) (by omega)) dX5_begin_184 ?_
    refine lv_topi (fun ov_64 _ => ?_)
    refine lv_iadd hx hb dX5_begin_185 ?_
    refine lv_topi (fun ov_65 _ => ?_)
    have hP9 := hP.sub (ws' := [(ho, .inr (0, [vz_0, vz_1, vz_2, .int (nI T), vz_4, vz_5, vz_6, .ref aK, vz_8, vz_9, .ref aH, .ref aU])), (aK, .inl (cI, 6, .inl fK)), (aH, .inl (cI, 6, .inl fH)), (aU, .inl (cI, 6, .inl fU)), (tr, .inr (4, [.ref bg, .int (nI tc2_62)])), (bg, .inl (cI, 16, .inl gf2_61))]) [0, 1, 2, 3, 4, 5] rfl
    have hD9 := hD.sub (ws' := [(ho, .inr (0, [vz_0, vz_1, vz_2, .int (nI T), vz_4, vz_5, vz_6, .ref aK, vz_8, vz_9, .ref aH, .ref aU])), (aK, .inl (cI, 6, .inl fK)), (aH, .inl (cI, 6, .inl fH)), (aU, .inl (cI, 6, .inl fU)), (tr, .inr (4, [.ref bg, .int (nI tc2_62)])), (bg, .inl (cI, 16, .inl gf2_61))]) [0, 1, 2, 3, 4, 5] (by decide) rfl
    exact wt_iret hx hb hr hlocks hP9 hD9 hS ⟨gf2_61, tc2_62, rfl, (by omega)⟩ dX5_begin_186
  rcases wt_dec (bo) 22 with c_66 | c_66
  · subst c_66
    refine lv_tableIn (off := 166) (tgt := 187) hx hb dX5_begin_21 (by decide) (by decide) rfl (by decide) ?_
    refine lv_aload_n hx hb dX5_begin_187 rfl (lv_at hl 1 rfl) ?_
    refine lv_aload_n hx hb dX5_begin_188 rfl (lv_at hl 2 rfl) ?_
    refine lv_bipush (v := 21) hx hb dX5_begin_189 (by decide) ?_
    refine lv_iload_n hx hb dX5_begin_191 rfl (lv_at hl 4 rfl) ?_
    refine lv_iload hx hb dX5_begin_192 (lv_at hl 0 rfl) ?_
    refine wt_goI (wr := []) (wt_runSZ (As := [.ref ho, .ref tr, .int 21, .int (nI j), .int (nI (d + 1))]) (rest := []) ⟨hx, hb, hml, hown, hts⟩ (c_X5_begin_5 l D cI cZ cH _ _ _ ho aK aH aU T j (d + 1) fK fH fU tr bg tc2_5 gf2_4 21 vz_0 vz_1 vz_2 vz_4 vz_5 vz_6 vz_8 vz_9 (by first | assumption | omega) (by first | assumption | omega) (by first | assumption | omega) (by first | assumption | omega)) (va_cwS 5 hts gX5_begin_X5_begin rfl rfl rfl (by decide +kernel) ⟨Nat.le_of_ble_eq_true rfl, Nat.le_of_ble_eq_true rfl⟩) hK hP hD [0, 1, 2, 3, 4, 5] rfl (by decide) hZ hS hA rfl hl.1 rfl (Nat.le_of_ble_eq_true rfl) dX5_begin_194 ⟨Nat.le_of_ble_eq_true rfl, Nat.le_of_ble_eq_true rfl⟩) hP hD hS hA [0, 1, 2, 3, 4, 5] [] rfl rfl (by decide) (by decide) (fun r_67 w_68 H locs h_69 hP hD hS => ?_)
    obtain ⟨gf2_70, tc2_71, rfl, x_72⟩ := h_69
    have hP : va_P D vwCl [(ho, .inr (0, [vz_0, vz_1, vz_2, .int (nI T), vz_4, vz_5, vz_6, .ref aK, vz_8, vz_9, .ref aH, .ref aU])), (aK, .inl (cI, 6, .inl fK)), (aH, .inl (cI, 6, .inl fH)), (aU, .inl (cI, 6, .inl fU)), (tr, .inr (4, [.ref bg, .int (nI tc2_71)])), (bg, .inl (cI, 16, .inl gf2_70))] H := hP
    have hD : va_D A [(ho, .inr (0, [vz_0, vz_1, vz_2, .int (nI T), vz_4, vz_5, vz_6, .ref aK, vz_8, vz_9, .ref aH, .ref aU])), (aK, .inl (cI, 6, .inl fK)), (aH, .inl (cI, 6, .inl fH)), (aU, .inl (cI, 6, .inl fU)), (tr, .inr (4, [.ref bg, .int (nI tc2_71)])), (bg, .inl (cI, 16, .inl gf2_70))] := hD
    refine lv_sipush (v := 1000) hx hb dX5_begin_197 (by decide) ?_
    refine lv_isub hx hb dX5_begin_200 ?_
    refine lv_topi (fun ov_73 _ => ?_)
    have hP9 := hP.sub (ws' := [(ho, .inr (0, [vz_0, vz_1, vz_2, .int (nI T), vz_4, vz_5, vz_6, .ref aK, vz_8, vz_9, .ref aH, .ref aU])), (aK, .inl (cI, 6, .inl fK)), (aH, .inl (cI, 6, .inl fH)), (aU, .inl (cI, 6, .inl fU)), (tr, .inr (4, [.ref bg, .int (nI tc2_71)])), (bg, .inl (cI, 16, .inl gf2_70))]) [0, 1, 2, 3, 4, 5] rfl
    have hD9 := hD.sub (ws' := [(ho, .inr (0, [vz_0, vz_1, vz_2, .int (nI T), vz_4, vz_5, vz_6, .ref aK, vz_8, vz_9, .ref aH, .ref aU])), (aK, .inl (cI, 6, .inl fK)), (aH, .inl (cI, 6, .inl fH)), (aU, .inl (cI, 6, .inl fU)), (tr, .inr (4, [.ref bg, .int (nI tc2_71)])), (bg, .inl (cI, 16, .inl gf2_70))]) [0, 1, 2, 3, 4, 5] (by decide) rfl
    exact wt_iret hx hb hr hlocks hP9 hD9 hS ⟨gf2_70, tc2_71, rfl, (by omega)⟩ dX5_begin_201
  rcases wt_dec (bo) 23 with c_74 | c_74
  · subst c_74
    refine lv_tableIn (off := 181) (tgt := 202) hx hb dX5_begin_21 (by decide) (by decide) rfl (by decide) ?_
    refine lv_aload_n hx hb dX5_begin_202 rfl (lv_at hl 1 rfl) ?_
    refine lv_aload_n hx hb dX5_begin_203 rfl (lv_at hl 2 rfl) ?_
    refine lv_bipush (v := 20) hx hb dX5_begin_204 (by decide) ?_
    refine lv_iload_n hx hb dX5_begin_206 rfl (lv_at hl 4 rfl) ?_
    refine lv_iload hx hb dX5_begin_207 (lv_at hl 0 rfl) ?_
    refine wt_goI (wr := []) (wt_runSZ (As := [.ref ho, .ref tr, .int 20, .int (nI j), .int (nI (d + 1))]) (rest := []) ⟨hx, hb, hml, hown, hts⟩ (c_X5_begin_5 l D cI cZ cH _ _ _ ho aK aH aU T j (d + 1) fK fH fU tr bg tc2_5 gf2_4 20 vz_0 vz_1 vz_2 vz_4 vz_5 vz_6 vz_8 vz_9 (by first | assumption | omega) (by first | assumption | omega) (by first | assumption | omega) (by first | assumption | omega)) (va_cwS 5 hts gX5_begin_X5_begin rfl rfl rfl (by decide +kernel) ⟨Nat.le_of_ble_eq_true rfl, Nat.le_of_ble_eq_true rfl⟩) hK hP hD [0, 1, 2, 3, 4, 5] rfl (by decide) hZ hS hA rfl hl.1 rfl (Nat.le_of_ble_eq_true rfl) dX5_begin_209 ⟨Nat.le_of_ble_eq_true rfl, Nat.le_of_ble_eq_true rfl⟩) hP hD hS hA [0, 1, 2, 3, 4, 5] [] rfl rfl (by decide) (by decide) (fun r_75 w_76 H locs h_77 hP hD hS => ?_)
    obtain ⟨gf2_78, tc2_79, rfl, x_80⟩ := h_77
    have hP : va_P D vwCl [(ho, .inr (0, [vz_0, vz_1, vz_2, .int (nI T), vz_4, vz_5, vz_6, .ref aK, vz_8, vz_9, .ref aH, .ref aU])), (aK, .inl (cI, 6, .inl fK)), (aH, .inl (cI, 6, .inl fH)), (aU, .inl (cI, 6, .inl fU)), (tr, .inr (4, [.ref bg, .int (nI tc2_79)])), (bg, .inl (cI, 16, .inl gf2_78))] H := hP
    have hD : va_D A [(ho, .inr (0, [vz_0, vz_1, vz_2, .int (nI T), vz_4, vz_5, vz_6, .ref aK, vz_8, vz_9, .ref aH, .ref aU])), (aK, .inl (cI, 6, .inl fK)), (aH, .inl (cI, 6, .inl fH)), (aU, .inl (cI, 6, .inl fU)), (tr, .inr (4, [.ref bg, .int (nI tc2_79)])), (bg, .inl (cI, 16, .inl gf2_78))] := hD
    refine lv_aload_n hx hb dX5_begin_212 rfl (lv_at hl 1 rfl) ?_
    refine lv_aload_n hx hb dX5_begin_213 rfl (lv_at hl 2 rfl) ?_
    refine lv_aload_n hx hb dX5_begin_214 rfl (lv_at hl 1 rfl) ?_
    refine lv_iload_n hx hb dX5_begin_215 rfl (lv_at hl 4 rfl) ?_
    refine wt_goI (wr := [(aH, .inl (cI, 6, .inl fH)), (aU, .inl (cI, 6, .inl fU)), (tr, .inr (4, [.ref bg, .int (nI tc2_79)])), (bg, .inl (cI, 16, .inl gf2_78))]) (wt_runSZ (As := [.ref ho, .int (nI j)]) (rest := [.ref tr, .ref ho, .int r_75]) ⟨hx, hb, hml, hown, hts⟩ (c_X5_sizeBody l D cI cZ cH _ _ _ ho aK T j fK vz_0 vz_1 vz_2 vz_4 vz_5 vz_6 vz_8 vz_9 (.ref aH) (.ref aU) (by first | assumption | omega) (by first | assumption | omega)) (va_cwS 2 hts gX5_begin_X5_sizeBody rfl rfl rfl (by decide +kernel) ⟨Nat.le_of_ble_eq_true rfl, Nat.le_of_ble_eq_true rfl⟩) hK hP hD [0, 1] rfl (by decide) hZ hS hA rfl hl.1 rfl (Nat.le_of_ble_eq_true rfl) dX5_begin_216 ⟨Nat.le_of_ble_eq_true rfl, Nat.le_of_ble_eq_true rfl⟩) hP hD hS hA [0, 1] [2, 3, 4, 5] rfl rfl (by decide) (by decide) (fun r_81 w_82 H locs h_83 hP hD hS => ?_)
    obtain rfl := h_83
    have hP : va_P D vwCl [(aH, .inl (cI, 6, .inl fH)), (aU, .inl (cI, 6, .inl fU)), (tr, .inr (4, [.ref bg, .int (nI tc2_79)])), (bg, .inl (cI, 16, .inl gf2_78)), (ho, .inr (0, [vz_0, vz_1, vz_2, .int (nI T), vz_4, vz_5, vz_6, .ref aK, vz_8, vz_9, .ref aH, .ref aU])), (aK, .inl (cI, 6, .inl fK))] H := hP
    have hD : va_D A [(aH, .inl (cI, 6, .inl fH)), (aU, .inl (cI, 6, .inl fU)), (tr, .inr (4, [.ref bg, .int (nI tc2_79)])), (bg, .inl (cI, 16, .inl gf2_78)), (ho, .inr (0, [vz_0, vz_1, vz_2, .int (nI T), vz_4, vz_5, vz_6, .ref aK, vz_8, vz_9, .ref aH, .ref aU])), (aK, .inl (cI, 6, .inl fK))] := hD
    refine lv_iload_n hx hb dX5_begin_219 rfl (lv_at hl 4 rfl) ?_
    refine lv_iload hx hb dX5_begin_220 (lv_at hl 0 rfl) ?_
    refine wt_goI (wr := []) (wt_runSZ (As := [.ref ho, .ref tr, .int r_81, .int (nI j), .int (nI (d + 1))]) (rest := [.int r_75]) ⟨hx, hb, hml, hown, hts⟩ (c_X5_begin_5 l D cI cZ cH _ _ _ ho aK aH aU T j (d + 1) fK fH fU tr bg tc2_79 gf2_78 r_81 vz_0 vz_1 vz_2 vz_4 vz_5 vz_6 vz_8 vz_9 (by first | assumption | omega) (by first | assumption | omega) (by first | assumption | omega) (by first | assumption | omega)) (va_cwS 5 hts gX5_begin_X5_begin rfl rfl rfl (by decide +kernel) ⟨Nat.le_of_ble_eq_true rfl, Nat.le_of_ble_eq_true rfl⟩) hK hP hD [4, 5, 0, 1, 2, 3] rfl (by decide) hZ hS hA rfl hl.1 rfl (Nat.le_of_ble_eq_true rfl) dX5_begin_222 ⟨Nat.le_of_ble_eq_true rfl, Nat.le_of_ble_eq_true rfl⟩) hP hD hS hA [4, 5, 0, 1, 2, 3] [] rfl rfl (by decide) (by decide) (fun r_84 w_85 H locs h_86 hP hD hS => ?_)
    obtain ⟨gf2_87, tc2_88, rfl, x_89⟩ := h_86
    have hP : va_P D vwCl [(ho, .inr (0, [vz_0, vz_1, vz_2, .int (nI T), vz_4, vz_5, vz_6, .ref aK, vz_8, vz_9, .ref aH, .ref aU])), (aK, .inl (cI, 6, .inl fK)), (aH, .inl (cI, 6, .inl fH)), (aU, .inl (cI, 6, .inl fU)), (tr, .inr (4, [.ref bg, .int (nI tc2_88)])), (bg, .inl (cI, 16, .inl gf2_87))] H := hP
    have hD : va_D A [(ho, .inr (0, [vz_0, vz_1, vz_2, .int (nI T), vz_4, vz_5, vz_6, .ref aK, vz_8, vz_9, .ref aH, .ref aU])), (aK, .inl (cI, 6, .inl fK)), (aH, .inl (cI, 6, .inl fH)), (aU, .inl (cI, 6, .inl fU)), (tr, .inr (4, [.ref bg, .int (nI tc2_88)])), (bg, .inl (cI, 16, .inl gf2_87))] := hD
    refine lv_isub hx hb dX5_begin_225 ?_
    refine lv_topi (fun ov_90 _ => ?_)
    have hP9 := hP.sub (ws' := [(ho, .inr (0, [vz_0, vz_1, vz_2, .int (nI T), vz_4, vz_5, vz_6, .ref aK, vz_8, vz_9, .ref aH, .ref aU])), (aK, .inl (cI, 6, .inl fK)), (aH, .inl (cI, 6, .inl fH)), (aU, .inl (cI, 6, .inl fU)), (tr, .inr (4, [.ref bg, .int (nI tc2_88)])), (bg, .inl (cI, 16, .inl gf2_87))]) [0, 1, 2, 3, 4, 5] rfl
    have hD9 := hD.sub (ws' := [(ho, .inr (0, [vz_0, vz_1, vz_2, .int (nI T), vz_4, vz_5, vz_6, .ref aK, vz_8, vz_9, .ref aH, .ref aU])), (aK, .inl (cI, 6, .inl fK)), (aH, .inl (cI, 6, .inl fH)), (aU, .inl (cI, 6, .inl fU)), (tr, .inr (4, [.ref bg, .int (nI tc2_88)])), (bg, .inl (cI, 16, .inl gf2_87))]) [0, 1, 2, 3, 4, 5] (by decide) rfl
    exact wt_iret hx hb hr hlocks hP9 hD9 hS ⟨gf2_87, tc2_88, rfl, (by omega)⟩ dX5_begin_226
  rcases wt_dec (bo) 24 with c_91 | c_91
  · subst c_91
    refine lv_tableIn (off := 206) (tgt := 227) hx hb dX5_begin_21 (by decide) (by decide) rfl (by decide) ?_
    refine lv_aload_n hx hb dX5_begin_227 rfl (lv_at hl 1 rfl) ?_
    refine lv_aload_n hx hb dX5_begin_228 rfl (lv_at hl 2 rfl) ?_
    refine lv_bipush (v := 21) hx hb dX5_begin_229 (by decide) ?_
    refine lv_iload_n hx hb dX5_begin_231 rfl (lv_at hl 4 rfl) ?_
    refine lv_iload hx hb dX5_begin_232 (lv_at hl 0 rfl) ?_
    refine wt_goI (wr := []) (wt_runSZ (As := [.ref ho, .ref tr, .int 21, .int (nI j), .int (nI (d + 1))]) (rest := []) ⟨hx, hb, hml, hown, hts⟩ (c_X5_begin_5 l D cI cZ cH _ _ _ ho aK aH aU T j (d + 1) fK fH fU tr bg tc2_5 gf2_4 21 vz_0 vz_1 vz_2 vz_4 vz_5 vz_6 vz_8 vz_9 (by first | assumption | omega) (by first | assumption | omega) (by first | assumption | omega) (by first | assumption | omega)) (va_cwS 5 hts gX5_begin_X5_begin rfl rfl rfl (by decide +kernel) ⟨Nat.le_of_ble_eq_true rfl, Nat.le_of_ble_eq_true rfl⟩) hK hP hD [0, 1, 2, 3, 4, 5] rfl (by decide) hZ hS hA rfl hl.1 rfl (Nat.le_of_ble_eq_true rfl) dX5_begin_234 ⟨Nat.le_of_ble_eq_true rfl, Nat.le_of_ble_eq_true rfl⟩) hP hD hS hA [0, 1, 2, 3, 4, 5] [] rfl rfl (by decide) (by decide) (fun r_92 w_93 H locs h_94 hP hD hS => ?_)
    obtain ⟨gf2_95, tc2_96, rfl, x_97⟩ := h_94
    have hP : va_P D vwCl [(ho, .inr (0, [vz_0, vz_1, vz_2, .int (nI T), vz_4, vz_5, vz_6, .ref aK, vz_8, vz_9, .ref aH, .ref aU])), (aK, .inl (cI, 6, .inl fK)), (aH, .inl (cI, 6, .inl fH)), (aU, .inl (cI, 6, .inl fU)), (tr, .inr (4, [.ref bg, .int (nI tc2_96)])), (bg, .inl (cI, 16, .inl gf2_95))] H := hP
    have hD : va_D A [(ho, .inr (0, [vz_0, vz_1, vz_2, .int (nI T), vz_4, vz_5, vz_6, .ref aK, vz_8, vz_9, .ref aH, .ref aU])), (aK, .inl (cI, 6, .inl fK)), (aH, .inl (cI, 6, .inl fH)), (aU, .inl (cI, 6, .inl fU)), (tr, .inr (4, [.ref bg, .int (nI tc2_96)])), (bg, .inl (cI, 16, .inl gf2_95))] := hD
    refine lv_iconst (v := 2) hx hb dX5_begin_237 (by decide) ?_
    refine lv_imul hx hb dX5_begin_238 ?_
    refine lv_topi (fun ov_98 _ => ?_)
    have hP9 := hP.sub (ws' := [(ho, .inr (0, [vz_0, vz_1, vz_2, .int (nI T), vz_4, vz_5, vz_6, .ref aK, vz_8, vz_9, .ref aH, .ref aU])), (aK, .inl (cI, 6, .inl fK)), (aH, .inl (cI, 6, .inl fH)), (aU, .inl (cI, 6, .inl fU)), (tr, .inr (4, [.ref bg, .int (nI tc2_96)])), (bg, .inl (cI, 16, .inl gf2_95))]) [0, 1, 2, 3, 4, 5] rfl
    have hD9 := hD.sub (ws' := [(ho, .inr (0, [vz_0, vz_1, vz_2, .int (nI T), vz_4, vz_5, vz_6, .ref aK, vz_8, vz_9, .ref aH, .ref aU])), (aK, .inl (cI, 6, .inl fK)), (aH, .inl (cI, 6, .inl fH)), (aU, .inl (cI, 6, .inl fU)), (tr, .inr (4, [.ref bg, .int (nI tc2_96)])), (bg, .inl (cI, 16, .inl gf2_95))]) [0, 1, 2, 3, 4, 5] (by decide) rfl
    exact wt_iret hx hb hr hlocks hP9 hD9 hS ⟨gf2_95, tc2_96, rfl, (by omega)⟩ dX5_begin_239
  refine lv_tableOut (tgt := 240) hx hb dX5_begin_21 (by have := lv_neT (a := 10) c_8 rfl; have := lv_neT (a := 11) c_10 rfl; have := lv_neT (a := 12) c_27 rfl; have := lv_neT (a := 13) c_35 rfl; have := lv_neT (a := 14) c_43 rfl; have := lv_neT (a := 15) c_51 rfl; have := lv_neT (a := 16) c_52 rfl; have := lv_neT (a := 17) c_53 rfl; have := lv_neT (a := 18) c_54 rfl; have := lv_neT (a := 19) c_55 rfl; have := lv_neT (a := 20) c_56 rfl; have := lv_neT (a := 21) c_57 rfl; have := lv_neT (a := 22) c_66 rfl; have := lv_neT (a := 23) c_74 rfl; have := lv_neT (a := 24) c_91 rfl; omega) (by decide) ?_
  refine lv_iconst (v := 0) hx hb dX5_begin_240 (by decide) ?_
  have hP9 := hP.sub (ws' := [(ho, .inr (0, [vz_0, vz_1, vz_2, .int (nI T), vz_4, vz_5, vz_6, .ref aK, vz_8, vz_9, .ref aH, .ref aU])), (aK, .inl (cI, 6, .inl fK)), (aH, .inl (cI, 6, .inl fH)), (aU, .inl (cI, 6, .inl fU)), (tr, .inr (4, [.ref bg, .int (nI tc2_5)])), (bg, .inl (cI, 16, .inl gf2_4))]) [0, 1, 2, 3, 4, 5] rfl
  have hD9 := hD.sub (ws' := [(ho, .inr (0, [vz_0, vz_1, vz_2, .int (nI T), vz_4, vz_5, vz_6, .ref aK, vz_8, vz_9, .ref aH, .ref aU])), (aK, .inl (cI, 6, .inl fK)), (aH, .inl (cI, 6, .inl fH)), (aU, .inl (cI, 6, .inl fU)), (tr, .inr (4, [.ref bg, .int (nI tc2_5)])), (bg, .inl (cI, 16, .inl gf2_4))]) [0, 1, 2, 3, 4, 5] (by decide) rfl
  exact wt_iret hx hb hr hlocks hP9 hD9 hS ⟨gf2_4, tc2_5, rfl, (by omega)⟩ dX5_begin_241
set_option maxHeartbeats 4000000 in
set_option maxRecDepth 100000 in
theorem c_X5_begin_7 (l : Launch) (D : va_G) (cI cZ cH : ClassId) (ab sb mb : Nat) (ho aK aH aU : Nat) (T j d : Nat) (fK fH fU : Nat → Int32) (tr bg : Nat) (tc : Nat) (gf : Nat → Int32) (bo : Int32) (vz_0 vz_1 vz_2 vz_4 vz_5 vz_6 vz_8 vz_9 : Value) (hT6 : T ≤ 6) (hjT : j < T) (hd : d + 7 = 16) (htc : tc ≤ 16) : wt_MZ (wt_ZS ab sb mb abF sbF mbF) l yX5_begin wsX5_begin ({ frames := 8, cells := 0, slots := 0, locals := 194 } : Room) D (wt_T cI cZ cH) [.ref ho, .ref tr, .int bo, .int (nI j), .int (nI d)] [(ho, .inr (0, [vz_0, vz_1, vz_2, .int (nI T), vz_4, vz_5, vz_6, .ref aK, vz_8, vz_9, .ref aH, .ref aU])), (aK, .inl (cI, 6, .inl fK)), (aH, .inl (cI, 6, .inl fH)), (aU, .inl (cI, 6, .inl fU)), (tr, .inr (4, [.ref bg, .int (nI tc)])), (bg, .inl (cI, 16, .inl gf))] (wt_QI D (fun r w => ∃ (gf2 : Nat → Int32) (tc2 : Nat), w = [(ho, .inr (0, [vz_0, vz_1, vz_2, .int (nI T), vz_4, vz_5, vz_6, .ref aK, vz_8, vz_9, .ref aH, .ref aU])), (aK, .inl (cI, 6, .inl fK)), (aH, .inl (cI, 6, .inl fH)), (aU, .inl (cI, 6, .inl fU)), (tr, .inr (4, [.ref bg, .int (nI tc2)])), (bg, .inl (cI, 16, .inl gf2))] ∧ tc2 ≤ 16)) := by
  refine wt_MZ.ofW (cc := cX5_begin) (maxL := 6) (ret := (some .int)) (by decide) rfl (Nat.le_of_ble_eq_true rfl) ?_
  intro p e s m below meth c A ls hx hb hr hts hown hlocks hml hnm hP hK hD hA hS hl hZ
  have hP : va_P D vwCl [(ho, .inr (0, [vz_0, vz_1, vz_2, .int (nI T), vz_4, vz_5, vz_6, .ref aK, vz_8, vz_9, .ref aH, .ref aU])), (aK, .inl (cI, 6, .inl fK)), (aH, .inl (cI, 6, .inl fH)), (aU, .inl (cI, 6, .inl fU)), (tr, .inr (4, [.ref bg, .int (nI tc)])), (bg, .inl (cI, 16, .inl gf))] s.heap := hP
  have hown : s.vm.findClass RX5 = some m.cls := hown
  have hl : lv_has ls 6 [(0, .ref ho), (1, .ref tr), (2, .int bo), (3, .int (nI j)), (4, .int (nI d))] := hl
  have hi0 : ∀ w ∈ u_ws RX0 TX0 12, w ∈ wsX5_begin := by decide +kernel
  have wf175 := hts (.fieldLink RX5 175 "WarmTubes$House" "up" "[I") (by decide +kernel)
  have wf196 := hts (.fieldLink RX5 196 "WarmTubes$House" "holds" "[I") (by decide +kernel)
  refine lv_iload hx hb dX5_begin_0 (lv_at hl 4 rfl) ?_
  refine lv_bipush (v := 16) hx hb dX5_begin_2 (by decide) ?_
  refine lv_icmp_lt (tgt := 9) hx hb dX5_begin_4 (by decide) (fun _ => ?_) (fun h => absurd (nI_lt (a := d) (b := 16) (by omega) (by omega)) h)
  refine lv_aload_n hx hb dX5_begin_9 rfl (lv_at hl 1 rfl) ?_
  refine lv_iload_n hx hb dX5_begin_10 rfl (lv_at hl 2 rfl) ?_
  refine wt_goV (wr := [(ho, .inr (0, [vz_0, vz_1, vz_2, .int (nI T), vz_4, vz_5, vz_6, .ref aK, vz_8, vz_9, .ref aH, .ref aU])), (aK, .inl (cI, 6, .inl fK)), (aH, .inl (cI, 6, .inl fH)), (aU, .inl (cI, 6, .inl fU))]) (wt_runV (As := [.int bo]) (rest := []) ⟨hx, hb, hml, hown, hts⟩ (c_X4_leave l D cI cZ cH tr bg tc gf bo (by first | assumption | omega)) (cwV 1 hts gX5_begin_X4_leave rfl rfl rfl (by decide +kernel) ⟨Nat.le_of_ble_eq_true rfl, Nat.le_of_ble_eq_true rfl⟩) hK hP hD [4, 5] rfl (by decide) (va_recv hK.1 hP (ci := 4) (q0 := 4) rfl rfl) rfl hl.1 rfl (Nat.le_of_ble_eq_true rfl) dX5_begin_11 ⟨Nat.le_of_ble_eq_true rfl, Nat.le_of_ble_eq_true rfl⟩) hP hD hS hA [4, 5] [0, 1, 2, 3] rfl rfl (by decide) (by decide) (fun w_2 H locs h_3 hP hD hS => ?_)
  obtain ⟨gf2_4, tc2_5, rfl, x_6⟩ := h_3
  have hP : va_P D vwCl [(ho, .inr (0, [vz_0, vz_1, vz_2, .int (nI T), vz_4, vz_5, vz_6, .ref aK, vz_8, vz_9, .ref aH, .ref aU])), (aK, .inl (cI, 6, .inl fK)), (aH, .inl (cI, 6, .inl fH)), (aU, .inl (cI, 6, .inl fU)), (tr, .inr (4, [.ref bg, .int (nI tc2_5)])), (bg, .inl (cI, 16, .inl gf2_4))] H := hP
  have hD : va_D A [(ho, .inr (0, [vz_0, vz_1, vz_2, .int (nI T), vz_4, vz_5, vz_6, .ref aK, vz_8, vz_9, .ref aH, .ref aU])), (aK, .inl (cI, 6, .inl fK)), (aH, .inl (cI, 6, .inl fH)), (aU, .inl (cI, 6, .inl fU)), (tr, .inr (4, [.ref bg, .int (nI tc2_5)])), (bg, .inl (cI, 16, .inl gf2_4))] := hD
  refine lv_iload hx hb dX5_begin_14 (lv_at hl 4 rfl) ?_
  refine lv_iconst (v := 1) hx hb dX5_begin_16 (by decide) ?_
  refine lv_iadd hx hb dX5_begin_17 ?_
  refine wt_top (z := nI (d + 1)) (nI_add d 1) ?_
  refine lv_istore (lv' := [(5, .int (nI (d + 1))), (0, .ref ho), (1, .ref tr), (2, .int bo), (3, .int (nI j)), (4, .int (nI d))]) hx hb dX5_begin_18 hl (by decide) rfl (fun ls hl => ?_)
  refine lv_iload_n hx hb dX5_begin_20 rfl (lv_at hl 3 rfl) ?_
  rcases wt_dec (bo) 10 with c_8 | c_8
  · subst c_8
    refine lv_tableIn (off := 75) (tgt := 96) hx hb dX5_begin_21 (by decide) (by decide) rfl (by decide) ?_
    refine lv_aload_n hx hb dX5_begin_96 rfl (lv_at hl 1 rfl) ?_
    refine va_get (D := D) (ci := 0) (v := .ref aH) (C := RX0) (T := TX0) (N := 12) hx hb hts hi0 hown hK.1 hP 0 rfl rfl 10 (by decide) wf196 (fun _ h9 => h9) rfl dX5_begin_97 ?_
    refine lv_iload_n hx hb dX5_begin_100 rfl (lv_at hl 4 rfl) ?_
    refine va_iald hx hb hK.1 hP 2 0 rfl rfl (vp_in_nI (by omega) (by omega)) dX5_begin_101 ?_
    refine lv_topi (fun ov_9 _ => ?_)
    have hP9 := hP.sub (ws' := [(ho, .inr (0, [vz_0, vz_1, vz_2, .int (nI T), vz_4, vz_5, vz_6, .ref aK, vz_8, vz_9, .ref aH, .ref aU])), (aK, .inl (cI, 6, .inl fK)), (aH, .inl (cI, 6, .inl fH)), (aU, .inl (cI, 6, .inl fU)), (tr, .inr (4, [.ref bg, .int (nI tc2_5)])), (bg, .inl (cI, 16, .inl gf2_4))]) [0, 1, 2, 3, 4, 5] rfl
    have hD9 := hD.sub (ws' := [(ho, .inr (0, [vz_0, vz_1, vz_2, .int (nI T), vz_4, vz_5, vz_6, .ref aK, vz_8, vz_9, .ref aH, .ref aU])), (aK, .inl (cI, 6, .inl fK)), (aH, .inl (cI, 6, .inl fH)), (aU, .inl (cI, 6, .inl fU)), (tr, .inr (4, [.ref bg, .int (nI tc2_5)])), (bg, .inl (cI, 16, .inl gf2_4))]) [0, 1, 2, 3, 4, 5] (by decide) rfl
    exact wt_iret hx hb hr hlocks hP9 hD9 hS ⟨gf2_4, tc2_5, rfl, (by omega)⟩ dX5_begin_102
  rcases wt_dec (bo) 11 with c_10 | c_10
  · subst c_10
    refine lv_tableIn (off := 82) (tgt := 103) hx hb dX5_begin_21 (by decide) (by decide) rfl (by decide) ?_
    refine lv_aload_n hx hb dX5_begin_103 rfl (lv_at hl 1 rfl) ?_
    refine lv_aload_n hx hb dX5_begin_104 rfl (lv_at hl 2 rfl) ?_
    refine lv_bipush (v := 10) hx hb dX5_begin_105 (by decide) ?_
    refine lv_iload_n hx hb dX5_begin_107 rfl (lv_at hl 4 rfl) ?_
    refine lv_iload hx hb dX5_begin_108 (lv_at hl 0 rfl) ?_
    refine wt_goI (wr := []) (wt_runSZ (As := [.ref ho, .ref tr, .int 10, .int (nI j), .int (nI (d + 1))]) (rest := []) ⟨hx, hb, hml, hown, hts⟩ (c_X5_begin_6 l D cI cZ cH _ _ _ ho aK aH aU T j (d + 1) fK fH fU tr bg tc2_5 gf2_4 10 vz_0 vz_1 vz_2 vz_4 vz_5 vz_6 vz_8 vz_9 (by first | assumption | omega) (by first | assumption | omega) (by first | assumption | omega) (by first | assumption | omega)) (va_cwS 5 hts gX5_begin_X5_begin rfl rfl rfl (by decide +kernel) ⟨Nat.le_of_ble_eq_true rfl, Nat.le_of_ble_eq_true rfl⟩) hK hP hD [0, 1, 2, 3, 4, 5] rfl (by decide) hZ hS hA rfl hl.1 rfl (Nat.le_of_ble_eq_true rfl) dX5_begin_110 ⟨Nat.le_of_ble_eq_true rfl, Nat.le_of_ble_eq_true rfl⟩) hP hD hS hA [0, 1, 2, 3, 4, 5] [] rfl rfl (by decide) (by decide) (fun r_11 w_12 H locs h_13 hP hD hS => ?_)
    obtain ⟨gf2_14, tc2_15, rfl, x_16⟩ := h_13
    have hP : va_P D vwCl [(ho, .inr (0, [vz_0, vz_1, vz_2, .int (nI T), vz_4, vz_5, vz_6, .ref aK, vz_8, vz_9, .ref aH, .ref aU])), (aK, .inl (cI, 6, .inl fK)), (aH, .inl (cI, 6, .inl fH)), (aU, .inl (cI, 6, .inl fU)), (tr, .inr (4, [.ref bg, .int (nI tc2_15)])), (bg, .inl (cI, 16, .inl gf2_14))] H := hP
    have hD : va_D A [(ho, .inr (0, [vz_0, vz_1, vz_2, .int (nI T), vz_4, vz_5, vz_6, .ref aK, vz_8, vz_9, .ref aH, .ref aU])), (aK, .inl (cI, 6, .inl fK)), (aH, .inl (cI, 6, .inl fH)), (aU, .inl (cI, 6, .inl fU)), (tr, .inr (4, [.ref bg, .int (nI tc2_15)])), (bg, .inl (cI, 16, .inl gf2_14))] := hD
    refine lv_aload_n hx hb dX5_begin_113 rfl (lv_at hl 1 rfl) ?_
    refine lv_aload_n hx hb dX5_begin_114 rfl (lv_at hl 2 rfl) ?_
    refine lv_aload_n hx hb dX5_begin_115 rfl (lv_at hl 1 rfl) ?_
    refine lv_iload_n hx hb dX5_begin_116 rfl (lv_at hl 4 rfl) ?_
    refine wt_goI (wr := [(aH, .inl (cI, 6, .inl fH)), (aU, .inl (cI, 6, .inl fU)), (tr, .inr (4, [.ref bg, .int (nI tc2_15)])), (bg, .inl (cI, 16, .inl gf2_14))]) (wt_runSZ (As := [.ref ho, .int (nI j)]) (rest := [.ref tr, .ref ho, .int r_11]) ⟨hx, hb, hml, hown, hts⟩ (c_X5_markBody l D cI cZ cH _ _ _ ho aK T j fK vz_0 vz_1 vz_2 vz_4 vz_5 vz_6 vz_8 vz_9 (.ref aH) (.ref aU) (by first | assumption | omega) (by first | assumption | omega)) (va_cwS 2 hts gX5_begin_X5_markBody rfl rfl rfl (by decide +kernel) ⟨Nat.le_of_ble_eq_true rfl, Nat.le_of_ble_eq_true rfl⟩) hK hP hD [0, 1] rfl (by decide) hZ hS hA rfl hl.1 rfl (Nat.le_of_ble_eq_true rfl) dX5_begin_117 ⟨Nat.le_of_ble_eq_true rfl, Nat.le_of_ble_eq_true rfl⟩) hP hD hS hA [0, 1] [2, 3, 4, 5] rfl rfl (by decide) (by decide) (fun r_17 w_18 H locs h_19 hP hD hS => ?_)
    obtain rfl := h_19
    have hP : va_P D vwCl [(aH, .inl (cI, 6, .inl fH)), (aU, .inl (cI, 6, .inl fU)), (tr, .inr (4, [.ref bg, .int (nI tc2_15)])), (bg, .inl (cI, 16, .inl gf2_14)), (ho, .inr (0, [vz_0, vz_1, vz_2, .int (nI T), vz_4, vz_5, vz_6, .ref aK, vz_8, vz_9, .ref aH, .ref aU])), (aK, .inl (cI, 6, .inl fK))] H := hP
    have hD : va_D A [(aH, .inl (cI, 6, .inl fH)), (aU, .inl (cI, 6, .inl fU)), (tr, .inr (4, [.ref bg, .int (nI tc2_15)])), (bg, .inl (cI, 16, .inl gf2_14)), (ho, .inr (0, [vz_0, vz_1, vz_2, .int (nI T), vz_4, vz_5, vz_6, .ref aK, vz_8, vz_9, .ref aH, .ref aU])), (aK, .inl (cI, 6, .inl fK))] := hD
    refine lv_iload_n hx hb dX5_begin_120 rfl (lv_at hl 4 rfl) ?_
    refine lv_iload hx hb dX5_begin_121 (lv_at hl 0 rfl) ?_
    refine wt_goI (wr := []) (wt_runSZ (As := [.ref ho, .ref tr, .int r_17, .int (nI j), .int (nI (d + 1))]) (rest := [.int r_11]) ⟨hx, hb, hml, hown, hts⟩ (c_X5_begin_6 l D cI cZ cH _ _ _ ho aK aH aU T j (d + 1) fK fH fU tr bg tc2_15 gf2_14 r_17 vz_0 vz_1 vz_2 vz_4 vz_5 vz_6 vz_8 vz_9 (by first | assumption | omega) (by first | assumption | omega) (by first | assumption | omega) (by first | assumption | omega)) (va_cwS 5 hts gX5_begin_X5_begin rfl rfl rfl (by decide +kernel) ⟨Nat.le_of_ble_eq_true rfl, Nat.le_of_ble_eq_true rfl⟩) hK hP hD [4, 5, 0, 1, 2, 3] rfl (by decide) hZ hS hA rfl hl.1 rfl (Nat.le_of_ble_eq_true rfl) dX5_begin_123 ⟨Nat.le_of_ble_eq_true rfl, Nat.le_of_ble_eq_true rfl⟩) hP hD hS hA [4, 5, 0, 1, 2, 3] [] rfl rfl (by decide) (by decide) (fun r_20 w_21 H locs h_22 hP hD hS => ?_)
    obtain ⟨gf2_23, tc2_24, rfl, x_25⟩ := h_22
    have hP : va_P D vwCl [(ho, .inr (0, [vz_0, vz_1, vz_2, .int (nI T), vz_4, vz_5, vz_6, .ref aK, vz_8, vz_9, .ref aH, .ref aU])), (aK, .inl (cI, 6, .inl fK)), (aH, .inl (cI, 6, .inl fH)), (aU, .inl (cI, 6, .inl fU)), (tr, .inr (4, [.ref bg, .int (nI tc2_24)])), (bg, .inl (cI, 16, .inl gf2_23))] H := hP
    have hD : va_D A [(ho, .inr (0, [vz_0, vz_1, vz_2, .int (nI T), vz_4, vz_5, vz_6, .ref aK, vz_8, vz_9, .ref aH, .ref aU])), (aK, .inl (cI, 6, .inl fK)), (aH, .inl (cI, 6, .inl fH)), (aU, .inl (cI, 6, .inl fU)), (tr, .inr (4, [.ref bg, .int (nI tc2_24)])), (bg, .inl (cI, 16, .inl gf2_23))] := hD
    refine lv_iadd hx hb dX5_begin_126 ?_
    refine lv_topi (fun ov_26 _ => ?_)
    have hP9 := hP.sub (ws' := [(ho, .inr (0, [vz_0, vz_1, vz_2, .int (nI T), vz_4, vz_5, vz_6, .ref aK, vz_8, vz_9, .ref aH, .ref aU])), (aK, .inl (cI, 6, .inl fK)), (aH, .inl (cI, 6, .inl fH)), (aU, .inl (cI, 6, .inl fU)), (tr, .inr (4, [.ref bg, .int (nI tc2_24)])), (bg, .inl (cI, 16, .inl gf2_23))]) [0, 1, 2, 3, 4, 5] rfl
    have hD9 := hD.sub (ws' := [(ho, .inr (0, [vz_0, vz_1, vz_2, .int (nI T), vz_4, vz_5, vz_6, .ref aK, vz_8, vz_9, .ref aH, .ref aU])), (aK, .inl (cI, 6, .inl fK)), (aH, .inl (cI, 6, .inl fH)), (aU, .inl (cI, 6, .inl fU)), (tr, .inr (4, [.ref bg, .int (nI tc2_24)])), (bg, .inl (cI, 16, .inl gf2_23))]) [0, 1, 2, 3, 4, 5] (by decide) rfl
    exact wt_iret hx hb hr hlocks hP9 hD9 hS ⟨gf2_23, tc2_24, rfl, (by omega)⟩ dX5_begin_127
  rcases wt_dec (bo) 12 with c_27 | c_27
  · subst c_27
    refine lv_tableIn (off := 107) (tgt := 128) hx hb dX5_begin_21 (by decide) (by decide) rfl (by decide) ?_
    refine lv_aload_n hx hb dX5_begin_128 rfl (lv_at hl 1 rfl) ?_
    refine lv_aload_n hx hb dX5_begin_129 rfl (lv_at hl 2 rfl) ?_
    refine lv_bipush (v := 11) hx hb dX5_begin_130 (by decide) ?_
    refine lv_iload_n hx hb dX5_begin_132 rfl (lv_at hl 4 rfl) ?_
    refine lv_iload hx hb dX5_begin_133 (lv_at hl 0 rfl) ?_
    refine wt_goI (wr := []) (wt_runSZ (As := [.ref ho, .ref tr, .int 11, .int (nI j), .int (nI (d + 1))]) (rest := []) ⟨hx, hb, hml, hown, hts⟩ (c_X5_begin_6 l D cI cZ cH _ _ _ ho aK aH aU T j (d + 1) fK fH fU tr bg tc2_5 gf2_4 11 vz_0 vz_1 vz_2 vz_4 vz_5 vz_6 vz_8 vz_9 (by first | assumption | omega) (by first | assumption | omega) (by first | assumption | omega) (by first | assumption | omega)) (va_cwS 5 hts gX5_begin_X5_begin rfl rfl rfl (by decide +kernel) ⟨Nat.le_of_ble_eq_true rfl, Nat.le_of_ble_eq_true rfl⟩) hK hP hD [0, 1, 2, 3, 4, 5] rfl (by decide) hZ hS hA rfl hl.1 rfl (Nat.le_of_ble_eq_true rfl) dX5_begin_135 ⟨Nat.le_of_ble_eq_true rfl, Nat.le_of_ble_eq_true rfl⟩) hP hD hS hA [0, 1, 2, 3, 4, 5] [] rfl rfl (by decide) (by decide) (fun r_28 w_29 H locs h_30 hP hD hS => ?_)
    obtain ⟨gf2_31, tc2_32, rfl, x_33⟩ := h_30
    have hP : va_P D vwCl [(ho, .inr (0, [vz_0, vz_1, vz_2, .int (nI T), vz_4, vz_5, vz_6, .ref aK, vz_8, vz_9, .ref aH, .ref aU])), (aK, .inl (cI, 6, .inl fK)), (aH, .inl (cI, 6, .inl fH)), (aU, .inl (cI, 6, .inl fU)), (tr, .inr (4, [.ref bg, .int (nI tc2_32)])), (bg, .inl (cI, 16, .inl gf2_31))] H := hP
    have hD : va_D A [(ho, .inr (0, [vz_0, vz_1, vz_2, .int (nI T), vz_4, vz_5, vz_6, .ref aK, vz_8, vz_9, .ref aH, .ref aU])), (aK, .inl (cI, 6, .inl fK)), (aH, .inl (cI, 6, .inl fH)), (aU, .inl (cI, 6, .inl fU)), (tr, .inr (4, [.ref bg, .int (nI tc2_32)])), (bg, .inl (cI, 16, .inl gf2_31))] := hD
    refine lv_ineg hx hb dX5_begin_138 ?_
    refine lv_topi (fun ov_34 _ => ?_)
    have hP9 := hP.sub (ws' := [(ho, .inr (0, [vz_0, vz_1, vz_2, .int (nI T), vz_4, vz_5, vz_6, .ref aK, vz_8, vz_9, .ref aH, .ref aU])), (aK, .inl (cI, 6, .inl fK)), (aH, .inl (cI, 6, .inl fH)), (aU, .inl (cI, 6, .inl fU)), (tr, .inr (4, [.ref bg, .int (nI tc2_32)])), (bg, .inl (cI, 16, .inl gf2_31))]) [0, 1, 2, 3, 4, 5] rfl
    have hD9 := hD.sub (ws' := [(ho, .inr (0, [vz_0, vz_1, vz_2, .int (nI T), vz_4, vz_5, vz_6, .ref aK, vz_8, vz_9, .ref aH, .ref aU])), (aK, .inl (cI, 6, .inl fK)), (aH, .inl (cI, 6, .inl fH)), (aU, .inl (cI, 6, .inl fU)), (tr, .inr (4, [.ref bg, .int (nI tc2_32)])), (bg, .inl (cI, 16, .inl gf2_31))]) [0, 1, 2, 3, 4, 5] (by decide) rfl
    exact wt_iret hx hb hr hlocks hP9 hD9 hS ⟨gf2_31, tc2_32, rfl, (by omega)⟩ dX5_begin_139
  rcases wt_dec (bo) 13 with c_35 | c_35
  · subst c_35
    refine lv_tableIn (off := 119) (tgt := 140) hx hb dX5_begin_21 (by decide) (by decide) rfl (by decide) ?_
    refine lv_aload_n hx hb dX5_begin_140 rfl (lv_at hl 1 rfl) ?_
    refine lv_aload_n hx hb dX5_begin_141 rfl (lv_at hl 2 rfl) ?_
    refine lv_bipush (v := 10) hx hb dX5_begin_142 (by decide) ?_
    refine lv_iload_n hx hb dX5_begin_144 rfl (lv_at hl 4 rfl) ?_
    refine lv_iload hx hb dX5_begin_145 (lv_at hl 0 rfl) ?_
    refine wt_goI (wr := []) (wt_runSZ (As := [.ref ho, .ref tr, .int 10, .int (nI j), .int (nI (d + 1))]) (rest := []) ⟨hx, hb, hml, hown, hts⟩ (c_X5_begin_6 l D cI cZ cH _ _ _ ho aK aH aU T j (d + 1) fK fH fU tr bg tc2_5 gf2_4 10 vz_0 vz_1 vz_2 vz_4 vz_5 vz_6 vz_8 vz_9 (by first | assumption | omega) (by first | assumption | omega) (by first | assumption | omega) (by first | assumption | omega)) (va_cwS 5 hts gX5_begin_X5_begin rfl rfl rfl (by decide +kernel) ⟨Nat.le_of_ble_eq_true rfl, Nat.le_of_ble_eq_true rfl⟩) hK hP hD [0, 1, 2, 3, 4, 5] rfl (by decide) hZ hS hA rfl hl.1 rfl (Nat.le_of_ble_eq_true rfl) dX5_begin_147 ⟨Nat.le_of_ble_eq_true rfl, Nat.le_of_ble_eq_true rfl⟩) hP hD hS hA [0, 1, 2, 3, 4, 5] [] rfl rfl (by decide) (by decide) (fun r_36 w_37 H locs h_38 hP hD hS => ?_)
    obtain ⟨gf2_39, tc2_40, rfl, x_41⟩ := h_38
    have hP : va_P D vwCl [(ho, .inr (0, [vz_0, vz_1, vz_2, .int (nI T), vz_4, vz_5, vz_6, .ref aK, vz_8, vz_9, .ref aH, .ref aU])), (aK, .inl (cI, 6, .inl fK)), (aH, .inl (cI, 6, .inl fH)), (aU, .inl (cI, 6, .inl fU)), (tr, .inr (4, [.ref bg, .int (nI tc2_40)])), (bg, .inl (cI, 16, .inl gf2_39))] H := hP
    have hD : va_D A [(ho, .inr (0, [vz_0, vz_1, vz_2, .int (nI T), vz_4, vz_5, vz_6, .ref aK, vz_8, vz_9, .ref aH, .ref aU])), (aK, .inl (cI, 6, .inl fK)), (aH, .inl (cI, 6, .inl fH)), (aU, .inl (cI, 6, .inl fU)), (tr, .inr (4, [.ref bg, .int (nI tc2_40)])), (bg, .inl (cI, 16, .inl gf2_39))] := hD
    refine lv_bipush (v := 100) hx hb dX5_begin_150 (by decide) ?_
    refine lv_isub hx hb dX5_begin_152 ?_
    refine lv_topi (fun ov_42 _ => ?_)
    have hP9 := hP.sub (ws' := [(ho, .inr (0, [vz_0, vz_1, vz_2, .int (nI T), vz_4, vz_5, vz_6, .ref aK, vz_8, vz_9, .ref aH, .ref aU])), (aK, .inl (cI, 6, .inl fK)), (aH, .inl (cI, 6, .inl fH)), (aU, .inl (cI, 6, .inl fU)), (tr, .inr (4, [.ref bg, .int (nI tc2_40)])), (bg, .inl (cI, 16, .inl gf2_39))]) [0, 1, 2, 3, 4, 5] rfl
    have hD9 := hD.sub (ws' := [(ho, .inr (0, [vz_0, vz_1, vz_2, .int (nI T), vz_4, vz_5, vz_6, .ref aK, vz_8, vz_9, .ref aH, .ref aU])), (aK, .inl (cI, 6, .inl fK)), (aH, .inl (cI, 6, .inl fH)), (aU, .inl (cI, 6, .inl fU)), (tr, .inr (4, [.ref bg, .int (nI tc2_40)])), (bg, .inl (cI, 16, .inl gf2_39))]) [0, 1, 2, 3, 4, 5] (by decide) rfl
    exact wt_iret hx hb hr hlocks hP9 hD9 hS ⟨gf2_39, tc2_40, rfl, (by omega)⟩ dX5_begin_153
  rcases wt_dec (bo) 14 with c_43 | c_43
  · subst c_43
    refine lv_tableIn (off := 133) (tgt := 154) hx hb dX5_begin_21 (by decide) (by decide) rfl (by decide) ?_
    refine lv_aload_n hx hb dX5_begin_154 rfl (lv_at hl 1 rfl) ?_
    refine lv_aload_n hx hb dX5_begin_155 rfl (lv_at hl 2 rfl) ?_
    refine lv_bipush (v := 13) hx hb dX5_begin_156 (by decide) ?_
    refine lv_iload_n hx hb dX5_begin_158 rfl (lv_at hl 4 rfl) ?_
    refine lv_iload hx hb dX5_begin_159 (lv_at hl 0 rfl) ?_
    refine wt_goI (wr := []) (wt_runSZ (As := [.ref ho, .ref tr, .int 13, .int (nI j), .int (nI (d + 1))]) (rest := []) ⟨hx, hb, hml, hown, hts⟩ (c_X5_begin_6 l D cI cZ cH _ _ _ ho aK aH aU T j (d + 1) fK fH fU tr bg tc2_5 gf2_4 13 vz_0 vz_1 vz_2 vz_4 vz_5 vz_6 vz_8 vz_9 (by first | assumption | omega) (by first | assumption | omega) (by first | assumption | omega) (by first | assumption | omega)) (va_cwS 5 hts gX5_begin_X5_begin rfl rfl rfl (by decide +kernel) ⟨Nat.le_of_ble_eq_true rfl, Nat.le_of_ble_eq_true rfl⟩) hK hP hD [0, 1, 2, 3, 4, 5] rfl (by decide) hZ hS hA rfl hl.1 rfl (Nat.le_of_ble_eq_true rfl) dX5_begin_161 ⟨Nat.le_of_ble_eq_true rfl, Nat.le_of_ble_eq_true rfl⟩) hP hD hS hA [0, 1, 2, 3, 4, 5] [] rfl rfl (by decide) (by decide) (fun r_44 w_45 H locs h_46 hP hD hS => ?_)
    obtain ⟨gf2_47, tc2_48, rfl, x_49⟩ := h_46
    have hP : va_P D vwCl [(ho, .inr (0, [vz_0, vz_1, vz_2, .int (nI T), vz_4, vz_5, vz_6, .ref aK, vz_8, vz_9, .ref aH, .ref aU])), (aK, .inl (cI, 6, .inl fK)), (aH, .inl (cI, 6, .inl fH)), (aU, .inl (cI, 6, .inl fU)), (tr, .inr (4, [.ref bg, .int (nI tc2_48)])), (bg, .inl (cI, 16, .inl gf2_47))] H := hP
    have hD : va_D A [(ho, .inr (0, [vz_0, vz_1, vz_2, .int (nI T), vz_4, vz_5, vz_6, .ref aK, vz_8, vz_9, .ref aH, .ref aU])), (aK, .inl (cI, 6, .inl fK)), (aH, .inl (cI, 6, .inl fH)), (aU, .inl (cI, 6, .inl fU)), (tr, .inr (4, [.ref bg, .int (nI tc2_48)])), (bg, .inl (cI, 16, .inl gf2_47))] := hD
    refine lv_iconst (v := 2) hx hb dX5_begin_164 (by decide) ?_
    refine lv_imul hx hb dX5_begin_165 ?_
    refine lv_topi (fun ov_50 _ => ?_)
    have hP9 := hP.sub (ws' := [(ho, .inr (0, [vz_0, vz_1, vz_2, .int (nI T), vz_4, vz_5, vz_6, .ref aK, vz_8, vz_9, .ref aH, .ref aU])), (aK, .inl (cI, 6, .inl fK)), (aH, .inl (cI, 6, .inl fH)), (aU, .inl (cI, 6, .inl fU)), (tr, .inr (4, [.ref bg, .int (nI tc2_48)])), (bg, .inl (cI, 16, .inl gf2_47))]) [0, 1, 2, 3, 4, 5] rfl
    have hD9 := hD.sub (ws' := [(ho, .inr (0, [vz_0, vz_1, vz_2, .int (nI T), vz_4, vz_5, vz_6, .ref aK, vz_8, vz_9, .ref aH, .ref aU])), (aK, .inl (cI, 6, .inl fK)), (aH, .inl (cI, 6, .inl fH)), (aU, .inl (cI, 6, .inl fU)), (tr, .inr (4, [.ref bg, .int (nI tc2_48)])), (bg, .inl (cI, 16, .inl gf2_47))]) [0, 1, 2, 3, 4, 5] (by decide) rfl
    exact wt_iret hx hb hr hlocks hP9 hD9 hS ⟨gf2_47, tc2_48, rfl, (by omega)⟩ dX5_begin_166
  rcases wt_dec (bo) 15 with c_51 | c_51
  · subst c_51
    refine lv_tableIn (off := 219) (tgt := 240) hx hb dX5_begin_21 (by decide) (by decide) rfl (by decide) ?_
    refine lv_iconst (v := 0) hx hb dX5_begin_240 (by decide) ?_
    have hP9 := hP.sub (ws' := [(ho, .inr (0, [vz_0, vz_1, vz_2, .int (nI T), vz_4, vz_5, vz_6, .ref aK, vz_8, vz_9, .ref aH, .ref aU])), (aK, .inl (cI, 6, .inl fK)), (aH, .inl (cI, 6, .inl fH)), (aU, .inl (cI, 6, .inl fU)), (tr, .inr (4, [.ref bg, .int (nI tc2_5)])), (bg, .inl (cI, 16, .inl gf2_4))]) [0, 1, 2, 3, 4, 5] rfl
    have hD9 := hD.sub (ws' := [(ho, .inr (0, [vz_0, vz_1, vz_2, .int (nI T), vz_4, vz_5, vz_6, .ref aK, vz_8, vz_9, .ref aH, .ref aU])), (aK, .inl (cI, 6, .inl fK)), (aH, .inl (cI, 6, .inl fH)), (aU, .inl (cI, 6, .inl fU)), (tr, .inr (4, [.ref bg, .int (nI tc2_5)])), (bg, .inl (cI, 16, .inl gf2_4))]) [0, 1, 2, 3, 4, 5] (by decide) rfl
    exact wt_iret hx hb hr hlocks hP9 hD9 hS ⟨gf2_4, tc2_5, rfl, (by omega)⟩ dX5_begin_241
  rcases wt_dec (bo) 16 with c_52 | c_52
  · subst c_52
    refine lv_tableIn (off := 219) (tgt := 240) hx hb dX5_begin_21 (by decide) (by decide) rfl (by decide) ?_
    refine lv_iconst (v := 0) hx hb dX5_begin_240 (by decide) ?_
    have hP9 := hP.sub (ws' := [(ho, .inr (0, [vz_0, vz_1, vz_2, .int (nI T), vz_4, vz_5, vz_6, .ref aK, vz_8, vz_9, .ref aH, .ref aU])), (aK, .inl (cI, 6, .inl fK)), (aH, .inl (cI, 6, .inl fH)), (aU, .inl (cI, 6, .inl fU)), (tr, .inr (4, [.ref bg, .int (nI tc2_5)])), (bg, .inl (cI, 16, .inl gf2_4))]) [0, 1, 2, 3, 4, 5] rfl
    have hD9 := hD.sub (ws' := [(ho, .inr (0, [vz_0, vz_1, vz_2, .int (nI T), vz_4, vz_5, vz_6, .ref aK, vz_8, vz_9, .ref aH, .ref aU])), (aK, .inl (cI, 6, .inl fK)), (aH, .inl (cI, 6, .inl fH)), (aU, .inl (cI, 6, .inl fU)), (tr, .inr (4, [.ref bg, .int (nI tc2_5)])), (bg, .inl (cI, 16, .inl gf2_4))]) [0, 1, 2, 3, 4, 5] (by decide) rfl
    exact wt_iret hx hb hr hlocks hP9 hD9 hS ⟨gf2_4, tc2_5, rfl, (by omega)⟩ dX5_begin_241
  rcases wt_dec (bo) 17 with c_53 | c_53
  · subst c_53
    refine lv_tableIn (off := 219) (tgt := 240) hx hb dX5_begin_21 (by decide) (by decide) rfl (by decide) ?_
    refine lv_iconst (v := 0) hx hb dX5_begin_240 (by decide) ?_
    have hP9 := hP.sub (ws' := [(ho, .inr (0, [vz_0, vz_1, vz_2, .int (nI T), vz_4, vz_5, vz_6, .ref aK, vz_8, vz_9, .ref aH, .ref aU])), (aK, .inl (cI, 6, .inl fK)), (aH, .inl (cI, 6, .inl fH)), (aU, .inl (cI, 6, .inl fU)), (tr, .inr (4, [.ref bg, .int (nI tc2_5)])), (bg, .inl (cI, 16, .inl gf2_4))]) [0, 1, 2, 3, 4, 5] rfl
    have hD9 := hD.sub (ws' := [(ho, .inr (0, [vz_0, vz_1, vz_2, .int (nI T), vz_4, vz_5, vz_6, .ref aK, vz_8, vz_9, .ref aH, .ref aU])), (aK, .inl (cI, 6, .inl fK)), (aH, .inl (cI, 6, .inl fH)), (aU, .inl (cI, 6, .inl fU)), (tr, .inr (4, [.ref bg, .int (nI tc2_5)])), (bg, .inl (cI, 16, .inl gf2_4))]) [0, 1, 2, 3, 4, 5] (by decide) rfl
    exact wt_iret hx hb hr hlocks hP9 hD9 hS ⟨gf2_4, tc2_5, rfl, (by omega)⟩ dX5_begin_241
  rcases wt_dec (bo) 18 with c_54 | c_54
  · subst c_54
    refine lv_tableIn (off := 219) (tgt := 240) hx hb dX5_begin_21 (by decide) (by decide) rfl (by decide) ?_
    refine lv_iconst (v := 0) hx hb dX5_begin_240 (by decide) ?_
    have hP9 := hP.sub (ws' := [(ho, .inr (0, [vz_0, vz_1, vz_2, .int (nI T), vz_4, vz_5, vz_6, .ref aK, vz_8, vz_9, .ref aH, .ref aU])), (aK, .inl (cI, 6, .inl fK)), (aH, .inl (cI, 6, .inl fH)), (aU, .inl (cI, 6, .inl fU)), (tr, .inr (4, [.ref bg, .int (nI tc2_5)])), (bg, .inl (cI, 16, .inl gf2_4))]) [0, 1, 2, 3, 4, 5] rfl
    have hD9 := hD.sub (ws' := [(ho, .inr (0, [vz_0, vz_1, vz_2, .int (nI T), vz_4, vz_5, vz_6, .ref aK, vz_8, vz_9, .ref aH, .ref aU])), (aK, .inl (cI, 6, .inl fK)), (aH, .inl (cI, 6, .inl fH)), (aU, .inl (cI, 6, .inl fU)), (tr, .inr (4, [.ref bg, .int (nI tc2_5)])), (bg, .inl (cI, 16, .inl gf2_4))]) [0, 1, 2, 3, 4, 5] (by decide) rfl
    exact wt_iret hx hb hr hlocks hP9 hD9 hS ⟨gf2_4, tc2_5, rfl, (by omega)⟩ dX5_begin_241
  rcases wt_dec (bo) 19 with c_55 | c_55
  · subst c_55
    refine lv_tableIn (off := 219) (tgt := 240) hx hb dX5_begin_21 (by decide) (by decide) rfl (by decide) ?_
    refine lv_iconst (v := 0) hx hb dX5_begin_240 (by decide) ?_
    have hP9 := hP.sub (ws' := [(ho, .inr (0, [vz_0, vz_1, vz_2, .int (nI T), vz_4, vz_5, vz_6, .ref aK, vz_8, vz_9, .ref aH, .ref aU])), (aK, .inl (cI, 6, .inl fK)), (aH, .inl (cI, 6, .inl fH)), (aU, .inl (cI, 6, .inl fU)), (tr, .inr (4, [.ref bg, .int (nI tc2_5)])), (bg, .inl (cI, 16, .inl gf2_4))]) [0, 1, 2, 3, 4, 5] rfl
    have hD9 := hD.sub (ws' := [(ho, .inr (0, [vz_0, vz_1, vz_2, .int (nI T), vz_4, vz_5, vz_6, .ref aK, vz_8, vz_9, .ref aH, .ref aU])), (aK, .inl (cI, 6, .inl fK)), (aH, .inl (cI, 6, .inl fH)), (aU, .inl (cI, 6, .inl fU)), (tr, .inr (4, [.ref bg, .int (nI tc2_5)])), (bg, .inl (cI, 16, .inl gf2_4))]) [0, 1, 2, 3, 4, 5] (by decide) rfl
    exact wt_iret hx hb hr hlocks hP9 hD9 hS ⟨gf2_4, tc2_5, rfl, (by omega)⟩ dX5_begin_241
  rcases wt_dec (bo) 20 with c_56 | c_56
  · subst c_56
    refine lv_tableIn (off := 146) (tgt := 167) hx hb dX5_begin_21 (by decide) (by decide) rfl (by decide) ?_
    refine lv_iload_n hx hb dX5_begin_167 rfl (lv_at hl 4 rfl) ?_
    have hP9 := hP.sub (ws' := [(ho, .inr (0, [vz_0, vz_1, vz_2, .int (nI T), vz_4, vz_5, vz_6, .ref aK, vz_8, vz_9, .ref aH, .ref aU])), (aK, .inl (cI, 6, .inl fK)), (aH, .inl (cI, 6, .inl fH)), (aU, .inl (cI, 6, .inl fU)), (tr, .inr (4, [.ref bg, .int (nI tc2_5)])), (bg, .inl (cI, 16, .inl gf2_4))]) [0, 1, 2, 3, 4, 5] rfl
    have hD9 := hD.sub (ws' := [(ho, .inr (0, [vz_0, vz_1, vz_2, .int (nI T), vz_4, vz_5, vz_6, .ref aK, vz_8, vz_9, .ref aH, .ref aU])), (aK, .inl (cI, 6, .inl fK)), (aH, .inl (cI, 6, .inl fH)), (aU, .inl (cI, 6, .inl fU)), (tr, .inr (4, [.ref bg, .int (nI tc2_5)])), (bg, .inl (cI, 16, .inl gf2_4))]) [0, 1, 2, 3, 4, 5] (by decide) rfl
    exact wt_iret hx hb hr hlocks hP9 hD9 hS ⟨gf2_4, tc2_5, rfl, (by omega)⟩ dX5_begin_168
  rcases wt_dec (bo) 21 with c_57 | c_57
  · subst c_57
    refine lv_tableIn (off := 148) (tgt := 169) hx hb dX5_begin_21 (by decide) (by decide) rfl (by decide) ?_
    refine lv_aload_n hx hb dX5_begin_169 rfl (lv_at hl 1 rfl) ?_
    refine lv_aload_n hx hb dX5_begin_170 rfl (lv_at hl 2 rfl) ?_
    refine lv_bipush (v := 20) hx hb dX5_begin_171 (by decide) ?_
    refine lv_iload_n hx hb dX5_begin_173 rfl (lv_at hl 4 rfl) ?_
    refine lv_iload hx hb dX5_begin_174 (lv_at hl 0 rfl) ?_
    refine wt_goI (wr := []) (wt_runSZ (As := [.ref ho, .ref tr, .int 20, .int (nI j), .int (nI (d + 1))]) (rest := []) ⟨hx, hb, hml, hown, hts⟩ (c_X5_begin_6 l D cI cZ cH _ _ _ ho aK aH aU T j (d + 1) fK fH fU tr bg tc2_5 gf2_4 20 vz_0 vz_1 vz_2 vz_4 vz_5 vz_6 vz_8 vz_9 (by first | assumption | omega) (by first | assumption | omega) (by first | assumption | omega) (by first | assumption | omega)) (va_cwS 5 hts gX5_begin_X5_begin rfl rfl rfl (by decide +kernel) ⟨Nat.le_of_ble_eq_true rfl, Nat.le_of_ble_eq_true rfl⟩) hK hP hD [0, 1, 2, 3, 4, 5] rfl (by decide) hZ hS hA rfl hl.1 rfl (Nat.le_of_ble_eq_true rfl) dX5_begin_176 ⟨Nat.le_of_ble_eq_true rfl, Nat.le_of_ble_eq_true rfl⟩) hP hD hS hA [0, 1, 2, 3, 4, 5] [] rfl rfl (by decide) (by decide) (fun r_58 w_59 H locs h_60 hP hD hS => ?_)
    obtain ⟨gf2_61, tc2_62, rfl, x_63⟩ := h_60
    have hP : va_P D vwCl [(ho, .inr (0, [vz_0, vz_1, vz_2, .int (nI T), vz_4, vz_5, vz_6, .ref aK, vz_8, vz_9, .ref aH, .ref aU])), (aK, .inl (cI, 6, .inl fK)), (aH, .inl (cI, 6, .inl fH)), (aU, .inl (cI, 6, .inl fU)), (tr, .inr (4, [.ref bg, .int (nI tc2_62)])), (bg, .inl (cI, 16, .inl gf2_61))] H := hP
    have hD : va_D A [(ho, .inr (0, [vz_0, vz_1, vz_2, .int (nI T), vz_4, vz_5, vz_6, .ref aK, vz_8, vz_9, .ref aH, .ref aU])), (aK, .inl (cI, 6, .inl fK)), (aH, .inl (cI, 6, .inl fH)), (aU, .inl (cI, 6, .inl fU)), (tr, .inr (4, [.ref bg, .int (nI tc2_62)])), (bg, .inl (cI, 16, .inl gf2_61))] := hD
    refine lv_aload_n hx hb dX5_begin_179 rfl (lv_at hl 1 rfl) ?_
    refine va_get (D := D) (ci := 0) (v := .ref aU) (C := RX0) (T := TX0) (N := 12) hx hb hts hi0 hown hK.1 hP 0 rfl rfl 11 (by decide) wf175 (fun _ h9 => h9) rfl dX5_begin_180 ?_
    refine lv_iload_n hx hb dX5_begin_183 rfl (lv_at hl 4 rfl) ?_
    refine va_iald hx hb hK.1 hP 3 0 rfl rfl (vp_in_nI (by omega) (by omega)) dX5_begin_184 ?_
    refine lv_topi (fun ov_64 _ => ?_)
    refine lv_iadd hx hb dX5_begin_185 ?_
    refine lv_topi (fun ov_65 _ => ?_)
    have hP9 := hP.sub (ws' := [(ho, .inr (0, [vz_0, vz_1, vz_2, .int (nI T), vz_4, vz_5, vz_6, .ref aK, vz_8, vz_9, .ref aH, .ref aU])), (aK, .inl (cI, 6, .inl fK)), (aH, .inl (cI, 6, .inl fH)), (aU, .inl (cI, 6, .inl fU)), (tr, .inr (4, [.ref bg, .int (nI tc2_62)])), (bg, .inl (cI, 16, .inl gf2_61))]) [0, 1, 2, 3, 4, 5] rfl
    have hD9 := hD.sub (ws' := [(ho, .inr (0, [vz_0, vz_1, vz_2, .int (nI T), vz_4, vz_5, vz_6, .ref aK, vz_8, vz_9, .ref aH, .ref aU])), (aK, .inl (cI, 6, .inl fK)), (aH, .inl (cI, 6, .inl fH)), (aU, .inl (cI, 6, .inl fU)), (tr, .inr (4, [.ref bg, .int (nI tc2_62)])), (bg, .inl (cI, 16, .inl gf2_61))]) [0, 1, 2, 3, 4, 5] (by decide) rfl
    exact wt_iret hx hb hr hlocks hP9 hD9 hS ⟨gf2_61, tc2_62, rfl, (by omega)⟩ dX5_begin_186
  rcases wt_dec (bo) 22 with c_66 | c_66
  · subst c_66
    refine lv_tableIn (off := 166) (tgt := 187) hx hb dX5_begin_21 (by decide) (by decide) rfl (by decide) ?_
    refine lv_aload_n hx hb dX5_begin_187 rfl (lv_at hl 1 rfl) ?_
    refine lv_aload_n hx hb dX5_begin_188 rfl (lv_at hl 2 rfl) ?_
    refine lv_bipush (v := 21) hx hb dX5_begin_189 (by decide) ?_
    refine lv_iload_n hx hb dX5_begin_191 rfl (lv_at hl 4 rfl) ?_
    refine lv_iload hx hb dX5_begin_192 (lv_at hl 0 rfl) ?_
    refine wt_goI (wr := []) (wt_runSZ (As := [.ref ho, .ref tr, .int 21, .int (nI j), .int (nI (d + 1))]) (rest := []) ⟨hx, hb, hml, hown, hts⟩ (c_X5_begin_6 l D cI cZ cH _ _ _ ho aK aH aU T j (d + 1) fK fH fU tr bg tc2_5 gf2_4 21 vz_0 vz_1 vz_2 vz_4 vz_5 vz_6 vz_8 vz_9 (by first | assumption | omega) (by first | assumption | omega) (by first | assumption | omega) (by first | assumption | omega)) (va_cwS 5 hts gX5_begin_X5_begin rfl rfl rfl (by decide +kernel) ⟨Nat.le_of_ble_eq_true rfl, Nat.le_of_ble_eq_true rfl⟩) hK hP hD [0, 1, 2, 3, 4, 5] rfl (by decide) hZ hS hA rfl hl.1 rfl (Nat.le_of_ble_eq_true rfl) dX5_begin_194 ⟨Nat.le_of_ble_eq_true rfl, Nat.le_of_ble_eq_true rfl⟩) hP hD hS hA [0, 1, 2, 3, 4, 5] [] rfl rfl (by decide) (by decide) (fun r_67 w_68 H locs h_69 hP hD hS => ?_)
    obtain ⟨gf2_70, tc2_71, rfl, x_72⟩ := h_69
    have hP : va_P D vwCl [(ho, .inr (0, [vz_0, vz_1, vz_2, .int (nI T), vz_4, vz_5, vz_6, .ref aK, vz_8, vz_9, .ref aH, .ref aU])), (aK, .inl (cI, 6, .inl fK)), (aH, .inl (cI, 6, .inl fH)), (aU, .inl (cI, 6, .inl fU)), (tr, .inr (4, [.ref bg, .int (nI tc2_71)])), (bg, .inl (cI, 16, .inl gf2_70))] H := hP
    have hD : va_D A [(ho, .inr (0, [vz_0, vz_1, vz_2, .int (nI T), vz_4, vz_5, vz_6, .ref aK, vz_8, vz_9, .ref aH, .ref aU])), (aK, .inl (cI, 6, .inl fK)), (aH, .inl (cI, 6, .inl fH)), (aU, .inl (cI, 6, .inl fU)), (tr, .inr (4, [.ref bg, .int (nI tc2_71)])), (bg, .inl (cI, 16, .inl gf2_70))] := hD
    refine lv_sipush (v := 1000) hx hb dX5_begin_197 (by decide) ?_
    refine lv_isub hx hb dX5_begin_200 ?_
    refine lv_topi (fun ov_73 _ => ?_)
    have hP9 := hP.sub (ws' := [(ho, .inr (0, [vz_0, vz_1, vz_2, .int (nI T), vz_4, vz_5, vz_6, .ref aK, vz_8, vz_9, .ref aH, .ref aU])), (aK, .inl (cI, 6, .inl fK)), (aH, .inl (cI, 6, .inl fH)), (aU, .inl (cI, 6, .inl fU)), (tr, .inr (4, [.ref bg, .int (nI tc2_71)])), (bg, .inl (cI, 16, .inl gf2_70))]) [0, 1, 2, 3, 4, 5] rfl
    have hD9 := hD.sub (ws' := [(ho, .inr (0, [vz_0, vz_1, vz_2, .int (nI T), vz_4, vz_5, vz_6, .ref aK, vz_8, vz_9, .ref aH, .ref aU])), (aK, .inl (cI, 6, .inl fK)), (aH, .inl (cI, 6, .inl fH)), (aU, .inl (cI, 6, .inl fU)), (tr, .inr (4, [.ref bg, .int (nI tc2_71)])), (bg, .inl (cI, 16, .inl gf2_70))]) [0, 1, 2, 3, 4, 5] (by decide) rfl
    exact wt_iret hx hb hr hlocks hP9 hD9 hS ⟨gf2_70, tc2_71, rfl, (by omega)⟩ dX5_begin_201
  rcases wt_dec (bo) 23 with c_74 | c_74
  · subst c_74
    refine lv_tableIn (off := 181) (tgt := 202) hx hb dX5_begin_21 (by decide) (by decide) rfl (by decide) ?_
    refine lv_aload_n hx hb dX5_begin_202 rfl (lv_at hl 1 rfl) ?_
    refine lv_aload_n hx hb dX5_begin_203 rfl (lv_at hl 2 rfl) ?_
    refine lv_bipush (v := 20) hx hb dX5_begin_204 (by decide) ?_
    refine lv_iload_n hx hb dX5_begin_206 rfl (lv_at hl 4 rfl) ?_
    refine lv_iload hx hb dX5_begin_207 (lv_at hl 0 rfl) ?_
    refine wt_goI (wr := []) (wt_runSZ (As := [.ref ho, .ref tr, .int 20, .int (nI j), .int (nI (d + 1))]) (rest := []) ⟨hx, hb, hml, hown, hts⟩ (c_X5_begin_6 l D cI cZ cH _ _ _ ho aK aH aU T j (d + 1) fK fH fU tr bg tc2_5 gf2_4 20 vz_0 vz_1 vz_2 vz_4 vz_5 vz_6 vz_8 vz_9 (by first | assumption | omega) (by first | assumption | omega) (by first | assumption | omega) (by first | assumption | omega)) (va_cwS 5 hts gX5_begin_X5_begin rfl rfl rfl (by decide +kernel) ⟨Nat.le_of_ble_eq_true rfl, Nat.le_of_ble_eq_true rfl⟩) hK hP hD [0, 1, 2, 3, 4, 5] rfl (by decide) hZ hS hA rfl hl.1 rfl (Nat.le_of_ble_eq_true rfl) dX5_begin_209 ⟨Nat.le_of_ble_eq_true rfl, Nat.le_of_ble_eq_true rfl⟩) hP hD hS hA [0, 1, 2, 3, 4, 5] [] rfl rfl (by decide) (by decide) (fun r_75 w_76 H locs h_77 hP hD hS => ?_)
    obtain ⟨gf2_78, tc2_79, rfl, x_80⟩ := h_77
    have hP : va_P D vwCl [(ho, .inr (0, [vz_0, vz_1, vz_2, .int (nI T), vz_4, vz_5, vz_6, .ref aK, vz_8, vz_9, .ref aH, .ref aU])), (aK, .inl (cI, 6, .inl fK)), (aH, .inl (cI, 6, .inl fH)), (aU, .inl (cI, 6, .inl fU)), (tr, .inr (4, [.ref bg, .int (nI tc2_79)])), (bg, .inl (cI, 16, .inl gf2_78))] H := hP
    have hD : va_D A [(ho, .inr (0, [vz_0, vz_1, vz_2, .int (nI T), vz_4, vz_5, vz_6, .ref aK, vz_8, vz_9, .ref aH, .ref aU])), (aK, .inl (cI, 6, .inl fK)), (aH, .inl (cI, 6, .inl fH)), (aU, .inl (cI, 6, .inl fU)), (tr, .inr (4, [.ref bg, .int (nI tc2_79)])), (bg, .inl (cI, 16, .inl gf2_78))] := hD
    refine lv_aload_n hx hb dX5_begin_212 rfl (lv_at hl 1 rfl) ?_
    refine lv_aload_n hx hb dX5_begin_213 rfl (lv_at hl 2 rfl) ?_
    refine lv_aload_n hx hb dX5_begin_214 rfl (lv_at hl 1 rfl) ?_
    refine lv_iload_n hx hb dX5_begin_215 rfl (lv_at hl 4 rfl) ?_
    refine wt_goI (wr := [(aH, .inl (cI, 6, .inl fH)), (aU, .inl (cI, 6, .inl fU)), (tr, .inr (4, [.ref bg, .int (nI tc2_79)])), (bg, .inl (cI, 16, .inl gf2_78))]) (wt_runSZ (As := [.ref ho, .int (nI j)]) (rest := [.ref tr, .ref ho, .int r_75]) ⟨hx, hb, hml, hown, hts⟩ (c_X5_sizeBody l D cI cZ cH _ _ _ ho aK T j fK vz_0 vz_1 vz_2 vz_4 vz_5 vz_6 vz_8 vz_9 (.ref aH) (.ref aU) (by first | assumption | omega) (by first | assumption | omega)) (va_cwS 2 hts gX5_begin_X5_sizeBody rfl rfl rfl (by decide +kernel) ⟨Nat.le_of_ble_eq_true rfl, Nat.le_of_ble_eq_true rfl⟩) hK hP hD [0, 1] rfl (by decide) hZ hS hA rfl hl.1 rfl (Nat.le_of_ble_eq_true rfl) dX5_begin_216 ⟨Nat.le_of_ble_eq_true rfl, Nat.le_of_ble_eq_true rfl⟩) hP hD hS hA [0, 1] [2, 3, 4, 5] rfl rfl (by decide) (by decide) (fun r_81 w_82 H locs h_83 hP hD hS => ?_)
    obtain rfl := h_83
    have hP : va_P D vwCl [(aH, .inl (cI, 6, .inl fH)), (aU, .inl (cI, 6, .inl fU)), (tr, .inr (4, [.ref bg, .int (nI tc2_79)])), (bg, .inl (cI, 16, .inl gf2_78)), (ho, .inr (0, [vz_0, vz_1, vz_2, .int (nI T), vz_4, vz_5, vz_6, .ref aK, vz_8, vz_9, .ref aH, .ref aU])), (aK, .inl (cI, 6, .inl fK))] H := hP
    have hD : va_D A [(aH, .inl (cI, 6, .inl fH)), (aU, .inl (cI, 6, .inl fU)), (tr, .inr (4, [.ref bg, .int (nI tc2_79)])), (bg, .inl (cI, 16, .inl gf2_78)), (ho, .inr (0, [vz_0, vz_1, vz_2, .int (nI T), vz_4, vz_5, vz_6, .ref aK, vz_8, vz_9, .ref aH, .ref aU])), (aK, .inl (cI, 6, .inl fK))] := hD
    refine lv_iload_n hx hb dX5_begin_219 rfl (lv_at hl 4 rfl) ?_
    refine lv_iload hx hb dX5_begin_220 (lv_at hl 0 rfl) ?_
    refine wt_goI (wr := []) (wt_runSZ (As := [.ref ho, .ref tr, .int r_81, .int (nI j), .int (nI (d + 1))]) (rest := [.int r_75]) ⟨hx, hb, hml, hown, hts⟩ (c_X5_begin_6 l D cI cZ cH _ _ _ ho aK aH aU T j (d + 1) fK fH fU tr bg tc2_79 gf2_78 r_81 vz_0 vz_1 vz_2 vz_4 vz_5 vz_6 vz_8 vz_9 (by first | assumption | omega) (by first | assumption | omega) (by first | assumption | omega) (by first | assumption | omega)) (va_cwS 5 hts gX5_begin_X5_begin rfl rfl rfl (by decide +kernel) ⟨Nat.le_of_ble_eq_true rfl, Nat.le_of_ble_eq_true rfl⟩) hK hP hD [4, 5, 0, 1, 2, 3] rfl (by decide) hZ hS hA rfl hl.1 rfl (Nat.le_of_ble_eq_true rfl) dX5_begin_222 ⟨Nat.le_of_ble_eq_true rfl, Nat.le_of_ble_eq_true rfl⟩) hP hD hS hA [4, 5, 0, 1, 2, 3] [] rfl rfl (by decide) (by decide) (fun r_84 w_85 H locs h_86 hP hD hS => ?_)
    obtain ⟨gf2_87, tc2_88, rfl, x_89⟩ := h_86
    have hP : va_P D vwCl [(ho, .inr (0, [vz_0, vz_1, vz_2, .int (nI T), vz_4, vz_5, vz_6, .ref aK, vz_8, vz_9, .ref aH, .ref aU])), (aK, .inl (cI, 6, .inl fK)), (aH, .inl (cI, 6, .inl fH)), (aU, .inl (cI, 6, .inl fU)), (tr, .inr (4, [.ref bg, .int (nI tc2_88)])), (bg, .inl (cI, 16, .inl gf2_87))] H := hP
    have hD : va_D A [(ho, .inr (0, [vz_0, vz_1, vz_2, .int (nI T), vz_4, vz_5, vz_6, .ref aK, vz_8, vz_9, .ref aH, .ref aU])), (aK, .inl (cI, 6, .inl fK)), (aH, .inl (cI, 6, .inl fH)), (aU, .inl (cI, 6, .inl fU)), (tr, .inr (4, [.ref bg, .int (nI tc2_88)])), (bg, .inl (cI, 16, .inl gf2_87))] := hD
    refine lv_isub hx hb dX5_begin_225 ?_
    refine lv_topi (fun ov_90 _ => ?_)
    have hP9 := hP.sub (ws' := [(ho, .inr (0, [vz_0, vz_1, vz_2, .int (nI T), vz_4, vz_5, vz_6, .ref aK, vz_8, vz_9, .ref aH, .ref aU])), (aK, .inl (cI, 6, .inl fK)), (aH, .inl (cI, 6, .inl fH)), (aU, .inl (cI, 6, .inl fU)), (tr, .inr (4, [.ref bg, .int (nI tc2_88)])), (bg, .inl (cI, 16, .inl gf2_87))]) [0, 1, 2, 3, 4, 5] rfl
    have hD9 := hD.sub (ws' := [(ho, .inr (0, [vz_0, vz_1, vz_2, .int (nI T), vz_4, vz_5, vz_6, .ref aK, vz_8, vz_9, .ref aH, .ref aU])), (aK, .inl (cI, 6, .inl fK)), (aH, .inl (cI, 6, .inl fH)), (aU, .inl (cI, 6, .inl fU)), (tr, .inr (4, [.ref bg, .int (nI tc2_88)])), (bg, .inl (cI, 16, .inl gf2_87))]) [0, 1, 2, 3, 4, 5] (by decide) rfl
    exact wt_iret hx hb hr hlocks hP9 hD9 hS ⟨gf2_87, tc2_88, rfl, (by omega)⟩ dX5_begin_226
  rcases wt_dec (bo) 24 with c_91 | c_91
  · subst c_91
    refine lv_tableIn (off := 206) (tgt := 227) hx hb dX5_begin_21 (by decide) (by decide) rfl (by decide) ?_
    refine lv_aload_n hx hb dX5_begin_227 rfl (lv_at hl 1 rfl) ?_
    refine lv_aload_n hx hb dX5_begin_228 rfl (lv_at hl 2 rfl) ?_
    refine lv_bipush (v := 21) hx hb dX5_begin_229 (by decide) ?_
    refine lv_iload_n hx hb dX5_begin_231 rfl (lv_at hl 4 rfl) ?_
    refine lv_iload hx hb dX5_begin_232 (lv_at hl 0 rfl) ?_
    refine wt_goI (wr := []) (wt_runSZ (As := [.ref ho, .ref tr, .int 21, .int (nI j), .int (nI (d + 1))]) (rest := []) ⟨hx, hb, hml, hown, hts⟩ (c_X5_begin_6 l D cI cZ cH _ _ _ ho aK aH aU T j (d + 1) fK fH fU tr bg tc2_5 gf2_4 21 vz_0 vz_1 vz_2 vz_4 vz_5 vz_6 vz_8 vz_9 (by first | assumption | omega) (by first | assumption | omega) (by first | assumption | omega) (by first | assumption | omega)) (va_cwS 5 hts gX5_begin_X5_begin rfl rfl rfl (by decide +kernel) ⟨Nat.le_of_ble_eq_true rfl, Nat.le_of_ble_eq_true rfl⟩) hK hP hD [0, 1, 2, 3, 4, 5] rfl (by decide) hZ hS hA rfl hl.1 rfl (Nat.le_of_ble_eq_true rfl) dX5_begin_234 ⟨Nat.le_of_ble_eq_true rfl, Nat.le_of_ble_eq_true rfl⟩) hP hD hS hA [0, 1, 2, 3, 4, 5] [] rfl rfl (by decide) (by decide) (fun r_92 w_93 H locs h_94 hP hD hS => ?_)
    obtain ⟨gf2_95, tc2_96, rfl, x_97⟩ := h_94
    have hP : va_P D vwCl [(ho, .inr (0, [vz_0, vz_1, vz_2, .int (nI T), vz_4, vz_5, vz_6, .ref aK, vz_8, vz_9, .ref aH, .ref aU])), (aK, .inl (cI, 6, .inl fK)), (aH, .inl (cI, 6, .inl fH)), (aU, .inl (cI, 6, .inl fU)), (tr, .inr (4, [.ref bg, .int (nI tc2_96)])), (bg, .inl (cI, 16, .inl gf2_95))] H := hP
    have hD : va_D A [(ho, .inr (0, [vz_0, vz_1, vz_2, .int (nI T), vz_4, vz_5, vz_6, .ref aK, vz_8, vz_9, .ref aH, .ref aU])), (aK, .inl (cI, 6, .inl fK)), (aH, .inl (cI, 6, .inl fH)), (aU, .inl (cI, 6, .inl fU)), (tr, .inr (4, [.ref bg, .int (nI tc2_96)])), (bg, .inl (cI, 16, .inl gf2_95))] := hD
    refine lv_iconst (v := 2) hx hb dX5_begin_237 (by decide) ?_
    refine lv_imul hx hb dX5_begin_238 ?_
    refine lv_topi (fun ov_98 _ => ?_)
    have hP9 := hP.sub (ws' := [(ho, .inr (0, [vz_0, vz_1, vz_2, .int (nI T), vz_4, vz_5, vz_6, .ref aK, vz_8, vz_9, .ref aH, .ref aU])), (aK, .inl (cI, 6, .inl fK)), (aH, .inl (cI, 6, .inl fH)), (aU, .inl (cI, 6, .inl fU)), (tr, .inr (4, [.ref bg, .int (nI tc2_96)])), (bg, .inl (cI, 16, .inl gf2_95))]) [0, 1, 2, 3, 4, 5] rfl
    have hD9 := hD.sub (ws' := [(ho, .inr (0, [vz_0, vz_1, vz_2, .int (nI T), vz_4, vz_5, vz_6, .ref aK, vz_8, vz_9, .ref aH, .ref aU])), (aK, .inl (cI, 6, .inl fK)), (aH, .inl (cI, 6, .inl fH)), (aU, .inl (cI, 6, .inl fU)), (tr, .inr (4, [.ref bg, .int (nI tc2_96)])), (bg, .inl (cI, 16, .inl gf2_95))]) [0, 1, 2, 3, 4, 5] (by decide) rfl
    exact wt_iret hx hb hr hlocks hP9 hD9 hS ⟨gf2_95, tc2_96, rfl, (by omega)⟩ dX5_begin_239
  refine lv_tableOut (tgt := 240) hx hb dX5_begin_21 (by have := lv_neT (a := 10) c_8 rfl; have := lv_neT (a := 11) c_10 rfl; have := lv_neT (a := 12) c_27 rfl; have := lv_neT (a := 13) c_35 rfl; have := lv_neT (a := 14) c_43 rfl; have := lv_neT (a := 15) c_51 rfl; have := lv_neT (a := 16) c_52 rfl; have := lv_neT (a := 17) c_53 rfl; have := lv_neT (a := 18) c_54 rfl; have := lv_neT (a := 19) c_55 rfl; have := lv_neT (a := 20) c_56 rfl; have := lv_neT (a := 21) c_57 rfl; have := lv_neT (a := 22) c_66 rfl; have := lv_neT (a := 23) c_74 rfl; have := lv_neT (a := 24) c_91 rfl; omega) (by decide) ?_
  refine lv_iconst (v := 0) hx hb dX5_begin_240 (by decide) ?_
  have hP9 := hP.sub (ws' := [(ho, .inr (0, [vz_0, vz_1, vz_2, .int (nI T), vz_4, vz_5, vz_6, .ref aK, vz_8, vz_9, .ref aH, .ref aU])), (aK, .inl (cI, 6, .inl fK)), (aH, .inl (cI, 6, .inl fH)), (aU, .inl (cI, 6, .inl fU)), (tr, .inr (4, [.ref bg, .int (nI tc2_5)])), (bg, .inl (cI, 16, .inl gf2_4))]) [0, 1, 2, 3, 4, 5] rfl
  have hD9 := hD.sub (ws' := [(ho, .inr (0, [vz_0, vz_1, vz_2, .int (nI T), vz_4, vz_5, vz_6, .ref aK, vz_8, vz_9, .ref aH, .ref aU])), (aK, .inl (cI, 6, .inl fK)), (aH, .inl (cI, 6, .inl fH)), (aU, .inl (cI, 6, .inl fU)), (tr, .inr (4, [.ref bg, .int (nI tc2_5)])), (bg, .inl (cI, 16, .inl gf2_4))]) [0, 1, 2, 3, 4, 5] (by decide) rfl
  exact wt_iret hx hb hr hlocks hP9 hD9 hS ⟨gf2_4, tc2_5, rfl, (by omega)⟩ dX5_begin_241
set_option maxHeartbeats 4000000 in
set_option maxRecDepth 100000 in
theorem c_X5_begin_8 (l : Launch) (D : va_G) (cI cZ cH : ClassId) (ab sb mb : Nat) (ho aK aH aU : Nat) (T j d : Nat) (fK fH fU : Nat → Int32) (tr bg : Nat) (tc : Nat) (gf : Nat → Int32) (bo : Int32) (vz_0 vz_1 vz_2 vz_4 vz_5 vz_6 vz_8 vz_9 : Value) (hT6 : T ≤ 6) (hjT : j < T) (hd : d + 8 = 16) (htc : tc ≤ 16) : wt_MZ (wt_ZS ab sb mb abF sbF mbF) l yX5_begin wsX5_begin ({ frames := 9, cells := 0, slots := 0, locals := 219 } : Room) D (wt_T cI cZ cH) [.ref ho, .ref tr, .int bo, .int (nI j), .int (nI d)] [(ho, .inr (0, [vz_0, vz_1, vz_2, .int (nI T), vz_4, vz_5, vz_6, .ref aK, vz_8, vz_9, .ref aH, .ref aU])), (aK, .inl (cI, 6, .inl fK)), (aH, .inl (cI, 6, .inl fH)), (aU, .inl (cI, 6, .inl fU)), (tr, .inr (4, [.ref bg, .int (nI tc)])), (bg, .inl (cI, 16, .inl gf))] (wt_QI D (fun r w => ∃ (gf2 : Nat → Int32) (tc2 : Nat), w = [(ho, .inr (0, [vz_0, vz_1, vz_2, .int (nI T), vz_4, vz_5, vz_6, .ref aK, vz_8, vz_9, .ref aH, .ref aU])), (aK, .inl (cI, 6, .inl fK)), (aH, .inl (cI, 6, .inl fH)), (aU, .inl (cI, 6, .inl fU)), (tr, .inr (4, [.ref bg, .int (nI tc2)])), (bg, .inl (cI, 16, .inl gf2))] ∧ tc2 ≤ 16)) := by
  refine wt_MZ.ofW (cc := cX5_begin) (maxL := 6) (ret := (some .int)) (by decide) rfl (Nat.le_of_ble_eq_true rfl) ?_
  intro p e s m below meth c A ls hx hb hr hts hown hlocks hml hnm hP hK hD hA hS hl hZ
  have hP : va_P D vwCl [(ho, .inr (0, [vz_0, vz_1, vz_2, .int (nI T), vz_4, vz_5, vz_6, .ref aK, vz_8, vz_9, .ref aH, .ref aU])), (aK, .inl (cI, 6, .inl fK)), (aH, .inl (cI, 6, .inl fH)), (aU, .inl (cI, 6, .inl fU)), (tr, .inr (4, [.ref bg, .int (nI tc)])), (bg, .inl (cI, 16, .inl gf))] s.heap := hP
  have hown : s.vm.findClass RX5 = some m.cls := hown
  have hl : lv_has ls 6 [(0, .ref ho), (1, .ref tr), (2, .int bo), (3, .int (nI j)), (4, .int (nI d))] := hl
  have hi0 : ∀ w ∈ u_ws RX0 TX0 12, w ∈ wsX5_begin := by decide +kernel
  have wf175 := hts (.fieldLink RX5 175 "WarmTubes$House" "up" "[I") (by decide +kernel)
  have wf196 := hts (.fieldLink RX5 196 "WarmTubes$House" "holds" "[I") (by decide +kernel)
  refine lv_iload hx hb dX5_begin_0 (lv_at hl 4 rfl) ?_
  refine lv_bipush (v := 16) hx hb dX5_begin_2 (by decide) ?_
  refine lv_icmp_lt (tgt := 9) hx hb dX5_begin_4 (by decide) (fun _ => ?_) (fun h => absurd (nI_lt (a := d) (b := 16) (by omega) (by omega)) h)
  refine lv_aload_n hx hb dX5_begin_9 rfl (lv_at hl 1 rfl) ?_
  refine lv_iload_n hx hb dX5_begin_10 rfl (lv_at hl 2 rfl) ?_
  refine wt_goV (wr := [(ho, .inr (0, [vz_0, vz_1, vz_2, .int (nI T), vz_4, vz_5, vz_6, .ref aK, vz_8, vz_9, .ref aH, .ref aU])), (aK, .inl (cI, 6, .inl fK)), (aH, .inl (cI, 6, .inl fH)), (aU, .inl (cI, 6, .inl fU))]) (wt_runV (As := [.int bo]) (rest := []) ⟨hx, hb, hml, hown, hts⟩ (c_X4_leave l D cI cZ cH tr bg tc gf bo (by first | assumption | omega)) (cwV 1 hts gX5_begin_X4_leave rfl rfl rfl (by decide +kernel) ⟨Nat.le_of_ble_eq_true rfl, Nat.le_of_ble_eq_true rfl⟩) hK hP hD [4, 5] rfl (by decide) (va_recv hK.1 hP (ci := 4) (q0 := 4) rfl rfl) rfl hl.1 rfl (Nat.le_of_ble_eq_true rfl) dX5_begin_11 ⟨Nat.le_of_ble_eq_true rfl, Nat.le_of_ble_eq_true rfl⟩) hP hD hS hA [4, 5] [0, 1, 2, 3] rfl rfl (by decide) (by decide) (fun w_2 H locs h_3 hP hD hS => ?_)
  obtain ⟨gf2_4, tc2_5, rfl, x_6⟩ := h_3
  have hP : va_P D vwCl [(ho, .inr (0, [vz_0, vz_1, vz_2, .int (nI T), vz_4, vz_5, vz_6, .ref aK, vz_8, vz_9, .ref aH, .ref aU])), (aK, .inl (cI, 6, .inl fK)), (aH, .inl (cI, 6, .inl fH)), (aU, .inl (cI, 6, .inl fU)), (tr, .inr (4, [.ref bg, .int (nI tc2_5)])), (bg, .inl (cI, 16, .inl gf2_4))] H := hP
  have hD : va_D A [(ho, .inr (0, [vz_0, vz_1, vz_2, .int (nI T), vz_4, vz_5, vz_6, .ref aK, vz_8, vz_9, .ref aH, .ref aU])), (aK, .inl (cI, 6, .inl fK)), (aH, .inl (cI, 6, .inl fH)), (aU, .inl (cI, 6, .inl fU)), (tr, .inr (4, [.ref bg, .int (nI tc2_5)])), (bg, .inl (cI, 16, .inl gf2_4))] := hD
  refine lv_iload hx hb dX5_begin_14 (lv_at hl 4 rfl) ?_
  refine lv_iconst (v := 1) hx hb dX5_begin_16 (by decide) ?_
  refine lv_iadd hx hb dX5_begin_17 ?_
  refine wt_top (z := nI (d + 1)) (nI_add d 1) ?_
  refine lv_istore (lv' := [(5, .int (nI (d + 1))), (0, .ref ho), (1, .ref tr), (2, .int bo), (3, .int (nI j)), (4, .int (nI d))]) hx hb dX5_begin_18 hl (by decide) rfl (fun ls hl => ?_)
  refine lv_iload_n hx hb dX5_begin_20 rfl (lv_at hl 3 rfl) ?_
  rcases wt_dec (bo) 10 with c_8 | c_8
  · subst c_8
    refine lv_tableIn (off := 75) (tgt := 96) hx hb dX5_begin_21 (by decide) (by decide) rfl (by decide) ?_
    refine lv_aload_n hx hb dX5_begin_96 rfl (lv_at hl 1 rfl) ?_
    refine va_get (D := D) (ci := 0) (v := .ref aH) (C := RX0) (T := TX0) (N := 12) hx hb hts hi0 hown hK.1 hP 0 rfl rfl 10 (by decide) wf196 (fun _ h9 => h9) rfl dX5_begin_97 ?_
    refine lv_iload_n hx hb dX5_begin_100 rfl (lv_at hl 4 rfl) ?_
    refine va_iald hx hb hK.1 hP 2 0 rfl rfl (vp_in_nI (by omega) (by omega)) dX5_begin_101 ?_
    refine lv_topi (fun ov_9 _ => ?_)
    have hP9 := hP.sub (ws' := [(ho, .inr (0, [vz_0, vz_1, vz_2, .int (nI T), vz_4, vz_5, vz_6, .ref aK, vz_8, vz_9, .ref aH, .ref aU])), (aK, .inl (cI, 6, .inl fK)), (aH, .inl (cI, 6, .inl fH)), (aU, .inl (cI, 6, .inl fU)), (tr, .inr (4, [.ref bg, .int (nI tc2_5)])), (bg, .inl (cI, 16, .inl gf2_4))]) [0, 1, 2, 3, 4, 5] rfl
    have hD9 := hD.sub (ws' := [(ho, .inr (0, [vz_0, vz_1, vz_2, .int (nI T), vz_4, vz_5, vz_6, .ref aK, vz_8, vz_9, .ref aH, .ref aU])), (aK, .inl (cI, 6, .inl fK)), (aH, .inl (cI, 6, .inl fH)), (aU, .inl (cI, 6, .inl fU)), (tr, .inr (4, [.ref bg, .int (nI tc2_5)])), (bg, .inl (cI, 16, .inl gf2_4))]) [0, 1, 2, 3, 4, 5] (by decide) rfl
    exact wt_iret hx hb hr hlocks hP9 hD9 hS ⟨gf2_4, tc2_5, rfl, (by omega)⟩ dX5_begin_102
  rcases wt_dec (bo) 11 with c_10 | c_10
  · subst c_10
    refine lv_tableIn (off := 82) (tgt := 103) hx hb dX5_begin_21 (by decide) (by decide) rfl (by decide) ?_
    refine lv_aload_n hx hb dX5_begin_103 rfl (lv_at hl 1 rfl) ?_
    refine lv_aload_n hx hb dX5_begin_104 rfl (lv_at hl 2 rfl) ?_
    refine lv_bipush (v := 10) hx hb dX5_begin_105 (by decide) ?_
    refine lv_iload_n hx hb dX5_begin_107 rfl (lv_at hl 4 rfl) ?_
    refine lv_iload hx hb dX5_begin_108 (lv_at hl 0 rfl) ?_
    refine wt_goI (wr := []) (wt_runSZ (As := [.ref ho, .ref tr, .int 10, .int (nI j), .int (nI (d + 1))]) (rest := []) ⟨hx, hb, hml, hown, hts⟩ (c_X5_begin_7 l D cI cZ cH _ _ _ ho aK aH aU T j (d + 1) fK fH fU tr bg tc2_5 gf2_4 10 vz_0 vz_1 vz_2 vz_4 vz_5 vz_6 vz_8 vz_9 (by first | assumption | omega) (by first | assumption | omega) (by first | assumption | omega) (by first | assumption | omega)) (va_cwS 5 hts gX5_begin_X5_begin rfl rfl rfl (by decide +kernel) ⟨Nat.le_of_ble_eq_true rfl, Nat.le_of_ble_eq_true rfl⟩) hK hP hD [0, 1, 2, 3, 4, 5] rfl (by decide) hZ hS hA rfl hl.1 rfl (Nat.le_of_ble_eq_true rfl) dX5_begin_110 ⟨Nat.le_of_ble_eq_true rfl, Nat.le_of_ble_eq_true rfl⟩) hP hD hS hA [0, 1, 2, 3, 4, 5] [] rfl rfl (by decide) (by decide) (fun r_11 w_12 H locs h_13 hP hD hS => ?_)
    obtain ⟨gf2_14, tc2_15, rfl, x_16⟩ := h_13
    have hP : va_P D vwCl [(ho, .inr (0, [vz_0, vz_1, vz_2, .int (nI T), vz_4, vz_5, vz_6, .ref aK, vz_8, vz_9, .ref aH, .ref aU])), (aK, .inl (cI, 6, .inl fK)), (aH, .inl (cI, 6, .inl fH)), (aU, .inl (cI, 6, .inl fU)), (tr, .inr (4, [.ref bg, .int (nI tc2_15)])), (bg, .inl (cI, 16, .inl gf2_14))] H := hP
    have hD : va_D A [(ho, .inr (0, [vz_0, vz_1, vz_2, .int (nI T), vz_4, vz_5, vz_6, .ref aK, vz_8, vz_9, .ref aH, .ref aU])), (aK, .inl (cI, 6, .inl fK)), (aH, .inl (cI, 6, .inl fH)), (aU, .inl (cI, 6, .inl fU)), (tr, .inr (4, [.ref bg, .int (nI tc2_15)])), (bg, .inl (cI, 16, .inl gf2_14))] := hD
    refine lv_aload_n hx hb dX5_begin_113 rfl (lv_at hl 1 rfl) ?_
    refine lv_aload_n hx hb dX5_begin_114 rfl (lv_at hl 2 rfl) ?_
    refine lv_aload_n hx hb dX5_begin_115 rfl (lv_at hl 1 rfl) ?_
    refine lv_iload_n hx hb dX5_begin_116 rfl (lv_at hl 4 rfl) ?_
    refine wt_goI (wr := [(aH, .inl (cI, 6, .inl fH)), (aU, .inl (cI, 6, .inl fU)), (tr, .inr (4, [.ref bg, .int (nI tc2_15)])), (bg, .inl (cI, 16, .inl gf2_14))]) (wt_runSZ (As := [.ref ho, .int (nI j)]) (rest := [.ref tr, .ref ho, .int r_11]) ⟨hx, hb, hml, hown, hts⟩ (c_X5_markBody l D cI cZ cH _ _ _ ho aK T j fK vz_0 vz_1 vz_2 vz_4 vz_5 vz_6 vz_8 vz_9 (.ref aH) (.ref aU) (by first | assumption | omega) (by first | assumption | omega)) (va_cwS 2 hts gX5_begin_X5_markBody rfl rfl rfl (by decide +kernel) ⟨Nat.le_of_ble_eq_true rfl, Nat.le_of_ble_eq_true rfl⟩) hK hP hD [0, 1] rfl (by decide) hZ hS hA rfl hl.1 rfl (Nat.le_of_ble_eq_true rfl) dX5_begin_117 ⟨Nat.le_of_ble_eq_true rfl, Nat.le_of_ble_eq_true rfl⟩) hP hD hS hA [0, 1] [2, 3, 4, 5] rfl rfl (by decide) (by decide) (fun r_17 w_18 H locs h_19 hP hD hS => ?_)
    obtain rfl := h_19
    have hP : va_P D vwCl [(aH, .inl (cI, 6, .inl fH)), (aU, .inl (cI, 6, .inl fU)), (tr, .inr (4, [.ref bg, .int (nI tc2_15)])), (bg, .inl (cI, 16, .inl gf2_14)), (ho, .inr (0, [vz_0, vz_1, vz_2, .int (nI T), vz_4, vz_5, vz_6, .ref aK, vz_8, vz_9, .ref aH, .ref aU])), (aK, .inl (cI, 6, .inl fK))] H := hP
    have hD : va_D A [(aH, .inl (cI, 6, .inl fH)), (aU, .inl (cI, 6, .inl fU)), (tr, .inr (4, [.ref bg, .int (nI tc2_15)])), (bg, .inl (cI, 16, .inl gf2_14)), (ho, .inr (0, [vz_0, vz_1, vz_2, .int (nI T), vz_4, vz_5, vz_6, .ref aK, vz_8, vz_9, .ref aH, .ref aU])), (aK, .inl (cI, 6, .inl fK))] := hD
    refine lv_iload_n hx hb dX5_begin_120 rfl (lv_at hl 4 rfl) ?_
    refine lv_iload hx hb dX5_begin_121 (lv_at hl 0 rfl) ?_
    refine wt_goI (wr := []) (wt_runSZ (As := [.ref ho, .ref tr, .int r_17, .int (nI j), .int (nI (d + 1))]) (rest := [.int r_11]) ⟨hx, hb, hml, hown, hts⟩ (c_X5_begin_7 l D cI cZ cH _ _ _ ho aK aH aU T j (d + 1) fK fH fU tr bg tc2_15 gf2_14 r_17 vz_0 vz_1 vz_2 vz_4 vz_5 vz_6 vz_8 vz_9 (by first | assumption | omega) (by first | assumption | omega) (by first | assumption | omega) (by first | assumption | omega)) (va_cwS 5 hts gX5_begin_X5_begin rfl rfl rfl (by decide +kernel) ⟨Nat.le_of_ble_eq_true rfl, Nat.le_of_ble_eq_true rfl⟩) hK hP hD [4, 5, 0, 1, 2, 3] rfl (by decide) hZ hS hA rfl hl.1 rfl (Nat.le_of_ble_eq_true rfl) dX5_begin_123 ⟨Nat.le_of_ble_eq_true rfl, Nat.le_of_ble_eq_true rfl⟩) hP hD hS hA [4, 5, 0, 1, 2, 3] [] rfl rfl (by decide) (by decide) (fun r_20 w_21 H locs h_22 hP hD hS => ?_)
    obtain ⟨gf2_23, tc2_24, rfl, x_25⟩ := h_22
    have hP : va_P D vwCl [(ho, .inr (0, [vz_0, vz_1, vz_2, .int (nI T), vz_4, vz_5, vz_6, .ref aK, vz_8, vz_9, .ref aH, .ref aU])), (aK, .inl (cI, 6, .inl fK)), (aH, .inl (cI, 6, .inl fH)), (aU, .inl (cI, 6, .inl fU)), (tr, .inr (4, [.ref bg, .int (nI tc2_24)])), (bg, .inl (cI, 16, .inl gf2_23))] H := hP
    have hD : va_D A [(ho, .inr (0, [vz_0, vz_1, vz_2, .int (nI T), vz_4, vz_5, vz_6, .ref aK, vz_8, vz_9, .ref aH, .ref aU])), (aK, .inl (cI, 6, .inl fK)), (aH, .inl (cI, 6, .inl fH)), (aU, .inl (cI, 6, .inl fU)), (tr, .inr (4, [.ref bg, .int (nI tc2_24)])), (bg, .inl (cI, 16, .inl gf2_23))] := hD
    refine lv_iadd hx hb dX5_begin_126 ?_
    refine lv_topi (fun ov_26 _ => ?_)
    have hP9 := hP.sub (ws' := [(ho, .inr (0, [vz_0, vz_1, vz_2, .int (nI T), vz_4, vz_5, vz_6, .ref aK, vz_8, vz_9, .ref aH, .ref aU])), (aK, .inl (cI, 6, .inl fK)), (aH, .inl (cI, 6, .inl fH)), (aU, .inl (cI, 6, .inl fU)), (tr, .inr (4, [.ref bg, .int (nI tc2_24)])), (bg, .inl (cI, 16, .inl gf2_23))]) [0, 1, 2, 3, 4, 5] rfl
    have hD9 := hD.sub (ws' := [(ho, .inr (0, [vz_0, vz_1, vz_2, .int (nI T), vz_4, vz_5, vz_6, .ref aK, vz_8, vz_9, .ref aH, .ref aU])), (aK, .inl (cI, 6, .inl fK)), (aH, .inl (cI, 6, .inl fH)), (aU, .inl (cI, 6, .inl fU)), (tr, .inr (4, [.ref bg, .int (nI tc2_24)])), (bg, .inl (cI, 16, .inl gf2_23))]) [0, 1, 2, 3, 4, 5] (by decide) rfl
    exact wt_iret hx hb hr hlocks hP9 hD9 hS ⟨gf2_23, tc2_24, rfl, (by omega)⟩ dX5_begin_127
  rcases wt_dec (bo) 12 with c_27 | c_27
  · subst c_27
    refine lv_tableIn (off := 107) (tgt := 128) hx hb dX5_begin_21 (by decide) (by decide) rfl (by decide) ?_
    refine lv_aload_n hx hb dX5_begin_128 rfl (lv_at hl 1 rfl) ?_
    refine lv_aload_n hx hb dX5_begin_129 rfl (lv_at hl 2 rfl) ?_
    refine lv_bipush (v := 11) hx hb dX5_begin_130 (by decide) ?_
    refine lv_iload_n hx hb dX5_begin_132 rfl (lv_at hl 4 rfl) ?_
    refine lv_iload hx hb dX5_begin_133 (lv_at hl 0 rfl) ?_
    refine wt_goI (wr := []) (wt_runSZ (As := [.ref ho, .ref tr, .int 11, .int (nI j), .int (nI (d + 1))]) (rest := []) ⟨hx, hb, hml, hown, hts⟩ (c_X5_begin_7 l D cI cZ cH _ _ _ ho aK aH aU T j (d + 1) fK fH fU tr bg tc2_5 gf2_4 11 vz_0 vz_1 vz_2 vz_4 vz_5 vz_6 vz_8 vz_9 (by first | assumption | omega) (by first | assumption | omega) (by first | assumption | omega) (by first | assumption | omega)) (va_cwS 5 hts gX5_begin_X5_begin rfl rfl rfl (by decide +kernel) ⟨Nat.le_of_ble_eq_true rfl, Nat.le_of_ble_eq_true rfl⟩) hK hP hD [0, 1, 2, 3, 4, 5] rfl (by decide) hZ hS hA rfl hl.1 rfl (Nat.le_of_ble_eq_true rfl) dX5_begin_135 ⟨Nat.le_of_ble_eq_true rfl, Nat.le_of_ble_eq_true rfl⟩) hP hD hS hA [0, 1, 2, 3, 4, 5] [] rfl rfl (by decide) (by decide) (fun r_28 w_29 H locs h_30 hP hD hS => ?_)
    obtain ⟨gf2_31, tc2_32, rfl, x_33⟩ := h_30
    have hP : va_P D vwCl [(ho, .inr (0, [vz_0, vz_1, vz_2, .int (nI T), vz_4, vz_5, vz_6, .ref aK, vz_8, vz_9, .ref aH, .ref aU])), (aK, .inl (cI, 6, .inl fK)), (aH, .inl (cI, 6, .inl fH)), (aU, .inl (cI, 6, .inl fU)), (tr, .inr (4, [.ref bg, .int (nI tc2_32)])), (bg, .inl (cI, 16, .inl gf2_31))] H := hP
    have hD : va_D A [(ho, .inr (0, [vz_0, vz_1, vz_2, .int (nI T), vz_4, vz_5, vz_6, .ref aK, vz_8, vz_9, .ref aH, .ref aU])), (aK, .inl (cI, 6, .inl fK)), (aH, .inl (cI, 6, .inl fH)), (aU, .inl (cI, 6, .inl fU)), (tr, .inr (4, [.ref bg, .int (nI tc2_32)])), (bg, .inl (cI, 16, .inl gf2_31))] := hD
    refine lv_ineg hx hb dX5_begin_138 ?_
    refine lv_topi (fun ov_34 _ => ?_)
    have hP9 := hP.sub (ws' := [(ho, .inr (0, [vz_0, vz_1, vz_2, .int (nI T), vz_4, vz_5, vz_6, .ref aK, vz_8, vz_9, .ref aH, .ref aU])), (aK, .inl (cI, 6, .inl fK)), (aH, .inl (cI, 6, .inl fH)), (aU, .inl (cI, 6, .inl fU)), (tr, .inr (4, [.ref bg, .int (nI tc2_32)])), (bg, .inl (cI, 16, .inl gf2_31))]) [0, 1, 2, 3, 4, 5] rfl
    have hD9 := hD.sub (ws' := [(ho, .inr (0, [vz_0, vz_1, vz_2, .int (nI T), vz_4, vz_5, vz_6, .ref aK, vz_8, vz_9, .ref aH, .ref aU])), (aK, .inl (cI, 6, .inl fK)), (aH, .inl (cI, 6, .inl fH)), (aU, .inl (cI, 6, .inl fU)), (tr, .inr (4, [.ref bg, .int (nI tc2_32)])), (bg, .inl (cI, 16, .inl gf2_31))]) [0, 1, 2, 3, 4, 5] (by decide) rfl
    exact wt_iret hx hb hr hlocks hP9 hD9 hS ⟨gf2_31, tc2_32, rfl, (by omega)⟩ dX5_begin_139
  rcases wt_dec (bo) 13 with c_35 | c_35
  · subst c_35
    refine lv_tableIn (off := 119) (tgt := 140) hx hb dX5_begin_21 (by decide) (by decide) rfl (by decide) ?_
    refine lv_aload_n hx hb dX5_begin_140 rfl (lv_at hl 1 rfl) ?_
    refine lv_aload_n hx hb dX5_begin_141 rfl (lv_at hl 2 rfl) ?_
    refine lv_bipush (v := 10) hx hb dX5_begin_142 (by decide) ?_
    refine lv_iload_n hx hb dX5_begin_144 rfl (lv_at hl 4 rfl) ?_
    refine lv_iload hx hb dX5_begin_145 (lv_at hl 0 rfl) ?_
    refine wt_goI (wr := []) (wt_runSZ (As := [.ref ho, .ref tr, .int 10, .int (nI j), .int (nI (d + 1))]) (rest := []) ⟨hx, hb, hml, hown, hts⟩ (c_X5_begin_7 l D cI cZ cH _ _ _ ho aK aH aU T j (d + 1) fK fH fU tr bg tc2_5 gf2_4 10 vz_0 vz_1 vz_2 vz_4 vz_5 vz_6 vz_8 vz_9 (by first | assumption | omega) (by first | assumption | omega) (by first | assumption | omega) (by first | assumption | omega)) (va_cwS 5 hts gX5_begin_X5_begin rfl rfl rfl (by decide +kernel) ⟨Nat.le_of_ble_eq_true rfl, Nat.le_of_ble_eq_true rfl⟩) hK hP hD [0, 1, 2, 3, 4, 5] rfl (by decide) hZ hS hA rfl hl.1 rfl (Nat.le_of_ble_eq_true rfl) dX5_begin_147 ⟨Nat.le_of_ble_eq_true rfl, Nat.le_of_ble_eq_true rfl⟩) hP hD hS hA [0, 1, 2, 3, 4, 5] [] rfl rfl (by decide) (by decide) (fun r_36 w_37 H locs h_38 hP hD hS => ?_)
    obtain ⟨gf2_39, tc2_40, rfl, x_41⟩ := h_38
    have hP : va_P D vwCl [(ho, .inr (0, [vz_0, vz_1, vz_2, .int (nI T), vz_4, vz_5, vz_6, .ref aK, vz_8, vz_9, .ref aH, .ref aU])), (aK, .inl (cI, 6, .inl fK)), (aH, .inl (cI, 6, .inl fH)), (aU, .inl (cI, 6, .inl fU)), (tr, .inr (4, [.ref bg, .int (nI tc2_40)])), (bg, .inl (cI, 16, .inl gf2_39))] H := hP
    have hD : va_D A [(ho, .inr (0, [vz_0, vz_1, vz_2, .int (nI T), vz_4, vz_5, vz_6, .ref aK, vz_8, vz_9, .ref aH, .ref aU])), (aK, .inl (cI, 6, .inl fK)), (aH, .inl (cI, 6, .inl fH)), (aU, .inl (cI, 6, .inl fU)), (tr, .inr (4, [.ref bg, .int (nI tc2_40)])), (bg, .inl (cI, 16, .inl gf2_39))] := hD
    refine lv_bipush (v := 100) hx hb dX5_begin_150 (by decide) ?_
    refine lv_isub hx hb dX5_begin_152 ?_
    refine lv_topi (fun ov_42 _ => ?_)
    have hP9 := hP.sub (ws' := [(ho, .inr (0, [vz_0, vz_1, vz_2, .int (nI T), vz_4, vz_5, vz_6, .ref aK, vz_8, vz_9, .ref aH, .ref aU])), (aK, .inl (cI, 6, .inl fK)), (aH, .inl (cI, 6, .inl fH)), (aU, .inl (cI, 6, .inl fU)), (tr, .inr (4, [.ref bg, .int (nI tc2_40)])), (bg, .inl (cI, 16, .inl gf2_39))]) [0, 1, 2, 3, 4, 5] rfl
    have hD9 := hD.sub (ws' := [(ho, .inr (0, [vz_0, vz_1, vz_2, .int (nI T), vz_4, vz_5, vz_6, .ref aK, vz_8, vz_9, .ref aH, .ref aU])), (aK, .inl (cI, 6, .inl fK)), (aH, .inl (cI, 6, .inl fH)), (aU, .inl (cI, 6, .inl fU)), (tr, .inr (4, [.ref bg, .int (nI tc2_40)])), (bg, .inl (cI, 16, .inl gf2_39))]) [0, 1, 2, 3, 4, 5] (by decide) rfl
    exact wt_iret hx hb hr hlocks hP9 hD9 hS ⟨gf2_39, tc2_40, rfl, (by omega)⟩ dX5_begin_153
  rcases wt_dec (bo) 14 with c_43 | c_43
  · subst c_43
    refine lv_tableIn (off := 133) (tgt := 154) hx hb dX5_begin_21 (by decide) (by decide) rfl (by decide) ?_
    refine lv_aload_n hx hb dX5_begin_154 rfl (lv_at hl 1 rfl) ?_
    refine lv_aload_n hx hb dX5_begin_155 rfl (lv_at hl 2 rfl) ?_
    refine lv_bipush (v := 13) hx hb dX5_begin_156 (by decide) ?_
    refine lv_iload_n hx hb dX5_begin_158 rfl (lv_at hl 4 rfl) ?_
    refine lv_iload hx hb dX5_begin_159 (lv_at hl 0 rfl) ?_
    refine wt_goI (wr := []) (wt_runSZ (As := [.ref ho, .ref tr, .int 13, .int (nI j), .int (nI (d + 1))]) (rest := []) ⟨hx, hb, hml, hown, hts⟩ (c_X5_begin_7 l D cI cZ cH _ _ _ ho aK aH aU T j (d + 1) fK fH fU tr bg tc2_5 gf2_4 13 vz_0 vz_1 vz_2 vz_4 vz_5 vz_6 vz_8 vz_9 (by first | assumption | omega) (by first | assumption | omega) (by first | assumption | omega) (by first | assumption | omega)) (va_cwS 5 hts gX5_begin_X5_begin rfl rfl rfl (by decide +kernel) ⟨Nat.le_of_ble_eq_true rfl, Nat.le_of_ble_eq_true rfl⟩) hK hP hD [0, 1, 2, 3, 4, 5] rfl (by decide) hZ hS hA rfl hl.1 rfl (Nat.le_of_ble_eq_true rfl) dX5_begin_161 ⟨Nat.le_of_ble_eq_true rfl, Nat.le_of_ble_eq_true rfl⟩) hP hD hS hA [0, 1, 2, 3, 4, 5] [] rfl rfl (by decide) (by decide) (fun r_44 w_45 H locs h_46 hP hD hS => ?_)
    obtain ⟨gf2_47, tc2_48, rfl, x_49⟩ := h_46
    have hP : va_P D vwCl [(ho, .inr (0, [vz_0, vz_1, vz_2, .int (nI T), vz_4, vz_5, vz_6, .ref aK, vz_8, vz_9, .ref aH, .ref aU])), (aK, .inl (cI, 6, .inl fK)), (aH, .inl (cI, 6, .inl fH)), (aU, .inl (cI, 6, .inl fU)), (tr, .inr (4, [.ref bg, .int (nI tc2_48)])), (bg, .inl (cI, 16, .inl gf2_47))] H := hP
    have hD : va_D A [(ho, .inr (0, [vz_0, vz_1, vz_2, .int (nI T), vz_4, vz_5, vz_6, .ref aK, vz_8, vz_9, .ref aH, .ref aU])), (aK, .inl (cI, 6, .inl fK)), (aH, .inl (cI, 6, .inl fH)), (aU, .inl (cI, 6, .inl fU)), (tr, .inr (4, [.ref bg, .int (nI tc2_48)])), (bg, .inl (cI, 16, .inl gf2_47))] := hD
    refine lv_iconst (v := 2) hx hb dX5_begin_164 (by decide) ?_
    refine lv_imul hx hb dX5_begin_165 ?_
    refine lv_topi (fun ov_50 _ => ?_)
    have hP9 := hP.sub (ws' := [(ho, .inr (0, [vz_0, vz_1, vz_2, .int (nI T), vz_4, vz_5, vz_6, .ref aK, vz_8, vz_9, .ref aH, .ref aU])), (aK, .inl (cI, 6, .inl fK)), (aH, .inl (cI, 6, .inl fH)), (aU, .inl (cI, 6, .inl fU)), (tr, .inr (4, [.ref bg, .int (nI tc2_48)])), (bg, .inl (cI, 16, .inl gf2_47))]) [0, 1, 2, 3, 4, 5] rfl
    have hD9 := hD.sub (ws' := [(ho, .inr (0, [vz_0, vz_1, vz_2, .int (nI T), vz_4, vz_5, vz_6, .ref aK, vz_8, vz_9, .ref aH, .ref aU])), (aK, .inl (cI, 6, .inl fK)), (aH, .inl (cI, 6, .inl fH)), (aU, .inl (cI, 6, .inl fU)), (tr, .inr (4, [.ref bg, .int (nI tc2_48)])), (bg, .inl (cI, 16, .inl gf2_47))]) [0, 1, 2, 3, 4, 5] (by decide) rfl
    exact wt_iret hx hb hr hlocks hP9 hD9 hS ⟨gf2_47, tc2_48, rfl, (by omega)⟩ dX5_begin_166
  rcases wt_dec (bo) 15 with c_51 | c_51
  · subst c_51
    refine lv_tableIn (off := 219) (tgt := 240) hx hb dX5_begin_21 (by decide) (by decide) rfl (by decide) ?_
    refine lv_iconst (v := 0) hx hb dX5_begin_240 (by decide) ?_
    have hP9 := hP.sub (ws' := [(ho, .inr (0, [vz_0, vz_1, vz_2, .int (nI T), vz_4, vz_5, vz_6, .ref aK, vz_8, vz_9, .ref aH, .ref aU])), (aK, .inl (cI, 6, .inl fK)), (aH, .inl (cI, 6, .inl fH)), (aU, .inl (cI, 6, .inl fU)), (tr, .inr (4, [.ref bg, .int (nI tc2_5)])), (bg, .inl (cI, 16, .inl gf2_4))]) [0, 1, 2, 3, 4, 5] rfl
    have hD9 := hD.sub (ws' := [(ho, .inr (0, [vz_0, vz_1, vz_2, .int (nI T), vz_4, vz_5, vz_6, .ref aK, vz_8, vz_9, .ref aH, .ref aU])), (aK, .inl (cI, 6, .inl fK)), (aH, .inl (cI, 6, .inl fH)), (aU, .inl (cI, 6, .inl fU)), (tr, .inr (4, [.ref bg, .int (nI tc2_5)])), (bg, .inl (cI, 16, .inl gf2_4))]) [0, 1, 2, 3, 4, 5] (by decide) rfl
    exact wt_iret hx hb hr hlocks hP9 hD9 hS ⟨gf2_4, tc2_5, rfl, (by omega)⟩ dX5_begin_241
  rcases wt_dec (bo) 16 with c_52 | c_52
  · subst c_52
    refine lv_tableIn (off := 219) (tgt := 240) hx hb dX5_begin_21 (by decide) (by decide) rfl (by decide) ?_
    refine lv_iconst (v := 0) hx hb dX5_begin_240 (by decide) ?_
    have hP9 := hP.sub (ws' := [(ho, .inr (0, [vz_0, vz_1, vz_2, .int (nI T), vz_4, vz_5, vz_6, .ref aK, vz_8, vz_9, .ref aH, .ref aU])), (aK, .inl (cI, 6, .inl fK)), (aH, .inl (cI, 6, .inl fH)), (aU, .inl (cI, 6, .inl fU)), (tr, .inr (4, [.ref bg, .int (nI tc2_5)])), (bg, .inl (cI, 16, .inl gf2_4))]) [0, 1, 2, 3, 4, 5] rfl
    have hD9 := hD.sub (ws' := [(ho, .inr (0, [vz_0, vz_1, vz_2, .int (nI T), vz_4, vz_5, vz_6, .ref aK, vz_8, vz_9, .ref aH, .ref aU])), (aK, .inl (cI, 6, .inl fK)), (aH, .inl (cI, 6, .inl fH)), (aU, .inl (cI, 6, .inl fU)), (tr, .inr (4, [.ref bg, .int (nI tc2_5)])), (bg, .inl (cI, 16, .inl gf2_4))]) [0, 1, 2, 3, 4, 5] (by decide) rfl
    exact wt_iret hx hb hr hlocks hP9 hD9 hS ⟨gf2_4, tc2_5, rfl, (by omega)⟩ dX5_begin_241
  rcases wt_dec (bo) 17 with c_53 | c_53
  · subst c_53
    refine lv_tableIn (off := 219) (tgt := 240) hx hb dX5_begin_21 (by decide) (by decide) rfl (by decide) ?_
    refine lv_iconst (v := 0) hx hb dX5_begin_240 (by decide) ?_
    have hP9 := hP.sub (ws' := [(ho, .inr (0, [vz_0, vz_1, vz_2, .int (nI T), vz_4, vz_5, vz_6, .ref aK, vz_8, vz_9, .ref aH, .ref aU])), (aK, .inl (cI, 6, .inl fK)), (aH, .inl (cI, 6, .inl fH)), (aU, .inl (cI, 6, .inl fU)), (tr, .inr (4, [.ref bg, .int (nI tc2_5)])), (bg, .inl (cI, 16, .inl gf2_4))]) [0, 1, 2, 3, 4, 5] rfl
    have hD9 := hD.sub (ws' := [(ho, .inr (0, [vz_0, vz_1, vz_2, .int (nI T), vz_4, vz_5, vz_6, .ref aK, vz_8, vz_9, .ref aH, .ref aU])), (aK, .inl (cI, 6, .inl fK)), (aH, .inl (cI, 6, .inl fH)), (aU, .inl (cI, 6, .inl fU)), (tr, .inr (4, [.ref bg, .int (nI tc2_5)])), (bg, .inl (cI, 16, .inl gf2_4))]) [0, 1, 2, 3, 4, 5] (by decide) rfl
    exact wt_iret hx hb hr hlocks hP9 hD9 hS ⟨gf2_4, tc2_5, rfl, (by omega)⟩ dX5_begin_241
  rcases wt_dec (bo) 18 with c_54 | c_54
  · subst c_54
    refine lv_tableIn (off := 219) (tgt := 240) hx hb dX5_begin_21 (by decide) (by decide) rfl (by decide) ?_
    refine lv_iconst (v := 0) hx hb dX5_begin_240 (by decide) ?_
    have hP9 := hP.sub (ws' := [(ho, .inr (0, [vz_0, vz_1, vz_2, .int (nI T), vz_4, vz_5, vz_6, .ref aK, vz_8, vz_9, .ref aH, .ref aU])), (aK, .inl (cI, 6, .inl fK)), (aH, .inl (cI, 6, .inl fH)), (aU, .inl (cI, 6, .inl fU)), (tr, .inr (4, [.ref bg, .int (nI tc2_5)])), (bg, .inl (cI, 16, .inl gf2_4))]) [0, 1, 2, 3, 4, 5] rfl
    have hD9 := hD.sub (ws' := [(ho, .inr (0, [vz_0, vz_1, vz_2, .int (nI T), vz_4, vz_5, vz_6, .ref aK, vz_8, vz_9, .ref aH, .ref aU])), (aK, .inl (cI, 6, .inl fK)), (aH, .inl (cI, 6, .inl fH)), (aU, .inl (cI, 6, .inl fU)), (tr, .inr (4, [.ref bg, .int (nI tc2_5)])), (bg, .inl (cI, 16, .inl gf2_4))]) [0, 1, 2, 3, 4, 5] (by decide) rfl
    exact wt_iret hx hb hr hlocks hP9 hD9 hS ⟨gf2_4, tc2_5, rfl, (by omega)⟩ dX5_begin_241
  rcases wt_dec (bo) 19 with c_55 | c_55
  · subst c_55
    refine lv_tableIn (off := 219) (tgt := 240) hx hb dX5_begin_21 (by decide) (by decide) rfl (by decide) ?_
    refine lv_iconst (v := 0) hx hb dX5_begin_240 (by decide) ?_
    have hP9 := hP.sub (ws' := [(ho, .inr (0, [vz_0, vz_1, vz_2, .int (nI T), vz_4, vz_5, vz_6, .ref aK, vz_8, vz_9, .ref aH, .ref aU])), (aK, .inl (cI, 6, .inl fK)), (aH, .inl (cI, 6, .inl fH)), (aU, .inl (cI, 6, .inl fU)), (tr, .inr (4, [.ref bg, .int (nI tc2_5)])), (bg, .inl (cI, 16, .inl gf2_4))]) [0, 1, 2, 3, 4, 5] rfl
    have hD9 := hD.sub (ws' := [(ho, .inr (0, [vz_0, vz_1, vz_2, .int (nI T), vz_4, vz_5, vz_6, .ref aK, vz_8, vz_9, .ref aH, .ref aU])), (aK, .inl (cI, 6, .inl fK)), (aH, .inl (cI, 6, .inl fH)), (aU, .inl (cI, 6, .inl fU)), (tr, .inr (4, [.ref bg, .int (nI tc2_5)])), (bg, .inl (cI, 16, .inl gf2_4))]) [0, 1, 2, 3, 4, 5] (by decide) rfl
    exact wt_iret hx hb hr hlocks hP9 hD9 hS ⟨gf2_4, tc2_5, rfl, (by omega)⟩ dX5_begin_241
  rcases wt_dec (bo) 20 with c_56 | c_56
  · subst c_56
    refine lv_tableIn (off := 146) (tgt := 167) hx hb dX5_begin_21 (by decide) (by decide) rfl (by decide) ?_
    refine lv_iload_n hx hb dX5_begin_167 rfl (lv_at hl 4 rfl) ?_
    have hP9 := hP.sub (ws' := [(ho, .inr (0, [vz_0, vz_1, vz_2, .int (nI T), vz_4, vz_5, vz_6, .ref aK, vz_8, vz_9, .ref aH, .ref aU])), (aK, .inl (cI, 6, .inl fK)), (aH, .inl (cI, 6, .inl fH)), (aU, .inl (cI, 6, .inl fU)), (tr, .inr (4, [.ref bg, .int (nI tc2_5)])), (bg, .inl (cI, 16, .inl gf2_4))]) [0, 1, 2, 3, 4, 5] rfl
    have hD9 := hD.sub (ws' := [(ho, .inr (0, [vz_0, vz_1, vz_2, .int (nI T), vz_4, vz_5, vz_6, .ref aK, vz_8, vz_9, .ref aH, .ref aU])), (aK, .inl (cI, 6, .inl fK)), (aH, .inl (cI, 6, .inl fH)), (aU, .inl (cI, 6, .inl fU)), (tr, .inr (4, [.ref bg, .int (nI tc2_5)])), (bg, .inl (cI, 16, .inl gf2_4))]) [0, 1, 2, 3, 4, 5] (by decide) rfl
    exact wt_iret hx hb hr hlocks hP9 hD9 hS ⟨gf2_4, tc2_5, rfl, (by omega)⟩ dX5_begin_168
  rcases wt_dec (bo) 21 with c_57 | c_57
  · subst c_57
    refine lv_tableIn (off := 148) (tgt := 169) hx hb dX5_begin_21 (by decide) (by decide) rfl (by decide) ?_
    refine lv_aload_n hx hb dX5_begin_169 rfl (lv_at hl 1 rfl) ?_
    refine lv_aload_n hx hb dX5_begin_170 rfl (lv_at hl 2 rfl) ?_
    refine lv_bipush (v := 20) hx hb dX5_begin_171 (by decide) ?_
    refine lv_iload_n hx hb dX5_begin_173 rfl (lv_at hl 4 rfl) ?_
    refine lv_iload hx hb dX5_begin_174 (lv_at hl 0 rfl) ?_
    refine wt_goI (wr := []) (wt_runSZ (As := [.ref ho, .ref tr, .int 20, .int (nI j), .int (nI (d + 1))]) (rest := []) ⟨hx, hb, hml, hown, hts⟩ (c_X5_begin_7 l D cI cZ cH _ _ _ ho aK aH aU T j (d + 1) fK fH fU tr bg tc2_5 gf2_4 20 vz_0 vz_1 vz_2 vz_4 vz_5 vz_6 vz_8 vz_9 (by first | assumption | omega) (by first | assumption | omega) (by first | assumption | omega) (by first | assumption | omega)) (va_cwS 5 hts gX5_begin_X5_begin rfl rfl rfl (by decide +kernel) ⟨Nat.le_of_ble_eq_true rfl, Nat.le_of_ble_eq_true rfl⟩) hK hP hD [0, 1, 2, 3, 4, 5] rfl (by decide) hZ hS hA rfl hl.1 rfl (Nat.le_of_ble_eq_true rfl) dX5_begin_176 ⟨Nat.le_of_ble_eq_true rfl, Nat.le_of_ble_eq_true rfl⟩) hP hD hS hA [0, 1, 2, 3, 4, 5] [] rfl rfl (by decide) (by decide) (fun r_58 w_59 H locs h_60 hP hD hS => ?_)
    obtain ⟨gf2_61, tc2_62, rfl, x_63⟩ := h_60
    have hP : va_P D vwCl [(ho, .inr (0, [vz_0, vz_1, vz_2, .int (nI T), vz_4, vz_5, vz_6, .ref aK, vz_8, vz_9, .ref aH, .ref aU])), (aK, .inl (cI, 6, .inl fK)), (aH, .inl (cI, 6, .inl fH)), (aU, .inl (cI, 6, .inl fU)), (tr, .inr (4, [.ref bg, .int (nI tc2_62)])), (bg, .inl (cI, 16, .inl gf2_61))] H := hP
    have hD : va_D A [(ho, .inr (0, [vz_0, vz_1, vz_2, .int (nI T), vz_4, vz_5, vz_6, .ref aK, vz_8, vz_9, .ref aH, .ref aU])), (aK, .inl (cI, 6, .inl fK)), (aH, .inl (cI, 6, .inl fH)), (aU, .inl (cI, 6, .inl fU)), (tr, .inr (4, [.ref bg, .int (nI tc2_62)])), (bg, .inl (cI, 16, .inl gf2_61))] := hD
    refine lv_aload_n hx hb dX5_begin_179 rfl (lv_at hl 1 rfl) ?_
    refine va_get (D := D) (ci := 0) (v := .ref aU) (C := RX0) (T := TX0) (N := 12) hx hb hts hi0 hown hK.1 hP 0 rfl rfl 11 (by decide) wf175 (fun _ h9 => h9) rfl dX5_begin_180 ?_
    refine lv_iload_n hx hb dX5_begin_183 rfl (lv_at hl 4 rfl) ?_
    refine va_iald hx hb hK.1 hP 3 0 rfl rfl (vp_in_nI (by omega) (by omega)) dX5_begin_184 ?_
    refine lv_topi (fun ov_64 _ => ?_)
    refine lv_iadd hx hb dX5_begin_185 ?_
    refine lv_topi (fun ov_65 _ => ?_)
    have hP9 := hP.sub (ws' := [(ho, .inr (0, [vz_0, vz_1, vz_2, .int (nI T), vz_4, vz_5, vz_6, .ref aK, vz_8, vz_9, .ref aH, .ref aU])), (aK, .inl (cI, 6, .inl fK)), (aH, .inl (cI, 6, .inl fH)), (aU, .inl (cI, 6, .inl fU)), (tr, .inr (4, [.ref bg, .int (nI tc2_62)])), (bg, .inl (cI, 16, .inl gf2_61))]) [0, 1, 2, 3, 4, 5] rfl
    have hD9 := hD.sub (ws' := [(ho, .inr (0, [vz_0, vz_1, vz_2, .int (nI T), vz_4, vz_5, vz_6, .ref aK, vz_8, vz_9, .ref aH, .ref aU])), (aK, .inl (cI, 6, .inl fK)), (aH, .inl (cI, 6, .inl fH)), (aU, .inl (cI, 6, .inl fU)), (tr, .inr (4, [.ref bg, .int (nI tc2_62)])), (bg, .inl (cI, 16, .inl gf2_61))]) [0, 1, 2, 3, 4, 5] (by decide) rfl
    exact wt_iret hx hb hr hlocks hP9 hD9 hS ⟨gf2_61, tc2_62, rfl, (by omega)⟩ dX5_begin_186
  rcases wt_dec (bo) 22 with c_66 | c_66
  · subst c_66
    refine lv_tableIn (off := 166) (tgt := 187) hx hb dX5_begin_21 (by decide) (by decide) rfl (by decide) ?_
    refine lv_aload_n hx hb dX5_begin_187 rfl (lv_at hl 1 rfl) ?_
    refine lv_aload_n hx hb dX5_begin_188 rfl (lv_at hl 2 rfl) ?_
    refine lv_bipush (v := 21) hx hb dX5_begin_189 (by decide) ?_
    refine lv_iload_n hx hb dX5_begin_191 rfl (lv_at hl 4 rfl) ?_
    refine lv_iload hx hb dX5_begin_192 (lv_at hl 0 rfl) ?_
    refine wt_goI (wr := []) (wt_runSZ (As := [.ref ho, .ref tr, .int 21, .int (nI j), .int (nI (d + 1))]) (rest := []) ⟨hx, hb, hml, hown, hts⟩ (c_X5_begin_7 l D cI cZ cH _ _ _ ho aK aH aU T j (d + 1) fK fH fU tr bg tc2_5 gf2_4 21 vz_0 vz_1 vz_2 vz_4 vz_5 vz_6 vz_8 vz_9 (by first | assumption | omega) (by first | assumption | omega) (by first | assumption | omega) (by first | assumption | omega)) (va_cwS 5 hts gX5_begin_X5_begin rfl rfl rfl (by decide +kernel) ⟨Nat.le_of_ble_eq_true rfl, Nat.le_of_ble_eq_true rfl⟩) hK hP hD [0, 1, 2, 3, 4, 5] rfl (by decide) hZ hS hA rfl hl.1 rfl (Nat.le_of_ble_eq_true rfl) dX5_begin_194 ⟨Nat.le_of_ble_eq_true rfl, Nat.le_of_ble_eq_true rfl⟩) hP hD hS hA [0, 1, 2, 3, 4, 5] [] rfl rfl (by decide) (by decide) (fun r_67 w_68 H locs h_69 hP hD hS => ?_)
    obtain ⟨gf2_70, tc2_71, rfl, x_72⟩ := h_69
    have hP : va_P D vwCl [(ho, .inr (0, [vz_0, vz_1, vz_2, .int (nI T), vz_4, vz_5, vz_6, .ref aK, vz_8, vz_9, .ref aH, .ref aU])), (aK, .inl (cI, 6, .inl fK)), (aH, .inl (cI, 6, .inl fH)), (aU, .inl (cI, 6, .inl fU)), (tr, .inr (4, [.ref bg, .int (nI tc2_71)])), (bg, .inl (cI, 16, .inl gf2_70))] H := hP
    have hD : va_D A [(ho, .inr (0, [vz_0, vz_1, vz_2, .int (nI T), vz_4, vz_5, vz_6, .ref aK, vz_8, vz_9, .ref aH, .ref aU])), (aK, .inl (cI, 6, .inl fK)), (aH, .inl (cI, 6, .inl fH)), (aU, .inl (cI, 6, .inl fU)), (tr, .inr (4, [.ref bg, .int (nI tc2_71)])), (bg, .inl (cI, 16, .inl gf2_70))] := hD
    refine lv_sipush (v := 1000) hx hb dX5_begin_197 (by decide) ?_
    refine lv_isub hx hb dX5_begin_200 ?_
    refine lv_topi (fun ov_73 _ => ?_)
    have hP9 := hP.sub (ws' := [(ho, .inr (0, [vz_0, vz_1, vz_2, .int (nI T), vz_4, vz_5, vz_6, .ref aK, vz_8, vz_9, .ref aH, .ref aU])), (aK, .inl (cI, 6, .inl fK)), (aH, .inl (cI, 6, .inl fH)), (aU, .inl (cI, 6, .inl fU)), (tr, .inr (4, [.ref bg, .int (nI tc2_71)])), (bg, .inl (cI, 16, .inl gf2_70))]) [0, 1, 2, 3, 4, 5] rfl
    have hD9 := hD.sub (ws' := [(ho, .inr (0, [vz_0, vz_1, vz_2, .int (nI T), vz_4, vz_5, vz_6, .ref aK, vz_8, vz_9, .ref aH, .ref aU])), (aK, .inl (cI, 6, .inl fK)), (aH, .inl (cI, 6, .inl fH)), (aU, .inl (cI, 6, .inl fU)), (tr, .inr (4, [.ref bg, .int (nI tc2_71)])), (bg, .inl (cI, 16, .inl gf2_70))]) [0, 1, 2, 3, 4, 5] (by decide) rfl
    exact wt_iret hx hb hr hlocks hP9 hD9 hS ⟨gf2_70, tc2_71, rfl, (by omega)⟩ dX5_begin_201
  rcases wt_dec (bo) 23 with c_74 | c_74
  · subst c_74
    refine lv_tableIn (off := 181) (tgt := 202) hx hb dX5_begin_21 (by decide) (by decide) rfl (by decide) ?_
    refine lv_aload_n hx hb dX5_begin_202 rfl (lv_at hl 1 rfl) ?_
    refine lv_aload_n hx hb dX5_begin_203 rfl (lv_at hl 2 rfl) ?_
    refine lv_bipush (v := 20) hx hb dX5_begin_204 (by decide) ?_
    refine lv_iload_n hx hb dX5_begin_206 rfl (lv_at hl 4 rfl) ?_
    refine lv_iload hx hb dX5_begin_207 (lv_at hl 0 rfl) ?_
    refine wt_goI (wr := []) (wt_runSZ (As := [.ref ho, .ref tr, .int 20, .int (nI j), .int (nI (d + 1))]) (rest := []) ⟨hx, hb, hml, hown, hts⟩ (c_X5_begin_7 l D cI cZ cH _ _ _ ho aK aH aU T j (d + 1) fK fH fU tr bg tc2_5 gf2_4 20 vz_0 vz_1 vz_2 vz_4 vz_5 vz_6 vz_8 vz_9 (by first | assumption | omega) (by first | assumption | omega) (by first | assumption | omega) (by first | assumption | omega)) (va_cwS 5 hts gX5_begin_X5_begin rfl rfl rfl (by decide +kernel) ⟨Nat.le_of_ble_eq_true rfl, Nat.le_of_ble_eq_true rfl⟩) hK hP hD [0, 1, 2, 3, 4, 5] rfl (by decide) hZ hS hA rfl hl.1 rfl (Nat.le_of_ble_eq_true rfl) dX5_begin_209 ⟨Nat.le_of_ble_eq_true rfl, Nat.le_of_ble_eq_true rfl⟩) hP hD hS hA [0, 1, 2, 3, 4, 5] [] rfl rfl (by decide) (by decide) (fun r_75 w_76 H locs h_77 hP hD hS => ?_)
    obtain ⟨gf2_78, tc2_79, rfl, x_80⟩ := h_77
    have hP : va_P D vwCl [(ho, .inr (0, [vz_0, vz_1, vz_2, .int (nI T), vz_4, vz_5, vz_6, .ref aK, vz_8, vz_9, .ref aH, .ref aU])), (aK, .inl (cI, 6, .inl fK)), (aH, .inl (cI, 6, .inl fH)), (aU, .inl (cI, 6, .inl fU)), (tr, .inr (4, [.ref bg, .int (nI tc2_79)])), (bg, .inl (cI, 16, .inl gf2_78))] H := hP
    have hD : va_D A [(ho, .inr (0, [vz_0, vz_1, vz_2, .int (nI T), vz_4, vz_5, vz_6, .ref aK, vz_8, vz_9, .ref aH, .ref aU])), (aK, .inl (cI, 6, .inl fK)), (aH, .inl (cI, 6, .inl fH)), (aU, .inl (cI, 6, .inl fU)), (tr, .inr (4, [.ref bg, .int (nI tc2_79)])), (bg, .inl (cI, 16, .inl gf2_78))] := hD
    refine lv_aload_n hx hb dX5_begin_212 rfl (lv_at hl 1 rfl) ?_
    refine lv_aload_n hx hb dX5_begin_213 rfl (lv_at hl 2 rfl) ?_
    refine lv_aload_n hx hb dX5_begin_214 rfl (lv_at hl 1 rfl) ?_
    refine lv_iload_n hx hb dX5_begin_215 rfl (lv_at hl 4 rfl) ?_
    refine wt_goI (wr := [(aH, .inl (cI, 6, .inl fH)), (aU, .inl (cI, 6, .inl fU)), (tr, .inr (4, [.ref bg, .int (nI tc2_79)])), (bg, .inl (cI, 16, .inl gf2_78))]) (wt_runSZ (As := [.ref ho, .int (nI j)]) (rest := [.ref tr, .ref ho, .int r_75]) ⟨hx, hb, hml, hown, hts⟩ (c_X5_sizeBody l D cI cZ cH _ _ _ ho aK T j fK vz_0 vz_1 vz_2 vz_4 vz_5 vz_6 vz_8 vz_9 (.ref aH) (.ref aU) (by first | assumption | omega) (by first | assumption | omega)) (va_cwS 2 hts gX5_begin_X5_sizeBody rfl rfl rfl (by decide +kernel) ⟨Nat.le_of_ble_eq_true rfl, Nat.le_of_ble_eq_true rfl⟩) hK hP hD [0, 1] rfl (by decide) hZ hS hA rfl hl.1 rfl (Nat.le_of_ble_eq_true rfl) dX5_begin_216 ⟨Nat.le_of_ble_eq_true rfl, Nat.le_of_ble_eq_true rfl⟩) hP hD hS hA [0, 1] [2, 3, 4, 5] rfl rfl (by decide) (by decide) (fun r_81 w_82 H locs h_83 hP hD hS => ?_)
    obtain rfl := h_83
    have hP : va_P D vwCl [(aH, .inl (cI, 6, .inl fH)), (aU, .inl (cI, 6, .inl fU)), (tr, .inr (4, [.ref bg, .int (nI tc2_79)])), (bg, .inl (cI, 16, .inl gf2_78)), (ho, .inr (0, [vz_0, vz_1, vz_2, .int (nI T), vz_4, vz_5, vz_6, .ref aK, vz_8, vz_9, .ref aH, .ref aU])), (aK, .inl (cI, 6, .inl fK))] H := hP
    have hD : va_D A [(aH, .inl (cI, 6, .inl fH)), (aU, .inl (cI, 6, .inl fU)), (tr, .inr (4, [.ref bg, .int (nI tc2_79)])), (bg, .inl (cI, 16, .inl gf2_78)), (ho, .inr (0, [vz_0, vz_1, vz_2, .int (nI T), vz_4, vz_5, vz_6, .ref aK, vz_8, vz_9, .ref aH, .ref aU])), (aK, .inl (cI, 6, .inl fK))] := hD
    refine lv_iload_n hx hb dX5_begin_219 rfl (lv_at hl 4 rfl) ?_
    refine lv_iload hx hb dX5_begin_220 (lv_at hl 0 rfl) ?_
    refine wt_goI (wr := []) (wt_runSZ (As := [.ref ho, .ref tr, .int r_81, .int (nI j), .int (nI (d + 1))]) (rest := [.int r_75]) ⟨hx, hb, hml, hown, hts⟩ (c_X5_begin_7 l D cI cZ cH _ _ _ ho aK aH aU T j (d + 1) fK fH fU tr bg tc2_79 gf2_78 r_81 vz_0 vz_1 vz_2 vz_4 vz_5 vz_6 vz_8 vz_9 (by first | assumption | omega) (by first | assumption | omega) (by first | assumption | omega) (by first | assumption | omega)) (va_cwS 5 hts gX5_begin_X5_begin rfl rfl rfl (by decide +kernel) ⟨Nat.le_of_ble_eq_true rfl, Nat.le_of_ble_eq_true rfl⟩) hK hP hD [4, 5, 0, 1, 2, 3] rfl (by decide) hZ hS hA rfl hl.1 rfl (Nat.le_of_ble_eq_true rfl) dX5_begin_222 ⟨Nat.le_of_ble_eq_true rfl, Nat.le_of_ble_eq_true rfl⟩) hP hD hS hA [4, 5, 0, 1, 2, 3] [] rfl rfl (by decide) (by decide) (fun r_84 w_85 H locs h_86 hP hD hS => ?_)
    obtain ⟨gf2_87, tc2_88, rfl, x_89⟩ := h_86
    have hP : va_P D vwCl [(ho, .inr (0, [vz_0, vz_1, vz_2, .int (nI T), vz_4, vz_5, vz_6, .ref aK, vz_8, vz_9, .ref aH, .ref aU])), (aK, .inl (cI, 6, .inl fK)), (aH, .inl (cI, 6, .inl fH)), (aU, .inl (cI, 6, .inl fU)), (tr, .inr (4, [.ref bg, .int (nI tc2_88)])), (bg, .inl (cI, 16, .inl gf2_87))] H := hP
    have hD : va_D A [(ho, .inr (0, [vz_0, vz_1, vz_2, .int (nI T), vz_4, vz_5, vz_6, .ref aK, vz_8, vz_9, .ref aH, .ref aU])), (aK, .inl (cI, 6, .inl fK)), (aH, .inl (cI, 6, .inl fH)), (aU, .inl (cI, 6, .inl fU)), (tr, .inr (4, [.ref bg, .int (nI tc2_88)])), (bg, .inl (cI, 16, .inl gf2_87))] := hD
    refine lv_isub hx hb dX5_begin_225 ?_
    refine lv_topi (fun ov_90 _ => ?_)
    have hP9 := hP.sub (ws' := [(ho, .inr (0, [vz_0, vz_1, vz_2, .int (nI T), vz_4, vz_5, vz_6, .ref aK, vz_8, vz_9, .ref aH, .ref aU])), (aK, .inl (cI, 6, .inl fK)), (aH, .inl (cI, 6, .inl fH)), (aU, .inl (cI, 6, .inl fU)), (tr, .inr (4, [.ref bg, .int (nI tc2_88)])), (bg, .inl (cI, 16, .inl gf2_87))]) [0, 1, 2, 3, 4, 5] rfl
    have hD9 := hD.sub (ws' := [(ho, .inr (0, [vz_0, vz_1, vz_2, .int (nI T), vz_4, vz_5, vz_6, .ref aK, vz_8, vz_9, .ref aH, .ref aU])), (aK, .inl (cI, 6, .inl fK)), (aH, .inl (cI, 6, .inl fH)), (aU, .inl (cI, 6, .inl fU)), (tr, .inr (4, [.ref bg, .int (nI tc2_88)])), (bg, .inl (cI, 16, .inl gf2_87))]) [0, 1, 2, 3, 4, 5] (by decide) rfl
    exact wt_iret hx hb hr hlocks hP9 hD9 hS ⟨gf2_87, tc2_88, rfl, (by omega)⟩ dX5_begin_226
  rcases wt_dec (bo) 24 with c_91 | c_91
  · subst c_91
    refine lv_tableIn (off := 206) (tgt := 227) hx hb dX5_begin_21 (by decide) (by decide) rfl (by decide) ?_
    refine lv_aload_n hx hb dX5_begin_227 rfl (lv_at hl 1 rfl) ?_
    refine lv_aload_n hx hb dX5_begin_228 rfl (lv_at hl 2 rfl) ?_
    refine lv_bipush (v := 21) hx hb dX5_begin_229 (by decide) ?_
    refine lv_iload_n hx hb dX5_begin_231 rfl (lv_at hl 4 rfl) ?_
    refine lv_iload hx hb dX5_begin_232 (lv_at hl 0 rfl) ?_
    refine wt_goI (wr := []) (wt_runSZ (As := [.ref ho, .ref tr, .int 21, .int (nI j), .int (nI (d + 1))]) (rest := []) ⟨hx, hb, hml, hown, hts⟩ (c_X5_begin_7 l D cI cZ cH _ _ _ ho aK aH aU T j (d + 1) fK fH fU tr bg tc2_5 gf2_4 21 vz_0 vz_1 vz_2 vz_4 vz_5 vz_6 vz_8 vz_9 (by first | assumption | omega) (by first | assumption | omega) (by first | assumption | omega) (by first | assumption | omega)) (va_cwS 5 hts gX5_begin_X5_begin rfl rfl rfl (by decide +kernel) ⟨Nat.le_of_ble_eq_true rfl, Nat.le_of_ble_eq_true rfl⟩) hK hP hD [0, 1, 2, 3, 4, 5] rfl (by decide) hZ hS hA rfl hl.1 rfl (Nat.le_of_ble_eq_true rfl) dX5_begin_234 ⟨Nat.le_of_ble_eq_true rfl, Nat.le_of_ble_eq_true rfl⟩) hP hD hS hA [0, 1, 2, 3, 4, 5] [] rfl rfl (by decide) (by decide) (fun r_92 w_93 H locs h_94 hP hD hS => ?_)
    obtain ⟨gf2_95, tc2_96, rfl, x_97⟩ := h_94
    have hP : va_P D vwCl [(ho, .inr (0, [vz_0, vz_1, vz_2, .int (nI T), vz_4, vz_5, vz_6, .ref aK, vz_8, vz_9, .ref aH, .ref aU])), (aK, .inl (cI, 6, .inl fK)), (aH, .inl (cI, 6, .inl fH)), (aU, .inl (cI, 6, .inl fU)), (tr, .inr (4, [.ref bg, .int (nI tc2_96)])), (bg, .inl (cI, 16, .inl gf2_95))] H := hP
    have hD : va_D A [(ho, .inr (0, [vz_0, vz_1, vz_2, .int (nI T), vz_4, vz_5, vz_6, .ref aK, vz_8, vz_9, .ref aH, .ref aU])), (aK, .inl (cI, 6, .inl fK)), (aH, .inl (cI, 6, .inl fH)), (aU, .inl (cI, 6, .inl fU)), (tr, .inr (4, [.ref bg, .int (nI tc2_96)])), (bg, .inl (cI, 16, .inl gf2_95))] := hD
    refine lv_iconst (v := 2) hx hb dX5_begin_237 (by decide) ?_
    refine lv_imul hx hb dX5_begin_238 ?_
    refine lv_topi (fun ov_98 _ => ?_)
    have hP9 := hP.sub (ws' := [(ho, .inr (0, [vz_0, vz_1, vz_2, .int (nI T), vz_4, vz_5, vz_6, .ref aK, vz_8, vz_9, .ref aH, .ref aU])), (aK, .inl (cI, 6, .inl fK)), (aH, .inl (cI, 6, .inl fH)), (aU, .inl (cI, 6, .inl fU)), (tr, .inr (4, [.ref bg, .int (nI tc2_96)])), (bg, .inl (cI, 16, .inl gf2_95))]) [0, 1, 2, 3, 4, 5] rfl
    have hD9 := hD.sub (ws' := [(ho, .inr (0, [vz_0, vz_1, vz_2, .int (nI T), vz_4, vz_5, vz_6, .ref aK, vz_8, vz_9, .ref aH, .ref aU])), (aK, .inl (cI, 6, .inl fK)), (aH, .inl (cI, 6, .inl fH)), (aU, .inl (cI, 6, .inl fU)), (tr, .inr (4, [.ref bg, .int (nI tc2_96)])), (bg, .inl (cI, 16, .inl gf2_95))]) [0, 1, 2, 3, 4, 5] (by decide) rfl
    exact wt_iret hx hb hr hlocks hP9 hD9 hS ⟨gf2_95, tc2_96, rfl, (by omega)⟩ dX5_begin_239
  refine lv_tableOut (tgt := 240) hx hb dX5_begin_21 (by have := lv_neT (a := 10) c_8 rfl; have := lv_neT (a := 11) c_10 rfl; have := lv_neT (a := 12) c_27 rfl; have := lv_neT (a := 13) c_35 rfl; have := lv_neT (a := 14) c_43 rfl; have := lv_neT (a := 15) c_51 rfl; have := lv_neT (a := 16) c_52 rfl; have := lv_neT (a := 17) c_53 rfl; have := lv_neT (a := 18) c_54 rfl; have := lv_neT (a := 19) c_55 rfl; have := lv_neT (a := 20) c_56 rfl; have := lv_neT (a := 21) c_57 rfl; have := lv_neT (a := 22) c_66 rfl; have := lv_neT (a := 23) c_74 rfl; have := lv_neT (a := 24) c_91 rfl; omega) (by decide) ?_
  refine lv_iconst (v := 0) hx hb dX5_begin_240 (by decide) ?_
  have hP9 := hP.sub (ws' := [(ho, .inr (0, [vz_0, vz_1, vz_2, .int (nI T), vz_4, vz_5, vz_6, .ref aK, vz_8, vz_9, .ref aH, .ref aU])), (aK, .inl (cI, 6, .inl fK)), (aH, .inl (cI, 6, .inl fH)), (aU, .inl (cI, 6, .inl fU)), (tr, .inr (4, [.ref bg, .int (nI tc2_5)])), (bg, .inl (cI, 16, .inl gf2_4))]) [0, 1, 2, 3, 4, 5] rfl
  have hD9 := hD.sub (ws' := [(ho, .inr (0, [vz_0, vz_1, vz_2, .int (nI T), vz_4, vz_5, vz_6, .ref aK, vz_8, vz_9, .ref aH, .ref aU])), (aK, .inl (cI, 6, .inl fK)), (aH, .inl (cI, 6, .inl fH)), (aU, .inl (cI, 6, .inl fU)), (tr, .inr (4, [.ref bg, .int (nI tc2_5)])), (bg, .inl (cI, 16, .inl gf2_4))]) [0, 1, 2, 3, 4, 5] (by decide) rfl
  exact wt_iret hx hb hr hlocks hP9 hD9 hS ⟨gf2_4, tc2_5, rfl, (by omega)⟩ dX5_begin_241
set_option maxHeartbeats 4000000 in
set_option maxRecDepth 100000 in
theorem c_X5_begin_9 (l : Launch) (D : va_G) (cI cZ cH : ClassId) (ab sb mb : Nat) (ho aK aH aU : Nat) (T j d : Nat) (fK fH fU : Nat → Int32) (tr bg : Nat) (tc : Nat) (gf : Nat → Int32) (bo : Int32) (vz_0 vz_1 vz_2 vz_4 vz_5 vz_6 vz_8 vz_9 : Value) (hT6 : T ≤ 6) (hjT : j < T) (hd : d + 9 = 16) (htc : tc ≤ 16) : wt_MZ (wt_ZS ab sb mb abF sbF mbF) l yX5_begin wsX5_begin ({ frames := 10, cells := 0, slots := 0, locals := 244 } : Room) D (wt_T cI cZ cH) [.ref ho, .ref tr, .int bo, .int (nI j), .int (nI d)] [(ho, .inr (0, [vz_0, vz_1, vz_2, .int (nI T), vz_4, vz_5, vz_6, .ref aK, vz_8, vz_9, .ref aH, .ref aU])), (aK, .inl (cI, 6, .inl fK)), (aH, .inl (cI, 6, .inl fH)), (aU, .inl (cI, 6, .inl fU)), (tr, .inr (4, [.ref bg, .int (nI tc)])), (bg, .inl (cI, 16, .inl gf))] (wt_QI D (fun r w => ∃ (gf2 : Nat → Int32) (tc2 : Nat), w = [(ho, .inr (0, [vz_0, vz_1, vz_2, .int (nI T), vz_4, vz_5, vz_6, .ref aK, vz_8, vz_9, .ref aH, .ref aU])), (aK, .inl (cI, 6, .inl fK)), (aH, .inl (cI, 6, .inl fH)), (aU, .inl (cI, 6, .inl fU)), (tr, .inr (4, [.ref bg, .int (nI tc2)])), (bg, .inl (cI, 16, .inl gf2))] ∧ tc2 ≤ 16)) := by
  refine wt_MZ.ofW (cc := cX5_begin) (maxL := 6) (ret := (some .int)) (by decide) rfl (Nat.le_of_ble_eq_true rfl) ?_
  intro p e s m below meth c A ls hx hb hr hts hown hlocks hml hnm hP hK hD hA hS hl hZ
  have hP : va_P D vwCl [(ho, .inr (0, [vz_0, vz_1, vz_2, .int (nI T), vz_4, vz_5, vz_6, .ref aK, vz_8, vz_9, .ref aH, .ref aU])), (aK, .inl (cI, 6, .inl fK)), (aH, .inl (cI, 6, .inl fH)), (aU, .inl (cI, 6, .inl fU)), (tr, .inr (4, [.ref bg, .int (nI tc)])), (bg, .inl (cI, 16, .inl gf))] s.heap := hP
  have hown : s.vm.findClass RX5 = some m.cls := hown
  have hl : lv_has ls 6 [(0, .ref ho), (1, .ref tr), (2, .int bo), (3, .int (nI j)), (4, .int (nI d))] := hl
  have hi0 : ∀ w ∈ u_ws RX0 TX0 12, w ∈ wsX5_begin := by decide +kernel
  have wf175 := hts (.fieldLink RX5 175 "WarmTubes$House" "up" "[I") (by decide +kernel)
  have wf196 := hts (.fieldLink RX5 196 "WarmTubes$House" "holds" "[I") (by decide +kernel)
  refine lv_iload hx hb dX5_begin_0 (lv_at hl 4 rfl) ?_
  refine lv_bipush (v := 16) hx hb dX5_begin_2 (by decide) ?_
  refine lv_icmp_lt (tgt := 9) hx hb dX5_begin_4 (by decide) (fun _ => ?_) (fun h => absurd (nI_lt (a := d) (b := 16) (by omega) (by omega)) h)
  refine lv_aload_n hx hb dX5_begin_9 rfl (lv_at hl 1 rfl) ?_
  refine lv_iload_n hx hb dX5_begin_10 rfl (lv_at hl 2 rfl) ?_
  refine wt_goV (wr := [(ho, .inr (0, [vz_0, vz_1, vz_2, .int (nI T), vz_4, vz_5, vz_6, .ref aK, vz_8, vz_9, .ref aH, .ref aU])), (aK, .inl (cI, 6, .inl fK)), (aH, .inl (cI, 6, .inl fH)), (aU, .inl (cI, 6, .inl fU))]) (wt_runV (As := [.int bo]) (rest := []) ⟨hx, hb, hml, hown, hts⟩ (c_X4_leave l D cI cZ cH tr bg tc gf bo (by first | assumption | omega)) (cwV 1 hts gX5_begin_X4_leave rfl rfl rfl (by decide +kernel) ⟨Nat.le_of_ble_eq_true rfl, Nat.le_of_ble_eq_true rfl⟩) hK hP hD [4, 5] rfl (by decide) (va_recv hK.1 hP (ci := 4) (q0 := 4) rfl rfl) rfl hl.1 rfl (Nat.le_of_ble_eq_true rfl) dX5_begin_11 ⟨Nat.le_of_ble_eq_true rfl, Nat.le_of_ble_eq_true rfl⟩) hP hD hS hA [4, 5] [0, 1, 2, 3] rfl rfl (by decide) (by decide) (fun w_2 H locs h_3 hP hD hS => ?_)
  obtain ⟨gf2_4, tc2_5, rfl, x_6⟩ := h_3
  have hP : va_P D vwCl [(ho, .inr (0, [vz_0, vz_1, vz_2, .int (nI T), vz_4, vz_5, vz_6, .ref aK, vz_8, vz_9, .ref aH, .ref aU])), (aK, .inl (cI, 6, .inl fK)), (aH, .inl (cI, 6, .inl fH)), (aU, .inl (cI, 6, .inl fU)), (tr, .inr (4, [.ref bg, .int (nI tc2_5)])), (bg, .inl (cI, 16, .inl gf2_4))] H := hP
  have hD : va_D A [(ho, .inr (0, [vz_0, vz_1, vz_2, .int (nI T), vz_4, vz_5, vz_6, .ref aK, vz_8, vz_9, .ref aH, .ref aU])), (aK, .inl (cI, 6, .inl fK)), (aH, .inl (cI, 6, .inl fH)), (aU, .inl (cI, 6, .inl fU)), (tr, .inr (4, [.ref bg, .int (nI tc2_5)])), (bg, .inl (cI, 16, .inl gf2_4))] := hD
  refine lv_iload hx hb dX5_begin_14 (lv_at hl 4 rfl) ?_
  refine lv_iconst (v := 1) hx hb dX5_begin_16 (by decide) ?_
  refine lv_iadd hx hb dX5_begin_17 ?_
  refine wt_top (z := nI (d + 1)) (nI_add d 1) ?_
  refine lv_istore (lv' := [(5, .int (nI (d + 1))), (0, .ref ho), (1, .ref tr), (2, .int bo), (3, .int (nI j)), (4, .int (nI d))]) hx hb dX5_begin_18 hl (by decide) rfl (fun ls hl => ?_)
  refine lv_iload_n hx hb dX5_begin_20 rfl (lv_at hl 3 rfl) ?_
  rcases wt_dec (bo) 10 with c_8 | c_8
  · subst c_8
    refine lv_tableIn (off := 75) (tgt := 96) hx hb dX5_begin_21 (by decide) (by decide) rfl (by decide) ?_
    refine lv_aload_n hx hb dX5_begin_96 rfl (lv_at hl 1 rfl) ?_
    refine va_get (D := D) (ci := 0) (v := .ref aH) (C := RX0) (T := TX0) (N := 12) hx hb hts hi0 hown hK.1 hP 0 rfl rfl 10 (by decide) wf196 (fun _ h9 => h9) rfl dX5_begin_97 ?_
    refine lv_iload_n hx hb dX5_begin_100 rfl (lv_at hl 4 rfl) ?_
    refine va_iald hx hb hK.1 hP 2 0 rfl rfl (vp_in_nI (by omega) (by omega)) dX5_begin_101 ?_
    refine lv_topi (fun ov_9 _ => ?_)
    have hP9 := hP.sub (ws' := [(ho, .inr (0, [vz_0, vz_1, vz_2, .int (nI T), vz_4, vz_5, vz_6, .ref aK, vz_8, vz_9, .ref aH, .ref aU])), (aK, .inl (cI, 6, .inl fK)), (aH, .inl (cI, 6, .inl fH)), (aU, .inl (cI, 6, .inl fU)), (tr, .inr (4, [.ref bg, .int (nI tc2_5)])), (bg, .inl (cI, 16, .inl gf2_4))]) [0, 1, 2, 3, 4, 5] rfl
    have hD9 := hD.sub (ws' := [(ho, .inr (0, [vz_0, vz_1, vz_2, .int (nI T), vz_4, vz_5, vz_6, .ref aK, vz_8, vz_9, .ref aH, .ref aU])), (aK, .inl (cI, 6, .inl fK)), (aH, .inl (cI, 6, .inl fH)), (aU, .inl (cI, 6, .inl fU)), (tr, .inr (4, [.ref bg, .int (nI tc2_5)])), (bg, .inl (cI, 16, .inl gf2_4))]) [0, 1, 2, 3, 4, 5] (by decide) rfl
    exact wt_iret hx hb hr hlocks hP9 hD9 hS ⟨gf2_4, tc2_5, rfl, (by omega)⟩ dX5_begin_102
  rcases wt_dec (bo) 11 with c_10 | c_10
  · subst c_10
    refine lv_tableIn (off := 82) (tgt := 103) hx hb dX5_begin_21 (by decide) (by decide) rfl (by decide) ?_
    refine lv_aload_n hx hb dX5_begin_103 rfl (lv_at hl 1 rfl) ?_
    refine lv_aload_n hx hb dX5_begin_104 rfl (lv_at hl 2 rfl) ?_
    refine lv_bipush (v := 10) hx hb dX5_begin_105 (by decide) ?_
    refine lv_iload_n hx hb dX5_begin_107 rfl (lv_at hl 4 rfl) ?_
    refine lv_iload hx hb dX5_begin_108 (lv_at hl 0 rfl) ?_
    refine wt_goI (wr := []) (wt_runSZ (As := [.ref ho, .ref tr, .int 10, .int (nI j), .int (nI (d + 1))]) (rest := []) ⟨hx, hb, hml, hown, hts⟩ (c_X5_begin_8 l D cI cZ cH _ _ _ ho aK aH aU T j (d + 1) fK fH fU tr bg tc2_5 gf2_4 10 vz_0 vz_1 vz_2 vz_4 vz_5 vz_6 vz_8 vz_9 (by first | assumption | omega) (by first | assumption | omega) (by first | assumption | omega) (by first | assumption | omega)) (va_cwS 5 hts gX5_begin_X5_begin rfl rfl rfl (by decide +kernel) ⟨Nat.le_of_ble_eq_true rfl, Nat.le_of_ble_eq_true rfl⟩) hK hP hD [0, 1, 2, 3, 4, 5] rfl (by decide) hZ hS hA rfl hl.1 rfl (Nat.le_of_ble_eq_true rfl) dX5_begin_110 ⟨Nat.le_of_ble_eq_true rfl, Nat.le_of_ble_eq_true rfl⟩) hP hD hS hA [0, 1, 2, 3, 4, 5] [] rfl rfl (by decide) (by decide) (fun r_11 w_12 H locs h_13 hP hD hS => ?_)
    obtain ⟨gf2_14, tc2_15, rfl, x_16⟩ := h_13
    have hP : va_P D vwCl [(ho, .inr (0, [vz_0, vz_1, vz_2, .int (nI T), vz_4, vz_5, vz_6, .ref aK, vz_8, vz_9, .ref aH, .ref aU])), (aK, .inl (cI, 6, .inl fK)), (aH, .inl (cI, 6, .inl fH)), (aU, .inl (cI, 6, .inl fU)), (tr, .inr (4, [.ref bg, .int (nI tc2_15)])), (bg, .inl (cI, 16, .inl gf2_14))] H := hP
    have hD : va_D A [(ho, .inr (0, [vz_0, vz_1, vz_2, .int (nI T), vz_4, vz_5, vz_6, .ref aK, vz_8, vz_9, .ref aH, .ref aU])), (aK, .inl (cI, 6, .inl fK)), (aH, .inl (cI, 6, .inl fH)), (aU, .inl (cI, 6, .inl fU)), (tr, .inr (4, [.ref bg, .int (nI tc2_15)])), (bg, .inl (cI, 16, .inl gf2_14))] := hD
    refine lv_aload_n hx hb dX5_begin_113 rfl (lv_at hl 1 rfl) ?_
    refine lv_aload_n hx hb dX5_begin_114 rfl (lv_at hl 2 rfl) ?_
    refine lv_aload_n hx hb dX5_begin_115 rfl (lv_at hl 1 rfl) ?_
    refine lv_iload_n hx hb dX5_begin_116 rfl (lv_at hl 4 rfl) ?_
    refine wt_goI (wr := [(aH, .inl (cI, 6, .inl fH)), (aU, .inl (cI, 6, .inl fU)), (tr, .inr (4, [.ref bg, .int (nI tc2_15)])), (bg, .inl (cI, 16, .inl gf2_14))]) (wt_runSZ (As := [.ref ho, .int (nI j)]) (rest := [.ref tr, .ref ho, .int r_11]) ⟨hx, hb, hml, hown, hts⟩ (c_X5_markBody l D cI cZ cH _ _ _ ho aK T j fK vz_0 vz_1 vz_2 vz_4 vz_5 vz_6 vz_8 vz_9 (.ref aH) (.ref aU) (by first | assumption | omega) (by first | assumption | omega)) (va_cwS 2 hts gX5_begin_X5_markBody rfl rfl rfl (by decide +kernel) ⟨Nat.le_of_ble_eq_true rfl, Nat.le_of_ble_eq_true rfl⟩) hK hP hD [0, 1] rfl (by decide) hZ hS hA rfl hl.1 rfl (Nat.le_of_ble_eq_true rfl) dX5_begin_117 ⟨Nat.le_of_ble_eq_true rfl, Nat.le_of_ble_eq_true rfl⟩) hP hD hS hA [0, 1] [2, 3, 4, 5] rfl rfl (by decide) (by decide) (fun r_17 w_18 H locs h_19 hP hD hS => ?_)
    obtain rfl := h_19
    have hP : va_P D vwCl [(aH, .inl (cI, 6, .inl fH)), (aU, .inl (cI, 6, .inl fU)), (tr, .inr (4, [.ref bg, .int (nI tc2_15)])), (bg, .inl (cI, 16, .inl gf2_14)), (ho, .inr (0, [vz_0, vz_1, vz_2, .int (nI T), vz_4, vz_5, vz_6, .ref aK, vz_8, vz_9, .ref aH, .ref aU])), (aK, .inl (cI, 6, .inl fK))] H := hP
    have hD : va_D A [(aH, .inl (cI, 6, .inl fH)), (aU, .inl (cI, 6, .inl fU)), (tr, .inr (4, [.ref bg, .int (nI tc2_15)])), (bg, .inl (cI, 16, .inl gf2_14)), (ho, .inr (0, [vz_0, vz_1, vz_2, .int (nI T), vz_4, vz_5, vz_6, .ref aK, vz_8, vz_9, .ref aH, .ref aU])), (aK, .inl (cI, 6, .inl fK))] := hD
    refine lv_iload_n hx hb dX5_begin_120 rfl (lv_at hl 4 rfl) ?_
    refine lv_iload hx hb dX5_begin_121 (lv_at hl 0 rfl) ?_
    refine wt_goI (wr := []) (wt_runSZ (As := [.ref ho, .ref tr, .int r_17, .int (nI j), .int (nI (d + 1))]) (rest := [.int r_11]) ⟨hx, hb, hml, hown, hts⟩ (c_X5_begin_8 l D cI cZ cH _ _ _ ho aK aH aU T j (d + 1) fK fH fU tr bg tc2_15 gf2_14 r_17 vz_0 vz_1 vz_2 vz_4 vz_5 vz_6 vz_8 vz_9 (by first | assumption | omega) (by first | assumption | omega) (by first | assumption | omega) (by first | assumption | omega)) (va_cwS 5 hts gX5_begin_X5_begin rfl rfl rfl (by decide +kernel) ⟨Nat.le_of_ble_eq_true rfl, Nat.le_of_ble_eq_true rfl⟩) hK hP hD [4, 5, 0, 1, 2, 3] rfl (by decide) hZ hS hA rfl hl.1 rfl (Nat.le_of_ble_eq_true rfl) dX5_begin_123 ⟨Nat.le_of_ble_eq_true rfl, Nat.le_of_ble_eq_true rfl⟩) hP hD hS hA [4, 5, 0, 1, 2, 3] [] rfl rfl (by decide) (by decide) (fun r_20 w_21 H locs h_22 hP hD hS => ?_)
    obtain ⟨gf2_23, tc2_24, rfl, x_25⟩ := h_22
    have hP : va_P D vwCl [(ho, .inr (0, [vz_0, vz_1, vz_2, .int (nI T), vz_4, vz_5, vz_6, .ref aK, vz_8, vz_9, .ref aH, .ref aU])), (aK, .inl (cI, 6, .inl fK)), (aH, .inl (cI, 6, .inl fH)), (aU, .inl (cI, 6, .inl fU)), (tr, .inr (4, [.ref bg, .int (nI tc2_24)])), (bg, .inl (cI, 16, .inl gf2_23))] H := hP
    have hD : va_D A [(ho, .inr (0, [vz_0, vz_1, vz_2, .int (nI T), vz_4, vz_5, vz_6, .ref aK, vz_8, vz_9, .ref aH, .ref aU])), (aK, .inl (cI, 6, .inl fK)), (aH, .inl (cI, 6, .inl fH)), (aU, .inl (cI, 6, .inl fU)), (tr, .inr (4, [.ref bg, .int (nI tc2_24)])), (bg, .inl (cI, 16, .inl gf2_23))] := hD
    refine lv_iadd hx hb dX5_begin_126 ?_
    refine lv_topi (fun ov_26 _ => ?_)
    have hP9 := hP.sub (ws' := [(ho, .inr (0, [vz_0, vz_1, vz_2, .int (nI T), vz_4, vz_5, vz_6, .ref aK, vz_8, vz_9, .ref aH, .ref aU])), (aK, .inl (cI, 6, .inl fK)), (aH, .inl (cI, 6, .inl fH)), (aU, .inl (cI, 6, .inl fU)), (tr, .inr (4, [.ref bg, .int (nI tc2_24)])), (bg, .inl (cI, 16, .inl gf2_23))]) [0, 1, 2, 3, 4, 5] rfl
    have hD9 := hD.sub (ws' := [(ho, .inr (0, [vz_0, vz_1, vz_2, .int (nI T), vz_4, vz_5, vz_6, .ref aK, vz_8, vz_9, .ref aH, .ref aU])), (aK, .inl (cI, 6, .inl fK)), (aH, .inl (cI, 6, .inl fH)), (aU, .inl (cI, 6, .inl fU)), (tr, .inr (4, [.ref bg, .int (nI tc2_24)])), (bg, .inl (cI, 16, .inl gf2_23))]) [0, 1, 2, 3, 4, 5] (by decide) rfl
    exact wt_iret hx hb hr hlocks hP9 hD9 hS ⟨gf2_23, tc2_24, rfl, (by omega)⟩ dX5_begin_127
  rcases wt_dec (bo) 12 with c_27 | c_27
  · subst c_27
    refine lv_tableIn (off := 107) (tgt := 128) hx hb dX5_begin_21 (by decide) (by decide) rfl (by decide) ?_
    refine lv_aload_n hx hb dX5_begin_128 rfl (lv_at hl 1 rfl) ?_
    refine lv_aload_n hx hb dX5_begin_129 rfl (lv_at hl 2 rfl) ?_
    refine lv_bipush (v := 11) hx hb dX5_begin_130 (by decide) ?_
    refine lv_iload_n hx hb dX5_begin_132 rfl (lv_at hl 4 rfl) ?_
    refine lv_iload hx hb dX5_begin_133 (lv_at hl 0 rfl) ?_
    refine wt_goI (wr := []) (wt_runSZ (As := [.ref ho, .ref tr, .int 11, .int (nI j), .int (nI (d + 1))]) (rest := []) ⟨hx, hb, hml, hown, hts⟩ (c_X5_begin_8 l D cI cZ cH _ _ _ ho aK aH aU T j (d + 1) fK fH fU tr bg tc2_5 gf2_4 11 vz_0 vz_1 vz_2 vz_4 vz_5 vz_6 vz_8 vz_9 (by first | assumption | omega) (by first | assumption | omega) (by first | assumption | omega) (by first | assumption | omega)) (va_cwS 5 hts gX5_begin_X5_begin rfl rfl rfl (by decide +kernel) ⟨Nat.le_of_ble_eq_true rfl, Nat.le_of_ble_eq_true rfl⟩) hK hP hD [0, 1, 2, 3, 4, 5] rfl (by decide) hZ hS hA rfl hl.1 rfl (Nat.le_of_ble_eq_true rfl) dX5_begin_135 ⟨Nat.le_of_ble_eq_true rfl, Nat.le_of_ble_eq_true rfl⟩) hP hD hS hA [0, 1, 2, 3, 4, 5] [] rfl rfl (by decide) (by decide) (fun r_28 w_29 H locs h_30 hP hD hS => ?_)
    obtain ⟨gf2_31, tc2_32, rfl, x_33⟩ := h_30
    have hP : va_P D vwCl [(ho, .inr (0, [vz_0, vz_1, vz_2, .int (nI T), vz_4, vz_5, vz_6, .ref aK, vz_8, vz_9, .ref aH, .ref aU])), (aK, .inl (cI, 6, .inl fK)), (aH, .inl (cI, 6, .inl fH)), (aU, .inl (cI, 6, .inl fU)), (tr, .inr (4, [.ref bg, .int (nI tc2_32)])), (bg, .inl (cI, 16, .inl gf2_31))] H := hP
    have hD : va_D A [(ho, .inr (0, [vz_0, vz_1, vz_2, .int (nI T), vz_4, vz_5, vz_6, .ref aK, vz_8, vz_9, .ref aH, .ref aU])), (aK, .inl (cI, 6, .inl fK)), (aH, .inl (cI, 6, .inl fH)), (aU, .inl (cI, 6, .inl fU)), (tr, .inr (4, [.ref bg, .int (nI tc2_32)])), (bg, .inl (cI, 16, .inl gf2_31))] := hD
    refine lv_ineg hx hb dX5_begin_138 ?_
    refine lv_topi (fun ov_34 _ => ?_)
    have hP9 := hP.sub (ws' := [(ho, .inr (0, [vz_0, vz_1, vz_2, .int (nI T), vz_4, vz_5, vz_6, .ref aK, vz_8, vz_9, .ref aH, .ref aU])), (aK, .inl (cI, 6, .inl fK)), (aH, .inl (cI, 6, .inl fH)), (aU, .inl (cI, 6, .inl fU)), (tr, .inr (4, [.ref bg, .int (nI tc2_32)])), (bg, .inl (cI, 16, .inl gf2_31))]) [0, 1, 2, 3, 4, 5] rfl
    have hD9 := hD.sub (ws' := [(ho, .inr (0, [vz_0, vz_1, vz_2, .int (nI T), vz_4, vz_5, vz_6, .ref aK, vz_8, vz_9, .ref aH, .ref aU])), (aK, .inl (cI, 6, .inl fK)), (aH, .inl (cI, 6, .inl fH)), (aU, .inl (cI, 6, .inl fU)), (tr, .inr (4, [.ref bg, .int (nI tc2_32)])), (bg, .inl (cI, 16, .inl gf2_31))]) [0, 1, 2, 3, 4, 5] (by decide) rfl
    exact wt_iret hx hb hr hlocks hP9 hD9 hS ⟨gf2_31, tc2_32, rfl, (by omega)⟩ dX5_begin_139
  rcases wt_dec (bo) 13 with c_35 | c_35
  · subst c_35
    refine lv_tableIn (off := 119) (tgt := 140) hx hb dX5_begin_21 (by decide) (by decide) rfl (by decide) ?_
    refine lv_aload_n hx hb dX5_begin_140 rfl (lv_at hl 1 rfl) ?_
    refine lv_aload_n hx hb dX5_begin_141 rfl (lv_at hl 2 rfl) ?_
    refine lv_bipush (v := 10) hx hb dX5_begin_142 (by decide) ?_
    refine lv_iload_n hx hb dX5_begin_144 rfl (lv_at hl 4 rfl) ?_
    refine lv_iload hx hb dX5_begin_145 (lv_at hl 0 rfl) ?_
    refine wt_goI (wr := []) (wt_runSZ (As := [.ref ho, .ref tr, .int 10, .int (nI j), .int (nI (d + 1))]) (rest := []) ⟨hx, hb, hml, hown, hts⟩ (c_X5_begin_8 l D cI cZ cH _ _ _ ho aK aH aU T j (d + 1) fK fH fU tr bg tc2_5 gf2_4 10 vz_0 vz_1 vz_2 vz_4 vz_5 vz_6 vz_8 vz_9 (by first | assumption | omega) (by first | assumption | omega) (by first | assumption | omega) (by first | assumption | omega)) (va_cwS 5 hts gX5_begin_X5_begin rfl rfl rfl (by decide +kernel) ⟨Nat.le_of_ble_eq_true rfl, Nat.le_of_ble_eq_true rfl⟩) hK hP hD [0, 1, 2, 3, 4, 5] rfl (by decide) hZ hS hA rfl hl.1 rfl (Nat.le_of_ble_eq_true rfl) dX5_begin_147 ⟨Nat.le_of_ble_eq_true rfl, Nat.le_of_ble_eq_true rfl⟩) hP hD hS hA [0, 1, 2, 3, 4, 5] [] rfl rfl (by decide) (by decide) (fun r_36 w_37 H locs h_38 hP hD hS => ?_)
    obtain ⟨gf2_39, tc2_40, rfl, x_41⟩ := h_38
    have hP : va_P D vwCl [(ho, .inr (0, [vz_0, vz_1, vz_2, .int (nI T), vz_4, vz_5, vz_6, .ref aK, vz_8, vz_9, .ref aH, .ref aU])), (aK, .inl (cI, 6, .inl fK)), (aH, .inl (cI, 6, .inl fH)), (aU, .inl (cI, 6, .inl fU)), (tr, .inr (4, [.ref bg, .int (nI tc2_40)])), (bg, .inl (cI, 16, .inl gf2_39))] H := hP
    have hD : va_D A [(ho, .inr (0, [vz_0, vz_1, vz_2, .int (nI T), vz_4, vz_5, vz_6, .ref aK, vz_8, vz_9, .ref aH, .ref aU])), (aK, .inl (cI, 6, .inl fK)), (aH, .inl (cI, 6, .inl fH)), (aU, .inl (cI, 6, .inl fU)), (tr, .inr (4, [.ref bg, .int (nI tc2_40)])), (bg, .inl (cI, 16, .inl gf2_39))] := hD
    refine lv_bipush (v := 100) hx hb dX5_begin_150 (by decide) ?_
    refine lv_isub hx hb dX5_begin_152 ?_
    refine lv_topi (fun ov_42 _ => ?_)
    have hP9 := hP.sub (ws' := [(ho, .inr (0, [vz_0, vz_1, vz_2, .int (nI T), vz_4, vz_5, vz_6, .ref aK, vz_8, vz_9, .ref aH, .ref aU])), (aK, .inl (cI, 6, .inl fK)), (aH, .inl (cI, 6, .inl fH)), (aU, .inl (cI, 6, .inl fU)), (tr, .inr (4, [.ref bg, .int (nI tc2_40)])), (bg, .inl (cI, 16, .inl gf2_39))]) [0, 1, 2, 3, 4, 5] rfl
    have hD9 := hD.sub (ws' := [(ho, .inr (0, [vz_0, vz_1, vz_2, .int (nI T), vz_4, vz_5, vz_6, .ref aK, vz_8, vz_9, .ref aH, .ref aU])), (aK, .inl (cI, 6, .inl fK)), (aH, .inl (cI, 6, .inl fH)), (aU, .inl (cI, 6, .inl fU)), (tr, .inr (4, [.ref bg, .int (nI tc2_40)])), (bg, .inl (cI, 16, .inl gf2_39))]) [0, 1, 2, 3, 4, 5] (by decide) rfl
    exact wt_iret hx hb hr hlocks hP9 hD9 hS ⟨gf2_39, tc2_40, rfl, (by omega)⟩ dX5_begin_153
  rcases wt_dec (bo) 14 with c_43 | c_43
  · subst c_43
    refine lv_tableIn (off := 133) (tgt := 154) hx hb dX5_begin_21 (by decide) (by decide) rfl (by decide) ?_
    refine lv_aload_n hx hb dX5_begin_154 rfl (lv_at hl 1 rfl) ?_
    refine lv_aload_n hx hb dX5_begin_155 rfl (lv_at hl 2 rfl) ?_
    refine lv_bipush (v := 13) hx hb dX5_begin_156 (by decide) ?_
    refine lv_iload_n hx hb dX5_begin_158 rfl (lv_at hl 4 rfl) ?_
    refine lv_iload hx hb dX5_begin_159 (lv_at hl 0 rfl) ?_
    refine wt_goI (wr := []) (wt_runSZ (As := [.ref ho, .ref tr, .int 13, .int (nI j), .int (nI (d + 1))]) (rest := []) ⟨hx, hb, hml, hown, hts⟩ (c_X5_begin_8 l D cI cZ cH _ _ _ ho aK aH aU T j (d + 1) fK fH fU tr bg tc2_5 gf2_4 13 vz_0 vz_1 vz_2 vz_4 vz_5 vz_6 vz_8 vz_9 (by first | assumption | omega) (by first | assumption | omega) (by first | assumption | omega) (by first | assumption | omega)) (va_cwS 5 hts gX5_begin_X5_begin rfl rfl rfl (by decide +kernel) ⟨Nat.le_of_ble_eq_true rfl, Nat.le_of_ble_eq_true rfl⟩) hK hP hD [0, 1, 2, 3, 4, 5] rfl (by decide) hZ hS hA rfl hl.1 rfl (Nat.le_of_ble_eq_true rfl) dX5_begin_161 ⟨Nat.le_of_ble_eq_true rfl, Nat.le_of_ble_eq_true rfl⟩) hP hD hS hA [0, 1, 2, 3, 4, 5] [] rfl rfl (by decide) (by decide) (fun r_44 w_45 H locs h_46 hP hD hS => ?_)
    obtain ⟨gf2_47, tc2_48, rfl, x_49⟩ := h_46
    have hP : va_P D vwCl [(ho, .inr (0, [vz_0, vz_1, vz_2, .int (nI T), vz_4, vz_5, vz_6, .ref aK, vz_8, vz_9, .ref aH, .ref aU])), (aK, .inl (cI, 6, .inl fK)), (aH, .inl (cI, 6, .inl fH)), (aU, .inl (cI, 6, .inl fU)), (tr, .inr (4, [.ref bg, .int (nI tc2_48)])), (bg, .inl (cI, 16, .inl gf2_47))] H := hP
    have hD : va_D A [(ho, .inr (0, [vz_0, vz_1, vz_2, .int (nI T), vz_4, vz_5, vz_6, .ref aK, vz_8, vz_9, .ref aH, .ref aU])), (aK, .inl (cI, 6, .inl fK)), (aH, .inl (cI, 6, .inl fH)), (aU, .inl (cI, 6, .inl fU)), (tr, .inr (4, [.ref bg, .int (nI tc2_48)])), (bg, .inl (cI, 16, .inl gf2_47))] := hD
    refine lv_iconst (v := 2) hx hb dX5_begin_164 (by decide) ?_
    refine lv_imul hx hb dX5_begin_165 ?_
    refine lv_topi (fun ov_50 _ => ?_)
    have hP9 := hP.sub (ws' := [(ho, .inr (0, [vz_0, vz_1, vz_2, .int (nI T), vz_4, vz_5, vz_6, .ref aK, vz_8, vz_9, .ref aH, .ref aU])), (aK, .inl (cI, 6, .inl fK)), (aH, .inl (cI, 6, .inl fH)), (aU, .inl (cI, 6, .inl fU)), (tr, .inr (4, [.ref bg, .int (nI tc2_48)])), (bg, .inl (cI, 16, .inl gf2_47))]) [0, 1, 2, 3, 4, 5] rfl
    have hD9 := hD.sub (ws' := [(ho, .inr (0, [vz_0, vz_1, vz_2, .int (nI T), vz_4, vz_5, vz_6, .ref aK, vz_8, vz_9, .ref aH, .ref aU])), (aK, .inl (cI, 6, .inl fK)), (aH, .inl (cI, 6, .inl fH)), (aU, .inl (cI, 6, .inl fU)), (tr, .inr (4, [.ref bg, .int (nI tc2_48)])), (bg, .inl (cI, 16, .inl gf2_47))]) [0, 1, 2, 3, 4, 5] (by decide) rfl
    exact wt_iret hx hb hr hlocks hP9 hD9 hS ⟨gf2_47, tc2_48, rfl, (by omega)⟩ dX5_begin_166
  rcases wt_dec (bo) 15 with c_51 | c_51
  · subst c_51
    refine lv_tableIn (off := 219) (tgt := 240) hx hb dX5_begin_21 (by decide) (by decide) rfl (by decide) ?_
    refine lv_iconst (v := 0) hx hb dX5_begin_240 (by decide) ?_
    have hP9 := hP.sub (ws' := [(ho, .inr (0, [vz_0, vz_1, vz_2, .int (nI T), vz_4, vz_5, vz_6, .ref aK, vz_8, vz_9, .ref aH, .ref aU])), (aK, .inl (cI, 6, .inl fK)), (aH, .inl (cI, 6, .inl fH)), (aU, .inl (cI, 6, .inl fU)), (tr, .inr (4, [.ref bg, .int (nI tc2_5)])), (bg, .inl (cI, 16, .inl gf2_4))]) [0, 1, 2, 3, 4, 5] rfl
    have hD9 := hD.sub (ws' := [(ho, .inr (0, [vz_0, vz_1, vz_2, .int (nI T), vz_4, vz_5, vz_6, .ref aK, vz_8, vz_9, .ref aH, .ref aU])), (aK, .inl (cI, 6, .inl fK)), (aH, .inl (cI, 6, .inl fH)), (aU, .inl (cI, 6, .inl fU)), (tr, .inr (4, [.ref bg, .int (nI tc2_5)])), (bg, .inl (cI, 16, .inl gf2_4))]) [0, 1, 2, 3, 4, 5] (by decide) rfl
    exact wt_iret hx hb hr hlocks hP9 hD9 hS ⟨gf2_4, tc2_5, rfl, (by omega)⟩ dX5_begin_241
  rcases wt_dec (bo) 16 with c_52 | c_52
  · subst c_52
    refine lv_tableIn (off := 219) (tgt := 240) hx hb dX5_begin_21 (by decide) (by decide) rfl (by decide) ?_
    refine lv_iconst (v := 0) hx hb dX5_begin_240 (by decide) ?_
    have hP9 := hP.sub (ws' := [(ho, .inr (0, [vz_0, vz_1, vz_2, .int (nI T), vz_4, vz_5, vz_6, .ref aK, vz_8, vz_9, .ref aH, .ref aU])), (aK, .inl (cI, 6, .inl fK)), (aH, .inl (cI, 6, .inl fH)), (aU, .inl (cI, 6, .inl fU)), (tr, .inr (4, [.ref bg, .int (nI tc2_5)])), (bg, .inl (cI, 16, .inl gf2_4))]) [0, 1, 2, 3, 4, 5] rfl
    have hD9 := hD.sub (ws' := [(ho, .inr (0, [vz_0, vz_1, vz_2, .int (nI T), vz_4, vz_5, vz_6, .ref aK, vz_8, vz_9, .ref aH, .ref aU])), (aK, .inl (cI, 6, .inl fK)), (aH, .inl (cI, 6, .inl fH)), (aU, .inl (cI, 6, .inl fU)), (tr, .inr (4, [.ref bg, .int (nI tc2_5)])), (bg, .inl (cI, 16, .inl gf2_4))]) [0, 1, 2, 3, 4, 5] (by decide) rfl
    exact wt_iret hx hb hr hlocks hP9 hD9 hS ⟨gf2_4, tc2_5, rfl, (by omega)⟩ dX5_begin_241
  rcases wt_dec (bo) 17 with c_53 | c_53
  · subst c_53
    refine lv_tableIn (off := 219) (tgt := 240) hx hb dX5_begin_21 (by decide) (by decide) rfl (by decide) ?_
    refine lv_iconst (v := 0) hx hb dX5_begin_240 (by decide) ?_
    have hP9 := hP.sub (ws' := [(ho, .inr (0, [vz_0, vz_1, vz_2, .int (nI T), vz_4, vz_5, vz_6, .ref aK, vz_8, vz_9, .ref aH, .ref aU])), (aK, .inl (cI, 6, .inl fK)), (aH, .inl (cI, 6, .inl fH)), (aU, .inl (cI, 6, .inl fU)), (tr, .inr (4, [.ref bg, .int (nI tc2_5)])), (bg, .inl (cI, 16, .inl gf2_4))]) [0, 1, 2, 3, 4, 5] rfl
    have hD9 := hD.sub (ws' := [(ho, .inr (0, [vz_0, vz_1, vz_2, .int (nI T), vz_4, vz_5, vz_6, .ref aK, vz_8, vz_9, .ref aH, .ref aU])), (aK, .inl (cI, 6, .inl fK)), (aH, .inl (cI, 6, .inl fH)), (aU, .inl (cI, 6, .inl fU)), (tr, .inr (4, [.ref bg, .int (nI tc2_5)])), (bg, .inl (cI, 16, .inl gf2_4))]) [0, 1, 2, 3, 4, 5] (by decide) rfl
    exact wt_iret hx hb hr hlocks hP9 hD9 hS ⟨gf2_4, tc2_5, rfl, (by omega)⟩ dX5_begin_241
  rcases wt_dec (bo) 18 with c_54 | c_54
  · subst c_54
    refine lv_tableIn (off := 219) (tgt := 240) hx hb dX5_begin_21 (by decide) (by decide) rfl (by decide) ?_
    refine lv_iconst (v := 0) hx hb dX5_begin_240 (by decide) ?_
    have hP9 := hP.sub (ws' := [(ho, .inr (0, [vz_0, vz_1, vz_2, .int (nI T), vz_4, vz_5, vz_6, .ref aK, vz_8, vz_9, .ref aH, .ref aU])), (aK, .inl (cI, 6, .inl fK)), (aH, .inl (cI, 6, .inl fH)), (aU, .inl (cI, 6, .inl fU)), (tr, .inr (4, [.ref bg, .int (nI tc2_5)])), (bg, .inl (cI, 16, .inl gf2_4))]) [0, 1, 2, 3, 4, 5] rfl
    have hD9 := hD.sub (ws' := [(ho, .inr (0, [vz_0, vz_1, vz_2, .int (nI T), vz_4, vz_5, vz_6, .ref aK, vz_8, vz_9, .ref aH, .ref aU])), (aK, .inl (cI, 6, .inl fK)), (aH, .inl (cI, 6, .inl fH)), (aU, .inl (cI, 6, .inl fU)), (tr, .inr (4, [.ref bg, .int (nI tc2_5)])), (bg, .inl (cI, 16, .inl gf2_4))]) [0, 1, 2, 3, 4, 5] (by decide) rfl
    exact wt_iret hx hb hr hlocks hP9 hD9 hS ⟨gf2_4, tc2_5, rfl, (by omega)⟩ dX5_begin_241
  rcases wt_dec (bo) 19 with c_55 | c_55
  · subst c_55
    refine lv_tableIn (off := 219) (tgt := 240) hx hb dX5_begin_21 (by decide) (by decide) rfl (by decide) ?_
    refine lv_iconst (v := 0) hx hb dX5_begin_240 (by decide) ?_
    have hP9 := hP.sub (ws' := [(ho, .inr (0, [vz_0, vz_1, vz_2, .int (nI T), vz_4, vz_5, vz_6, .ref aK, vz_8, vz_9, .ref aH, .ref aU])), (aK, .inl (cI, 6, .inl fK)), (aH, .inl (cI, 6, .inl fH)), (aU, .inl (cI, 6, .inl fU)), (tr, .inr (4, [.ref bg, .int (nI tc2_5)])), (bg, .inl (cI, 16, .inl gf2_4))]) [0, 1, 2, 3, 4, 5] rfl
    have hD9 := hD.sub (ws' := [(ho, .inr (0, [vz_0, vz_1, vz_2, .int (nI T), vz_4, vz_5, vz_6, .ref aK, vz_8, vz_9, .ref aH, .ref aU])), (aK, .inl (cI, 6, .inl fK)), (aH, .inl (cI, 6, .inl fH)), (aU, .inl (cI, 6, .inl fU)), (tr, .inr (4, [.ref bg, .int (nI tc2_5)])), (bg, .inl (cI, 16, .inl gf2_4))]) [0, 1, 2, 3, 4, 5] (by decide) rfl
    exact wt_iret hx hb hr hlocks hP9 hD9 hS ⟨gf2_4, tc2_5, rfl, (by omega)⟩ dX5_begin_241
  rcases wt_dec (bo) 20 with c_56 | c_56
  · subst c_56
    refine lv_tableIn (off := 146) (tgt := 167) hx hb dX5_begin_21 (by decide) (by decide) rfl (by decide) ?_
    refine lv_iload_n hx hb dX5_begin_167 rfl (lv_at hl 4 rfl) ?_
    have hP9 := hP.sub (ws' := [(ho, .inr (0, [vz_0, vz_1, vz_2, .int (nI T), vz_4, vz_5, vz_6, .ref aK, vz_8, vz_9, .ref aH, .ref aU])), (aK, .inl (cI, 6, .inl fK)), (aH, .inl (cI, 6, .inl fH)), (aU, .inl (cI, 6, .inl fU)), (tr, .inr (4, [.ref bg, .int (nI tc2_5)])), (bg, .inl (cI, 16, .inl gf2_4))]) [0, 1, 2, 3, 4, 5] rfl
    have hD9 := hD.sub (ws' := [(ho, .inr (0, [vz_0, vz_1, vz_2, .int (nI T), vz_4, vz_5, vz_6, .ref aK, vz_8, vz_9, .ref aH, .ref aU])), (aK, .inl (cI, 6, .inl fK)), (aH, .inl (cI, 6, .inl fH)), (aU, .inl (cI, 6, .inl fU)), (tr, .inr (4, [.ref bg, .int (nI tc2_5)])), (bg, .inl (cI, 16, .inl gf2_4))]) [0, 1, 2, 3, 4, 5] (by decide) rfl
    exact wt_iret hx hb hr hlocks hP9 hD9 hS ⟨gf2_4, tc2_5, rfl, (by omega)⟩ dX5_begin_168
  rcases wt_dec (bo) 21 with c_57 | c_57
  · subst c_57
    refine lv_tableIn (off := 148) (tgt := 169) hx hb dX5_begin_21 (by decide) (by decide) rfl (by decide) ?_
    refine lv_aload_n hx hb dX5_begin_169 rfl (lv_at hl 1 rfl) ?_
    refine lv_aload_n hx hb dX5_begin_170 rfl (lv_at hl 2 rfl) ?_
    refine lv_bipush (v := 20) hx hb dX5_begin_171 (by decide) ?_
    refine lv_iload_n hx hb dX5_begin_173 rfl (lv_at hl 4 rfl) ?_
    refine lv_iload hx hb dX5_begin_174 (lv_at hl 0 rfl) ?_
    refine wt_goI (wr := []) (wt_runSZ (As := [.ref ho, .ref tr, .int 20, .int (nI j), .int (nI (d + 1))]) (rest := []) ⟨hx, hb, hml, hown, hts⟩ (c_X5_begin_8 l D cI cZ cH _ _ _ ho aK aH aU T j (d + 1) fK fH fU tr bg tc2_5 gf2_4 20 vz_0 vz_1 vz_2 vz_4 vz_5 vz_6 vz_8 vz_9 (by first | assumption | omega) (by first | assumption | omega) (by first | assumption | omega) (by first | assumption | omega)) (va_cwS 5 hts gX5_begin_X5_begin rfl rfl rfl (by decide +kernel) ⟨Nat.le_of_ble_eq_true rfl, Nat.le_of_ble_eq_true rfl⟩) hK hP hD [0, 1, 2, 3, 4, 5] rfl (by decide) hZ hS hA rfl hl.1 rfl (Nat.le_of_ble_eq_true rfl) dX5_begin_176 ⟨Nat.le_of_ble_eq_true rfl, Nat.le_of_ble_eq_true rfl⟩) hP hD hS hA [0, 1, 2, 3, 4, 5] [] rfl rfl (by decide) (by decide) (fun r_58 w_59 H locs h_60 hP hD hS => ?_)
    obtain ⟨gf2_61, tc2_62, rfl, x_63⟩ := h_60
    have hP : va_P D vwCl [(ho, .inr (0, [vz_0, vz_1, vz_2, .int (nI T), vz_4, vz_5, vz_6, .ref aK, vz_8, vz_9, .ref aH, .ref aU])), (aK, .inl (cI, 6, .inl fK)), (aH, .inl (cI, 6, .inl fH)), (aU, .inl (cI, 6, .inl fU)), (tr, .inr (4, [.ref bg, .int (nI tc2_62)])), (bg, .inl (cI, 16, .inl gf2_61))] H := hP
    have hD : va_D A [(ho, .inr (0, [vz_0, vz_1, vz_2, .int (nI T), vz_4, vz_5, vz_6, .ref aK, vz_8, vz_9, .ref aH, .ref aU])), (aK, .inl (cI, 6, .inl fK)), (aH, .inl (cI, 6, .inl fH)), (aU, .inl (cI, 6, .inl fU)), (tr, .inr (4, [.ref bg, .int (nI tc2_62)])), (bg, .inl (cI, 16, .inl gf2_61))] := hD
    refine lv_aload_n hx hb dX5_begin_179 rfl (lv_at hl 1 rfl) ?_
    refine va_get (D := D) (ci := 0) (v := .ref aU) (C := RX0) (T := TX0) (N := 12) hx hb hts hi0 hown hK.1 hP 0 rfl rfl 11 (by decide) wf175 (fun _ h9 => h9) rfl dX5_begin_180 ?_
    refine lv_iload_n hx hb dX5_begin_183 rfl (lv_at hl 4 rfl) ?_
    refine va_iald hx hb hK.1 hP 3 0 rfl rfl (vp_in_nI (by omega) (by omega)) dX5_begin_184 ?_
    refine lv_topi (fun ov_64 _ => ?_)
    refine lv_iadd hx hb dX5_begin_185 ?_
    refine lv_topi (fun ov_65 _ => ?_)
    have hP9 := hP.sub (ws' := [(ho, .inr (0, [vz_0, vz_1, vz_2, .int (nI T), vz_4, vz_5, vz_6, .ref aK, vz_8, vz_9, .ref aH, .ref aU])), (aK, .inl (cI, 6, .inl fK)), (aH, .inl (cI, 6, .inl fH)), (aU, .inl (cI, 6, .inl fU)), (tr, .inr (4, [.ref bg, .int (nI tc2_62)])), (bg, .inl (cI, 16, .inl gf2_61))]) [0, 1, 2, 3, 4, 5] rfl
    have hD9 := hD.sub (ws' := [(ho, .inr (0, [vz_0, vz_1, vz_2, .int (nI T), vz_4, vz_5, vz_6, .ref aK, vz_8, vz_9, .ref aH, .ref aU])), (aK, .inl (cI, 6, .inl fK)), (aH, .inl (cI, 6, .inl fH)), (aU, .inl (cI, 6, .inl fU)), (tr, .inr (4, [.ref bg, .int (nI tc2_62)])), (bg, .inl (cI, 16, .inl gf2_61))]) [0, 1, 2, 3, 4, 5] (by decide) rfl
    exact wt_iret hx hb hr hlocks hP9 hD9 hS ⟨gf2_61, tc2_62, rfl, (by omega)⟩ dX5_begin_186
  rcases wt_dec (bo) 22 with c_66 | c_66
  · subst c_66
    refine lv_tableIn (off := 166) (tgt := 187) hx hb dX5_begin_21 (by decide) (by decide) rfl (by decide) ?_
    refine lv_aload_n hx hb dX5_begin_187 rfl (lv_at hl 1 rfl) ?_
    refine lv_aload_n hx hb dX5_begin_188 rfl (lv_at hl 2 rfl) ?_
    refine lv_bipush (v := 21) hx hb dX5_begin_189 (by decide) ?_
    refine lv_iload_n hx hb dX5_begin_191 rfl (lv_at hl 4 rfl) ?_
    refine lv_iload hx hb dX5_begin_192 (lv_at hl 0 rfl) ?_
    refine wt_goI (wr := []) (wt_runSZ (As := [.ref ho, .ref tr, .int 21, .int (nI j), .int (nI (d + 1))]) (rest := []) ⟨hx, hb, hml, hown, hts⟩ (c_X5_begin_8 l D cI cZ cH _ _ _ ho aK aH aU T j (d + 1) fK fH fU tr bg tc2_5 gf2_4 21 vz_0 vz_1 vz_2 vz_4 vz_5 vz_6 vz_8 vz_9 (by first | assumption | omega) (by first | assumption | omega) (by first | assumption | omega) (by first | assumption | omega)) (va_cwS 5 hts gX5_begin_X5_begin rfl rfl rfl (by decide +kernel) ⟨Nat.le_of_ble_eq_true rfl, Nat.le_of_ble_eq_true rfl⟩) hK hP hD [0, 1, 2, 3, 4, 5] rfl (by decide) hZ hS hA rfl hl.1 rfl (Nat.le_of_ble_eq_true rfl) dX5_begin_194 ⟨Nat.le_of_ble_eq_true rfl, Nat.le_of_ble_eq_true rfl⟩) hP hD hS hA [0, 1, 2, 3, 4, 5] [] rfl rfl (by decide) (by decide) (fun r_67 w_68 H locs h_69 hP hD hS => ?_)
    obtain ⟨gf2_70, tc2_71, rfl, x_72⟩ := h_69
    have hP : va_P D vwCl [(ho, .inr (0, [vz_0, vz_1, vz_2, .int (nI T), vz_4, vz_5, vz_6, .ref aK, vz_8, vz_9, .ref aH, .ref aU])), (aK, .inl (cI, 6, .inl fK)), (aH, .inl (cI, 6, .inl fH)), (aU, .inl (cI, 6, .inl fU)), (tr, .inr (4, [.ref bg, .int (nI tc2_71)])), (bg, .inl (cI, 16, .inl gf2_70))] H := hP
    have hD : va_D A [(ho, .inr (0, [vz_0, vz_1, vz_2, .int (nI T), vz_4, vz_5, vz_6, .ref aK, vz_8, vz_9, .ref aH, .ref aU])), (aK, .inl (cI, 6, .inl fK)), (aH, .inl (cI, 6, .inl fH)), (aU, .inl (cI, 6, .inl fU)), (tr, .inr (4, [.ref bg, .int (nI tc2_71)])), (bg, .inl (cI, 16, .inl gf2_70))] := hD
    refine lv_sipush (v := 1000) hx hb dX5_begin_197 (by decide) ?_
    refine lv_isub hx hb dX5_begin_200 ?_
    refine lv_topi (fun ov_73 _ => ?_)
    have hP9 := hP.sub (ws' := [(ho, .inr (0, [vz_0, vz_1, vz_2, .int (nI T), vz_4, vz_5, vz_6, .ref aK, vz_8, vz_9, .ref aH, .ref aU])), (aK, .inl (cI, 6, .inl fK)), (aH, .inl (cI, 6, .inl fH)), (aU, .inl (cI, 6, .inl fU)), (tr, .inr (4, [.ref bg, .int (nI tc2_71)])), (bg, .inl (cI, 16, .inl gf2_70))]) [0, 1, 2, 3, 4, 5] rfl
    have hD9 := hD.sub (ws' := [(ho, .inr (0, [vz_0, vz_1, vz_2, .int (nI T), vz_4, vz_5, vz_6, .ref aK, vz_8, vz_9, .ref aH, .ref aU])), (aK, .inl (cI, 6, .inl fK)), (aH, .inl (cI, 6, .inl fH)), (aU, .inl (cI, 6, .inl fU)), (tr, .inr (4, [.ref bg, .int (nI tc2_71)])), (bg, .inl (cI, 16, .inl gf2_70))]) [0, 1, 2, 3, 4, 5] (by decide) rfl
    exact wt_iret hx hb hr hlocks hP9 hD9 hS ⟨gf2_70, tc2_71, rfl, (by omega)⟩ dX5_begin_201
  rcases wt_dec (bo) 23 with c_74 | c_74
  · subst c_74
    refine lv_tableIn (off := 181) (tgt := 202) hx hb dX5_begin_21 (by decide) (by decide) rfl (by decide) ?_
    refine lv_aload_n hx hb dX5_begin_202 rfl (lv_at hl 1 rfl) ?_
    refine lv_aload_n hx hb dX5_begin_203 rfl (lv_at hl 2 rfl) ?_
    refine lv_bipush (v := 20) hx hb dX5_begin_204 (by decide) ?_
    refine lv_iload_n hx hb dX5_begin_206 rfl (lv_at hl 4 rfl) ?_
    refine lv_iload hx hb dX5_begin_207 (lv_at hl 0 rfl) ?_
    refine wt_goI (wr := []) (wt_runSZ (As := [.ref ho, .ref tr, .int 20, .int (nI j), .int (nI (d + 1))]) (rest := []) ⟨hx, hb, hml, hown, hts⟩ (c_X5_begin_8 l D cI cZ cH _ _ _ ho aK aH aU T j (d + 1) fK fH fU tr bg tc2_5 gf2_4 20 vz_0 vz_1 vz_2 vz_4 vz_5 vz_6 vz_8 vz_9 (by first | assumption | omega) (by first | assumption | omega) (by first | assumption | omega) (by first | assumption | omega)) (va_cwS 5 hts gX5_begin_X5_begin rfl rfl rfl (by decide +kernel) ⟨Nat.le_of_ble_eq_true rfl, Nat.le_of_ble_eq_true rfl⟩) hK hP hD [0, 1, 2, 3, 4, 5] rfl (by decide) hZ hS hA rfl hl.1 rfl (Nat.le_of_ble_eq_true rfl) dX5_begin_209 ⟨Nat.le_of_ble_eq_true rfl, Nat.le_of_ble_eq_true rfl⟩) hP hD hS hA [0, 1, 2, 3, 4, 5] [] rfl rfl (by decide) (by decide) (fun r_75 w_76 H locs h_77 hP hD hS => ?_)
    obtain ⟨gf2_78, tc2_79, rfl, x_80⟩ := h_77
    have hP : va_P D vwCl [(ho, .inr (0, [vz_0, vz_1, vz_2, .int (nI T), vz_4, vz_5, vz_6, .ref aK, vz_8, vz_9, .ref aH, .ref aU])), (aK, .inl (cI, 6, .inl fK)), (aH, .inl (cI, 6, .inl fH)), (aU, .inl (cI, 6, .inl fU)), (tr, .inr (4, [.ref bg, .int (nI tc2_79)])), (bg, .inl (cI, 16, .inl gf2_78))] H := hP
    have hD : va_D A [(ho, .inr (0, [vz_0, vz_1, vz_2, .int (nI T), vz_4, vz_5, vz_6, .ref aK, vz_8, vz_9, .ref aH, .ref aU])), (aK, .inl (cI, 6, .inl fK)), (aH, .inl (cI, 6, .inl fH)), (aU, .inl (cI, 6, .inl fU)), (tr, .inr (4, [.ref bg, .int (nI tc2_79)])), (bg, .inl (cI, 16, .inl gf2_78))] := hD
    refine lv_aload_n hx hb dX5_begin_212 rfl (lv_at hl 1 rfl) ?_
    refine lv_aload_n hx hb dX5_begin_213 rfl (lv_at hl 2 rfl) ?_
    refine lv_aload_n hx hb dX5_begin_214 rfl (lv_at hl 1 rfl) ?_
    refine lv_iload_n hx hb dX5_begin_215 rfl (lv_at hl 4 rfl) ?_
    refine wt_goI (wr := [(aH, .inl (cI, 6, .inl fH)), (aU, .inl (cI, 6, .inl fU)), (tr, .inr (4, [.ref bg, .int (nI tc2_79)])), (bg, .inl (cI, 16, .inl gf2_78))]) (wt_runSZ (As := [.ref ho, .int (nI j)]) (rest := [.ref tr, .ref ho, .int r_75]) ⟨hx, hb, hml, hown, hts⟩ (c_X5_sizeBody l D cI cZ cH _ _ _ ho aK T j fK vz_0 vz_1 vz_2 vz_4 vz_5 vz_6 vz_8 vz_9 (.ref aH) (.ref aU) (by first | assumption | omega) (by first | assumption | omega)) (va_cwS 2 hts gX5_begin_X5_sizeBody rfl rfl rfl (by decide +kernel) ⟨Nat.le_of_ble_eq_true rfl, Nat.le_of_ble_eq_true rfl⟩) hK hP hD [0, 1] rfl (by decide) hZ hS hA rfl hl.1 rfl (Nat.le_of_ble_eq_true rfl) dX5_begin_216 ⟨Nat.le_of_ble_eq_true rfl, Nat.le_of_ble_eq_true rfl⟩) hP hD hS hA [0, 1] [2, 3, 4, 5] rfl rfl (by decide) (by decide) (fun r_81 w_82 H locs h_83 hP hD hS => ?_)
    obtain rfl := h_83
    have hP : va_P D vwCl [(aH, .inl (cI, 6, .inl fH)), (aU, .inl (cI, 6, .inl fU)), (tr, .inr (4, [.ref bg, .int (nI tc2_79)])), (bg, .inl (cI, 16, .inl gf2_78)), (ho, .inr (0, [vz_0, vz_1, vz_2, .int (nI T), vz_4, vz_5, vz_6, .ref aK, vz_8, vz_9, .ref aH, .ref aU])), (aK, .inl (cI, 6, .inl fK))] H := hP
    have hD : va_D A [(aH, .inl (cI, 6, .inl fH)), (aU, .inl (cI, 6, .inl fU)), (tr, .inr (4, [.ref bg, .int (nI tc2_79)])), (bg, .inl (cI, 16, .inl gf2_78)), (ho, .inr (0, [vz_0, vz_1, vz_2, .int (nI T), vz_4, vz_5, vz_6, .ref aK, vz_8, vz_9, .ref aH, .ref aU])), (aK, .inl (cI, 6, .inl fK))] := hD
    refine lv_iload_n hx hb dX5_begin_219 rfl (lv_at hl 4 rfl) ?_
    refine lv_iload hx hb dX5_begin_220 (lv_at hl 0 rfl) ?_
    refine wt_goI (wr := []) (wt_runSZ (As := [.ref ho, .ref tr, .int r_81, .int (nI j), .int (nI (d + 1))]) (rest := [.int r_75]) ⟨hx, hb, hml, hown, hts⟩ (c_X5_begin_8 l D cI cZ cH _ _ _ ho aK aH aU T j (d + 1) fK fH fU tr bg tc2_79 gf2_78 r_81 vz_0 vz_1 vz_2 vz_4 vz_5 vz_6 vz_8 vz_9 (by first | assumption | omega) (by first | assumption | omega) (by first | assumption | omega) (by first | assumption | omega)) (va_cwS 5 hts gX5_begin_X5_begin rfl rfl rfl (by decide +kernel) ⟨Nat.le_of_ble_eq_true rfl, Nat.le_of_ble_eq_true rfl⟩) hK hP hD [4, 5, 0, 1, 2, 3] rfl (by decide) hZ hS hA rfl hl.1 rfl (Nat.le_of_ble_eq_true rfl) dX5_begin_222 ⟨Nat.le_of_ble_eq_true rfl, Nat.le_of_ble_eq_true rfl⟩) hP hD hS hA [4, 5, 0, 1, 2, 3] [] rfl rfl (by decide) (by decide) (fun r_84 w_85 H locs h_86 hP hD hS => ?_)
    obtain ⟨gf2_87, tc2_88, rfl, x_89⟩ := h_86
    have hP : va_P D vwCl [(ho, .inr (0, [vz_0, vz_1, vz_2, .int (nI T), vz_4, vz_5, vz_6, .ref aK, vz_8, vz_9, .ref aH, .ref aU])), (aK, .inl (cI, 6, .inl fK)), (aH, .inl (cI, 6, .inl fH)), (aU, .inl (cI, 6, .inl fU)), (tr, .inr (4, [.ref bg, .int (nI tc2_88)])), (bg, .inl (cI, 16, .inl gf2_87))] H := hP
    have hD : va_D A [(ho, .inr (0, [vz_0, vz_1, vz_2, .int (nI T), vz_4, vz_5, vz_6, .ref aK, vz_8, vz_9, .ref aH, .ref aU])), (aK, .inl (cI, 6, .inl fK)), (aH, .inl (cI, 6, .inl fH)), (aU, .inl (cI, 6, .inl fU)), (tr, .inr (4, [.ref bg, .int (nI tc2_88)])), (bg, .inl (cI, 16, .inl gf2_87))] := hD
    refine lv_isub hx hb dX5_begin_225 ?_
    refine lv_topi (fun ov_90 _ => ?_)
    have hP9 := hP.sub (ws' := [(ho, .inr (0, [vz_0, vz_1, vz_2, .int (nI T), vz_4, vz_5, vz_6, .ref aK, vz_8, vz_9, .ref aH, .ref aU])), (aK, .inl (cI, 6, .inl fK)), (aH, .inl (cI, 6, .inl fH)), (aU, .inl (cI, 6, .inl fU)), (tr, .inr (4, [.ref bg, .int (nI tc2_88)])), (bg, .inl (cI, 16, .inl gf2_87))]) [0, 1, 2, 3, 4, 5] rfl
    have hD9 := hD.sub (ws' := [(ho, .inr (0, [vz_0, vz_1, vz_2, .int (nI T), vz_4, vz_5, vz_6, .ref aK, vz_8, vz_9, .ref aH, .ref aU])), (aK, .inl (cI, 6, .inl fK)), (aH, .inl (cI, 6, .inl fH)), (aU, .inl (cI, 6, .inl fU)), (tr, .inr (4, [.ref bg, .int (nI tc2_88)])), (bg, .inl (cI, 16, .inl gf2_87))]) [0, 1, 2, 3, 4, 5] (by decide) rfl
    exact wt_iret hx hb hr hlocks hP9 hD9 hS ⟨gf2_87, tc2_88, rfl, (by omega)⟩ dX5_begin_226
  rcases wt_dec (bo) 24 with c_91 | c_91
  · subst c_91
    refine lv_tableIn (off := 206) (tgt := 227) hx hb dX5_begin_21 (by decide) (by decide) rfl (by decide) ?_
    refine lv_aload_n hx hb dX5_begin_227 rfl (lv_at hl 1 rfl) ?_
    refine lv_aload_n hx hb dX5_begin_228 rfl (lv_at hl 2 rfl) ?_
    refine lv_bipush (v := 21) hx hb dX5_begin_229 (by decide) ?_
    refine lv_iload_n hx hb dX5_begin_231 rfl (lv_at hl 4 rfl) ?_
    refine lv_iload hx hb dX5_begin_232 (lv_at hl 0 rfl) ?_
    refine wt_goI (wr := []) (wt_runSZ (As := [.ref ho, .ref tr, .int 21, .int (nI j), .int (nI (d + 1))]) (rest := []) ⟨hx, hb, hml, hown, hts⟩ (c_X5_begin_8 l D cI cZ cH _ _ _ ho aK aH aU T j (d + 1) fK fH fU tr bg tc2_5 gf2_4 21 vz_0 vz_1 vz_2 vz_4 vz_5 vz_6 vz_8 vz_9 (by first | assumption | omega) (by first | assumption | omega) (by first | assumption | omega) (by first | assumption | omega)) (va_cwS 5 hts gX5_begin_X5_begin rfl rfl rfl (by decide +kernel) ⟨Nat.le_of_ble_eq_true rfl, Nat.le_of_ble_eq_true rfl⟩) hK hP hD [0, 1, 2, 3, 4, 5] rfl (by decide) hZ hS hA rfl hl.1 rfl (Nat.le_of_ble_eq_true rfl) dX5_begin_234 ⟨Nat.le_of_ble_eq_true rfl, Nat.le_of_ble_eq_true rfl⟩) hP hD hS hA [0, 1, 2, 3, 4, 5] [] rfl rfl (by decide) (by decide) (fun r_92 w_93 H locs h_94 hP hD hS => ?_)
    obtain ⟨gf2_95, tc2_96, rfl, x_97⟩ := h_94
    have hP : va_P D vwCl [(ho, .inr (0, [vz_0, vz_1, vz_2, .int (nI T), vz_4, vz_5, vz_6, .ref aK, vz_8, vz_9, .ref aH, .ref aU])), (aK, .inl (cI, 6, .inl fK)), (aH, .inl (cI, 6, .inl fH)), (aU, .inl (cI, 6, .inl fU)), (tr, .inr (4, [.ref bg, .int (nI tc2_96)])), (bg, .inl (cI, 16, .inl gf2_95))] H := hP
    have hD : va_D A [(ho, .inr (0, [vz_0, vz_1, vz_2, .int (nI T), vz_4, vz_5, vz_6, .ref aK, vz_8, vz_9, .ref aH, .ref aU])), (aK, .inl (cI, 6, .inl fK)), (aH, .inl (cI, 6, .inl fH)), (aU, .inl (cI, 6, .inl fU)), (tr, .inr (4, [.ref bg, .int (nI tc2_96)])), (bg, .inl (cI, 16, .inl gf2_95))] := hD
    refine lv_iconst (v := 2) hx hb dX5_begin_237 (by decide) ?_
    refine lv_imul hx hb dX5_begin_238 ?_
    refine lv_topi (fun ov_98 _ => ?_)
    have hP9 := hP.sub (ws' := [(ho, .inr (0, [vz_0, vz_1, vz_2, .int (nI T), vz_4, vz_5, vz_6, .ref aK, vz_8, vz_9, .ref aH, .ref aU])), (aK, .inl (cI, 6, .inl fK)), (aH, .inl (cI, 6, .inl fH)), (aU, .inl (cI, 6, .inl fU)), (tr, .inr (4, [.ref bg, .int (nI tc2_96)])), (bg, .inl (cI, 16, .inl gf2_95))]) [0, 1, 2, 3, 4, 5] rfl
    have hD9 := hD.sub (ws' := [(ho, .inr (0, [vz_0, vz_1, vz_2, .int (nI T), vz_4, vz_5, vz_6, .ref aK, vz_8, vz_9, .ref aH, .ref aU])), (aK, .inl (cI, 6, .inl fK)), (aH, .inl (cI, 6, .inl fH)), (aU, .inl (cI, 6, .inl fU)), (tr, .inr (4, [.ref bg, .int (nI tc2_96)])), (bg, .inl (cI, 16, .inl gf2_95))]) [0, 1, 2, 3, 4, 5] (by decide) rfl
    exact wt_iret hx hb hr hlocks hP9 hD9 hS ⟨gf2_95, tc2_96, rfl, (by omega)⟩ dX5_begin_239
  refine lv_tableOut (tgt := 240) hx hb dX5_begin_21 (by have := lv_neT (a := 10) c_8 rfl; have := lv_neT (a := 11) c_10 rfl; have := lv_neT (a := 12) c_27 rfl; have := lv_neT (a := 13) c_35 rfl; have := lv_neT (a := 14) c_43 rfl; have := lv_neT (a := 15) c_51 rfl; have := lv_neT (a := 16) c_52 rfl; have := lv_neT (a := 17) c_53 rfl; have := lv_neT (a := 18) c_54 rfl; have := lv_neT (a := 19) c_55 rfl; have := lv_neT (a := 20) c_56 rfl; have := lv_neT (a := 21) c_57 rfl; have := lv_neT (a := 22) c_66 rfl; have := lv_neT (a := 23) c_74 rfl; have := lv_neT (a := 24) c_91 rfl; omega) (by decide) ?_
  refine lv_iconst (v := 0) hx hb dX5_begin_240 (by decide) ?_
  have hP9 := hP.sub (ws' := [(ho, .inr (0, [vz_0, vz_1, vz_2, .int (nI T), vz_4, vz_5, vz_6, .ref aK, vz_8, vz_9, .ref aH, .ref aU])), (aK, .inl (cI, 6, .inl fK)), (aH, .inl (cI, 6, .inl fH)), (aU, .inl (cI, 6, .inl fU)), (tr, .inr (4, [.ref bg, .int (nI tc2_5)])), (bg, .inl (cI, 16, .inl gf2_4))]) [0, 1, 2, 3, 4, 5] rfl
  have hD9 := hD.sub (ws' := [(ho, .inr (0, [vz_0, vz_1, vz_2, .int (nI T), vz_4, vz_5, vz_6, .ref aK, vz_8, vz_9, .ref aH, .ref aU])), (aK, .inl (cI, 6, .inl fK)), (aH, .inl (cI, 6, .inl fH)), (aU, .inl (cI, 6, .inl fU)), (tr, .inr (4, [.ref bg, .int (nI tc2_5)])), (bg, .inl (cI, 16, .inl gf2_4))]) [0, 1, 2, 3, 4, 5] (by decide) rfl
  exact wt_iret hx hb hr hlocks hP9 hD9 hS ⟨gf2_4, tc2_5, rfl, (by omega)⟩ dX5_begin_241
set_option maxHeartbeats 4000000 in
set_option maxRecDepth 100000 in
theorem c_X5_begin_10 (l : Launch) (D : va_G) (cI cZ cH : ClassId) (ab sb mb : Nat) (ho aK aH aU : Nat) (T j d : Nat) (fK fH fU : Nat → Int32) (tr bg : Nat) (tc : Nat) (gf : Nat → Int32) (bo : Int32) (vz_0 vz_1 vz_2 vz_4 vz_5 vz_6 vz_8 vz_9 : Value) (hT6 : T ≤ 6) (hjT : j < T) (hd : d + 10 = 16) (htc : tc ≤ 16) : wt_MZ (wt_ZS ab sb mb abF sbF mbF) l yX5_begin wsX5_begin ({ frames := 11, cells := 0, slots := 0, locals := 269 } : Room) D (wt_T cI cZ cH) [.ref ho, .ref tr, .int bo, .int (nI j), .int (nI d)] [(ho, .inr (0, [vz_0, vz_1, vz_2, .int (nI T), vz_4, vz_5, vz_6, .ref aK, vz_8, vz_9, .ref aH, .ref aU])), (aK, .inl (cI, 6, .inl fK)), (aH, .inl (cI, 6, .inl fH)), (aU, .inl (cI, 6, .inl fU)), (tr, .inr (4, [.ref bg, .int (nI tc)])), (bg, .inl (cI, 16, .inl gf))] (wt_QI D (fun r w => ∃ (gf2 : Nat → Int32) (tc2 : Nat), w = [(ho, .inr (0, [vz_0, vz_1, vz_2, .int (nI T), vz_4, vz_5, vz_6, .ref aK, vz_8, vz_9, .ref aH, .ref aU])), (aK, .inl (cI, 6, .inl fK)), (aH, .inl (cI, 6, .inl fH)), (aU, .inl (cI, 6, .inl fU)), (tr, .inr (4, [.ref bg, .int (nI tc2)])), (bg, .inl (cI, 16, .inl gf2))] ∧ tc2 ≤ 16)) := by
  refine wt_MZ.ofW (cc := cX5_begin) (maxL := 6) (ret := (some .int)) (by decide) rfl (Nat.le_of_ble_eq_true rfl) ?_
  intro p e s m below meth c A ls hx hb hr hts hown hlocks hml hnm hP hK hD hA hS hl hZ
  have hP : va_P D vwCl [(ho, .inr (0, [vz_0, vz_1, vz_2, .int (nI T), vz_4, vz_5, vz_6, .ref aK, vz_8, vz_9, .ref aH, .ref aU])), (aK, .inl (cI, 6, .inl fK)), (aH, .inl (cI, 6, .inl fH)), (aU, .inl (cI, 6, .inl fU)), (tr, .inr (4, [.ref bg, .int (nI tc)])), (bg, .inl (cI, 16, .inl gf))] s.heap := hP
  have hown : s.vm.findClass RX5 = some m.cls := hown
  have hl : lv_has ls 6 [(0, .ref ho), (1, .ref tr), (2, .int bo), (3, .int (nI j)), (4, .int (nI d))] := hl
  have hi0 : ∀ w ∈ u_ws RX0 TX0 12, w ∈ wsX5_begin := by decide +kernel
  have wf175 := hts (.fieldLink RX5 175 "WarmTubes$House" "up" "[I") (by decide +kernel)
  have wf196 := hts (.fieldLink RX5 196 "WarmTubes$House" "holds" "[I") (by decide +kernel)
  refine lv_iload hx hb dX5_begin_0 (lv_at hl 4 rfl) ?_
  refine lv_bipush (v := 16) hx hb dX5_begin_2 (by decide) ?_
  refine lv_icmp_lt (tgt := 9) hx hb dX5_begin_4 (by decide) (fun _ => ?_) (fun h => absurd (nI_lt (a := d) (b := 16) (by omega) (by omega)) h)
  refine lv_aload_n hx hb dX5_begin_9 rfl (lv_at hl 1 rfl) ?_
  refine lv_iload_n hx hb dX5_begin_10 rfl (lv_at hl 2 rfl) ?_
  refine wt_goV (wr := [(ho, .inr (0, [vz_0, vz_1, vz_2, .int (nI T), vz_4, vz_5, vz_6, .ref aK, vz_8, vz_9, .ref aH, .ref aU])), (aK, .inl (cI, 6, .inl fK)), (aH, .inl (cI, 6, .inl fH)), (aU, .inl (cI, 6, .inl fU))]) (wt_runV (As := [.int bo]) (rest := []) ⟨hx, hb, hml, hown, hts⟩ (c_X4_leave l D cI cZ cH tr bg tc gf bo (by first | assumption | omega)) (cwV 1 hts gX5_begin_X4_leave rfl rfl rfl (by decide +kernel) ⟨Nat.le_of_ble_eq_true rfl, Nat.le_of_ble_eq_true rfl⟩) hK hP hD [4, 5] rfl (by decide) (va_recv hK.1 hP (ci := 4) (q0 := 4) rfl rfl) rfl hl.1 rfl (Nat.le_of_ble_eq_true rfl) dX5_begin_11 ⟨Nat.le_of_ble_eq_true rfl, Nat.le_of_ble_eq_true rfl⟩) hP hD hS hA [4, 5] [0, 1, 2, 3] rfl rfl (by decide) (by decide) (fun w_2 H locs h_3 hP hD hS => ?_)
  obtain ⟨gf2_4, tc2_5, rfl, x_6⟩ := h_3
  have hP : va_P D vwCl [(ho, .inr (0, [vz_0, vz_1, vz_2, .int (nI T), vz_4, vz_5, vz_6, .ref aK, vz_8, vz_9, .ref aH, .ref aU])), (aK, .inl (cI, 6, .inl fK)), (aH, .inl (cI, 6, .inl fH)), (aU, .inl (cI, 6, .inl fU)), (tr, .inr (4, [.ref bg, .int (nI tc2_5)])), (bg, .inl (cI, 16, .inl gf2_4))] H := hP
  have hD : va_D A [(ho, .inr (0, [vz_0, vz_1, vz_2, .int (nI T), vz_4, vz_5, vz_6, .ref aK, vz_8, vz_9, .ref aH, .ref aU])), (aK, .inl (cI, 6, .inl fK)), (aH, .inl (cI, 6, .inl fH)), (aU, .inl (cI, 6, .inl fU)), (tr, .inr (4, [.ref bg, .int (nI tc2_5)])), (bg, .inl (cI, 16, .inl gf2_4))] := hD
  refine lv_iload hx hb dX5_begin_14 (lv_at hl 4 rfl) ?_
  refine lv_iconst (v := 1) hx hb dX5_begin_16 (by decide) ?_
  refine lv_iadd hx hb dX5_begin_17 ?_
  refine wt_top (z := nI (d + 1)) (nI_add d 1) ?_
  refine lv_istore (lv' := [(5, .int (nI (d + 1))), (0, .ref ho), (1, .ref tr), (2, .int bo), (3, .int (nI j)), (4, .int (nI d))]) hx hb dX5_begin_18 hl (by decide) rfl (fun ls hl => ?_)
  refine lv_iload_n hx hb dX5_begin_20 rfl (lv_at hl 3 rfl) ?_
  rcases wt_dec (bo) 10 with c_8 | c_8
  · subst c_8
    refine lv_tableIn (off := 75) (tgt := 96) hx hb dX5_begin_21 (by decide) (by decide) rfl (by decide) ?_
    refine lv_aload_n hx hb dX5_begin_96 rfl (lv_at hl 1 rfl) ?_
    refine va_get (D := D) (ci := 0) (v := .ref aH) (C := RX0) (T := TX0) (N := 12) hx hb hts hi0 hown hK.1 hP 0 rfl rfl 10 (by decide) wf196 (fun _ h9 => h9) rfl dX5_begin_97 ?_
    refine lv_iload_n hx hb dX5_begin_100 rfl (lv_at hl 4 rfl) ?_
    refine va_iald hx hb hK.1 hP 2 0 rfl rfl (vp_in_nI (by omega) (by omega)) dX5_begin_101 ?_
    refine lv_topi (fun ov_9 _ => ?_)
    have hP9 := hP.sub (ws' := [(ho, .inr (0, [vz_0, vz_1, vz_2, .int (nI T), vz_4, vz_5, vz_6, .ref aK, vz_8, vz_9, .ref aH, .ref aU])), (aK, .inl (cI, 6, .inl fK)), (aH, .inl (cI, 6, .inl fH)), (aU, .inl (cI, 6, .inl fU)), (tr, .inr (4, [.ref bg, .int (nI tc2_5)])), (bg, .inl (cI, 16, .inl gf2_4))]) [0, 1, 2, 3, 4, 5] rfl
    have hD9 := hD.sub (ws' := [(ho, .inr (0, [vz_0, vz_1, vz_2, .int (nI T), vz_4, vz_5, vz_6, .ref aK, vz_8, vz_9, .ref aH, .ref aU])), (aK, .inl (cI, 6, .inl fK)), (aH, .inl (cI, 6, .inl fH)), (aU, .inl (cI, 6, .inl fU)), (tr, .inr (4, [.ref bg, .int (nI tc2_5)])), (bg, .inl (cI, 16, .inl gf2_4))]) [0, 1, 2, 3, 4, 5] (by decide) rfl
    exact wt_iret hx hb hr hlocks hP9 hD9 hS ⟨gf2_4, tc2_5, rfl, (by omega)⟩ dX5_begin_102
  rcases wt_dec (bo) 11 with c_10 | c_10
  · subst c_10
    refine lv_tableIn (off := 82) (tgt := 103) hx hb dX5_begin_21 (by decide) (by decide) rfl (by decide) ?_
    refine lv_aload_n hx hb dX5_begin_103 rfl (lv_at hl 1 rfl) ?_
    refine lv_aload_n hx hb dX5_begin_104 rfl (lv_at hl 2 rfl) ?_
    refine lv_bipush (v := 10) hx hb dX5_begin_105 (by decide) ?_
    refine lv_iload_n hx hb dX5_begin_107 rfl (lv_at hl 4 rfl) ?_
    refine lv_iload hx hb dX5_begin_108 (lv_at hl 0 rfl) ?_
    refine wt_goI (wr := []) (wt_runSZ (As := [.ref ho, .ref tr, .int 10, .int (nI j), .int (nI (d + 1))]) (rest := []) ⟨hx, hb, hml, hown, hts⟩ (c_X5_begin_9 l D cI cZ cH _ _ _ ho aK aH aU T j (d + 1) fK fH fU tr bg tc2_5 gf2_4 10 vz_0 vz_1 vz_2 vz_4 vz_5 vz_6 vz_8 vz_9 (by first | assumption | omega) (by first | assumption | omega) (by first | assumption | omega) (by first | assumption | omega)) (va_cwS 5 hts gX5_begin_X5_begin rfl rfl rfl (by decide +kernel) ⟨Nat.le_of_ble_eq_true rfl, Nat.le_of_ble_eq_true rfl⟩) hK hP hD [0, 1, 2, 3, 4, 5] rfl (by decide) hZ hS hA rfl hl.1 rfl (Nat.le_of_ble_eq_true rfl) dX5_begin_110 ⟨Nat.le_of_ble_eq_true rfl, Nat.le_of_ble_eq_true rfl⟩) hP hD hS hA [0, 1, 2, 3, 4, 5] [] rfl rfl (by decide) (by decide) (fun r_11 w_12 H locs h_13 hP hD hS => ?_)
    obtain ⟨gf2_14, tc2_15, rfl, x_16⟩ := h_13
    have hP : va_P D vwCl [(ho, .inr (0, [vz_0, vz_1, vz_2, .int (nI T), vz_4, vz_5, vz_6, .ref aK, vz_8, vz_9, .ref aH, .ref aU])), (aK, .inl (cI, 6, .inl fK)), (aH, .inl (cI, 6, .inl fH)), (aU, .inl (cI, 6, .inl fU)), (tr, .inr (4, [.ref bg, .int (nI tc2_15)])), (bg, .inl (cI, 16, .inl gf2_14))] H := hP
    have hD : va_D A [(ho, .inr (0, [vz_0, vz_1, vz_2, .int (nI T), vz_4, vz_5, vz_6, .ref aK, vz_8, vz_9, .ref aH, .ref aU])), (aK, .inl (cI, 6, .inl fK)), (aH, .inl (cI, 6, .inl fH)), (aU, .inl (cI, 6, .inl fU)), (tr, .inr (4, [.ref bg, .int (nI tc2_15)])), (bg, .inl (cI, 16, .inl gf2_14))] := hD
    refine lv_aload_n hx hb dX5_begin_113 rfl (lv_at hl 1 rfl) ?_
    refine lv_aload_n hx hb dX5_begin_114 rfl (lv_at hl 2 rfl) ?_
    refine lv_aload_n hx hb dX5_begin_115 rfl (lv_at hl 1 rfl) ?_
    refine lv_iload_n hx hb dX5_begin_116 rfl (lv_at hl 4 rfl) ?_
    refine wt_goI (wr := [(aH, .inl (cI, 6, .inl fH)), (aU, .inl (cI, 6, .inl fU)), (tr, .inr (4, [.ref bg, .int (nI tc2_15)])), (bg, .inl (cI, 16, .inl gf2_14))]) (wt_runSZ (As := [.ref ho, .int (nI j)]) (rest := [.ref tr, .ref ho, .int r_11]) ⟨hx, hb, hml, hown, hts⟩ (c_X5_markBody l D cI cZ cH _ _ _ ho aK T j fK vz_0 vz_1 vz_2 vz_4 vz_5 vz_6 vz_8 vz_9 (.ref aH) (.ref aU) (by first | assumption | omega) (by first | assumption | omega)) (va_cwS 2 hts gX5_begin_X5_markBody rfl rfl rfl (by decide +kernel) ⟨Nat.le_of_ble_eq_true rfl, Nat.le_of_ble_eq_true rfl⟩) hK hP hD [0, 1] rfl (by decide) hZ hS hA rfl hl.1 rfl (Nat.le_of_ble_eq_true rfl) dX5_begin_117 ⟨Nat.le_of_ble_eq_true rfl, Nat.le_of_ble_eq_true rfl⟩) hP hD hS hA [0, 1] [2, 3, 4, 5] rfl rfl (by decide) (by decide) (fun r_17 w_18 H locs h_19 hP hD hS => ?_)
    obtain rfl := h_19
    have hP : va_P D vwCl [(aH, .inl (cI, 6, .inl fH)), (aU, .inl (cI, 6, .inl fU)), (tr, .inr (4, [.ref bg, .int (nI tc2_15)])), (bg, .inl (cI, 16, .inl gf2_14)), (ho, .inr (0, [vz_0, vz_1, vz_2, .int (nI T), vz_4, vz_5, vz_6, .ref aK, vz_8, vz_9, .ref aH, .ref aU])), (aK, .inl (cI, 6, .inl fK))] H := hP
    have hD : va_D A [(aH, .inl (cI, 6, .inl fH)), (aU, .inl (cI, 6, .inl fU)), (tr, .inr (4, [.ref bg, .int (nI tc2_15)])), (bg, .inl (cI, 16, .inl gf2_14)), (ho, .inr (0, [vz_0, vz_1, vz_2, .int (nI T), vz_4, vz_5, vz_6, .ref aK, vz_8, vz_9, .ref aH, .ref aU])), (aK, .inl (cI, 6, .inl fK))] := hD
    refine lv_iload_n hx hb dX5_begin_120 rfl (lv_at hl 4 rfl) ?_
    refine lv_iload hx hb dX5_begin_121 (lv_at hl 0 rfl) ?_
    refine wt_goI (wr := []) (wt_runSZ (As := [.ref ho, .ref tr, .int r_17, .int (nI j), .int (nI (d + 1))]) (rest := [.int r_11]) ⟨hx, hb, hml, hown, hts⟩ (c_X5_begin_9 l D cI cZ cH _ _ _ ho aK aH aU T j (d + 1) fK fH fU tr bg tc2_15 gf2_14 r_17 vz_0 vz_1 vz_2 vz_4 vz_5 vz_6 vz_8 vz_9 (by first | assumption | omega) (by first | assumption | omega) (by first | assumption | omega) (by first | assumption | omega)) (va_cwS 5 hts gX5_begin_X5_begin rfl rfl rfl (by decide +kernel) ⟨Nat.le_of_ble_eq_true rfl, Nat.le_of_ble_eq_true rfl⟩) hK hP hD [4, 5, 0, 1, 2, 3] rfl (by decide) hZ hS hA rfl hl.1 rfl (Nat.le_of_ble_eq_true rfl) dX5_begin_123 ⟨Nat.le_of_ble_eq_true rfl, Nat.le_of_ble_eq_true rfl⟩) hP hD hS hA [4, 5, 0, 1, 2, 3] [] rfl rfl (by decide) (by decide) (fun r_20 w_21 H locs h_22 hP hD hS => ?_)
    obtain ⟨gf2_23, tc2_24, rfl, x_25⟩ := h_22
    have hP : va_P D vwCl [(ho, .inr (0, [vz_0, vz_1, vz_2, .int (nI T), vz_4, vz_5, vz_6, .ref aK, vz_8, vz_9, .ref aH, .ref aU])), (aK, .inl (cI, 6, .inl fK)), (aH, .inl (cI, 6, .inl fH)), (aU, .inl (cI, 6, .inl fU)), (tr, .inr (4, [.ref bg, .int (nI tc2_24)])), (bg, .inl (cI, 16, .inl gf2_23))] H := hP
    have hD : va_D A [(ho, .inr (0, [vz_0, vz_1, vz_2, .int (nI T), vz_4, vz_5, vz_6, .ref aK, vz_8, vz_9, .ref aH, .ref aU])), (aK, .inl (cI, 6, .inl fK)), (aH, .inl (cI, 6, .inl fH)), (aU, .inl (cI, 6, .inl fU)), (tr, .inr (4, [.ref bg, .int (nI tc2_24)])), (bg, .inl (cI, 16, .inl gf2_23))] := hD
    refine lv_iadd hx hb dX5_begin_126 ?_
    refine lv_topi (fun ov_26 _ => ?_)
    have hP9 := hP.sub (ws' := [(ho, .inr (0, [vz_0, vz_1, vz_2, .int (nI T), vz_4, vz_5, vz_6, .ref aK, vz_8, vz_9, .ref aH, .ref aU])), (aK, .inl (cI, 6, .inl fK)), (aH, .inl (cI, 6, .inl fH)), (aU, .inl (cI, 6, .inl fU)), (tr, .inr (4, [.ref bg, .int (nI tc2_24)])), (bg, .inl (cI, 16, .inl gf2_23))]) [0, 1, 2, 3, 4, 5] rfl
    have hD9 := hD.sub (ws' := [(ho, .inr (0, [vz_0, vz_1, vz_2, .int (nI T), vz_4, vz_5, vz_6, .ref aK, vz_8, vz_9, .ref aH, .ref aU])), (aK, .inl (cI, 6, .inl fK)), (aH, .inl (cI, 6, .inl fH)), (aU, .inl (cI, 6, .inl fU)), (tr, .inr (4, [.ref bg, .int (nI tc2_24)])), (bg, .inl (cI, 16, .inl gf2_23))]) [0, 1, 2, 3, 4, 5] (by decide) rfl
    exact wt_iret hx hb hr hlocks hP9 hD9 hS ⟨gf2_23, tc2_24, rfl, (by omega)⟩ dX5_begin_127
  rcases wt_dec (bo) 12 with c_27 | c_27
  · subst c_27
    refine lv_tableIn (off := 107) (tgt := 128) hx hb dX5_begin_21 (by decide) (by decide) rfl (by decide) ?_
    refine lv_aload_n hx hb dX5_begin_128 rfl (lv_at hl 1 rfl) ?_
    refine lv_aload_n hx hb dX5_begin_129 rfl (lv_at hl 2 rfl) ?_
    refine lv_bipush (v := 11) hx hb dX5_begin_130 (by decide) ?_
    refine lv_iload_n hx hb dX5_begin_132 rfl (lv_at hl 4 rfl) ?_
    refine lv_iload hx hb dX5_begin_133 (lv_at hl 0 rfl) ?_
    refine wt_goI (wr := []) (wt_runSZ (As := [.ref ho, .ref tr, .int 11, .int (nI j), .int (nI (d + 1))]) (rest := []) ⟨hx, hb, hml, hown, hts⟩ (c_X5_begin_9 l D cI cZ cH _ _ _ ho aK aH aU T j (d + 1) fK fH fU tr bg tc2_5 gf2_4 11 vz_0 vz_1 vz_2 vz_4 vz_5 vz_6 vz_8 vz_9 (by first | assumption | omega) (by first | assumption | omega) (by first | assumption | omega) (by first | assumption | omega)) (va_cwS 5 hts gX5_begin_X5_begin rfl rfl rfl (by decide +kernel) ⟨Nat.le_of_ble_eq_true rfl, Nat.le_of_ble_eq_true rfl⟩) hK hP hD [0, 1, 2, 3, 4, 5] rfl (by decide) hZ hS hA rfl hl.1 rfl (Nat.le_of_ble_eq_true rfl) dX5_begin_135 ⟨Nat.le_of_ble_eq_true rfl, Nat.le_of_ble_eq_true rfl⟩) hP hD hS hA [0, 1, 2, 3, 4, 5] [] rfl rfl (by decide) (by decide) (fun r_28 w_29 H locs h_30 hP hD hS => ?_)
    obtain ⟨gf2_31, tc2_32, rfl, x_33⟩ := h_30
    have hP : va_P D vwCl [(ho, .inr (0, [vz_0, vz_1, vz_2, .int (nI T), vz_4, vz_5, vz_6, .ref aK, vz_8, vz_9, .ref aH, .ref aU])), (aK, .inl (cI, 6, .inl fK)), (aH, .inl (cI, 6, .inl fH)), (aU, .inl (cI, 6, .inl fU)), (tr, .inr (4, [.ref bg, .int (nI tc2_32)])), (bg, .inl (cI, 16, .inl gf2_31))] H := hP
    have hD : va_D A [(ho, .inr (0, [vz_0, vz_1, vz_2, .int (nI T), vz_4, vz_5, vz_6, .ref aK, vz_8, vz_9, .ref aH, .ref aU])), (aK, .inl (cI, 6, .inl fK)), (aH, .inl (cI, 6, .inl fH)), (aU, .inl (cI, 6, .inl fU)), (tr, .inr (4, [.ref bg, .int (nI tc2_32)])), (bg, .inl (cI, 16, .inl gf2_31))] := hD
    refine lv_ineg hx hb dX5_begin_138 ?_
    refine lv_topi (fun ov_34 _ => ?_)
    have hP9 := hP.sub (ws' := [(ho, .inr (0, [vz_0, vz_1, vz_2, .int (nI T), vz_4, vz_5, vz_6, .ref aK, vz_8, vz_9, .ref aH, .ref aU])), (aK, .inl (cI, 6, .inl fK)), (aH, .inl (cI, 6, .inl fH)), (aU, .inl (cI, 6, .inl fU)), (tr, .inr (4, [.ref bg, .int (nI tc2_32)])), (bg, .inl (cI, 16, .inl gf2_31))]) [0, 1, 2, 3, 4, 5] rfl
    have hD9 := hD.sub (ws' := [(ho, .inr (0, [vz_0, vz_1, vz_2, .int (nI T), vz_4, vz_5, vz_6, .ref aK, vz_8, vz_9, .ref aH, .ref aU])), (aK, .inl (cI, 6, .inl fK)), (aH, .inl (cI, 6, .inl fH)), (aU, .inl (cI, 6, .inl fU)), (tr, .inr (4, [.ref bg, .int (nI tc2_32)])), (bg, .inl (cI, 16, .inl gf2_31))]) [0, 1, 2, 3, 4, 5] (by decide) rfl
    exact wt_iret hx hb hr hlocks hP9 hD9 hS ⟨gf2_31, tc2_32, rfl, (by omega)⟩ dX5_begin_139
  rcases wt_dec (bo) 13 with c_35 | c_35
  · subst c_35
    refine lv_tableIn (off := 119) (tgt := 140) hx hb dX5_begin_21 (by decide) (by decide) rfl (by decide) ?_
    refine lv_aload_n hx hb dX5_begin_140 rfl (lv_at hl 1 rfl) ?_
    refine lv_aload_n hx hb dX5_begin_141 rfl (lv_at hl 2 rfl) ?_
    refine lv_bipush (v := 10) hx hb dX5_begin_142 (by decide) ?_
    refine lv_iload_n hx hb dX5_begin_144 rfl (lv_at hl 4 rfl) ?_
    refine lv_iload hx hb dX5_begin_145 (lv_at hl 0 rfl) ?_
    refine wt_goI (wr := []) (wt_runSZ (As := [.ref ho, .ref tr, .int 10, .int (nI j), .int (nI (d + 1))]) (rest := []) ⟨hx, hb, hml, hown, hts⟩ (c_X5_begin_9 l D cI cZ cH _ _ _ ho aK aH aU T j (d + 1) fK fH fU tr bg tc2_5 gf2_4 10 vz_0 vz_1 vz_2 vz_4 vz_5 vz_6 vz_8 vz_9 (by first | assumption | omega) (by first | assumption | omega) (by first | assumption | omega) (by first | assumption | omega)) (va_cwS 5 hts gX5_begin_X5_begin rfl rfl rfl (by decide +kernel) ⟨Nat.le_of_ble_eq_true rfl, Nat.le_of_ble_eq_true rfl⟩) hK hP hD [0, 1, 2, 3, 4, 5] rfl (by decide) hZ hS hA rfl hl.1 rfl (Nat.le_of_ble_eq_true rfl) dX5_begin_147 ⟨Nat.le_of_ble_eq_true rfl, Nat.le_of_ble_eq_true rfl⟩) hP hD hS hA [0, 1, 2, 3, 4, 5] [] rfl rfl (by decide) (by decide) (fun r_36 w_37 H locs h_38 hP hD hS => ?_)
    obtain ⟨gf2_39, tc2_40, rfl, x_41⟩ := h_38
    have hP : va_P D vwCl [(ho, .inr (0, [vz_0, vz_1, vz_2, .int (nI T), vz_4, vz_5, vz_6, .ref aK, vz_8, vz_9, .ref aH, .ref aU])), (aK, .inl (cI, 6, .inl fK)), (aH, .inl (cI, 6, .inl fH)), (aU, .inl (cI, 6, .inl fU)), (tr, .inr (4, [.ref bg, .int (nI tc2_40)])), (bg, .inl (cI, 16, .inl gf2_39))] H := hP
    have hD : va_D A [(ho, .inr (0, [vz_0, vz_1, vz_2, .int (nI T), vz_4, vz_5, vz_6, .ref aK, vz_8, vz_9, .ref aH, .ref aU])), (aK, .inl (cI, 6, .inl fK)), (aH, .inl (cI, 6, .inl fH)), (aU, .inl (cI, 6, .inl fU)), (tr, .inr (4, [.ref bg, .int (nI tc2_40)])), (bg, .inl (cI, 16, .inl gf2_39))] := hD
    refine lv_bipush (v := 100) hx hb dX5_begin_150 (by decide) ?_
    refine lv_isub hx hb dX5_begin_152 ?_
    refine lv_topi (fun ov_42 _ => ?_)
    have hP9 := hP.sub (ws' := [(ho, .inr (0, [vz_0, vz_1, vz_2, .int (nI T), vz_4, vz_5, vz_6, .ref aK, vz_8, vz_9, .ref aH, .ref aU])), (aK, .inl (cI, 6, .inl fK)), (aH, .inl (cI, 6, .inl fH)), (aU, .inl (cI, 6, .inl fU)), (tr, .inr (4, [.ref bg, .int (nI tc2_40)])), (bg, .inl (cI, 16, .inl gf2_39))]) [0, 1, 2, 3, 4, 5] rfl
    have hD9 := hD.sub (ws' := [(ho, .inr (0, [vz_0, vz_1, vz_2, .int (nI T), vz_4, vz_5, vz_6, .ref aK, vz_8, vz_9, .ref aH, .ref aU])), (aK, .inl (cI, 6, .inl fK)), (aH, .inl (cI, 6, .inl fH)), (aU, .inl (cI, 6, .inl fU)), (tr, .inr (4, [.ref bg, .int (nI tc2_40)])), (bg, .inl (cI, 16, .inl gf2_39))]) [0, 1, 2, 3, 4, 5] (by decide) rfl
    exact wt_iret hx hb hr hlocks hP9 hD9 hS ⟨gf2_39, tc2_40, rfl, (by omega)⟩ dX5_begin_153
  rcases wt_dec (bo) 14 with c_43 | c_43
  · subst c_43
    refine lv_tableIn (off := 133) (tgt := 154) hx hb dX5_begin_21 (by decide) (by decide) rfl (by decide) ?_
    refine lv_aload_n hx hb dX5_begin_154 rfl (lv_at hl 1 rfl) ?_
    refine lv_aload_n hx hb dX5_begin_155 rfl (lv_at hl 2 rfl) ?_
    refine lv_bipush (v := 13) hx hb dX5_begin_156 (by decide) ?_
    refine lv_iload_n hx hb dX5_begin_158 rfl (lv_at hl 4 rfl) ?_
    refine lv_iload hx hb dX5_begin_159 (lv_at hl 0 rfl) ?_
    refine wt_goI (wr := []) (wt_runSZ (As := [.ref ho, .ref tr, .int 13, .int (nI j), .int (nI (d + 1))]) (rest := []) ⟨hx, hb, hml, hown, hts⟩ (c_X5_begin_9 l D cI cZ cH _ _ _ ho aK aH aU T j (d + 1) fK fH fU tr bg tc2_5 gf2_4 13 vz_0 vz_1 vz_2 vz_4 vz_5 vz_6 vz_8 vz_9 (by first | assumption | omega) (by first | assumption | omega) (by first | assumption | omega) (by first | assumption | omega)) (va_cwS 5 hts gX5_begin_X5_begin rfl rfl rfl (by decide +kernel) ⟨Nat.le_of_ble_eq_true rfl, Nat.le_of_ble_eq_true rfl⟩) hK hP hD [0, 1, 2, 3, 4, 5] rfl (by decide) hZ hS hA rfl hl.1 rfl (Nat.le_of_ble_eq_true rfl) dX5_begin_161 ⟨Nat.le_of_ble_eq_true rfl, Nat.le_of_ble_eq_true rfl⟩) hP hD hS hA [0, 1, 2, 3, 4, 5] [] rfl rfl (by decide) (by decide) (fun r_44 w_45 H locs h_46 hP hD hS => ?_)
    obtain ⟨gf2_47, tc2_48, rfl, x_49⟩ := h_46
    have hP : va_P D vwCl [(ho, .inr (0, [vz_0, vz_1, vz_2, .int (nI T), vz_4, vz_5, vz_6, .ref aK, vz_8, vz_9, .ref aH, .ref aU])), (aK, .inl (cI, 6, .inl fK)), (aH, .inl (cI, 6, .inl fH)), (aU, .inl (cI, 6, .inl fU)), (tr, .inr (4, [.ref bg, .int (nI tc2_48)])), (bg, .inl (cI, 16, .inl gf2_47))] H := hP
    have hD : va_D A [(ho, .inr (0, [vz_0, vz_1, vz_2, .int (nI T), vz_4, vz_5, vz_6, .ref aK, vz_8, vz_9, .ref aH, .ref aU])), (aK, .inl (cI, 6, .inl fK)), (aH, .inl (cI, 6, .inl fH)), (aU, .inl (cI, 6, .inl fU)), (tr, .inr (4, [.ref bg, .int (nI tc2_48)])), (bg, .inl (cI, 16, .inl gf2_47))] := hD
    refine lv_iconst (v := 2) hx hb dX5_begin_164 (by decide) ?_
    refine lv_imul hx hb dX5_begin_165 ?_
    refine lv_topi (fun ov_50 _ => ?_)
    have hP9 := hP.sub (ws' := [(ho, .inr (0, [vz_0, vz_1, vz_2, .int (nI T), vz_4, vz_5, vz_6, .ref aK, vz_8, vz_9, .ref aH, .ref aU])), (aK, .inl (cI, 6, .inl fK)), (aH, .inl (cI, 6, .inl fH)), (aU, .inl (cI, 6, .inl fU)), (tr, .inr (4, [.ref bg, .int (nI tc2_48)])), (bg, .inl (cI, 16, .inl gf2_47))]) [0, 1, 2, 3, 4, 5] rfl
    have hD9 := hD.sub (ws' := [(ho, .inr (0, [vz_0, vz_1, vz_2, .int (nI T), vz_4, vz_5, vz_6, .ref aK, vz_8, vz_9, .ref aH, .ref aU])), (aK, .inl (cI, 6, .inl fK)), (aH, .inl (cI, 6, .inl fH)), (aU, .inl (cI, 6, .inl fU)), (tr, .inr (4, [.ref bg, .int (nI tc2_48)])), (bg, .inl (cI, 16, .inl gf2_47))]) [0, 1, 2, 3, 4, 5] (by decide) rfl
    exact wt_iret hx hb hr hlocks hP9 hD9 hS ⟨gf2_47, tc2_48, rfl, (by omega)⟩ dX5_begin_166
  rcases wt_dec (bo) 15 with c_51 | c_51
  · subst c_51
    refine lv_tableIn (off := 219) (tgt := 240) hx hb dX5_begin_21 (by decide) (by decide) rfl (by decide) ?_
    refine lv_iconst (v := 0) hx hb dX5_begin_240 (by decide) ?_
    have hP9 := hP.sub (ws' := [(ho, .inr (0, [vz_0, vz_1, vz_2, .int (nI T), vz_4, vz_5, vz_6, .ref aK, vz_8, vz_9, .ref aH, .ref aU])), (aK, .inl (cI, 6, .inl fK)), (aH, .inl (cI, 6, .inl fH)), (aU, .inl (cI, 6, .inl fU)), (tr, .inr (4, [.ref bg, .int (nI tc2_5)])), (bg, .inl (cI, 16, .inl gf2_4))]) [0, 1, 2, 3, 4, 5] rfl
    have hD9 := hD.sub (ws' := [(ho, .inr (0, [vz_0, vz_1, vz_2, .int (nI T), vz_4, vz_5, vz_6, .ref aK, vz_8, vz_9, .ref aH, .ref aU])), (aK, .inl (cI, 6, .inl fK)), (aH, .inl (cI, 6, .inl fH)), (aU, .inl (cI, 6, .inl fU)), (tr, .inr (4, [.ref bg, .int (nI tc2_5)])), (bg, .inl (cI, 16, .inl gf2_4))]) [0, 1, 2, 3, 4, 5] (by decide) rfl
    exact wt_iret hx hb hr hlocks hP9 hD9 hS ⟨gf2_4, tc2_5, rfl, (by omega)⟩ dX5_begin_241
  rcases wt_dec (bo) 16 with c_52 | c_52
  · subst c_52
    refine lv_tableIn (off := 219) (tgt := 240) hx hb dX5_begin_21 (by decide) (by decide) rfl (by decide) ?_
    refine lv_iconst (v := 0) hx hb dX5_begin_240 (by decide) ?_
    have hP9 := hP.sub (ws' := [(ho, .inr (0, [vz_0, vz_1, vz_2, .int (nI T), vz_4, vz_5, vz_6, .ref aK, vz_8, vz_9, .ref aH, .ref aU])), (aK, .inl (cI, 6, .inl fK)), (aH, .inl (cI, 6, .inl fH)), (aU, .inl (cI, 6, .inl fU)), (tr, .inr (4, [.ref bg, .int (nI tc2_5)])), (bg, .inl (cI, 16, .inl gf2_4))]) [0, 1, 2, 3, 4, 5] rfl
    have hD9 := hD.sub (ws' := [(ho, .inr (0, [vz_0, vz_1, vz_2, .int (nI T), vz_4, vz_5, vz_6, .ref aK, vz_8, vz_9, .ref aH, .ref aU])), (aK, .inl (cI, 6, .inl fK)), (aH, .inl (cI, 6, .inl fH)), (aU, .inl (cI, 6, .inl fU)), (tr, .inr (4, [.ref bg, .int (nI tc2_5)])), (bg, .inl (cI, 16, .inl gf2_4))]) [0, 1, 2, 3, 4, 5] (by decide) rfl
    exact wt_iret hx hb hr hlocks hP9 hD9 hS ⟨gf2_4, tc2_5, rfl, (by omega)⟩ dX5_begin_241
  rcases wt_dec (bo) 17 with c_53 | c_53
  · subst c_53
    refine lv_tableIn (off := 219) (tgt := 240) hx hb dX5_begin_21 (by decide) (by decide) rfl (by decide) ?_
    refine lv_iconst (v := 0) hx hb dX5_begin_240 (by decide) ?_
    have hP9 := hP.sub (ws' := [(ho, .inr (0, [vz_0, vz_1, vz_2, .int (nI T), vz_4, vz_5, vz_6, .ref aK, vz_8, vz_9, .ref aH, .ref aU])), (aK, .inl (cI, 6, .inl fK)), (aH, .inl (cI, 6, .inl fH)), (aU, .inl (cI, 6, .inl fU)), (tr, .inr (4, [.ref bg, .int (nI tc2_5)])), (bg, .inl (cI, 16, .inl gf2_4))]) [0, 1, 2, 3, 4, 5] rfl
    have hD9 := hD.sub (ws' := [(ho, .inr (0, [vz_0, vz_1, vz_2, .int (nI T), vz_4, vz_5, vz_6, .ref aK, vz_8, vz_9, .ref aH, .ref aU])), (aK, .inl (cI, 6, .inl fK)), (aH, .inl (cI, 6, .inl fH)), (aU, .inl (cI, 6, .inl fU)), (tr, .inr (4, [.ref bg, .int (nI tc2_5)])), (bg, .inl (cI, 16, .inl gf2_4))]) [0, 1, 2, 3, 4, 5] (by decide) rfl
    exact wt_iret hx hb hr hlocks hP9 hD9 hS ⟨gf2_4, tc2_5, rfl, (by omega)⟩ dX5_begin_241
  rcases wt_dec (bo) 18 with c_54 | c_54
  · subst c_54
    refine lv_tableIn (off := 219) (tgt := 240) hx hb dX5_begin_21 (by decide) (by decide) rfl (by decide) ?_
    refine lv_iconst (v := 0) hx hb dX5_begin_240 (by decide) ?_
    have hP9 := hP.sub (ws' := [(ho, .inr (0, [vz_0, vz_1, vz_2, .int (nI T), vz_4, vz_5, vz_6, .ref aK, vz_8, vz_9, .ref aH, .ref aU])), (aK, .inl (cI, 6, .inl fK)), (aH, .inl (cI, 6, .inl fH)), (aU, .inl (cI, 6, .inl fU)), (tr, .inr (4, [.ref bg, .int (nI tc2_5)])), (bg, .inl (cI, 16, .inl gf2_4))]) [0, 1, 2, 3, 4, 5] rfl
    have hD9 := hD.sub (ws' := [(ho, .inr (0, [vz_0, vz_1, vz_2, .int (nI T), vz_4, vz_5, vz_6, .ref aK, vz_8, vz_9, .ref aH, .ref aU])), (aK, .inl (cI, 6, .inl fK)), (aH, .inl (cI, 6, .inl fH)), (aU, .inl (cI, 6, .inl fU)), (tr, .inr (4, [.ref bg, .int (nI tc2_5)])), (bg, .inl (cI, 16, .inl gf2_4))]) [0, 1, 2, 3, 4, 5] (by decide) rfl
    exact wt_iret hx hb hr hlocks hP9 hD9 hS ⟨gf2_4, tc2_5, rfl, (by omega)⟩ dX5_begin_241
  rcases wt_dec (bo) 19 with c_55 | c_55
  · subst c_55
    refine lv_tableIn (off := 219) (tgt := 240) hx hb dX5_begin_21 (by decide) (by decide) rfl (by decide) ?_
    refine lv_iconst (v := 0) hx hb dX5_begin_240 (by decide) ?_
    have hP9 := hP.sub (ws' := [(ho, .inr (0, [vz_0, vz_1, vz_2, .int (nI T), vz_4, vz_5, vz_6, .ref aK, vz_8, vz_9, .ref aH, .ref aU])), (aK, .inl (cI, 6, .inl fK)), (aH, .inl (cI, 6, .inl fH)), (aU, .inl (cI, 6, .inl fU)), (tr, .inr (4, [.ref bg, .int (nI tc2_5)])), (bg, .inl (cI, 16, .inl gf2_4))]) [0, 1, 2, 3, 4, 5] rfl
    have hD9 := hD.sub (ws' := [(ho, .inr (0, [vz_0, vz_1, vz_2, .int (nI T), vz_4, vz_5, vz_6, .ref aK, vz_8, vz_9, .ref aH, .ref aU])), (aK, .inl (cI, 6, .inl fK)), (aH, .inl (cI, 6, .inl fH)), (aU, .inl (cI, 6, .inl fU)), (tr, .inr (4, [.ref bg, .int (nI tc2_5)])), (bg, .inl (cI, 16, .inl gf2_4))]) [0, 1, 2, 3, 4, 5] (by decide) rfl
    exact wt_iret hx hb hr hlocks hP9 hD9 hS ⟨gf2_4, tc2_5, rfl, (by omega)⟩ dX5_begin_241
  rcases wt_dec (bo) 20 with c_56 | c_56
  · subst c_56
    refine lv_tableIn (off := 146) (tgt := 167) hx hb dX5_begin_21 (by decide) (by decide) rfl (by decide) ?_
    refine lv_iload_n hx hb dX5_begin_167 rfl (lv_at hl 4 rfl) ?_
    have hP9 := hP.sub (ws' := [(ho, .inr (0, [vz_0, vz_1, vz_2, .int (nI T), vz_4, vz_5, vz_6, .ref aK, vz_8, vz_9, .ref aH, .ref aU])), (aK, .inl (cI, 6, .inl fK)), (aH, .inl (cI, 6, .inl fH)), (aU, .inl (cI, 6, .inl fU)), (tr, .inr (4, [.ref bg, .int (nI tc2_5)])), (bg, .inl (cI, 16, .inl gf2_4))]) [0, 1, 2, 3, 4, 5] rfl
    have hD9 := hD.sub (ws' := [(ho, .inr (0, [vz_0, vz_1, vz_2, .int (nI T), vz_4, vz_5, vz_6, .ref aK, vz_8, vz_9, .ref aH, .ref aU])), (aK, .inl (cI, 6, .inl fK)), (aH, .inl (cI, 6, .inl fH)), (aU, .inl (cI, 6, .inl fU)), (tr, .inr (4, [.ref bg, .int (nI tc2_5)])), (bg, .inl (cI, 16, .inl gf2_4))]) [0, 1, 2, 3, 4, 5] (by decide) rfl
    exact wt_iret hx hb hr hlocks hP9 hD9 hS ⟨gf2_4, tc2_5, rfl, (by omega)⟩ dX5_begin_168
  rcases wt_dec (bo) 21 with c_57 | c_57
  · subst c_57
    refine lv_tableIn (off := 148) (tgt := 169) hx hb dX5_begin_21 (by decide) (by decide) rfl (by decide) ?_
    refine lv_aload_n hx hb dX5_begin_169 rfl (lv_at hl 1 rfl) ?_
    refine lv_aload_n hx hb dX5_begin_170 rfl (lv_at hl 2 rfl) ?_
    refine lv_bipush (v := 20) hx hb dX5_begin_171 (by decide) ?_
    refine lv_iload_n hx hb dX5_begin_173 rfl (lv_at hl 4 rfl) ?_
    refine lv_iload hx hb dX5_begin_174 (lv_at hl 0 rfl) ?_
    refine wt_goI (wr := []) (wt_runSZ (As := [.ref ho, .ref tr, .int 20, .int (nI j), .int (nI (d + 1))]) (rest := []) ⟨hx, hb, hml, hown, hts⟩ (c_X5_begin_9 l D cI cZ cH _ _ _ ho aK aH aU T j (d + 1) fK fH fU tr bg tc2_5 gf2_4 20 vz_0 vz_1 vz_2 vz_4 vz_5 vz_6 vz_8 vz_9 (by first | assumption | omega) (by first | assumption | omega) (by first | assumption | omega) (by first | assumption | omega)) (va_cwS 5 hts gX5_begin_X5_begin rfl rfl rfl (by decide +kernel) ⟨Nat.le_of_ble_eq_true rfl, Nat.le_of_ble_eq_true rfl⟩) hK hP hD [0, 1, 2, 3, 4, 5] rfl (by decide) hZ hS hA rfl hl.1 rfl (Nat.le_of_ble_eq_true rfl) dX5_begin_176 ⟨Nat.le_of_ble_eq_true rfl, Nat.le_of_ble_eq_true rfl⟩) hP hD hS hA [0, 1, 2, 3, 4, 5] [] rfl rfl (by decide) (by decide) (fun r_58 w_59 H locs h_60 hP hD hS => ?_)
    obtain ⟨gf2_61, tc2_62, rfl, x_63⟩ := h_60
    have hP : va_P D vwCl [(ho, .inr (0, [vz_0, vz_1, vz_2, .int (nI T), vz_4, vz_5, vz_6, .ref aK, vz_8, vz_9, .ref aH, .ref aU])), (aK, .inl (cI, 6, .inl fK)), (aH, .inl (cI, 6, .inl fH)), (aU, .inl (cI, 6, .inl fU)), (tr, .inr (4, [.ref bg, .int (nI tc2_62)])), (bg, .inl (cI, 16, .inl gf2_61))] H := hP
    have hD : va_D A [(ho, .inr (0, [vz_0, vz_1, vz_2, .int (nI T), vz_4, vz_5, vz_6, .ref aK, vz_8, vz_9, .ref aH, .ref aU])), (aK, .inl (cI, 6, .inl fK)), (aH, .inl (cI, 6, .inl fH)), (aU, .inl (cI, 6, .inl fU)), (tr, .inr (4, [.ref bg, .int (nI tc2_62)])), (bg, .inl (cI, 16, .inl gf2_61))] := hD
    refine lv_aload_n hx hb dX5_begin_179 rfl (lv_at hl 1 rfl) ?_
    refine va_get (D := D) (ci := 0) (v := .ref aU) (C := RX0) (T := TX0) (N := 12) hx hb hts hi0 hown hK.1 hP 0 rfl rfl 11 (by decide) wf175 (fun _ h9 => h9) rfl dX5_begin_180 ?_
    refine lv_iload_n hx hb dX5_begin_183 rfl (lv_at hl 4 rfl) ?_
    refine va_iald hx hb hK.1 hP 3 0 rfl rfl (vp_in_nI (by omega) (by omega)) dX5_begin_184 ?_
    refine lv_topi (fun ov_64 _ => ?_)
    refine lv_iadd hx hb dX5_begin_185 ?_
    refine lv_topi (fun ov_65 _ => ?_)
    have hP9 := hP.sub (ws' := [(ho, .inr (0, [vz_0, vz_1, vz_2, .int (nI T), vz_4, vz_5, vz_6, .ref aK, vz_8, vz_9, .ref aH, .ref aU])), (aK, .inl (cI, 6, .inl fK)), (aH, .inl (cI, 6, .inl fH)), (aU, .inl (cI, 6, .inl fU)), (tr, .inr (4, [.ref bg, .int (nI tc2_62)])), (bg, .inl (cI, 16, .inl gf2_61))]) [0, 1, 2, 3, 4, 5] rfl
    have hD9 := hD.sub (ws' := [(ho, .inr (0, [vz_0, vz_1, vz_2, .int (nI T), vz_4, vz_5, vz_6, .ref aK, vz_8, vz_9, .ref aH, .ref aU])), (aK, .inl (cI, 6, .inl fK)), (aH, .inl (cI, 6, .inl fH)), (aU, .inl (cI, 6, .inl fU)), (tr, .inr (4, [.ref bg, .int (nI tc2_62)])), (bg, .inl (cI, 16, .inl gf2_61))]) [0, 1, 2, 3, 4, 5] (by decide) rfl
    exact wt_iret hx hb hr hlocks hP9 hD9 hS ⟨gf2_61, tc2_62, rfl, (by omega)⟩ dX5_begin_186
  rcases wt_dec (bo) 22 with c_66 | c_66
  · subst c_66
    refine lv_tableIn (off := 166) (tgt := 187) hx hb dX5_begin_21 (by decide) (by decide) rfl (by decide) ?_
    refine lv_aload_n hx hb dX5_begin_187 rfl (lv_at hl 1 rfl) ?_
    refine lv_aload_n hx hb dX5_begin_188 rfl (lv_at hl 2 rfl) ?_
    refine lv_bipush (v := 21) hx hb dX5_begin_189 (by decide) ?_
    refine lv_iload_n hx hb dX5_begin_191 rfl (lv_at hl 4 rfl) ?_
    refine lv_iload hx hb dX5_begin_192 (lv_at hl 0 rfl) ?_
    refine wt_goI (wr := []) (wt_runSZ (As := [.ref ho, .ref tr, .int 21, .int (nI j), .int (nI (d + 1))]) (rest := []) ⟨hx, hb, hml, hown, hts⟩ (c_X5_begin_9 l D cI cZ cH _ _ _ ho aK aH aU T j (d + 1) fK fH fU tr bg tc2_5 gf2_4 21 vz_0 vz_1 vz_2 vz_4 vz_5 vz_6 vz_8 vz_9 (by first | assumption | omega) (by first | assumption | omega) (by first | assumption | omega) (by first | assumption | omega)) (va_cwS 5 hts gX5_begin_X5_begin rfl rfl rfl (by decide +kernel) ⟨Nat.le_of_ble_eq_true rfl, Nat.le_of_ble_eq_true rfl⟩) hK hP hD [0, 1, 2, 3, 4, 5] rfl (by decide) hZ hS hA rfl hl.1 rfl (Nat.le_of_ble_eq_true rfl) dX5_begin_194 ⟨Nat.le_of_ble_eq_true rfl, Nat.le_of_ble_eq_true rfl⟩) hP hD hS hA [0, 1, 2, 3, 4, 5] [] rfl rfl (by decide) (by decide) (fun r_67 w_68 H locs h_69 hP hD hS => ?_)
    obtain ⟨gf2_70, tc2_71, rfl, x_72⟩ := h_69
    have hP : va_P D vwCl [(ho, .inr (0, [vz_0, vz_1, vz_2, .int (nI T), vz_4, vz_5, vz_6, .ref aK, vz_8, vz_9, .ref aH, .ref aU])), (aK, .inl (cI, 6, .inl fK)), (aH, .inl (cI, 6, .inl fH)), (aU, .inl (cI, 6, .inl fU)), (tr, .inr (4, [.ref bg, .int (nI tc2_71)])), (bg, .inl (cI, 16, .inl gf2_70))] H := hP
    have hD : va_D A [(ho, .inr (0, [vz_0, vz_1, vz_2, .int (nI T), vz_4, vz_5, vz_6, .ref aK, vz_8, vz_9, .ref aH, .ref aU])), (aK, .inl (cI, 6, .inl fK)), (aH, .inl (cI, 6, .inl fH)), (aU, .inl (cI, 6, .inl fU)), (tr, .inr (4, [.ref bg, .int (nI tc2_71)])), (bg, .inl (cI, 16, .inl gf2_70))] := hD
    refine lv_sipush (v := 1000) hx hb dX5_begin_197 (by decide) ?_
    refine lv_isub hx hb dX5_begin_200 ?_
    refine lv_topi (fun ov_73 _ => ?_)
    have hP9 := hP.sub (ws' := [(ho, .inr (0, [vz_0, vz_1, vz_2, .int (nI T), vz_4, vz_5, vz_6, .ref aK, vz_8, vz_9, .ref aH, .ref aU])), (aK, .inl (cI, 6, .inl fK)), (aH, .inl (cI, 6, .inl fH)), (aU, .inl (cI, 6, .inl fU)), (tr, .inr (4, [.ref bg, .int (nI tc2_71)])), (bg, .inl (cI, 16, .inl gf2_70))]) [0, 1, 2, 3, 4, 5] rfl
    have hD9 := hD.sub (ws' := [(ho, .inr (0, [vz_0, vz_1, vz_2, .int (nI T), vz_4, vz_5, vz_6, .ref aK, vz_8, vz_9, .ref aH, .ref aU])), (aK, .inl (cI, 6, .inl fK)), (aH, .inl (cI, 6, .inl fH)), (aU, .inl (cI, 6, .inl fU)), (tr, .inr (4, [.ref bg, .int (nI tc2_71)])), (bg, .inl (cI, 16, .inl gf2_70))]) [0, 1, 2, 3, 4, 5] (by decide) rfl
    exact wt_iret hx hb hr hlocks hP9 hD9 hS ⟨gf2_70, tc2_71, rfl, (by omega)⟩ dX5_begin_201
  rcases wt_dec (bo) 23 with c_74 | c_74
  · subst c_74
    refine lv_tableIn (off := 181) (tgt := 202) hx hb dX5_begin_21 (by decide) (by decide) rfl (by decide) ?_
    refine lv_aload_n hx hb dX5_begin_202 rfl (lv_at hl 1 rfl) ?_
    refine lv_aload_n hx hb dX5_begin_203 rfl (lv_at hl 2 rfl) ?_
    refine lv_bipush (v := 20) hx hb dX5_begin_204 (by decide) ?_
    refine lv_iload_n hx hb dX5_begin_206 rfl (lv_at hl 4 rfl) ?_
    refine lv_iload hx hb dX5_begin_207 (lv_at hl 0 rfl) ?_
    refine wt_goI (wr := []) (wt_runSZ (As := [.ref ho, .ref tr, .int 20, .int (nI j), .int (nI (d + 1))]) (rest := []) ⟨hx, hb, hml, hown, hts⟩ (c_X5_begin_9 l D cI cZ cH _ _ _ ho aK aH aU T j (d + 1) fK fH fU tr bg tc2_5 gf2_4 20 vz_0 vz_1 vz_2 vz_4 vz_5 vz_6 vz_8 vz_9 (by first | assumption | omega) (by first | assumption | omega) (by first | assumption | omega) (by first | assumption | omega)) (va_cwS 5 hts gX5_begin_X5_begin rfl rfl rfl (by decide +kernel) ⟨Nat.le_of_ble_eq_true rfl, Nat.le_of_ble_eq_true rfl⟩) hK hP hD [0, 1, 2, 3, 4, 5] rfl (by decide) hZ hS hA rfl hl.1 rfl (Nat.le_of_ble_eq_true rfl) dX5_begin_209 ⟨Nat.le_of_ble_eq_true rfl, Nat.le_of_ble_eq_true rfl⟩) hP hD hS hA [0, 1, 2, 3, 4, 5] [] rfl rfl (by decide) (by decide) (fun r_75 w_76 H locs h_77 hP hD hS => ?_)
    obtain ⟨gf2_78, tc2_79, rfl, x_80⟩ := h_77
    have hP : va_P D vwCl [(ho, .inr (0, [vz_0, vz_1, vz_2, .int (nI T), vz_4, vz_5, vz_6, .ref aK, vz_8, vz_9, .ref aH, .ref aU])), (aK, .inl (cI, 6, .inl fK)), (aH, .inl (cI, 6, .inl fH)), (aU, .inl (cI, 6, .inl fU)), (tr, .inr (4, [.ref bg, .int (nI tc2_79)])), (bg, .inl (cI, 16, .inl gf2_78))] H := hP
    have hD : va_D A [(ho, .inr (0, [vz_0, vz_1, vz_2, .int (nI T), vz_4, vz_5, vz_6, .ref aK, vz_8, vz_9, .ref aH, .ref aU])), (aK, .inl (cI, 6, .inl fK)), (aH, .inl (cI, 6, .inl fH)), (aU, .inl (cI, 6, .inl fU)), (tr, .inr (4, [.ref bg, .int (nI tc2_79)])), (bg, .inl (cI, 16, .inl gf2_78))] := hD
    refine lv_aload_n hx hb dX5_begin_212 rfl (lv_at hl 1 rfl) ?_
    refine lv_aload_n hx hb dX5_begin_213 rfl (lv_at hl 2 rfl) ?_
    refine lv_aload_n hx hb dX5_begin_214 rfl (lv_at hl 1 rfl) ?_
    refine lv_iload_n hx hb dX5_begin_215 rfl (lv_at hl 4 rfl) ?_
    refine wt_goI (wr := [(aH, .inl (cI, 6, .inl fH)), (aU, .inl (cI, 6, .inl fU)), (tr, .inr (4, [.ref bg, .int (nI tc2_79)])), (bg, .inl (cI, 16, .inl gf2_78))]) (wt_runSZ (As := [.ref ho, .int (nI j)]) (rest := [.ref tr, .ref ho, .int r_75]) ⟨hx, hb, hml, hown, hts⟩ (c_X5_sizeBody l D cI cZ cH _ _ _ ho aK T j fK vz_0 vz_1 vz_2 vz_4 vz_5 vz_6 vz_8 vz_9 (.ref aH) (.ref aU) (by first | assumption | omega) (by first | assumption | omega)) (va_cwS 2 hts gX5_begin_X5_sizeBody rfl rfl rfl (by decide +kernel) ⟨Nat.le_of_ble_eq_true rfl, Nat.le_of_ble_eq_true rfl⟩) hK hP hD [0, 1] rfl (by decide) hZ hS hA rfl hl.1 rfl (Nat.le_of_ble_eq_true rfl) dX5_begin_216 ⟨Nat.le_of_ble_eq_true rfl, Nat.le_of_ble_eq_true rfl⟩) hP hD hS hA [0, 1] [2, 3, 4, 5] rfl rfl (by decide) (by decide) (fun r_81 w_82 H locs h_83 hP hD hS => ?_)
    obtain rfl := h_83
    have hP : va_P D vwCl [(aH, .inl (cI, 6, .inl fH)), (aU, .inl (cI, 6, .inl fU)), (tr, .inr (4, [.ref bg, .int (nI tc2_79)])), (bg, .inl (cI, 16, .inl gf2_78)), (ho, .inr (0, [vz_0, vz_1, vz_2, .int (nI T), vz_4, vz_5, vz_6, .ref aK, vz_8, vz_9, .ref aH, .ref aU])), (aK, .inl (cI, 6, .inl fK))] H := hP
    have hD : va_D A [(aH, .inl (cI, 6, .inl fH)), (aU, .inl (cI, 6, .inl fU)), (tr, .inr (4, [.ref bg, .int (nI tc2_79)])), (bg, .inl (cI, 16, .inl gf2_78)), (ho, .inr (0, [vz_0, vz_1, vz_2, .int (nI T), vz_4, vz_5, vz_6, .ref aK, vz_8, vz_9, .ref aH, .ref aU])), (aK, .inl (cI, 6, .inl fK))] := hD
    refine lv_iload_n hx hb dX5_begin_219 rfl (lv_at hl 4 rfl) ?_
    refine lv_iload hx hb dX5_begin_220 (lv_at hl 0 rfl) ?_
    refine wt_goI (wr := []) (wt_runSZ (As := [.ref ho, .ref tr, .int r_81, .int (nI j), .int (nI (d + 1))]) (rest := [.int r_75]) ⟨hx, hb, hml, hown, hts⟩ (c_X5_begin_9 l D cI cZ cH _ _ _ ho aK aH aU T j (d + 1) fK fH fU tr bg tc2_79 gf2_78 r_81 vz_0 vz_1 vz_2 vz_4 vz_5 vz_6 vz_8 vz_9 (by first | assumption | omega) (by first | assumption | omega) (by first | assumption | omega) (by first | assumption | omega)) (va_cwS 5 hts gX5_begin_X5_begin rfl rfl rfl (by decide +kernel) ⟨Nat.le_of_ble_eq_true rfl, Nat.le_of_ble_eq_true rfl⟩) hK hP hD [4, 5, 0, 1, 2, 3] rfl (by decide) hZ hS hA rfl hl.1 rfl (Nat.le_of_ble_eq_true rfl) dX5_begin_222 ⟨Nat.le_of_ble_eq_true rfl, Nat.le_of_ble_eq_true rfl⟩) hP hD hS hA [4, 5, 0, 1, 2, 3] [] rfl rfl (by decide) (by decide) (fun r_84 w_85 H locs h_86 hP hD hS => ?_)
    obtain ⟨gf2_87, tc2_88, rfl, x_89⟩ := h_86
    have hP : va_P D vwCl [(ho, .inr (0, [vz_0, vz_1, vz_2, .int (nI T), vz_4, vz_5, vz_6, .ref aK, vz_8, vz_9, .ref aH, .ref aU])), (aK, .inl (cI, 6, .inl fK)), (aH, .inl (cI, 6, .inl fH)), (aU, .inl (cI, 6, .inl fU)), (tr, .inr (4, [.ref bg, .int (nI tc2_88)])), (bg, .inl (cI, 16, .inl gf2_87))] H := hP
    have hD : va_D A [(ho, .inr (0, [vz_0, vz_1, vz_2, .int (nI T), vz_4, vz_5, vz_6, .ref aK, vz_8, vz_9, .ref aH, .ref aU])), (aK, .inl (cI, 6, .inl fK)), (aH, .inl (cI, 6, .inl fH)), (aU, .inl (cI, 6, .inl fU)), (tr, .inr (4, [.ref bg, .int (nI tc2_88)])), (bg, .inl (cI, 16, .inl gf2_87))] := hD
    refine lv_isub hx hb dX5_begin_225 ?_
    refine lv_topi (fun ov_90 _ => ?_)
    have hP9 := hP.sub (ws' := [(ho, .inr (0, [vz_0, vz_1, vz_2, .int (nI T), vz_4, vz_5, vz_6, .ref aK, vz_8, vz_9, .ref aH, .ref aU])), (aK, .inl (cI, 6, .inl fK)), (aH, .inl (cI, 6, .inl fH)), (aU, .inl (cI, 6, .inl fU)), (tr, .inr (4, [.ref bg, .int (nI tc2_88)])), (bg, .inl (cI, 16, .inl gf2_87))]) [0, 1, 2, 3, 4, 5] rfl
    have hD9 := hD.sub (ws' := [(ho, .inr (0, [vz_0, vz_1, vz_2, .int (nI T), vz_4, vz_5, vz_6, .ref aK, vz_8, vz_9, .ref aH, .ref aU])), (aK, .inl (cI, 6, .inl fK)), (aH, .inl (cI, 6, .inl fH)), (aU, .inl (cI, 6, .inl fU)), (tr, .inr (4, [.ref bg, .int (nI tc2_88)])), (bg, .inl (cI, 16, .inl gf2_87))]) [0, 1, 2, 3, 4, 5] (by decide) rfl
    exact wt_iret hx hb hr hlocks hP9 hD9 hS ⟨gf2_87, tc2_88, rfl, (by omega)⟩ dX5_begin_226
  rcases wt_dec (bo) 24 with c_91 | c_91
  · subst c_91
    refine lv_tableIn (off := 206) (tgt := 227) hx hb dX5_begin_21 (by decide) (by decide) rfl (by decide) ?_
    refine lv_aload_n hx hb dX5_begin_227 rfl (lv_at hl 1 rfl) ?_
    refine lv_aload_n hx hb dX5_begin_228 rfl (lv_at hl 2 rfl) ?_
    refine lv_bipush (v := 21) hx hb dX5_begin_229 (by decide) ?_
    refine lv_iload_n hx hb dX5_begin_231 rfl (lv_at hl 4 rfl) ?_
    refine lv_iload hx hb dX5_begin_232 (lv_at hl 0 rfl) ?_
    refine wt_goI (wr := []) (wt_runSZ (As := [.ref ho, .ref tr, .int 21, .int (nI j), .int (nI (d + 1))]) (rest := []) ⟨hx, hb, hml, hown, hts⟩ (c_X5_begin_9 l D cI cZ cH _ _ _ ho aK aH aU T j (d + 1) fK fH fU tr bg tc2_5 gf2_4 21 vz_0 vz_1 vz_2 vz_4 vz_5 vz_6 vz_8 vz_9 (by first | assumption | omega) (by first | assumption | omega) (by first | assumption | omega) (by first | assumption | omega)) (va_cwS 5 hts gX5_begin_X5_begin rfl rfl rfl (by decide +kernel) ⟨Nat.le_of_ble_eq_true rfl, Nat.le_of_ble_eq_true rfl⟩) hK hP hD [0, 1, 2, 3, 4, 5] rfl (by decide) hZ hS hA rfl hl.1 rfl (Nat.le_of_ble_eq_true rfl) dX5_begin_234 ⟨Nat.le_of_ble_eq_true rfl, Nat.le_of_ble_eq_true rfl⟩) hP hD hS hA [0, 1, 2, 3, 4, 5] [] rfl rfl (by decide) (by decide) (fun r_92 w_93 H locs h_94 hP hD hS => ?_)
    obtain ⟨gf2_95, tc2_96, rfl, x_97⟩ := h_94
    have hP : va_P D vwCl [(ho, .inr (0, [vz_0, vz_1, vz_2, .int (nI T), vz_4, vz_5, vz_6, .ref aK, vz_8, vz_9, .ref aH, .ref aU])), (aK, .inl (cI, 6, .inl fK)), (aH, .inl (cI, 6, .inl fH)), (aU, .inl (cI, 6, .inl fU)), (tr, .inr (4, [.ref bg, .int (nI tc2_96)])), (bg, .inl (cI, 16, .inl gf2_95))] H := hP
    have hD : va_D A [(ho, .inr (0, [vz_0, vz_1, vz_2, .int (nI T), vz_4, vz_5, vz_6, .ref aK, vz_8, vz_9, .ref aH, .ref aU])), (aK, .inl (cI, 6, .inl fK)), (aH, .inl (cI, 6, .inl fH)), (aU, .inl (cI, 6, .inl fU)), (tr, .inr (4, [.ref bg, .int (nI tc2_96)])), (bg, .inl (cI, 16, .inl gf2_95))] := hD
    refine lv_iconst (v := 2) hx hb dX5_begin_237 (by decide) ?_
    refine lv_imul hx hb dX5_begin_238 ?_
    refine lv_topi (fun ov_98 _ => ?_)
    have hP9 := hP.sub (ws' := [(ho, .inr (0, [vz_0, vz_1, vz_2, .int (nI T), vz_4, vz_5, vz_6, .ref aK, vz_8, vz_9, .ref aH, .ref aU])), (aK, .inl (cI, 6, .inl fK)), (aH, .inl (cI, 6, .inl fH)), (aU, .inl (cI, 6, .inl fU)), (tr, .inr (4, [.ref bg, .int (nI tc2_96)])), (bg, .inl (cI, 16, .inl gf2_95))]) [0, 1, 2, 3, 4, 5] rfl
    have hD9 := hD.sub (ws' := [(ho, .inr (0, [vz_0, vz_1, vz_2, .int (nI T), vz_4, vz_5, vz_6, .ref aK, vz_8, vz_9, .ref aH, .ref aU])), (aK, .inl (cI, 6, .inl fK)), (aH, .inl (cI, 6, .inl fH)), (aU, .inl (cI, 6, .inl fU)), (tr, .inr (4, [.ref bg, .int (nI tc2_96)])), (bg, .inl (cI, 16, .inl gf2_95))]) [0, 1, 2, 3, 4, 5] (by decide) rfl
    exact wt_iret hx hb hr hlocks hP9 hD9 hS ⟨gf2_95, tc2_96, rfl, (by omega)⟩ dX5_begin_239
  refine lv_tableOut (tgt := 240) hx hb dX5_begin_21 (by have := lv_neT (a := 10) c_8 rfl; have := lv_neT (a := 11) c_10 rfl; have := lv_neT (a := 12) c_27 rfl; have := lv_neT (a := 13) c_35 rfl; have := lv_neT (a := 14) c_43 rfl; have := lv_neT (a := 15) c_51 rfl; have := lv_neT (a := 16) c_52 rfl; have := lv_neT (a := 17) c_53 rfl; have := lv_neT (a := 18) c_54 rfl; have := lv_neT (a := 19) c_55 rfl; have := lv_neT (a := 20) c_56 rfl; have := lv_neT (a := 21) c_57 rfl; have := lv_neT (a := 22) c_66 rfl; have := lv_neT (a := 23) c_74 rfl; have := lv_neT (a := 24) c_91 rfl; omega) (by decide) ?_
  refine lv_iconst (v := 0) hx hb dX5_begin_240 (by decide) ?_
  have hP9 := hP.sub (ws' := [(ho, .inr (0, [vz_0, vz_1, vz_2, .int (nI T), vz_4, vz_5, vz_6, .ref aK, vz_8, vz_9, .ref aH, .ref aU])), (aK, .inl (cI, 6, .inl fK)), (aH, .inl (cI, 6, .inl fH)), (aU, .inl (cI, 6, .inl fU)), (tr, .inr (4, [.ref bg, .int (nI tc2_5)])), (bg, .inl (cI, 16, .inl gf2_4))]) [0, 1, 2, 3, 4, 5] rfl
  have hD9 := hD.sub (ws' := [(ho, .inr (0, [vz_0, vz_1, vz_2, .int (nI T), vz_4, vz_5, vz_6, .ref aK, vz_8, vz_9, .ref aH, .ref aU])), (aK, .inl (cI, 6, .inl fK)), (aH, .inl (cI, 6, .inl fH)), (aU, .inl (cI, 6, .inl fU)), (tr, .inr (4, [.ref bg, .int (nI tc2_5)])), (bg, .inl (cI, 16, .inl gf2_4))]) [0, 1, 2, 3, 4, 5] (by decide) rfl
  exact wt_iret hx hb hr hlocks hP9 hD9 hS ⟨gf2_4, tc2_5, rfl, (by omega)⟩ dX5_begin_241
set_option maxHeartbeats 4000000 in
set_option maxRecDepth 100000 in
theorem c_X5_begin_11 (l : Launch) (D : va_G) (cI cZ cH : ClassId) (ab sb mb : Nat) (ho aK aH aU : Nat) (T j d : Nat) (fK fH fU : Nat → Int32) (tr bg : Nat) (tc : Nat) (gf : Nat → Int32) (bo : Int32) (vz_0 vz_1 vz_2 vz_4 vz_5 vz_6 vz_8 vz_9 : Value) (hT6 : T ≤ 6) (hjT : j < T) (hd : d + 11 = 16) (htc : tc ≤ 16) : wt_MZ (wt_ZS ab sb mb abF sbF mbF) l yX5_begin wsX5_begin ({ frames := 12, cells := 0, slots := 0, locals := 294 } : Room) D (wt_T cI cZ cH) [.ref ho, .ref tr, .int bo, .int (nI j), .int (nI d)] [(ho, .inr (0, [vz_0, vz_1, vz_2, .int (nI T), vz_4, vz_5, vz_6, .ref aK, vz_8, vz_9, .ref aH, .ref aU])), (aK, .inl (cI, 6, .inl fK)), (aH, .inl (cI, 6, .inl fH)), (aU, .inl (cI, 6, .inl fU)), (tr, .inr (4, [.ref bg, .int (nI tc)])), (bg, .inl (cI, 16, .inl gf))] (wt_QI D (fun r w => ∃ (gf2 : Nat → Int32) (tc2 : Nat), w = [(ho, .inr (0, [vz_0, vz_1, vz_2, .int (nI T), vz_4, vz_5, vz_6, .ref aK, vz_8, vz_9, .ref aH, .ref aU])), (aK, .inl (cI, 6, .inl fK)), (aH, .inl (cI, 6, .inl fH)), (aU, .inl (cI, 6, .inl fU)), (tr, .inr (4, [.ref bg, .int (nI tc2)])), (bg, .inl (cI, 16, .inl gf2))] ∧ tc2 ≤ 16)) := by
  refine wt_MZ.ofW (cc := cX5_begin) (maxL := 6) (ret := (some .int)) (by decide) rfl (Nat.le_of_ble_eq_true rfl) ?_
  intro p e s m below meth c A ls hx hb hr hts hown hlocks hml hnm hP hK hD hA hS hl hZ
  have hP : va_P D vwCl [(ho, .inr (0, [vz_0, vz_1, vz_2, .int (nI T), vz_4, vz_5, vz_6, .ref aK, vz_8, vz_9, .ref aH, .ref aU])), (aK, .inl (cI, 6, .inl fK)), (aH, .inl (cI, 6, .inl fH)), (aU, .inl (cI, 6, .inl fU)), (tr, .inr (4, [.ref bg, .int (nI tc)])), (bg, .inl (cI, 16, .inl gf))] s.heap := hP
  have hown : s.vm.findClass RX5 = some m.cls := hown
  have hl : lv_has ls 6 [(0, .ref ho), (1, .ref tr), (2, .int bo), (3, .int (nI j)), (4, .int (nI d))] := hl
  have hi0 : ∀ w ∈ u_ws RX0 TX0 12, w ∈ wsX5_begin := by decide +kernel
  have wf175 := hts (.fieldLink RX5 175 "WarmTubes$House" "up" "[I") (by decide +kernel)
  have wf196 := hts (.fieldLink RX5 196 "WarmTubes$House" "holds" "[I") (by decide +kernel)
  refine lv_iload hx hb dX5_begin_0 (lv_at hl 4 rfl) ?_
  refine lv_bipush (v := 16) hx hb dX5_begin_2 (by decide) ?_
  refine lv_icmp_lt (tgt := 9) hx hb dX5_begin_4 (by decide) (fun _ => ?_) (fun h => absurd (nI_lt (a := d) (b := 16) (by omega) (by omega)) h)
  refine lv_aload_n hx hb dX5_begin_9 rfl (lv_at hl 1 rfl) ?_
  refine lv_iload_n hx hb dX5_begin_10 rfl (lv_at hl 2 rfl) ?_
  refine wt_goV (wr := [(ho, .inr (0, [vz_0, vz_1, vz_2, .int (nI T), vz_4, vz_5, vz_6, .ref aK, vz_8, vz_9, .ref aH, .ref aU])), (aK, .inl (cI, 6, .inl fK)), (aH, .inl (cI, 6, .inl fH)), (aU, .inl (cI, 6, .inl fU))]) (wt_runV (As := [.int bo]) (rest := []) ⟨hx, hb, hml, hown, hts⟩ (c_X4_leave l D cI cZ cH tr bg tc gf bo (by first | assumption | omega)) (cwV 1 hts gX5_begin_X4_leave rfl rfl rfl (by decide +kernel) ⟨Nat.le_of_ble_eq_true rfl, Nat.le_of_ble_eq_true rfl⟩) hK hP hD [4, 5] rfl (by decide) (va_recv hK.1 hP (ci := 4) (q0 := 4) rfl rfl) rfl hl.1 rfl (Nat.le_of_ble_eq_true rfl) dX5_begin_11 ⟨Nat.le_of_ble_eq_true rfl, Nat.le_of_ble_eq_true rfl⟩) hP hD hS hA [4, 5] [0, 1, 2, 3] rfl rfl (by decide) (by decide) (fun w_2 H locs h_3 hP hD hS => ?_)
  obtain ⟨gf2_4, tc2_5, rfl, x_6⟩ := h_3
  have hP : va_P D vwCl [(ho, .inr (0, [vz_0, vz_1, vz_2, .int (nI T), vz_4, vz_5, vz_6, .ref aK, vz_8, vz_9, .ref aH, .ref aU])), (aK, .inl (cI, 6, .inl fK)), (aH, .inl (cI, 6, .inl fH)), (aU, .inl (cI, 6, .inl fU)), (tr, .inr (4, [.ref bg, .int (nI tc2_5)])), (bg, .inl (cI, 16, .inl gf2_4))] H := hP
  have hD : va_D A [(ho, .inr (0, [vz_0, vz_1, vz_2, .int (nI T), vz_4, vz_5, vz_6, .ref aK, vz_8, vz_9, .ref aH, .ref aU])), (aK, .inl (cI, 6, .inl fK)), (aH, .inl (cI, 6, .inl fH)), (aU, .inl (cI, 6, .inl fU)), (tr, .inr (4, [.ref bg, .int (nI tc2_5)])), (bg, .inl (cI, 16, .inl gf2_4))] := hD
  refine lv_iload hx hb dX5_begin_14 (lv_at hl 4 rfl) ?_
  refine lv_iconst (v := 1) hx hb dX5_begin_16 (by decide) ?_
  refine lv_iadd hx hb dX5_begin_17 ?_
  refine wt_top (z := nI (d + 1)) (nI_add d 1) ?_
  refine lv_istore (lv' := [(5, .int (nI (d + 1))), (0, .ref ho), (1, .ref tr), (2, .int bo), (3, .int (nI j)), (4, .int (nI d))]) hx hb dX5_begin_18 hl (by decide) rfl (fun ls hl => ?_)
  refine lv_iload_n hx hb dX5_begin_20 rfl (lv_at hl 3 rfl) ?_
  rcases wt_dec (bo) 10 with c_8 | c_8
  · subst c_8
    refine lv_tableIn (off := 75) (tgt := 96) hx hb dX5_begin_21 (by decide) (by decide) rfl (by decide) ?_
    refine lv_aload_n hx hb dX5_begin_96 rfl (lv_at hl 1 rfl) ?_
    refine va_get (D := D) (ci := 0) (v := .ref aH) (C := RX0) (T := TX0) (N := 12) hx hb hts hi0 hown hK.1 hP 0 rfl rfl 10 (by decide) wf196 (fun _ h9 => h9) rfl dX5_begin_97 ?_
    refine lv_iload_n hx hb dX5_begin_100 rfl (lv_at hl 4 rfl) ?_
    refine va_iald hx hb hK.1 hP 2 0 rfl rfl (vp_in_nI (by omega) (by omega)) dX5_begin_101 ?_
    refine lv_topi (fun ov_9 _ => ?_)
    have hP9 := hP.sub (ws' := [(ho, .inr (0, [vz_0, vz_1, vz_2, .int (nI T), vz_4, vz_5, vz_6, .ref aK, vz_8, vz_9, .ref aH, .ref aU])), (aK, .inl (cI, 6, .inl fK)), (aH, .inl (cI, 6, .inl fH)), (aU, .inl (cI, 6, .inl fU)), (tr, .inr (4, [.ref bg, .int (nI tc2_5)])), (bg, .inl (cI, 16, .inl gf2_4))]) [0, 1, 2, 3, 4, 5] rfl
    have hD9 := hD.sub (ws' := [(ho, .inr (0, [vz_0, vz_1, vz_2, .int (nI T), vz_4, vz_5, vz_6, .ref aK, vz_8, vz_9, .ref aH, .ref aU])), (aK, .inl (cI, 6, .inl fK)), (aH, .inl (cI, 6, .inl fH)), (aU, .inl (cI, 6, .inl fU)), (tr, .inr (4, [.ref bg, .int (nI tc2_5)])), (bg, .inl (cI, 16, .inl gf2_4))]) [0, 1, 2, 3, 4, 5] (by decide) rfl
    exact wt_iret hx hb hr hlocks hP9 hD9 hS ⟨gf2_4, tc2_5, rfl, (by omega)⟩ dX5_begin_102
  rcases wt_dec (bo) 11 with c_10 | c_10
  · subst c_10
    refine lv_tableIn (off := 82) (tgt := 103) hx hb dX5_begin_21 (by decide) (by decide) rfl (by decide) ?_
    refine lv_aload_n hx hb dX5_begin_103 rfl (lv_at hl 1 rfl) ?_
    refine lv_aload_n hx hb dX5_begin_104 rfl (lv_at hl 2 rfl) ?_
    refine lv_bipush (v := 10) hx hb dX5_begin_105 (by decide) ?_
    refine lv_iload_n hx hb dX5_begin_107 rfl (lv_at hl 4 rfl) ?_
    refine lv_iload hx hb dX5_begin_108 (lv_at hl 0 rfl) ?_
    refine wt_goI (wr := []) (wt_runSZ (As := [.ref ho, .ref tr, .int 10, .int (nI j), .int (nI (d + 1))]) (rest := []) ⟨hx, hb, hml, hown, hts⟩ (c_X5_begin_10 l D cI cZ cH _ _ _ ho aK aH aU T j (d + 1) fK fH fU tr bg tc2_5 gf2_4 10 vz_0 vz_1 vz_2 vz_4 vz_5 vz_6 vz_8 vz_9 (by first | assumption | omega) (by first | assumption | omega) (by first | assumption | omega) (by first | assumption | omega)) (va_cwS 5 hts gX5_begin_X5_begin rfl rfl rfl (by decide +kernel) ⟨Nat.le_of_ble_eq_true rfl, Nat.le_of_ble_eq_true rfl⟩) hK hP hD [0, 1, 2, 3, 4, 5] rfl (by decide) hZ hS hA rfl hl.1 rfl (Nat.le_of_ble_eq_true rfl) dX5_begin_110 ⟨Nat.le_of_ble_eq_true rfl, Nat.le_of_ble_eq_true rfl⟩) hP hD hS hA [0, 1, 2, 3, 4, 5] [] rfl rfl (by decide) (by decide) (fun r_11 w_12 H locs h_13 hP hD hS => ?_)
    obtain ⟨gf2_14, tc2_15, rfl, x_16⟩ := h_13
    have hP : va_P D vwCl [(ho, .inr (0, [vz_0, vz_1, vz_2, .int (nI T), vz_4, vz_5, vz_6, .ref aK, vz_8, vz_9, .ref aH, .ref aU])), (aK, .inl (cI, 6, .inl fK)), (aH, .inl (cI, 6, .inl fH)), (aU, .inl (cI, 6, .inl fU)), (tr, .inr (4, [.ref bg, .int (nI tc2_15)])), (bg, .inl (cI, 16, .inl gf2_14))] H := hP
    have hD : va_D A [(ho, .inr (0, [vz_0, vz_1, vz_2, .int (nI T), vz_4, vz_5, vz_6, .ref aK, vz_8, vz_9, .ref aH, .ref aU])), (aK, .inl (cI, 6, .inl fK)), (aH, .inl (cI, 6, .inl fH)), (aU, .inl (cI, 6, .inl fU)), (tr, .inr (4, [.ref bg, .int (nI tc2_15)])), (bg, .inl (cI, 16, .inl gf2_14))] := hD
    refine lv_aload_n hx hb dX5_begin_113 rfl (lv_at hl 1 rfl) ?_
    refine lv_aload_n hx hb dX5_begin_114 rfl (lv_at hl 2 rfl) ?_
    refine lv_aload_n hx hb dX5_begin_115 rfl (lv_at hl 1 rfl) ?_
    refine lv_iload_n hx hb dX5_begin_116 rfl (lv_at hl 4 rfl) ?_
    refine wt_goI (wr := [(aH, .inl (cI, 6, .inl fH)), (aU, .inl (cI, 6, .inl fU)), (tr, .inr (4, [.ref bg, .int (nI tc2_15)])), (bg, .inl (cI, 16, .inl gf2_14))]) (wt_runSZ (As := [.ref ho, .int (nI j)]) (rest := [.ref tr, .ref ho, .int r_11]) ⟨hx, hb, hml, hown, hts⟩ (c_X5_markBody l D cI cZ cH _ _ _ ho aK T j fK vz_0 vz_1 vz_2 vz_4 vz_5 vz_6 vz_8 vz_9 (.ref aH) (.ref aU) (by first | assumption | omega) (by first | assumption | omega)) (va_cwS 2 hts gX5_begin_X5_markBody rfl rfl rfl (by decide +kernel) ⟨Nat.le_of_ble_eq_true rfl, Nat.le_of_ble_eq_true rfl⟩) hK hP hD [0, 1] rfl (by decide) hZ hS hA rfl hl.1 rfl (Nat.le_of_ble_eq_true rfl) dX5_begin_117 ⟨Nat.le_of_ble_eq_true rfl, Nat.le_of_ble_eq_true rfl⟩) hP hD hS hA [0, 1] [2, 3, 4, 5] rfl rfl (by decide) (by decide) (fun r_17 w_18 H locs h_19 hP hD hS => ?_)
    obtain rfl := h_19
    have hP : va_P D vwCl [(aH, .inl (cI, 6, .inl fH)), (aU, .inl (cI, 6, .inl fU)), (tr, .inr (4, [.ref bg, .int (nI tc2_15)])), (bg, .inl (cI, 16, .inl gf2_14)), (ho, .inr (0, [vz_0, vz_1, vz_2, .int (nI T), vz_4, vz_5, vz_6, .ref aK, vz_8, vz_9, .ref aH, .ref aU])), (aK, .inl (cI, 6, .inl fK))] H := hP
    have hD : va_D A [(aH, .inl (cI, 6, .inl fH)), (aU, .inl (cI, 6, .inl fU)), (tr, .inr (4, [.ref bg, .int (nI tc2_15)])), (bg, .inl (cI, 16, .inl gf2_14)), (ho, .inr (0, [vz_0, vz_1, vz_2, .int (nI T), vz_4, vz_5, vz_6, .ref aK, vz_8, vz_9, .ref aH, .ref aU])), (aK, .inl (cI, 6, .inl fK))] := hD
    refine lv_iload_n hx hb dX5_begin_120 rfl (lv_at hl 4 rfl) ?_
    refine lv_iload hx hb dX5_begin_121 (lv_at hl 0 rfl) ?_
    refine wt_goI (wr := []) (wt_runSZ (As := [.ref ho, .ref tr, .int r_17, .int (nI j), .int (nI (d + 1))]) (rest := [.int r_11]) ⟨hx, hb, hml, hown, hts⟩ (c_X5_begin_10 l D cI cZ cH _ _ _ ho aK aH aU T j (d + 1) fK fH fU tr bg tc2_15 gf2_14 r_17 vz_0 vz_1 vz_2 vz_4 vz_5 vz_6 vz_8 vz_9 (by first | assumption | omega) (by first | assumption | omega) (by first | assumption | omega) (by first | assumption | omega)) (va_cwS 5 hts gX5_begin_X5_begin rfl rfl rfl (by decide +kernel) ⟨Nat.le_of_ble_eq_true rfl, Nat.le_of_ble_eq_true rfl⟩) hK hP hD [4, 5, 0, 1, 2, 3] rfl (by decide) hZ hS hA rfl hl.1 rfl (Nat.le_of_ble_eq_true rfl) dX5_begin_123 ⟨Nat.le_of_ble_eq_true rfl, Nat.le_of_ble_eq_true rfl⟩) hP hD hS hA [4, 5, 0, 1, 2, 3] [] rfl rfl (by decide) (by decide) (fun r_20 w_21 H locs h_22 hP hD hS => ?_)
    obtain ⟨gf2_23, tc2_24, rfl, x_25⟩ := h_22
    have hP : va_P D vwCl [(ho, .inr (0, [vz_0, vz_1, vz_2, .int (nI T), vz_4, vz_5, vz_6, .ref aK, vz_8, vz_9, .ref aH, .ref aU])), (aK, .inl (cI, 6, .inl fK)), (aH, .inl (cI, 6, .inl fH)), (aU, .inl (cI, 6, .inl fU)), (tr, .inr (4, [.ref bg, .int (nI tc2_24)])), (bg, .inl (cI, 16, .inl gf2_23))] H := hP
    have hD : va_D A [(ho, .inr (0, [vz_0, vz_1, vz_2, .int (nI T), vz_4, vz_5, vz_6, .ref aK, vz_8, vz_9, .ref aH, .ref aU])), (aK, .inl (cI, 6, .inl fK)), (aH, .inl (cI, 6, .inl fH)), (aU, .inl (cI, 6, .inl fU)), (tr, .inr (4, [.ref bg, .int (nI tc2_24)])), (bg, .inl (cI, 16, .inl gf2_23))] := hD
    refine lv_iadd hx hb dX5_begin_126 ?_
    refine lv_topi (fun ov_26 _ => ?_)
    have hP9 := hP.sub (ws' := [(ho, .inr (0, [vz_0, vz_1, vz_2, .int (nI T), vz_4, vz_5, vz_6, .ref aK, vz_8, vz_9, .ref aH, .ref aU])), (aK, .inl (cI, 6, .inl fK)), (aH, .inl (cI, 6, .inl fH)), (aU, .inl (cI, 6, .inl fU)), (tr, .inr (4, [.ref bg, .int (nI tc2_24)])), (bg, .inl (cI, 16, .inl gf2_23))]) [0, 1, 2, 3, 4, 5] rfl
    have hD9 := hD.sub (ws' := [(ho, .inr (0, [vz_0, vz_1, vz_2, .int (nI T), vz_4, vz_5, vz_6, .ref aK, vz_8, vz_9, .ref aH, .ref aU])), (aK, .inl (cI, 6, .inl fK)), (aH, .inl (cI, 6, .inl fH)), (aU, .inl (cI, 6, .inl fU)), (tr, .inr (4, [.ref bg, .int (nI tc2_24)])), (bg, .inl (cI, 16, .inl gf2_23))]) [0, 1, 2, 3, 4, 5] (by decide) rfl
    exact wt_iret hx hb hr hlocks hP9 hD9 hS ⟨gf2_23, tc2_24, rfl, (by omega)⟩ dX5_begin_127
  rcases wt_dec (bo) 12 with c_27 | c_27
  · subst c_27
    refine lv_tableIn (off := 107) (tgt := 128) hx hb dX5_begin_21 (by decide) (by decide) rfl (by decide) ?_
    refine lv_aload_n hx hb dX5_begin_128 rfl (lv_at hl 1 rfl) ?_
    refine lv_aload_n hx hb dX5_begin_129 rfl (lv_at hl 2 rfl) ?_
    refine lv_bipush (v := 11) hx hb dX5_begin_130 (by decide) ?_
    refine lv_iload_n hx hb dX5_begin_132 rfl (lv_at hl 4 rfl) ?_
    refine lv_iload hx hb dX5_begin_133 (lv_at hl 0 rfl) ?_
    refine wt_goI (wr := []) (wt_runSZ (As := [.ref ho, .ref tr, .int 11, .int (nI j), .int (nI (d + 1))]) (rest := []) ⟨hx, hb, hml, hown, hts⟩ (c_X5_begin_10 l D cI cZ cH _ _ _ ho aK aH aU T j (d + 1) fK fH fU tr bg tc2_5 gf2_4 11 vz_0 vz_1 vz_2 vz_4 vz_5 vz_6 vz_8 vz_9 (by first | assumption | omega) (by first | assumption | omega) (by first | assumption | omega) (by first | assumption | omega)) (va_cwS 5 hts gX5_begin_X5_begin rfl rfl rfl (by decide +kernel) ⟨Nat.le_of_ble_eq_true rfl, Nat.le_of_ble_eq_true rfl⟩) hK hP hD [0, 1, 2, 3, 4, 5] rfl (by decide) hZ hS hA rfl hl.1 rfl (Nat.le_of_ble_eq_true rfl) dX5_begin_135 ⟨Nat.le_of_ble_eq_true rfl, Nat.le_of_ble_eq_true rfl⟩) hP hD hS hA [0, 1, 2, 3, 4, 5] [] rfl rfl (by decide) (by decide) (fun r_28 w_29 H locs h_30 hP hD hS => ?_)
    obtain ⟨gf2_31, tc2_32, rfl, x_33⟩ := h_30
    have hP : va_P D vwCl [(ho, .inr (0, [vz_0, vz_1, vz_2, .int (nI T), vz_4, vz_5, vz_6, .ref aK, vz_8, vz_9, .ref aH, .ref aU])), (aK, .inl (cI, 6, .inl fK)), (aH, .inl (cI, 6, .inl fH)), (aU, .inl (cI, 6, .inl fU)), (tr, .inr (4, [.ref bg, .int (nI tc2_32)])), (bg, .inl (cI, 16, .inl gf2_31))] H := hP
    have hD : va_D A [(ho, .inr (0, [vz_0, vz_1, vz_2, .int (nI T), vz_4, vz_5, vz_6, .ref aK, vz_8, vz_9, .ref aH, .ref aU])), (aK, .inl (cI, 6, .inl fK)), (aH, .inl (cI, 6, .inl fH)), (aU, .inl (cI, 6, .inl fU)), (tr, .inr (4, [.ref bg, .int (nI tc2_32)])), (bg, .inl (cI, 16, .inl gf2_31))] := hD
    refine lv_ineg hx hb dX5_begin_138 ?_
    refine lv_topi (fun ov_34 _ => ?_)
    have hP9 := hP.sub (ws' := [(ho, .inr (0, [vz_0, vz_1, vz_2, .int (nI T), vz_4, vz_5, vz_6, .ref aK, vz_8, vz_9, .ref aH, .ref aU])), (aK, .inl (cI, 6, .inl fK)), (aH, .inl (cI, 6, .inl fH)), (aU, .inl (cI, 6, .inl fU)), (tr, .inr (4, [.ref bg, .int (nI tc2_32)])), (bg, .inl (cI, 16, .inl gf2_31))]) [0, 1, 2, 3, 4, 5] rfl
    have hD9 := hD.sub (ws' := [(ho, .inr (0, [vz_0, vz_1, vz_2, .int (nI T), vz_4, vz_5, vz_6, .ref aK, vz_8, vz_9, .ref aH, .ref aU])), (aK, .inl (cI, 6, .inl fK)), (aH, .inl (cI, 6, .inl fH)), (aU, .inl (cI, 6, .inl fU)), (tr, .inr (4, [.ref bg, .int (nI tc2_32)])), (bg, .inl (cI, 16, .inl gf2_31))]) [0, 1, 2, 3, 4, 5] (by decide) rfl
    exact wt_iret hx hb hr hlocks hP9 hD9 hS ⟨gf2_31, tc2_32, rfl, (by omega)⟩ dX5_begin_139
  rcases wt_dec (bo) 13 with c_35 | c_35
  · subst c_35
    refine lv_tableIn (off := 119) (tgt := 140) hx hb dX5_begin_21 (by decide) (by decide) rfl (by decide) ?_
    refine lv_aload_n hx hb dX5_begin_140 rfl (lv_at hl 1 rfl) ?_
    refine lv_aload_n hx hb dX5_begin_141 rfl (lv_at hl 2 rfl) ?_
    refine lv_bipush (v := 10) hx hb dX5_begin_142 (by decide) ?_
    refine lv_iload_n hx hb dX5_begin_144 rfl (lv_at hl 4 rfl) ?_
    refine lv_iload hx hb dX5_begin_145 (lv_at hl 0 rfl) ?_
    refine wt_goI (wr := []) (wt_runSZ (As := [.ref ho, .ref tr, .int 10, .int (nI j), .int (nI (d + 1))]) (rest := []) ⟨hx, hb, hml, hown, hts⟩ (c_X5_begin_10 l D cI cZ cH _ _ _ ho aK aH aU T j (d + 1) fK fH fU tr bg tc2_5 gf2_4 10 vz_0 vz_1 vz_2 vz_4 vz_5 vz_6 vz_8 vz_9 (by first | assumption | omega) (by first | assumption | omega) (by first | assumption | omega) (by first | assumption | omega)) (va_cwS 5 hts gX5_begin_X5_begin rfl rfl rfl (by decide +kernel) ⟨Nat.le_of_ble_eq_true rfl, Nat.le_of_ble_eq_true rfl⟩) hK hP hD [0, 1, 2, 3, 4, 5] rfl (by decide) hZ hS hA rfl hl.1 rfl (Nat.le_of_ble_eq_true rfl) dX5_begin_147 ⟨Nat.le_of_ble_eq_true rfl, Nat.le_of_ble_eq_true rfl⟩) hP hD hS hA [0, 1, 2, 3, 4, 5] [] rfl rfl (by decide) (by decide) (fun r_36 w_37 H locs h_38 hP hD hS => ?_)
    obtain ⟨gf2_39, tc2_40, rfl, x_41⟩ := h_38
    have hP : va_P D vwCl [(ho, .inr (0, [vz_0, vz_1, vz_2, .int (nI T), vz_4, vz_5, vz_6, .ref aK, vz_8, vz_9, .ref aH, .ref aU])), (aK, .inl (cI, 6, .inl fK)), (aH, .inl (cI, 6, .inl fH)), (aU, .inl (cI, 6, .inl fU)), (tr, .inr (4, [.ref bg, .int (nI tc2_40)])), (bg, .inl (cI, 16, .inl gf2_39))] H := hP
    have hD : va_D A [(ho, .inr (0, [vz_0, vz_1, vz_2, .int (nI T), vz_4, vz_5, vz_6, .ref aK, vz_8, vz_9, .ref aH, .ref aU])), (aK, .inl (cI, 6, .inl fK)), (aH, .inl (cI, 6, .inl fH)), (aU, .inl (cI, 6, .inl fU)), (tr, .inr (4, [.ref bg, .int (nI tc2_40)])), (bg, .inl (cI, 16, .inl gf2_39))] := hD
    refine lv_bipush (v := 100) hx hb dX5_begin_150 (by decide) ?_
    refine lv_isub hx hb dX5_begin_152 ?_
    refine lv_topi (fun ov_42 _ => ?_)
    have hP9 := hP.sub (ws' := [(ho, .inr (0, [vz_0, vz_1, vz_2, .int (nI T), vz_4, vz_5, vz_6, .ref aK, vz_8, vz_9, .ref aH, .ref aU])), (aK, .inl (cI, 6, .inl fK)), (aH, .inl (cI, 6, .inl fH)), (aU, .inl (cI, 6, .inl fU)), (tr, .inr (4, [.ref bg, .int (nI tc2_40)])), (bg, .inl (cI, 16, .inl gf2_39))]) [0, 1, 2, 3, 4, 5] rfl
    have hD9 := hD.sub (ws' := [(ho, .inr (0, [vz_0, vz_1, vz_2, .int (nI T), vz_4, vz_5, vz_6, .ref aK, vz_8, vz_9, .ref aH, .ref aU])), (aK, .inl (cI, 6, .inl fK)), (aH, .inl (cI, 6, .inl fH)), (aU, .inl (cI, 6, .inl fU)), (tr, .inr (4, [.ref bg, .int (nI tc2_40)])), (bg, .inl (cI, 16, .inl gf2_39))]) [0, 1, 2, 3, 4, 5] (by decide) rfl
    exact wt_iret hx hb hr hlocks hP9 hD9 hS ⟨gf2_39, tc2_40, rfl, (by omega)⟩ dX5_begin_153
  rcases wt_dec (bo) 14 with c_43 | c_43
  · subst c_43
    refine lv_tableIn (off := 133) (tgt := 154) hx hb dX5_begin_21 (by decide) (by decide) rfl (by decide) ?_
    refine lv_aload_n hx hb dX5_begin_154 rfl (lv_at hl 1 rfl) ?_
    refine lv_aload_n hx hb dX5_begin_155 rfl (lv_at hl 2 rfl) ?_
    refine lv_bipush (v := 13) hx hb dX5_begin_156 (by decide) ?_
    refine lv_iload_n hx hb dX5_begin_158 rfl (lv_at hl 4 rfl) ?_
    refine lv_iload hx hb dX5_begin_159 (lv_at hl 0 rfl) ?_
    refine wt_goI (wr := []) (wt_runSZ (As := [.ref ho, .ref tr, .int 13, .int (nI j), .int (nI (d + 1))]) (rest := []) ⟨hx, hb, hml, hown, hts⟩ (c_X5_begin_10 l D cI cZ cH _ _ _ ho aK aH aU T j (d + 1) fK fH fU tr bg tc2_5 gf2_4 13 vz_0 vz_1 vz_2 vz_4 vz_5 vz_6 vz_8 vz_9 (by first | assumption | omega) (by first | assumption | omega) (by first | assumption | omega) (by first | assumption | omega)) (va_cwS 5 hts gX5_begin_X5_begin rfl rfl rfl (by decide +kernel) ⟨Nat.le_of_ble_eq_true rfl, Nat.le_of_ble_eq_true rfl⟩) hK hP hD [0, 1, 2, 3, 4, 5] rfl (by decide) hZ hS hA rfl hl.1 rfl (Nat.le_of_ble_eq_true rfl) dX5_begin_161 ⟨Nat.le_of_ble_eq_true rfl, Nat.le_of_ble_eq_true rfl⟩) hP hD hS hA [0, 1, 2, 3, 4, 5] [] rfl rfl (by decide) (by decide) (fun r_44 w_45 H locs h_46 hP hD hS => ?_)
    obtain ⟨gf2_47, tc2_48, rfl, x_49⟩ := h_46
    have hP : va_P D vwCl [(ho, .inr (0, [vz_0, vz_1, vz_2, .int (nI T), vz_4, vz_5, vz_6, .ref aK, vz_8, vz_9, .ref aH, .ref aU])), (aK, .inl (cI, 6, .inl fK)), (aH, .inl (cI, 6, .inl fH)), (aU, .inl (cI, 6, .inl fU)), (tr, .inr (4, [.ref bg, .int (nI tc2_48)])), (bg, .inl (cI, 16, .inl gf2_47))] H := hP
    have hD : va_D A [(ho, .inr (0, [vz_0, vz_1, vz_2, .int (nI T), vz_4, vz_5, vz_6, .ref aK, vz_8, vz_9, .ref aH, .ref aU])), (aK, .inl (cI, 6, .inl fK)), (aH, .inl (cI, 6, .inl fH)), (aU, .inl (cI, 6, .inl fU)), (tr, .inr (4, [.ref bg, .int (nI tc2_48)])), (bg, .inl (cI, 16, .inl gf2_47))] := hD
    refine lv_iconst (v := 2) hx hb dX5_begin_164 (by decide) ?_
    refine lv_imul hx hb dX5_begin_165 ?_
    refine lv_topi (fun ov_50 _ => ?_)
    have hP9 := hP.sub (ws' := [(ho, .inr (0, [vz_0, vz_1, vz_2, .int (nI T), vz_4, vz_5, vz_6, .ref aK, vz_8, vz_9, .ref aH, .ref aU])), (aK, .inl (cI, 6, .inl fK)), (aH, .inl (cI, 6, .inl fH)), (aU, .inl (cI, 6, .inl fU)), (tr, .inr (4, [.ref bg, .int (nI tc2_48)])), (bg, .inl (cI, 16, .inl gf2_47))]) [0, 1, 2, 3, 4, 5] rfl
    have hD9 := hD.sub (ws' := [(ho, .inr (0, [vz_0, vz_1, vz_2, .int (nI T), vz_4, vz_5, vz_6, .ref aK, vz_8, vz_9, .ref aH, .ref aU])), (aK, .inl (cI, 6, .inl fK)), (aH, .inl (cI, 6, .inl fH)), (aU, .inl (cI, 6, .inl fU)), (tr, .inr (4, [.ref bg, .int (nI tc2_48)])), (bg, .inl (cI, 16, .inl gf2_47))]) [0, 1, 2, 3, 4, 5] (by decide) rfl
    exact wt_iret hx hb hr hlocks hP9 hD9 hS ⟨gf2_47, tc2_48, rfl, (by omega)⟩ dX5_begin_166
  rcases wt_dec (bo) 15 with c_51 | c_51
  · subst c_51
    refine lv_tableIn (off := 219) (tgt := 240) hx hb dX5_begin_21 (by decide) (by decide) rfl (by decide) ?_
    refine lv_iconst (v := 0) hx hb dX5_begin_240 (by decide) ?_
    have hP9 := hP.sub (ws' := [(ho, .inr (0, [vz_0, vz_1, vz_2, .int (nI T), vz_4, vz_5, vz_6, .ref aK, vz_8, vz_9, .ref aH, .ref aU])), (aK, .inl (cI, 6, .inl fK)), (aH, .inl (cI, 6, .inl fH)), (aU, .inl (cI, 6, .inl fU)), (tr, .inr (4, [.ref bg, .int (nI tc2_5)])), (bg, .inl (cI, 16, .inl gf2_4))]) [0, 1, 2, 3, 4, 5] rfl
    have hD9 := hD.sub (ws' := [(ho, .inr (0, [vz_0, vz_1, vz_2, .int (nI T), vz_4, vz_5, vz_6, .ref aK, vz_8, vz_9, .ref aH, .ref aU])), (aK, .inl (cI, 6, .inl fK)), (aH, .inl (cI, 6, .inl fH)), (aU, .inl (cI, 6, .inl fU)), (tr, .inr (4, [.ref bg, .int (nI tc2_5)])), (bg, .inl (cI, 16, .inl gf2_4))]) [0, 1, 2, 3, 4, 5] (by decide) rfl
    exact wt_iret hx hb hr hlocks hP9 hD9 hS ⟨gf2_4, tc2_5, rfl, (by omega)⟩ dX5_begin_241
  rcases wt_dec (bo) 16 with c_52 | c_52
  · subst c_52
    refine lv_tableIn (off := 219) (tgt := 240) hx hb dX5_begin_21 (by decide) (by decide) rfl (by decide) ?_
    refine lv_iconst (v := 0) hx hb dX5_begin_240 (by decide) ?_
    have hP9 := hP.sub (ws' := [(ho, .inr (0, [vz_0, vz_1, vz_2, .int (nI T), vz_4, vz_5, vz_6, .ref aK, vz_8, vz_9, .ref aH, .ref aU])), (aK, .inl (cI, 6, .inl fK)), (aH, .inl (cI, 6, .inl fH)), (aU, .inl (cI, 6, .inl fU)), (tr, .inr (4, [.ref bg, .int (nI tc2_5)])), (bg, .inl (cI, 16, .inl gf2_4))]) [0, 1, 2, 3, 4, 5] rfl
    have hD9 := hD.sub (ws' := [(ho, .inr (0, [vz_0, vz_1, vz_2, .int (nI T), vz_4, vz_5, vz_6, .ref aK, vz_8, vz_9, .ref aH, .ref aU])), (aK, .inl (cI, 6, .inl fK)), (aH, .inl (cI, 6, .inl fH)), (aU, .inl (cI, 6, .inl fU)), (tr, .inr (4, [.ref bg, .int (nI tc2_5)])), (bg, .inl (cI, 16, .inl gf2_4))]) [0, 1, 2, 3, 4, 5] (by decide) rfl
    exact wt_iret hx hb hr hlocks hP9 hD9 hS ⟨gf2_4, tc2_5, rfl, (by omega)⟩ dX5_begin_241
  rcases wt_dec (bo) 17 with c_53 | c_53
  · subst c_53
    refine lv_tableIn (off := 219) (tgt := 240) hx hb dX5_begin_21 (by decide) (by decide) rfl (by decide) ?_
    refine lv_iconst (v := 0) hx hb dX5_begin_240 (by decide) ?_
    have hP9 := hP.sub (ws' := [(ho, .inr (0, [vz_0, vz_1, vz_2, .int (nI T), vz_4, vz_5, vz_6, .ref aK, vz_8, vz_9, .ref aH, .ref aU])), (aK, .inl (cI, 6, .inl fK)), (aH, .inl (cI, 6, .inl fH)), (aU, .inl (cI, 6, .inl fU)), (tr, .inr (4, [.ref bg, .int (nI tc2_5)])), (bg, .inl (cI, 16, .inl gf2_4))]) [0, 1, 2, 3, 4, 5] rfl
    have hD9 := hD.sub (ws' := [(ho, .inr (0, [vz_0, vz_1, vz_2, .int (nI T), vz_4, vz_5, vz_6, .ref aK, vz_8, vz_9, .ref aH, .ref aU])), (aK, .inl (cI, 6, .inl fK)), (aH, .inl (cI, 6, .inl fH)), (aU, .inl (cI, 6, .inl fU)), (tr, .inr (4, [.ref bg, .int (nI tc2_5)])), (bg, .inl (cI, 16, .inl gf2_4))]) [0, 1, 2, 3, 4, 5] (by decide) rfl
    exact wt_iret hx hb hr hlocks hP9 hD9 hS ⟨gf2_4, tc2_5, rfl, (by omega)⟩ dX5_begin_241
  rcases wt_dec (bo) 18 with c_54 | c_54
  · subst c_54
    refine lv_tableIn (off := 219) (tgt := 240) hx hb dX5_begin_21 (by decide) (by decide) rfl (by decide) ?_
    refine lv_iconst (v := 0) hx hb dX5_begin_240 (by decide) ?_
    have hP9 := hP.sub (ws' := [(ho, .inr (0, [vz_0, vz_1, vz_2, .int (nI T), vz_4, vz_5, vz_6, .ref aK, vz_8, vz_9, .ref aH, .ref aU])), (aK, .inl (cI, 6, .inl fK)), (aH, .inl (cI, 6, .inl fH)), (aU, .inl (cI, 6, .inl fU)), (tr, .inr (4, [.ref bg, .int (nI tc2_5)])), (bg, .inl (cI, 16, .inl gf2_4))]) [0, 1, 2, 3, 4, 5] rfl
    have hD9 := hD.sub (ws' := [(ho, .inr (0, [vz_0, vz_1, vz_2, .int (nI T), vz_4, vz_5, vz_6, .ref aK, vz_8, vz_9, .ref aH, .ref aU])), (aK, .inl (cI, 6, .inl fK)), (aH, .inl (cI, 6, .inl fH)), (aU, .inl (cI, 6, .inl fU)), (tr, .inr (4, [.ref bg, .int (nI tc2_5)])), (bg, .inl (cI, 16, .inl gf2_4))]) [0, 1, 2, 3, 4, 5] (by decide) rfl
    exact wt_iret hx hb hr hlocks hP9 hD9 hS ⟨gf2_4, tc2_5, rfl, (by omega)⟩ dX5_begin_241
  rcases wt_dec (bo) 19 with c_55 | c_55
  · subst c_55
    refine lv_tableIn (off := 219) (tgt := 240) hx hb dX5_begin_21 (by decide) (by decide) rfl (by decide) ?_
    refine lv_iconst (v := 0) hx hb dX5_begin_240 (by decide) ?_
    have hP9 := hP.sub (ws' := [(ho, .inr (0, [vz_0, vz_1, vz_2, .int (nI T), vz_4, vz_5, vz_6, .ref aK, vz_8, vz_9, .ref aH, .ref aU])), (aK, .inl (cI, 6, .inl fK)), (aH, .inl (cI, 6, .inl fH)), (aU, .inl (cI, 6, .inl fU)), (tr, .inr (4, [.ref bg, .int (nI tc2_5)])), (bg, .inl (cI, 16, .inl gf2_4))]) [0, 1, 2, 3, 4, 5] rfl
    have hD9 := hD.sub (ws' := [(ho, .inr (0, [vz_0, vz_1, vz_2, .int (nI T), vz_4, vz_5, vz_6, .ref aK, vz_8, vz_9, .ref aH, .ref aU])), (aK, .inl (cI, 6, .inl fK)), (aH, .inl (cI, 6, .inl fH)), (aU, .inl (cI, 6, .inl fU)), (tr, .inr (4, [.ref bg, .int (nI tc2_5)])), (bg, .inl (cI, 16, .inl gf2_4))]) [0, 1, 2, 3, 4, 5] (by decide) rfl
    exact wt_iret hx hb hr hlocks hP9 hD9 hS ⟨gf2_4, tc2_5, rfl, (by omega)⟩ dX5_begin_241
  rcases wt_dec (bo) 20 with c_56 | c_56
  · subst c_56
    refine lv_tableIn (off := 146) (tgt := 167) hx hb dX5_begin_21 (by decide) (by decide) rfl (by decide) ?_
    refine lv_iload_n hx hb dX5_begin_167 rfl (lv_at hl 4 rfl) ?_
    have hP9 := hP.sub (ws' := [(ho, .inr (0, [vz_0, vz_1, vz_2, .int (nI T), vz_4, vz_5, vz_6, .ref aK, vz_8, vz_9, .ref aH, .ref aU])), (aK, .inl (cI, 6, .inl fK)), (aH, .inl (cI, 6, .inl fH)), (aU, .inl (cI, 6, .inl fU)), (tr, .inr (4, [.ref bg, .int (nI tc2_5)])), (bg, .inl (cI, 16, .inl gf2_4))]) [0, 1, 2, 3, 4, 5] rfl
    have hD9 := hD.sub (ws' := [(ho, .inr (0, [vz_0, vz_1, vz_2, .int (nI T), vz_4, vz_5, vz_6, .ref aK, vz_8, vz_9, .ref aH, .ref aU])), (aK, .inl (cI, 6, .inl fK)), (aH, .inl (cI, 6, .inl fH)), (aU, .inl (cI, 6, .inl fU)), (tr, .inr (4, [.ref bg, .int (nI tc2_5)])), (bg, .inl (cI, 16, .inl gf2_4))]) [0, 1, 2, 3, 4, 5] (by decide) rfl
    exact wt_iret hx hb hr hlocks hP9 hD9 hS ⟨gf2_4, tc2_5, rfl, (by omega)⟩ dX5_begin_168
  rcases wt_dec (bo) 21 with c_57 | c_57
  · subst c_57
    refine lv_tableIn (off := 148) (tgt := 169) hx hb dX5_begin_21 (by decide) (by decide) rfl (by decide) ?_
    refine lv_aload_n hx hb dX5_begin_169 rfl (lv_at hl 1 rfl) ?_
    refine lv_aload_n hx hb dX5_begin_170 rfl (lv_at hl 2 rfl) ?_
    refine lv_bipush (v := 20) hx hb dX5_begin_171 (by decide) ?_
    refine lv_iload_n hx hb dX5_begin_173 rfl (lv_at hl 4 rfl) ?_
    refine lv_iload hx hb dX5_begin_174 (lv_at hl 0 rfl) ?_
    refine wt_goI (wr := []) (wt_runSZ (As := [.ref ho, .ref tr, .int 20, .int (nI j), .int (nI (d + 1))]) (rest := []) ⟨hx, hb, hml, hown, hts⟩ (c_X5_begin_10 l D cI cZ cH _ _ _ ho aK aH aU T j (d + 1) fK fH fU tr bg tc2_5 gf2_4 20 vz_0 vz_1 vz_2 vz_4 vz_5 vz_6 vz_8 vz_9 (by first | assumption | omega) (by first | assumption | omega) (by first | assumption | omega) (by first | assumption | omega)) (va_cwS 5 hts gX5_begin_X5_begin rfl rfl rfl (by decide +kernel) ⟨Nat.le_of_ble_eq_true rfl, Nat.le_of_ble_eq_true rfl⟩) hK hP hD [0, 1, 2, 3, 4, 5] rfl (by decide) hZ hS hA rfl hl.1 rfl (Nat.le_of_ble_eq_true rfl) dX5_begin_176 ⟨Nat.le_of_ble_eq_true rfl, Nat.le_of_ble_eq_true rfl⟩) hP hD hS hA [0, 1, 2, 3, 4, 5] [] rfl rfl (by decide) (by decide) (fun r_58 w_59 H locs h_60 hP hD hS => ?_)
    obtain ⟨gf2_61, tc2_62, rfl, x_63⟩ := h_60
    have hP : va_P D vwCl [(ho, .inr (0, [vz_0, vz_1, vz_2, .int (nI T), vz_4, vz_5, vz_6, .ref aK, vz_8, vz_9, .ref aH, .ref aU])), (aK, .inl (cI, 6, .inl fK)), (aH, .inl (cI, 6, .inl fH)), (aU, .inl (cI, 6, .inl fU)), (tr, .inr (4, [.ref bg, .int (nI tc2_62)])), (bg, .inl (cI, 16, .inl gf2_61))] H := hP
    have hD : va_D A [(ho, .inr (0, [vz_0, vz_1, vz_2, .int (nI T), vz_4, vz_5, vz_6, .ref aK, vz_8, vz_9, .ref aH, .ref aU])), (aK, .inl (cI, 6, .inl fK)), (aH, .inl (cI, 6, .inl fH)), (aU, .inl (cI, 6, .inl fU)), (tr, .inr (4, [.ref bg, .int (nI tc2_62)])), (bg, .inl (cI, 16, .inl gf2_61))] := hD
    refine lv_aload_n hx hb dX5_begin_179 rfl (lv_at hl 1 rfl) ?_
    refine va_get (D := D) (ci := 0) (v := .ref aU) (C := RX0) (T := TX0) (N := 12) hx hb hts hi0 hown hK.1 hP 0 rfl rfl 11 (by decide) wf175 (fun _ h9 => h9) rfl dX5_begin_180 ?_
    refine lv_iload_n hx hb dX5_begin_183 rfl (lv_at hl 4 rfl) ?_
    refine va_iald hx hb hK.1 hP 3 0 rfl rfl (vp_in_nI (by omega) (by omega)) dX5_begin_184 ?_
    refine lv_topi (fun ov_64 _ => ?_)
    refine lv_iadd hx hb dX5_begin_185 ?_
    refine lv_topi (fun ov_65 _ => ?_)
    have hP9 := hP.sub (ws' := [(ho, .inr (0, [vz_0, vz_1, vz_2, .int (nI T), vz_4, vz_5, vz_6, .ref aK, vz_8, vz_9, .ref aH, .ref aU])), (aK, .inl (cI, 6, .inl fK)), (aH, .inl (cI, 6, .inl fH)), (aU, .inl (cI, 6, .inl fU)), (tr, .inr (4, [.ref bg, .int (nI tc2_62)])), (bg, .inl (cI, 16, .inl gf2_61))]) [0, 1, 2, 3, 4, 5] rfl
    have hD9 := hD.sub (ws' := [(ho, .inr (0, [vz_0, vz_1, vz_2, .int (nI T), vz_4, vz_5, vz_6, .ref aK, vz_8, vz_9, .ref aH, .ref aU])), (aK, .inl (cI, 6, .inl fK)), (aH, .inl (cI, 6, .inl fH)), (aU, .inl (cI, 6, .inl fU)), (tr, .inr (4, [.ref bg, .int (nI tc2_62)])), (bg, .inl (cI, 16, .inl gf2_61))]) [0, 1, 2, 3, 4, 5] (by decide) rfl
    exact wt_iret hx hb hr hlocks hP9 hD9 hS ⟨gf2_61, tc2_62, rfl, (by omega)⟩ dX5_begin_186
  rcases wt_dec (bo) 22 with c_66 | c_66
  · subst c_66
    refine lv_tableIn (off := 166) (tgt := 187) hx hb dX5_begin_21 (by decide) (by decide) rfl (by decide) ?_
    refine lv_aload_n hx hb dX5_begin_187 rfl (lv_at hl 1 rfl) ?_
    refine lv_aload_n hx hb dX5_begin_188 rfl (lv_at hl 2 rfl) ?_
    refine lv_bipush (v := 21) hx hb dX5_begin_189 (by decide) ?_
    refine lv_iload_n hx hb dX5_begin_191 rfl (lv_at hl 4 rfl) ?_
    refine lv_iload hx hb dX5_begin_192 (lv_at hl 0 rfl) ?_
    refine wt_goI (wr := []) (wt_runSZ (As := [.ref ho, .ref tr, .int 21, .int (nI j), .int (nI (d + 1))]) (rest := []) ⟨hx, hb, hml, hown, hts⟩ (c_X5_begin_10 l D cI cZ cH _ _ _ ho aK aH aU T j (d + 1) fK fH fU tr bg tc2_5 gf2_4 21 vz_0 vz_1 vz_2 vz_4 vz_5 vz_6 vz_8 vz_9 (by first | assumption | omega) (by first | assumption | omega) (by first | assumption | omega) (by first | assumption | omega)) (va_cwS 5 hts gX5_begin_X5_begin rfl rfl rfl (by decide +kernel) ⟨Nat.le_of_ble_eq_true rfl, Nat.le_of_ble_eq_true rfl⟩) hK hP hD [0, 1, 2, 3, 4, 5] rfl (by decide) hZ hS hA rfl hl.1 rfl (Nat.le_of_ble_eq_true rfl) dX5_begin_194 ⟨Nat.le_of_ble_eq_true rfl, Nat.le_of_ble_eq_true rfl⟩) hP hD hS hA [0, 1, 2, 3, 4, 5] [] rfl rfl (by decide) (by decide) (fun r_67 w_68 H locs h_69 hP hD hS => ?_)
    obtain ⟨gf2_70, tc2_71, rfl, x_72⟩ := h_69
    have hP : va_P D vwCl [(ho, .inr (0, [vz_0, vz_1, vz_2, .int (nI T), vz_4, vz_5, vz_6, .ref aK, vz_8, vz_9, .ref aH, .ref aU])), (aK, .inl (cI, 6, .inl fK)), (aH, .inl (cI, 6, .inl fH)), (aU, .inl (cI, 6, .inl fU)), (tr, .inr (4, [.ref bg, .int (nI tc2_71)])), (bg, .inl (cI, 16, .inl gf2_70))] H := hP
    have hD : va_D A [(ho, .inr (0, [vz_0, vz_1, vz_2, .int (nI T), vz_4, vz_5, vz_6, .ref aK, vz_8, vz_9, .ref aH, .ref aU])), (aK, .inl (cI, 6, .inl fK)), (aH, .inl (cI, 6, .inl fH)), (aU, .inl (cI, 6, .inl fU)), (tr, .inr (4, [.ref bg, .int (nI tc2_71)])), (bg, .inl (cI, 16, .inl gf2_70))] := hD
    refine lv_sipush (v := 1000) hx hb dX5_begin_197 (by decide) ?_
    refine lv_isub hx hb dX5_begin_200 ?_
    refine lv_topi (fun ov_73 _ => ?_)
    have hP9 := hP.sub (ws' := [(ho, .inr (0, [vz_0, vz_1, vz_2, .int (nI T), vz_4, vz_5, vz_6, .ref aK, vz_8, vz_9, .ref aH, .ref aU])), (aK, .inl (cI, 6, .inl fK)), (aH, .inl (cI, 6, .inl fH)), (aU, .inl (cI, 6, .inl fU)), (tr, .inr (4, [.ref bg, .int (nI tc2_71)])), (bg, .inl (cI, 16, .inl gf2_70))]) [0, 1, 2, 3, 4, 5] rfl
    have hD9 := hD.sub (ws' := [(ho, .inr (0, [vz_0, vz_1, vz_2, .int (nI T), vz_4, vz_5, vz_6, .ref aK, vz_8, vz_9, .ref aH, .ref aU])), (aK, .inl (cI, 6, .inl fK)), (aH, .inl (cI, 6, .inl fH)), (aU, .inl (cI, 6, .inl fU)), (tr, .inr (4, [.ref bg, .int (nI tc2_71)])), (bg, .inl (cI, 16, .inl gf2_70))]) [0, 1, 2, 3, 4, 5] (by decide) rfl
    exact wt_iret hx hb hr hlocks hP9 hD9 hS ⟨gf2_70, tc2_71, rfl, (by omega)⟩ dX5_begin_201
  rcases wt_dec (bo) 23 with c_74 | c_74
  · subst c_74
    refine lv_tableIn (off := 181) (tgt := 202) hx hb dX5_begin_21 (by decide) (by decide) rfl (by decide) ?_
    refine lv_aload_n hx hb dX5_begin_202 rfl (lv_at hl 1 rfl) ?_
    refine lv_aload_n hx hb dX5_begin_203 rfl (lv_at hl 2 rfl) ?_
    refine lv_bipush (v := 20) hx hb dX5_begin_204 (by decide) ?_
    refine lv_iload_n hx hb dX5_begin_206 rfl (lv_at hl 4 rfl) ?_
    refine lv_iload hx hb dX5_begin_207 (lv_at hl 0 rfl) ?_
    refine wt_goI (wr := []) (wt_runSZ (As := [.ref ho, .ref tr, .int 20, .int (nI j), .int (nI (d + 1))]) (rest := []) ⟨hx, hb, hml, hown, hts⟩ (c_X5_begin_10 l D cI cZ cH _ _ _ ho aK aH aU T j (d + 1) fK fH fU tr bg tc2_5 gf2_4 20 vz_0 vz_1 vz_2 vz_4 vz_5 vz_6 vz_8 vz_9 (by first | assumption | omega) (by first | assumption | omega) (by first | assumption | omega) (by first | assumption | omega)) (va_cwS 5 hts gX5_begin_X5_begin rfl rfl rfl (by decide +kernel) ⟨Nat.le_of_ble_eq_true rfl, Nat.le_of_ble_eq_true rfl⟩) hK hP hD [0, 1, 2, 3, 4, 5] rfl (by decide) hZ hS hA rfl hl.1 rfl (Nat.le_of_ble_eq_true rfl) dX5_begin_209 ⟨Nat.le_of_ble_eq_true rfl, Nat.le_of_ble_eq_true rfl⟩) hP hD hS hA [0, 1, 2, 3, 4, 5] [] rfl rfl (by decide) (by decide) (fun r_75 w_76 H locs h_77 hP hD hS => ?_)
    obtain ⟨gf2_78, tc2_79, rfl, x_80⟩ := h_77
    have hP : va_P D vwCl [(ho, .inr (0, [vz_0, vz_1, vz_2, .int (nI T), vz_4, vz_5, vz_6, .ref aK, vz_8, vz_9, .ref aH, .ref aU])), (aK, .inl (cI, 6, .inl fK)), (aH, .inl (cI, 6, .inl fH)), (aU, .inl (cI, 6, .inl fU)), (tr, .inr (4, [.ref bg, .int (nI tc2_79)])), (bg, .inl (cI, 16, .inl gf2_78))] H := hP
    have hD : va_D A [(ho, .inr (0, [vz_0, vz_1, vz_2, .int (nI T), vz_4, vz_5, vz_6, .ref aK, vz_8, vz_9, .ref aH, .ref aU])), (aK, .inl (cI, 6, .inl fK)), (aH, .inl (cI, 6, .inl fH)), (aU, .inl (cI, 6, .inl fU)), (tr, .inr (4, [.ref bg, .int (nI tc2_79)])), (bg, .inl (cI, 16, .inl gf2_78))] := hD
    refine lv_aload_n hx hb dX5_begin_212 rfl (lv_at hl 1 rfl) ?_
    refine lv_aload_n hx hb dX5_begin_213 rfl (lv_at hl 2 rfl) ?_
    refine lv_aload_n hx hb dX5_begin_214 rfl (lv_at hl 1 rfl) ?_
    refine lv_iload_n hx hb dX5_begin_215 rfl (lv_at hl 4 rfl) ?_
    refine wt_goI (wr := [(aH, .inl (cI, 6, .inl fH)), (aU, .inl (cI, 6, .inl fU)), (tr, .inr (4, [.ref bg, .int (nI tc2_79)])), (bg, .inl (cI, 16, .inl gf2_78))]) (wt_runSZ (As := [.ref ho, .int (nI j)]) (rest := [.ref tr, .ref ho, .int r_75]) ⟨hx, hb, hml, hown, hts⟩ (c_X5_sizeBody l D cI cZ cH _ _ _ ho aK T j fK vz_0 vz_1 vz_2 vz_4 vz_5 vz_6 vz_8 vz_9 (.ref aH) (.ref aU) (by first | assumption | omega) (by first | assumption | omega)) (va_cwS 2 hts gX5_begin_X5_sizeBody rfl rfl rfl (by decide +kernel) ⟨Nat.le_of_ble_eq_true rfl, Nat.le_of_ble_eq_true rfl⟩) hK hP hD [0, 1] rfl (by decide) hZ hS hA rfl hl.1 rfl (Nat.le_of_ble_eq_true rfl) dX5_begin_216 ⟨Nat.le_of_ble_eq_true rfl, Nat.le_of_ble_eq_true rfl⟩) hP hD hS hA [0, 1] [2, 3, 4, 5] rfl rfl (by decide) (by decide) (fun r_81 w_82 H locs h_83 hP hD hS => ?_)
    obtain rfl := h_83
    have hP : va_P D vwCl [(aH, .inl (cI, 6, .inl fH)), (aU, .inl (cI, 6, .inl fU)), (tr, .inr (4, [.ref bg, .int (nI tc2_79)])), (bg, .inl (cI, 16, .inl gf2_78)), (ho, .inr (0, [vz_0, vz_1, vz_2, .int (nI T), vz_4, vz_5, vz_6, .ref aK, vz_8, vz_9, .ref aH, .ref aU])), (aK, .inl (cI, 6, .inl fK))] H := hP
    have hD : va_D A [(aH, .inl (cI, 6, .inl fH)), (aU, .inl (cI, 6, .inl fU)), (tr, .inr (4, [.ref bg, .int (nI tc2_79)])), (bg, .inl (cI, 16, .inl gf2_78)), (ho, .inr (0, [vz_0, vz_1, vz_2, .int (nI T), vz_4, vz_5, vz_6, .ref aK, vz_8, vz_9, .ref aH, .ref aU])), (aK, .inl (cI, 6, .inl fK))] := hD
    refine lv_iload_n hx hb dX5_begin_219 rfl (lv_at hl 4 rfl) ?_
    refine lv_iload hx hb dX5_begin_220 (lv_at hl 0 rfl) ?_
    refine wt_goI (wr := []) (wt_runSZ (As := [.ref ho, .ref tr, .int r_81, .int (nI j), .int (nI (d + 1))]) (rest := [.int r_75]) ⟨hx, hb, hml, hown, hts⟩ (c_X5_begin_10 l D cI cZ cH _ _ _ ho aK aH aU T j (d + 1) fK fH fU tr bg tc2_79 gf2_78 r_81 vz_0 vz_1 vz_2 vz_4 vz_5 vz_6 vz_8 vz_9 (by first | assumption | omega) (by first | assumption | omega) (by first | assumption | omega) (by first | assumption | omega)) (va_cwS 5 hts gX5_begin_X5_begin rfl rfl rfl (by decide +kernel) ⟨Nat.le_of_ble_eq_true rfl, Nat.le_of_ble_eq_true rfl⟩) hK hP hD [4, 5, 0, 1, 2, 3] rfl (by decide) hZ hS hA rfl hl.1 rfl (Nat.le_of_ble_eq_true rfl) dX5_begin_222 ⟨Nat.le_of_ble_eq_true rfl, Nat.le_of_ble_eq_true rfl⟩) hP hD hS hA [4, 5, 0, 1, 2, 3] [] rfl rfl (by decide) (by decide) (fun r_84 w_85 H locs h_86 hP hD hS => ?_)
    obtain ⟨gf2_87, tc2_88, rfl, x_89⟩ := h_86
    have hP : va_P D vwCl [(ho, .inr (0, [vz_0, vz_1, vz_2, .int (nI T), vz_4, vz_5, vz_6, .ref aK, vz_8, vz_9, .ref aH, .ref aU])), (aK, .inl (cI, 6, .inl fK)), (aH, .inl (cI, 6, .inl fH)), (aU, .inl (cI, 6, .inl fU)), (tr, .inr (4, [.ref bg, .int (nI tc2_88)])), (bg, .inl (cI, 16, .inl gf2_87))] H := hP
    have hD : va_D A [(ho, .inr (0, [vz_0, vz_1, vz_2, .int (nI T), vz_4, vz_5, vz_6, .ref aK, vz_8, vz_9, .ref aH, .ref aU])), (aK, .inl (cI, 6, .inl fK)), (aH, .inl (cI, 6, .inl fH)), (aU, .inl (cI, 6, .inl fU)), (tr, .inr (4, [.ref bg, .int (nI tc2_88)])), (bg, .inl (cI, 16, .inl gf2_87))] := hD
    refine lv_isub hx hb dX5_begin_225 ?_
    refine lv_topi (fun ov_90 _ => ?_)
    have hP9 := hP.sub (ws' := [(ho, .inr (0, [vz_0, vz_1, vz_2, .int (nI T), vz_4, vz_5, vz_6, .ref aK, vz_8, vz_9, .ref aH, .ref aU])), (aK, .inl (cI, 6, .inl fK)), (aH, .inl (cI, 6, .inl fH)), (aU, .inl (cI, 6, .inl fU)), (tr, .inr (4, [.ref bg, .int (nI tc2_88)])), (bg, .inl (cI, 16, .inl gf2_87))]) [0, 1, 2, 3, 4, 5] rfl
    have hD9 := hD.sub (ws' := [(ho, .inr (0, [vz_0, vz_1, vz_2, .int (nI T), vz_4, vz_5, vz_6, .ref aK, vz_8, vz_9, .ref aH, .ref aU])), (aK, .inl (cI, 6, .inl fK)), (aH, .inl (cI, 6, .inl fH)), (aU, .inl (cI, 6, .inl fU)), (tr, .inr (4, [.ref bg, .int (nI tc2_88)])), (bg, .inl (cI, 16, .inl gf2_87))]) [0, 1, 2, 3, 4, 5] (by decide) rfl
    exact wt_iret hx hb hr hlocks hP9 hD9 hS ⟨gf2_87, tc2_88, rfl, (by omega)⟩ dX5_begin_226
  rcases wt_dec (bo) 24 with c_91 | c_91
  · subst c_91
    refine lv_tableIn (off := 206) (tgt := 227) hx hb dX5_begin_21 (by decide) (by decide) rfl (by decide) ?_
    refine lv_aload_n hx hb dX5_begin_227 rfl (lv_at hl 1 rfl) ?_
    refine lv_aload_n hx hb dX5_begin_228 rfl (lv_at hl 2 rfl) ?_
    refine lv_bipush (v := 21) hx hb dX5_begin_229 (by decide) ?_
    refine lv_iload_n hx hb dX5_begin_231 rfl (lv_at hl 4 rfl) ?_
    refine lv_iload hx hb dX5_begin_232 (lv_at hl 0 rfl) ?_
    refine wt_goI (wr := []) (wt_runSZ (As := [.ref ho, .ref tr, .int 21, .int (nI j), .int (nI (d + 1))]) (rest := []) ⟨hx, hb, hml, hown, hts⟩ (c_X5_begin_10 l D cI cZ cH _ _ _ ho aK aH aU T j (d + 1) fK fH fU tr bg tc2_5 gf2_4 21 vz_0 vz_1 vz_2 vz_4 vz_5 vz_6 vz_8 vz_9 (by first | assumption | omega) (by first | assumption | omega) (by first | assumption | omega) (by first | assumption | omega)) (va_cwS 5 hts gX5_begin_X5_begin rfl rfl rfl (by decide +kernel) ⟨Nat.le_of_ble_eq_true rfl, Nat.le_of_ble_eq_true rfl⟩) hK hP hD [0, 1, 2, 3, 4, 5] rfl (by decide) hZ hS hA rfl hl.1 rfl (Nat.le_of_ble_eq_true rfl) dX5_begin_234 ⟨Nat.le_of_ble_eq_true rfl, Nat.le_of_ble_eq_true rfl⟩) hP hD hS hA [0, 1, 2, 3, 4, 5] [] rfl rfl (by decide) (by decide) (fun r_92 w_93 H locs h_94 hP hD hS => ?_)
    obtain ⟨gf2_95, tc2_96, rfl, x_97⟩ := h_94
    have hP : va_P D vwCl [(ho, .inr (0, [vz_0, vz_1, vz_2, .int (nI T), vz_4, vz_5, vz_6, .ref aK, vz_8, vz_9, .ref aH, .ref aU])), (aK, .inl (cI, 6, .inl fK)), (aH, .inl (cI, 6, .inl fH)), (aU, .inl (cI, 6, .inl fU)), (tr, .inr (4, [.ref bg, .int (nI tc2_96)])), (bg, .inl (cI, 16, .inl gf2_95))] H := hP
    have hD : va_D A [(ho, .inr (0, [vz_0, vz_1, vz_2, .int (nI T), vz_4, vz_5, vz_6, .ref aK, vz_8, vz_9, .ref aH, .ref aU])), (aK, .inl (cI, 6, .inl fK)), (aH, .inl (cI, 6, .inl fH)), (aU, .inl (cI, 6, .inl fU)), (tr, .inr (4, [.ref bg, .int (nI tc2_96)])), (bg, .inl (cI, 16, .inl gf2_95))] := hD
    refine lv_iconst (v := 2) hx hb dX5_begin_237 (by decide) ?_
    refine lv_imul hx hb dX5_begin_238 ?_
    refine lv_topi (fun ov_98 _ => ?_)
    have hP9 := hP.sub (ws' := [(ho, .inr (0, [vz_0, vz_1, vz_2, .int (nI T), vz_4, vz_5, vz_6, .ref aK, vz_8, vz_9, .ref aH, .ref aU])), (aK, .inl (cI, 6, .inl fK)), (aH, .inl (cI, 6, .inl fH)), (aU, .inl (cI, 6, .inl fU)), (tr, .inr (4, [.ref bg, .int (nI tc2_96)])), (bg, .inl (cI, 16, .inl gf2_95))]) [0, 1, 2, 3, 4, 5] rfl
    have hD9 := hD.sub (ws' := [(ho, .inr (0, [vz_0, vz_1, vz_2, .int (nI T), vz_4, vz_5, vz_6, .ref aK, vz_8, vz_9, .ref aH, .ref aU])), (aK, .inl (cI, 6, .inl fK)), (aH, .inl (cI, 6, .inl fH)), (aU, .inl (cI, 6, .inl fU)), (tr, .inr (4, [.ref bg, .int (nI tc2_96)])), (bg, .inl (cI, 16, .inl gf2_95))]) [0, 1, 2, 3, 4, 5] (by decide) rfl
    exact wt_iret hx hb hr hlocks hP9 hD9 hS ⟨gf2_95, tc2_96, rfl, (by omega)⟩ dX5_begin_239
  refine lv_tableOut (tgt := 240) hx hb dX5_begin_21 (by have := lv_neT (a := 10) c_8 rfl; have := lv_neT (a := 11) c_10 rfl; have := lv_neT (a := 12) c_27 rfl; have := lv_neT (a := 13) c_35 rfl; have := lv_neT (a := 14) c_43 rfl; have := lv_neT (a := 15) c_51 rfl; have := lv_neT (a := 16) c_52 rfl; have := lv_neT (a := 17) c_53 rfl; have := lv_neT (a := 18) c_54 rfl; have := lv_neT (a := 19) c_55 rfl; have := lv_neT (a := 20) c_56 rfl; have := lv_neT (a := 21) c_57 rfl; have := lv_neT (a := 22) c_66 rfl; have := lv_neT (a := 23) c_74 rfl; have := lv_neT (a := 24) c_91 rfl; omega) (by decide) ?_
  refine lv_iconst (v := 0) hx hb dX5_begin_240 (by decide) ?_
  have hP9 := hP.sub (ws' := [(ho, .inr (0, [vz_0, vz_1, vz_2, .int (nI T), vz_4, vz_5, vz_6, .ref aK, vz_8, vz_9, .ref aH, .ref aU])), (aK, .inl (cI, 6, .inl fK)), (aH, .inl (cI, 6, .inl fH)), (aU, .inl (cI, 6, .inl fU)), (tr, .inr (4, [.ref bg, .int (nI tc2_5)])), (bg, .inl (cI, 16, .inl gf2_4))]) [0, 1, 2, 3, 4, 5] rfl
  have hD9 := hD.sub (ws' := [(ho, .inr (0, [vz_0, vz_1, vz_2, .int (nI T), vz_4, vz_5, vz_6, .ref aK, vz_8, vz_9, .ref aH, .ref aU])), (aK, .inl (cI, 6, .inl fK)), (aH, .inl (cI, 6, .inl fH)), (aU, .inl (cI, 6, .inl fU)), (tr, .inr (4, [.ref bg, .int (nI tc2_5)])), (bg, .inl (cI, 16, .inl gf2_4))]) [0, 1, 2, 3, 4, 5] (by decide) rfl
  exact wt_iret hx hb hr hlocks hP9 hD9 hS ⟨gf2_4, tc2_5, rfl, (by omega)⟩ dX5_begin_241
set_option maxHeartbeats 4000000 in
set_option maxRecDepth 100000 in
theorem c_X5_begin_12 (l : Launch) (D : va_G) (cI cZ cH : ClassId) (ab sb mb : Nat) (ho aK aH aU : Nat) (T j d : Nat) (fK fH fU : Nat → Int32) (tr bg : Nat) (tc : Nat) (gf : Nat → Int32) (bo : Int32) (vz_0 vz_1 vz_2 vz_4 vz_5 vz_6 vz_8 vz_9 : Value) (hT6 : T ≤ 6) (hjT : j < T) (hd : d + 12 = 16) (htc : tc ≤ 16) : wt_MZ (wt_ZS ab sb mb abF sbF mbF) l yX5_begin wsX5_begin ({ frames := 13, cells := 0, slots := 0, locals := 319 } : Room) D (wt_T cI cZ cH) [.ref ho, .ref tr, .int bo, .int (nI j), .int (nI d)] [(ho, .inr (0, [vz_0, vz_1, vz_2, .int (nI T), vz_4, vz_5, vz_6, .ref aK, vz_8, vz_9, .ref aH, .ref aU])), (aK, .inl (cI, 6, .inl fK)), (aH, .inl (cI, 6, .inl fH)), (aU, .inl (cI, 6, .inl fU)), (tr, .inr (4, [.ref bg, .int (nI tc)])), (bg, .inl (cI, 16, .inl gf))] (wt_QI D (fun r w => ∃ (gf2 : Nat → Int32) (tc2 : Nat), w = [(ho, .inr (0, [vz_0, vz_1, vz_2, .int (nI T), vz_4, vz_5, vz_6, .ref aK, vz_8, vz_9, .ref aH, .ref aU])), (aK, .inl (cI, 6, .inl fK)), (aH, .inl (cI, 6, .inl fH)), (aU, .inl (cI, 6, .inl fU)), (tr, .inr (4, [.ref bg, .int (nI tc2)])), (bg, .inl (cI, 16, .inl gf2))] ∧ tc2 ≤ 16)) := by
  refine wt_MZ.ofW (cc := cX5_begin) (maxL := 6) (ret := (some .int)) (by decide) rfl (Nat.le_of_ble_eq_true rfl) ?_
  intro p e s m below meth c A ls hx hb hr hts hown hlocks hml hnm hP hK hD hA hS hl hZ
  have hP : va_P D vwCl [(ho, .inr (0, [vz_0, vz_1, vz_2, .int (nI T), vz_4, vz_5, vz_6, .ref aK, vz_8, vz_9, .ref aH, .ref aU])), (aK, .inl (cI, 6, .inl fK)), (aH, .inl (cI, 6, .inl fH)), (aU, .inl (cI, 6, .inl fU)), (tr, .inr (4, [.ref bg, .int (nI tc)])), (bg, .inl (cI, 16, .inl gf))] s.heap := hP
  have hown : s.vm.findClass RX5 = some m.cls := hown
  have hl : lv_has ls 6 [(0, .ref ho), (1, .ref tr), (2, .int bo), (3, .int (nI j)), (4, .int (nI d))] := hl
  have hi0 : ∀ w ∈ u_ws RX0 TX0 12, w ∈ wsX5_begin := by decide +kernel
  have wf175 := hts (.fieldLink RX5 175 "WarmTubes$House" "up" "[I") (by decide +kernel)
  have wf196 := hts (.fieldLink RX5 196 "WarmTubes$House" "holds" "[I") (by decide +kernel)
  refine lv_iload hx hb dX5_begin_0 (lv_at hl 4 rfl) ?_
  refine lv_bipush (v := 16) hx hb dX5_begin_2 (by decide) ?_
  refine lv_icmp_lt (tgt := 9) hx hb dX5_begin_4 (by decide) (fun _ => ?_) (fun h => absurd (nI_lt (a := d) (b := 16) (by omega) (by omega)) h)
  refine lv_aload_n hx hb dX5_begin_9 rfl (lv_at hl 1 rfl) ?_
  refine lv_iload_n hx hb dX5_begin_10 rfl (lv_at hl 2 rfl) ?_
  refine wt_goV (wr := [(ho, .inr (0, [vz_0, vz_1, vz_2, .int (nI T), vz_4, vz_5, vz_6, .ref aK, vz_8, vz_9, .ref aH, .ref aU])), (aK, .inl (cI, 6, .inl fK)), (aH, .inl (cI, 6, .inl fH)), (aU, .inl (cI, 6, .inl fU))]) (wt_runV (As := [.int bo]) (rest := []) ⟨hx, hb, hml, hown, hts⟩ (c_X4_leave l D cI cZ cH tr bg tc gf bo (by first | assumption | omega)) (cwV 1 hts gX5_begin_X4_leave rfl rfl rfl (by decide +kernel) ⟨Nat.le_of_ble_eq_true rfl, Nat.le_of_ble_eq_true rfl⟩) hK hP hD [4, 5] rfl (by decide) (va_recv hK.1 hP (ci := 4) (q0 := 4) rfl rfl) rfl hl.1 rfl (Nat.le_of_ble_eq_true rfl) dX5_begin_11 ⟨Nat.le_of_ble_eq_true rfl, Nat.le_of_ble_eq_true rfl⟩) hP hD hS hA [4, 5] [0, 1, 2, 3] rfl rfl (by decide) (by decide) (fun w_2 H locs h_3 hP hD hS => ?_)
  obtain ⟨gf2_4, tc2_5, rfl, x_6⟩ := h_3
  have hP : va_P D vwCl [(ho, .inr (0, [vz_0, vz_1, vz_2, .int (nI T), vz_4, vz_5, vz_6, .ref aK, vz_8, vz_9, .ref aH, .ref aU])), (aK, .inl (cI, 6, .inl fK)), (aH, .inl (cI, 6, .inl fH)), (aU, .inl (cI, 6, .inl fU)), (tr, .inr (4, [.ref bg, .int (nI tc2_5)])), (bg, .inl (cI, 16, .inl gf2_4))] H := hP
  have hD : va_D A [(ho, .inr (0, [vz_0, vz_1, vz_2, .int (nI T), vz_4, vz_5, vz_6, .ref aK, vz_8, vz_9, .ref aH, .ref aU])), (aK, .inl (cI, 6, .inl fK)), (aH, .inl (cI, 6, .inl fH)), (aU, .inl (cI, 6, .inl fU)), (tr, .inr (4, [.ref bg, .int (nI tc2_5)])), (bg, .inl (cI, 16, .inl gf2_4))] := hD
  refine lv_iload hx hb dX5_begin_14 (lv_at hl 4 rfl) ?_
  refine lv_iconst (v := 1) hx hb dX5_begin_16 (by decide) ?_
  refine lv_iadd hx hb dX5_begin_17 ?_
  refine wt_top (z := nI (d + 1)) (nI_add d 1) ?_
  refine lv_istore (lv' := [(5, .int (nI (d + 1))), (0, .ref ho), (1, .ref tr), (2, .int bo), (3, .int (nI j)), (4, .int (nI d))]) hx hb dX5_begin_18 hl (by decide) rfl (fun ls hl => ?_)
  refine lv_iload_n hx hb dX5_begin_20 rfl (lv_at hl 3 rfl) ?_
  rcases wt_dec (bo) 10 with c_8 | c_8
  · subst c_8
    refine lv_tableIn (off := 75) (tgt := 96) hx hb dX5_begin_21 (by decide) (by decide) rfl (by decide) ?_
    refine lv_aload_n hx hb dX5_begin_96 rfl (lv_at hl 1 rfl) ?_
    refine va_get (D := D) (ci := 0) (v := .ref aH) (C := RX0) (T := TX0) (N := 12) hx hb hts hi0 hown hK.1 hP 0 rfl rfl 10 (by decide) wf196 (fun _ h9 => h9) rfl dX5_begin_97 ?_
    refine lv_iload_n hx hb dX5_begin_100 rfl (lv_at hl 4 rfl) ?_
    refine va_iald hx hb hK.1 hP 2 0 rfl rfl (vp_in_nI (by omega) (by omega)) dX5_begin_101 ?_
    refine lv_topi (fun ov_9 _ => ?_)
    have hP9 := hP.sub (ws' := [(ho, .inr (0, [vz_0, vz_1, vz_2, .int (nI T), vz_4, vz_5, vz_6, .ref aK, vz_8, vz_9, .ref aH, .ref aU])), (aK, .inl (cI, 6, .inl fK)), (aH, .inl (cI, 6, .inl fH)), (aU, .inl (cI, 6, .inl fU)), (tr, .inr (4, [.ref bg, .int (nI tc2_5)])), (bg, .inl (cI, 16, .inl gf2_4))]) [0, 1, 2, 3, 4, 5] rfl
    have hD9 := hD.sub (ws' := [(ho, .inr (0, [vz_0, vz_1, vz_2, .int (nI T), vz_4, vz_5, vz_6, .ref aK, vz_8, vz_9, .ref aH, .ref aU])), (aK, .inl (cI, 6, .inl fK)), (aH, .inl (cI, 6, .inl fH)), (aU, .inl (cI, 6, .inl fU)), (tr, .inr (4, [.ref bg, .int (nI tc2_5)])), (bg, .inl (cI, 16, .inl gf2_4))]) [0, 1, 2, 3, 4, 5] (by decide) rfl
    exact wt_iret hx hb hr hlocks hP9 hD9 hS ⟨gf2_4, tc2_5, rfl, (by omega)⟩ dX5_begin_102
  rcases wt_dec (bo) 11 with c_10 | c_10
  · subst c_10
    refine lv_tableIn (off := 82) (tgt := 103) hx hb dX5_begin_21 (by decide) (by decide) rfl (by decide) ?_
    refine lv_aload_n hx hb dX5_begin_103 rfl (lv_at hl 1 rfl) ?_
    refine lv_aload_n hx hb dX5_begin_104 rfl (lv_at hl 2 rfl) ?_
    refine lv_bipush (v := 10) hx hb dX5_begin_105 (by decide) ?_
    refine lv_iload_n hx hb dX5_begin_107 rfl (lv_at hl 4 rfl) ?_
    refine lv_iload hx hb dX5_begin_108 (lv_at hl 0 rfl) ?_
    refine wt_goI (wr := []) (wt_runSZ (As := [.ref ho, .ref tr, .int 10, .int (nI j), .int (nI (d + 1))]) (rest := []) ⟨hx, hb, hml, hown, hts⟩ (c_X5_begin_11 l D cI cZ cH _ _ _ ho aK aH aU T j (d + 1) fK fH fU tr bg tc2_5 gf2_4 10 vz_0 vz_1 vz_2 vz_4 vz_5 vz_6 vz_8 vz_9 (by first | assumption | omega) (by first | assumption | omega) (by first | assumption | omega) (by first | assumption | omega)) (va_cwS 5 hts gX5_begin_X5_begin rfl rfl rfl (by decide +kernel) ⟨Nat.le_of_ble_eq_true rfl, Nat.le_of_ble_eq_true rfl⟩) hK hP hD [0, 1, 2, 3, 4, 5] rfl (by decide) hZ hS hA rfl hl.1 rfl (Nat.le_of_ble_eq_true rfl) dX5_begin_110 ⟨Nat.le_of_ble_eq_true rfl, Nat.le_of_ble_eq_true rfl⟩) hP hD hS hA [0, 1, 2, 3, 4, 5] [] rfl rfl (by decide) (by decide) (fun r_11 w_12 H locs h_13 hP hD hS => ?_)
    obtain ⟨gf2_14, tc2_15, rfl, x_16⟩ := h_13
    have hP : va_P D vwCl [(ho, .inr (0, [vz_0, vz_1, vz_2, .int (nI T), vz_4, vz_5, vz_6, .ref aK, vz_8, vz_9, .ref aH, .ref aU])), (aK, .inl (cI, 6, .inl fK)), (aH, .inl (cI, 6, .inl fH)), (aU, .inl (cI, 6, .inl fU)), (tr, .inr (4, [.ref bg, .int (nI tc2_15)])), (bg, .inl (cI, 16, .inl gf2_14))] H := hP
    have hD : va_D A [(ho, .inr (0, [vz_0, vz_1, vz_2, .int (nI T), vz_4, vz_5, vz_6, .ref aK, vz_8, vz_9, .ref aH, .ref aU])), (aK, .inl (cI, 6, .inl fK)), (aH, .inl (cI, 6, .inl fH)), (aU, .inl (cI, 6, .inl fU)), (tr, .inr (4, [.ref bg, .int (nI tc2_15)])), (bg, .inl (cI, 16, .inl gf2_14))] := hD
    refine lv_aload_n hx hb dX5_begin_113 rfl (lv_at hl 1 rfl) ?_
    refine lv_aload_n hx hb dX5_begin_114 rfl (lv_at hl 2 rfl) ?_
    refine lv_aload_n hx hb dX5_begin_115 rfl (lv_at hl 1 rfl) ?_
    refine lv_iload_n hx hb dX5_begin_116 rfl (lv_at hl 4 rfl) ?_
    refine wt_goI (wr := [(aH, .inl (cI, 6, .inl fH)), (aU, .inl (cI, 6, .inl fU)), (tr, .inr (4, [.ref bg, .int (nI tc2_15)])), (bg, .inl (cI, 16, .inl gf2_14))]) (wt_runSZ (As := [.ref ho, .int (nI j)]) (rest := [.ref tr, .ref ho, .int r_11]) ⟨hx, hb, hml, hown, hts⟩ (c_X5_markBody l D cI cZ cH _ _ _ ho aK T j fK vz_0 vz_1 vz_2 vz_4 vz_5 vz_6 vz_8 vz_9 (.ref aH) (.ref aU) (by first | assumption | omega) (by first | assumption | omega)) (va_cwS 2 hts gX5_begin_X5_markBody rfl rfl rfl (by decide +kernel) ⟨Nat.le_of_ble_eq_true rfl, Nat.le_of_ble_eq_true rfl⟩) hK hP hD [0, 1] rfl (by decide) hZ hS hA rfl hl.1 rfl (Nat.le_of_ble_eq_true rfl) dX5_begin_117 ⟨Nat.le_of_ble_eq_true rfl, Nat.le_of_ble_eq_true rfl⟩) hP hD hS hA [0, 1] [2, 3, 4, 5] rfl rfl (by decide) (by decide) (fun r_17 w_18 H locs h_19 hP hD hS => ?_)
    obtain rfl := h_19
    have hP : va_P D vwCl [(aH, .inl (cI, 6, .inl fH)), (aU, .inl (cI, 6, .inl fU)), (tr, .inr (4, [.ref bg, .int (nI tc2_15)])), (bg, .inl (cI, 16, .inl gf2_14)), (ho, .inr (0, [vz_0, vz_1, vz_2, .int (nI T), vz_4, vz_5, vz_6, .ref aK, vz_8, vz_9, .ref aH, .ref aU])), (aK, .inl (cI, 6, .inl fK))] H := hP
    have hD : va_D A [(aH, .inl (cI, 6, .inl fH)), (aU, .inl (cI, 6, .inl fU)), (tr, .inr (4, [.ref bg, .int (nI tc2_15)])), (bg, .inl (cI, 16, .inl gf2_14)), (ho, .inr (0, [vz_0, vz_1, vz_2, .int (nI T), vz_4, vz_5, vz_6, .ref aK, vz_8, vz_9, .ref aH, .ref aU])), (aK, .inl (cI, 6, .inl fK))] := hD
    refine lv_iload_n hx hb dX5_begin_120 rfl (lv_at hl 4 rfl) ?_
    refine lv_iload hx hb dX5_begin_121 (lv_at hl 0 rfl) ?_
    refine wt_goI (wr := []) (wt_runSZ (As := [.ref ho, .ref tr, .int r_17, .int (nI j), .int (nI (d + 1))]) (rest := [.int r_11]) ⟨hx, hb, hml, hown, hts⟩ (c_X5_begin_11 l D cI cZ cH _ _ _ ho aK aH aU T j (d + 1) fK fH fU tr bg tc2_15 gf2_14 r_17 vz_0 vz_1 vz_2 vz_4 vz_5 vz_6 vz_8 vz_9 (by first | assumption | omega) (by first | assumption | omega) (by first | assumption | omega) (by first | assumption | omega)) (va_cwS 5 hts gX5_begin_X5_begin rfl rfl rfl (by decide +kernel) ⟨Nat.le_of_ble_eq_true rfl, Nat.le_of_ble_eq_true rfl⟩) hK hP hD [4, 5, 0, 1, 2, 3] rfl (by decide) hZ hS hA rfl hl.1 rfl (Nat.le_of_ble_eq_true rfl) dX5_begin_123 ⟨Nat.le_of_ble_eq_true rfl, Nat.le_of_ble_eq_true rfl⟩) hP hD hS hA [4, 5, 0, 1, 2, 3] [] rfl rfl (by decide) (by decide) (fun r_20 w_21 H locs h_22 hP hD hS => ?_)
    obtain ⟨gf2_23, tc2_24, rfl, x_25⟩ := h_22
    have hP : va_P D vwCl [(ho, .inr (0, [vz_0, vz_1, vz_2, .int (nI T), vz_4, vz_5, vz_6, .ref aK, vz_8, vz_9, .ref aH, .ref aU])), (aK, .inl (cI, 6, .inl fK)), (aH, .inl (cI, 6, .inl fH)), (aU, .inl (cI, 6, .inl fU)), (tr, .inr (4, [.ref bg, .int (nI tc2_24)])), (bg, .inl (cI, 16, .inl gf2_23))] H := hP
    have hD : va_D A [(ho, .inr (0, [vz_0, vz_1, vz_2, .int (nI T), vz_4, vz_5, vz_6, .ref aK, vz_8, vz_9, .ref aH, .ref aU])), (aK, .inl (cI, 6, .inl fK)), (aH, .inl (cI, 6, .inl fH)), (aU, .inl (cI, 6, .inl fU)), (tr, .inr (4, [.ref bg, .int (nI tc2_24)])), (bg, .inl (cI, 16, .inl gf2_23))] := hD
    refine lv_iadd hx hb dX5_begin_126 ?_
    refine lv_topi (fun ov_26 _ => ?_)
    have hP9 := hP.sub (ws' := [(ho, .inr (0, [vz_0, vz_1, vz_2, .int (nI T), vz_4, vz_5, vz_6, .ref aK, vz_8, vz_9, .ref aH, .ref aU])), (aK, .inl (cI, 6, .inl fK)), (aH, .inl (cI, 6, .inl fH)), (aU, .inl (cI, 6, .inl fU)), (tr, .inr (4, [.ref bg, .int (nI tc2_24)])), (bg, .inl (cI, 16, .inl gf2_23))]) [0, 1, 2, 3, 4, 5] rfl
    have hD9 := hD.sub (ws' := [(ho, .inr (0, [vz_0, vz_1, vz_2, .int (nI T), vz_4, vz_5, vz_6, .ref aK, vz_8, vz_9, .ref aH, .ref aU])), (aK, .inl (cI, 6, .inl fK)), (aH, .inl (cI, 6, .inl fH)), (aU, .inl (cI, 6, .inl fU)), (tr, .inr (4, [.ref bg, .int (nI tc2_24)])), (bg, .inl (cI, 16, .inl gf2_23))]) [0, 1, 2, 3, 4, 5] (by decide) rfl
    exact wt_iret hx hb hr hlocks hP9 hD9 hS ⟨gf2_23, tc2_24, rfl, (by omega)⟩ dX5_begin_127
  rcases wt_dec (bo) 12 with c_27 | c_27
  · subst c_27
    refine lv_tableIn (off := 107) (tgt := 128) hx hb dX5_begin_21 (by decide) (by decide) rfl (by decide) ?_
    refine lv_aload_n hx hb dX5_begin_128 rfl (lv_at hl 1 rfl) ?_
    refine lv_aload_n hx hb dX5_begin_129 rfl (lv_at hl 2 rfl) ?_
    refine lv_bipush (v := 11) hx hb dX5_begin_130 (by decide) ?_
    refine lv_iload_n hx hb dX5_begin_132 rfl (lv_at hl 4 rfl) ?_
    refine lv_iload hx hb dX5_begin_133 (lv_at hl 0 rfl) ?_
    refine wt_goI (wr := []) (wt_runSZ (As := [.ref ho, .ref tr, .int 11, .int (nI j), .int (nI (d + 1))]) (rest := []) ⟨hx, hb, hml, hown, hts⟩ (c_X5_begin_11 l D cI cZ cH _ _ _ ho aK aH aU T j (d + 1) fK fH fU tr bg tc2_5 gf2_4 11 vz_0 vz_1 vz_2 vz_4 vz_5 vz_6 vz_8 vz_9 (by first | assumption | omega) (by first | assumption | omega) (by first | assumption | omega) (by first | assumption | omega)) (va_cwS 5 hts gX5_begin_X5_begin rfl rfl rfl (by decide +kernel) ⟨Nat.le_of_ble_eq_true rfl, Nat.le_of_ble_eq_true rfl⟩) hK hP hD [0, 1, 2, 3, 4, 5] rfl (by decide) hZ hS hA rfl hl.1 rfl (Nat.le_of_ble_eq_true rfl) dX5_begin_135 ⟨Nat.le_of_ble_eq_true rfl, Nat.le_of_ble_eq_true rfl⟩) hP hD hS hA [0, 1, 2, 3, 4, 5] [] rfl rfl (by decide) (by decide) (fun r_28 w_29 H locs h_30 hP hD hS => ?_)
    obtain ⟨gf2_31, tc2_32, rfl, x_33⟩ := h_30
    have hP : va_P D vwCl [(ho, .inr (0, [vz_0, vz_1, vz_2, .int (nI T), vz_4, vz_5, vz_6, .ref aK, vz_8, vz_9, .ref aH, .ref aU])), (aK, .inl (cI, 6, .inl fK)), (aH, .inl (cI, 6, .inl fH)), (aU, .inl (cI, 6, .inl fU)), (tr, .inr (4, [.ref bg, .int (nI tc2_32)])), (bg, .inl (cI, 16, .inl gf2_31))] H := hP
    have hD : va_D A [(ho, .inr (0, [vz_0, vz_1, vz_2, .int (nI T), vz_4, vz_5, vz_6, .ref aK, vz_8, vz_9, .ref aH, .ref aU])), (aK, .inl (cI, 6, .inl fK)), (aH, .inl (cI, 6, .inl fH)), (aU, .inl (cI, 6, .inl fU)), (tr, .inr (4, [.ref bg, .int (nI tc2_32)])), (bg, .inl (cI, 16, .inl gf2_31))] := hD
    refine lv_ineg hx hb dX5_begin_138 ?_
    refine lv_topi (fun ov_34 _ => ?_)
    have hP9 := hP.sub (ws' := [(ho, .inr (0, [vz_0, vz_1, vz_2, .int (nI T), vz_4, vz_5, vz_6, .ref aK, vz_8, vz_9, .ref aH, .ref aU])), (aK, .inl (cI, 6, .inl fK)), (aH, .inl (cI, 6, .inl fH)), (aU, .inl (cI, 6, .inl fU)), (tr, .inr (4, [.ref bg, .int (nI tc2_32)])), (bg, .inl (cI, 16, .inl gf2_31))]) [0, 1, 2, 3, 4, 5] rfl
    have hD9 := hD.sub (ws' := [(ho, .inr (0, [vz_0, vz_1, vz_2, .int (nI T), vz_4, vz_5, vz_6, .ref aK, vz_8, vz_9, .ref aH, .ref aU])), (aK, .inl (cI, 6, .inl fK)), (aH, .inl (cI, 6, .inl fH)), (aU, .inl (cI, 6, .inl fU)), (tr, .inr (4, [.ref bg, .int (nI tc2_32)])), (bg, .inl (cI, 16, .inl gf2_31))]) [0, 1, 2, 3, 4, 5] (by decide) rfl
    exact wt_iret hx hb hr hlocks hP9 hD9 hS ⟨gf2_31, tc2_32, rfl, (by omega)⟩ dX5_begin_139
  rcases wt_dec (bo) 13 with c_35 | c_35
  · subst c_35
    refine lv_tableIn (off := 119) (tgt := 140) hx hb dX5_begin_21 (by decide) (by decide) rfl (by decide) ?_
    refine lv_aload_n hx hb dX5_begin_140 rfl (lv_at hl 1 rfl) ?_
    refine lv_aload_n hx hb dX5_begin_141 rfl (lv_at hl 2 rfl) ?_
    refine lv_bipush (v := 10) hx hb dX5_begin_142 (by decide) ?_
    refine lv_iload_n hx hb dX5_begin_144 rfl (lv_at hl 4 rfl) ?_
    refine lv_iload hx hb dX5_begin_145 (lv_at hl 0 rfl) ?_
    refine wt_goI (wr := []) (wt_runSZ (As := [.ref ho, .ref tr, .int 10, .int (nI j), .int (nI (d + 1))]) (rest := []) ⟨hx, hb, hml, hown, hts⟩ (c_X5_begin_11 l D cI cZ cH _ _ _ ho aK aH aU T j (d + 1) fK fH fU tr bg tc2_5 gf2_4 10 vz_0 vz_1 vz_2 vz_4 vz_5 vz_6 vz_8 vz_9 (by first | assumption | omega) (by first | assumption | omega) (by first | assumption | omega) (by first | assumption | omega)) (va_cwS 5 hts gX5_begin_X5_begin rfl rfl rfl (by decide +kernel) ⟨Nat.le_of_ble_eq_true rfl, Nat.le_of_ble_eq_true rfl⟩) hK hP hD [0, 1, 2, 3, 4, 5] rfl (by decide) hZ hS hA rfl hl.1 rfl (Nat.le_of_ble_eq_true rfl) dX5_begin_147 ⟨Nat.le_of_ble_eq_true rfl, Nat.le_of_ble_eq_true rfl⟩) hP hD hS hA [0, 1, 2, 3, 4, 5] [] rfl rfl (by decide) (by decide) (fun r_36 w_37 H locs h_38 hP hD hS => ?_)
    obtain ⟨gf2_39, tc2_40, rfl, x_41⟩ := h_38
    have hP : va_P D vwCl [(ho, .inr (0, [vz_0, vz_1, vz_2, .int (nI T), vz_4, vz_5, vz_6, .ref aK, vz_8, vz_9, .ref aH, .ref aU])), (aK, .inl (cI, 6, .inl fK)), (aH, .inl (cI, 6, .inl fH)), (aU, .inl (cI, 6, .inl fU)), (tr, .inr (4, [.ref bg, .int (nI tc2_40)])), (bg, .inl (cI, 16, .inl gf2_39))] H := hP
    have hD : va_D A [(ho, .inr (0, [vz_0, vz_1, vz_2, .int (nI T), vz_4, vz_5, vz_6, .ref aK, vz_8, vz_9, .ref aH, .ref aU])), (aK, .inl (cI, 6, .inl fK)), (aH, .inl (cI, 6, .inl fH)), (aU, .inl (cI, 6, .inl fU)), (tr, .inr (4, [.ref bg, .int (nI tc2_40)])), (bg, .inl (cI, 16, .inl gf2_39))] := hD
    refine lv_bipush (v := 100) hx hb dX5_begin_150 (by decide) ?_
    refine lv_isub hx hb dX5_begin_152 ?_
    refine lv_topi (fun ov_42 _ => ?_)
    have hP9 := hP.sub (ws' := [(ho, .inr (0, [vz_0, vz_1, vz_2, .int (nI T), vz_4, vz_5, vz_6, .ref aK, vz_8, vz_9, .ref aH, .ref aU])), (aK, .inl (cI, 6, .inl fK)), (aH, .inl (cI, 6, .inl fH)), (aU, .inl (cI, 6, .inl fU)), (tr, .inr (4, [.ref bg, .int (nI tc2_40)])), (bg, .inl (cI, 16, .inl gf2_39))]) [0, 1, 2, 3, 4, 5] rfl
    have hD9 := hD.sub (ws' := [(ho, .inr (0, [vz_0, vz_1, vz_2, .int (nI T), vz_4, vz_5, vz_6, .ref aK, vz_8, vz_9, .ref aH, .ref aU])), (aK, .inl (cI, 6, .inl fK)), (aH, .inl (cI, 6, .inl fH)), (aU, .inl (cI, 6, .inl fU)), (tr, .inr (4, [.ref bg, .int (nI tc2_40)])), (bg, .inl (cI, 16, .inl gf2_39))]) [0, 1, 2, 3, 4, 5] (by decide) rfl
    exact wt_iret hx hb hr hlocks hP9 hD9 hS ⟨gf2_39, tc2_40, rfl, (by omega)⟩ dX5_begin_153
  rcases wt_dec (bo) 14 with c_43 | c_43
  · subst c_43
    refine lv_tableIn (off := 133) (tgt := 154) hx hb dX5_begin_21 (by decide) (by decide) rfl (by decide) ?_
    refine lv_aload_n hx hb dX5_begin_154 rfl (lv_at hl 1 rfl) ?_
    refine lv_aload_n hx hb dX5_begin_155 rfl (lv_at hl 2 rfl) ?_
    refine lv_bipush (v := 13) hx hb dX5_begin_156 (by decide) ?_
    refine lv_iload_n hx hb dX5_begin_158 rfl (lv_at hl 4 rfl) ?_
    refine lv_iload hx hb dX5_begin_159 (lv_at hl 0 rfl) ?_
    refine wt_goI (wr := []) (wt_runSZ (As := [.ref ho, .ref tr, .int 13, .int (nI j), .int (nI (d + 1))]) (rest := []) ⟨hx, hb, hml, hown, hts⟩ (c_X5_begin_11 l D cI cZ cH _ _ _ ho aK aH aU T j (d + 1) fK fH fU tr bg tc2_5 gf2_4 13 vz_0 vz_1 vz_2 vz_4 vz_5 vz_6 vz_8 vz_9 (by first | assumption | omega) (by first | assumption | omega) (by first | assumption | omega) (by first | assumption | omega)) (va_cwS 5 hts gX5_begin_X5_begin rfl rfl rfl (by decide +kernel) ⟨Nat.le_of_ble_eq_true rfl, Nat.le_of_ble_eq_true rfl⟩) hK hP hD [0, 1, 2, 3, 4, 5] rfl (by decide) hZ hS hA rfl hl.1 rfl (Nat.le_of_ble_eq_true rfl) dX5_begin_161 ⟨Nat.le_of_ble_eq_true rfl, Nat.le_of_ble_eq_true rfl⟩) hP hD hS hA [0, 1, 2, 3, 4, 5] [] rfl rfl (by decide) (by decide) (fun r_44 w_45 H locs h_46 hP hD hS => ?_)
    obtain ⟨gf2_47, tc2_48, rfl, x_49⟩ := h_46
    have hP : va_P D vwCl [(ho, .inr (0, [vz_0, vz_1, vz_2, .int (nI T), vz_4, vz_5, vz_6, .ref aK, vz_8, vz_9, .ref aH, .ref aU])), (aK, .inl (cI, 6, .inl fK)), (aH, .inl (cI, 6, .inl fH)), (aU, .inl (cI, 6, .inl fU)), (tr, .inr (4, [.ref bg, .int (nI tc2_48)])), (bg, .inl (cI, 16, .inl gf2_47))] H := hP
    have hD : va_D A [(ho, .inr (0, [vz_0, vz_1, vz_2, .int (nI T), vz_4, vz_5, vz_6, .ref aK, vz_8, vz_9, .ref aH, .ref aU])), (aK, .inl (cI, 6, .inl fK)), (aH, .inl (cI, 6, .inl fH)), (aU, .inl (cI, 6, .inl fU)), (tr, .inr (4, [.ref bg, .int (nI tc2_48)])), (bg, .inl (cI, 16, .inl gf2_47))] := hD
    refine lv_iconst (v := 2) hx hb dX5_begin_164 (by decide) ?_
    refine lv_imul hx hb dX5_begin_165 ?_
    refine lv_topi (fun ov_50 _ => ?_)
    have hP9 := hP.sub (ws' := [(ho, .inr (0, [vz_0, vz_1, vz_2, .int (nI T), vz_4, vz_5, vz_6, .ref aK, vz_8, vz_9, .ref aH, .ref aU])), (aK, .inl (cI, 6, .inl fK)), (aH, .inl (cI, 6, .inl fH)), (aU, .inl (cI, 6, .inl fU)), (tr, .inr (4, [.ref bg, .int (nI tc2_48)])), (bg, .inl (cI, 16, .inl gf2_47))]) [0, 1, 2, 3, 4, 5] rfl
    have hD9 := hD.sub (ws' := [(ho, .inr (0, [vz_0, vz_1, vz_2, .int (nI T), vz_4, vz_5, vz_6, .ref aK, vz_8, vz_9, .ref aH, .ref aU])), (aK, .inl (cI, 6, .inl fK)), (aH, .inl (cI, 6, .inl fH)), (aU, .inl (cI, 6, .inl fU)), (tr, .inr (4, [.ref bg, .int (nI tc2_48)])), (bg, .inl (cI, 16, .inl gf2_47))]) [0, 1, 2, 3, 4, 5] (by decide) rfl
    exact wt_iret hx hb hr hlocks hP9 hD9 hS ⟨gf2_47, tc2_48, rfl, (by omega)⟩ dX5_begin_166
  rcases wt_dec (bo) 15 with c_51 | c_51
  · subst c_51
    refine lv_tableIn (off := 219) (tgt := 240) hx hb dX5_begin_21 (by decide) (by decide) rfl (by decide) ?_
    refine lv_iconst (v := 0) hx hb dX5_begin_240 (by decide) ?_
    have hP9 := hP.sub (ws' := [(ho, .inr (0, [vz_0, vz_1, vz_2, .int (nI T), vz_4, vz_5, vz_6, .ref aK, vz_8, vz_9, .ref aH, .ref aU])), (aK, .inl (cI, 6, .inl fK)), (aH, .inl (cI, 6, .inl fH)), (aU, .inl (cI, 6, .inl fU)), (tr, .inr (4, [.ref bg, .int (nI tc2_5)])), (bg, .inl (cI, 16, .inl gf2_4))]) [0, 1, 2, 3, 4, 5] rfl
    have hD9 := hD.sub (ws' := [(ho, .inr (0, [vz_0, vz_1, vz_2, .int (nI T), vz_4, vz_5, vz_6, .ref aK, vz_8, vz_9, .ref aH, .ref aU])), (aK, .inl (cI, 6, .inl fK)), (aH, .inl (cI, 6, .inl fH)), (aU, .inl (cI, 6, .inl fU)), (tr, .inr (4, [.ref bg, .int (nI tc2_5)])), (bg, .inl (cI, 16, .inl gf2_4))]) [0, 1, 2, 3, 4, 5] (by decide) rfl
    exact wt_iret hx hb hr hlocks hP9 hD9 hS ⟨gf2_4, tc2_5, rfl, (by omega)⟩ dX5_begin_241
  rcases wt_dec (bo) 16 with c_52 | c_52
  · subst c_52
    refine lv_tableIn (off := 219) (tgt := 240) hx hb dX5_begin_21 (by decide) (by decide) rfl (by decide) ?_
    refine lv_iconst (v := 0) hx hb dX5_begin_240 (by decide) ?_
    have hP9 := hP.sub (ws' := [(ho, .inr (0, [vz_0, vz_1, vz_2, .int (nI T), vz_4, vz_5, vz_6, .ref aK, vz_8, vz_9, .ref aH, .ref aU])), (aK, .inl (cI, 6, .inl fK)), (aH, .inl (cI, 6, .inl fH)), (aU, .inl (cI, 6, .inl fU)), (tr, .inr (4, [.ref bg, .int (nI tc2_5)])), (bg, .inl (cI, 16, .inl gf2_4))]) [0, 1, 2, 3, 4, 5] rfl
    have hD9 := hD.sub (ws' := [(ho, .inr (0, [vz_0, vz_1, vz_2, .int (nI T), vz_4, vz_5, vz_6, .ref aK, vz_8, vz_9, .ref aH, .ref aU])), (aK, .inl (cI, 6, .inl fK)), (aH, .inl (cI, 6, .inl fH)), (aU, .inl (cI, 6, .inl fU)), (tr, .inr (4, [.ref bg, .int (nI tc2_5)])), (bg, .inl (cI, 16, .inl gf2_4))]) [0, 1, 2, 3, 4, 5] (by decide) rfl
    exact wt_iret hx hb hr hlocks hP9 hD9 hS ⟨gf2_4, tc2_5, rfl, (by omega)⟩ dX5_begin_241
  rcases wt_dec (bo) 17 with c_53 | c_53
  · subst c_53
    refine lv_tableIn (off := 219) (tgt := 240) hx hb dX5_begin_21 (by decide) (by decide) rfl (by decide) ?_
    refine lv_iconst (v := 0) hx hb dX5_begin_240 (by decide) ?_
    have hP9 := hP.sub (ws' := [(ho, .inr (0, [vz_0, vz_1, vz_2, .int (nI T), vz_4, vz_5, vz_6, .ref aK, vz_8, vz_9, .ref aH, .ref aU])), (aK, .inl (cI, 6, .inl fK)), (aH, .inl (cI, 6, .inl fH)), (aU, .inl (cI, 6, .inl fU)), (tr, .inr (4, [.ref bg, .int (nI tc2_5)])), (bg, .inl (cI, 16, .inl gf2_4))]) [0, 1, 2, 3, 4, 5] rfl
    have hD9 := hD.sub (ws' := [(ho, .inr (0, [vz_0, vz_1, vz_2, .int (nI T), vz_4, vz_5, vz_6, .ref aK, vz_8, vz_9, .ref aH, .ref aU])), (aK, .inl (cI, 6, .inl fK)), (aH, .inl (cI, 6, .inl fH)), (aU, .inl (cI, 6, .inl fU)), (tr, .inr (4, [.ref bg, .int (nI tc2_5)])), (bg, .inl (cI, 16, .inl gf2_4))]) [0, 1, 2, 3, 4, 5] (by decide) rfl
    exact wt_iret hx hb hr hlocks hP9 hD9 hS ⟨gf2_4, tc2_5, rfl, (by omega)⟩ dX5_begin_241
  rcases wt_dec (bo) 18 with c_54 | c_54
  · subst c_54
    refine lv_tableIn (off := 219) (tgt := 240) hx hb dX5_begin_21 (by decide) (by decide) rfl (by decide) ?_
    refine lv_iconst (v := 0) hx hb dX5_begin_240 (by decide) ?_
    have hP9 := hP.sub (ws' := [(ho, .inr (0, [vz_0, vz_1, vz_2, .int (nI T), vz_4, vz_5, vz_6, .ref aK, vz_8, vz_9, .ref aH, .ref aU])), (aK, .inl (cI, 6, .inl fK)), (aH, .inl (cI, 6, .inl fH)), (aU, .inl (cI, 6, .inl fU)), (tr, .inr (4, [.ref bg, .int (nI tc2_5)])), (bg, .inl (cI, 16, .inl gf2_4))]) [0, 1, 2, 3, 4, 5] rfl
    have hD9 := hD.sub (ws' := [(ho, .inr (0, [vz_0, vz_1, vz_2, .int (nI T), vz_4, vz_5, vz_6, .ref aK, vz_8, vz_9, .ref aH, .ref aU])), (aK, .inl (cI, 6, .inl fK)), (aH, .inl (cI, 6, .inl fH)), (aU, .inl (cI, 6, .inl fU)), (tr, .inr (4, [.ref bg, .int (nI tc2_5)])), (bg, .inl (cI, 16, .inl gf2_4))]) [0, 1, 2, 3, 4, 5] (by decide) rfl
    exact wt_iret hx hb hr hlocks hP9 hD9 hS ⟨gf2_4, tc2_5, rfl, (by omega)⟩ dX5_begin_241
  rcases wt_dec (bo) 19 with c_55 | c_55
  · subst c_55
    refine lv_tableIn (off := 219) (tgt := 240) hx hb dX5_begin_21 (by decide) (by decide) rfl (by decide) ?_
    refine lv_iconst (v := 0) hx hb dX5_begin_240 (by decide) ?_
    have hP9 := hP.sub (ws' := [(ho, .inr (0, [vz_0, vz_1, vz_2, .int (nI T), vz_4, vz_5, vz_6, .ref aK, vz_8, vz_9, .ref aH, .ref aU])), (aK, .inl (cI, 6, .inl fK)), (aH, .inl (cI, 6, .inl fH)), (aU, .inl (cI, 6, .inl fU)), (tr, .inr (4, [.ref bg, .int (nI tc2_5)])), (bg, .inl (cI, 16, .inl gf2_4))]) [0, 1, 2, 3, 4, 5] rfl
    have hD9 := hD.sub (ws' := [(ho, .inr (0, [vz_0, vz_1, vz_2, .int (nI T), vz_4, vz_5, vz_6, .ref aK, vz_8, vz_9, .ref aH, .ref aU])), (aK, .inl (cI, 6, .inl fK)), (aH, .inl (cI, 6, .inl fH)), (aU, .inl (cI, 6, .inl fU)), (tr, .inr (4, [.ref bg, .int (nI tc2_5)])), (bg, .inl (cI, 16, .inl gf2_4))]) [0, 1, 2, 3, 4, 5] (by decide) rfl
    exact wt_iret hx hb hr hlocks hP9 hD9 hS ⟨gf2_4, tc2_5, rfl, (by omega)⟩ dX5_begin_241
  rcases wt_dec (bo) 20 with c_56 | c_56
  · subst c_56
    refine lv_tableIn (off := 146) (tgt := 167) hx hb dX5_begin_21 (by decide) (by decide) rfl (by decide) ?_
    refine lv_iload_n hx hb dX5_begin_167 rfl (lv_at hl 4 rfl) ?_
    have hP9 := hP.sub (ws' := [(ho, .inr (0, [vz_0, vz_1, vz_2, .int (nI T), vz_4, vz_5, vz_6, .ref aK, vz_8, vz_9, .ref aH, .ref aU])), (aK, .inl (cI, 6, .inl fK)), (aH, .inl (cI, 6, .inl fH)), (aU, .inl (cI, 6, .inl fU)), (tr, .inr (4, [.ref bg, .int (nI tc2_5)])), (bg, .inl (cI, 16, .inl gf2_4))]) [0, 1, 2, 3, 4, 5] rfl
    have hD9 := hD.sub (ws' := [(ho, .inr (0, [vz_0, vz_1, vz_2, .int (nI T), vz_4, vz_5, vz_6, .ref aK, vz_8, vz_9, .ref aH, .ref aU])), (aK, .inl (cI, 6, .inl fK)), (aH, .inl (cI, 6, .inl fH)), (aU, .inl (cI, 6, .inl fU)), (tr, .inr (4, [.ref bg, .int (nI tc2_5)])), (bg, .inl (cI, 16, .inl gf2_4))]) [0, 1, 2, 3, 4, 5] (by decide) rfl
    exact wt_iret hx hb hr hlocks hP9 hD9 hS ⟨gf2_4, tc2_5, rfl, (by omega)⟩ dX5_begin_168
  rcases wt_dec (bo) 21 with c_57 | c_57
  · subst c_57
    refine lv_tableIn (off := 148) (tgt := 169) hx hb dX5_begin_21 (by decide) (by decide) rfl (by decide) ?_
    refine lv_aload_n hx hb dX5_begin_169 rfl (lv_at hl 1 rfl) ?_
    refine lv_aload_n hx hb dX5_begin_170 rfl (lv_at hl 2 rfl) ?_
    refine lv_bipush (v := 20) hx hb dX5_begin_171 (by decide) ?_
    refine lv_iload_n hx hb dX5_begin_173 rfl (lv_at hl 4 rfl) ?_
    refine lv_iload hx hb dX5_begin_174 (lv_at hl 0 rfl) ?_
    refine wt_goI (wr := []) (wt_runSZ (As := [.ref ho, .ref tr, .int 20, .int (nI j), .int (nI (d + 1))]) (rest := []) ⟨hx, hb, hml, hown, hts⟩ (c_X5_begin_11 l D cI cZ cH _ _ _ ho aK aH aU T j (d + 1) fK fH fU tr bg tc2_5 gf2_4 20 vz_0 vz_1 vz_2 vz_4 vz_5 vz_6 vz_8 vz_9 (by first | assumption | omega) (by first | assumption | omega) (by first | assumption | omega) (by first | assumption | omega)) (va_cwS 5 hts gX5_begin_X5_begin rfl rfl rfl (by decide +kernel) ⟨Nat.le_of_ble_eq_true rfl, Nat.le_of_ble_eq_true rfl⟩) hK hP hD [0, 1, 2, 3, 4, 5] rfl (by decide) hZ hS hA rfl hl.1 rfl (Nat.le_of_ble_eq_true rfl) dX5_begin_176 ⟨Nat.le_of_ble_eq_true rfl, Nat.le_of_ble_eq_true rfl⟩) hP hD hS hA [0, 1, 2, 3, 4, 5] [] rfl rfl (by decide) (by decide) (fun r_58 w_59 H locs h_60 hP hD hS => ?_)
    obtain ⟨gf2_61, tc2_62, rfl, x_63⟩ := h_60
    have hP : va_P D vwCl [(ho, .inr (0, [vz_0, vz_1, vz_2, .int (nI T), vz_4, vz_5, vz_6, .ref aK, vz_8, vz_9, .ref aH, .ref aU])), (aK, .inl (cI, 6, .inl fK)), (aH, .inl (cI, 6, .inl fH)), (aU, .inl (cI, 6, .inl fU)), (tr, .inr (4, [.ref bg, .int (nI tc2_62)])), (bg, .inl (cI, 16, .inl gf2_61))] H := hP
    have hD : va_D A [(ho, .inr (0, [vz_0, vz_1, vz_2, .int (nI T), vz_4, vz_5, vz_6, .ref aK, vz_8, vz_9, .ref aH, .ref aU])), (aK, .inl (cI, 6, .inl fK)), (aH, .inl (cI, 6, .inl fH)), (aU, .inl (cI, 6, .inl fU)), (tr, .inr (4, [.ref bg, .int (nI tc2_62)])), (bg, .inl (cI, 16, .inl gf2_61))] := hD
    refine lv_aload_n hx hb dX5_begin_179 rfl (lv_at hl 1 rfl) ?_
    refine va_get (D := D) (ci := 0) (v := .ref aU) (C := RX0) (T := TX0) (N := 12) hx hb hts hi0 hown hK.1 hP 0 rfl rfl 11 (by decide) wf175 (fun _ h9 => h9) rfl dX5_begin_180 ?_
    refine lv_iload_n hx hb dX5_begin_183 rfl (lv_at hl 4 rfl) ?_
    refine va_iald hx hb hK.1 hP 3 0 rfl rfl (vp_in_nI (by omega) (by omega)) dX5_begin_184 ?_
    refine lv_topi (fun ov_64 _ => ?_)
    refine lv_iadd hx hb dX5_begin_185 ?_
    refine lv_topi (fun ov_65 _ => ?_)
    have hP9 := hP.sub (ws' := [(ho, .inr (0, [vz_0, vz_1, vz_2, .int (nI T), vz_4, vz_5, vz_6, .ref aK, vz_8, vz_9, .ref aH, .ref aU])), (aK, .inl (cI, 6, .inl fK)), (aH, .inl (cI, 6, .inl fH)), (aU, .inl (cI, 6, .inl fU)), (tr, .inr (4, [.ref bg, .int (nI tc2_62)])), (bg, .inl (cI, 16, .inl gf2_61))]) [0, 1, 2, 3, 4, 5] rfl
    have hD9 := hD.sub (ws' := [(ho, .inr (0, [vz_0, vz_1, vz_2, .int (nI T), vz_4, vz_5, vz_6, .ref aK, vz_8, vz_9, .ref aH, .ref aU])), (aK, .inl (cI, 6, .inl fK)), (aH, .inl (cI, 6, .inl fH)), (aU, .inl (cI, 6, .inl fU)), (tr, .inr (4, [.ref bg, .int (nI tc2_62)])), (bg, .inl (cI, 16, .inl gf2_61))]) [0, 1, 2, 3, 4, 5] (by decide) rfl
    exact wt_iret hx hb hr hlocks hP9 hD9 hS ⟨gf2_61, tc2_62, rfl, (by omega)⟩ dX5_begin_186
  rcases wt_dec (bo) 22 with c_66 | c_66
  · subst c_66
    refine lv_tableIn (off := 166) (tgt := 187) hx hb dX5_begin_21 (by decide) (by decide) rfl (by decide) ?_
    refine lv_aload_n hx hb dX5_begin_187 rfl (lv_at hl 1 rfl) ?_
    refine lv_aload_n hx hb dX5_begin_188 rfl (lv_at hl 2 rfl) ?_
    refine lv_bipush (v := 21) hx hb dX5_begin_189 (by decide) ?_
    refine lv_iload_n hx hb dX5_begin_191 rfl (lv_at hl 4 rfl) ?_
    refine lv_iload hx hb dX5_begin_192 (lv_at hl 0 rfl) ?_
    refine wt_goI (wr := []) (wt_runSZ (As := [.ref ho, .ref tr, .int 21, .int (nI j), .int (nI (d + 1))]) (rest := []) ⟨hx, hb, hml, hown, hts⟩ (c_X5_begin_11 l D cI cZ cH _ _ _ ho aK aH aU T j (d + 1) fK fH fU tr bg tc2_5 gf2_4 21 vz_0 vz_1 vz_2 vz_4 vz_5 vz_6 vz_8 vz_9 (by first | assumption | omega) (by first | assumption | omega) (by first | assumption | omega) (by first | assumption | omega)) (va_cwS 5 hts gX5_begin_X5_begin rfl rfl rfl (by decide +kernel) ⟨Nat.le_of_ble_eq_true rfl, Nat.le_of_ble_eq_true rfl⟩) hK hP hD [0, 1, 2, 3, 4, 5] rfl (by decide) hZ hS hA rfl hl.1 rfl (Nat.le_of_ble_eq_true rfl) dX5_begin_194 ⟨Nat.le_of_ble_eq_true rfl, Nat.le_of_ble_eq_true rfl⟩) hP hD hS hA [0, 1, 2, 3, 4, 5] [] rfl rfl (by decide) (by decide) (fun r_67 w_68 H locs h_69 hP hD hS => ?_)
    obtain ⟨gf2_70, tc2_71, rfl, x_72⟩ := h_69
    have hP : va_P D vwCl [(ho, .inr (0, [vz_0, vz_1, vz_2, .int (nI T), vz_4, vz_5, vz_6, .ref aK, vz_8, vz_9, .ref aH, .ref aU])), (aK, .inl (cI, 6, .inl fK)), (aH, .inl (cI, 6, .inl fH)), (aU, .inl (cI, 6, .inl fU)), (tr, .inr (4, [.ref bg, .int (nI tc2_71)])), (bg, .inl (cI, 16, .inl gf2_70))] H := hP
    have hD : va_D A [(ho, .inr (0, [vz_0, vz_1, vz_2, .int (nI T), vz_4, vz_5, vz_6, .ref aK, vz_8, vz_9, .ref aH, .ref aU])), (aK, .inl (cI, 6, .inl fK)), (aH, .inl (cI, 6, .inl fH)), (aU, .inl (cI, 6, .inl fU)), (tr, .inr (4, [.ref bg, .int (nI tc2_71)])), (bg, .inl (cI, 16, .inl gf2_70))] := hD
    refine lv_sipush (v := 1000) hx hb dX5_begin_197 (by decide) ?_
    refine lv_isub hx hb dX5_begin_200 ?_
    refine lv_topi (fun ov_73 _ => ?_)
    have hP9 := hP.sub (ws' := [(ho, .inr (0, [vz_0, vz_1, vz_2, .int (nI T), vz_4, vz_5, vz_6, .ref aK, vz_8, vz_9, .ref aH, .ref aU])), (aK, .inl (cI, 6, .inl fK)), (aH, .inl (cI, 6, .inl fH)), (aU, .inl (cI, 6, .inl fU)), (tr, .inr (4, [.ref bg, .int (nI tc2_71)])), (bg, .inl (cI, 16, .inl gf2_70))]) [0, 1, 2, 3, 4, 5] rfl
    have hD9 := hD.sub (ws' := [(ho, .inr (0, [vz_0, vz_1, vz_2, .int (nI T), vz_4, vz_5, vz_6, .ref aK, vz_8, vz_9, .ref aH, .ref aU])), (aK, .inl (cI, 6, .inl fK)), (aH, .inl (cI, 6, .inl fH)), (aU, .inl (cI, 6, .inl fU)), (tr, .inr (4, [.ref bg, .int (nI tc2_71)])), (bg, .inl (cI, 16, .inl gf2_70))]) [0, 1, 2, 3, 4, 5] (by decide) rfl
    exact wt_iret hx hb hr hlocks hP9 hD9 hS ⟨gf2_70, tc2_71, rfl, (by omega)⟩ dX5_begin_201
  rcases wt_dec (bo) 23 with c_74 | c_74
  · subst c_74
    refine lv_tableIn (off := 181) (tgt := 202) hx hb dX5_begin_21 (by decide) (by decide) rfl (by decide) ?_
    refine lv_aload_n hx hb dX5_begin_202 rfl (lv_at hl 1 rfl) ?_
    refine lv_aload_n hx hb dX5_begin_203 rfl (lv_at hl 2 rfl) ?_
    refine lv_bipush (v := 20) hx hb dX5_begin_204 (by decide) ?_
    refine lv_iload_n hx hb dX5_begin_206 rfl (lv_at hl 4 rfl) ?_
    refine lv_iload hx hb dX5_begin_207 (lv_at hl 0 rfl) ?_
    refine wt_goI (wr := []) (wt_runSZ (As := [.ref ho, .ref tr, .int 20, .int (nI j), .int (nI (d + 1))]) (rest := []) ⟨hx, hb, hml, hown, hts⟩ (c_X5_begin_11 l D cI cZ cH _ _ _ ho aK aH aU T j (d + 1) fK fH fU tr bg tc2_5 gf2_4 20 vz_0 vz_1 vz_2 vz_4 vz_5 vz_6 vz_8 vz_9 (by first | assumption | omega) (by first | assumption | omega) (by first | assumption | omega) (by first | assumption | omega)) (va_cwS 5 hts gX5_begin_X5_begin rfl rfl rfl (by decide +kernel) ⟨Nat.le_of_ble_eq_true rfl, Nat.le_of_ble_eq_true rfl⟩) hK hP hD [0, 1, 2, 3, 4, 5] rfl (by decide) hZ hS hA rfl hl.1 rfl (Nat.le_of_ble_eq_true rfl) dX5_begin_209 ⟨Nat.le_of_ble_eq_true rfl, Nat.le_of_ble_eq_true rfl⟩) hP hD hS hA [0, 1, 2, 3, 4, 5] [] rfl rfl (by decide) (by decide) (fun r_75 w_76 H locs h_77 hP hD hS => ?_)
    obtain ⟨gf2_78, tc2_79, rfl, x_80⟩ := h_77
    have hP : va_P D vwCl [(ho, .inr (0, [vz_0, vz_1, vz_2, .int (nI T), vz_4, vz_5, vz_6, .ref aK, vz_8, vz_9, .ref aH, .ref aU])), (aK, .inl (cI, 6, .inl fK)), (aH, .inl (cI, 6, .inl fH)), (aU, .inl (cI, 6, .inl fU)), (tr, .inr (4, [.ref bg, .int (nI tc2_79)])), (bg, .inl (cI, 16, .inl gf2_78))] H := hP
    have hD : va_D A [(ho, .inr (0, [vz_0, vz_1, vz_2, .int (nI T), vz_4, vz_5, vz_6, .ref aK, vz_8, vz_9, .ref aH, .ref aU])), (aK, .inl (cI, 6, .inl fK)), (aH, .inl (cI, 6, .inl fH)), (aU, .inl (cI, 6, .inl fU)), (tr, .inr (4, [.ref bg, .int (nI tc2_79)])), (bg, .inl (cI, 16, .inl gf2_78))] := hD
    refine lv_aload_n hx hb dX5_begin_212 rfl (lv_at hl 1 rfl) ?_
    refine lv_aload_n hx hb dX5_begin_213 rfl (lv_at hl 2 rfl) ?_
    refine lv_aload_n hx hb dX5_begin_214 rfl (lv_at hl 1 rfl) ?_
    refine lv_iload_n hx hb dX5_begin_215 rfl (lv_at hl 4 rfl) ?_
    refine wt_goI (wr := [(aH, .inl (cI, 6, .inl fH)), (aU, .inl (cI, 6, .inl fU)), (tr, .inr (4, [.ref bg, .int (nI tc2_79)])), (bg, .inl (cI, 16, .inl gf2_78))]) (wt_runSZ (As := [.ref ho, .int (nI j)]) (rest := [.ref tr, .ref ho, .int r_75]) ⟨hx, hb, hml, hown, hts⟩ (c_X5_sizeBody l D cI cZ cH _ _ _ ho aK T j fK vz_0 vz_1 vz_2 vz_4 vz_5 vz_6 vz_8 vz_9 (.ref aH) (.ref aU) (by first | assumption | omega) (by first | assumption | omega)) (va_cwS 2 hts gX5_begin_X5_sizeBody rfl rfl rfl (by decide +kernel) ⟨Nat.le_of_ble_eq_true rfl, Nat.le_of_ble_eq_true rfl⟩) hK hP hD [0, 1] rfl (by decide) hZ hS hA rfl hl.1 rfl (Nat.le_of_ble_eq_true rfl) dX5_begin_216 ⟨Nat.le_of_ble_eq_true rfl, Nat.le_of_ble_eq_true rfl⟩) hP hD hS hA [0, 1] [2, 3, 4, 5] rfl rfl (by decide) (by decide) (fun r_81 w_82 H locs h_83 hP hD hS => ?_)
    obtain rfl := h_83
    have hP : va_P D vwCl [(aH, .inl (cI, 6, .inl fH)), (aU, .inl (cI, 6, .inl fU)), (tr, .inr (4, [.ref bg, .int (nI tc2_79)])), (bg, .inl (cI, 16, .inl gf2_78)), (ho, .inr (0, [vz_0, vz_1, vz_2, .int (nI T), vz_4, vz_5, vz_6, .ref aK, vz_8, vz_9, .ref aH, .ref aU])), (aK, .inl (cI, 6, .inl fK))] H := hP
    have hD : va_D A [(aH, .inl (cI, 6, .inl fH)), (aU, .inl (cI, 6, .inl fU)), (tr, .inr (4, [.ref bg, .int (nI tc2_79)])), (bg, .inl (cI, 16, .inl gf2_78)), (ho, .inr (0, [vz_0, vz_1, vz_2, .int (nI T), vz_4, vz_5, vz_6, .ref aK, vz_8, vz_9, .ref aH, .ref aU])), (aK, .inl (cI, 6, .inl fK))] := hD
    refine lv_iload_n hx hb dX5_begin_219 rfl (lv_at hl 4 rfl) ?_
    refine lv_iload hx hb dX5_begin_220 (lv_at hl 0 rfl) ?_
    refine wt_goI (wr := []) (wt_runSZ (As := [.ref ho, .ref tr, .int r_81, .int (nI j), .int (nI (d + 1))]) (rest := [.int r_75]) ⟨hx, hb, hml, hown, hts⟩ (c_X5_begin_11 l D cI cZ cH _ _ _ ho aK aH aU T j (d + 1) fK fH fU tr bg tc2_79 gf2_78 r_81 vz_0 vz_1 vz_2 vz_4 vz_5 vz_6 vz_8 vz_9 (by first | assumption | omega) (by first | assumption | omega) (by first | assumption | omega) (by first | assumption | omega)) (va_cwS 5 hts gX5_begin_X5_begin rfl rfl rfl (by decide +kernel) ⟨Nat.le_of_ble_eq_true rfl, Nat.le_of_ble_eq_true rfl⟩) hK hP hD [4, 5, 0, 1, 2, 3] rfl (by decide) hZ hS hA rfl hl.1 rfl (Nat.le_of_ble_eq_true rfl) dX5_begin_222 ⟨Nat.le_of_ble_eq_true rfl, Nat.le_of_ble_eq_true rfl⟩) hP hD hS hA [4, 5, 0, 1, 2, 3] [] rfl rfl (by decide) (by decide) (fun r_84 w_85 H locs h_86 hP hD hS => ?_)
    obtain ⟨gf2_87, tc2_88, rfl, x_89⟩ := h_86
    have hP : va_P D vwCl [(ho, .inr (0, [vz_0, vz_1, vz_2, .int (nI T), vz_4, vz_5, vz_6, .ref aK, vz_8, vz_9, .ref aH, .ref aU])), (aK, .inl (cI, 6, .inl fK)), (aH, .inl (cI, 6, .inl fH)), (aU, .inl (cI, 6, .inl fU)), (tr, .inr (4, [.ref bg, .int (nI tc2_88)])), (bg, .inl (cI, 16, .inl gf2_87))] H := hP
    have hD : va_D A [(ho, .inr (0, [vz_0, vz_1, vz_2, .int (nI T), vz_4, vz_5, vz_6, .ref aK, vz_8, vz_9, .ref aH, .ref aU])), (aK, .inl (cI, 6, .inl fK)), (aH, .inl (cI, 6, .inl fH)), (aU, .inl (cI, 6, .inl fU)), (tr, .inr (4, [.ref bg, .int (nI tc2_88)])), (bg, .inl (cI, 16, .inl gf2_87))] := hD
    refine lv_isub hx hb dX5_begin_225 ?_
    refine lv_topi (fun ov_90 _ => ?_)
    have hP9 := hP.sub (ws' := [(ho, .inr (0, [vz_0, vz_1, vz_2, .int (nI T), vz_4, vz_5, vz_6, .ref aK, vz_8, vz_9, .ref aH, .ref aU])), (aK, .inl (cI, 6, .inl fK)), (aH, .inl (cI, 6, .inl fH)), (aU, .inl (cI, 6, .inl fU)), (tr, .inr (4, [.ref bg, .int (nI tc2_88)])), (bg, .inl (cI, 16, .inl gf2_87))]) [0, 1, 2, 3, 4, 5] rfl
    have hD9 := hD.sub (ws' := [(ho, .inr (0, [vz_0, vz_1, vz_2, .int (nI T), vz_4, vz_5, vz_6, .ref aK, vz_8, vz_9, .ref aH, .ref aU])), (aK, .inl (cI, 6, .inl fK)), (aH, .inl (cI, 6, .inl fH)), (aU, .inl (cI, 6, .inl fU)), (tr, .inr (4, [.ref bg, .int (nI tc2_88)])), (bg, .inl (cI, 16, .inl gf2_87))]) [0, 1, 2, 3, 4, 5] (by decide) rfl
    exact wt_iret hx hb hr hlocks hP9 hD9 hS ⟨gf2_87, tc2_88, rfl, (by omega)⟩ dX5_begin_226
  rcases wt_dec (bo) 24 with c_91 | c_91
  · subst c_91
    refine lv_tableIn (off := 206) (tgt := 227) hx hb dX5_begin_21 (by decide) (by decide) rfl (by decide) ?_
    refine lv_aload_n hx hb dX5_begin_227 rfl (lv_at hl 1 rfl) ?_
    refine lv_aload_n hx hb dX5_begin_228 rfl (lv_at hl 2 rfl) ?_
    refine lv_bipush (v := 21) hx hb dX5_begin_229 (by decide) ?_
    refine lv_iload_n hx hb dX5_begin_231 rfl (lv_at hl 4 rfl) ?_
    refine lv_iload hx hb dX5_begin_232 (lv_at hl 0 rfl) ?_
    refine wt_goI (wr := []) (wt_runSZ (As := [.ref ho, .ref tr, .int 21, .int (nI j), .int (nI (d + 1))]) (rest := []) ⟨hx, hb, hml, hown, hts⟩ (c_X5_begin_11 l D cI cZ cH _ _ _ ho aK aH aU T j (d + 1) fK fH fU tr bg tc2_5 gf2_4 21 vz_0 vz_1 vz_2 vz_4 vz_5 vz_6 vz_8 vz_9 (by first | assumption | omega) (by first | assumption | omega) (by first | assumption | omega) (by first | assumption | omega)) (va_cwS 5 hts gX5_begin_X5_begin rfl rfl rfl (by decide +kernel) ⟨Nat.le_of_ble_eq_true rfl, Nat.le_of_ble_eq_true rfl⟩) hK hP hD [0, 1, 2, 3, 4, 5] rfl (by decide) hZ hS hA rfl hl.1 rfl (Nat.le_of_ble_eq_true rfl) dX5_begin_234 ⟨Nat.le_of_ble_eq_true rfl, Nat.le_of_ble_eq_true rfl⟩) hP hD hS hA [0, 1, 2, 3, 4, 5] [] rfl rfl (by decide) (by decide) (fun r_92 w_93 H locs h_94 hP hD hS => ?_)
    obtain ⟨gf2_95, tc2_96, rfl, x_97⟩ := h_94
    have hP : va_P D vwCl [(ho, .inr (0, [vz_0, vz_1, vz_2, .int (nI T), vz_4, vz_5, vz_6, .ref aK, vz_8, vz_9, .ref aH, .ref aU])), (aK, .inl (cI, 6, .inl fK)), (aH, .inl (cI, 6, .inl fH)), (aU, .inl (cI, 6, .inl fU)), (tr, .inr (4, [.ref bg, .int (nI tc2_96)])), (bg, .inl (cI, 16, .inl gf2_95))] H := hP
    have hD : va_D A [(ho, .inr (0, [vz_0, vz_1, vz_2, .int (nI T), vz_4, vz_5, vz_6, .ref aK, vz_8, vz_9, .ref aH, .ref aU])), (aK, .inl (cI, 6, .inl fK)), (aH, .inl (cI, 6, .inl fH)), (aU, .inl (cI, 6, .inl fU)), (tr, .inr (4, [.ref bg, .int (nI tc2_96)])), (bg, .inl (cI, 16, .inl gf2_95))] := hD
    refine lv_iconst (v := 2) hx hb dX5_begin_237 (by decide) ?_
    refine lv_imul hx hb dX5_begin_238 ?_
    refine lv_topi (fun ov_98 _ => ?_)
    have hP9 := hP.sub (ws' := [(ho, .inr (0, [vz_0, vz_1, vz_2, .int (nI T), vz_4, vz_5, vz_6, .ref aK, vz_8, vz_9, .ref aH, .ref aU])), (aK, .inl (cI, 6, .inl fK)), (aH, .inl (cI, 6, .inl fH)), (aU, .inl (cI, 6, .inl fU)), (tr, .inr (4, [.ref bg, .int (nI tc2_96)])), (bg, .inl (cI, 16, .inl gf2_95))]) [0, 1, 2, 3, 4, 5] rfl
    have hD9 := hD.sub (ws' := [(ho, .inr (0, [vz_0, vz_1, vz_2, .int (nI T), vz_4, vz_5, vz_6, .ref aK, vz_8, vz_9, .ref aH, .ref aU])), (aK, .inl (cI, 6, .inl fK)), (aH, .inl (cI, 6, .inl fH)), (aU, .inl (cI, 6, .inl fU)), (tr, .inr (4, [.ref bg, .int (nI tc2_96)])), (bg, .inl (cI, 16, .inl gf2_95))]) [0, 1, 2, 3, 4, 5] (by decide) rfl
    exact wt_iret hx hb hr hlocks hP9 hD9 hS ⟨gf2_95, tc2_96, rfl, (by omega)⟩ dX5_begin_239
  refine lv_tableOut (tgt := 240) hx hb dX5_begin_21 (by have := lv_neT (a := 10) c_8 rfl; have := lv_neT (a := 11) c_10 rfl; have := lv_neT (a := 12) c_27 rfl; have := lv_neT (a := 13) c_35 rfl; have := lv_neT (a := 14) c_43 rfl; have := lv_neT (a := 15) c_51 rfl; have := lv_neT (a := 16) c_52 rfl; have := lv_neT (a := 17) c_53 rfl; have := lv_neT (a := 18) c_54 rfl; have := lv_neT (a := 19) c_55 rfl; have := lv_neT (a := 20) c_56 rfl; have := lv_neT (a := 21) c_57 rfl; have := lv_neT (a := 22) c_66 rfl; have := lv_neT (a := 23) c_74 rfl; have := lv_neT (a := 24) c_91 rfl; omega) (by decide) ?_
  refine lv_iconst (v := 0) hx hb dX5_begin_240 (by decide) ?_
  have hP9 := hP.sub (ws' := [(ho, .inr (0, [vz_0, vz_1, vz_2, .int (nI T), vz_4, vz_5, vz_6, .ref aK, vz_8, vz_9, .ref aH, .ref aU])), (aK, .inl (cI, 6, .inl fK)), (aH, .inl (cI, 6, .inl fH)), (aU, .inl (cI, 6, .inl fU)), (tr, .inr (4, [.ref bg, .int (nI tc2_5)])), (bg, .inl (cI, 16, .inl gf2_4))]) [0, 1, 2, 3, 4, 5] rfl
  have hD9 := hD.sub (ws' := [(ho, .inr (0, [vz_0, vz_1, vz_2, .int (nI T), vz_4, vz_5, vz_6, .ref aK, vz_8, vz_9, .ref aH, .ref aU])), (aK, .inl (cI, 6, .inl fK)), (aH, .inl (cI, 6, .inl fH)), (aU, .inl (cI, 6, .inl fU)), (tr, .inr (4, [.ref bg, .int (nI tc2_5)])), (bg, .inl (cI, 16, .inl gf2_4))]) [0, 1, 2, 3, 4, 5] (by decide) rfl
  exact wt_iret hx hb hr hlocks hP9 hD9 hS ⟨gf2_4, tc2_5, rfl, (by omega)⟩ dX5_begin_241
set_option maxHeartbeats 4000000 in
set_option maxRecDepth 100000 in
theorem c_X5_begin_13 (l : Launch) (D : va_G) (cI cZ cH : ClassId) (ab sb mb : Nat) (ho aK aH aU : Nat) (T j d : Nat) (fK fH fU : Nat → Int32) (tr bg : Nat) (tc : Nat) (gf : Nat → Int32) (bo : Int32) (vz_0 vz_1 vz_2 vz_4 vz_5 vz_6 vz_8 vz_9 : Value) (hT6 : T ≤ 6) (hjT : j < T) (hd : d + 13 = 16) (htc : tc ≤ 16) : wt_MZ (wt_ZS ab sb mb abF sbF mbF) l yX5_begin wsX5_begin ({ frames := 14, cells := 0, slots := 0, locals := 344 } : Room) D (wt_T cI cZ cH) [.ref ho, .ref tr, .int bo, .int (nI j), .int (nI d)] [(ho, .inr (0, [vz_0, vz_1, vz_2, .int (nI T), vz_4, vz_5, vz_6, .ref aK, vz_8, vz_9, .ref aH, .ref aU])), (aK, .inl (cI, 6, .inl fK)), (aH, .inl (cI, 6, .inl fH)), (aU, .inl (cI, 6, .inl fU)), (tr, .inr (4, [.ref bg, .int (nI tc)])), (bg, .inl (cI, 16, .inl gf))] (wt_QI D (fun r w => ∃ (gf2 : Nat → Int32) (tc2 : Nat), w = [(ho, .inr (0, [vz_0, vz_1, vz_2, .int (nI T), vz_4, vz_5, vz_6, .ref aK, vz_8, vz_9, .ref aH, .ref aU])), (aK, .inl (cI, 6, .inl fK)), (aH, .inl (cI, 6, .inl fH)), (aU, .inl (cI, 6, .inl fU)), (tr, .inr (4, [.ref bg, .int (nI tc2)])), (bg, .inl (cI, 16, .inl gf2))] ∧ tc2 ≤ 16)) := by
  refine wt_MZ.ofW (cc := cX5_begin) (maxL := 6) (ret := (some .int)) (by decide) rfl (Nat.le_of_ble_eq_true rfl) ?_
  intro p e s m below meth c A ls hx hb hr hts hown hlocks hml hnm hP hK hD hA hS hl hZ
  have hP : va_P D vwCl [(ho, .inr (0, [vz_0, vz_1, vz_2, .int (nI T), vz_4, vz_5, vz_6, .ref aK, vz_8, vz_9, .ref aH, .ref aU])), (aK, .inl (cI, 6, .inl fK)), (aH, .inl (cI, 6, .inl fH)), (aU, .inl (cI, 6, .inl fU)), (tr, .inr (4, [.ref bg, .int (nI tc)])), (bg, .inl (cI, 16, .inl gf))] s.heap := hP
  have hown : s.vm.findClass RX5 = some m.cls := hown
  have hl : lv_has ls 6 [(0, .ref ho), (1, .ref tr), (2, .int bo), (3, .int (nI j)), (4, .int (nI d))] := hl
  have hi0 : ∀ w ∈ u_ws RX0 TX0 12, w ∈ wsX5_begin := by decide +kernel
  have wf175 := hts (.fieldLink RX5 175 "WarmTubes$House" "up" "[I") (by decide +kernel)
  have wf196 := hts (.fieldLink RX5 196 "WarmTubes$House" "holds" "[I") (by decide +kernel)
  refine lv_iload hx hb dX5_begin_0 (lv_at hl 4 rfl) ?_
  refine lv_bipush (v := 16) hx hb dX5_begin_2 (by decide) ?_
  refine lv_icmp_lt (tgt := 9) hx hb dX5_begin_4 (by decide) (fun _ => ?_) (fun h => absurd (nI_lt (a := d) (b := 16) (by omega) (by omega)) h)
  refine lv_aload_n hx hb dX5_begin_9 rfl (lv_at hl 1 rfl) ?_
  refine lv_iload_n hx hb dX5_begin_10 rfl (lv_at hl 2 rfl) ?_
  refine wt_goV (wr := [(ho, .inr (0, [vz_0, vz_1, vz_2, .int (nI T), vz_4, vz_5, vz_6, .ref aK, vz_8, vz_9, .ref aH, .ref aU])), (aK, .inl (cI, 6, .inl fK)), (aH, .inl (cI, 6, .inl fH)), (aU, .inl (cI, 6, .inl fU))]) (wt_runV (As := [.int bo]) (rest := []) ⟨hx, hb, hml, hown, hts⟩ (c_X4_leave l D cI cZ cH tr bg tc gf bo (by first | assumption | omega)) (cwV 1 hts gX5_begin_X4_leave rfl rfl rfl (by decide +kernel) ⟨Nat.le_of_ble_eq_true rfl, Nat.le_of_ble_eq_true rfl⟩) hK hP hD [4, 5] rfl (by decide) (va_recv hK.1 hP (ci := 4) (q0 := 4) rfl rfl) rfl hl.1 rfl (Nat.le_of_ble_eq_true rfl) dX5_begin_11 ⟨Nat.le_of_ble_eq_true rfl, Nat.le_of_ble_eq_true rfl⟩) hP hD hS hA [4, 5] [0, 1, 2, 3] rfl rfl (by decide) (by decide) (fun w_2 H locs h_3 hP hD hS => ?_)
  obtain ⟨gf2_4, tc2_5, rfl, x_6⟩ := h_3
  have hP : va_P D vwCl [(ho, .inr (0, [vz_0, vz_1, vz_2, .int (nI T), vz_4, vz_5, vz_6, .ref aK, vz_8, vz_9, .ref aH, .ref aU])), (aK, .inl (cI, 6, .inl fK)), (aH, .inl (cI, 6, .inl fH)), (aU, .inl (cI, 6, .inl fU)), (tr, .inr (4, [.ref bg, .int (nI tc2_5)])), (bg, .inl (cI, 16, .inl gf2_4))] H := hP
  have hD : va_D A [(ho, .inr (0, [vz_0, vz_1, vz_2, .int (nI T), vz_4, vz_5, vz_6, .ref aK, vz_8, vz_9, .ref aH, .ref aU])), (aK, .inl (cI, 6, .inl fK)), (aH, .inl (cI, 6, .inl fH)), (aU, .inl (cI, 6, .inl fU)), (tr, .inr (4, [.ref bg, .int (nI tc2_5)])), (bg, .inl (cI, 16, .inl gf2_4))] := hD
  refine lv_iload hx hb dX5_begin_14 (lv_at hl 4 rfl) ?_
  refine lv_iconst (v := 1) hx hb dX5_begin_16 (by decide) ?_
  refine lv_iadd hx hb dX5_begin_17 ?_
  refine wt_top (z := nI (d + 1)) (nI_add d 1) ?_
  refine lv_istore (lv' := [(5, .int (nI (d + 1))), (0, .ref ho), (1, .ref tr), (2, .int bo), (3, .int (nI j)), (4, .int (nI d))]) hx hb dX5_begin_18 hl (by decide) rfl (fun ls hl => ?_)
  refine lv_iload_n hx hb dX5_begin_20 rfl (lv_at hl 3 rfl) ?_
  rcases wt_dec (bo) 10 with c_8 | c_8
  · subst c_8
    refine lv_tableIn (off := 75) (tgt := 96) hx hb dX5_begin_21 (by decide) (by decide) rfl (by decide) ?_
    refine lv_aload_n hx hb dX5_begin_96 rfl (lv_at hl 1 rfl) ?_
    refine va_get (D := D) (ci := 0) (v := .ref aH) (C := RX0) (T := TX0) (N := 12) hx hb hts hi0 hown hK.1 hP 0 rfl rfl 10 (by decide) wf196 (fun _ h9 => h9) rfl dX5_begin_97 ?_
    refine lv_iload_n hx hb dX5_begin_100 rfl (lv_at hl 4 rfl) ?_
    refine va_iald hx hb hK.1 hP 2 0 rfl rfl (vp_in_nI (by omega) (by omega)) dX5_begin_101 ?_
    refine lv_topi (fun ov_9 _ => ?_)
    have hP9 := hP.sub (ws' := [(ho, .inr (0, [vz_0, vz_1, vz_2, .int (nI T), vz_4, vz_5, vz_6, .ref aK, vz_8, vz_9, .ref aH, .ref aU])), (aK, .inl (cI, 6, .inl fK)), (aH, .inl (cI, 6, .inl fH)), (aU, .inl (cI, 6, .inl fU)), (tr, .inr (4, [.ref bg, .int (nI tc2_5)])), (bg, .inl (cI, 16, .inl gf2_4))]) [0, 1, 2, 3, 4, 5] rfl
    have hD9 := hD.sub (ws' := [(ho, .inr (0, [vz_0, vz_1, vz_2, .int (nI T), vz_4, vz_5, vz_6, .ref aK, vz_8, vz_9, .ref aH, .ref aU])), (aK, .inl (cI, 6, .inl fK)), (aH, .inl (cI, 6, .inl fH)), (aU, .inl (cI, 6, .inl fU)), (tr, .inr (4, [.ref bg, .int (nI tc2_5)])), (bg, .inl (cI, 16, .inl gf2_4))]) [0, 1, 2, 3, 4, 5] (by decide) rfl
    exact wt_iret hx hb hr hlocks hP9 hD9 hS ⟨gf2_4, tc2_5, rfl, (by omega)⟩ dX5_begin_102
  rcases wt_dec (bo) 11 with c_10 | c_10
  · subst c_10
    refine lv_tableIn (off := 82) (tgt := 103) hx hb dX5_begin_21 (by decide) (by decide) rfl (by decide) ?_
    refine lv_aload_n hx hb dX5_begin_103 rfl (lv_at hl 1 rfl) ?_
    refine lv_aload_n hx hb dX5_begin_104 rfl (lv_at hl 2 rfl) ?_
    refine lv_bipush (v := 10) hx hb dX5_begin_105 (by decide) ?_
    refine lv_iload_n hx hb dX5_begin_107 rfl (lv_at hl 4 rfl) ?_
    refine lv_iload hx hb dX5_begin_108 (lv_at hl 0 rfl) ?_
    refine wt_goI (wr := []) (wt_runSZ (As := [.ref ho, .ref tr, .int 10, .int (nI j), .int (nI (d + 1))]) (rest := []) ⟨hx, hb, hml, hown, hts⟩ (c_X5_begin_12 l D cI cZ cH _ _ _ ho aK aH aU T j (d + 1) fK fH fU tr bg tc2_5 gf2_4 10 vz_0 vz_1 vz_2 vz_4 vz_5 vz_6 vz_8 vz_9 (by first | assumption | omega) (by first | assumption | omega) (by first | assumption | omega) (by first | assumption | omega)) (va_cwS 5 hts gX5_begin_X5_begin rfl rfl rfl (by decide +kernel) ⟨Nat.le_of_ble_eq_true rfl, Nat.le_of_ble_eq_true rfl⟩) hK hP hD [0, 1, 2, 3, 4, 5] rfl (by decide) hZ hS hA rfl hl.1 rfl (Nat.le_of_ble_eq_true rfl) dX5_begin_110 ⟨Nat.le_of_ble_eq_true rfl, Nat.le_of_ble_eq_true rfl⟩) hP hD hS hA [0, 1, 2, 3, 4, 5] [] rfl rfl (by decide) (by decide) (fun r_11 w_12 H locs h_13 hP hD hS => ?_)
    obtain ⟨gf2_14, tc2_15, rfl, x_16⟩ := h_13
    have hP : va_P D vwCl [(ho, .inr (0, [vz_0, vz_1, vz_2, .int (nI T), vz_4, vz_5, vz_6, .ref aK, vz_8, vz_9, .ref aH, .ref aU])), (aK, .inl (cI, 6, .inl fK)), (aH, .inl (cI, 6, .inl fH)), (aU, .inl (cI, 6, .inl fU)), (tr, .inr (4, [.ref bg, .int (nI tc2_15)])), (bg, .inl (cI, 16, .inl gf2_14))] H := hP
    have hD : va_D A [(ho, .inr (0, [vz_0, vz_1, vz_2, .int (nI T), vz_4, vz_5, vz_6, .ref aK, vz_8, vz_9, .ref aH, .ref aU])), (aK, .inl (cI, 6, .inl fK)), (aH, .inl (cI, 6, .inl fH)), (aU, .inl (cI, 6, .inl fU)), (tr, .inr (4, [.ref bg, .int (nI tc2_15)])), (bg, .inl (cI, 16, .inl gf2_14))] := hD
    refine lv_aload_n hx hb dX5_begin_113 rfl (lv_at hl 1 rfl) ?_
    refine lv_aload_n hx hb dX5_begin_114 rfl (lv_at hl 2 rfl) ?_
    refine lv_aload_n hx hb dX5_begin_115 rfl (lv_at hl 1 rfl) ?_
    refine lv_iload_n hx hb dX5_begin_116 rfl (lv_at hl 4 rfl) ?_
    refine wt_goI (wr := [(aH, .inl (cI, 6, .inl fH)), (aU, .inl (cI, 6, .inl fU)), (tr, .inr (4, [.ref bg, .int (nI tc2_15)])), (bg, .inl (cI, 16, .inl gf2_14))]) (wt_runSZ (As := [.ref ho, .int (nI j)]) (rest := [.ref tr, .ref ho, .int r_11]) ⟨hx, hb, hml, hown, hts⟩ (c_X5_markBody l D cI cZ cH _ _ _ ho aK T j fK vz_0 vz_1 vz_2 vz_4 vz_5 vz_6 vz_8 vz_9 (.ref aH) (.ref aU) (by first | assumption | omega) (by first | assumption | omega)) (va_cwS 2 hts gX5_begin_X5_markBody rfl rfl rfl (by decide +kernel) ⟨Nat.le_of_ble_eq_true rfl, Nat.le_of_ble_eq_true rfl⟩) hK hP hD [0, 1] rfl (by decide) hZ hS hA rfl hl.1 rfl (Nat.le_of_ble_eq_true rfl) dX5_begin_117 ⟨Nat.le_of_ble_eq_true rfl, Nat.le_of_ble_eq_true rfl⟩) hP hD hS hA [0, 1] [2, 3, 4, 5] rfl rfl (by decide) (by decide) (fun r_17 w_18 H locs h_19 hP hD hS => ?_)
    obtain rfl := h_19
    have hP : va_P D vwCl [(aH, .inl (cI, 6, .inl fH)), (aU, .inl (cI, 6, .inl fU)), (tr, .inr (4, [.ref bg, .int (nI tc2_15)])), (bg, .inl (cI, 16, .inl gf2_14)), (ho, .inr (0, [vz_0, vz_1, vz_2, .int (nI T), vz_4, vz_5, vz_6, .ref aK, vz_8, vz_9, .ref aH, .ref aU])), (aK, .inl (cI, 6, .inl fK))] H := hP
    have hD : va_D A [(aH, .inl (cI, 6, .inl fH)), (aU, .inl (cI, 6, .inl fU)), (tr, .inr (4, [.ref bg, .int (nI tc2_15)])), (bg, .inl (cI, 16, .inl gf2_14)), (ho, .inr (0, [vz_0, vz_1, vz_2, .int (nI T), vz_4, vz_5, vz_6, .ref aK, vz_8, vz_9, .ref aH, .ref aU])), (aK, .inl (cI, 6, .inl fK))] := hD
    refine lv_iload_n hx hb dX5_begin_120 rfl (lv_at hl 4 rfl) ?_
    refine lv_iload hx hb dX5_begin_121 (lv_at hl 0 rfl) ?_
    refine wt_goI (wr := []) (wt_runSZ (As := [.ref ho, .ref tr, .int r_17, .int (nI j), .int (nI (d + 1))]) (rest := [.int r_11]) ⟨hx, hb, hml, hown, hts⟩ (c_X5_begin_12 l D cI cZ cH _ _ _ ho aK aH aU T j (d + 1) fK fH fU tr bg tc2_15 gf2_14 r_17 vz_0 vz_1 vz_2 vz_4 vz_5 vz_6 vz_8 vz_9 (by first | assumption | omega) (by first | assumption | omega) (by first | assumption | omega) (by first | assumption | omega)) (va_cwS 5 hts gX5_begin_X5_begin rfl rfl rfl (by decide +kernel) ⟨Nat.le_of_ble_eq_true rfl, Nat.le_of_ble_eq_true rfl⟩) hK hP hD [4, 5, 0, 1, 2, 3] rfl (by decide) hZ hS hA rfl hl.1 rfl (Nat.le_of_ble_eq_true rfl) dX5_begin_123 ⟨Nat.le_of_ble_eq_true rfl, Nat.le_of_ble_eq_true rfl⟩) hP hD hS hA [4, 5, 0, 1, 2, 3] [] rfl rfl (by decide) (by decide) (fun r_20 w_21 H locs h_22 hP hD hS => ?_)
    obtain ⟨gf2_23, tc2_24, rfl, x_25⟩ := h_22
    have hP : va_P D vwCl [(ho, .inr (0, [vz_0, vz_1, vz_2, .int (nI T), vz_4, vz_5, vz_6, .ref aK, vz_8, vz_9, .ref aH, .ref aU])), (aK, .inl (cI, 6, .inl fK)), (aH, .inl (cI, 6, .inl fH)), (aU, .inl (cI, 6, .inl fU)), (tr, .inr (4, [.ref bg, .int (nI tc2_24)])), (bg, .inl (cI, 16, .inl gf2_23))] H := hP
    have hD : va_D A [(ho, .inr (0, [vz_0, vz_1, vz_2, .int (nI T), vz_4, vz_5, vz_6, .ref aK, vz_8, vz_9, .ref aH, .ref aU])), (aK, .inl (cI, 6, .inl fK)), (aH, .inl (cI, 6, .inl fH)), (aU, .inl (cI, 6, .inl fU)), (tr, .inr (4, [.ref bg, .int (nI tc2_24)])), (bg, .inl (cI, 16, .inl gf2_23))] := hD
    refine lv_iadd hx hb dX5_begin_126 ?_
    refine lv_topi (fun ov_26 _ => ?_)
    have hP9 := hP.sub (ws' := [(ho, .inr (0, [vz_0, vz_1, vz_2, .int (nI T), vz_4, vz_5, vz_6, .ref aK, vz_8, vz_9, .ref aH, .ref aU])), (aK, .inl (cI, 6, .inl fK)), (aH, .inl (cI, 6, .inl fH)), (aU, .inl (cI, 6, .inl fU)), (tr, .inr (4, [.ref bg, .int (nI tc2_24)])), (bg, .inl (cI, 16, .inl gf2_23))]) [0, 1, 2, 3, 4, 5] rfl
    have hD9 := hD.sub (ws' := [(ho, .inr (0, [vz_0, vz_1, vz_2, .int (nI T), vz_4, vz_5, vz_6, .ref aK, vz_8, vz_9, .ref aH, .ref aU])), (aK, .inl (cI, 6, .inl fK)), (aH, .inl (cI, 6, .inl fH)), (aU, .inl (cI, 6, .inl fU)), (tr, .inr (4, [.ref bg, .int (nI tc2_24)])), (bg, .inl (cI, 16, .inl gf2_23))]) [0, 1, 2, 3, 4, 5] (by decide) rfl
    exact wt_iret hx hb hr hlocks hP9 hD9 hS ⟨gf2_23, tc2_24, rfl, (by omega)⟩ dX5_begin_127
  rcases wt_dec (bo) 12 with c_27 | c_27
  · subst c_27
    refine lv_tableIn (off := 107) (tgt := 128) hx hb dX5_begin_21 (by decide) (by decide) rfl (by decide) ?_
    refine lv_aload_n hx hb dX5_begin_128 rfl (lv_at hl 1 rfl) ?_
    refine lv_aload_n hx hb dX5_begin_129 rfl (lv_at hl 2 rfl) ?_
    refine lv_bipush (v := 11) hx hb dX5_begin_130 (by decide) ?_
    refine lv_iload_n hx hb dX5_begin_132 rfl (lv_at hl 4 rfl) ?_
    refine lv_iload hx hb dX5_begin_133 (lv_at hl 0 rfl) ?_
    refine wt_goI (wr := []) (wt_runSZ (As := [.ref ho, .ref tr, .int 11, .int (nI j), .int (nI (d + 1))]) (rest := []) ⟨hx, hb, hml, hown, hts⟩ (c_X5_begin_12 l D cI cZ cH _ _ _ ho aK aH aU T j (d + 1) fK fH fU tr bg tc2_5 gf2_4 11 vz_0 vz_1 vz_2 vz_4 vz_5 vz_6 vz_8 vz_9 (by first | assumption | omega) (by first | assumption | omega) (by first | assumption | omega) (by first | assumption | omega)) (va_cwS 5 hts gX5_begin_X5_begin rfl rfl rfl (by decide +kernel) ⟨Nat.le_of_ble_eq_true rfl, Nat.le_of_ble_eq_true rfl⟩) hK hP hD [0, 1, 2, 3, 4, 5] rfl (by decide) hZ hS hA rfl hl.1 rfl (Nat.le_of_ble_eq_true rfl) dX5_begin_135 ⟨Nat.le_of_ble_eq_true rfl, Nat.le_of_ble_eq_true rfl⟩) hP hD hS hA [0, 1, 2, 3, 4, 5] [] rfl rfl (by decide) (by decide) (fun r_28 w_29 H locs h_30 hP hD hS => ?_)
    obtain ⟨gf2_31, tc2_32, rfl, x_33⟩ := h_30
    have hP : va_P D vwCl [(ho, .inr (0, [vz_0, vz_1, vz_2, .int (nI T), vz_4, vz_5, vz_6, .ref aK, vz_8, vz_9, .ref aH, .ref aU])), (aK, .inl (cI, 6, .inl fK)), (aH, .inl (cI, 6, .inl fH)), (aU, .inl (cI, 6, .inl fU)), (tr, .inr (4, [.ref bg, .int (nI tc2_32)])), (bg, .inl (cI, 16, .inl gf2_31))] H := hP
    have hD : va_D A [(ho, .inr (0, [vz_0, vz_1, vz_2, .int (nI T), vz_4, vz_5, vz_6, .ref aK, vz_8, vz_9, .ref aH, .ref aU])), (aK, .inl (cI, 6, .inl fK)), (aH, .inl (cI, 6, .inl fH)), (aU, .inl (cI, 6, .inl fU)), (tr, .inr (4, [.ref bg, .int (nI tc2_32)])), (bg, .inl (cI, 16, .inl gf2_31))] := hD
    refine lv_ineg hx hb dX5_begin_138 ?_
    refine lv_topi (fun ov_34 _ => ?_)
    have hP9 := hP.sub (ws' := [(ho, .inr (0, [vz_0, vz_1, vz_2, .int (nI T), vz_4, vz_5, vz_6, .ref aK, vz_8, vz_9, .ref aH, .ref aU])), (aK, .inl (cI, 6, .inl fK)), (aH, .inl (cI, 6, .inl fH)), (aU, .inl (cI, 6, .inl fU)), (tr, .inr (4, [.ref bg, .int (nI tc2_32)])), (bg, .inl (cI, 16, .inl gf2_31))]) [0, 1, 2, 3, 4, 5] rfl
    have hD9 := hD.sub (ws' := [(ho, .inr (0, [vz_0, vz_1, vz_2, .int (nI T), vz_4, vz_5, vz_6, .ref aK, vz_8, vz_9, .ref aH, .ref aU])), (aK, .inl (cI, 6, .inl fK)), (aH, .inl (cI, 6, .inl fH)), (aU, .inl (cI, 6, .inl fU)), (tr, .inr (4, [.ref bg, .int (nI tc2_32)])), (bg, .inl (cI, 16, .inl gf2_31))]) [0, 1, 2, 3, 4, 5] (by decide) rfl
    exact wt_iret hx hb hr hlocks hP9 hD9 hS ⟨gf2_31, tc2_32, rfl, (by omega)⟩ dX5_begin_139
  rcases wt_dec (bo) 13 with c_35 | c_35
  · subst c_35
    refine lv_tableIn (off := 119) (tgt := 140) hx hb dX5_begin_21 (by decide) (by decide) rfl (by decide) ?_
    refine lv_aload_n hx hb dX5_begin_140 rfl (lv_at hl 1 rfl) ?_
    refine lv_aload_n hx hb dX5_begin_141 rfl (lv_at hl 2 rfl) ?_
    refine lv_bipush (v := 10) hx hb dX5_begin_142 (by decide) ?_
    refine lv_iload_n hx hb dX5_begin_144 rfl (lv_at hl 4 rfl) ?_
    refine lv_iload hx hb dX5_begin_145 (lv_at hl 0 rfl) ?_
    refine wt_goI (wr := []) (wt_runSZ (As := [.ref ho, .ref tr, .int 10, .int (nI j), .int (nI (d + 1))]) (rest := []) ⟨hx, hb, hml, hown, hts⟩ (c_X5_begin_12 l D cI cZ cH _ _ _ ho aK aH aU T j (d + 1) fK fH fU tr bg tc2_5 gf2_4 10 vz_0 vz_1 vz_2 vz_4 vz_5 vz_6 vz_8 vz_9 (by first | assumption | omega) (by first | assumption | omega) (by first | assumption | omega) (by first | assumption | omega)) (va_cwS 5 hts gX5_begin_X5_begin rfl rfl rfl (by decide +kernel) ⟨Nat.le_of_ble_eq_true rfl, Nat.le_of_ble_eq_true rfl⟩) hK hP hD [0, 1, 2, 3, 4, 5] rfl (by decide) hZ hS hA rfl hl.1 rfl (Nat.le_of_ble_eq_true rfl) dX5_begin_147 ⟨Nat.le_of_ble_eq_true rfl, Nat.le_of_ble_eq_true rfl⟩) hP hD hS hA [0, 1, 2, 3, 4, 5] [] rfl rfl (by decide) (by decide) (fun r_36 w_37 H locs h_38 hP hD hS => ?_)
    obtain ⟨gf2_39, tc2_40, rfl, x_41⟩ := h_38
    have hP : va_P D vwCl [(ho, .inr (0, [vz_0, vz_1, vz_2, .int (nI T), vz_4, vz_5, vz_6, .ref aK, vz_8, vz_9, .ref aH, .ref aU])), (aK, .inl (cI, 6, .inl fK)), (aH, .inl (cI, 6, .inl fH)), (aU, .inl (cI, 6, .inl fU)), (tr, .inr (4, [.ref bg, .int (nI tc2_40)])), (bg, .inl (cI, 16, .inl gf2_39))] H := hP
    have hD : va_D A [(ho, .inr (0, [vz_0, vz_1, vz_2, .int (nI T), vz_4, vz_5, vz_6, .ref aK, vz_8, vz_9, .ref aH, .ref aU])), (aK, .inl (cI, 6, .inl fK)), (aH, .inl (cI, 6, .inl fH)), (aU, .inl (cI, 6, .inl fU)), (tr, .inr (4, [.ref bg, .int (nI tc2_40)])), (bg, .inl (cI, 16, .inl gf2_39))] := hD
    refine lv_bipush (v := 100) hx hb dX5_begin_150 (by decide) ?_
    refine lv_isub hx hb dX5_begin_152 ?_
    refine lv_topi (fun ov_42 _ => ?_)
    have hP9 := hP.sub (ws' := [(ho, .inr (0, [vz_0, vz_1, vz_2, .int (nI T), vz_4, vz_5, vz_6, .ref aK, vz_8, vz_9, .ref aH, .ref aU])), (aK, .inl (cI, 6, .inl fK)), (aH, .inl (cI, 6, .inl fH)), (aU, .inl (cI, 6, .inl fU)), (tr, .inr (4, [.ref bg, .int (nI tc2_40)])), (bg, .inl (cI, 16, .inl gf2_39))]) [0, 1, 2, 3, 4, 5] rfl
    have hD9 := hD.sub (ws' := [(ho, .inr (0, [vz_0, vz_1, vz_2, .int (nI T), vz_4, vz_5, vz_6, .ref aK, vz_8, vz_9, .ref aH, .ref aU])), (aK, .inl (cI, 6, .inl fK)), (aH, .inl (cI, 6, .inl fH)), (aU, .inl (cI, 6, .inl fU)), (tr, .inr (4, [.ref bg, .int (nI tc2_40)])), (bg, .inl (cI, 16, .inl gf2_39))]) [0, 1, 2, 3, 4, 5] (by decide) rfl
    exact wt_iret hx hb hr hlocks hP9 hD9 hS ⟨gf2_39, tc2_40, rfl, (by omega)⟩ dX5_begin_153
  rcases wt_dec (bo) 14 with c_43 | c_43
  · subst c_43
    refine lv_tableIn (off := 133) (tgt := 154) hx hb dX5_begin_21 (by decide) (by decide) rfl (by decide) ?_
    refine lv_aload_n hx hb dX5_begin_154 rfl (lv_at hl 1 rfl) ?_
    refine lv_aload_n hx hb dX5_begin_155 rfl (lv_at hl 2 rfl) ?_
    refine lv_bipush (v := 13) hx hb dX5_begin_156 (by decide) ?_
    refine lv_iload_n hx hb dX5_begin_158 rfl (lv_at hl 4 rfl) ?_
    refine lv_iload hx hb dX5_begin_159 (lv_at hl 0 rfl) ?_
    refine wt_goI (wr := []) (wt_runSZ (As := [.ref ho, .ref tr, .int 13, .int (nI j), .int (nI (d + 1))]) (rest := []) ⟨hx, hb, hml, hown, hts⟩ (c_X5_begin_12 l D cI cZ cH _ _ _ ho aK aH aU T j (d + 1) fK fH fU tr bg tc2_5 gf2_4 13 vz_0 vz_1 vz_2 vz_4 vz_5 vz_6 vz_8 vz_9 (by first | assumption | omega) (by first | assumption | omega) (by first | assumption | omega) (by first | assumption | omega)) (va_cwS 5 hts gX5_begin_X5_begin rfl rfl rfl (by decide +kernel) ⟨Nat.le_of_ble_eq_true rfl, Nat.le_of_ble_eq_true rfl⟩) hK hP hD [0, 1, 2, 3, 4, 5] rfl (by decide) hZ hS hA rfl hl.1 rfl (Nat.le_of_ble_eq_true rfl) dX5_begin_161 ⟨Nat.le_of_ble_eq_true rfl, Nat.le_of_ble_eq_true rfl⟩) hP hD hS hA [0, 1, 2, 3, 4, 5] [] rfl rfl (by decide) (by decide) (fun r_44 w_45 H locs h_46 hP hD hS => ?_)
    obtain ⟨gf2_47, tc2_48, rfl, x_49⟩ := h_46
    have hP : va_P D vwCl [(ho, .inr (0, [vz_0, vz_1, vz_2, .int (nI T), vz_4, vz_5, vz_6, .ref aK, vz_8, vz_9, .ref aH, .ref aU])), (aK, .inl (cI, 6, .inl fK)), (aH, .inl (cI, 6, .inl fH)), (aU, .inl (cI, 6, .inl fU)), (tr, .inr (4, [.ref bg, .int (nI tc2_48)])), (bg, .inl (cI, 16, .inl gf2_47))] H := hP
    have hD : va_D A [(ho, .inr (0, [vz_0, vz_1, vz_2, .int (nI T), vz_4, vz_5, vz_6, .ref aK, vz_8, vz_9, .ref aH, .ref aU])), (aK, .inl (cI, 6, .inl fK)), (aH, .inl (cI, 6, .inl fH)), (aU, .inl (cI, 6, .inl fU)), (tr, .inr (4, [.ref bg, .int (nI tc2_48)])), (bg, .inl (cI, 16, .inl gf2_47))] := hD
    refine lv_iconst (v := 2) hx hb dX5_begin_164 (by decide) ?_
    refine lv_imul hx hb dX5_begin_165 ?_
    refine lv_topi (fun ov_50 _ => ?_)
    have hP9 := hP.sub (ws' := [(ho, .inr (0, [vz_0, vz_1, vz_2, .int (nI T), vz_4, vz_5, vz_6, .ref aK, vz_8, vz_9, .ref aH, .ref aU])), (aK, .inl (cI, 6, .inl fK)), (aH, .inl (cI, 6, .inl fH)), (aU, .inl (cI, 6, .inl fU)), (tr, .inr (4, [.ref bg, .int (nI tc2_48)])), (bg, .inl (cI, 16, .inl gf2_47))]) [0, 1, 2, 3, 4, 5] rfl
    have hD9 := hD.sub (ws' := [(ho, .inr (0, [vz_0, vz_1, vz_2, .int (nI T), vz_4, vz_5, vz_6, .ref aK, vz_8, vz_9, .ref aH, .ref aU])), (aK, .inl (cI, 6, .inl fK)), (aH, .inl (cI, 6, .inl fH)), (aU, .inl (cI, 6, .inl fU)), (tr, .inr (4, [.ref bg, .int (nI tc2_48)])), (bg, .inl (cI, 16, .inl gf2_47))]) [0, 1, 2, 3, 4, 5] (by decide) rfl
    exact wt_iret hx hb hr hlocks hP9 hD9 hS ⟨gf2_47, tc2_48, rfl, (by omega)⟩ dX5_begin_166
  rcases wt_dec (bo) 15 with c_51 | c_51
  · subst c_51
    refine lv_tableIn (off := 219) (tgt := 240) hx hb dX5_begin_21 (by decide) (by decide) rfl (by decide) ?_
    refine lv_iconst (v := 0) hx hb dX5_begin_240 (by decide) ?_
    have hP9 := hP.sub (ws' := [(ho, .inr (0, [vz_0, vz_1, vz_2, .int (nI T), vz_4, vz_5, vz_6, .ref aK, vz_8, vz_9, .ref aH, .ref aU])), (aK, .inl (cI, 6, .inl fK)), (aH, .inl (cI, 6, .inl fH)), (aU, .inl (cI, 6, .inl fU)), (tr, .inr (4, [.ref bg, .int (nI tc2_5)])), (bg, .inl (cI, 16, .inl gf2_4))]) [0, 1, 2, 3, 4, 5] rfl
    have hD9 := hD.sub (ws' := [(ho, .inr (0, [vz_0, vz_1, vz_2, .int (nI T), vz_4, vz_5, vz_6, .ref aK, vz_8, vz_9, .ref aH, .ref aU])), (aK, .inl (cI, 6, .inl fK)), (aH, .inl (cI, 6, .inl fH)), (aU, .inl (cI, 6, .inl fU)), (tr, .inr (4, [.ref bg, .int (nI tc2_5)])), (bg, .inl (cI, 16, .inl gf2_4))]) [0, 1, 2, 3, 4, 5] (by decide) rfl
    exact wt_iret hx hb hr hlocks hP9 hD9 hS ⟨gf2_4, tc2_5, rfl, (by omega)⟩ dX5_begin_241
  rcases wt_dec (bo) 16 with c_52 | c_52
  · subst c_52
    refine lv_tableIn (off := 219) (tgt := 240) hx hb dX5_begin_21 (by decide) (by decide) rfl (by decide) ?_
    refine lv_iconst (v := 0) hx hb dX5_begin_240 (by decide) ?_
    have hP9 := hP.sub (ws' := [(ho, .inr (0, [vz_0, vz_1, vz_2, .int (nI T), vz_4, vz_5, vz_6, .ref aK, vz_8, vz_9, .ref aH, .ref aU])), (aK, .inl (cI, 6, .inl fK)), (aH, .inl (cI, 6, .inl fH)), (aU, .inl (cI, 6, .inl fU)), (tr, .inr (4, [.ref bg, .int (nI tc2_5)])), (bg, .inl (cI, 16, .inl gf2_4))]) [0, 1, 2, 3, 4, 5] rfl
    have hD9 := hD.sub (ws' := [(ho, .inr (0, [vz_0, vz_1, vz_2, .int (nI T), vz_4, vz_5, vz_6, .ref aK, vz_8, vz_9, .ref aH, .ref aU])), (aK, .inl (cI, 6, .inl fK)), (aH, .inl (cI, 6, .inl fH)), (aU, .inl (cI, 6, .inl fU)), (tr, .inr (4, [.ref bg, .int (nI tc2_5)])), (bg, .inl (cI, 16, .inl gf2_4))]) [0, 1, 2, 3, 4, 5] (by decide) rfl
    exact wt_iret hx hb hr hlocks hP9 hD9 hS ⟨gf2_4, tc2_5, rfl, (by omega)⟩ dX5_begin_241
  rcases wt_dec (bo) 17 with c_53 | c_53
  · subst c_53
    refine lv_tableIn (off := 219) (tgt := 240) hx hb dX5_begin_21 (by decide) (by decide) rfl (by decide) ?_
    refine lv_iconst (v := 0) hx hb dX5_begin_240 (by decide) ?_
    have hP9 := hP.sub (ws' := [(ho, .inr (0, [vz_0, vz_1, vz_2, .int (nI T), vz_4, vz_5, vz_6, .ref aK, vz_8, vz_9, .ref aH, .ref aU])), (aK, .inl (cI, 6, .inl fK)), (aH, .inl (cI, 6, .inl fH)), (aU, .inl (cI, 6, .inl fU)), (tr, .inr (4, [.ref bg, .int (nI tc2_5)])), (bg, .inl (cI, 16, .inl gf2_4))]) [0, 1, 2, 3, 4, 5] rfl
    have hD9 := hD.sub (ws' := [(ho, .inr (0, [vz_0, vz_1, vz_2, .int (nI T), vz_4, vz_5, vz_6, .ref aK, vz_8, vz_9, .ref aH, .ref aU])), (aK, .inl (cI, 6, .inl fK)), (aH, .inl (cI, 6, .inl fH)), (aU, .inl (cI, 6, .inl fU)), (tr, .inr (4, [.ref bg, .int (nI tc2_5)])), (bg, .inl (cI, 16, .inl gf2_4))]) [0, 1, 2, 3, 4, 5] (by decide) rfl
    exact wt_iret hx hb hr hlocks hP9 hD9 hS ⟨gf2_4, tc2_5, rfl, (by omega)⟩ dX5_begin_241
  rcases wt_dec (bo) 18 with c_54 | c_54
  · subst c_54
    refine lv_tableIn (off := 219) (tgt := 240) hx hb dX5_begin_21 (by decide) (by decide) rfl (by decide) ?_
    refine lv_iconst (v := 0) hx hb dX5_begin_240 (by decide) ?_
    have hP9 := hP.sub (ws' := [(ho, .inr (0, [vz_0, vz_1, vz_2, .int (nI T), vz_4, vz_5, vz_6, .ref aK, vz_8, vz_9, .ref aH, .ref aU])), (aK, .inl (cI, 6, .inl fK)), (aH, .inl (cI, 6, .inl fH)), (aU, .inl (cI, 6, .inl fU)), (tr, .inr (4, [.ref bg, .int (nI tc2_5)])), (bg, .inl (cI, 16, .inl gf2_4))]) [0, 1, 2, 3, 4, 5] rfl
    have hD9 := hD.sub (ws' := [(ho, .inr (0, [vz_0, vz_1, vz_2, .int (nI T), vz_4, vz_5, vz_6, .ref aK, vz_8, vz_9, .ref aH, .ref aU])), (aK, .inl (cI, 6, .inl fK)), (aH, .inl (cI, 6, .inl fH)), (aU, .inl (cI, 6, .inl fU)), (tr, .inr (4, [.ref bg, .int (nI tc2_5)])), (bg, .inl (cI, 16, .inl gf2_4))]) [0, 1, 2, 3, 4, 5] (by decide) rfl
    exact wt_iret hx hb hr hlocks hP9 hD9 hS ⟨gf2_4, tc2_5, rfl, (by omega)⟩ dX5_begin_241
  rcases wt_dec (bo) 19 with c_55 | c_55
  · subst c_55
    refine lv_tableIn (off := 219) (tgt := 240) hx hb dX5_begin_21 (by decide) (by decide) rfl (by decide) ?_
    refine lv_iconst (v := 0) hx hb dX5_begin_240 (by decide) ?_
    have hP9 := hP.sub (ws' := [(ho, .inr (0, [vz_0, vz_1, vz_2, .int (nI T), vz_4, vz_5, vz_6, .ref aK, vz_8, vz_9, .ref aH, .ref aU])), (aK, .inl (cI, 6, .inl fK)), (aH, .inl (cI, 6, .inl fH)), (aU, .inl (cI, 6, .inl fU)), (tr, .inr (4, [.ref bg, .int (nI tc2_5)])), (bg, .inl (cI, 16, .inl gf2_4))]) [0, 1, 2, 3, 4, 5] rfl
    have hD9 := hD.sub (ws' := [(ho, .inr (0, [vz_0, vz_1, vz_2, .int (nI T), vz_4, vz_5, vz_6, .ref aK, vz_8, vz_9, .ref aH, .ref aU])), (aK, .inl (cI, 6, .inl fK)), (aH, .inl (cI, 6, .inl fH)), (aU, .inl (cI, 6, .inl fU)), (tr, .inr (4, [.ref bg, .int (nI tc2_5)])), (bg, .inl (cI, 16, .inl gf2_4))]) [0, 1, 2, 3, 4, 5] (by decide) rfl
    exact wt_iret hx hb hr hlocks hP9 hD9 hS ⟨gf2_4, tc2_5, rfl, (by omega)⟩ dX5_begin_241
  rcases wt_dec (bo) 20 with c_56 | c_56
  · subst c_56
    refine lv_tableIn (off := 146) (tgt := 167) hx hb dX5_begin_21 (by decide) (by decide) rfl (by decide) ?_
    refine lv_iload_n hx hb dX5_begin_167 rfl (lv_at hl 4 rfl) ?_
    have hP9 := hP.sub (ws' := [(ho, .inr (0, [vz_0, vz_1, vz_2, .int (nI T), vz_4, vz_5, vz_6, .ref aK, vz_8, vz_9, .ref aH, .ref aU])), (aK, .inl (cI, 6, .inl fK)), (aH, .inl (cI, 6, .inl fH)), (aU, .inl (cI, 6, .inl fU)), (tr, .inr (4, [.ref bg, .int (nI tc2_5)])), (bg, .inl (cI, 16, .inl gf2_4))]) [0, 1, 2, 3, 4, 5] rfl
    have hD9 := hD.sub (ws' := [(ho, .inr (0, [vz_0, vz_1, vz_2, .int (nI T), vz_4, vz_5, vz_6, .ref aK, vz_8, vz_9, .ref aH, .ref aU])), (aK, .inl (cI, 6, .inl fK)), (aH, .inl (cI, 6, .inl fH)), (aU, .inl (cI, 6, .inl fU)), (tr, .inr (4, [.ref bg, .int (nI tc2_5)])), (bg, .inl (cI, 16, .inl gf2_4))]) [0, 1, 2, 3, 4, 5] (by decide) rfl
    exact wt_iret hx hb hr hlocks hP9 hD9 hS ⟨gf2_4, tc2_5, rfl, (by omega)⟩ dX5_begin_168
  rcases wt_dec (bo) 21 with c_57 | c_57
  · subst c_57
    refine lv_tableIn (off := 148) (tgt := 169) hx hb dX5_begin_21 (by decide) (by decide) rfl (by decide) ?_
    refine lv_aload_n hx hb dX5_begin_169 rfl (lv_at hl 1 rfl) ?_
    refine lv_aload_n hx hb dX5_begin_170 rfl (lv_at hl 2 rfl) ?_
    refine lv_bipush (v := 20) hx hb dX5_begin_171 (by decide) ?_
    refine lv_iload_n hx hb dX5_begin_173 rfl (lv_at hl 4 rfl) ?_
    refine lv_iload hx hb dX5_begin_174 (lv_at hl 0 rfl) ?_
    refine wt_goI (wr := []) (wt_runSZ (As := [.ref ho, .ref tr, .int 20, .int (nI j), .int (nI (d + 1))]) (rest := []) ⟨hx, hb, hml, hown, hts⟩ (c_X5_begin_12 l D cI cZ cH _ _ _ ho aK aH aU T j (d + 1) fK fH fU tr bg tc2_5 gf2_4 20 vz_0 vz_1 vz_2 vz_4 vz_5 vz_6 vz_8 vz_9 (by first | assumption | omega) (by first | assumption | omega) (by first | assumption | omega) (by first | assumption | omega)) (va_cwS 5 hts gX5_begin_X5_begin rfl rfl rfl (by decide +kernel) ⟨Nat.le_of_ble_eq_true rfl, Nat.le_of_ble_eq_true rfl⟩) hK hP hD [0, 1, 2, 3, 4, 5] rfl (by decide) hZ hS hA rfl hl.1 rfl (Nat.le_of_ble_eq_true rfl) dX5_begin_176 ⟨Nat.le_of_ble_eq_true rfl, Nat.le_of_ble_eq_true rfl⟩) hP hD hS hA [0, 1, 2, 3, 4, 5] [] rfl rfl (by decide) (by decide) (fun r_58 w_59 H locs h_60 hP hD hS => ?_)
    obtain ⟨gf2_61, tc2_62, rfl, x_63⟩ := h_60
    have hP : va_P D vwCl [(ho, .inr (0, [vz_0, vz_1, vz_2, .int (nI T), vz_4, vz_5, vz_6, .ref aK, vz_8, vz_9, .ref aH, .ref aU])), (aK, .inl (cI, 6, .inl fK)), (aH, .inl (cI, 6, .inl fH)), (aU, .inl (cI, 6, .inl fU)), (tr, .inr (4, [.ref bg, .int (nI tc2_62)])), (bg, .inl (cI, 16, .inl gf2_61))] H := hP
    have hD : va_D A [(ho, .inr (0, [vz_0, vz_1, vz_2, .int (nI T), vz_4, vz_5, vz_6, .ref aK, vz_8, vz_9, .ref aH, .ref aU])), (aK, .inl (cI, 6, .inl fK)), (aH, .inl (cI, 6, .inl fH)), (aU, .inl (cI, 6, .inl fU)), (tr, .inr (4, [.ref bg, .int (nI tc2_62)])), (bg, .inl (cI, 16, .inl gf2_61))] := hD
    refine lv_aload_n hx hb dX5_begin_179 rfl (lv_at hl 1 rfl) ?_
    refine va_get (D := D) (ci := 0) (v := .ref aU) (C := RX0) (T := TX0) (N := 12) hx hb hts hi0 hown hK.1 hP 0 rfl rfl 11 (by decide) wf175 (fun _ h9 => h9) rfl dX5_begin_180 ?_
    refine lv_iload_n hx hb dX5_begin_183 rfl (lv_at hl 4 rfl) ?_
    refine va_iald hx hb hK.1 hP 3 0 rfl rfl (vp_in_nI (by omega) (by omega)) dX5_begin_184 ?_
    refine lv_topi (fun ov_64 _ => ?_)
    refine lv_iadd hx hb dX5_begin_185 ?_
    refine lv_topi (fun ov_65 _ => ?_)
    have hP9 := hP.sub (ws' := [(ho, .inr (0, [vz_0, vz_1, vz_2, .int (nI T), vz_4, vz_5, vz_6, .ref aK, vz_8, vz_9, .ref aH, .ref aU])), (aK, .inl (cI, 6, .inl fK)), (aH, .inl (cI, 6, .inl fH)), (aU, .inl (cI, 6, .inl fU)), (tr, .inr (4, [.ref bg, .int (nI tc2_62)])), (bg, .inl (cI, 16, .inl gf2_61))]) [0, 1, 2, 3, 4, 5] rfl
    have hD9 := hD.sub (ws' := [(ho, .inr (0, [vz_0, vz_1, vz_2, .int (nI T), vz_4, vz_5, vz_6, .ref aK, vz_8, vz_9, .ref aH, .ref aU])), (aK, .inl (cI, 6, .inl fK)), (aH, .inl (cI, 6, .inl fH)), (aU, .inl (cI, 6, .inl fU)), (tr, .inr (4, [.ref bg, .int (nI tc2_62)])), (bg, .inl (cI, 16, .inl gf2_61))]) [0, 1, 2, 3, 4, 5] (by decide) rfl
    exact wt_iret hx hb hr hlocks hP9 hD9 hS ⟨gf2_61, tc2_62, rfl, (by omega)⟩ dX5_begin_186
  rcases wt_dec (bo) 22 with c_66 | c_66
  · subst c_66
    refine lv_tableIn (off := 166) (tgt := 187) hx hb dX5_begin_21 (by decide) (by decide) rfl (by decide) ?_
    refine lv_aload_n hx hb dX5_begin_187 rfl (lv_at hl 1 rfl) ?_
    refine lv_aload_n hx hb dX5_begin_188 rfl (lv_at hl 2 rfl) ?_
    refine lv_bipush (v := 21) hx hb dX5_begin_189 (by decide) ?_
    refine lv_iload_n hx hb dX5_begin_191 rfl (lv_at hl 4 rfl) ?_
    refine lv_iload hx hb dX5_begin_192 (lv_at hl 0 rfl) ?_
    refine wt_goI (wr := []) (wt_runSZ (As := [.ref ho, .ref tr, .int 21, .int (nI j), .int (nI (d + 1))]) (rest := []) ⟨hx, hb, hml, hown, hts⟩ (c_X5_begin_12 l D cI cZ cH _ _ _ ho aK aH aU T j (d + 1) fK fH fU tr bg tc2_5 gf2_4 21 vz_0 vz_1 vz_2 vz_4 vz_5 vz_6 vz_8 vz_9 (by first | assumption | omega) (by first | assumption | omega) (by first | assumption | omega) (by first | assumption | omega)) (va_cwS 5 hts gX5_begin_X5_begin rfl rfl rfl (by decide +kernel) ⟨Nat.le_of_ble_eq_true rfl, Nat.le_of_ble_eq_true rfl⟩) hK hP hD [0, 1, 2, 3, 4, 5] rfl (by decide) hZ hS hA rfl hl.1 rfl (Nat.le_of_ble_eq_true rfl) dX5_begin_194 ⟨Nat.le_of_ble_eq_true rfl, Nat.le_of_ble_eq_true rfl⟩) hP hD hS hA [0, 1, 2, 3, 4, 5] [] rfl rfl (by decide) (by decide) (fun r_67 w_68 H locs h_69 hP hD hS => ?_)
    obtain ⟨gf2_70, tc2_71, rfl, x_72⟩ := h_69
    have hP : va_P D vwCl [(ho, .inr (0, [vz_0, vz_1, vz_2, .int (nI T), vz_4, vz_5, vz_6, .ref aK, vz_8, vz_9, .ref aH, .ref aU])), (aK, .inl (cI, 6, .inl fK)), (aH, .inl (cI, 6, .inl fH)), (aU, .inl (cI, 6, .inl fU)), (tr, .inr (4, [.ref bg, .int (nI tc2_71)])), (bg, .inl (cI, 16, .inl gf2_70))] H := hP
    have hD : va_D A [(ho, .inr (0, [vz_0, vz_1, vz_2, .int (nI T), vz_4, vz_5, vz_6, .ref aK, vz_8, vz_9, .ref aH, .ref aU])), (aK, .inl (cI, 6, .inl fK)), (aH, .inl (cI, 6, .inl fH)), (aU, .inl (cI, 6, .inl fU)), (tr, .inr (4, [.ref bg, .int (nI tc2_71)])), (bg, .inl (cI, 16, .inl gf2_70))] := hD
    refine lv_sipush (v := 1000) hx hb dX5_begin_197 (by decide) ?_
    refine lv_isub hx hb dX5_begin_200 ?_
    refine lv_topi (fun ov_73 _ => ?_)
    have hP9 := hP.sub (ws' := [(ho, .inr (0, [vz_0, vz_1, vz_2, .int (nI T), vz_4, vz_5, vz_6, .ref aK, vz_8, vz_9, .ref aH, .ref aU])), (aK, .inl (cI, 6, .inl fK)), (aH, .inl (cI, 6, .inl fH)), (aU, .inl (cI, 6, .inl fU)), (tr, .inr (4, [.ref bg, .int (nI tc2_71)])), (bg, .inl (cI, 16, .inl gf2_70))]) [0, 1, 2, 3, 4, 5] rfl
    have hD9 := hD.sub (ws' := [(ho, .inr (0, [vz_0, vz_1, vz_2, .int (nI T), vz_4, vz_5, vz_6, .ref aK, vz_8, vz_9, .ref aH, .ref aU])), (aK, .inl (cI, 6, .inl fK)), (aH, .inl (cI, 6, .inl fH)), (aU, .inl (cI, 6, .inl fU)), (tr, .inr (4, [.ref bg, .int (nI tc2_71)])), (bg, .inl (cI, 16, .inl gf2_70))]) [0, 1, 2, 3, 4, 5] (by decide) rfl
    exact wt_iret hx hb hr hlocks hP9 hD9 hS ⟨gf2_70, tc2_71, rfl, (by omega)⟩ dX5_begin_201
  rcases wt_dec (bo) 23 with c_74 | c_74
  · subst c_74
    refine lv_tableIn (off := 181) (tgt := 202) hx hb dX5_begin_21 (by decide) (by decide) rfl (by decide) ?_
    refine lv_aload_n hx hb dX5_begin_202 rfl (lv_at hl 1 rfl) ?_
    refine lv_aload_n hx hb dX5_begin_203 rfl (lv_at hl 2 rfl) ?_
    refine lv_bipush (v := 20) hx hb dX5_begin_204 (by decide) ?_
    refine lv_iload_n hx hb dX5_begin_206 rfl (lv_at hl 4 rfl) ?_
    refine lv_iload hx hb dX5_begin_207 (lv_at hl 0 rfl) ?_
    refine wt_goI (wr := []) (wt_runSZ (As := [.ref ho, .ref tr, .int 20, .int (nI j), .int (nI (d + 1))]) (rest := []) ⟨hx, hb, hml, hown, hts⟩ (c_X5_begin_12 l D cI cZ cH _ _ _ ho aK aH aU T j (d + 1) fK fH fU tr bg tc2_5 gf2_4 20 vz_0 vz_1 vz_2 vz_4 vz_5 vz_6 vz_8 vz_9 (by first | assumption | omega) (by first | assumption | omega) (by first | assumption | omega) (by first | assumption | omega)) (va_cwS 5 hts gX5_begin_X5_begin rfl rfl rfl (by decide +kernel) ⟨Nat.le_of_ble_eq_true rfl, Nat.le_of_ble_eq_true rfl⟩) hK hP hD [0, 1, 2, 3, 4, 5] rfl (by decide) hZ hS hA rfl hl.1 rfl (Nat.le_of_ble_eq_true rfl) dX5_begin_209 ⟨Nat.le_of_ble_eq_true rfl, Nat.le_of_ble_eq_true rfl⟩) hP hD hS hA [0, 1, 2, 3, 4, 5] [] rfl rfl (by decide) (by decide) (fun r_75 w_76 H locs h_77 hP hD hS => ?_)
    obtain ⟨gf2_78, tc2_79, rfl, x_80⟩ := h_77
    have hP : va_P D vwCl [(ho, .inr (0, [vz_0, vz_1, vz_2, .int (nI T), vz_4, vz_5, vz_6, .ref aK, vz_8, vz_9, .ref aH, .ref aU])), (aK, .inl (cI, 6, .inl fK)), (aH, .inl (cI, 6, .inl fH)), (aU, .inl (cI, 6, .inl fU)), (tr, .inr (4, [.ref bg, .int (nI tc2_79)])), (bg, .inl (cI, 16, .inl gf2_78))] H := hP
    have hD : va_D A [(ho, .inr (0, [vz_0, vz_1, vz_2, .int (nI T), vz_4, vz_5, vz_6, .ref aK, vz_8, vz_9, .ref aH, .ref aU])), (aK, .inl (cI, 6, .inl fK)), (aH, .inl (cI, 6, .inl fH)), (aU, .inl (cI, 6, .inl fU)), (tr, .inr (4, [.ref bg, .int (nI tc2_79)])), (bg, .inl (cI, 16, .inl gf2_78))] := hD
    refine lv_aload_n hx hb dX5_begin_212 rfl (lv_at hl 1 rfl) ?_
    refine lv_aload_n hx hb dX5_begin_213 rfl (lv_at hl 2 rfl) ?_
    refine lv_aload_n hx hb dX5_begin_214 rfl (lv_at hl 1 rfl) ?_
    refine lv_iload_n hx hb dX5_begin_215 rfl (lv_at hl 4 rfl) ?_
    refine wt_goI (wr := [(aH, .inl (cI, 6, .inl fH)), (aU, .inl (cI, 6, .inl fU)), (tr, .inr (4, [.ref bg, .int (nI tc2_79)])), (bg, .inl (cI, 16, .inl gf2_78))]) (wt_runSZ (As := [.ref ho, .int (nI j)]) (rest := [.ref tr, .ref ho, .int r_75]) ⟨hx, hb, hml, hown, hts⟩ (c_X5_sizeBody l D cI cZ cH _ _ _ ho aK T j fK vz_0 vz_1 vz_2 vz_4 vz_5 vz_6 vz_8 vz_9 (.ref aH) (.ref aU) (by first | assumption | omega) (by first | assumption | omega)) (va_cwS 2 hts gX5_begin_X5_sizeBody rfl rfl rfl (by decide +kernel) ⟨Nat.le_of_ble_eq_true rfl, Nat.le_of_ble_eq_true rfl⟩) hK hP hD [0, 1] rfl (by decide) hZ hS hA rfl hl.1 rfl (Nat.le_of_ble_eq_true rfl) dX5_begin_216 ⟨Nat.le_of_ble_eq_true rfl, Nat.le_of_ble_eq_true rfl⟩) hP hD hS hA [0, 1] [2, 3, 4, 5] rfl rfl (by decide) (by decide) (fun r_81 w_82 H locs h_83 hP hD hS => ?_)
    obtain rfl := h_83
    have hP : va_P D vwCl [(aH, .inl (cI, 6, .inl fH)), (aU, .inl (cI, 6, .inl fU)), (tr, .inr (4, [.ref bg, .int (nI tc2_79)])), (bg, .inl (cI, 16, .inl gf2_78)), (ho, .inr (0, [vz_0, vz_1, vz_2, .int (nI T), vz_4, vz_5, vz_6, .ref aK, vz_8, vz_9, .ref aH, .ref aU])), (aK, .inl (cI, 6, .inl fK))] H := hP
    have hD : va_D A [(aH, .inl (cI, 6, .inl fH)), (aU, .inl (cI, 6, .inl fU)), (tr, .inr (4, [.ref bg, .int (nI tc2_79)])), (bg, .inl (cI, 16, .inl gf2_78)), (ho, .inr (0, [vz_0, vz_1, vz_2, .int (nI T), vz_4, vz_5, vz_6, .ref aK, vz_8, vz_9, .ref aH, .ref aU])), (aK, .inl (cI, 6, .inl fK))] := hD
    refine lv_iload_n hx hb dX5_begin_219 rfl (lv_at hl 4 rfl) ?_
    refine lv_iload hx hb dX5_begin_220 (lv_at hl 0 rfl) ?_
    refine wt_goI (wr := []) (wt_runSZ (As := [.ref ho, .ref tr, .int r_81, .int (nI j), .int (nI (d + 1))]) (rest := [.int r_75]) ⟨hx, hb, hml, hown, hts⟩ (c_X5_begin_12 l D cI cZ cH _ _ _ ho aK aH aU T j (d + 1) fK fH fU tr bg tc2_79 gf2_78 r_81 vz_0 vz_1 vz_2 vz_4 vz_5 vz_6 vz_8 vz_9 (by first | assumption | omega) (by first | assumption | omega) (by first | assumption | omega) (by first | assumption | omega)) (va_cwS 5 hts gX5_begin_X5_begin rfl rfl rfl (by decide +kernel) ⟨Nat.le_of_ble_eq_true rfl, Nat.le_of_ble_eq_true rfl⟩) hK hP hD [4, 5, 0, 1, 2, 3] rfl (by decide) hZ hS hA rfl hl.1 rfl (Nat.le_of_ble_eq_true rfl) dX5_begin_222 ⟨Nat.le_of_ble_eq_true rfl, Nat.le_of_ble_eq_true rfl⟩) hP hD hS hA [4, 5, 0, 1, 2, 3] [] rfl rfl (by decide) (by decide) (fun r_84 w_85 H locs h_86 hP hD hS => ?_)
    obtain ⟨gf2_87, tc2_88, rfl, x_89⟩ := h_86
    have hP : va_P D vwCl [(ho, .inr (0, [vz_0, vz_1, vz_2, .int (nI T), vz_4, vz_5, vz_6, .ref aK, vz_8, vz_9, .ref aH, .ref aU])), (aK, .inl (cI, 6, .inl fK)), (aH, .inl (cI, 6, .inl fH)), (aU, .inl (cI, 6, .inl fU)), (tr, .inr (4, [.ref bg, .int (nI tc2_88)])), (bg, .inl (cI, 16, .inl gf2_87))] H := hP
    have hD : va_D A [(ho, .inr (0, [vz_0, vz_1, vz_2, .int (nI T), vz_4, vz_5, vz_6, .ref aK, vz_8, vz_9, .ref aH, .ref aU])), (aK, .inl (cI, 6, .inl fK)), (aH, .inl (cI, 6, .inl fH)), (aU, .inl (cI, 6, .inl fU)), (tr, .inr (4, [.ref bg, .int (nI tc2_88)])), (bg, .inl (cI, 16, .inl gf2_87))] := hD
    refine lv_isub hx hb dX5_begin_225 ?_
    refine lv_topi (fun ov_90 _ => ?_)
    have hP9 := hP.sub (ws' := [(ho, .inr (0, [vz_0, vz_1, vz_2, .int (nI T), vz_4, vz_5, vz_6, .ref aK, vz_8, vz_9, .ref aH, .ref aU])), (aK, .inl (cI, 6, .inl fK)), (aH, .inl (cI, 6, .inl fH)), (aU, .inl (cI, 6, .inl fU)), (tr, .inr (4, [.ref bg, .int (nI tc2_88)])), (bg, .inl (cI, 16, .inl gf2_87))]) [0, 1, 2, 3, 4, 5] rfl
    have hD9 := hD.sub (ws' := [(ho, .inr (0, [vz_0, vz_1, vz_2, .int (nI T), vz_4, vz_5, vz_6, .ref aK, vz_8, vz_9, .ref aH, .ref aU])), (aK, .inl (cI, 6, .inl fK)), (aH, .inl (cI, 6, .inl fH)), (aU, .inl (cI, 6, .inl fU)), (tr, .inr (4, [.ref bg, .int (nI tc2_88)])), (bg, .inl (cI, 16, .inl gf2_87))]) [0, 1, 2, 3, 4, 5] (by decide) rfl
    exact wt_iret hx hb hr hlocks hP9 hD9 hS ⟨gf2_87, tc2_88, rfl, (by omega)⟩ dX5_begin_226
  rcases wt_dec (bo) 24 with c_91 | c_91
  · subst c_91
    refine lv_tableIn (off := 206) (tgt := 227) hx hb dX5_begin_21 (by decide) (by decide) rfl (by decide) ?_
    refine lv_aload_n hx hb dX5_begin_227 rfl (lv_at hl 1 rfl) ?_
    refine lv_aload_n hx hb dX5_begin_228 rfl (lv_at hl 2 rfl) ?_
    refine lv_bipush (v := 21) hx hb dX5_begin_229 (by decide) ?_
    refine lv_iload_n hx hb dX5_begin_231 rfl (lv_at hl 4 rfl) ?_
    refine lv_iload hx hb dX5_begin_232 (lv_at hl 0 rfl) ?_
    refine wt_goI (wr := []) (wt_runSZ (As := [.ref ho, .ref tr, .int 21, .int (nI j), .int (nI (d + 1))]) (rest := []) ⟨hx, hb, hml, hown, hts⟩ (c_X5_begin_12 l D cI cZ cH _ _ _ ho aK aH aU T j (d + 1) fK fH fU tr bg tc2_5 gf2_4 21 vz_0 vz_1 vz_2 vz_4 vz_5 vz_6 vz_8 vz_9 (by first | assumption | omega) (by first | assumption | omega) (by first | assumption | omega) (by first | assumption | omega)) (va_cwS 5 hts gX5_begin_X5_begin rfl rfl rfl (by decide +kernel) ⟨Nat.le_of_ble_eq_true rfl, Nat.le_of_ble_eq_true rfl⟩) hK hP hD [0, 1, 2, 3, 4, 5] rfl (by decide) hZ hS hA rfl hl.1 rfl (Nat.le_of_ble_eq_true rfl) dX5_begin_234 ⟨Nat.le_of_ble_eq_true rfl, Nat.le_of_ble_eq_true rfl⟩) hP hD hS hA [0, 1, 2, 3, 4, 5] [] rfl rfl (by decide) (by decide) (fun r_92 w_93 H locs h_94 hP hD hS => ?_)
    obtain ⟨gf2_95, tc2_96, rfl, x_97⟩ := h_94
    have hP : va_P D vwCl [(ho, .inr (0, [vz_0, vz_1, vz_2, .int (nI T), vz_4, vz_5, vz_6, .ref aK, vz_8, vz_9, .ref aH, .ref aU])), (aK, .inl (cI, 6, .inl fK)), (aH, .inl (cI, 6, .inl fH)), (aU, .inl (cI, 6, .inl fU)), (tr, .inr (4, [.ref bg, .int (nI tc2_96)])), (bg, .inl (cI, 16, .inl gf2_95))] H := hP
    have hD : va_D A [(ho, .inr (0, [vz_0, vz_1, vz_2, .int (nI T), vz_4, vz_5, vz_6, .ref aK, vz_8, vz_9, .ref aH, .ref aU])), (aK, .inl (cI, 6, .inl fK)), (aH, .inl (cI, 6, .inl fH)), (aU, .inl (cI, 6, .inl fU)), (tr, .inr (4, [.ref bg, .int (nI tc2_96)])), (bg, .inl (cI, 16, .inl gf2_95))] := hD
    refine lv_iconst (v := 2) hx hb dX5_begin_237 (by decide) ?_
    refine lv_imul hx hb dX5_begin_238 ?_
    refine lv_topi (fun ov_98 _ => ?_)
    have hP9 := hP.sub (ws' := [(ho, .inr (0, [vz_0, vz_1, vz_2, .int (nI T), vz_4, vz_5, vz_6, .ref aK, vz_8, vz_9, .ref aH, .ref aU])), (aK, .inl (cI, 6, .inl fK)), (aH, .inl (cI, 6, .inl fH)), (aU, .inl (cI, 6, .inl fU)), (tr, .inr (4, [.ref bg, .int (nI tc2_96)])), (bg, .inl (cI, 16, .inl gf2_95))]) [0, 1, 2, 3, 4, 5] rfl
    have hD9 := hD.sub (ws' := [(ho, .inr (0, [vz_0, vz_1, vz_2, .int (nI T), vz_4, vz_5, vz_6, .ref aK, vz_8, vz_9, .ref aH, .ref aU])), (aK, .inl (cI, 6, .inl fK)), (aH, .inl (cI, 6, .inl fH)), (aU, .inl (cI, 6, .inl fU)), (tr, .inr (4, [.ref bg, .int (nI tc2_96)])), (bg, .inl (cI, 16, .inl gf2_95))]) [0, 1, 2, 3, 4, 5] (by decide) rfl
    exact wt_iret hx hb hr hlocks hP9 hD9 hS ⟨gf2_95, tc2_96, rfl, (by omega)⟩ dX5_begin_239
  refine lv_tableOut (tgt := 240) hx hb dX5_begin_21 (by have := lv_neT (a := 10) c_8 rfl; have := lv_neT (a := 11) c_10 rfl; have := lv_neT (a := 12) c_27 rfl; have := lv_neT (a := 13) c_35 rfl; have := lv_neT (a := 14) c_43 rfl; have := lv_neT (a := 15) c_51 rfl; have := lv_neT (a := 16) c_52 rfl; have := lv_neT (a := 17) c_53 rfl; have := lv_neT (a := 18) c_54 rfl; have := lv_neT (a := 19) c_55 rfl; have := lv_neT (a := 20) c_56 rfl; have := lv_neT (a := 21) c_57 rfl; have := lv_neT (a := 22) c_66 rfl; have := lv_neT (a := 23) c_74 rfl; have := lv_neT (a := 24) c_91 rfl; omega) (by decide) ?_
  refine lv_iconst (v := 0) hx hb dX5_begin_240 (by decide) ?_
  have hP9 := hP.sub (ws' := [(ho, .inr (0, [vz_0, vz_1, vz_2, .int (nI T), vz_4, vz_5, vz_6, .ref aK, vz_8, vz_9, .ref aH, .ref aU])), (aK, .inl (cI, 6, .inl fK)), (aH, .inl (cI, 6, .inl fH)), (aU, .inl (cI, 6, .inl fU)), (tr, .inr (4, [.ref bg, .int (nI tc2_5)])), (bg, .inl (cI, 16, .inl gf2_4))]) [0, 1, 2, 3, 4, 5] rfl
  have hD9 := hD.sub (ws' := [(ho, .inr (0, [vz_0, vz_1, vz_2, .int (nI T), vz_4, vz_5, vz_6, .ref aK, vz_8, vz_9, .ref aH, .ref aU])), (aK, .inl (cI, 6, .inl fK)), (aH, .inl (cI, 6, .inl fH)), (aU, .inl (cI, 6, .inl fU)), (tr, .inr (4, [.ref bg, .int (nI tc2_5)])), (bg, .inl (cI, 16, .inl gf2_4))]) [0, 1, 2, 3, 4, 5] (by decide) rfl
  exact wt_iret hx hb hr hlocks hP9 hD9 hS ⟨gf2_4, tc2_5, rfl, (by omega)⟩ dX5_begin_241
set_option maxHeartbeats 4000000 in
set_option maxRecDepth 100000 in
theorem c_X5_begin_14 (l : Launch) (D : va_G) (cI cZ cH : ClassId) (ab sb mb : Nat) (ho aK aH aU : Nat) (T j d : Nat) (fK fH fU : Nat → Int32) (tr bg : Nat) (tc : Nat) (gf : Nat → Int32) (bo : Int32) (vz_0 vz_1 vz_2 vz_4 vz_5 vz_6 vz_8 vz_9 : Value) (hT6 : T ≤ 6) (hjT : j < T) (hd : d + 14 = 16) (htc : tc ≤ 16) : wt_MZ (wt_ZS ab sb mb abF sbF mbF) l yX5_begin wsX5_begin ({ frames := 15, cells := 0, slots := 0, locals := 369 } : Room) D (wt_T cI cZ cH) [.ref ho, .ref tr, .int bo, .int (nI j), .int (nI d)] [(ho, .inr (0, [vz_0, vz_1, vz_2, .int (nI T), vz_4, vz_5, vz_6, .ref aK, vz_8, vz_9, .ref aH, .ref aU])), (aK, .inl (cI, 6, .inl fK)), (aH, .inl (cI, 6, .inl fH)), (aU, .inl (cI, 6, .inl fU)), (tr, .inr (4, [.ref bg, .int (nI tc)])), (bg, .inl (cI, 16, .inl gf))] (wt_QI D (fun r w => ∃ (gf2 : Nat → Int32) (tc2 : Nat), w = [(ho, .inr (0, [vz_0, vz_1, vz_2, .int (nI T), vz_4, vz_5, vz_6, .ref aK, vz_8, vz_9, .ref aH, .ref aU])), (aK, .inl (cI, 6, .inl fK)), (aH, .inl (cI, 6, .inl fH)), (aU, .inl (cI, 6, .inl fU)), (tr, .inr (4, [.ref bg, .int (nI tc2)])), (bg, .inl (cI, 16, .inl gf2))] ∧ tc2 ≤ 16)) := by
  refine wt_MZ.ofW (cc := cX5_begin) (maxL := 6) (ret := (some .int)) (by decide) rfl (Nat.le_of_ble_eq_true rfl) ?_
  intro p e s m below meth c A ls hx hb hr hts hown hlocks hml hnm hP hK hD hA hS hl hZ
  have hP : va_P D vwCl [(ho, .inr (0, [vz_0, vz_1, vz_2, .int (nI T), vz_4, vz_5, vz_6, .ref aK, vz_8, vz_9, .ref aH, .ref aU])), (aK, .inl (cI, 6, .inl fK)), (aH, .inl (cI, 6, .inl fH)), (aU, .inl (cI, 6, .inl fU)), (tr, .inr (4, [.ref bg, .int (nI tc)])), (bg, .inl (cI, 16, .inl gf))] s.heap := hP
  have hown : s.vm.findClass RX5 = some m.cls := hown
  have hl : lv_has ls 6 [(0, .ref ho), (1, .ref tr), (2, .int bo), (3, .int (nI j)), (4, .int (nI d))] := hl
  have hi0 : ∀ w ∈ u_ws RX0 TX0 12, w ∈ wsX5_begin := by decide +kernel
  have wf175 := hts (.fieldLink RX5 175 "WarmTubes$House" "up" "[I") (by decide +kernel)
  have wf196 := hts (.fieldLink RX5 196 "WarmTubes$House" "holds" "[I") (by decide +kernel)
  refine lv_iload hx hb dX5_begin_0 (lv_at hl 4 rfl) ?_
  refine lv_bipush (v := 16) hx hb dX5_begin_2 (by decide) ?_
  refine lv_icmp_lt (tgt := 9) hx hb dX5_begin_4 (by decide) (fun _ => ?_) (fun h => absurd (nI_lt (a := d) (b := 16) (by omega) (by omega)) h)
  refine lv_aload_n hx hb dX5_begin_9 rfl (lv_at hl 1 rfl) ?_
  refine lv_iload_n hx hb dX5_begin_10 rfl (lv_at hl 2 rfl) ?_
  refine wt_goV (wr := [(ho, .inr (0, [vz_0, vz_1, vz_2, .int (nI T), vz_4, vz_5, vz_6, .ref aK, vz_8, vz_9, .ref aH, .ref aU])), (aK, .inl (cI, 6, .inl fK)), (aH, .inl (cI, 6, .inl fH)), (aU, .inl (cI, 6, .inl fU))]) (wt_runV (As := [.int bo]) (rest := []) ⟨hx, hb, hml, hown, hts⟩ (c_X4_leave l D cI cZ cH tr bg tc gf bo (by first | assumption | omega)) (cwV 1 hts gX5_begin_X4_leave rfl rfl rfl (by decide +kernel) ⟨Nat.le_of_ble_eq_true rfl, Nat.le_of_ble_eq_true rfl⟩) hK hP hD [4, 5] rfl (by decide) (va_recv hK.1 hP (ci := 4) (q0 := 4) rfl rfl) rfl hl.1 rfl (Nat.le_of_ble_eq_true rfl) dX5_begin_11 ⟨Nat.le_of_ble_eq_true rfl, Nat.le_of_ble_eq_true rfl⟩) hP hD hS hA [4, 5] [0, 1, 2, 3] rfl rfl (by decide) (by decide) (fun w_2 H locs h_3 hP hD hS => ?_)
  obtain ⟨gf2_4, tc2_5, rfl, x_6⟩ := h_3
  have hP : va_P D vwCl [(ho, .inr (0, [vz_0, vz_1, vz_2, .int (nI T), vz_4, vz_5, vz_6, .ref aK, vz_8, vz_9, .ref aH, .ref aU])), (aK, .inl (cI, 6, .inl fK)), (aH, .inl (cI, 6, .inl fH)), (aU, .inl (cI, 6, .inl fU)), (tr, .inr (4, [.ref bg, .int (nI tc2_5)])), (bg, .inl (cI, 16, .inl gf2_4))] H := hP
  have hD : va_D A [(ho, .inr (0, [vz_0, vz_1, vz_2, .int (nI T), vz_4, vz_5, vz_6, .ref aK, vz_8, vz_9, .ref aH, .ref aU])), (aK, .inl (cI, 6, .inl fK)), (aH, .inl (cI, 6, .inl fH)), (aU, .inl (cI, 6, .inl fU)), (tr, .inr (4, [.ref bg, .int (nI tc2_5)])), (bg, .inl (cI, 16, .inl gf2_4))] := hD
  refine lv_iload hx hb dX5_begin_14 (lv_at hl 4 rfl) ?_
  refine lv_iconst (v := 1) hx hb dX5_begin_16 (by decide) ?_
  refine lv_iadd hx hb dX5_begin_17 ?_
  refine wt_top (z := nI (d + 1)) (nI_add d 1) ?_
  refine lv_istore (lv' := [(5, .int (nI (d + 1))), (0, .ref ho), (1, .ref tr), (2, .int bo), (3, .int (nI j)), (4, .int (nI d))]) hx hb dX5_begin_18 hl (by decide) rfl (fun ls hl => ?_)
  refine lv_iload_n hx hb dX5_begin_20 rfl (lv_at hl 3 rfl) ?_
  rcases wt_dec (bo) 10 with c_8 | c_8
  · subst c_8
    refine lv_tableIn (off := 75) (tgt := 96) hx hb dX5_begin_21 (by decide) (by decide) rfl (by decide) ?_
    refine lv_aload_n hx hb dX5_begin_96 rfl (lv_at hl 1 rfl) ?_
    refine va_get (D := D) (ci := 0) (v := .ref aH) (C := RX0) (T := TX0) (N := 12) hx hb hts hi0 hown hK.1 hP 0 rfl rfl 10 (by decide) wf196 (fun _ h9 => h9) rfl dX5_begin_97 ?_
    refine lv_iload_n hx hb dX5_begin_100 rfl (lv_at hl 4 rfl) ?_
    refine va_iald hx hb hK.1 hP 2 0 rfl rfl (vp_in_nI (by omega) (by omega)) dX5_begin_101 ?_
    refine lv_topi (fun ov_9 _ => ?_)
    have hP9 := hP.sub (ws' := [(ho, .inr (0, [vz_0, vz_1, vz_2, .int (nI T), vz_4, vz_5, vz_6, .ref aK, vz_8, vz_9, .ref aH, .ref aU])), (aK, .inl (cI, 6, .inl fK)), (aH, .inl (cI, 6, .inl fH)), (aU, .inl (cI, 6, .inl fU)), (tr, .inr (4, [.ref bg, .int (nI tc2_5)])), (bg, .inl (cI, 16, .inl gf2_4))]) [0, 1, 2, 3, 4, 5] rfl
    have hD9 := hD.sub (ws' := [(ho, .inr (0, [vz_0, vz_1, vz_2, .int (nI T), vz_4, vz_5, vz_6, .ref aK, vz_8, vz_9, .ref aH, .ref aU])), (aK, .inl (cI, 6, .inl fK)), (aH, .inl (cI, 6, .inl fH)), (aU, .inl (cI, 6, .inl fU)), (tr, .inr (4, [.ref bg, .int (nI tc2_5)])), (bg, .inl (cI, 16, .inl gf2_4))]) [0, 1, 2, 3, 4, 5] (by decide) rfl
    exact wt_iret hx hb hr hlocks hP9 hD9 hS ⟨gf2_4, tc2_5, rfl, (by omega)⟩ dX5_begin_102
  rcases wt_dec (bo) 11 with c_10 | c_10
  · subst c_10
    refine lv_tableIn (off := 82) (tgt := 103) hx hb dX5_begin_21 (by decide) (by decide) rfl (by decide) ?_
    refine lv_aload_n hx hb dX5_begin_103 rfl (lv_at hl 1 rfl) ?_
    refine lv_aload_n hx hb dX5_begin_104 rfl (lv_at hl 2 rfl) ?_
    refine lv_bipush (v := 10) hx hb dX5_begin_105 (by decide) ?_
    refine lv_iload_n hx hb dX5_begin_107 rfl (lv_at hl 4 rfl) ?_
    refine lv_iload hx hb dX5_begin_108 (lv_at hl 0 rfl) ?_
    refine wt_goI (wr := []) (wt_runSZ (As := [.ref ho, .ref tr, .int 10, .int (nI j), .int (nI (d + 1))]) (rest := []) ⟨hx, hb, hml, hown, hts⟩ (c_X5_begin_13 l D cI cZ cH _ _ _ ho aK aH aU T j (d + 1) fK fH fU tr bg tc2_5 gf2_4 10 vz_0 vz_1 vz_2 vz_4 vz_5 vz_6 vz_8 vz_9 (by first | assumption | omega) (by first | assumption | omega) (by first | assumption | omega) (by first | assumption | omega)) (va_cwS 5 hts gX5_begin_X5_begin rfl rfl rfl (by decide +kernel) ⟨Nat.le_of_ble_eq_true rfl, Nat.le_of_ble_eq_true rfl⟩) hK hP hD [0, 1, 2, 3, 4, 5] rfl (by decide) hZ hS hA rfl hl.1 rfl (Nat.le_of_ble_eq_true rfl) dX5_begin_110 ⟨Nat.le_of_ble_eq_true rfl, Nat.le_of_ble_eq_true rfl⟩) hP hD hS hA [0, 1, 2, 3, 4, 5] [] rfl rfl (by decide) (by decide) (fun r_11 w_12 H locs h_13 hP hD hS => ?_)
    obtain ⟨gf2_14, tc2_15, rfl, x_16⟩ := h_13
    have hP : va_P D vwCl [(ho, .inr (0, [vz_0, vz_1, vz_2, .int (nI T), vz_4, vz_5, vz_6, .ref aK, vz_8, vz_9, .ref aH, .ref aU])), (aK, .inl (cI, 6, .inl fK)), (aH, .inl (cI, 6, .inl fH)), (aU, .inl (cI, 6, .inl fU)), (tr, .inr (4, [.ref bg, .int (nI tc2_15)])), (bg, .inl (cI, 16, .inl gf2_14))] H := hP
    have hD : va_D A [(ho, .inr (0, [vz_0, vz_1, vz_2, .int (nI T), vz_4, vz_5, vz_6, .ref aK, vz_8, vz_9, .ref aH, .ref aU])), (aK, .inl (cI, 6, .inl fK)), (aH, .inl (cI, 6, .inl fH)), (aU, .inl (cI, 6, .inl fU)), (tr, .inr (4, [.ref bg, .int (nI tc2_15)])), (bg, .inl (cI, 16, .inl gf2_14))] := hD
    refine lv_aload_n hx hb dX5_begin_113 rfl (lv_at hl 1 rfl) ?_
    refine lv_aload_n hx hb dX5_begin_114 rfl (lv_at hl 2 rfl) ?_
    refine lv_aload_n hx hb dX5_begin_115 rfl (lv_at hl 1 rfl) ?_
    refine lv_iload_n hx hb dX5_begin_116 rfl (lv_at hl 4 rfl) ?_
    refine wt_goI (wr := [(aH, .inl (cI, 6, .inl fH)), (aU, .inl (cI, 6, .inl fU)), (tr, .inr (4, [.ref bg, .int (nI tc2_15)])), (bg, .inl (cI, 16, .inl gf2_14))]) (wt_runSZ (As := [.ref ho, .int (nI j)]) (rest := [.ref tr, .ref ho, .int r_11]) ⟨hx, hb, hml, hown, hts⟩ (c_X5_markBody l D cI cZ cH _ _ _ ho aK T j fK vz_0 vz_1 vz_2 vz_4 vz_5 vz_6 vz_8 vz_9 (.ref aH) (.ref aU) (by first | assumption | omega) (by first | assumption | omega)) (va_cwS 2 hts gX5_begin_X5_markBody rfl rfl rfl (by decide +kernel) ⟨Nat.le_of_ble_eq_true rfl, Nat.le_of_ble_eq_true rfl⟩) hK hP hD [0, 1] rfl (by decide) hZ hS hA rfl hl.1 rfl (Nat.le_of_ble_eq_true rfl) dX5_begin_117 ⟨Nat.le_of_ble_eq_true rfl, Nat.le_of_ble_eq_true rfl⟩) hP hD hS hA [0, 1] [2, 3, 4, 5] rfl rfl (by decide) (by decide) (fun r_17 w_18 H locs h_19 hP hD hS => ?_)
    obtain rfl := h_19
    have hP : va_P D vwCl [(aH, .inl (cI, 6, .inl fH)), (aU, .inl (cI, 6, .inl fU)), (tr, .inr (4, [.ref bg, .int (nI tc2_15)])), (bg, .inl (cI, 16, .inl gf2_14)), (ho, .inr (0, [vz_0, vz_1, vz_2, .int (nI T), vz_4, vz_5, vz_6, .ref aK, vz_8, vz_9, .ref aH, .ref aU])), (aK, .inl (cI, 6, .inl fK))] H := hP
    have hD : va_D A [(aH, .inl (cI, 6, .inl fH)), (aU, .inl (cI, 6, .inl fU)), (tr, .inr (4, [.ref bg, .int (nI tc2_15)])), (bg, .inl (cI, 16, .inl gf2_14)), (ho, .inr (0, [vz_0, vz_1, vz_2, .int (nI T), vz_4, vz_5, vz_6, .ref aK, vz_8, vz_9, .ref aH, .ref aU])), (aK, .inl (cI, 6, .inl fK))] := hD
    refine lv_iload_n hx hb dX5_begin_120 rfl (lv_at hl 4 rfl) ?_
    refine lv_iload hx hb dX5_begin_121 (lv_at hl 0 rfl) ?_
    refine wt_goI (wr := []) (wt_runSZ (As := [.ref ho, .ref tr, .int r_17, .int (nI j), .int (nI (d + 1))]) (rest := [.int r_11]) ⟨hx, hb, hml, hown, hts⟩ (c_X5_begin_13 l D cI cZ cH _ _ _ ho aK aH aU T j (d + 1) fK fH fU tr bg tc2_15 gf2_14 r_17 vz_0 vz_1 vz_2 vz_4 vz_5 vz_6 vz_8 vz_9 (by first | assumption | omega) (by first | assumption | omega) (by first | assumption | omega) (by first | assumption | omega)) (va_cwS 5 hts gX5_begin_X5_begin rfl rfl rfl (by decide +kernel) ⟨Nat.le_of_ble_eq_true rfl, Nat.le_of_ble_eq_true rfl⟩) hK hP hD [4, 5, 0, 1, 2, 3] rfl (by decide) hZ hS hA rfl hl.1 rfl (Nat.le_of_ble_eq_true rfl) dX5_begin_123 ⟨Nat.le_of_ble_eq_true rfl, Nat.le_of_ble_eq_true rfl⟩) hP hD hS hA [4, 5, 0, 1, 2, 3] [] rfl rfl (by decide) (by decide) (fun r_20 w_21 H locs h_22 hP hD hS => ?_)
    obtain ⟨gf2_23, tc2_24, rfl, x_25⟩ := h_22
    have hP : va_P D vwCl [(ho, .inr (0, [vz_0, vz_1, vz_2, .int (nI T), vz_4, vz_5, vz_6, .ref aK, vz_8, vz_9, .ref aH, .ref aU])), (aK, .inl (cI, 6, .inl fK)), (aH, .inl (cI, 6, .inl fH)), (aU, .inl (cI, 6, .inl fU)), (tr, .inr (4, [.ref bg, .int (nI tc2_24)])), (bg, .inl (cI, 16, .inl gf2_23))] H := hP
    have hD : va_D A [(ho, .inr (0, [vz_0, vz_1, vz_2, .int (nI T), vz_4, vz_5, vz_6, .ref aK, vz_8, vz_9, .ref aH, .ref aU])), (aK, .inl (cI, 6, .inl fK)), (aH, .inl (cI, 6, .inl fH)), (aU, .inl (cI, 6, .inl fU)), (tr, .inr (4, [.ref bg, .int (nI tc2_24)])), (bg, .inl (cI, 16, .inl gf2_23))] := hD
    refine lv_iadd hx hb dX5_begin_126 ?_
    refine lv_topi (fun ov_26 _ => ?_)
    have hP9 := hP.sub (ws' := [(ho, .inr (0, [vz_0, vz_1, vz_2, .int (nI T), vz_4, vz_5, vz_6, .ref aK, vz_8, vz_9, .ref aH, .ref aU])), (aK, .inl (cI, 6, .inl fK)), (aH, .inl (cI, 6, .inl fH)), (aU, .inl (cI, 6, .inl fU)), (tr, .inr (4, [.ref bg, .int (nI tc2_24)])), (bg, .inl (cI, 16, .inl gf2_23))]) [0, 1, 2, 3, 4, 5] rfl
    have hD9 := hD.sub (ws' := [(ho, .inr (0, [vz_0, vz_1, vz_2, .int (nI T), vz_4, vz_5, vz_6, .ref aK, vz_8, vz_9, .ref aH, .ref aU])), (aK, .inl (cI, 6, .inl fK)), (aH, .inl (cI, 6, .inl fH)), (aU, .inl (cI, 6, .inl fU)), (tr, .inr (4, [.ref bg, .int (nI tc2_24)])), (bg, .inl (cI, 16, .inl gf2_23))]) [0, 1, 2, 3, 4, 5] (by decide) rfl
    exact wt_iret hx hb hr hlocks hP9 hD9 hS ⟨gf2_23, tc2_24, rfl, (by omega)⟩ dX5_begin_127
  rcases wt_dec (bo) 12 with c_27 | c_27
  · subst c_27
    refine lv_tableIn (off := 107) (tgt := 128) hx hb dX5_begin_21 (by decide) (by decide) rfl (by decide) ?_
    refine lv_aload_n hx hb dX5_begin_128 rfl (lv_at hl 1 rfl) ?_
    refine lv_aload_n hx hb dX5_begin_129 rfl (lv_at hl 2 rfl) ?_
    refine lv_bipush (v := 11) hx hb dX5_begin_130 (by decide) ?_
    refine lv_iload_n hx hb dX5_begin_132 rfl (lv_at hl 4 rfl) ?_
    refine lv_iload hx hb dX5_begin_133 (lv_at hl 0 rfl) ?_
    refine wt_goI (wr := []) (wt_runSZ (As := [.ref ho, .ref tr, .int 11, .int (nI j), .int (nI (d + 1))]) (rest := []) ⟨hx, hb, hml, hown, hts⟩ (c_X5_begin_13 l D cI cZ cH _ _ _ ho aK aH aU T j (d + 1) fK fH fU tr bg tc2_5 gf2_4 11 vz_0 vz_1 vz_2 vz_4 vz_5 vz_6 vz_8 vz_9 (by first | assumption | omega) (by first | assumption | omega) (by first | assumption | omega) (by first | assumption | omega)) (va_cwS 5 hts gX5_begin_X5_begin rfl rfl rfl (by decide +kernel) ⟨Nat.le_of_ble_eq_true rfl, Nat.le_of_ble_eq_true rfl⟩) hK hP hD [0, 1, 2, 3, 4, 5] rfl (by decide) hZ hS hA rfl hl.1 rfl (Nat.le_of_ble_eq_true rfl) dX5_begin_135 ⟨Nat.le_of_ble_eq_true rfl, Nat.le_of_ble_eq_true rfl⟩) hP hD hS hA [0, 1, 2, 3, 4, 5] [] rfl rfl (by decide) (by decide) (fun r_28 w_29 H locs h_30 hP hD hS => ?_)
    obtain ⟨gf2_31, tc2_32, rfl, x_33⟩ := h_30
    have hP : va_P D vwCl [(ho, .inr (0, [vz_0, vz_1, vz_2, .int (nI T), vz_4, vz_5, vz_6, .ref aK, vz_8, vz_9, .ref aH, .ref aU])), (aK, .inl (cI, 6, .inl fK)), (aH, .inl (cI, 6, .inl fH)), (aU, .inl (cI, 6, .inl fU)), (tr, .inr (4, [.ref bg, .int (nI tc2_32)])), (bg, .inl (cI, 16, .inl gf2_31))] H := hP
    have hD : va_D A [(ho, .inr (0, [vz_0, vz_1, vz_2, .int (nI T), vz_4, vz_5, vz_6, .ref aK, vz_8, vz_9, .ref aH, .ref aU])), (aK, .inl (cI, 6, .inl fK)), (aH, .inl (cI, 6, .inl fH)), (aU, .inl (cI, 6, .inl fU)), (tr, .inr (4, [.ref bg, .int (nI tc2_32)])), (bg, .inl (cI, 16, .inl gf2_31))] := hD
    refine lv_ineg hx hb dX5_begin_138 ?_
    refine lv_topi (fun ov_34 _ => ?_)
    have hP9 := hP.sub (ws' := [(ho, .inr (0, [vz_0, vz_1, vz_2, .int (nI T), vz_4, vz_5, vz_6, .ref aK, vz_8, vz_9, .ref aH, .ref aU])), (aK, .inl (cI, 6, .inl fK)), (aH, .inl (cI, 6, .inl fH)), (aU, .inl (cI, 6, .inl fU)), (tr, .inr (4, [.ref bg, .int (nI tc2_32)])), (bg, .inl (cI, 16, .inl gf2_31))]) [0, 1, 2, 3, 4, 5] rfl
    have hD9 := hD.sub (ws' := [(ho, .inr (0, [vz_0, vz_1, vz_2, .int (nI T), vz_4, vz_5, vz_6, .ref aK, vz_8, vz_9, .ref aH, .ref aU])), (aK, .inl (cI, 6, .inl fK)), (aH, .inl (cI, 6, .inl fH)), (aU, .inl (cI, 6, .inl fU)), (tr, .inr (4, [.ref bg, .int (nI tc2_32)])), (bg, .inl (cI, 16, .inl gf2_31))]) [0, 1, 2, 3, 4, 5] (by decide) rfl
    exact wt_iret hx hb hr hlocks hP9 hD9 hS ⟨gf2_31, tc2_32, rfl, (by omega)⟩ dX5_begin_139
  rcases wt_dec (bo) 13 with c_35 | c_35
  · subst c_35
    refine lv_tableIn (off := 119) (tgt := 140) hx hb dX5_begin_21 (by decide) (by decide) rfl (by decide) ?_
    refine lv_aload_n hx hb dX5_begin_140 rfl (lv_at hl 1 rfl) ?_
    refine lv_aload_n hx hb dX5_begin_141 rfl (lv_at hl 2 rfl) ?_
    refine lv_bipush (v := 10) hx hb dX5_begin_142 (by decide) ?_
    refine lv_iload_n hx hb dX5_begin_144 rfl (lv_at hl 4 rfl) ?_
    refine lv_iload hx hb dX5_begin_145 (lv_at hl 0 rfl) ?_
    refine wt_goI (wr := []) (wt_runSZ (As := [.ref ho, .ref tr, .int 10, .int (nI j), .int (nI (d + 1))]) (rest := []) ⟨hx, hb, hml, hown, hts⟩ (c_X5_begin_13 l D cI cZ cH _ _ _ ho aK aH aU T j (d + 1) fK fH fU tr bg tc2_5 gf2_4 10 vz_0 vz_1 vz_2 vz_4 vz_5 vz_6 vz_8 vz_9 (by first | assumption | omega) (by first | assumption | omega) (by first | assumption | omega) (by first | assumption | omega)) (va_cwS 5 hts gX5_begin_X5_begin rfl rfl rfl (by decide +kernel) ⟨Nat.le_of_ble_eq_true rfl, Nat.le_of_ble_eq_true rfl⟩) hK hP hD [0, 1, 2, 3, 4, 5] rfl (by decide) hZ hS hA rfl hl.1 rfl (Nat.le_of_ble_eq_true rfl) dX5_begin_147 ⟨Nat.le_of_ble_eq_true rfl, Nat.le_of_ble_eq_true rfl⟩) hP hD hS hA [0, 1, 2, 3, 4, 5] [] rfl rfl (by decide) (by decide) (fun r_36 w_37 H locs h_38 hP hD hS => ?_)
    obtain ⟨gf2_39, tc2_40, rfl, x_41⟩ := h_38
    have hP : va_P D vwCl [(ho, .inr (0, [vz_0, vz_1, vz_2, .int (nI T), vz_4, vz_5, vz_6, .ref aK, vz_8, vz_9, .ref aH, .ref aU])), (aK, .inl (cI, 6, .inl fK)), (aH, .inl (cI, 6, .inl fH)), (aU, .inl (cI, 6, .inl fU)), (tr, .inr (4, [.ref bg, .int (nI tc2_40)])), (bg, .inl (cI, 16, .inl gf2_39))] H := hP
    have hD : va_D A [(ho, .inr (0, [vz_0, vz_1, vz_2, .int (nI T), vz_4, vz_5, vz_6, .ref aK, vz_8, vz_9, .ref aH, .ref aU])), (aK, .inl (cI, 6, .inl fK)), (aH, .inl (cI, 6, .inl fH)), (aU, .inl (cI, 6, .inl fU)), (tr, .inr (4, [.ref bg, .int (nI tc2_40)])), (bg, .inl (cI, 16, .inl gf2_39))] := hD
    refine lv_bipush (v := 100) hx hb dX5_begin_150 (by decide) ?_
    refine lv_isub hx hb dX5_begin_152 ?_
    refine lv_topi (fun ov_42 _ => ?_)
    have hP9 := hP.sub (ws' := [(ho, .inr (0, [vz_0, vz_1, vz_2, .int (nI T), vz_4, vz_5, vz_6, .ref aK, vz_8, vz_9, .ref aH, .ref aU])), (aK, .inl (cI, 6, .inl fK)), (aH, .inl (cI, 6, .inl fH)), (aU, .inl (cI, 6, .inl fU)), (tr, .inr (4, [.ref bg, .int (nI tc2_40)])), (bg, .inl (cI, 16, .inl gf2_39))]) [0, 1, 2, 3, 4, 5] rfl
    have hD9 := hD.sub (ws' := [(ho, .inr (0, [vz_0, vz_1, vz_2, .int (nI T), vz_4, vz_5, vz_6, .ref aK, vz_8, vz_9, .ref aH, .ref aU])), (aK, .inl (cI, 6, .inl fK)), (aH, .inl (cI, 6, .inl fH)), (aU, .inl (cI, 6, .inl fU)), (tr, .inr (4, [.ref bg, .int (nI tc2_40)])), (bg, .inl (cI, 16, .inl gf2_39))]) [0, 1, 2, 3, 4, 5] (by decide) rfl
    exact wt_iret hx hb hr hlocks hP9 hD9 hS ⟨gf2_39, tc2_40, rfl, (by omega)⟩ dX5_begin_153
  rcases wt_dec (bo) 14 with c_43 | c_43
  · subst c_43
    refine lv_tableIn (off := 133) (tgt := 154) hx hb dX5_begin_21 (by decide) (by decide) rfl (by decide) ?_
    refine lv_aload_n hx hb dX5_begin_154 rfl (lv_at hl 1 rfl) ?_
    refine lv_aload_n hx hb dX5_begin_155 rfl (lv_at hl 2 rfl) ?_
    refine lv_bipush (v := 13) hx hb dX5_begin_156 (by decide) ?_
    refine lv_iload_n hx hb dX5_begin_158 rfl (lv_at hl 4 rfl) ?_
    refine lv_iload hx hb dX5_begin_159 (lv_at hl 0 rfl) ?_
    refine wt_goI (wr := []) (wt_runSZ (As := [.ref ho, .ref tr, .int 13, .int (nI j), .int (nI (d + 1))]) (rest := []) ⟨hx, hb, hml, hown, hts⟩ (c_X5_begin_13 l D cI cZ cH _ _ _ ho aK aH aU T j (d + 1) fK fH fU tr bg tc2_5 gf2_4 13 vz_0 vz_1 vz_2 vz_4 vz_5 vz_6 vz_8 vz_9 (by first | assumption | omega) (by first | assumption | omega) (by first | assumption | omega) (by first | assumption | omega)) (va_cwS 5 hts gX5_begin_X5_begin rfl rfl rfl (by decide +kernel) ⟨Nat.le_of_ble_eq_true rfl, Nat.le_of_ble_eq_true rfl⟩) hK hP hD [0, 1, 2, 3, 4, 5] rfl (by decide) hZ hS hA rfl hl.1 rfl (Nat.le_of_ble_eq_true rfl) dX5_begin_161 ⟨Nat.le_of_ble_eq_true rfl, Nat.le_of_ble_eq_true rfl⟩) hP hD hS hA [0, 1, 2, 3, 4, 5] [] rfl rfl (by decide) (by decide) (fun r_44 w_45 H locs h_46 hP hD hS => ?_)
    obtain ⟨gf2_47, tc2_48, rfl, x_49⟩ := h_46
    have hP : va_P D vwCl [(ho, .inr (0, [vz_0, vz_1, vz_2, .int (nI T), vz_4, vz_5, vz_6, .ref aK, vz_8, vz_9, .ref aH, .ref aU])), (aK, .inl (cI, 6, .inl fK)), (aH, .inl (cI, 6, .inl fH)), (aU, .inl (cI, 6, .inl fU)), (tr, .inr (4, [.ref bg, .int (nI tc2_48)])), (bg, .inl (cI, 16, .inl gf2_47))] H := hP
    have hD : va_D A [(ho, .inr (0, [vz_0, vz_1, vz_2, .int (nI T), vz_4, vz_5, vz_6, .ref aK, vz_8, vz_9, .ref aH, .ref aU])), (aK, .inl (cI, 6, .inl fK)), (aH, .inl (cI, 6, .inl fH)), (aU, .inl (cI, 6, .inl fU)), (tr, .inr (4, [.ref bg, .int (nI tc2_48)])), (bg, .inl (cI, 16, .inl gf2_47))] := hD
    refine lv_iconst (v := 2) hx hb dX5_begin_164 (by decide) ?_
    refine lv_imul hx hb dX5_begin_165 ?_
    refine lv_topi (fun ov_50 _ => ?_)
    have hP9 := hP.sub (ws' := [(ho, .inr (0, [vz_0, vz_1, vz_2, .int (nI T), vz_4, vz_5, vz_6, .ref aK, vz_8, vz_9, .ref aH, .ref aU])), (aK, .inl (cI, 6, .inl fK)), (aH, .inl (cI, 6, .inl fH)), (aU, .inl (cI, 6, .inl fU)), (tr, .inr (4, [.ref bg, .int (nI tc2_48)])), (bg, .inl (cI, 16, .inl gf2_47))]) [0, 1, 2, 3, 4, 5] rfl
    have hD9 := hD.sub (ws' := [(ho, .inr (0, [vz_0, vz_1, vz_2, .int (nI T), vz_4, vz_5, vz_6, .ref aK, vz_8, vz_9, .ref aH, .ref aU])), (aK, .inl (cI, 6, .inl fK)), (aH, .inl (cI, 6, .inl fH)), (aU, .inl (cI, 6, .inl fU)), (tr, .inr (4, [.ref bg, .int (nI tc2_48)])), (bg, .inl (cI, 16, .inl gf2_47))]) [0, 1, 2, 3, 4, 5] (by decide) rfl
    exact wt_iret hx hb hr hlocks hP9 hD9 hS ⟨gf2_47, tc2_48, rfl, (by omega)⟩ dX5_begin_166
  rcases wt_dec (bo) 15 with c_51 | c_51
  · subst c_51
    refine lv_tableIn (off := 219) (tgt := 240) hx hb dX5_begin_21 (by decide) (by decide) rfl (by decide) ?_
    refine lv_iconst (v := 0) hx hb dX5_begin_240 (by decide) ?_
    have hP9 := hP.sub (ws' := [(ho, .inr (0, [vz_0, vz_1, vz_2, .int (nI T), vz_4, vz_5, vz_6, .ref aK, vz_8, vz_9, .ref aH, .ref aU])), (aK, .inl (cI, 6, .inl fK)), (aH, .inl (cI, 6, .inl fH)), (aU, .inl (cI, 6, .inl fU)), (tr, .inr (4, [.ref bg, .int (nI tc2_5)])), (bg, .inl (cI, 16, .inl gf2_4))]) [0, 1, 2, 3, 4, 5] rfl
    have hD9 := hD.sub (ws' := [(ho, .inr (0, [vz_0, vz_1, vz_2, .int (nI T), vz_4, vz_5, vz_6, .ref aK, vz_8, vz_9, .ref aH, .ref aU])), (aK, .inl (cI, 6, .inl fK)), (aH, .inl (cI, 6, .inl fH)), (aU, .inl (cI, 6, .inl fU)), (tr, .inr (4, [.ref bg, .int (nI tc2_5)])), (bg, .inl (cI, 16, .inl gf2_4))]) [0, 1, 2, 3, 4, 5] (by decide) rfl
    exact wt_iret hx hb hr hlocks hP9 hD9 hS ⟨gf2_4, tc2_5, rfl, (by omega)⟩ dX5_begin_241
  rcases wt_dec (bo) 16 with c_52 | c_52
  · subst c_52
    refine lv_tableIn (off := 219) (tgt := 240) hx hb dX5_begin_21 (by decide) (by decide) rfl (by decide) ?_
    refine lv_iconst (v := 0) hx hb dX5_begin_240 (by decide) ?_
    have hP9 := hP.sub (ws' := [(ho, .inr (0, [vz_0, vz_1, vz_2, .int (nI T), vz_4, vz_5, vz_6, .ref aK, vz_8, vz_9, .ref aH, .ref aU])), (aK, .inl (cI, 6, .inl fK)), (aH, .inl (cI, 6, .inl fH)), (aU, .inl (cI, 6, .inl fU)), (tr, .inr (4, [.ref bg, .int (nI tc2_5)])), (bg, .inl (cI, 16, .inl gf2_4))]) [0, 1, 2, 3, 4, 5] rfl
    have hD9 := hD.sub (ws' := [(ho, .inr (0, [vz_0, vz_1, vz_2, .int (nI T), vz_4, vz_5, vz_6, .ref aK, vz_8, vz_9, .ref aH, .ref aU])), (aK, .inl (cI, 6, .inl fK)), (aH, .inl (cI, 6, .inl fH)), (aU, .inl (cI, 6, .inl fU)), (tr, .inr (4, [.ref bg, .int (nI tc2_5)])), (bg, .inl (cI, 16, .inl gf2_4))]) [0, 1, 2, 3, 4, 5] (by decide) rfl
    exact wt_iret hx hb hr hlocks hP9 hD9 hS ⟨gf2_4, tc2_5, rfl, (by omega)⟩ dX5_begin_241
  rcases wt_dec (bo) 17 with c_53 | c_53
  · subst c_53
    refine lv_tableIn (off := 219) (tgt := 240) hx hb dX5_begin_21 (by decide) (by decide) rfl (by decide) ?_
    refine lv_iconst (v := 0) hx hb dX5_begin_240 (by decide) ?_
    have hP9 := hP.sub (ws' := [(ho, .inr (0, [vz_0, vz_1, vz_2, .int (nI T), vz_4, vz_5, vz_6, .ref aK, vz_8, vz_9, .ref aH, .ref aU])), (aK, .inl (cI, 6, .inl fK)), (aH, .inl (cI, 6, .inl fH)), (aU, .inl (cI, 6, .inl fU)), (tr, .inr (4, [.ref bg, .int (nI tc2_5)])), (bg, .inl (cI, 16, .inl gf2_4))]) [0, 1, 2, 3, 4, 5] rfl
    have hD9 := hD.sub (ws' := [(ho, .inr (0, [vz_0, vz_1, vz_2, .int (nI T), vz_4, vz_5, vz_6, .ref aK, vz_8, vz_9, .ref aH, .ref aU])), (aK, .inl (cI, 6, .inl fK)), (aH, .inl (cI, 6, .inl fH)), (aU, .inl (cI, 6, .inl fU)), (tr, .inr (4, [.ref bg, .int (nI tc2_5)])), (bg, .inl (cI, 16, .inl gf2_4))]) [0, 1, 2, 3, 4, 5] (by decide) rfl
    exact wt_iret hx hb hr hlocks hP9 hD9 hS ⟨gf2_4, tc2_5, rfl, (by omega)⟩ dX5_begin_241
  rcases wt_dec (bo) 18 with c_54 | c_54
  · subst c_54
    refine lv_tableIn (off := 219) (tgt := 240) hx hb dX5_begin_21 (by decide) (by decide) rfl (by decide) ?_
    refine lv_iconst (v := 0) hx hb dX5_begin_240 (by decide) ?_
    have hP9 := hP.sub (ws' := [(ho, .inr (0, [vz_0, vz_1, vz_2, .int (nI T), vz_4, vz_5, vz_6, .ref aK, vz_8, vz_9, .ref aH, .ref aU])), (aK, .inl (cI, 6, .inl fK)), (aH, .inl (cI, 6, .inl fH)), (aU, .inl (cI, 6, .inl fU)), (tr, .inr (4, [.ref bg, .int (nI tc2_5)])), (bg, .inl (cI, 16, .inl gf2_4))]) [0, 1, 2, 3, 4, 5] rfl
    have hD9 := hD.sub (ws' := [(ho, .inr (0, [vz_0, vz_1, vz_2, .int (nI T), vz_4, vz_5, vz_6, .ref aK, vz_8, vz_9, .ref aH, .ref aU])), (aK, .inl (cI, 6, .inl fK)), (aH, .inl (cI, 6, .inl fH)), (aU, .inl (cI, 6, .inl fU)), (tr, .inr (4, [.ref bg, .int (nI tc2_5)])), (bg, .inl (cI, 16, .inl gf2_4))]) [0, 1, 2, 3, 4, 5] (by decide) rfl
    exact wt_iret hx hb hr hlocks hP9 hD9 hS ⟨gf2_4, tc2_5, rfl, (by omega)⟩ dX5_begin_241
  rcases wt_dec (bo) 19 with c_55 | c_55
  · subst c_55
    refine lv_tableIn (off := 219) (tgt := 240) hx hb dX5_begin_21 (by decide) (by decide) rfl (by decide) ?_
    refine lv_iconst (v := 0) hx hb dX5_begin_240 (by decide) ?_
    have hP9 := hP.sub (ws' := [(ho, .inr (0, [vz_0, vz_1, vz_2, .int (nI T), vz_4, vz_5, vz_6, .ref aK, vz_8, vz_9, .ref aH, .ref aU])), (aK, .inl (cI, 6, .inl fK)), (aH, .inl (cI, 6, .inl fH)), (aU, .inl (cI, 6, .inl fU)), (tr, .inr (4, [.ref bg, .int (nI tc2_5)])), (bg, .inl (cI, 16, .inl gf2_4))]) [0, 1, 2, 3, 4, 5] rfl
    have hD9 := hD.sub (ws' := [(ho, .inr (0, [vz_0, vz_1, vz_2, .int (nI T), vz_4, vz_5, vz_6, .ref aK, vz_8, vz_9, .ref aH, .ref aU])), (aK, .inl (cI, 6, .inl fK)), (aH, .inl (cI, 6, .inl fH)), (aU, .inl (cI, 6, .inl fU)), (tr, .inr (4, [.ref bg, .int (nI tc2_5)])), (bg, .inl (cI, 16, .inl gf2_4))]) [0, 1, 2, 3, 4, 5] (by decide) rfl
    exact wt_iret hx hb hr hlocks hP9 hD9 hS ⟨gf2_4, tc2_5, rfl, (by omega)⟩ dX5_begin_241
  rcases wt_dec (bo) 20 with c_56 | c_56
  · subst c_56
    refine lv_tableIn (off := 146) (tgt := 167) hx hb dX5_begin_21 (by decide) (by decide) rfl (by decide) ?_
    refine lv_iload_n hx hb dX5_begin_167 rfl (lv_at hl 4 rfl) ?_
    have hP9 := hP.sub (ws' := [(ho, .inr (0, [vz_0, vz_1, vz_2, .int (nI T), vz_4, vz_5, vz_6, .ref aK, vz_8, vz_9, .ref aH, .ref aU])), (aK, .inl (cI, 6, .inl fK)), (aH, .inl (cI, 6, .inl fH)), (aU, .inl (cI, 6, .inl fU)), (tr, .inr (4, [.ref bg, .int (nI tc2_5)])), (bg, .inl (cI, 16, .inl gf2_4))]) [0, 1, 2, 3, 4, 5] rfl
    have hD9 := hD.sub (ws' := [(ho, .inr (0, [vz_0, vz_1, vz_2, .int (nI T), vz_4, vz_5, vz_6, .ref aK, vz_8, vz_9, .ref aH, .ref aU])), (aK, .inl (cI, 6, .inl fK)), (aH, .inl (cI, 6, .inl fH)), (aU, .inl (cI, 6, .inl fU)), (tr, .inr (4, [.ref bg, .int (nI tc2_5)])), (bg, .inl (cI, 16, .inl gf2_4))]) [0, 1, 2, 3, 4, 5] (by decide) rfl
    exact wt_iret hx hb hr hlocks hP9 hD9 hS ⟨gf2_4, tc2_5, rfl, (by omega)⟩ dX5_begin_168
  rcases wt_dec (bo) 21 with c_57 | c_57
  · subst c_57
    refine lv_tableIn (off := 148) (tgt := 169) hx hb dX5_begin_21 (by decide) (by decide) rfl (by decide) ?_
    refine lv_aload_n hx hb dX5_begin_169 rfl (lv_at hl 1 rfl) ?_
    refine lv_aload_n hx hb dX5_begin_170 rfl (lv_at hl 2 rfl) ?_
    refine lv_bipush (v := 20) hx hb dX5_begin_171 (by decide) ?_
    refine lv_iload_n hx hb dX5_begin_173 rfl (lv_at hl 4 rfl) ?_
    refine lv_iload hx hb dX5_begin_174 (lv_at hl 0 rfl) ?_
    refine wt_goI (wr := []) (wt_runSZ (As := [.ref ho, .ref tr, .int 20, .int (nI j), .int (nI (d + 1))]) (rest := []) ⟨hx, hb, hml, hown, hts⟩ (c_X5_begin_13 l D cI cZ cH _ _ _ ho aK aH aU T j (d + 1) fK fH fU tr bg tc2_5 gf2_4 20 vz_0 vz_1 vz_2 vz_4 vz_5 vz_6 vz_8 vz_9 (by first | assumption | omega) (by first | assumption | omega) (by first | assumption | omega) (by first | assumption | omega)) (va_cwS 5 hts gX5_begin_X5_begin rfl rfl rfl (by decide +kernel) ⟨Nat.le_of_ble_eq_true rfl, Nat.le_of_ble_eq_true rfl⟩) hK hP hD [0, 1, 2, 3, 4, 5] rfl (by decide) hZ hS hA rfl hl.1 rfl (Nat.le_of_ble_eq_true rfl) dX5_begin_176 ⟨Nat.le_of_ble_eq_true rfl, Nat.le_of_ble_eq_true rfl⟩) hP hD hS hA [0, 1, 2, 3, 4, 5] [] rfl rfl (by decide) (by decide) (fun r_58 w_59 H locs h_60 hP hD hS => ?_)
    obtain ⟨gf2_61, tc2_62, rfl, x_63⟩ := h_60
    have hP : va_P D vwCl [(ho, .inr (0, [vz_0, vz_1, vz_2, .int (nI T), vz_4, vz_5, vz_6, .ref aK, vz_8, vz_9, .ref aH, .ref aU])), (aK, .inl (cI, 6, .inl fK)), (aH, .inl (cI, 6, .inl fH)), (aU, .inl (cI, 6, .inl fU)), (tr, .inr (4, [.ref bg, .int (nI tc2_62)])), (bg, .inl (cI, 16, .inl gf2_61))] H := hP
    have hD : va_D A [(ho, .inr (0, [vz_0, vz_1, vz_2, .int (nI T), vz_4, vz_5, vz_6, .ref aK, vz_8, vz_9, .ref aH, .ref aU])), (aK, .inl (cI, 6, .inl fK)), (aH, .inl (cI, 6, .inl fH)), (aU, .inl (cI, 6, .inl fU)), (tr, .inr (4, [.ref bg, .int (nI tc2_62)])), (bg, .inl (cI, 16, .inl gf2_61))] := hD
    refine lv_aload_n hx hb dX5_begin_179 rfl (lv_at hl 1 rfl) ?_
    refine va_get (D := D) (ci := 0) (v := .ref aU) (C := RX0) (T := TX0) (N := 12) hx hb hts hi0 hown hK.1 hP 0 rfl rfl 11 (by decide) wf175 (fun _ h9 => h9) rfl dX5_begin_180 ?_
    refine lv_iload_n hx hb dX5_begin_183 rfl (lv_at hl 4 rfl) ?_
    refine va_iald hx hb hK.1 hP 3 0 rfl rfl (vp_in_nI (by omega) (by omega)) dX5_begin_184 ?_
    refine lv_topi (fun ov_64 _ => ?_)
    refine lv_iadd hx hb dX5_begin_185 ?_
    refine lv_topi (fun ov_65 _ => ?_)
    have hP9 := hP.sub (ws' := [(ho, .inr (0, [vz_0, vz_1, vz_2, .int (nI T), vz_4, vz_5, vz_6, .ref aK, vz_8, vz_9, .ref aH, .ref aU])), (aK, .inl (cI, 6, .inl fK)), (aH, .inl (cI, 6, .inl fH)), (aU, .inl (cI, 6, .inl fU)), (tr, .inr (4, [.ref bg, .int (nI tc2_62)])), (bg, .inl (cI, 16, .inl gf2_61))]) [0, 1, 2, 3, 4, 5] rfl
    have hD9 := hD.sub (ws' := [(ho, .inr (0, [vz_0, vz_1, vz_2, .int (nI T), vz_4, vz_5, vz_6, .ref aK, vz_8, vz_9, .ref aH, .ref aU])), (aK, .inl (cI, 6, .inl fK)), (aH, .inl (cI, 6, .inl fH)), (aU, .inl (cI, 6, .inl fU)), (tr, .inr (4, [.ref bg, .int (nI tc2_62)])), (bg, .inl (cI, 16, .inl gf2_61))]) [0, 1, 2, 3, 4, 5] (by decide) rfl
    exact wt_iret hx hb hr hlocks hP9 hD9 hS ⟨gf2_61, tc2_62, rfl, (by omega)⟩ dX5_begin_186
  rcases wt_dec (bo) 22 with c_66 | c_66
  · subst c_66
    refine lv_tableIn (off := 166) (tgt := 187) hx hb dX5_begin_21 (by decide) (by decide) rfl (by decide) ?_
    refine lv_aload_n hx hb dX5_begin_187 rfl (lv_at hl 1 rfl) ?_
    refine lv_aload_n hx hb dX5_begin_188 rfl (lv_at hl 2 rfl) ?_
    refine lv_bipush (v := 21) hx hb dX5_begin_189 (by decide) ?_
    refine lv_iload_n hx hb dX5_begin_191 rfl (lv_at hl 4 rfl) ?_
    refine lv_iload hx hb dX5_begin_192 (lv_at hl 0 rfl) ?_
    refine wt_goI (wr := []) (wt_runSZ (As := [.ref ho, .ref tr, .int 21, .int (nI j), .int (nI (d + 1))]) (rest := []) ⟨hx, hb, hml, hown, hts⟩ (c_X5_begin_13 l D cI cZ cH _ _ _ ho aK aH aU T j (d + 1) fK fH fU tr bg tc2_5 gf2_4 21 vz_0 vz_1 vz_2 vz_4 vz_5 vz_6 vz_8 vz_9 (by first | assumption | omega) (by first | assumption | omega) (by first | assumption | omega) (by first | assumption | omega)) (va_cwS 5 hts gX5_begin_X5_begin rfl rfl rfl (by decide +kernel) ⟨Nat.le_of_ble_eq_true rfl, Nat.le_of_ble_eq_true rfl⟩) hK hP hD [0, 1, 2, 3, 4, 5] rfl (by decide) hZ hS hA rfl hl.1 rfl (Nat.le_of_ble_eq_true rfl) dX5_begin_194 ⟨Nat.le_of_ble_eq_true rfl, Nat.le_of_ble_eq_true rfl⟩) hP hD hS hA [0, 1, 2, 3, 4, 5] [] rfl rfl (by decide) (by decide) (fun r_67 w_68 H locs h_69 hP hD hS => ?_)
    obtain ⟨gf2_70, tc2_71, rfl, x_72⟩ := h_69
    have hP : va_P D vwCl [(ho, .inr (0, [vz_0, vz_1, vz_2, .int (nI T), vz_4, vz_5, vz_6, .ref aK, vz_8, vz_9, .ref aH, .ref aU])), (aK, .inl (cI, 6, .inl fK)), (aH, .inl (cI, 6, .inl fH)), (aU, .inl (cI, 6, .inl fU)), (tr, .inr (4, [.ref bg, .int (nI tc2_71)])), (bg, .inl (cI, 16, .inl gf2_70))] H := hP
    have hD : va_D A [(ho, .inr (0, [vz_0, vz_1, vz_2, .int (nI T), vz_4, vz_5, vz_6, .ref aK, vz_8, vz_9, .ref aH, .ref aU])), (aK, .inl (cI, 6, .inl fK)), (aH, .inl (cI, 6, .inl fH)), (aU, .inl (cI, 6, .inl fU)), (tr, .inr (4, [.ref bg, .int (nI tc2_71)])), (bg, .inl (cI, 16, .inl gf2_70))] := hD
    refine lv_sipush (v := 1000) hx hb dX5_begin_197 (by decide) ?_
    refine lv_isub hx hb dX5_begin_200 ?_
    refine lv_topi (fun ov_73 _ => ?_)
    have hP9 := hP.sub (ws' := [(ho, .inr (0, [vz_0, vz_1, vz_2, .int (nI T), vz_4, vz_5, vz_6, .ref aK, vz_8, vz_9, .ref aH, .ref aU])), (aK, .inl (cI, 6, .inl fK)), (aH, .inl (cI, 6, .inl fH)), (aU, .inl (cI, 6, .inl fU)), (tr, .inr (4, [.ref bg, .int (nI tc2_71)])), (bg, .inl (cI, 16, .inl gf2_70))]) [0, 1, 2, 3, 4, 5] rfl
    have hD9 := hD.sub (ws' := [(ho, .inr (0, [vz_0, vz_1, vz_2, .int (nI T), vz_4, vz_5, vz_6, .ref aK, vz_8, vz_9, .ref aH, .ref aU])), (aK, .inl (cI, 6, .inl fK)), (aH, .inl (cI, 6, .inl fH)), (aU, .inl (cI, 6, .inl fU)), (tr, .inr (4, [.ref bg, .int (nI tc2_71)])), (bg, .inl (cI, 16, .inl gf2_70))]) [0, 1, 2, 3, 4, 5] (by decide) rfl
    exact wt_iret hx hb hr hlocks hP9 hD9 hS ⟨gf2_70, tc2_71, rfl, (by omega)⟩ dX5_begin_201
  rcases wt_dec (bo) 23 with c_74 | c_74
  · subst c_74
    refine lv_tableIn (off := 181) (tgt := 202) hx hb dX5_begin_21 (by decide) (by decide) rfl (by decide) ?_
    refine lv_aload_n hx hb dX5_begin_202 rfl (lv_at hl 1 rfl) ?_
    refine lv_aload_n hx hb dX5_begin_203 rfl (lv_at hl 2 rfl) ?_
    refine lv_bipush (v := 20) hx hb dX5_begin_204 (by decide) ?_
    refine lv_iload_n hx hb dX5_begin_206 rfl (lv_at hl 4 rfl) ?_
    refine lv_iload hx hb dX5_begin_207 (lv_at hl 0 rfl) ?_
    refine wt_goI (wr := []) (wt_runSZ (As := [.ref ho, .ref tr, .int 20, .int (nI j), .int (nI (d + 1))]) (rest := []) ⟨hx, hb, hml, hown, hts⟩ (c_X5_begin_13 l D cI cZ cH _ _ _ ho aK aH aU T j (d + 1) fK fH fU tr bg tc2_5 gf2_4 20 vz_0 vz_1 vz_2 vz_4 vz_5 vz_6 vz_8 vz_9 (by first | assumption | omega) (by first | assumption | omega) (by first | assumption | omega) (by first | assumption | omega)) (va_cwS 5 hts gX5_begin_X5_begin rfl rfl rfl (by decide +kernel) ⟨Nat.le_of_ble_eq_true rfl, Nat.le_of_ble_eq_true rfl⟩) hK hP hD [0, 1, 2, 3, 4, 5] rfl (by decide) hZ hS hA rfl hl.1 rfl (Nat.le_of_ble_eq_true rfl) dX5_begin_209 ⟨Nat.le_of_ble_eq_true rfl, Nat.le_of_ble_eq_true rfl⟩) hP hD hS hA [0, 1, 2, 3, 4, 5] [] rfl rfl (by decide) (by decide) (fun r_75 w_76 H locs h_77 hP hD hS => ?_)
    obtain ⟨gf2_78, tc2_79, rfl, x_80⟩ := h_77
    have hP : va_P D vwCl [(ho, .inr (0, [vz_0, vz_1, vz_2, .int (nI T), vz_4, vz_5, vz_6, .ref aK, vz_8, vz_9, .ref aH, .ref aU])), (aK, .inl (cI, 6, .inl fK)), (aH, .inl (cI, 6, .inl fH)), (aU, .inl (cI, 6, .inl fU)), (tr, .inr (4, [.ref bg, .int (nI tc2_79)])), (bg, .inl (cI, 16, .inl gf2_78))] H := hP
    have hD : va_D A [(ho, .inr (0, [vz_0, vz_1, vz_2, .int (nI T), vz_4, vz_5, vz_6, .ref aK, vz_8, vz_9, .ref aH, .ref aU])), (aK, .inl (cI, 6, .inl fK)), (aH, .inl (cI, 6, .inl fH)), (aU, .inl (cI, 6, .inl fU)), (tr, .inr (4, [.ref bg, .int (nI tc2_79)])), (bg, .inl (cI, 16, .inl gf2_78))] := hD
    refine lv_aload_n hx hb dX5_begin_212 rfl (lv_at hl 1 rfl) ?_
    refine lv_aload_n hx hb dX5_begin_213 rfl (lv_at hl 2 rfl) ?_
    refine lv_aload_n hx hb dX5_begin_214 rfl (lv_at hl 1 rfl) ?_
    refine lv_iload_n hx hb dX5_begin_215 rfl (lv_at hl 4 rfl) ?_
    refine wt_goI (wr := [(aH, .inl (cI, 6, .inl fH)), (aU, .inl (cI, 6, .inl fU)), (tr, .inr (4, [.ref bg, .int (nI tc2_79)])), (bg, .inl (cI, 16, .inl gf2_78))]) (wt_runSZ (As := [.ref ho, .int (nI j)]) (rest := [.ref tr, .ref ho, .int r_75]) ⟨hx, hb, hml, hown, hts⟩ (c_X5_sizeBody l D cI cZ cH _ _ _ ho aK T j fK vz_0 vz_1 vz_2 vz_4 vz_5 vz_6 vz_8 vz_9 (.ref aH) (.ref aU) (by first | assumption | omega) (by first | assumption | omega)) (va_cwS 2 hts gX5_begin_X5_sizeBody rfl rfl rfl (by decide +kernel) ⟨Nat.le_of_ble_eq_true rfl, Nat.le_of_ble_eq_true rfl⟩) hK hP hD [0, 1] rfl (by decide) hZ hS hA rfl hl.1 rfl (Nat.le_of_ble_eq_true rfl) dX5_begin_216 ⟨Nat.le_of_ble_eq_true rfl, Nat.le_of_ble_eq_true rfl⟩) hP hD hS hA [0, 1] [2, 3, 4, 5] rfl rfl (by decide) (by decide) (fun r_81 w_82 H locs h_83 hP hD hS => ?_)
    obtain rfl := h_83
    have hP : va_P D vwCl [(aH, .inl (cI, 6, .inl fH)), (aU, .inl (cI, 6, .inl fU)), (tr, .inr (4, [.ref bg, .int (nI tc2_79)])), (bg, .inl (cI, 16, .inl gf2_78)), (ho, .inr (0, [vz_0, vz_1, vz_2, .int (nI T), vz_4, vz_5, vz_6, .ref aK, vz_8, vz_9, .ref aH, .ref aU])), (aK, .inl (cI, 6, .inl fK))] H := hP
    have hD : va_D A [(aH, .inl (cI, 6, .inl fH)), (aU, .inl (cI, 6, .inl fU)), (tr, .inr (4, [.ref bg, .int (nI tc2_79)])), (bg, .inl (cI, 16, .inl gf2_78)), (ho, .inr (0, [vz_0, vz_1, vz_2, .int (nI T), vz_4, vz_5, vz_6, .ref aK, vz_8, vz_9, .ref aH, .ref aU])), (aK, .inl (cI, 6, .inl fK))] := hD
    refine lv_iload_n hx hb dX5_begin_219 rfl (lv_at hl 4 rfl) ?_
    refine lv_iload hx hb dX5_begin_220 (lv_at hl 0 rfl) ?_
    refine wt_goI (wr := []) (wt_runSZ (As := [.ref ho, .ref tr, .int r_81, .int (nI j), .int (nI (d + 1))]) (rest := [.int r_75]) ⟨hx, hb, hml, hown, hts⟩ (c_X5_begin_13 l D cI cZ cH _ _ _ ho aK aH aU T j (d + 1) fK fH fU tr bg tc2_79 gf2_78 r_81 vz_0 vz_1 vz_2 vz_4 vz_5 vz_6 vz_8 vz_9 (by first | assumption | omega) (by first | assumption | omega) (by first | assumption | omega) (by first | assumption | omega)) (va_cwS 5 hts gX5_begin_X5_begin rfl rfl rfl (by decide +kernel) ⟨Nat.le_of_ble_eq_true rfl, Nat.le_of_ble_eq_true rfl⟩) hK hP hD [4, 5, 0, 1, 2, 3] rfl (by decide) hZ hS hA rfl hl.1 rfl (Nat.le_of_ble_eq_true rfl) dX5_begin_222 ⟨Nat.le_of_ble_eq_true rfl, Nat.le_of_ble_eq_true rfl⟩) hP hD hS hA [4, 5, 0, 1, 2, 3] [] rfl rfl (by decide) (by decide) (fun r_84 w_85 H locs h_86 hP hD hS => ?_)
    obtain ⟨gf2_87, tc2_88, rfl, x_89⟩ := h_86
    have hP : va_P D vwCl [(ho, .inr (0, [vz_0, vz_1, vz_2, .int (nI T), vz_4, vz_5, vz_6, .ref aK, vz_8, vz_9, .ref aH, .ref aU])), (aK, .inl (cI, 6, .inl fK)), (aH, .inl (cI, 6, .inl fH)), (aU, .inl (cI, 6, .inl fU)), (tr, .inr (4, [.ref bg, .int (nI tc2_88)])), (bg, .inl (cI, 16, .inl gf2_87))] H := hP
    have hD : va_D A [(ho, .inr (0, [vz_0, vz_1, vz_2, .int (nI T), vz_4, vz_5, vz_6, .ref aK, vz_8, vz_9, .ref aH, .ref aU])), (aK, .inl (cI, 6, .inl fK)), (aH, .inl (cI, 6, .inl fH)), (aU, .inl (cI, 6, .inl fU)), (tr, .inr (4, [.ref bg, .int (nI tc2_88)])), (bg, .inl (cI, 16, .inl gf2_87))] := hD
    refine lv_isub hx hb dX5_begin_225 ?_
    refine lv_topi (fun ov_90 _ => ?_)
    have hP9 := hP.sub (ws' := [(ho, .inr (0, [vz_0, vz_1, vz_2, .int (nI T), vz_4, vz_5, vz_6, .ref aK, vz_8, vz_9, .ref aH, .ref aU])), (aK, .inl (cI, 6, .inl fK)), (aH, .inl (cI, 6, .inl fH)), (aU, .inl (cI, 6, .inl fU)), (tr, .inr (4, [.ref bg, .int (nI tc2_88)])), (bg, .inl (cI, 16, .inl gf2_87))]) [0, 1, 2, 3, 4, 5] rfl
    have hD9 := hD.sub (ws' := [(ho, .inr (0, [vz_0, vz_1, vz_2, .int (nI T), vz_4, vz_5, vz_6, .ref aK, vz_8, vz_9, .ref aH, .ref aU])), (aK, .inl (cI, 6, .inl fK)), (aH, .inl (cI, 6, .inl fH)), (aU, .inl (cI, 6, .inl fU)), (tr, .inr (4, [.ref bg, .int (nI tc2_88)])), (bg, .inl (cI, 16, .inl gf2_87))]) [0, 1, 2, 3, 4, 5] (by decide) rfl
    exact wt_iret hx hb hr hlocks hP9 hD9 hS ⟨gf2_87, tc2_88, rfl, (by omega)⟩ dX5_begin_226
  rcases wt_dec (bo) 24 with c_91 | c_91
  · subst c_91
    refine lv_tableIn (off := 206) (tgt := 227) hx hb dX5_begin_21 (by decide) (by decide) rfl (by decide) ?_
    refine lv_aload_n hx hb dX5_begin_227 rfl (lv_at hl 1 rfl) ?_
    refine lv_aload_n hx hb dX5_begin_228 rfl (lv_at hl 2 rfl) ?_
    refine lv_bipush (v := 21) hx hb dX5_begin_229 (by decide) ?_
    refine lv_iload_n hx hb dX5_begin_231 rfl (lv_at hl 4 rfl) ?_
    refine lv_iload hx hb dX5_begin_232 (lv_at hl 0 rfl) ?_
    refine wt_goI (wr := []) (wt_runSZ (As := [.ref ho, .ref tr, .int 21, .int (nI j), .int (nI (d + 1))]) (rest := []) ⟨hx, hb, hml, hown, hts⟩ (c_X5_begin_13 l D cI cZ cH _ _ _ ho aK aH aU T j (d + 1) fK fH fU tr bg tc2_5 gf2_4 21 vz_0 vz_1 vz_2 vz_4 vz_5 vz_6 vz_8 vz_9 (by first | assumption | omega) (by first | assumption | omega) (by first | assumption | omega) (by first | assumption | omega)) (va_cwS 5 hts gX5_begin_X5_begin rfl rfl rfl (by decide +kernel) ⟨Nat.le_of_ble_eq_true rfl, Nat.le_of_ble_eq_true rfl⟩) hK hP hD [0, 1, 2, 3, 4, 5] rfl (by decide) hZ hS hA rfl hl.1 rfl (Nat.le_of_ble_eq_true rfl) dX5_begin_234 ⟨Nat.le_of_ble_eq_true rfl, Nat.le_of_ble_eq_true rfl⟩) hP hD hS hA [0, 1, 2, 3, 4, 5] [] rfl rfl (by decide) (by decide) (fun r_92 w_93 H locs h_94 hP hD hS => ?_)
    obtain ⟨gf2_95, tc2_96, rfl, x_97⟩ := h_94
    have hP : va_P D vwCl [(ho, .inr (0, [vz_0, vz_1, vz_2, .int (nI T), vz_4, vz_5, vz_6, .ref aK, vz_8, vz_9, .ref aH, .ref aU])), (aK, .inl (cI, 6, .inl fK)), (aH, .inl (cI, 6, .inl fH)), (aU, .inl (cI, 6, .inl fU)), (tr, .inr (4, [.ref bg, .int (nI tc2_96)])), (bg, .inl (cI, 16, .inl gf2_95))] H := hP
    have hD : va_D A [(ho, .inr (0, [vz_0, vz_1, vz_2, .int (nI T), vz_4, vz_5, vz_6, .ref aK, vz_8, vz_9, .ref aH, .ref aU])), (aK, .inl (cI, 6, .inl fK)), (aH, .inl (cI, 6, .inl fH)), (aU, .inl (cI, 6, .inl fU)), (tr, .inr (4, [.ref bg, .int (nI tc2_96)])), (bg, .inl (cI, 16, .inl gf2_95))] := hD
    refine lv_iconst (v := 2) hx hb dX5_begin_237 (by decide) ?_
    refine lv_imul hx hb dX5_begin_238 ?_
    refine lv_topi (fun ov_98 _ => ?_)
    have hP9 := hP.sub (ws' := [(ho, .inr (0, [vz_0, vz_1, vz_2, .int (nI T), vz_4, vz_5, vz_6, .ref aK, vz_8, vz_9, .ref aH, .ref aU])), (aK, .inl (cI, 6, .inl fK)), (aH, .inl (cI, 6, .inl fH)), (aU, .inl (cI, 6, .inl fU)), (tr, .inr (4, [.ref bg, .int (nI tc2_96)])), (bg, .inl (cI, 16, .inl gf2_95))]) [0, 1, 2, 3, 4, 5] rfl
    have hD9 := hD.sub (ws' := [(ho, .inr (0, [vz_0, vz_1, vz_2, .int (nI T), vz_4, vz_5, vz_6, .ref aK, vz_8, vz_9, .ref aH, .ref aU])), (aK, .inl (cI, 6, .inl fK)), (aH, .inl (cI, 6, .inl fH)), (aU, .inl (cI, 6, .inl fU)), (tr, .inr (4, [.ref bg, .int (nI tc2_96)])), (bg, .inl (cI, 16, .inl gf2_95))]) [0, 1, 2, 3, 4, 5] (by decide) rfl
    exact wt_iret hx hb hr hlocks hP9 hD9 hS ⟨gf2_95, tc2_96, rfl, (by omega)⟩ dX5_begin_239
  refine lv_tableOut (tgt := 240) hx hb dX5_begin_21 (by have := lv_neT (a := 10) c_8 rfl; have := lv_neT (a := 11) c_10 rfl; have := lv_neT (a := 12) c_27 rfl; have := lv_neT (a := 13) c_35 rfl; have := lv_neT (a := 14) c_43 rfl; have := lv_neT (a := 15) c_51 rfl; have := lv_neT (a := 16) c_52 rfl; have := lv_neT (a := 17) c_53 rfl; have := lv_neT (a := 18) c_54 rfl; have := lv_neT (a := 19) c_55 rfl; have := lv_neT (a := 20) c_56 rfl; have := lv_neT (a := 21) c_57 rfl; have := lv_neT (a := 22) c_66 rfl; have := lv_neT (a := 23) c_74 rfl; have := lv_neT (a := 24) c_91 rfl; omega) (by decide) ?_
  refine lv_iconst (v := 0) hx hb dX5_begin_240 (by decide) ?_
  have hP9 := hP.sub (ws' := [(ho, .inr (0, [vz_0, vz_1, vz_2, .int (nI T), vz_4, vz_5, vz_6, .ref aK, vz_8, vz_9, .ref aH, .ref aU])), (aK, .inl (cI, 6, .inl fK)), (aH, .inl (cI, 6, .inl fH)), (aU, .inl (cI, 6, .inl fU)), (tr, .inr (4, [.ref bg, .int (nI tc2_5)])), (bg, .inl (cI, 16, .inl gf2_4))]) [0, 1, 2, 3, 4, 5] rfl
  have hD9 := hD.sub (ws' := [(ho, .inr (0, [vz_0, vz_1, vz_2, .int (nI T), vz_4, vz_5, vz_6, .ref aK, vz_8, vz_9, .ref aH, .ref aU])), (aK, .inl (cI, 6, .inl fK)), (aH, .inl (cI, 6, .inl fH)), (aU, .inl (cI, 6, .inl fU)), (tr, .inr (4, [.ref bg, .int (nI tc2_5)])), (bg, .inl (cI, 16, .inl gf2_4))]) [0, 1, 2, 3, 4, 5] (by decide) rfl
  exact wt_iret hx hb hr hlocks hP9 hD9 hS ⟨gf2_4, tc2_5, rfl, (by omega)⟩ dX5_begin_241
set_option maxHeartbeats 4000000 in
set_option maxRecDepth 100000 in
theorem c_X5_begin_15 (l : Launch) (D : va_G) (cI cZ cH : ClassId) (ab sb mb : Nat) (ho aK aH aU : Nat) (T j d : Nat) (fK fH fU : Nat → Int32) (tr bg : Nat) (tc : Nat) (gf : Nat → Int32) (bo : Int32) (vz_0 vz_1 vz_2 vz_4 vz_5 vz_6 vz_8 vz_9 : Value) (hT6 : T ≤ 6) (hjT : j < T) (hd : d + 15 = 16) (htc : tc ≤ 16) : wt_MZ (wt_ZS ab sb mb abF sbF mbF) l yX5_begin wsX5_begin ({ frames := 16, cells := 0, slots := 0, locals := 394 } : Room) D (wt_T cI cZ cH) [.ref ho, .ref tr, .int bo, .int (nI j), .int (nI d)] [(ho, .inr (0, [vz_0, vz_1, vz_2, .int (nI T), vz_4, vz_5, vz_6, .ref aK, vz_8, vz_9, .ref aH, .ref aU])), (aK, .inl (cI, 6, .inl fK)), (aH, .inl (cI, 6, .inl fH)), (aU, .inl (cI, 6, .inl fU)), (tr, .inr (4, [.ref bg, .int (nI tc)])), (bg, .inl (cI, 16, .inl gf))] (wt_QI D (fun r w => ∃ (gf2 : Nat → Int32) (tc2 : Nat), w = [(ho, .inr (0, [vz_0, vz_1, vz_2, .int (nI T), vz_4, vz_5, vz_6, .ref aK, vz_8, vz_9, .ref aH, .ref aU])), (aK, .inl (cI, 6, .inl fK)), (aH, .inl (cI, 6, .inl fH)), (aU, .inl (cI, 6, .inl fU)), (tr, .inr (4, [.ref bg, .int (nI tc2)])), (bg, .inl (cI, 16, .inl gf2))] ∧ tc2 ≤ 16)) := by
  refine wt_MZ.ofW (cc := cX5_begin) (maxL := 6) (ret := (some .int)) (by decide) rfl (Nat.le_of_ble_eq_true rfl) ?_
  intro p e s m below meth c A ls hx hb hr hts hown hlocks hml hnm hP hK hD hA hS hl hZ
  have hP : va_P D vwCl [(ho, .inr (0, [vz_0, vz_1, vz_2, .int (nI T), vz_4, vz_5, vz_6, .ref aK, vz_8, vz_9, .ref aH, .ref aU])), (aK, .inl (cI, 6, .inl fK)), (aH, .inl (cI, 6, .inl fH)), (aU, .inl (cI, 6, .inl fU)), (tr, .inr (4, [.ref bg, .int (nI tc)])), (bg, .inl (cI, 16, .inl gf))] s.heap := hP
  have hown : s.vm.findClass RX5 = some m.cls := hown
  have hl : lv_has ls 6 [(0, .ref ho), (1, .ref tr), (2, .int bo), (3, .int (nI j)), (4, .int (nI d))] := hl
  have hi0 : ∀ w ∈ u_ws RX0 TX0 12, w ∈ wsX5_begin := by decide +kernel
  have wf175 := hts (.fieldLink RX5 175 "WarmTubes$House" "up" "[I") (by decide +kernel)
  have wf196 := hts (.fieldLink RX5 196 "WarmTubes$House" "holds" "[I") (by decide +kernel)
  refine lv_iload hx hb dX5_begin_0 (lv_at hl 4 rfl) ?_
  refine lv_bipush (v := 16) hx hb dX5_begin_2 (by decide) ?_
  refine lv_icmp_lt (tgt := 9) hx hb dX5_begin_4 (by decide) (fun _ => ?_) (fun h => absurd (nI_lt (a := d) (b := 16) (by omega) (by omega)) h)
  refine lv_aload_n hx hb dX5_begin_9 rfl (lv_at hl 1 rfl) ?_
  refine lv_iload_n hx hb dX5_begin_10 rfl (lv_at hl 2 rfl) ?_
  refine wt_goV (wr := [(ho, .inr (0, [vz_0, vz_1, vz_2, .int (nI T), vz_4, vz_5, vz_6, .ref aK, vz_8, vz_9, .ref aH, .ref aU])), (aK, .inl (cI, 6, .inl fK)), (aH, .inl (cI, 6, .inl fH)), (aU, .inl (cI, 6, .inl fU))]) (wt_runV (As := [.int bo]) (rest := []) ⟨hx, hb, hml, hown, hts⟩ (c_X4_leave l D cI cZ cH tr bg tc gf bo (by first | assumption | omega)) (cwV 1 hts gX5_begin_X4_leave rfl rfl rfl (by decide +kernel) ⟨Nat.le_of_ble_eq_true rfl, Nat.le_of_ble_eq_true rfl⟩) hK hP hD [4, 5] rfl (by decide) (va_recv hK.1 hP (ci := 4) (q0 := 4) rfl rfl) rfl hl.1 rfl (Nat.le_of_ble_eq_true rfl) dX5_begin_11 ⟨Nat.le_of_ble_eq_true rfl, Nat.le_of_ble_eq_true rfl⟩) hP hD hS hA [4, 5] [0, 1, 2, 3] rfl rfl (by decide) (by decide) (fun w_2 H locs h_3 hP hD hS => ?_)
  obtain ⟨gf2_4, tc2_5, rfl, x_6⟩ := h_3
  have hP : va_P D vwCl [(ho, .inr (0, [vz_0, vz_1, vz_2, .int (nI T), vz_4, vz_5, vz_6, .ref aK, vz_8, vz_9, .ref aH, .ref aU])), (aK, .inl (cI, 6, .inl fK)), (aH, .inl (cI, 6, .inl fH)), (aU, .inl (cI, 6, .inl fU)), (tr, .inr (4, [.ref bg, .int (nI tc2_5)])), (bg, .inl (cI, 16, .inl gf2_4))] H := hP
  have hD : va_D A [(ho, .inr (0, [vz_0, vz_1, vz_2, .int (nI T), vz_4, vz_5, vz_6, .ref aK, vz_8, vz_9, .ref aH, .ref aU])), (aK, .inl (cI, 6, .inl fK)), (aH, .inl (cI, 6, .inl fH)), (aU, .inl (cI, 6, .inl fU)), (tr, .inr (4, [.ref bg, .int (nI tc2_5)])), (bg, .inl (cI, 16, .inl gf2_4))] := hD
  refine lv_iload hx hb dX5_begin_14 (lv_at hl 4 rfl) ?_
  refine lv_iconst (v := 1) hx hb dX5_begin_16 (by decide) ?_
  refine lv_iadd hx hb dX5_begin_17 ?_
  refine wt_top (z := nI (d + 1)) (nI_add d 1) ?_
  refine lv_istore (lv' := [(5, .int (nI (d + 1))), (0, .ref ho), (1, .ref tr), (2, .int bo), (3, .int (nI j)), (4, .int (nI d))]) hx hb dX5_begin_18 hl (by decide) rfl (fun ls hl => ?_)
  refine lv_iload_n hx hb dX5_begin_20 rfl (lv_at hl 3 rfl) ?_
  rcases wt_dec (bo) 10 with c_8 | c_8
  · subst c_8
    refine lv_tableIn (off := 75) (tgt := 96) hx hb dX5_begin_21 (by decide) (by decide) rfl (by decide) ?_
    refine lv_aload_n hx hb dX5_begin_96 rfl (lv_at hl 1 rfl) ?_
    refine va_get (D := D) (ci := 0) (v := .ref aH) (C := RX0) (T := TX0) (N := 12) hx hb hts hi0 hown hK.1 hP 0 rfl rfl 10 (by decide) wf196 (fun _ h9 => h9) rfl dX5_begin_97 ?_
    refine lv_iload_n hx hb dX5_begin_100 rfl (lv_at hl 4 rfl) ?_
    refine va_iald hx hb hK.1 hP 2 0 rfl rfl (vp_in_nI (by omega) (by omega)) dX5_begin_101 ?_
    refine lv_topi (fun ov_9 _ => ?_)
    have hP9 := hP.sub (ws' := [(ho, .inr (0, [vz_0, vz_1, vz_2, .int (nI T), vz_4, vz_5, vz_6, .ref aK, vz_8, vz_9, .ref aH, .ref aU])), (aK, .inl (cI, 6, .inl fK)), (aH, .inl (cI, 6, .inl fH)), (aU, .inl (cI, 6, .inl fU)), (tr, .inr (4, [.ref bg, .int (nI tc2_5)])), (bg, .inl (cI, 16, .inl gf2_4))]) [0, 1, 2, 3, 4, 5] rfl
    have hD9 := hD.sub (ws' := [(ho, .inr (0, [vz_0, vz_1, vz_2, .int (nI T), vz_4, vz_5, vz_6, .ref aK, vz_8, vz_9, .ref aH, .ref aU])), (aK, .inl (cI, 6, .inl fK)), (aH, .inl (cI, 6, .inl fH)), (aU, .inl (cI, 6, .inl fU)), (tr, .inr (4, [.ref bg, .int (nI tc2_5)])), (bg, .inl (cI, 16, .inl gf2_4))]) [0, 1, 2, 3, 4, 5] (by decide) rfl
    exact wt_iret hx hb hr hlocks hP9 hD9 hS ⟨gf2_4, tc2_5, rfl, (by omega)⟩ dX5_begin_102
  rcases wt_dec (bo) 11 with c_10 | c_10
  · subst c_10
    refine lv_tableIn (off := 82) (tgt := 103) hx hb dX5_begin_21 (by decide) (by decide) rfl (by decide) ?_
    refine lv_aload_n hx hb dX5_begin_103 rfl (lv_at hl 1 rfl) ?_
    refine lv_aload_n hx hb dX5_begin_104 rfl (lv_at hl 2 rfl) ?_
    refine lv_bipush (v := 10) hx hb dX5_begin_105 (by decide) ?_
    refine lv_iload_n hx hb dX5_begin_107 rfl (lv_at hl 4 rfl) ?_
    refine lv_iload hx hb dX5_begin_108 (lv_at hl 0 rfl) ?_
    refine wt_goI (wr := []) (wt_runSZ (As := [.ref ho, .ref tr, .int 10, .int (nI j), .int (nI (d + 1))]) (rest := []) ⟨hx, hb, hml, hown, hts⟩ (c_X5_begin_14 l D cI cZ cH _ _ _ ho aK aH aU T j (d + 1) fK fH fU tr bg tc2_5 gf2_4 10 vz_0 vz_1 vz_2 vz_4 vz_5 vz_6 vz_8 vz_9 (by first | assumption | omega) (by first | assumption | omega) (by first | assumption | omega) (by first | assumption | omega)) (va_cwS 5 hts gX5_begin_X5_begin rfl rfl rfl (by decide +kernel) ⟨Nat.le_of_ble_eq_true rfl, Nat.le_of_ble_eq_true rfl⟩) hK hP hD [0, 1, 2, 3, 4, 5] rfl (by decide) hZ hS hA rfl hl.1 rfl (Nat.le_of_ble_eq_true rfl) dX5_begin_110 ⟨Nat.le_of_ble_eq_true rfl, Nat.le_of_ble_eq_true rfl⟩) hP hD hS hA [0, 1, 2, 3, 4, 5] [] rfl rfl (by decide) (by decide) (fun r_11 w_12 H locs h_13 hP hD hS => ?_)
    obtain ⟨gf2_14, tc2_15, rfl, x_16⟩ := h_13
    have hP : va_P D vwCl [(ho, .inr (0, [vz_0, vz_1, vz_2, .int (nI T), vz_4, vz_5, vz_6, .ref aK, vz_8, vz_9, .ref aH, .ref aU])), (aK, .inl (cI, 6, .inl fK)), (aH, .inl (cI, 6, .inl fH)), (aU, .inl (cI, 6, .inl fU)), (tr, .inr (4, [.ref bg, .int (nI tc2_15)])), (bg, .inl (cI, 16, .inl gf2_14))] H := hP
    have hD : va_D A [(ho, .inr (0, [vz_0, vz_1, vz_2, .int (nI T), vz_4, vz_5, vz_6, .ref aK, vz_8, vz_9, .ref aH, .ref aU])), (aK, .inl (cI, 6, .inl fK)), (aH, .inl (cI, 6, .inl fH)), (aU, .inl (cI, 6, .inl fU)), (tr, .inr (4, [.ref bg, .int (nI tc2_15)])), (bg, .inl (cI, 16, .inl gf2_14))] := hD
    refine lv_aload_n hx hb dX5_begin_113 rfl (lv_at hl 1 rfl) ?_
    refine lv_aload_n hx hb dX5_begin_114 rfl (lv_at hl 2 rfl) ?_
    refine lv_aload_n hx hb dX5_begin_115 rfl (lv_at hl 1 rfl) ?_
    refine lv_iload_n hx hb dX5_begin_116 rfl (lv_at hl 4 rfl) ?_
    refine wt_goI (wr := [(aH, .inl (cI, 6, .inl fH)), (aU, .inl (cI, 6, .inl fU)), (tr, .inr (4, [.ref bg, .int (nI tc2_15)])), (bg, .inl (cI, 16, .inl gf2_14))]) (wt_runSZ (As := [.ref ho, .int (nI j)]) (rest := [.ref tr, .ref ho, .int r_11]) ⟨hx, hb, hml, hown, hts⟩ (c_X5_markBody l D cI cZ cH _ _ _ ho aK T j fK vz_0 vz_1 vz_2 vz_4 vz_5 vz_6 vz_8 vz_9 (.ref aH) (.ref aU) (by first | assumption | omega) (by first | assumption | omega)) (va_cwS 2 hts gX5_begin_X5_markBody rfl rfl rfl (by decide +kernel) ⟨Nat.le_of_ble_eq_true rfl, Nat.le_of_ble_eq_true rfl⟩) hK hP hD [0, 1] rfl (by decide) hZ hS hA rfl hl.1 rfl (Nat.le_of_ble_eq_true rfl) dX5_begin_117 ⟨Nat.le_of_ble_eq_true rfl, Nat.le_of_ble_eq_true rfl⟩) hP hD hS hA [0, 1] [2, 3, 4, 5] rfl rfl (by decide) (by decide) (fun r_17 w_18 H locs h_19 hP hD hS => ?_)
    obtain rfl := h_19
    have hP : va_P D vwCl [(aH, .inl (cI, 6, .inl fH)), (aU, .inl (cI, 6, .inl fU)), (tr, .inr (4, [.ref bg, .int (nI tc2_15)])), (bg, .inl (cI, 16, .inl gf2_14)), (ho, .inr (0, [vz_0, vz_1, vz_2, .int (nI T), vz_4, vz_5, vz_6, .ref aK, vz_8, vz_9, .ref aH, .ref aU])), (aK, .inl (cI, 6, .inl fK))] H := hP
    have hD : va_D A [(aH, .inl (cI, 6, .inl fH)), (aU, .inl (cI, 6, .inl fU)), (tr, .inr (4, [.ref bg, .int (nI tc2_15)])), (bg, .inl (cI, 16, .inl gf2_14)), (ho, .inr (0, [vz_0, vz_1, vz_2, .int (nI T), vz_4, vz_5, vz_6, .ref aK, vz_8, vz_9, .ref aH, .ref aU])), (aK, .inl (cI, 6, .inl fK))] := hD
    refine lv_iload_n hx hb dX5_begin_120 rfl (lv_at hl 4 rfl) ?_
    refine lv_iload hx hb dX5_begin_121 (lv_at hl 0 rfl) ?_
    refine wt_goI (wr := []) (wt_runSZ (As := [.ref ho, .ref tr, .int r_17, .int (nI j), .int (nI (d + 1))]) (rest := [.int r_11]) ⟨hx, hb, hml, hown, hts⟩ (c_X5_begin_14 l D cI cZ cH _ _ _ ho aK aH aU T j (d + 1) fK fH fU tr bg tc2_15 gf2_14 r_17 vz_0 vz_1 vz_2 vz_4 vz_5 vz_6 vz_8 vz_9 (by first | assumption | omega) (by first | assumption | omega) (by first | assumption | omega) (by first | assumption | omega)) (va_cwS 5 hts gX5_begin_X5_begin rfl rfl rfl (by decide +kernel) ⟨Nat.le_of_ble_eq_true rfl, Nat.le_of_ble_eq_true rfl⟩) hK hP hD [4, 5, 0, 1, 2, 3] rfl (by decide) hZ hS hA rfl hl.1 rfl (Nat.le_of_ble_eq_true rfl) dX5_begin_123 ⟨Nat.le_of_ble_eq_true rfl, Nat.le_of_ble_eq_true rfl⟩) hP hD hS hA [4, 5, 0, 1, 2, 3] [] rfl rfl (by decide) (by decide) (fun r_20 w_21 H locs h_22 hP hD hS => ?_)
    obtain ⟨gf2_23, tc2_24, rfl, x_25⟩ := h_22
    have hP : va_P D vwCl [(ho, .inr (0, [vz_0, vz_1, vz_2, .int (nI T), vz_4, vz_5, vz_6, .ref aK, vz_8, vz_9, .ref aH, .ref aU])), (aK, .inl (cI, 6, .inl fK)), (aH, .inl (cI, 6, .inl fH)), (aU, .inl (cI, 6, .inl fU)), (tr, .inr (4, [.ref bg, .int (nI tc2_24)])), (bg, .inl (cI, 16, .inl gf2_23))] H := hP
    have hD : va_D A [(ho, .inr (0, [vz_0, vz_1, vz_2, .int (nI T), vz_4, vz_5, vz_6, .ref aK, vz_8, vz_9, .ref aH, .ref aU])), (aK, .inl (cI, 6, .inl fK)), (aH, .inl (cI, 6, .inl fH)), (aU, .inl (cI, 6, .inl fU)), (tr, .inr (4, [.ref bg, .int (nI tc2_24)])), (bg, .inl (cI, 16, .inl gf2_23))] := hD
    refine lv_iadd hx hb dX5_begin_126 ?_
    refine lv_topi (fun ov_26 _ => ?_)
    have hP9 := hP.sub (ws' := [(ho, .inr (0, [vz_0, vz_1, vz_2, .int (nI T), vz_4, vz_5, vz_6, .ref aK, vz_8, vz_9, .ref aH, .ref aU])), (aK, .inl (cI, 6, .inl fK)), (aH, .inl (cI, 6, .inl fH)), (aU, .inl (cI, 6, .inl fU)), (tr, .inr (4, [.ref bg, .int (nI tc2_24)])), (bg, .inl (cI, 16, .inl gf2_23))]) [0, 1, 2, 3, 4, 5] rfl
    have hD9 := hD.sub (ws' := [(ho, .inr (0, [vz_0, vz_1, vz_2, .int (nI T), vz_4, vz_5, vz_6, .ref aK, vz_8, vz_9, .ref aH, .ref aU])), (aK, .inl (cI, 6, .inl fK)), (aH, .inl (cI, 6, .inl fH)), (aU, .inl (cI, 6, .inl fU)), (tr, .inr (4, [.ref bg, .int (nI tc2_24)])), (bg, .inl (cI, 16, .inl gf2_23))]) [0, 1, 2, 3, 4, 5] (by decide) rfl
    exact wt_iret hx hb hr hlocks hP9 hD9 hS ⟨gf2_23, tc2_24, rfl, (by omega)⟩ dX5_begin_127
  rcases wt_dec (bo) 12 with c_27 | c_27
  · subst c_27
    refine lv_tableIn (off := 107) (tgt := 128) hx hb dX5_begin_21 (by decide) (by decide) rfl (by decide) ?_
    refine lv_aload_n hx hb dX5_begin_128 rfl (lv_at hl 1 rfl) ?_
    refine lv_aload_n hx hb dX5_begin_129 rfl (lv_at hl 2 rfl) ?_
    refine lv_bipush (v := 11) hx hb dX5_begin_130 (by decide) ?_
    refine lv_iload_n hx hb dX5_begin_132 rfl (lv_at hl 4 rfl) ?_
    refine lv_iload hx hb dX5_begin_133 (lv_at hl 0 rfl) ?_
    refine wt_goI (wr := []) (wt_runSZ (As := [.ref ho, .ref tr, .int 11, .int (nI j), .int (nI (d + 1))]) (rest := []) ⟨hx, hb, hml, hown, hts⟩ (c_X5_begin_14 l D cI cZ cH _ _ _ ho aK aH aU T j (d + 1) fK fH fU tr bg tc2_5 gf2_4 11 vz_0 vz_1 vz_2 vz_4 vz_5 vz_6 vz_8 vz_9 (by first | assumption | omega) (by first | assumption | omega) (by first | assumption | omega) (by first | assumption | omega)) (va_cwS 5 hts gX5_begin_X5_begin rfl rfl rfl (by decide +kernel) ⟨Nat.le_of_ble_eq_true rfl, Nat.le_of_ble_eq_true rfl⟩) hK hP hD [0, 1, 2, 3, 4, 5] rfl (by decide) hZ hS hA rfl hl.1 rfl (Nat.le_of_ble_eq_true rfl) dX5_begin_135 ⟨Nat.le_of_ble_eq_true rfl, Nat.le_of_ble_eq_true rfl⟩) hP hD hS hA [0, 1, 2, 3, 4, 5] [] rfl rfl (by decide) (by decide) (fun r_28 w_29 H locs h_30 hP hD hS => ?_)
    obtain ⟨gf2_31, tc2_32, rfl, x_33⟩ := h_30
    have hP : va_P D vwCl [(ho, .inr (0, [vz_0, vz_1, vz_2, .int (nI T), vz_4, vz_5, vz_6, .ref aK, vz_8, vz_9, .ref aH, .ref aU])), (aK, .inl (cI, 6, .inl fK)), (aH, .inl (cI, 6, .inl fH)), (aU, .inl (cI, 6, .inl fU)), (tr, .inr (4, [.ref bg, .int (nI tc2_32)])), (bg, .inl (cI, 16, .inl gf2_31))] H := hP
    have hD : va_D A [(ho, .inr (0, [vz_0, vz_1, vz_2, .int (nI T), vz_4, vz_5, vz_6, .ref aK, vz_8, vz_9, .ref aH, .ref aU])), (aK, .inl (cI, 6, .inl fK)), (aH, .inl (cI, 6, .inl fH)), (aU, .inl (cI, 6, .inl fU)), (tr, .inr (4, [.ref bg, .int (nI tc2_32)])), (bg, .inl (cI, 16, .inl gf2_31))] := hD
    refine lv_ineg hx hb dX5_begin_138 ?_
    refine lv_topi (fun ov_34 _ => ?_)
    have hP9 := hP.sub (ws' := [(ho, .inr (0, [vz_0, vz_1, vz_2, .int (nI T), vz_4, vz_5, vz_6, .ref aK, vz_8, vz_9, .ref aH, .ref aU])), (aK, .inl (cI, 6, .inl fK)), (aH, .inl (cI, 6, .inl fH)), (aU, .inl (cI, 6, .inl fU)), (tr, .inr (4, [.ref bg, .int (nI tc2_32)])), (bg, .inl (cI, 16, .inl gf2_31))]) [0, 1, 2, 3, 4, 5] rfl
    have hD9 := hD.sub (ws' := [(ho, .inr (0, [vz_0, vz_1, vz_2, .int (nI T), vz_4, vz_5, vz_6, .ref aK, vz_8, vz_9, .ref aH, .ref aU])), (aK, .inl (cI, 6, .inl fK)), (aH, .inl (cI, 6, .inl fH)), (aU, .inl (cI, 6, .inl fU)), (tr, .inr (4, [.ref bg, .int (nI tc2_32)])), (bg, .inl (cI, 16, .inl gf2_31))]) [0, 1, 2, 3, 4, 5] (by decide) rfl
    exact wt_iret hx hb hr hlocks hP9 hD9 hS ⟨gf2_31, tc2_32, rfl, (by omega)⟩ dX5_begin_139
  rcases wt_dec (bo) 13 with c_35 | c_35
  · subst c_35
    refine lv_tableIn (off := 119) (tgt := 140) hx hb dX5_begin_21 (by decide) (by decide) rfl (by decide) ?_
    refine lv_aload_n hx hb dX5_begin_140 rfl (lv_at hl 1 rfl) ?_
    refine lv_aload_n hx hb dX5_begin_141 rfl (lv_at hl 2 rfl) ?_
    refine lv_bipush (v := 10) hx hb dX5_begin_142 (by decide) ?_
    refine lv_iload_n hx hb dX5_begin_144 rfl (lv_at hl 4 rfl) ?_
    refine lv_iload hx hb dX5_begin_145 (lv_at hl 0 rfl) ?_
    refine wt_goI (wr := []) (wt_runSZ (As := [.ref ho, .ref tr, .int 10, .int (nI j), .int (nI (d + 1))]) (rest := []) ⟨hx, hb, hml, hown, hts⟩ (c_X5_begin_14 l D cI cZ cH _ _ _ ho aK aH aU T j (d + 1) fK fH fU tr bg tc2_5 gf2_4 10 vz_0 vz_1 vz_2 vz_4 vz_5 vz_6 vz_8 vz_9 (by first | assumption | omega) (by first | assumption | omega) (by first | assumption | omega) (by first | assumption | omega)) (va_cwS 5 hts gX5_begin_X5_begin rfl rfl rfl (by decide +kernel) ⟨Nat.le_of_ble_eq_true rfl, Nat.le_of_ble_eq_true rfl⟩) hK hP hD [0, 1, 2, 3, 4, 5] rfl (by decide) hZ hS hA rfl hl.1 rfl (Nat.le_of_ble_eq_true rfl) dX5_begin_147 ⟨Nat.le_of_ble_eq_true rfl, Nat.le_of_ble_eq_true rfl⟩) hP hD hS hA [0, 1, 2, 3, 4, 5] [] rfl rfl (by decide) (by decide) (fun r_36 w_37 H locs h_38 hP hD hS => ?_)
    obtain ⟨gf2_39, tc2_40, rfl, x_41⟩ := h_38
    have hP : va_P D vwCl [(ho, .inr (0, [vz_0, vz_1, vz_2, .int (nI T), vz_4, vz_5, vz_6, .ref aK, vz_8, vz_9, .ref aH, .ref aU])), (aK, .inl (cI, 6, .inl fK)), (aH, .inl (cI, 6, .inl fH)), (aU, .inl (cI, 6, .inl fU)), (tr, .inr (4, [.ref bg, .int (nI tc2_40)])), (bg, .inl (cI, 16, .inl gf2_39))] H := hP
    have hD : va_D A [(ho, .inr (0, [vz_0, vz_1, vz_2, .int (nI T), vz_4, vz_5, vz_6, .ref aK, vz_8, vz_9, .ref aH, .ref aU])), (aK, .inl (cI, 6, .inl fK)), (aH, .inl (cI, 6, .inl fH)), (aU, .inl (cI, 6, .inl fU)), (tr, .inr (4, [.ref bg, .int (nI tc2_40)])), (bg, .inl (cI, 16, .inl gf2_39))] := hD
    refine lv_bipush (v := 100) hx hb dX5_begin_150 (by decide) ?_
    refine lv_isub hx hb dX5_begin_152 ?_
    refine lv_topi (fun ov_42 _ => ?_)
    have hP9 := hP.sub (ws' := [(ho, .inr (0, [vz_0, vz_1, vz_2, .int (nI T), vz_4, vz_5, vz_6, .ref aK, vz_8, vz_9, .ref aH, .ref aU])), (aK, .inl (cI, 6, .inl fK)), (aH, .inl (cI, 6, .inl fH)), (aU, .inl (cI, 6, .inl fU)), (tr, .inr (4, [.ref bg, .int (nI tc2_40)])), (bg, .inl (cI, 16, .inl gf2_39))]) [0, 1, 2, 3, 4, 5] rfl
    have hD9 := hD.sub (ws' := [(ho, .inr (0, [vz_0, vz_1, vz_2, .int (nI T), vz_4, vz_5, vz_6, .ref aK, vz_8, vz_9, .ref aH, .ref aU])), (aK, .inl (cI, 6, .inl fK)), (aH, .inl (cI, 6, .inl fH)), (aU, .inl (cI, 6, .inl fU)), (tr, .inr (4, [.ref bg, .int (nI tc2_40)])), (bg, .inl (cI, 16, .inl gf2_39))]) [0, 1, 2, 3, 4, 5] (by decide) rfl
    exact wt_iret hx hb hr hlocks hP9 hD9 hS ⟨gf2_39, tc2_40, rfl, (by omega)⟩ dX5_begin_153
  rcases wt_dec (bo) 14 with c_43 | c_43
  · subst c_43
    refine lv_tableIn (off := 133) (tgt := 154) hx hb dX5_begin_21 (by decide) (by decide) rfl (by decide) ?_
    refine lv_aload_n hx hb dX5_begin_154 rfl (lv_at hl 1 rfl) ?_
    refine lv_aload_n hx hb dX5_begin_155 rfl (lv_at hl 2 rfl) ?_
    refine lv_bipush (v := 13) hx hb dX5_begin_156 (by decide) ?_
    refine lv_iload_n hx hb dX5_begin_158 rfl (lv_at hl 4 rfl) ?_
    refine lv_iload hx hb dX5_begin_159 (lv_at hl 0 rfl) ?_
    refine wt_goI (wr := []) (wt_runSZ (As := [.ref ho, .ref tr, .int 13, .int (nI j), .int (nI (d + 1))]) (rest := []) ⟨hx, hb, hml, hown, hts⟩ (c_X5_begin_14 l D cI cZ cH _ _ _ ho aK aH aU T j (d + 1) fK fH fU tr bg tc2_5 gf2_4 13 vz_0 vz_1 vz_2 vz_4 vz_5 vz_6 vz_8 vz_9 (by first | assumption | omega) (by first | assumption | omega) (by first | assumption | omega) (by first | assumption | omega)) (va_cwS 5 hts gX5_begin_X5_begin rfl rfl rfl (by decide +kernel) ⟨Nat.le_of_ble_eq_true rfl, Nat.le_of_ble_eq_true rfl⟩) hK hP hD [0, 1, 2, 3, 4, 5] rfl (by decide) hZ hS hA rfl hl.1 rfl (Nat.le_of_ble_eq_true rfl) dX5_begin_161 ⟨Nat.le_of_ble_eq_true rfl, Nat.le_of_ble_eq_true rfl⟩) hP hD hS hA [0, 1, 2, 3, 4, 5] [] rfl rfl (by decide) (by decide) (fun r_44 w_45 H locs h_46 hP hD hS => ?_)
    obtain ⟨gf2_47, tc2_48, rfl, x_49⟩ := h_46
    have hP : va_P D vwCl [(ho, .inr (0, [vz_0, vz_1, vz_2, .int (nI T), vz_4, vz_5, vz_6, .ref aK, vz_8, vz_9, .ref aH, .ref aU])), (aK, .inl (cI, 6, .inl fK)), (aH, .inl (cI, 6, .inl fH)), (aU, .inl (cI, 6, .inl fU)), (tr, .inr (4, [.ref bg, .int (nI tc2_48)])), (bg, .inl (cI, 16, .inl gf2_47))] H := hP
    have hD : va_D A [(ho, .inr (0, [vz_0, vz_1, vz_2, .int (nI T), vz_4, vz_5, vz_6, .ref aK, vz_8, vz_9, .ref aH, .ref aU])), (aK, .inl (cI, 6, .inl fK)), (aH, .inl (cI, 6, .inl fH)), (aU, .inl (cI, 6, .inl fU)), (tr, .inr (4, [.ref bg, .int (nI tc2_48)])), (bg, .inl (cI, 16, .inl gf2_47))] := hD
    refine lv_iconst (v := 2) hx hb dX5_begin_164 (by decide) ?_
    refine lv_imul hx hb dX5_begin_165 ?_
    refine lv_topi (fun ov_50 _ => ?_)
    have hP9 := hP.sub (ws' := [(ho, .inr (0, [vz_0, vz_1, vz_2, .int (nI T), vz_4, vz_5, vz_6, .ref aK, vz_8, vz_9, .ref aH, .ref aU])), (aK, .inl (cI, 6, .inl fK)), (aH, .inl (cI, 6, .inl fH)), (aU, .inl (cI, 6, .inl fU)), (tr, .inr (4, [.ref bg, .int (nI tc2_48)])), (bg, .inl (cI, 16, .inl gf2_47))]) [0, 1, 2, 3, 4, 5] rfl
    have hD9 := hD.sub (ws' := [(ho, .inr (0, [vz_0, vz_1, vz_2, .int (nI T), vz_4, vz_5, vz_6, .ref aK, vz_8, vz_9, .ref aH, .ref aU])), (aK, .inl (cI, 6, .inl fK)), (aH, .inl (cI, 6, .inl fH)), (aU, .inl (cI, 6, .inl fU)), (tr, .inr (4, [.ref bg, .int (nI tc2_48)])), (bg, .inl (cI, 16, .inl gf2_47))]) [0, 1, 2, 3, 4, 5] (by decide) rfl
    exact wt_iret hx hb hr hlocks hP9 hD9 hS ⟨gf2_47, tc2_48, rfl, (by omega)⟩ dX5_begin_166
  rcases wt_dec (bo) 15 with c_51 | c_51
  · subst c_51
    refine lv_tableIn (off := 219) (tgt := 240) hx hb dX5_begin_21 (by decide) (by decide) rfl (by decide) ?_
    refine lv_iconst (v := 0) hx hb dX5_begin_240 (by decide) ?_
    have hP9 := hP.sub (ws' := [(ho, .inr (0, [vz_0, vz_1, vz_2, .int (nI T), vz_4, vz_5, vz_6, .ref aK, vz_8, vz_9, .ref aH, .ref aU])), (aK, .inl (cI, 6, .inl fK)), (aH, .inl (cI, 6, .inl fH)), (aU, .inl (cI, 6, .inl fU)), (tr, .inr (4, [.ref bg, .int (nI tc2_5)])), (bg, .inl (cI, 16, .inl gf2_4))]) [0, 1, 2, 3, 4, 5] rfl
    have hD9 := hD.sub (ws' := [(ho, .inr (0, [vz_0, vz_1, vz_2, .int (nI T), vz_4, vz_5, vz_6, .ref aK, vz_8, vz_9, .ref aH, .ref aU])), (aK, .inl (cI, 6, .inl fK)), (aH, .inl (cI, 6, .inl fH)), (aU, .inl (cI, 6, .inl fU)), (tr, .inr (4, [.ref bg, .int (nI tc2_5)])), (bg, .inl (cI, 16, .inl gf2_4))]) [0, 1, 2, 3, 4, 5] (by decide) rfl
    exact wt_iret hx hb hr hlocks hP9 hD9 hS ⟨gf2_4, tc2_5, rfl, (by omega)⟩ dX5_begin_241
  rcases wt_dec (bo) 16 with c_52 | c_52
  · subst c_52
    refine lv_tableIn (off := 219) (tgt := 240) hx hb dX5_begin_21 (by decide) (by decide) rfl (by decide) ?_
    refine lv_iconst (v := 0) hx hb dX5_begin_240 (by decide) ?_
    have hP9 := hP.sub (ws' := [(ho, .inr (0, [vz_0, vz_1, vz_2, .int (nI T), vz_4, vz_5, vz_6, .ref aK, vz_8, vz_9, .ref aH, .ref aU])), (aK, .inl (cI, 6, .inl fK)), (aH, .inl (cI, 6, .inl fH)), (aU, .inl (cI, 6, .inl fU)), (tr, .inr (4, [.ref bg, .int (nI tc2_5)])), (bg, .inl (cI, 16, .inl gf2_4))]) [0, 1, 2, 3, 4, 5] rfl
    have hD9 := hD.sub (ws' := [(ho, .inr (0, [vz_0, vz_1, vz_2, .int (nI T), vz_4, vz_5, vz_6, .ref aK, vz_8, vz_9, .ref aH, .ref aU])), (aK, .inl (cI, 6, .inl fK)), (aH, .inl (cI, 6, .inl fH)), (aU, .inl (cI, 6, .inl fU)), (tr, .inr (4, [.ref bg, .int (nI tc2_5)])), (bg, .inl (cI, 16, .inl gf2_4))]) [0, 1, 2, 3, 4, 5] (by decide) rfl
    exact wt_iret hx hb hr hlocks hP9 hD9 hS ⟨gf2_4, tc2_5, rfl, (by omega)⟩ dX5_begin_241
  rcases wt_dec (bo) 17 with c_53 | c_53
  · subst c_53
    refine lv_tableIn (off := 219) (tgt := 240) hx hb dX5_begin_21 (by decide) (by decide) rfl (by decide) ?_
    refine lv_iconst (v := 0) hx hb dX5_begin_240 (by decide) ?_
    have hP9 := hP.sub (ws' := [(ho, .inr (0, [vz_0, vz_1, vz_2, .int (nI T), vz_4, vz_5, vz_6, .ref aK, vz_8, vz_9, .ref aH, .ref aU])), (aK, .inl (cI, 6, .inl fK)), (aH, .inl (cI, 6, .inl fH)), (aU, .inl (cI, 6, .inl fU)), (tr, .inr (4, [.ref bg, .int (nI tc2_5)])), (bg, .inl (cI, 16, .inl gf2_4))]) [0, 1, 2, 3, 4, 5] rfl
    have hD9 := hD.sub (ws' := [(ho, .inr (0, [vz_0, vz_1, vz_2, .int (nI T), vz_4, vz_5, vz_6, .ref aK, vz_8, vz_9, .ref aH, .ref aU])), (aK, .inl (cI, 6, .inl fK)), (aH, .inl (cI, 6, .inl fH)), (aU, .inl (cI, 6, .inl fU)), (tr, .inr (4, [.ref bg, .int (nI tc2_5)])), (bg, .inl (cI, 16, .inl gf2_4))]) [0, 1, 2, 3, 4, 5] (by decide) rfl
    exact wt_iret hx hb hr hlocks hP9 hD9 hS ⟨gf2_4, tc2_5, rfl, (by omega)⟩ dX5_begin_241
  rcases wt_dec (bo) 18 with c_54 | c_54
  · subst c_54
    refine lv_tableIn (off := 219) (tgt := 240) hx hb dX5_begin_21 (by decide) (by decide) rfl (by decide) ?_
    refine lv_iconst (v := 0) hx hb dX5_begin_240 (by decide) ?_
    have hP9 := hP.sub (ws' := [(ho, .inr (0, [vz_0, vz_1, vz_2, .int (nI T), vz_4, vz_5, vz_6, .ref aK, vz_8, vz_9, .ref aH, .ref aU])), (aK, .inl (cI, 6, .inl fK)), (aH, .inl (cI, 6, .inl fH)), (aU, .inl (cI, 6, .inl fU)), (tr, .inr (4, [.ref bg, .int (nI tc2_5)])), (bg, .inl (cI, 16, .inl gf2_4))]) [0, 1, 2, 3, 4, 5] rfl
    have hD9 := hD.sub (ws' := [(ho, .inr (0, [vz_0, vz_1, vz_2, .int (nI T), vz_4, vz_5, vz_6, .ref aK, vz_8, vz_9, .ref aH, .ref aU])), (aK, .inl (cI, 6, .inl fK)), (aH, .inl (cI, 6, .inl fH)), (aU, .inl (cI, 6, .inl fU)), (tr, .inr (4, [.ref bg, .int (nI tc2_5)])), (bg, .inl (cI, 16, .inl gf2_4))]) [0, 1, 2, 3, 4, 5] (by decide) rfl
    exact wt_iret hx hb hr hlocks hP9 hD9 hS ⟨gf2_4, tc2_5, rfl, (by omega)⟩ dX5_begin_241
  rcases wt_dec (bo) 19 with c_55 | c_55
  · subst c_55
    refine lv_tableIn (off := 219) (tgt := 240) hx hb dX5_begin_21 (by decide) (by decide) rfl (by decide) ?_
    refine lv_iconst (v := 0) hx hb dX5_begin_240 (by decide) ?_
    have hP9 := hP.sub (ws' := [(ho, .inr (0, [vz_0, vz_1, vz_2, .int (nI T), vz_4, vz_5, vz_6, .ref aK, vz_8, vz_9, .ref aH, .ref aU])), (aK, .inl (cI, 6, .inl fK)), (aH, .inl (cI, 6, .inl fH)), (aU, .inl (cI, 6, .inl fU)), (tr, .inr (4, [.ref bg, .int (nI tc2_5)])), (bg, .inl (cI, 16, .inl gf2_4))]) [0, 1, 2, 3, 4, 5] rfl
    have hD9 := hD.sub (ws' := [(ho, .inr (0, [vz_0, vz_1, vz_2, .int (nI T), vz_4, vz_5, vz_6, .ref aK, vz_8, vz_9, .ref aH, .ref aU])), (aK, .inl (cI, 6, .inl fK)), (aH, .inl (cI, 6, .inl fH)), (aU, .inl (cI, 6, .inl fU)), (tr, .inr (4, [.ref bg, .int (nI tc2_5)])), (bg, .inl (cI, 16, .inl gf2_4))]) [0, 1, 2, 3, 4, 5] (by decide) rfl
    exact wt_iret hx hb hr hlocks hP9 hD9 hS ⟨gf2_4, tc2_5, rfl, (by omega)⟩ dX5_begin_241
  rcases wt_dec (bo) 20 with c_56 | c_56
  · subst c_56
    refine lv_tableIn (off := 146) (tgt := 167) hx hb dX5_begin_21 (by decide) (by decide) rfl (by decide) ?_
    refine lv_iload_n hx hb dX5_begin_167 rfl (lv_at hl 4 rfl) ?_
    have hP9 := hP.sub (ws' := [(ho, .inr (0, [vz_0, vz_1, vz_2, .int (nI T), vz_4, vz_5, vz_6, .ref aK, vz_8, vz_9, .ref aH, .ref aU])), (aK, .inl (cI, 6, .inl fK)), (aH, .inl (cI, 6, .inl fH)), (aU, .inl (cI, 6, .inl fU)), (tr, .inr (4, [.ref bg, .int (nI tc2_5)])), (bg, .inl (cI, 16, .inl gf2_4))]) [0, 1, 2, 3, 4, 5] rfl
    have hD9 := hD.sub (ws' := [(ho, .inr (0, [vz_0, vz_1, vz_2, .int (nI T), vz_4, vz_5, vz_6, .ref aK, vz_8, vz_9, .ref aH, .ref aU])), (aK, .inl (cI, 6, .inl fK)), (aH, .inl (cI, 6, .inl fH)), (aU, .inl (cI, 6, .inl fU)), (tr, .inr (4, [.ref bg, .int (nI tc2_5)])), (bg, .inl (cI, 16, .inl gf2_4))]) [0, 1, 2, 3, 4, 5] (by decide) rfl
    exact wt_iret hx hb hr hlocks hP9 hD9 hS ⟨gf2_4, tc2_5, rfl, (by omega)⟩ dX5_begin_168
  rcases wt_dec (bo) 21 with c_57 | c_57
  · subst c_57
    refine lv_tableIn (off := 148) (tgt := 169) hx hb dX5_begin_21 (by decide) (by decide) rfl (by decide) ?_
    refine lv_aload_n hx hb dX5_begin_169 rfl (lv_at hl 1 rfl) ?_
    refine lv_aload_n hx hb dX5_begin_170 rfl (lv_at hl 2 rfl) ?_
    refine lv_bipush (v := 20) hx hb dX5_begin_171 (by decide) ?_
    refine lv_iload_n hx hb dX5_begin_173 rfl (lv_at hl 4 rfl) ?_
    refine lv_iload hx hb dX5_begin_174 (lv_at hl 0 rfl) ?_
    refine wt_goI (wr := []) (wt_runSZ (As := [.ref ho, .ref tr, .int 20, .int (nI j), .int (nI (d + 1))]) (rest := []) ⟨hx, hb, hml, hown, hts⟩ (c_X5_begin_14 l D cI cZ cH _ _ _ ho aK aH aU T j (d + 1) fK fH fU tr bg tc2_5 gf2_4 20 vz_0 vz_1 vz_2 vz_4 vz_5 vz_6 vz_8 vz_9 (by first | assumption | omega) (by first | assumption | omega) (by first | assumption | omega) (by first | assumption | omega)) (va_cwS 5 hts gX5_begin_X5_begin rfl rfl rfl (by decide +kernel) ⟨Nat.le_of_ble_eq_true rfl, Nat.le_of_ble_eq_true rfl⟩) hK hP hD [0, 1, 2, 3, 4, 5] rfl (by decide) hZ hS hA rfl hl.1 rfl (Nat.le_of_ble_eq_true rfl) dX5_begin_176 ⟨Nat.le_of_ble_eq_true rfl, Nat.le_of_ble_eq_true rfl⟩) hP hD hS hA [0, 1, 2, 3, 4, 5] [] rfl rfl (by decide) (by decide) (fun r_58 w_59 H locs h_60 hP hD hS => ?_)
    obtain ⟨gf2_61, tc2_62, rfl, x_63⟩ := h_60
    have hP : va_P D vwCl [(ho, .inr (0, [vz_0, vz_1, vz_2, .int (nI T), vz_4, vz_5, vz_6, .ref aK, vz_8, vz_9, .ref aH, .ref aU])), (aK, .inl (cI, 6, .inl fK)), (aH, .inl (cI, 6, .inl fH)), (aU, .inl (cI, 6, .inl fU)), (tr, .inr (4, [.ref bg, .int (nI tc2_62)])), (bg, .inl (cI, 16, .inl gf2_61))] H := hP
    have hD : va_D A [(ho, .inr (0, [vz_0, vz_1, vz_2, .int (nI T), vz_4, vz_5, vz_6, .ref aK, vz_8, vz_9, .ref aH, .ref aU])), (aK, .inl (cI, 6, .inl fK)), (aH, .inl (cI, 6, .inl fH)), (aU, .inl (cI, 6, .inl fU)), (tr, .inr (4, [.ref bg, .int (nI tc2_62)])), (bg, .inl (cI, 16, .inl gf2_61))] := hD
    refine lv_aload_n hx hb dX5_begin_179 rfl (lv_at hl 1 rfl) ?_
    refine va_get (D := D) (ci := 0) (v := .ref aU) (C := RX0) (T := TX0) (N := 12) hx hb hts hi0 hown hK.1 hP 0 rfl rfl 11 (by decide) wf175 (fun _ h9 => h9) rfl dX5_begin_180 ?_
    refine lv_iload_n hx hb dX5_begin_183 rfl (lv_at hl 4 rfl) ?_
    refine va_iald hx hb hK.1 hP 3 0 rfl rfl (vp_in_nI (by omega) (by omega)) dX5_begin_184 ?_
    refine lv_topi (fun ov_64 _ => ?_)
    refine lv_iadd hx hb dX5_begin_185 ?_
    refine lv_topi (fun ov_65 _ => ?_)
    have hP9 := hP.sub (ws' := [(ho, .inr (0, [vz_0, vz_1, vz_2, .int (nI T), vz_4, vz_5, vz_6, .ref aK, vz_8, vz_9, .ref aH, .ref aU])), (aK, .inl (cI, 6, .inl fK)), (aH, .inl (cI, 6, .inl fH)), (aU, .inl (cI, 6, .inl fU)), (tr, .inr (4, [.ref bg, .int (nI tc2_62)])), (bg, .inl (cI, 16, .inl gf2_61))]) [0, 1, 2, 3, 4, 5] rfl
    have hD9 := hD.sub (ws' := [(ho, .inr (0, [vz_0, vz_1, vz_2, .int (nI T), vz_4, vz_5, vz_6, .ref aK, vz_8, vz_9, .ref aH, .ref aU])), (aK, .inl (cI, 6, .inl fK)), (aH, .inl (cI, 6, .inl fH)), (aU, .inl (cI, 6, .inl fU)), (tr, .inr (4, [.ref bg, .int (nI tc2_62)])), (bg, .inl (cI, 16, .inl gf2_61))]) [0, 1, 2, 3, 4, 5] (by decide) rfl
    exact wt_iret hx hb hr hlocks hP9 hD9 hS ⟨gf2_61, tc2_62, rfl, (by omega)⟩ dX5_begin_186
  rcases wt_dec (bo) 22 with c_66 | c_66
  · subst c_66
    refine lv_tableIn (off := 166) (tgt := 187) hx hb dX5_begin_21 (by decide) (by decide) rfl (by decide) ?_
    refine lv_aload_n hx hb dX5_begin_187 rfl (lv_at hl 1 rfl) ?_
    refine lv_aload_n hx hb dX5_begin_188 rfl (lv_at hl 2 rfl) ?_
    refine lv_bipush (v := 21) hx hb dX5_begin_189 (by decide) ?_
    refine lv_iload_n hx hb dX5_begin_191 rfl (lv_at hl 4 rfl) ?_
    refine lv_iload hx hb dX5_begin_192 (lv_at hl 0 rfl) ?_
    refine wt_goI (wr := []) (wt_runSZ (As := [.ref ho, .ref tr, .int 21, .int (nI j), .int (nI (d + 1))]) (rest := []) ⟨hx, hb, hml, hown, hts⟩ (c_X5_begin_14 l D cI cZ cH _ _ _ ho aK aH aU T j (d + 1) fK fH fU tr bg tc2_5 gf2_4 21 vz_0 vz_1 vz_2 vz_4 vz_5 vz_6 vz_8 vz_9 (by first | assumption | omega) (by first | assumption | omega) (by first | assumption | omega) (by first | assumption | omega)) (va_cwS 5 hts gX5_begin_X5_begin rfl rfl rfl (by decide +kernel) ⟨Nat.le_of_ble_eq_true rfl, Nat.le_of_ble_eq_true rfl⟩) hK hP hD [0, 1, 2, 3, 4, 5] rfl (by decide) hZ hS hA rfl hl.1 rfl (Nat.le_of_ble_eq_true rfl) dX5_begin_194 ⟨Nat.le_of_ble_eq_true rfl, Nat.le_of_ble_eq_true rfl⟩) hP hD hS hA [0, 1, 2, 3, 4, 5] [] rfl rfl (by decide) (by decide) (fun r_67 w_68 H locs h_69 hP hD hS => ?_)
    obtain ⟨gf2_70, tc2_71, rfl, x_72⟩ := h_69
    have hP : va_P D vwCl [(ho, .inr (0, [vz_0, vz_1, vz_2, .int (nI T), vz_4, vz_5, vz_6, .ref aK, vz_8, vz_9, .ref aH, .ref aU])), (aK, .inl (cI, 6, .inl fK)), (aH, .inl (cI, 6, .inl fH)), (aU, .inl (cI, 6, .inl fU)), (tr, .inr (4, [.ref bg, .int (nI tc2_71)])), (bg, .inl (cI, 16, .inl gf2_70))] H := hP
    have hD : va_D A [(ho, .inr (0, [vz_0, vz_1, vz_2, .int (nI T), vz_4, vz_5, vz_6, .ref aK, vz_8, vz_9, .ref aH, .ref aU])), (aK, .inl (cI, 6, .inl fK)), (aH, .inl (cI, 6, .inl fH)), (aU, .inl (cI, 6, .inl fU)), (tr, .inr (4, [.ref bg, .int (nI tc2_71)])), (bg, .inl (cI, 16, .inl gf2_70))] := hD
    refine lv_sipush (v := 1000) hx hb dX5_begin_197 (by decide) ?_
    refine lv_isub hx hb dX5_begin_200 ?_
    refine lv_topi (fun ov_73 _ => ?_)
    have hP9 := hP.sub (ws' := [(ho, .inr (0, [vz_0, vz_1, vz_2, .int (nI T), vz_4, vz_5, vz_6, .ref aK, vz_8, vz_9, .ref aH, .ref aU])), (aK, .inl (cI, 6, .inl fK)), (aH, .inl (cI, 6, .inl fH)), (aU, .inl (cI, 6, .inl fU)), (tr, .inr (4, [.ref bg, .int (nI tc2_71)])), (bg, .inl (cI, 16, .inl gf2_70))]) [0, 1, 2, 3, 4, 5] rfl
    have hD9 := hD.sub (ws' := [(ho, .inr (0, [vz_0, vz_1, vz_2, .int (nI T), vz_4, vz_5, vz_6, .ref aK, vz_8, vz_9, .ref aH, .ref aU])), (aK, .inl (cI, 6, .inl fK)), (aH, .inl (cI, 6, .inl fH)), (aU, .inl (cI, 6, .inl fU)), (tr, .inr (4, [.ref bg, .int (nI tc2_71)])), (bg, .inl (cI, 16, .inl gf2_70))]) [0, 1, 2, 3, 4, 5] (by decide) rfl
    exact wt_iret hx hb hr hlocks hP9 hD9 hS ⟨gf2_70, tc2_71, rfl, (by omega)⟩ dX5_begin_201
  rcases wt_dec (bo) 23 with c_74 | c_74
  · subst c_74
    refine lv_tableIn (off := 181) (tgt := 202) hx hb dX5_begin_21 (by decide) (by decide) rfl (by decide) ?_
    refine lv_aload_n hx hb dX5_begin_202 rfl (lv_at hl 1 rfl) ?_
    refine lv_aload_n hx hb dX5_begin_203 rfl (lv_at hl 2 rfl) ?_
    refine lv_bipush (v := 20) hx hb dX5_begin_204 (by decide) ?_
    refine lv_iload_n hx hb dX5_begin_206 rfl (lv_at hl 4 rfl) ?_
    refine lv_iload hx hb dX5_begin_207 (lv_at hl 0 rfl) ?_
    refine wt_goI (wr := []) (wt_runSZ (As := [.ref ho, .ref tr, .int 20, .int (nI j), .int (nI (d + 1))]) (rest := []) ⟨hx, hb, hml, hown, hts⟩ (c_X5_begin_14 l D cI cZ cH _ _ _ ho aK aH aU T j (d + 1) fK fH fU tr bg tc2_5 gf2_4 20 vz_0 vz_1 vz_2 vz_4 vz_5 vz_6 vz_8 vz_9 (by first | assumption | omega) (by first | assumption | omega) (by first | assumption | omega) (by first | assumption | omega)) (va_cwS 5 hts gX5_begin_X5_begin rfl rfl rfl (by decide +kernel) ⟨Nat.le_of_ble_eq_true rfl, Nat.le_of_ble_eq_true rfl⟩) hK hP hD [0, 1, 2, 3, 4, 5] rfl (by decide) hZ hS hA rfl hl.1 rfl (Nat.le_of_ble_eq_true rfl) dX5_begin_209 ⟨Nat.le_of_ble_eq_true rfl, Nat.le_of_ble_eq_true rfl⟩) hP hD hS hA [0, 1, 2, 3, 4, 5] [] rfl rfl (by decide) (by decide) (fun r_75 w_76 H locs h_77 hP hD hS => ?_)
    obtain ⟨gf2_78, tc2_79, rfl, x_80⟩ := h_77
    have hP : va_P D vwCl [(ho, .inr (0, [vz_0, vz_1, vz_2, .int (nI T), vz_4, vz_5, vz_6, .ref aK, vz_8, vz_9, .ref aH, .ref aU])), (aK, .inl (cI, 6, .inl fK)), (aH, .inl (cI, 6, .inl fH)), (aU, .inl (cI, 6, .inl fU)), (tr, .inr (4, [.ref bg, .int (nI tc2_79)])), (bg, .inl (cI, 16, .inl gf2_78))] H := hP
    have hD : va_D A [(ho, .inr (0, [vz_0, vz_1, vz_2, .int (nI T), vz_4, vz_5, vz_6, .ref aK, vz_8, vz_9, .ref aH, .ref aU])), (aK, .inl (cI, 6, .inl fK)), (aH, .inl (cI, 6, .inl fH)), (aU, .inl (cI, 6, .inl fU)), (tr, .inr (4, [.ref bg, .int (nI tc2_79)])), (bg, .inl (cI, 16, .inl gf2_78))] := hD
    refine lv_aload_n hx hb dX5_begin_212 rfl (lv_at hl 1 rfl) ?_
    refine lv_aload_n hx hb dX5_begin_213 rfl (lv_at hl 2 rfl) ?_
    refine lv_aload_n hx hb dX5_begin_214 rfl (lv_at hl 1 rfl) ?_
    refine lv_iload_n hx hb dX5_begin_215 rfl (lv_at hl 4 rfl) ?_
    refine wt_goI (wr := [(aH, .inl (cI, 6, .inl fH)), (aU, .inl (cI, 6, .inl fU)), (tr, .inr (4, [.ref bg, .int (nI tc2_79)])), (bg, .inl (cI, 16, .inl gf2_78))]) (wt_runSZ (As := [.ref ho, .int (nI j)]) (rest := [.ref tr, .ref ho, .int r_75]) ⟨hx, hb, hml, hown, hts⟩ (c_X5_sizeBody l D cI cZ cH _ _ _ ho aK T j fK vz_0 vz_1 vz_2 vz_4 vz_5 vz_6 vz_8 vz_9 (.ref aH) (.ref aU) (by first | assumption | omega) (by first | assumption | omega)) (va_cwS 2 hts gX5_begin_X5_sizeBody rfl rfl rfl (by decide +kernel) ⟨Nat.le_of_ble_eq_true rfl, Nat.le_of_ble_eq_true rfl⟩) hK hP hD [0, 1] rfl (by decide) hZ hS hA rfl hl.1 rfl (Nat.le_of_ble_eq_true rfl) dX5_begin_216 ⟨Nat.le_of_ble_eq_true rfl, Nat.le_of_ble_eq_true rfl⟩) hP hD hS hA [0, 1] [2, 3, 4, 5] rfl rfl (by decide) (by decide) (fun r_81 w_82 H locs h_83 hP hD hS => ?_)
    obtain rfl := h_83
    have hP : va_P D vwCl [(aH, .inl (cI, 6, .inl fH)), (aU, .inl (cI, 6, .inl fU)), (tr, .inr (4, [.ref bg, .int (nI tc2_79)])), (bg, .inl (cI, 16, .inl gf2_78)), (ho, .inr (0, [vz_0, vz_1, vz_2, .int (nI T), vz_4, vz_5, vz_6, .ref aK, vz_8, vz_9, .ref aH, .ref aU])), (aK, .inl (cI, 6, .inl fK))] H := hP
    have hD : va_D A [(aH, .inl (cI, 6, .inl fH)), (aU, .inl (cI, 6, .inl fU)), (tr, .inr (4, [.ref bg, .int (nI tc2_79)])), (bg, .inl (cI, 16, .inl gf2_78)), (ho, .inr (0, [vz_0, vz_1, vz_2, .int (nI T), vz_4, vz_5, vz_6, .ref aK, vz_8, vz_9, .ref aH, .ref aU])), (aK, .inl (cI, 6, .inl fK))] := hD
    refine lv_iload_n hx hb dX5_begin_219 rfl (lv_at hl 4 rfl) ?_
    refine lv_iload hx hb dX5_begin_220 (lv_at hl 0 rfl) ?_
    refine wt_goI (wr := []) (wt_runSZ (As := [.ref ho, .ref tr, .int r_81, .int (nI j), .int (nI (d + 1))]) (rest := [.int r_75]) ⟨hx, hb, hml, hown, hts⟩ (c_X5_begin_14 l D cI cZ cH _ _ _ ho aK aH aU T j (d + 1) fK fH fU tr bg tc2_79 gf2_78 r_81 vz_0 vz_1 vz_2 vz_4 vz_5 vz_6 vz_8 vz_9 (by first | assumption | omega) (by first | assumption | omega) (by first | assumption | omega) (by first | assumption | omega)) (va_cwS 5 hts gX5_begin_X5_begin rfl rfl rfl (by decide +kernel) ⟨Nat.le_of_ble_eq_true rfl, Nat.le_of_ble_eq_true rfl⟩) hK hP hD [4, 5, 0, 1, 2, 3] rfl (by decide) hZ hS hA rfl hl.1 rfl (Nat.le_of_ble_eq_true rfl) dX5_begin_222 ⟨Nat.le_of_ble_eq_true rfl, Nat.le_of_ble_eq_true rfl⟩) hP hD hS hA [4, 5, 0, 1, 2, 3] [] rfl rfl (by decide) (by decide) (fun r_84 w_85 H locs h_86 hP hD hS => ?_)
    obtain ⟨gf2_87, tc2_88, rfl, x_89⟩ := h_86
    have hP : va_P D vwCl [(ho, .inr (0, [vz_0, vz_1, vz_2, .int (nI T), vz_4, vz_5, vz_6, .ref aK, vz_8, vz_9, .ref aH, .ref aU])), (aK, .inl (cI, 6, .inl fK)), (aH, .inl (cI, 6, .inl fH)), (aU, .inl (cI, 6, .inl fU)), (tr, .inr (4, [.ref bg, .int (nI tc2_88)])), (bg, .inl (cI, 16, .inl gf2_87))] H := hP
    have hD : va_D A [(ho, .inr (0, [vz_0, vz_1, vz_2, .int (nI T), vz_4, vz_5, vz_6, .ref aK, vz_8, vz_9, .ref aH, .ref aU])), (aK, .inl (cI, 6, .inl fK)), (aH, .inl (cI, 6, .inl fH)), (aU, .inl (cI, 6, .inl fU)), (tr, .inr (4, [.ref bg, .int (nI tc2_88)])), (bg, .inl (cI, 16, .inl gf2_87))] := hD
    refine lv_isub hx hb dX5_begin_225 ?_
    refine lv_topi (fun ov_90 _ => ?_)
    have hP9 := hP.sub (ws' := [(ho, .inr (0, [vz_0, vz_1, vz_2, .int (nI T), vz_4, vz_5, vz_6, .ref aK, vz_8, vz_9, .ref aH, .ref aU])), (aK, .inl (cI, 6, .inl fK)), (aH, .inl (cI, 6, .inl fH)), (aU, .inl (cI, 6, .inl fU)), (tr, .inr (4, [.ref bg, .int (nI tc2_88)])), (bg, .inl (cI, 16, .inl gf2_87))]) [0, 1, 2, 3, 4, 5] rfl
    have hD9 := hD.sub (ws' := [(ho, .inr (0, [vz_0, vz_1, vz_2, .int (nI T), vz_4, vz_5, vz_6, .ref aK, vz_8, vz_9, .ref aH, .ref aU])), (aK, .inl (cI, 6, .inl fK)), (aH, .inl (cI, 6, .inl fH)), (aU, .inl (cI, 6, .inl fU)), (tr, .inr (4, [.ref bg, .int (nI tc2_88)])), (bg, .inl (cI, 16, .inl gf2_87))]) [0, 1, 2, 3, 4, 5] (by decide) rfl
    exact wt_iret hx hb hr hlocks hP9 hD9 hS ⟨gf2_87, tc2_88, rfl, (by omega)⟩ dX5_begin_226
  rcases wt_dec (bo) 24 with c_91 | c_91
  · subst c_91
    refine lv_tableIn (off := 206) (tgt := 227) hx hb dX5_begin_21 (by decide) (by decide) rfl (by decide) ?_
    refine lv_aload_n hx hb dX5_begin_227 rfl (lv_at hl 1 rfl) ?_
    refine lv_aload_n hx hb dX5_begin_228 rfl (lv_at hl 2 rfl) ?_
    refine lv_bipush (v := 21) hx hb dX5_begin_229 (by decide) ?_
    refine lv_iload_n hx hb dX5_begin_231 rfl (lv_at hl 4 rfl) ?_
    refine lv_iload hx hb dX5_begin_232 (lv_at hl 0 rfl) ?_
    refine wt_goI (wr := []) (wt_runSZ (As := [.ref ho, .ref tr, .int 21, .int (nI j), .int (nI (d + 1))]) (rest := []) ⟨hx, hb, hml, hown, hts⟩ (c_X5_begin_14 l D cI cZ cH _ _ _ ho aK aH aU T j (d + 1) fK fH fU tr bg tc2_5 gf2_4 21 vz_0 vz_1 vz_2 vz_4 vz_5 vz_6 vz_8 vz_9 (by first | assumption | omega) (by first | assumption | omega) (by first | assumption | omega) (by first | assumption | omega)) (va_cwS 5 hts gX5_begin_X5_begin rfl rfl rfl (by decide +kernel) ⟨Nat.le_of_ble_eq_true rfl, Nat.le_of_ble_eq_true rfl⟩) hK hP hD [0, 1, 2, 3, 4, 5] rfl (by decide) hZ hS hA rfl hl.1 rfl (Nat.le_of_ble_eq_true rfl) dX5_begin_234 ⟨Nat.le_of_ble_eq_true rfl, Nat.le_of_ble_eq_true rfl⟩) hP hD hS hA [0, 1, 2, 3, 4, 5] [] rfl rfl (by decide) (by decide) (fun r_92 w_93 H locs h_94 hP hD hS => ?_)
    obtain ⟨gf2_95, tc2_96, rfl, x_97⟩ := h_94
    have hP : va_P D vwCl [(ho, .inr (0, [vz_0, vz_1, vz_2, .int (nI T), vz_4, vz_5, vz_6, .ref aK, vz_8, vz_9, .ref aH, .ref aU])), (aK, .inl (cI, 6, .inl fK)), (aH, .inl (cI, 6, .inl fH)), (aU, .inl (cI, 6, .inl fU)), (tr, .inr (4, [.ref bg, .int (nI tc2_96)])), (bg, .inl (cI, 16, .inl gf2_95))] H := hP
    have hD : va_D A [(ho, .inr (0, [vz_0, vz_1, vz_2, .int (nI T), vz_4, vz_5, vz_6, .ref aK, vz_8, vz_9, .ref aH, .ref aU])), (aK, .inl (cI, 6, .inl fK)), (aH, .inl (cI, 6, .inl fH)), (aU, .inl (cI, 6, .inl fU)), (tr, .inr (4, [.ref bg, .int (nI tc2_96)])), (bg, .inl (cI, 16, .inl gf2_95))] := hD
    refine lv_iconst (v := 2) hx hb dX5_begin_237 (by decide) ?_
    refine lv_imul hx hb dX5_begin_238 ?_
    refine lv_topi (fun ov_98 _ => ?_)
    have hP9 := hP.sub (ws' := [(ho, .inr (0, [vz_0, vz_1, vz_2, .int (nI T), vz_4, vz_5, vz_6, .ref aK, vz_8, vz_9, .ref aH, .ref aU])), (aK, .inl (cI, 6, .inl fK)), (aH, .inl (cI, 6, .inl fH)), (aU, .inl (cI, 6, .inl fU)), (tr, .inr (4, [.ref bg, .int (nI tc2_96)])), (bg, .inl (cI, 16, .inl gf2_95))]) [0, 1, 2, 3, 4, 5] rfl
    have hD9 := hD.sub (ws' := [(ho, .inr (0, [vz_0, vz_1, vz_2, .int (nI T), vz_4, vz_5, vz_6, .ref aK, vz_8, vz_9, .ref aH, .ref aU])), (aK, .inl (cI, 6, .inl fK)), (aH, .inl (cI, 6, .inl fH)), (aU, .inl (cI, 6, .inl fU)), (tr, .inr (4, [.ref bg, .int (nI tc2_96)])), (bg, .inl (cI, 16, .inl gf2_95))]) [0, 1, 2, 3, 4, 5] (by decide) rfl
    exact wt_iret hx hb hr hlocks hP9 hD9 hS ⟨gf2_95, tc2_96, rfl, (by omega)⟩ dX5_begin_239
  refine lv_tableOut (tgt := 240) hx hb dX5_begin_21 (by have := lv_neT (a := 10) c_8 rfl; have := lv_neT (a := 11) c_10 rfl; have := lv_neT (a := 12) c_27 rfl; have := lv_neT (a := 13) c_35 rfl; have := lv_neT (a := 14) c_43 rfl; have := lv_neT (a := 15) c_51 rfl; have := lv_neT (a := 16) c_52 rfl; have := lv_neT (a := 17) c_53 rfl; have := lv_neT (a := 18) c_54 rfl; have := lv_neT (a := 19) c_55 rfl; have := lv_neT (a := 20) c_56 rfl; have := lv_neT (a := 21) c_57 rfl; have := lv_neT (a := 22) c_66 rfl; have := lv_neT (a := 23) c_74 rfl; have := lv_neT (a := 24) c_91 rfl; omega) (by decide) ?_
  refine lv_iconst (v := 0) hx hb dX5_begin_240 (by decide) ?_
  have hP9 := hP.sub (ws' := [(ho, .inr (0, [vz_0, vz_1, vz_2, .int (nI T), vz_4, vz_5, vz_6, .ref aK, vz_8, vz_9, .ref aH, .ref aU])), (aK, .inl (cI, 6, .inl fK)), (aH, .inl (cI, 6, .inl fH)), (aU, .inl (cI, 6, .inl fU)), (tr, .inr (4, [.ref bg, .int (nI tc2_5)])), (bg, .inl (cI, 16, .inl gf2_4))]) [0, 1, 2, 3, 4, 5] rfl
  have hD9 := hD.sub (ws' := [(ho, .inr (0, [vz_0, vz_1, vz_2, .int (nI T), vz_4, vz_5, vz_6, .ref aK, vz_8, vz_9, .ref aH, .ref aU])), (aK, .inl (cI, 6, .inl fK)), (aH, .inl (cI, 6, .inl fH)), (aU, .inl (cI, 6, .inl fU)), (tr, .inr (4, [.ref bg, .int (nI tc2_5)])), (bg, .inl (cI, 16, .inl gf2_4))]) [0, 1, 2, 3, 4, 5] (by decide) rfl
  exact wt_iret hx hb hr hlocks hP9 hD9 hS ⟨gf2_4, tc2_5, rfl, (by omega)⟩ dX5_begin_241
set_option maxHeartbeats 4000000 in
set_option maxRecDepth 100000 in
theorem c_X5_begin_16 (l : Launch) (D : va_G) (cI cZ cH : ClassId) (ab sb mb : Nat) (ho aK aH aU : Nat) (T j d : Nat) (fK fH fU : Nat → Int32) (tr bg : Nat) (tc : Nat) (gf : Nat → Int32) (bo : Int32) (vz_0 vz_1 vz_2 vz_4 vz_5 vz_6 vz_8 vz_9 : Value) (hT6 : T ≤ 6) (hjT : j < T) (hd : d + 16 = 16) (htc : tc ≤ 16) : wt_MZ (wt_ZS ab sb mb abF sbF mbF) l yX5_begin wsX5_begin ({ frames := 17, cells := 0, slots := 0, locals := 419 } : Room) D (wt_T cI cZ cH) [.ref ho, .ref tr, .int bo, .int (nI j), .int (nI d)] [(ho, .inr (0, [vz_0, vz_1, vz_2, .int (nI T), vz_4, vz_5, vz_6, .ref aK, vz_8, vz_9, .ref aH, .ref aU])), (aK, .inl (cI, 6, .inl fK)), (aH, .inl (cI, 6, .inl fH)), (aU, .inl (cI, 6, .inl fU)), (tr, .inr (4, [.ref bg, .int (nI tc)])), (bg, .inl (cI, 16, .inl gf))] (wt_QI D (fun r w => ∃ (gf2 : Nat → Int32) (tc2 : Nat), w = [(ho, .inr (0, [vz_0, vz_1, vz_2, .int (nI T), vz_4, vz_5, vz_6, .ref aK, vz_8, vz_9, .ref aH, .ref aU])), (aK, .inl (cI, 6, .inl fK)), (aH, .inl (cI, 6, .inl fH)), (aU, .inl (cI, 6, .inl fU)), (tr, .inr (4, [.ref bg, .int (nI tc2)])), (bg, .inl (cI, 16, .inl gf2))] ∧ tc2 ≤ 16)) := by
  refine wt_MZ.ofW (cc := cX5_begin) (maxL := 6) (ret := (some .int)) (by decide) rfl (Nat.le_of_ble_eq_true rfl) ?_
  intro p e s m below meth c A ls hx hb hr hts hown hlocks hml hnm hP hK hD hA hS hl hZ
  have hP : va_P D vwCl [(ho, .inr (0, [vz_0, vz_1, vz_2, .int (nI T), vz_4, vz_5, vz_6, .ref aK, vz_8, vz_9, .ref aH, .ref aU])), (aK, .inl (cI, 6, .inl fK)), (aH, .inl (cI, 6, .inl fH)), (aU, .inl (cI, 6, .inl fU)), (tr, .inr (4, [.ref bg, .int (nI tc)])), (bg, .inl (cI, 16, .inl gf))] s.heap := hP
  have hown : s.vm.findClass RX5 = some m.cls := hown
  have hl : lv_has ls 6 [(0, .ref ho), (1, .ref tr), (2, .int bo), (3, .int (nI j)), (4, .int (nI d))] := hl
  have hi0 : ∀ w ∈ u_ws RX0 TX0 12, w ∈ wsX5_begin := by decide +kernel
  have wf175 := hts (.fieldLink RX5 175 "WarmTubes$House" "up" "[I") (by decide +kernel)
  have wf196 := hts (.fieldLink RX5 196 "WarmTubes$House" "holds" "[I") (by decide +kernel)
  refine lv_iload hx hb dX5_begin_0 (lv_at hl 4 rfl) ?_
  refine lv_bipush (v := 16) hx hb dX5_begin_2 (by decide) ?_
  refine lv_icmp_lt (tgt := 9) hx hb dX5_begin_4 (by decide) (fun _ => ?_) (fun h => absurd (nI_lt (a := d) (b := 16) (by omega) (by omega)) h)
  refine lv_aload_n hx hb dX5_begin_9 rfl (lv_at hl 1 rfl) ?_
  refine lv_iload_n hx hb dX5_begin_10 rfl (lv_at hl 2 rfl) ?_
  refine wt_goV (wr := [(ho, .inr (0, [vz_0, vz_1, vz_2, .int (nI T), vz_4, vz_5, vz_6, .ref aK, vz_8, vz_9, .ref aH, .ref aU])), (aK, .inl (cI, 6, .inl fK)), (aH, .inl (cI, 6, .inl fH)), (aU, .inl (cI, 6, .inl fU))]) (wt_runV (As := [.int bo]) (rest := []) ⟨hx, hb, hml, hown, hts⟩ (c_X4_leave l D cI cZ cH tr bg tc gf bo (by first | assumption | omega)) (cwV 1 hts gX5_begin_X4_leave rfl rfl rfl (by decide +kernel) ⟨Nat.le_of_ble_eq_true rfl, Nat.le_of_ble_eq_true rfl⟩) hK hP hD [4, 5] rfl (by decide) (va_recv hK.1 hP (ci := 4) (q0 := 4) rfl rfl) rfl hl.1 rfl (Nat.le_of_ble_eq_true rfl) dX5_begin_11 ⟨Nat.le_of_ble_eq_true rfl, Nat.le_of_ble_eq_true rfl⟩) hP hD hS hA [4, 5] [0, 1, 2, 3] rfl rfl (by decide) (by decide) (fun w_2 H locs h_3 hP hD hS => ?_)
  obtain ⟨gf2_4, tc2_5, rfl, x_6⟩ := h_3
  have hP : va_P D vwCl [(ho, .inr (0, [vz_0, vz_1, vz_2, .int (nI T), vz_4, vz_5, vz_6, .ref aK, vz_8, vz_9, .ref aH, .ref aU])), (aK, .inl (cI, 6, .inl fK)), (aH, .inl (cI, 6, .inl fH)), (aU, .inl (cI, 6, .inl fU)), (tr, .inr (4, [.ref bg, .int (nI tc2_5)])), (bg, .inl (cI, 16, .inl gf2_4))] H := hP
  have hD : va_D A [(ho, .inr (0, [vz_0, vz_1, vz_2, .int (nI T), vz_4, vz_5, vz_6, .ref aK, vz_8, vz_9, .ref aH, .ref aU])), (aK, .inl (cI, 6, .inl fK)), (aH, .inl (cI, 6, .inl fH)), (aU, .inl (cI, 6, .inl fU)), (tr, .inr (4, [.ref bg, .int (nI tc2_5)])), (bg, .inl (cI, 16, .inl gf2_4))] := hD
  refine lv_iload hx hb dX5_begin_14 (lv_at hl 4 rfl) ?_
  refine lv_iconst (v := 1) hx hb dX5_begin_16 (by decide) ?_
  refine lv_iadd hx hb dX5_begin_17 ?_
  refine wt_top (z := nI (d + 1)) (nI_add d 1) ?_
  refine lv_istore (lv' := [(5, .int (nI (d + 1))), (0, .ref ho), (1, .ref tr), (2, .int bo), (3, .int (nI j)), (4, .int (nI d))]) hx hb dX5_begin_18 hl (by decide) rfl (fun ls hl => ?_)
  refine lv_iload_n hx hb dX5_begin_20 rfl (lv_at hl 3 rfl) ?_
  rcases wt_dec (bo) 10 with c_8 | c_8
  · subst c_8
    refine lv_tableIn (off := 75) (tgt := 96) hx hb dX5_begin_21 (by decide) (by decide) rfl (by decide) ?_
    refine lv_aload_n hx hb dX5_begin_96 rfl (lv_at hl 1 rfl) ?_
    refine va_get (D := D) (ci := 0) (v := .ref aH) (C := RX0) (T := TX0) (N := 12) hx hb hts hi0 hown hK.1 hP 0 rfl rfl 10 (by decide) wf196 (fun _ h9 => h9) rfl dX5_begin_97 ?_
    refine lv_iload_n hx hb dX5_begin_100 rfl (lv_at hl 4 rfl) ?_
    refine va_iald hx hb hK.1 hP 2 0 rfl rfl (vp_in_nI (by omega) (by omega)) dX5_begin_101 ?_
    refine lv_topi (fun ov_9 _ => ?_)
    have hP9 := hP.sub (ws' := [(ho, .inr (0, [vz_0, vz_1, vz_2, .int (nI T), vz_4, vz_5, vz_6, .ref aK, vz_8, vz_9, .ref aH, .ref aU])), (aK, .inl (cI, 6, .inl fK)), (aH, .inl (cI, 6, .inl fH)), (aU, .inl (cI, 6, .inl fU)), (tr, .inr (4, [.ref bg, .int (nI tc2_5)])), (bg, .inl (cI, 16, .inl gf2_4))]) [0, 1, 2, 3, 4, 5] rfl
    have hD9 := hD.sub (ws' := [(ho, .inr (0, [vz_0, vz_1, vz_2, .int (nI T), vz_4, vz_5, vz_6, .ref aK, vz_8, vz_9, .ref aH, .ref aU])), (aK, .inl (cI, 6, .inl fK)), (aH, .inl (cI, 6, .inl fH)), (aU, .inl (cI, 6, .inl fU)), (tr, .inr (4, [.ref bg, .int (nI tc2_5)])), (bg, .inl (cI, 16, .inl gf2_4))]) [0, 1, 2, 3, 4, 5] (by decide) rfl
    exact wt_iret hx hb hr hlocks hP9 hD9 hS ⟨gf2_4, tc2_5, rfl, (by omega)⟩ dX5_begin_102
  rcases wt_dec (bo) 11 with c_10 | c_10
  · subst c_10
    refine lv_tableIn (off := 82) (tgt := 103) hx hb dX5_begin_21 (by decide) (by decide) rfl (by decide) ?_
    refine lv_aload_n hx hb dX5_begin_103 rfl (lv_at hl 1 rfl) ?_
    refine lv_aload_n hx hb dX5_begin_104 rfl (lv_at hl 2 rfl) ?_
    refine lv_bipush (v := 10) hx hb dX5_begin_105 (by decide) ?_
    refine lv_iload_n hx hb dX5_begin_107 rfl (lv_at hl 4 rfl) ?_
    refine lv_iload hx hb dX5_begin_108 (lv_at hl 0 rfl) ?_
    refine wt_goI (wr := []) (wt_runSZ (As := [.ref ho, .ref tr, .int 10, .int (nI j), .int (nI (d + 1))]) (rest := []) ⟨hx, hb, hml, hown, hts⟩ (c_X5_begin_15 l D cI cZ cH _ _ _ ho aK aH aU T j (d + 1) fK fH fU tr bg tc2_5 gf2_4 10 vz_0 vz_1 vz_2 vz_4 vz_5 vz_6 vz_8 vz_9 (by first | assumption | omega) (by first | assumption | omega) (by first | assumption | omega) (by first | assumption | omega)) (va_cwS 5 hts gX5_begin_X5_begin rfl rfl rfl (by decide +kernel) ⟨Nat.le_of_ble_eq_true rfl, Nat.le_of_ble_eq_true rfl⟩) hK hP hD [0, 1, 2, 3, 4, 5] rfl (by decide) hZ hS hA rfl hl.1 rfl (Nat.le_of_ble_eq_true rfl) dX5_begin_110 ⟨Nat.le_of_ble_eq_true rfl, Nat.le_of_ble_eq_true rfl⟩) hP hD hS hA [0, 1, 2, 3, 4, 5] [] rfl rfl (by decide) (by decide) (fun r_11 w_12 H locs h_13 hP hD hS => ?_)
    obtain ⟨gf2_14, tc2_15, rfl, x_16⟩ := h_13
    have hP : va_P D vwCl [(ho, .inr (0, [vz_0, vz_1, vz_2, .int (nI T), vz_4, vz_5, vz_6, .ref aK, vz_8, vz_9, .ref aH, .ref aU])), (aK, .inl (cI, 6, .inl fK)), (aH, .inl (cI, 6, .inl fH)), (aU, .inl (cI, 6, .inl fU)), (tr, .inr (4, [.ref bg, .int (nI tc2_15)])), (bg, .inl (cI, 16, .inl gf2_14))] H := hP
    have hD : va_D A [(ho, .inr (0, [vz_0, vz_1, vz_2, .int (nI T), vz_4, vz_5, vz_6, .ref aK, vz_8, vz_9, .ref aH, .ref aU])), (aK, .inl (cI, 6, .inl fK)), (aH, .inl (cI, 6, .inl fH)), (aU, .inl (cI, 6, .inl fU)), (tr, .inr (4, [.ref bg, .int (nI tc2_15)])), (bg, .inl (cI, 16, .inl gf2_14))] := hD
    refine lv_aload_n hx hb dX5_begin_113 rfl (lv_at hl 1 rfl) ?_
    refine lv_aload_n hx hb dX5_begin_114 rfl (lv_at hl 2 rfl) ?_
    refine lv_aload_n hx hb dX5_begin_115 rfl (lv_at hl 1 rfl) ?_
    refine lv_iload_n hx hb dX5_begin_116 rfl (lv_at hl 4 rfl) ?_
    refine wt_goI (wr := [(aH, .inl (cI, 6, .inl fH)), (aU, .inl (cI, 6, .inl fU)), (tr, .inr (4, [.ref bg, .int (nI tc2_15)])), (bg, .inl (cI, 16, .inl gf2_14))]) (wt_runSZ (As := [.ref ho, .int (nI j)]) (rest := [.ref tr, .ref ho, .int r_11]) ⟨hx, hb, hml, hown, hts⟩ (c_X5_markBody l D cI cZ cH _ _ _ ho aK T j fK vz_0 vz_1 vz_2 vz_4 vz_5 vz_6 vz_8 vz_9 (.ref aH) (.ref aU) (by first | assumption | omega) (by first | assumption | omega)) (va_cwS 2 hts gX5_begin_X5_markBody rfl rfl rfl (by decide +kernel) ⟨Nat.le_of_ble_eq_true rfl, Nat.le_of_ble_eq_true rfl⟩) hK hP hD [0, 1] rfl (by decide) hZ hS hA rfl hl.1 rfl (Nat.le_of_ble_eq_true rfl) dX5_begin_117 ⟨Nat.le_of_ble_eq_true rfl, Nat.le_of_ble_eq_true rfl⟩) hP hD hS hA [0, 1] [2, 3, 4, 5] rfl rfl (by decide) (by decide) (fun r_17 w_18 H locs h_19 hP hD hS => ?_)
    obtain rfl := h_19
    have hP : va_P D vwCl [(aH, .inl (cI, 6, .inl fH)), (aU, .inl (cI, 6, .inl fU)), (tr, .inr (4, [.ref bg, .int (nI tc2_15)])), (bg, .inl (cI, 16, .inl gf2_14)), (ho, .inr (0, [vz_0, vz_1, vz_2, .int (nI T), vz_4, vz_5, vz_6, .ref aK, vz_8, vz_9, .ref aH, .ref aU])), (aK, .inl (cI, 6, .inl fK))] H := hP
    have hD : va_D A [(aH, .inl (cI, 6, .inl fH)), (aU, .inl (cI, 6, .inl fU)), (tr, .inr (4, [.ref bg, .int (nI tc2_15)])), (bg, .inl (cI, 16, .inl gf2_14)), (ho, .inr (0, [vz_0, vz_1, vz_2, .int (nI T), vz_4, vz_5, vz_6, .ref aK, vz_8, vz_9, .ref aH, .ref aU])), (aK, .inl (cI, 6, .inl fK))] := hD
    refine lv_iload_n hx hb dX5_begin_120 rfl (lv_at hl 4 rfl) ?_
    refine lv_iload hx hb dX5_begin_121 (lv_at hl 0 rfl) ?_
    refine wt_goI (wr := []) (wt_runSZ (As := [.ref ho, .ref tr, .int r_17, .int (nI j), .int (nI (d + 1))]) (rest := [.int r_11]) ⟨hx, hb, hml, hown, hts⟩ (c_X5_begin_15 l D cI cZ cH _ _ _ ho aK aH aU T j (d + 1) fK fH fU tr bg tc2_15 gf2_14 r_17 vz_0 vz_1 vz_2 vz_4 vz_5 vz_6 vz_8 vz_9 (by first | assumption | omega) (by first | assumption | omega) (by first | assumption | omega) (by first | assumption | omega)) (va_cwS 5 hts gX5_begin_X5_begin rfl rfl rfl (by decide +kernel) ⟨Nat.le_of_ble_eq_true rfl, Nat.le_of_ble_eq_true rfl⟩) hK hP hD [4, 5, 0, 1, 2, 3] rfl (by decide) hZ hS hA rfl hl.1 rfl (Nat.le_of_ble_eq_true rfl) dX5_begin_123 ⟨Nat.le_of_ble_eq_true rfl, Nat.le_of_ble_eq_true rfl⟩) hP hD hS hA [4, 5, 0, 1, 2, 3] [] rfl rfl (by decide) (by decide) (fun r_20 w_21 H locs h_22 hP hD hS => ?_)
    obtain ⟨gf2_23, tc2_24, rfl, x_25⟩ := h_22
    have hP : va_P D vwCl [(ho, .inr (0, [vz_0, vz_1, vz_2, .int (nI T), vz_4, vz_5, vz_6, .ref aK, vz_8, vz_9, .ref aH, .ref aU])), (aK, .inl (cI, 6, .inl fK)), (aH, .inl (cI, 6, .inl fH)), (aU, .inl (cI, 6, .inl fU)), (tr, .inr (4, [.ref bg, .int (nI tc2_24)])), (bg, .inl (cI, 16, .inl gf2_23))] H := hP
    have hD : va_D A [(ho, .inr (0, [vz_0, vz_1, vz_2, .int (nI T), vz_4, vz_5, vz_6, .ref aK, vz_8, vz_9, .ref aH, .ref aU])), (aK, .inl (cI, 6, .inl fK)), (aH, .inl (cI, 6, .inl fH)), (aU, .inl (cI, 6, .inl fU)), (tr, .inr (4, [.ref bg, .int (nI tc2_24)])), (bg, .inl (cI, 16, .inl gf2_23))] := hD
    refine lv_iadd hx hb dX5_begin_126 ?_
    refine lv_topi (fun ov_26 _ => ?_)
    have hP9 := hP.sub (ws' := [(ho, .inr (0, [vz_0, vz_1, vz_2, .int (nI T), vz_4, vz_5, vz_6, .ref aK, vz_8, vz_9, .ref aH, .ref aU])), (aK, .inl (cI, 6, .inl fK)), (aH, .inl (cI, 6, .inl fH)), (aU, .inl (cI, 6, .inl fU)), (tr, .inr (4, [.ref bg, .int (nI tc2_24)])), (bg, .inl (cI, 16, .inl gf2_23))]) [0, 1, 2, 3, 4, 5] rfl
    have hD9 := hD.sub (ws' := [(ho, .inr (0, [vz_0, vz_1, vz_2, .int (nI T), vz_4, vz_5, vz_6, .ref aK, vz_8, vz_9, .ref aH, .ref aU])), (aK, .inl (cI, 6, .inl fK)), (aH, .inl (cI, 6, .inl fH)), (aU, .inl (cI, 6, .inl fU)), (tr, .inr (4, [.ref bg, .int (nI tc2_24)])), (bg, .inl (cI, 16, .inl gf2_23))]) [0, 1, 2, 3, 4, 5] (by decide) rfl
    exact wt_iret hx hb hr hlocks hP9 hD9 hS ⟨gf2_23, tc2_24, rfl, (by omega)⟩ dX5_begin_127
  rcases wt_dec (bo) 12 with c_27 | c_27
  · subst c_27
    refine lv_tableIn (off := 107) (tgt := 128) hx hb dX5_begin_21 (by decide) (by decide) rfl (by decide) ?_
    refine lv_aload_n hx hb dX5_begin_128 rfl (lv_at hl 1 rfl) ?_
    refine lv_aload_n hx hb dX5_begin_129 rfl (lv_at hl 2 rfl) ?_
    refine lv_bipush (v := 11) hx hb dX5_begin_130 (by decide) ?_
    refine lv_iload_n hx hb dX5_begin_132 rfl (lv_at hl 4 rfl) ?_
    refine lv_iload hx hb dX5_begin_133 (lv_at hl 0 rfl) ?_
    refine wt_goI (wr := []) (wt_runSZ (As := [.ref ho, .ref tr, .int 11, .int (nI j), .int (nI (d + 1))]) (rest := []) ⟨hx, hb, hml, hown, hts⟩ (c_X5_begin_15 l D cI cZ cH _ _ _ ho aK aH aU T j (d + 1) fK fH fU tr bg tc2_5 gf2_4 11 vz_0 vz_1 vz_2 vz_4 vz_5 vz_6 vz_8 vz_9 (by first | assumption | omega) (by first | assumption | omega) (by first | assumption | omega) (by first | assumption | omega)) (va_cwS 5 hts gX5_begin_X5_begin rfl rfl rfl (by decide +kernel) ⟨Nat.le_of_ble_eq_true rfl, Nat.le_of_ble_eq_true rfl⟩) hK hP hD [0, 1, 2, 3, 4, 5] rfl (by decide) hZ hS hA rfl hl.1 rfl (Nat.le_of_ble_eq_true rfl) dX5_begin_135 ⟨Nat.le_of_ble_eq_true rfl, Nat.le_of_ble_eq_true rfl⟩) hP hD hS hA [0, 1, 2, 3, 4, 5] [] rfl rfl (by decide) (by decide) (fun r_28 w_29 H locs h_30 hP hD hS => ?_)
    obtain ⟨gf2_31, tc2_32, rfl, x_33⟩ := h_30
    have hP : va_P D vwCl [(ho, .inr (0, [vz_0, vz_1, vz_2, .int (nI T), vz_4, vz_5, vz_6, .ref aK, vz_8, vz_9, .ref aH, .ref aU])), (aK, .inl (cI, 6, .inl fK)), (aH, .inl (cI, 6, .inl fH)), (aU, .inl (cI, 6, .inl fU)), (tr, .inr (4, [.ref bg, .int (nI tc2_32)])), (bg, .inl (cI, 16, .inl gf2_31))] H := hP
    have hD : va_D A [(ho, .inr (0, [vz_0, vz_1, vz_2, .int (nI T), vz_4, vz_5, vz_6, .ref aK, vz_8, vz_9, .ref aH, .ref aU])), (aK, .inl (cI, 6, .inl fK)), (aH, .inl (cI, 6, .inl fH)), (aU, .inl (cI, 6, .inl fU)), (tr, .inr (4, [.ref bg, .int (nI tc2_32)])), (bg, .inl (cI, 16, .inl gf2_31))] := hD
    refine lv_ineg hx hb dX5_begin_138 ?_
    refine lv_topi (fun ov_34 _ => ?_)
    have hP9 := hP.sub (ws' := [(ho, .inr (0, [vz_0, vz_1, vz_2, .int (nI T), vz_4, vz_5, vz_6, .ref aK, vz_8, vz_9, .ref aH, .ref aU])), (aK, .inl (cI, 6, .inl fK)), (aH, .inl (cI, 6, .inl fH)), (aU, .inl (cI, 6, .inl fU)), (tr, .inr (4, [.ref bg, .int (nI tc2_32)])), (bg, .inl (cI, 16, .inl gf2_31))]) [0, 1, 2, 3, 4, 5] rfl
    have hD9 := hD.sub (ws' := [(ho, .inr (0, [vz_0, vz_1, vz_2, .int (nI T), vz_4, vz_5, vz_6, .ref aK, vz_8, vz_9, .ref aH, .ref aU])), (aK, .inl (cI, 6, .inl fK)), (aH, .inl (cI, 6, .inl fH)), (aU, .inl (cI, 6, .inl fU)), (tr, .inr (4, [.ref bg, .int (nI tc2_32)])), (bg, .inl (cI, 16, .inl gf2_31))]) [0, 1, 2, 3, 4, 5] (by decide) rfl
    exact wt_iret hx hb hr hlocks hP9 hD9 hS ⟨gf2_31, tc2_32, rfl, (by omega)⟩ dX5_begin_139
  rcases wt_dec (bo) 13 with c_35 | c_35
  · subst c_35
    refine lv_tableIn (off := 119) (tgt := 140) hx hb dX5_begin_21 (by decide) (by decide) rfl (by decide) ?_
    refine lv_aload_n hx hb dX5_begin_140 rfl (lv_at hl 1 rfl) ?_
    refine lv_aload_n hx hb dX5_begin_141 rfl (lv_at hl 2 rfl) ?_
    refine lv_bipush (v := 10) hx hb dX5_begin_142 (by decide) ?_
    refine lv_iload_n hx hb dX5_begin_144 rfl (lv_at hl 4 rfl) ?_
    refine lv_iload hx hb dX5_begin_145 (lv_at hl 0 rfl) ?_
    refine wt_goI (wr := []) (wt_runSZ (As := [.ref ho, .ref tr, .int 10, .int (nI j), .int (nI (d + 1))]) (rest := []) ⟨hx, hb, hml, hown, hts⟩ (c_X5_begin_15 l D cI cZ cH _ _ _ ho aK aH aU T j (d + 1) fK fH fU tr bg tc2_5 gf2_4 10 vz_0 vz_1 vz_2 vz_4 vz_5 vz_6 vz_8 vz_9 (by first | assumption | omega) (by first | assumption | omega) (by first | assumption | omega) (by first | assumption | omega)) (va_cwS 5 hts gX5_begin_X5_begin rfl rfl rfl (by decide +kernel) ⟨Nat.le_of_ble_eq_true rfl, Nat.le_of_ble_eq_true rfl⟩) hK hP hD [0, 1, 2, 3, 4, 5] rfl (by decide) hZ hS hA rfl hl.1 rfl (Nat.le_of_ble_eq_true rfl) dX5_begin_147 ⟨Nat.le_of_ble_eq_true rfl, Nat.le_of_ble_eq_true rfl⟩) hP hD hS hA [0, 1, 2, 3, 4, 5] [] rfl rfl (by decide) (by decide) (fun r_36 w_37 H locs h_38 hP hD hS => ?_)
    obtain ⟨gf2_39, tc2_40, rfl, x_41⟩ := h_38
    have hP : va_P D vwCl [(ho, .inr (0, [vz_0, vz_1, vz_2, .int (nI T), vz_4, vz_5, vz_6, .ref aK, vz_8, vz_9, .ref aH, .ref aU])), (aK, .inl (cI, 6, .inl fK)), (aH, .inl (cI, 6, .inl fH)), (aU, .inl (cI, 6, .inl fU)), (tr, .inr (4, [.ref bg, .int (nI tc2_40)])), (bg, .inl (cI, 16, .inl gf2_39))] H := hP
    have hD : va_D A [(ho, .inr (0, [vz_0, vz_1, vz_2, .int (nI T), vz_4, vz_5, vz_6, .ref aK, vz_8, vz_9, .ref aH, .ref aU])), (aK, .inl (cI, 6, .inl fK)), (aH, .inl (cI, 6, .inl fH)), (aU, .inl (cI, 6, .inl fU)), (tr, .inr (4, [.ref bg, .int (nI tc2_40)])), (bg, .inl (cI, 16, .inl gf2_39))] := hD
    refine lv_bipush (v := 100) hx hb dX5_begin_150 (by decide) ?_
    refine lv_isub hx hb dX5_begin_152 ?_
    refine lv_topi (fun ov_42 _ => ?_)
    have hP9 := hP.sub (ws' := [(ho, .inr (0, [vz_0, vz_1, vz_2, .int (nI T), vz_4, vz_5, vz_6, .ref aK, vz_8, vz_9, .ref aH, .ref aU])), (aK, .inl (cI, 6, .inl fK)), (aH, .inl (cI, 6, .inl fH)), (aU, .inl (cI, 6, .inl fU)), (tr, .inr (4, [.ref bg, .int (nI tc2_40)])), (bg, .inl (cI, 16, .inl gf2_39))]) [0, 1, 2, 3, 4, 5] rfl
    have hD9 := hD.sub (ws' := [(ho, .inr (0, [vz_0, vz_1, vz_2, .int (nI T), vz_4, vz_5, vz_6, .ref aK, vz_8, vz_9, .ref aH, .ref aU])), (aK, .inl (cI, 6, .inl fK)), (aH, .inl (cI, 6, .inl fH)), (aU, .inl (cI, 6, .inl fU)), (tr, .inr (4, [.ref bg, .int (nI tc2_40)])), (bg, .inl (cI, 16, .inl gf2_39))]) [0, 1, 2, 3, 4, 5] (by decide) rfl
    exact wt_iret hx hb hr hlocks hP9 hD9 hS ⟨gf2_39, tc2_40, rfl, (by omega)⟩ dX5_begin_153
  rcases wt_dec (bo) 14 with c_43 | c_43
  · subst c_43
    refine lv_tableIn (off := 133) (tgt := 154) hx hb dX5_begin_21 (by decide) (by decide) rfl (by decide) ?_
    refine lv_aload_n hx hb dX5_begin_154 rfl (lv_at hl 1 rfl) ?_
    refine lv_aload_n hx hb dX5_begin_155 rfl (lv_at hl 2 rfl) ?_
    refine lv_bipush (v := 13) hx hb dX5_begin_156 (by decide) ?_
    refine lv_iload_n hx hb dX5_begin_158 rfl (lv_at hl 4 rfl) ?_
    refine lv_iload hx hb dX5_begin_159 (lv_at hl 0 rfl) ?_
    refine wt_goI (wr := []) (wt_runSZ (As := [.ref ho, .ref tr, .int 13, .int (nI j), .int (nI (d + 1))]) (rest := []) ⟨hx, hb, hml, hown, hts⟩ (c_X5_begin_15 l D cI cZ cH _ _ _ ho aK aH aU T j (d + 1) fK fH fU tr bg tc2_5 gf2_4 13 vz_0 vz_1 vz_2 vz_4 vz_5 vz_6 vz_8 vz_9 (by first | assumption | omega) (by first | assumption | omega) (by first | assumption | omega) (by first | assumption | omega)) (va_cwS 5 hts gX5_begin_X5_begin rfl rfl rfl (by decide +kernel) ⟨Nat.le_of_ble_eq_true rfl, Nat.le_of_ble_eq_true rfl⟩) hK hP hD [0, 1, 2, 3, 4, 5] rfl (by decide) hZ hS hA rfl hl.1 rfl (Nat.le_of_ble_eq_true rfl) dX5_begin_161 ⟨Nat.le_of_ble_eq_true rfl, Nat.le_of_ble_eq_true rfl⟩) hP hD hS hA [0, 1, 2, 3, 4, 5] [] rfl rfl (by decide) (by decide) (fun r_44 w_45 H locs h_46 hP hD hS => ?_)
    obtain ⟨gf2_47, tc2_48, rfl, x_49⟩ := h_46
    have hP : va_P D vwCl [(ho, .inr (0, [vz_0, vz_1, vz_2, .int (nI T), vz_4, vz_5, vz_6, .ref aK, vz_8, vz_9, .ref aH, .ref aU])), (aK, .inl (cI, 6, .inl fK)), (aH, .inl (cI, 6, .inl fH)), (aU, .inl (cI, 6, .inl fU)), (tr, .inr (4, [.ref bg, .int (nI tc2_48)])), (bg, .inl (cI, 16, .inl gf2_47))] H := hP
    have hD : va_D A [(ho, .inr (0, [vz_0, vz_1, vz_2, .int (nI T), vz_4, vz_5, vz_6, .ref aK, vz_8, vz_9, .ref aH, .ref aU])), (aK, .inl (cI, 6, .inl fK)), (aH, .inl (cI, 6, .inl fH)), (aU, .inl (cI, 6, .inl fU)), (tr, .inr (4, [.ref bg, .int (nI tc2_48)])), (bg, .inl (cI, 16, .inl gf2_47))] := hD
    refine lv_iconst (v := 2) hx hb dX5_begin_164 (by decide) ?_
    refine lv_imul hx hb dX5_begin_165 ?_
    refine lv_topi (fun ov_50 _ => ?_)
    have hP9 := hP.sub (ws' := [(ho, .inr (0, [vz_0, vz_1, vz_2, .int (nI T), vz_4, vz_5, vz_6, .ref aK, vz_8, vz_9, .ref aH, .ref aU])), (aK, .inl (cI, 6, .inl fK)), (aH, .inl (cI, 6, .inl fH)), (aU, .inl (cI, 6, .inl fU)), (tr, .inr (4, [.ref bg, .int (nI tc2_48)])), (bg, .inl (cI, 16, .inl gf2_47))]) [0, 1, 2, 3, 4, 5] rfl
    have hD9 := hD.sub (ws' := [(ho, .inr (0, [vz_0, vz_1, vz_2, .int (nI T), vz_4, vz_5, vz_6, .ref aK, vz_8, vz_9, .ref aH, .ref aU])), (aK, .inl (cI, 6, .inl fK)), (aH, .inl (cI, 6, .inl fH)), (aU, .inl (cI, 6, .inl fU)), (tr, .inr (4, [.ref bg, .int (nI tc2_48)])), (bg, .inl (cI, 16, .inl gf2_47))]) [0, 1, 2, 3, 4, 5] (by decide) rfl
    exact wt_iret hx hb hr hlocks hP9 hD9 hS ⟨gf2_47, tc2_48, rfl, (by omega)⟩ dX5_begin_166
  rcases wt_dec (bo) 15 with c_51 | c_51
  · subst c_51
    refine lv_tableIn (off := 219) (tgt := 240) hx hb dX5_begin_21 (by decide) (by decide) rfl (by decide) ?_
    refine lv_iconst (v := 0) hx hb dX5_begin_240 (by decide) ?_
    have hP9 := hP.sub (ws' := [(ho, .inr (0, [vz_0, vz_1, vz_2, .int (nI T), vz_4, vz_5, vz_6, .ref aK, vz_8, vz_9, .ref aH, .ref aU])), (aK, .inl (cI, 6, .inl fK)), (aH, .inl (cI, 6, .inl fH)), (aU, .inl (cI, 6, .inl fU)), (tr, .inr (4, [.ref bg, .int (nI tc2_5)])), (bg, .inl (cI, 16, .inl gf2_4))]) [0, 1, 2, 3, 4, 5] rfl
    have hD9 := hD.sub (ws' := [(ho, .inr (0, [vz_0, vz_1, vz_2, .int (nI T), vz_4, vz_5, vz_6, .ref aK, vz_8, vz_9, .ref aH, .ref aU])), (aK, .inl (cI, 6, .inl fK)), (aH, .inl (cI, 6, .inl fH)), (aU, .inl (cI, 6, .inl fU)), (tr, .inr (4, [.ref bg, .int (nI tc2_5)])), (bg, .inl (cI, 16, .inl gf2_4))]) [0, 1, 2, 3, 4, 5] (by decide) rfl
    exact wt_iret hx hb hr hlocks hP9 hD9 hS ⟨gf2_4, tc2_5, rfl, (by omega)⟩ dX5_begin_241
  rcases wt_dec (bo) 16 with c_52 | c_52
  · subst c_52
    refine lv_tableIn (off := 219) (tgt := 240) hx hb dX5_begin_21 (by decide) (by decide) rfl (by decide) ?_
    refine lv_iconst (v := 0) hx hb dX5_begin_240 (by decide) ?_
    have hP9 := hP.sub (ws' := [(ho, .inr (0, [vz_0, vz_1, vz_2, .int (nI T), vz_4, vz_5, vz_6, .ref aK, vz_8, vz_9, .ref aH, .ref aU])), (aK, .inl (cI, 6, .inl fK)), (aH, .inl (cI, 6, .inl fH)), (aU, .inl (cI, 6, .inl fU)), (tr, .inr (4, [.ref bg, .int (nI tc2_5)])), (bg, .inl (cI, 16, .inl gf2_4))]) [0, 1, 2, 3, 4, 5] rfl
    have hD9 := hD.sub (ws' := [(ho, .inr (0, [vz_0, vz_1, vz_2, .int (nI T), vz_4, vz_5, vz_6, .ref aK, vz_8, vz_9, .ref aH, .ref aU])), (aK, .inl (cI, 6, .inl fK)), (aH, .inl (cI, 6, .inl fH)), (aU, .inl (cI, 6, .inl fU)), (tr, .inr (4, [.ref bg, .int (nI tc2_5)])), (bg, .inl (cI, 16, .inl gf2_4))]) [0, 1, 2, 3, 4, 5] (by decide) rfl
    exact wt_iret hx hb hr hlocks hP9 hD9 hS ⟨gf2_4, tc2_5, rfl, (by omega)⟩ dX5_begin_241
  rcases wt_dec (bo) 17 with c_53 | c_53
  · subst c_53
    refine lv_tableIn (off := 219) (tgt := 240) hx hb dX5_begin_21 (by decide) (by decide) rfl (by decide) ?_
    refine lv_iconst (v := 0) hx hb dX5_begin_240 (by decide) ?_
    have hP9 := hP.sub (ws' := [(ho, .inr (0, [vz_0, vz_1, vz_2, .int (nI T), vz_4, vz_5, vz_6, .ref aK, vz_8, vz_9, .ref aH, .ref aU])), (aK, .inl (cI, 6, .inl fK)), (aH, .inl (cI, 6, .inl fH)), (aU, .inl (cI, 6, .inl fU)), (tr, .inr (4, [.ref bg, .int (nI tc2_5)])), (bg, .inl (cI, 16, .inl gf2_4))]) [0, 1, 2, 3, 4, 5] rfl
    have hD9 := hD.sub (ws' := [(ho, .inr (0, [vz_0, vz_1, vz_2, .int (nI T), vz_4, vz_5, vz_6, .ref aK, vz_8, vz_9, .ref aH, .ref aU])), (aK, .inl (cI, 6, .inl fK)), (aH, .inl (cI, 6, .inl fH)), (aU, .inl (cI, 6, .inl fU)), (tr, .inr (4, [.ref bg, .int (nI tc2_5)])), (bg, .inl (cI, 16, .inl gf2_4))]) [0, 1, 2, 3, 4, 5] (by decide) rfl
    exact wt_iret hx hb hr hlocks hP9 hD9 hS ⟨gf2_4, tc2_5, rfl, (by omega)⟩ dX5_begin_241
  rcases wt_dec (bo) 18 with c_54 | c_54
  · subst c_54
    refine lv_tableIn (off := 219) (tgt := 240) hx hb dX5_begin_21 (by decide) (by decide) rfl (by decide) ?_
    refine lv_iconst (v := 0) hx hb dX5_begin_240 (by decide) ?_
    have hP9 := hP.sub (ws' := [(ho, .inr (0, [vz_0, vz_1, vz_2, .int (nI T), vz_4, vz_5, vz_6, .ref aK, vz_8, vz_9, .ref aH, .ref aU])), (aK, .inl (cI, 6, .inl fK)), (aH, .inl (cI, 6, .inl fH)), (aU, .inl (cI, 6, .inl fU)), (tr, .inr (4, [.ref bg, .int (nI tc2_5)])), (bg, .inl (cI, 16, .inl gf2_4))]) [0, 1, 2, 3, 4, 5] rfl
    have hD9 := hD.sub (ws' := [(ho, .inr (0, [vz_0, vz_1, vz_2, .int (nI T), vz_4, vz_5, vz_6, .ref aK, vz_8, vz_9, .ref aH, .ref aU])), (aK, .inl (cI, 6, .inl fK)), (aH, .inl (cI, 6, .inl fH)), (aU, .inl (cI, 6, .inl fU)), (tr, .inr (4, [.ref bg, .int (nI tc2_5)])), (bg, .inl (cI, 16, .inl gf2_4))]) [0, 1, 2, 3, 4, 5] (by decide) rfl
    exact wt_iret hx hb hr hlocks hP9 hD9 hS ⟨gf2_4, tc2_5, rfl, (by omega)⟩ dX5_begin_241
  rcases wt_dec (bo) 19 with c_55 | c_55
  · subst c_55
    refine lv_tableIn (off := 219) (tgt := 240) hx hb dX5_begin_21 (by decide) (by decide) rfl (by decide) ?_
    refine lv_iconst (v := 0) hx hb dX5_begin_240 (by decide) ?_
    have hP9 := hP.sub (ws' := [(ho, .inr (0, [vz_0, vz_1, vz_2, .int (nI T), vz_4, vz_5, vz_6, .ref aK, vz_8, vz_9, .ref aH, .ref aU])), (aK, .inl (cI, 6, .inl fK)), (aH, .inl (cI, 6, .inl fH)), (aU, .inl (cI, 6, .inl fU)), (tr, .inr (4, [.ref bg, .int (nI tc2_5)])), (bg, .inl (cI, 16, .inl gf2_4))]) [0, 1, 2, 3, 4, 5] rfl
    have hD9 := hD.sub (ws' := [(ho, .inr (0, [vz_0, vz_1, vz_2, .int (nI T), vz_4, vz_5, vz_6, .ref aK, vz_8, vz_9, .ref aH, .ref aU])), (aK, .inl (cI, 6, .inl fK)), (aH, .inl (cI, 6, .inl fH)), (aU, .inl (cI, 6, .inl fU)), (tr, .inr (4, [.ref bg, .int (nI tc2_5)])), (bg, .inl (cI, 16, .inl gf2_4))]) [0, 1, 2, 3, 4, 5] (by decide) rfl
    exact wt_iret hx hb hr hlocks hP9 hD9 hS ⟨gf2_4, tc2_5, rfl, (by omega)⟩ dX5_begin_241
  rcases wt_dec (bo) 20 with c_56 | c_56
  · subst c_56
    refine lv_tableIn (off := 146) (tgt := 167) hx hb dX5_begin_21 (by decide) (by decide) rfl (by decide) ?_
    refine lv_iload_n hx hb dX5_begin_167 rfl (lv_at hl 4 rfl) ?_
    have hP9 := hP.sub (ws' := [(ho, .inr (0, [vz_0, vz_1, vz_2, .int (nI T), vz_4, vz_5, vz_6, .ref aK, vz_8, vz_9, .ref aH, .ref aU])), (aK, .inl (cI, 6, .inl fK)), (aH, .inl (cI, 6, .inl fH)), (aU, .inl (cI, 6, .inl fU)), (tr, .inr (4, [.ref bg, .int (nI tc2_5)])), (bg, .inl (cI, 16, .inl gf2_4))]) [0, 1, 2, 3, 4, 5] rfl
    have hD9 := hD.sub (ws' := [(ho, .inr (0, [vz_0, vz_1, vz_2, .int (nI T), vz_4, vz_5, vz_6, .ref aK, vz_8, vz_9, .ref aH, .ref aU])), (aK, .inl (cI, 6, .inl fK)), (aH, .inl (cI, 6, .inl fH)), (aU, .inl (cI, 6, .inl fU)), (tr, .inr (4, [.ref bg, .int (nI tc2_5)])), (bg, .inl (cI, 16, .inl gf2_4))]) [0, 1, 2, 3, 4, 5] (by decide) rfl
    exact wt_iret hx hb hr hlocks hP9 hD9 hS ⟨gf2_4, tc2_5, rfl, (by omega)⟩ dX5_begin_168
  rcases wt_dec (bo) 21 with c_57 | c_57
  · subst c_57
    refine lv_tableIn (off := 148) (tgt := 169) hx hb dX5_begin_21 (by decide) (by decide) rfl (by decide) ?_
    refine lv_aload_n hx hb dX5_begin_169 rfl (lv_at hl 1 rfl) ?_
    refine lv_aload_n hx hb dX5_begin_170 rfl (lv_at hl 2 rfl) ?_
    refine lv_bipush (v := 20) hx hb dX5_begin_171 (by decide) ?_
    refine lv_iload_n hx hb dX5_begin_173 rfl (lv_at hl 4 rfl) ?_
    refine lv_iload hx hb dX5_begin_174 (lv_at hl 0 rfl) ?_
    refine wt_goI (wr := []) (wt_runSZ (As := [.ref ho, .ref tr, .int 20, .int (nI j), .int (nI (d + 1))]) (rest := []) ⟨hx, hb, hml, hown, hts⟩ (c_X5_begin_15 l D cI cZ cH _ _ _ ho aK aH aU T j (d + 1) fK fH fU tr bg tc2_5 gf2_4 20 vz_0 vz_1 vz_2 vz_4 vz_5 vz_6 vz_8 vz_9 (by first | assumption | omega) (by first | assumption | omega) (by first | assumption | omega) (by first | assumption | omega)) (va_cwS 5 hts gX5_begin_X5_begin rfl rfl rfl (by decide +kernel) ⟨Nat.le_of_ble_eq_true rfl, Nat.le_of_ble_eq_true rfl⟩) hK hP hD [0, 1, 2, 3, 4, 5] rfl (by decide) hZ hS hA rfl hl.1 rfl (Nat.le_of_ble_eq_true rfl) dX5_begin_176 ⟨Nat.le_of_ble_eq_true rfl, Nat.le_of_ble_eq_true rfl⟩) hP hD hS hA [0, 1, 2, 3, 4, 5] [] rfl rfl (by decide) (by decide) (fun r_58 w_59 H locs h_60 hP hD hS => ?_)
    obtain ⟨gf2_61, tc2_62, rfl, x_63⟩ := h_60
    have hP : va_P D vwCl [(ho, .inr (0, [vz_0, vz_1, vz_2, .int (nI T), vz_4, vz_5, vz_6, .ref aK, vz_8, vz_9, .ref aH, .ref aU])), (aK, .inl (cI, 6, .inl fK)), (aH, .inl (cI, 6, .inl fH)), (aU, .inl (cI, 6, .inl fU)), (tr, .inr (4, [.ref bg, .int (nI tc2_62)])), (bg, .inl (cI, 16, .inl gf2_61))] H := hP
    have hD : va_D A [(ho, .inr (0, [vz_0, vz_1, vz_2, .int (nI T), vz_4, vz_5, vz_6, .ref aK, vz_8, vz_9, .ref aH, .ref aU])), (aK, .inl (cI, 6, .inl fK)), (aH, .inl (cI, 6, .inl fH)), (aU, .inl (cI, 6, .inl fU)), (tr, .inr (4, [.ref bg, .int (nI tc2_62)])), (bg, .inl (cI, 16, .inl gf2_61))] := hD
    refine lv_aload_n hx hb dX5_begin_179 rfl (lv_at hl 1 rfl) ?_
    refine va_get (D := D) (ci := 0) (v := .ref aU) (C := RX0) (T := TX0) (N := 12) hx hb hts hi0 hown hK.1 hP 0 rfl rfl 11 (by decide) wf175 (fun _ h9 => h9) rfl dX5_begin_180 ?_
    refine lv_iload_n hx hb dX5_begin_183 rfl (lv_at hl 4 rfl) ?_
    refine va_iald hx hb hK.1 hP 3 0 rfl rfl (vp_in_nI (by omega) (by omega)) dX5_begin_184 ?_
    refine lv_topi (fun ov_64 _ => ?_)
    refine lv_iadd hx hb dX5_begin_185 ?_
    refine lv_topi (fun ov_65 _ => ?_)
    have hP9 := hP.sub (ws' := [(ho, .inr (0, [vz_0, vz_1, vz_2, .int (nI T), vz_4, vz_5, vz_6, .ref aK, vz_8, vz_9, .ref aH, .ref aU])), (aK, .inl (cI, 6, .inl fK)), (aH, .inl (cI, 6, .inl fH)), (aU, .inl (cI, 6, .inl fU)), (tr, .inr (4, [.ref bg, .int (nI tc2_62)])), (bg, .inl (cI, 16, .inl gf2_61))]) [0, 1, 2, 3, 4, 5] rfl
    have hD9 := hD.sub (ws' := [(ho, .inr (0, [vz_0, vz_1, vz_2, .int (nI T), vz_4, vz_5, vz_6, .ref aK, vz_8, vz_9, .ref aH, .ref aU])), (aK, .inl (cI, 6, .inl fK)), (aH, .inl (cI, 6, .inl fH)), (aU, .inl (cI, 6, .inl fU)), (tr, .inr (4, [.ref bg, .int (nI tc2_62)])), (bg, .inl (cI, 16, .inl gf2_61))]) [0, 1, 2, 3, 4, 5] (by decide) rfl
    exact wt_iret hx hb hr hlocks hP9 hD9 hS ⟨gf2_61, tc2_62, rfl, (by omega)⟩ dX5_begin_186
  rcases wt_dec (bo) 22 with c_66 | c_66
  · subst c_66
    refine lv_tableIn (off := 166) (tgt := 187) hx hb dX5_begin_21 (by decide) (by decide) rfl (by decide) ?_
    refine lv_aload_n hx hb dX5_begin_187 rfl (lv_at hl 1 rfl) ?_
    refine lv_aload_n hx hb dX5_begin_188 rfl (lv_at hl 2 rfl) ?_
    refine lv_bipush (v := 21) hx hb dX5_begin_189 (by decide) ?_
    refine lv_iload_n hx hb dX5_begin_191 rfl (lv_at hl 4 rfl) ?_
    refine lv_iload hx hb dX5_begin_192 (lv_at hl 0 rfl) ?_
    refine wt_goI (wr := []) (wt_runSZ (As := [.ref ho, .ref tr, .int 21, .int (nI j), .int (nI (d + 1))]) (rest := []) ⟨hx, hb, hml, hown, hts⟩ (c_X5_begin_15 l D cI cZ cH _ _ _ ho aK aH aU T j (d + 1) fK fH fU tr bg tc2_5 gf2_4 21 vz_0 vz_1 vz_2 vz_4 vz_5 vz_6 vz_8 vz_9 (by first | assumption | omega) (by first | assumption | omega) (by first | assumption | omega) (by first | assumption | omega)) (va_cwS 5 hts gX5_begin_X5_begin rfl rfl rfl (by decide +kernel) ⟨Nat.le_of_ble_eq_true rfl, Nat.le_of_ble_eq_true rfl⟩) hK hP hD [0, 1, 2, 3, 4, 5] rfl (by decide) hZ hS hA rfl hl.1 rfl (Nat.le_of_ble_eq_true rfl) dX5_begin_194 ⟨Nat.le_of_ble_eq_true rfl, Nat.le_of_ble_eq_true rfl⟩) hP hD hS hA [0, 1, 2, 3, 4, 5] [] rfl rfl (by decide) (by decide) (fun r_67 w_68 H locs h_69 hP hD hS => ?_)
    obtain ⟨gf2_70, tc2_71, rfl, x_72⟩ := h_69
    have hP : va_P D vwCl [(ho, .inr (0, [vz_0, vz_1, vz_2, .int (nI T), vz_4, vz_5, vz_6, .ref aK, vz_8, vz_9, .ref aH, .ref aU])), (aK, .inl (cI, 6, .inl fK)), (aH, .inl (cI, 6, .inl fH)), (aU, .inl (cI, 6, .inl fU)), (tr, .inr (4, [.ref bg, .int (nI tc2_71)])), (bg, .inl (cI, 16, .inl gf2_70))] H := hP
    have hD : va_D A [(ho, .inr (0, [vz_0, vz_1, vz_2, .int (nI T), vz_4, vz_5, vz_6, .ref aK, vz_8, vz_9, .ref aH, .ref aU])), (aK, .inl (cI, 6, .inl fK)), (aH, .inl (cI, 6, .inl fH)), (aU, .inl (cI, 6, .inl fU)), (tr, .inr (4, [.ref bg, .int (nI tc2_71)])), (bg, .inl (cI, 16, .inl gf2_70))] := hD
    refine lv_sipush (v := 1000) hx hb dX5_begin_197 (by decide) ?_
    refine lv_isub hx hb dX5_begin_200 ?_
    refine lv_topi (fun ov_73 _ => ?_)
    have hP9 := hP.sub (ws' := [(ho, .inr (0, [vz_0, vz_1, vz_2, .int (nI T), vz_4, vz_5, vz_6, .ref aK, vz_8, vz_9, .ref aH, .ref aU])), (aK, .inl (cI, 6, .inl fK)), (aH, .inl (cI, 6, .inl fH)), (aU, .inl (cI, 6, .inl fU)), (tr, .inr (4, [.ref bg, .int (nI tc2_71)])), (bg, .inl (cI, 16, .inl gf2_70))]) [0, 1, 2, 3, 4, 5] rfl
    have hD9 := hD.sub (ws' := [(ho, .inr (0, [vz_0, vz_1, vz_2, .int (nI T), vz_4, vz_5, vz_6, .ref aK, vz_8, vz_9, .ref aH, .ref aU])), (aK, .inl (cI, 6, .inl fK)), (aH, .inl (cI, 6, .inl fH)), (aU, .inl (cI, 6, .inl fU)), (tr, .inr (4, [.ref bg, .int (nI tc2_71)])), (bg, .inl (cI, 16, .inl gf2_70))]) [0, 1, 2, 3, 4, 5] (by decide) rfl
    exact wt_iret hx hb hr hlocks hP9 hD9 hS ⟨gf2_70, tc2_71, rfl, (by omega)⟩ dX5_begin_201
  rcases wt_dec (bo) 23 with c_74 | c_74
  · subst c_74
    refine lv_tableIn (off := 181) (tgt := 202) hx hb dX5_begin_21 (by decide) (by decide) rfl (by decide) ?_
    refine lv_aload_n hx hb dX5_begin_202 rfl (lv_at hl 1 rfl) ?_
    refine lv_aload_n hx hb dX5_begin_203 rfl (lv_at hl 2 rfl) ?_
    refine lv_bipush (v := 20) hx hb dX5_begin_204 (by decide) ?_
    refine lv_iload_n hx hb dX5_begin_206 rfl (lv_at hl 4 rfl) ?_
    refine lv_iload hx hb dX5_begin_207 (lv_at hl 0 rfl) ?_
    refine wt_goI (wr := []) (wt_runSZ (As := [.ref ho, .ref tr, .int 20, .int (nI j), .int (nI (d + 1))]) (rest := []) ⟨hx, hb, hml, hown, hts⟩ (c_X5_begin_15 l D cI cZ cH _ _ _ ho aK aH aU T j (d + 1) fK fH fU tr bg tc2_5 gf2_4 20 vz_0 vz_1 vz_2 vz_4 vz_5 vz_6 vz_8 vz_9 (by first | assumption | omega) (by first | assumption | omega) (by first | assumption | omega) (by first | assumption | omega)) (va_cwS 5 hts gX5_begin_X5_begin rfl rfl rfl (by decide +kernel) ⟨Nat.le_of_ble_eq_true rfl, Nat.le_of_ble_eq_true rfl⟩) hK hP hD [0, 1, 2, 3, 4, 5] rfl (by decide) hZ hS hA rfl hl.1 rfl (Nat.le_of_ble_eq_true rfl) dX5_begin_209 ⟨Nat.le_of_ble_eq_true rfl, Nat.le_of_ble_eq_true rfl⟩) hP hD hS hA [0, 1, 2, 3, 4, 5] [] rfl rfl (by decide) (by decide) (fun r_75 w_76 H locs h_77 hP hD hS => ?_)
    obtain ⟨gf2_78, tc2_79, rfl, x_80⟩ := h_77
    have hP : va_P D vwCl [(ho, .inr (0, [vz_0, vz_1, vz_2, .int (nI T), vz_4, vz_5, vz_6, .ref aK, vz_8, vz_9, .ref aH, .ref aU])), (aK, .inl (cI, 6, .inl fK)), (aH, .inl (cI, 6, .inl fH)), (aU, .inl (cI, 6, .inl fU)), (tr, .inr (4, [.ref bg, .int (nI tc2_79)])), (bg, .inl (cI, 16, .inl gf2_78))] H := hP
    have hD : va_D A [(ho, .inr (0, [vz_0, vz_1, vz_2, .int (nI T), vz_4, vz_5, vz_6, .ref aK, vz_8, vz_9, .ref aH, .ref aU])), (aK, .inl (cI, 6, .inl fK)), (aH, .inl (cI, 6, .inl fH)), (aU, .inl (cI, 6, .inl fU)), (tr, .inr (4, [.ref bg, .int (nI tc2_79)])), (bg, .inl (cI, 16, .inl gf2_78))] := hD
    refine lv_aload_n hx hb dX5_begin_212 rfl (lv_at hl 1 rfl) ?_
    refine lv_aload_n hx hb dX5_begin_213 rfl (lv_at hl 2 rfl) ?_
    refine lv_aload_n hx hb dX5_begin_214 rfl (lv_at hl 1 rfl) ?_
    refine lv_iload_n hx hb dX5_begin_215 rfl (lv_at hl 4 rfl) ?_
    refine wt_goI (wr := [(aH, .inl (cI, 6, .inl fH)), (aU, .inl (cI, 6, .inl fU)), (tr, .inr (4, [.ref bg, .int (nI tc2_79)])), (bg, .inl (cI, 16, .inl gf2_78))]) (wt_runSZ (As := [.ref ho, .int (nI j)]) (rest := [.ref tr, .ref ho, .int r_75]) ⟨hx, hb, hml, hown, hts⟩ (c_X5_sizeBody l D cI cZ cH _ _ _ ho aK T j fK vz_0 vz_1 vz_2 vz_4 vz_5 vz_6 vz_8 vz_9 (.ref aH) (.ref aU) (by first | assumption | omega) (by first | assumption | omega)) (va_cwS 2 hts gX5_begin_X5_sizeBody rfl rfl rfl (by decide +kernel) ⟨Nat.le_of_ble_eq_true rfl, Nat.le_of_ble_eq_true rfl⟩) hK hP hD [0, 1] rfl (by decide) hZ hS hA rfl hl.1 rfl (Nat.le_of_ble_eq_true rfl) dX5_begin_216 ⟨Nat.le_of_ble_eq_true rfl, Nat.le_of_ble_eq_true rfl⟩) hP hD hS hA [0, 1] [2, 3, 4, 5] rfl rfl (by decide) (by decide) (fun r_81 w_82 H locs h_83 hP hD hS => ?_)
    obtain rfl := h_83
    have hP : va_P D vwCl [(aH, .inl (cI, 6, .inl fH)), (aU, .inl (cI, 6, .inl fU)), (tr, .inr (4, [.ref bg, .int (nI tc2_79)])), (bg, .inl (cI, 16, .inl gf2_78)), (ho, .inr (0, [vz_0, vz_1, vz_2, .int (nI T), vz_4, vz_5, vz_6, .ref aK, vz_8, vz_9, .ref aH, .ref aU])), (aK, .inl (cI, 6, .inl fK))] H := hP
    have hD : va_D A [(aH, .inl (cI, 6, .inl fH)), (aU, .inl (cI, 6, .inl fU)), (tr, .inr (4, [.ref bg, .int (nI tc2_79)])), (bg, .inl (cI, 16, .inl gf2_78)), (ho, .inr (0, [vz_0, vz_1, vz_2, .int (nI T), vz_4, vz_5, vz_6, .ref aK, vz_8, vz_9, .ref aH, .ref aU])), (aK, .inl (cI, 6, .inl fK))] := hD
    refine lv_iload_n hx hb dX5_begin_219 rfl (lv_at hl 4 rfl) ?_
    refine lv_iload hx hb dX5_begin_220 (lv_at hl 0 rfl) ?_
    refine wt_goI (wr := []) (wt_runSZ (As := [.ref ho, .ref tr, .int r_81, .int (nI j), .int (nI (d + 1))]) (rest := [.int r_75]) ⟨hx, hb, hml, hown, hts⟩ (c_X5_begin_15 l D cI cZ cH _ _ _ ho aK aH aU T j (d + 1) fK fH fU tr bg tc2_79 gf2_78 r_81 vz_0 vz_1 vz_2 vz_4 vz_5 vz_6 vz_8 vz_9 (by first | assumption | omega) (by first | assumption | omega) (by first | assumption | omega) (by first | assumption | omega)) (va_cwS 5 hts gX5_begin_X5_begin rfl rfl rfl (by decide +kernel) ⟨Nat.le_of_ble_eq_true rfl, Nat.le_of_ble_eq_true rfl⟩) hK hP hD [4, 5, 0, 1, 2, 3] rfl (by decide) hZ hS hA rfl hl.1 rfl (Nat.le_of_ble_eq_true rfl) dX5_begin_222 ⟨Nat.le_of_ble_eq_true rfl, Nat.le_of_ble_eq_true rfl⟩) hP hD hS hA [4, 5, 0, 1, 2, 3] [] rfl rfl (by decide) (by decide) (fun r_84 w_85 H locs h_86 hP hD hS => ?_)
    obtain ⟨gf2_87, tc2_88, rfl, x_89⟩ := h_86
    have hP : va_P D vwCl [(ho, .inr (0, [vz_0, vz_1, vz_2, .int (nI T), vz_4, vz_5, vz_6, .ref aK, vz_8, vz_9, .ref aH, .ref aU])), (aK, .inl (cI, 6, .inl fK)), (aH, .inl (cI, 6, .inl fH)), (aU, .inl (cI, 6, .inl fU)), (tr, .inr (4, [.ref bg, .int (nI tc2_88)])), (bg, .inl (cI, 16, .inl gf2_87))] H := hP
    have hD : va_D A [(ho, .inr (0, [vz_0, vz_1, vz_2, .int (nI T), vz_4, vz_5, vz_6, .ref aK, vz_8, vz_9, .ref aH, .ref aU])), (aK, .inl (cI, 6, .inl fK)), (aH, .inl (cI, 6, .inl fH)), (aU, .inl (cI, 6, .inl fU)), (tr, .inr (4, [.ref bg, .int (nI tc2_88)])), (bg, .inl (cI, 16, .inl gf2_87))] := hD
    refine lv_isub hx hb dX5_begin_225 ?_
    refine lv_topi (fun ov_90 _ => ?_)
    have hP9 := hP.sub (ws' := [(ho, .inr (0, [vz_0, vz_1, vz_2, .int (nI T), vz_4, vz_5, vz_6, .ref aK, vz_8, vz_9, .ref aH, .ref aU])), (aK, .inl (cI, 6, .inl fK)), (aH, .inl (cI, 6, .inl fH)), (aU, .inl (cI, 6, .inl fU)), (tr, .inr (4, [.ref bg, .int (nI tc2_88)])), (bg, .inl (cI, 16, .inl gf2_87))]) [0, 1, 2, 3, 4, 5] rfl
    have hD9 := hD.sub (ws' := [(ho, .inr (0, [vz_0, vz_1, vz_2, .int (nI T), vz_4, vz_5, vz_6, .ref aK, vz_8, vz_9, .ref aH, .ref aU])), (aK, .inl (cI, 6, .inl fK)), (aH, .inl (cI, 6, .inl fH)), (aU, .inl (cI, 6, .inl fU)), (tr, .inr (4, [.ref bg, .int (nI tc2_88)])), (bg, .inl (cI, 16, .inl gf2_87))]) [0, 1, 2, 3, 4, 5] (by decide) rfl
    exact wt_iret hx hb hr hlocks hP9 hD9 hS ⟨gf2_87, tc2_88, rfl, (by omega)⟩ dX5_begin_226
  rcases wt_dec (bo) 24 with c_91 | c_91
  · subst c_91
    refine lv_tableIn (off := 206) (tgt := 227) hx hb dX5_begin_21 (by decide) (by decide) rfl (by decide) ?_
    refine lv_aload_n hx hb dX5_begin_227 rfl (lv_at hl 1 rfl) ?_
    refine lv_aload_n hx hb dX5_begin_228 rfl (lv_at hl 2 rfl) ?_
    refine lv_bipush (v := 21) hx hb dX5_begin_229 (by decide) ?_
    refine lv_iload_n hx hb dX5_begin_231 rfl (lv_at hl 4 rfl) ?_
    refine lv_iload hx hb dX5_begin_232 (lv_at hl 0 rfl) ?_
    refine wt_goI (wr := []) (wt_runSZ (As := [.ref ho, .ref tr, .int 21, .int (nI j), .int (nI (d + 1))]) (rest := []) ⟨hx, hb, hml, hown, hts⟩ (c_X5_begin_15 l D cI cZ cH _ _ _ ho aK aH aU T j (d + 1) fK fH fU tr bg tc2_5 gf2_4 21 vz_0 vz_1 vz_2 vz_4 vz_5 vz_6 vz_8 vz_9 (by first | assumption | omega) (by first | assumption | omega) (by first | assumption | omega) (by first | assumption | omega)) (va_cwS 5 hts gX5_begin_X5_begin rfl rfl rfl (by decide +kernel) ⟨Nat.le_of_ble_eq_true rfl, Nat.le_of_ble_eq_true rfl⟩) hK hP hD [0, 1, 2, 3, 4, 5] rfl (by decide) hZ hS hA rfl hl.1 rfl (Nat.le_of_ble_eq_true rfl) dX5_begin_234 ⟨Nat.le_of_ble_eq_true rfl, Nat.le_of_ble_eq_true rfl⟩) hP hD hS hA [0, 1, 2, 3, 4, 5] [] rfl rfl (by decide) (by decide) (fun r_92 w_93 H locs h_94 hP hD hS => ?_)
    obtain ⟨gf2_95, tc2_96, rfl, x_97⟩ := h_94
    have hP : va_P D vwCl [(ho, .inr (0, [vz_0, vz_1, vz_2, .int (nI T), vz_4, vz_5, vz_6, .ref aK, vz_8, vz_9, .ref aH, .ref aU])), (aK, .inl (cI, 6, .inl fK)), (aH, .inl (cI, 6, .inl fH)), (aU, .inl (cI, 6, .inl fU)), (tr, .inr (4, [.ref bg, .int (nI tc2_96)])), (bg, .inl (cI, 16, .inl gf2_95))] H := hP
    have hD : va_D A [(ho, .inr (0, [vz_0, vz_1, vz_2, .int (nI T), vz_4, vz_5, vz_6, .ref aK, vz_8, vz_9, .ref aH, .ref aU])), (aK, .inl (cI, 6, .inl fK)), (aH, .inl (cI, 6, .inl fH)), (aU, .inl (cI, 6, .inl fU)), (tr, .inr (4, [.ref bg, .int (nI tc2_96)])), (bg, .inl (cI, 16, .inl gf2_95))] := hD
    refine lv_iconst (v := 2) hx hb dX5_begin_237 (by decide) ?_
    refine lv_imul hx hb dX5_begin_238 ?_
    refine lv_topi (fun ov_98 _ => ?_)
    have hP9 := hP.sub (ws' := [(ho, .inr (0, [vz_0, vz_1, vz_2, .int (nI T), vz_4, vz_5, vz_6, .ref aK, vz_8, vz_9, .ref aH, .ref aU])), (aK, .inl (cI, 6, .inl fK)), (aH, .inl (cI, 6, .inl fH)), (aU, .inl (cI, 6, .inl fU)), (tr, .inr (4, [.ref bg, .int (nI tc2_96)])), (bg, .inl (cI, 16, .inl gf2_95))]) [0, 1, 2, 3, 4, 5] rfl
    have hD9 := hD.sub (ws' := [(ho, .inr (0, [vz_0, vz_1, vz_2, .int (nI T), vz_4, vz_5, vz_6, .ref aK, vz_8, vz_9, .ref aH, .ref aU])), (aK, .inl (cI, 6, .inl fK)), (aH, .inl (cI, 6, .inl fH)), (aU, .inl (cI, 6, .inl fU)), (tr, .inr (4, [.ref bg, .int (nI tc2_96)])), (bg, .inl (cI, 16, .inl gf2_95))]) [0, 1, 2, 3, 4, 5] (by decide) rfl
    exact wt_iret hx hb hr hlocks hP9 hD9 hS ⟨gf2_95, tc2_96, rfl, (by omega)⟩ dX5_begin_239
  refine lv_tableOut (tgt := 240) hx hb dX5_begin_21 (by have := lv_neT (a := 10) c_8 rfl; have := lv_neT (a := 11) c_10 rfl; have := lv_neT (a := 12) c_27 rfl; have := lv_neT (a := 13) c_35 rfl; have := lv_neT (a := 14) c_43 rfl; have := lv_neT (a := 15) c_51 rfl; have := lv_neT (a := 16) c_52 rfl; have := lv_neT (a := 17) c_53 rfl; have := lv_neT (a := 18) c_54 rfl; have := lv_neT (a := 19) c_55 rfl; have := lv_neT (a := 20) c_56 rfl; have := lv_neT (a := 21) c_57 rfl; have := lv_neT (a := 22) c_66 rfl; have := lv_neT (a := 23) c_74 rfl; have := lv_neT (a := 24) c_91 rfl; omega) (by decide) ?_
  refine lv_iconst (v := 0) hx hb dX5_begin_240 (by decide) ?_
  have hP9 := hP.sub (ws' := [(ho, .inr (0, [vz_0, vz_1, vz_2, .int (nI T), vz_4, vz_5, vz_6, .ref aK, vz_8, vz_9, .ref aH, .ref aU])), (aK, .inl (cI, 6, .inl fK)), (aH, .inl (cI, 6, .inl fH)), (aU, .inl (cI, 6, .inl fU)), (tr, .inr (4, [.ref bg, .int (nI tc2_5)])), (bg, .inl (cI, 16, .inl gf2_4))]) [0, 1, 2, 3, 4, 5] rfl
  have hD9 := hD.sub (ws' := [(ho, .inr (0, [vz_0, vz_1, vz_2, .int (nI T), vz_4, vz_5, vz_6, .ref aK, vz_8, vz_9, .ref aH, .ref aU])), (aK, .inl (cI, 6, .inl fK)), (aH, .inl (cI, 6, .inl fH)), (aU, .inl (cI, 6, .inl fU)), (tr, .inr (4, [.ref bg, .int (nI tc2_5)])), (bg, .inl (cI, 16, .inl gf2_4))]) [0, 1, 2, 3, 4, 5] (by decide) rfl
  exact wt_iret hx hb hr hlocks hP9 hD9 hS ⟨gf2_4, tc2_5, rfl, (by omega)⟩ dX5_begin_241
set_option maxHeartbeats 4000000 in
set_option maxRecDepth 100000 in
theorem c_X5_ask (l : Launch) (D : va_G) (cI cZ cH : ClassId) (ab sb mb : Nat) (x : Nat) (ho aW aS aK aP aT aH aU : Nat) (R T : Nat) (fr co mi : Int32) (fW fS fK fP fT fH fU : Nat → Int32) (tr bg : Nat) (tc : Nat) (gf : Nat → Int32) (a1 a2 : Int32) (vx_0 vx_1 vx_3 vx_4 vx_5 vx_6 vx_8 vx_9 : Value) (hR5 : R ≤ 5) (hT6 : T ≤ 6) (hwP : hw R T fP) (htc : tc ≤ 16) : wt_MZ (wt_ZS ab sb mb abF sbF mbF) l yX5_ask wsX5_ask ({ frames := 18, cells := 0, slots := 0, locals := 444 } : Room) D (wt_T cI cZ cH) [.ref x, .int a1, .int a2] [(x, .inr (5, [vx_0, vx_1, .ref ho, vx_3, vx_4, vx_5, vx_6, .ref tr, vx_8, vx_9])), (ho, .inr (0, [.int fr, .int co, .int (nI R), .int (nI T), .int mi, .ref aW, .ref aS, .ref aK, .ref aP, .ref aT, .ref aH, .ref aU])), (aW, .inl (cI, 5, .inl fW)), (aS, .inl (cI, 5, .inl fS)), (aK, .inl (cI, 6, .inl fK)), (aP, .inl (cI, 6, .inl fP)), (aT, .inl (cI, 6, .inl fT)), (aH, .inl (cI, 6, .inl fH)), (aU, .inl (cI, 6, .inl fU)), (tr, .inr (4, [.ref bg, .int (nI tc)])), (bg, .inl (cI, 16, .inl gf))] (wt_QI D (fun r w => ∃ (gf2 : Nat → Int32) (tc2 : Nat), w = [(x, .inr (5, [vx_0, vx_1, .ref ho, vx_3, vx_4, vx_5, vx_6, .ref tr, vx_8, vx_9])), (ho, .inr (0, [.int fr, .int co, .int (nI R), .int (nI T), .int mi, .ref aW, .ref aS, .ref aK, .ref aP, .ref aT, .ref aH, .ref aU])), (aW, .inl (cI, 5, .inl fW)), (aS, .inl (cI, 5, .inl fS)), (aK, .inl (cI, 6, .inl fK)), (aP, .inl (cI, 6, .inl fP)), (aT, .inl (cI, 6, .inl fT)), (aH, .inl (cI, 6, .inl fH)), (aU, .inl (cI, 6, .inl fU)), (tr, .inr (4, [.ref bg, .int (nI tc2)])), (bg, .inl (cI, 16, .inl gf2))] ∧ tc2 ≤ 16)) := by
  refine wt_MZ.ofW (cc := cX5_ask) (maxL := 3) (ret := (some .int)) (by decide) rfl (Nat.le_of_ble_eq_true rfl) ?_
  intro p e s m below meth c A ls hx hb hr hts hown hlocks hml hnm hP hK hD hA hS hl hZ
  have hP : va_P D vwCl [(x, .inr (5, [vx_0, vx_1, .ref ho, vx_3, vx_4, vx_5, vx_6, .ref tr, vx_8, vx_9])), (ho, .inr (0, [.int fr, .int co, .int (nI R), .int (nI T), .int mi, .ref aW, .ref aS, .ref aK, .ref aP, .ref aT, .ref aH, .ref aU])), (aW, .inl (cI, 5, .inl fW)), (aS, .inl (cI, 5, .inl fS)), (aK, .inl (cI, 6, .inl fK)), (aP, .inl (cI, 6, .inl fP)), (aT, .inl (cI, 6, .inl fT)), (aH, .inl (cI, 6, .inl fH)), (aU, .inl (cI, 6, .inl fU)), (tr, .inr (4, [.ref bg, .int (nI tc)])), (bg, .inl (cI, 16, .inl gf))] s.heap := hP
  have hown : s.vm.findClass RX5 = some m.cls := hown
  have hl : lv_has ls 3 [(0, .ref x), (1, .int a1), (2, .int a2)] := hl
  have hi4 : ∀ w ∈ u_ws RX4 TX4 2, w ∈ wsX5_ask := by decide +kernel
  have hi5 : ∀ w ∈ u_ws RX5 TX5 10, w ∈ wsX5_ask := by decide +kernel
  have wc70 := hts (.constant RX5 70 (-1000001)) (by decide +kernel)
  have wf26 := hts (.fieldLink RX5 26 "WarmTubes" "now" "LWarmTubes$House;") (by decide +kernel)
  have wf307 := hts (.fieldLink RX5 307 "WarmTubes$Trace" "length" "I") (by decide +kernel)
  have wf51 := hts (.fieldLink RX5 51 "WarmTubes" "trace" "LWarmTubes$Trace;") (by decide +kernel)
  refine lv_aload_n hx hb dX5_ask_0 rfl (lv_at hl 0 rfl) ?_
  refine lv_iload_n hx hb dX5_ask_1 rfl (lv_at hl 1 rfl) ?_
  refine wt_rV (As := [.int a1]) (rest := []) ⟨hx, hb, hml, hown, hts⟩ (c_X5_isTube l D cI cZ cH x ho T a1 vx_0 vx_1 vx_3 vx_4 vx_5 vx_6 (.ref tr) vx_8 vx_9 (.int fr) (.int co) (.int (nI R)) (.int mi) (.ref aW) (.ref aS) (.ref aK) (.ref aP) (.ref aT) (.ref aH) (.ref aU)) (cwV 1 hts gX5_ask_X5_isTube rfl rfl rfl (by decide +kernel) ⟨Nat.le_of_ble_eq_true rfl, Nat.le_of_ble_eq_true rfl⟩) hK hP [0, 1] rfl (va_recv hK.1 hP (ci := 5) (q0 := 0) rfl rfl) rfl hl.1 rfl (Nat.le_of_ble_eq_true rfl) dX5_ask_2 ⟨Nat.le_of_ble_eq_true rfl, Nat.le_of_ble_eq_true rfl⟩ (fun r_1 e_2 => ?_)
  subst e_2
  refine lv_if_eq (tgt := 17) hx hb dX5_ask_5 (by decide) (fun c_3 => ?_) (fun c_3 => ?_)
  · skip
    refine lv_ldc hx hb hown wc70 dX5_ask_17 ?_
    have hP9 := hP.sub (ws' := [(x, .inr (5, [vx_0, vx_1, .ref ho, vx_3, vx_4, vx_5, vx_6, .ref tr, vx_8, vx_9])), (ho, .inr (0, [.int fr, .int co, .int (nI R), .int (nI T), .int mi, .ref aW, .ref aS, .ref aK, .ref aP, .ref aT, .ref aH, .ref aU])), (aW, .inl (cI, 5, .inl fW)), (aS, .inl (cI, 5, .inl fS)), (aK, .inl (cI, 6, .inl fK)), (aP, .inl (cI, 6, .inl fP)), (aT, .inl (cI, 6, .inl fT)), (aH, .inl (cI, 6, .inl fH)), (aU, .inl (cI, 6, .inl fU)), (tr, .inr (4, [.ref bg, .int (nI tc)])), (bg, .inl (cI, 16, .inl gf))]) [0, 1, 2, 3, 4, 5, 6, 7, 8, 9, 10] rfl
    have hD9 := hD.sub (ws' := [(x, .inr (5, [vx_0, vx_1, .ref ho, vx_3, vx_4, vx_5, vx_6, .ref tr, vx_8, vx_9])), (ho, .inr (0, [.int fr, .int co, .int (nI R), .int (nI T), .int mi, .ref aW, .ref aS, .ref aK, .ref aP, .ref aT, .ref aH, .ref aU])), (aW, .inl (cI, 5, .inl fW)), (aS, .inl (cI, 5, .inl fS)), (aK, .inl (cI, 6, .inl fK)), (aP, .inl (cI, 6, .inl fP)), (aT, .inl (cI, 6, .inl fT)), (aH, .inl (cI, 6, .inl fH)), (aU, .inl (cI, 6, .inl fU)), (tr, .inr (4, [.ref bg, .int (nI tc)])), (bg, .inl (cI, 16, .inl gf))]) [0, 1, 2, 3, 4, 5, 6, 7, 8, 9, 10] (by decide) rfl
    exact wt_iret hx hb hr hlocks hP9 hD9 hS ⟨gf, tc, rfl, (by omega)⟩ dX5_ask_19
  · skip
    obtain ⟨j_4, hj_4, rfl⟩ := wI_natT (T := T) (by omega) c_3
    refine lv_iload_n hx hb dX5_ask_8 rfl (lv_at hl 2 rfl) ?_
    refine lv_iconst (v := 0) hx hb dX5_ask_9 (by decide) ?_
    refine lv_iconst (v := 1) hx hb dX5_ask_10 (by decide) ?_
    refine wt_rS (As := [.int a2, .int 0, .int 1]) (rest := []) ⟨hx, hb, hml, hown, hts⟩ (c_X5_within l D cI cZ cH a2 0 1) (va_cwS 3 hts gX5_ask_X5_within rfl rfl rfl (by decide +kernel) ⟨Nat.le_of_ble_eq_true rfl, Nat.le_of_ble_eq_true rfl⟩) hK hP [] rfl rfl hl.1 rfl (Nat.le_of_ble_eq_true rfl) dX5_ask_11 ⟨Nat.le_of_ble_eq_true rfl, Nat.le_of_ble_eq_true rfl⟩ (fun r_5 e_6 => ?_)
    subst e_6
    refine lv_if_ne (tgt := 20) hx hb dX5_ask_14 (by decide) (fun c_7 => ?_) (fun c_7 => ?_)
    · skip
      obtain ⟨j_8, hj_8, hj_8b, rfl⟩ := wI_nat (a := 0) (b := 1) (by omega) (by omega) c_7
      refine lv_aload_n hx hb dX5_ask_20 rfl (lv_at hl 0 rfl) ?_
      refine va_get (D := D) (ci := 5) (v := .ref tr) (C := RX5) (T := TX5) (N := 10) hx hb hts hi5 hown hK.1 hP 0 rfl rfl 7 (by decide) wf51 (fun _ h9 => h9) rfl dX5_ask_21 ?_
      refine lv_iconst (v := 0) hx hb dX5_ask_24 (by decide) ?_
      refine va_put (D := D) (ci := 4) (v := .int 0) (ty := .int) (C := RX4) (T := TX4) (N := 2) hx hb hts hi4 tyX4 tyX4_ok nmX4 hown hK.1 hP hD hS 9 rfl rfl 1 (by decide) wf307 (fun _ h9 => h9) rfl (by decide +kernel) rfl rfl (Nat.le_of_ble_eq_true rfl) dX5_ask_25 (fun H locs hP hD hS => ?_)
      have hP : va_P D vwCl [(x, .inr (5, [vx_0, vx_1, .ref ho, vx_3, vx_4, vx_5, vx_6, .ref tr, vx_8, vx_9])), (ho, .inr (0, [.int fr, .int co, .int (nI R), .int (nI T), .int mi, .ref aW, .ref aS, .ref aK, .ref aP, .ref aT, .ref aH, .ref aU])), (aW, .inl (cI, 5, .inl fW)), (aS, .inl (cI, 5, .inl fS)), (aK, .inl (cI, 6, .inl fK)), (aP, .inl (cI, 6, .inl fP)), (aT, .inl (cI, 6, .inl fT)), (aH, .inl (cI, 6, .inl fH)), (aU, .inl (cI, 6, .inl fU)), (tr, .inr (4, [.ref bg, .int 0])), (bg, .inl (cI, 16, .inl gf))] H := hP
      have hD : va_D A [(x, .inr (5, [vx_0, vx_1, .ref ho, vx_3, vx_4, vx_5, vx_6, .ref tr, vx_8, vx_9])), (ho, .inr (0, [.int fr, .int co, .int (nI R), .int (nI T), .int mi, .ref aW, .ref aS, .ref aK, .ref aP, .ref aT, .ref aH, .ref aU])), (aW, .inl (cI, 5, .inl fW)), (aS, .inl (cI, 5, .inl fS)), (aK, .inl (cI, 6, .inl fK)), (aP, .inl (cI, 6, .inl fP)), (aT, .inl (cI, 6, .inl fT)), (aH, .inl (cI, 6, .inl fH)), (aU, .inl (cI, 6, .inl fU)), (tr, .inr (4, [.ref bg, .int 0])), (bg, .inl (cI, 16, .inl gf))] := hD
      refine lv_aload_n hx hb dX5_ask_28 rfl (lv_at hl 0 rfl) ?_
      refine va_get (D := D) (ci := 5) (v := .ref ho) (C := RX5) (T := TX5) (N := 10) hx hb hts hi5 hown hK.1 hP 0 rfl rfl 2 (by decide) wf26 (fun _ h9 => h9) rfl dX5_ask_29 ?_
      refine lv_aload_n hx hb dX5_ask_32 rfl (lv_at hl 0 rfl) ?_
      refine va_get (D := D) (ci := 5) (v := .ref tr) (C := RX5) (T := TX5) (N := 10) hx hb hts hi5 hown hK.1 hP 0 rfl rfl 7 (by decide) wf51 (fun _ h9 => h9) rfl dX5_ask_33 ?_
      refine lv_iload_n hx hb dX5_ask_36 rfl (lv_at hl 2 rfl) ?_
      refine lv_if_ne (tgt := 51) hx hb dX5_ask_37 (by decide) (fun c_9 => ?_) (fun c_9 => ?_)
      · skip
        have c_9 : ¬ (j_8 = 0) := fun h => c_9 ((nI_eq (a := j_8) (b := 0) (by omega) (by omega)).mpr h)
        refine lv_aload_n hx hb dX5_ask_51 rfl (lv_at hl 0 rfl) ?_
        refine va_get (D := D) (ci := 5) (v := .ref ho) (C := RX5) (T := TX5) (N := 10) hx hb hts hi5 hown hK.1 hP 0 rfl rfl 2 (by decide) wf26 (fun _ h9 => h9) rfl dX5_ask_52 ?_
        refine lv_iload_n hx hb dX5_ask_55 rfl (lv_at hl 1 rfl) ?_
        refine wt_goI (wr := [(x, .inr (5, [vx_0, vx_1, .ref ho, vx_3, vx_4, vx_5, vx_6, .ref tr, vx_8, vx_9])), (aW, .inl (cI, 5, .inl fW)), (aS, .inl (cI, 5, .inl fS)), (aP, .inl (cI, 6, .inl fP)), (aT, .inl (cI, 6, .inl fT)), (aH, .inl (cI, 6, .inl fH)), (aU, .inl (cI, 6, .inl fU)), (tr, .inr (4, [.ref bg, .int 0])), (bg, .inl (cI, 16, .inl gf))]) (wt_runSZ (As := [.ref ho, .int (nI j_4)]) (rest := [.ref tr, .ref ho]) ⟨hx, hb, hml, hown, hts⟩ (c_X5_markBody l D cI cZ cH _ _ _ ho aK T j_4 fK (.int fr) (.int co) (.int (nI R)) (.int mi) (.ref aW) (.ref aS) (.ref aP) (.ref aT) (.ref aH) (.ref aU) (by first | assumption | omega) (by first | assumption | omega)) (va_cwS 2 hts gX5_ask_X5_markBody rfl rfl rfl (by decide +kernel) ⟨Nat.le_of_ble_eq_true rfl, Nat.le_of_ble_eq_true rfl⟩) hK hP hD [1, 4] rfl (by decide) hZ hS hA rfl hl.1 rfl (Nat.le_of_ble_eq_true rfl) dX5_ask_56 ⟨Nat.le_of_ble_eq_true rfl, Nat.le_of_ble_eq_true rfl⟩) hP hD hS hA [1, 4] [0, 2, 3, 5, 6, 7, 8, 9, 10] rfl rfl (by decide) (by decide) (fun r_10 w_11 H locs h_12 hP hD hS => ?_)
        obtain rfl := h_12
        have hP : va_P D vwCl [(x, .inr (5, [vx_0, vx_1, .ref ho, vx_3, vx_4, vx_5, vx_6, .ref tr, vx_8, vx_9])), (aW, .inl (cI, 5, .inl fW)), (aS, .inl (cI, 5, .inl fS)), (aP, .inl (cI, 6, .inl fP)), (aT, .inl (cI, 6, .inl fT)), (aH, .inl (cI, 6, .inl fH)), (aU, .inl (cI, 6, .inl fU)), (tr, .inr (4, [.ref bg, .int 0])), (bg, .inl (cI, 16, .inl gf)), (ho, .inr (0, [.int fr, .int co, .int (nI R), .int (nI T), .int mi, .ref aW, .ref aS, .ref aK, .ref aP, .ref aT, .ref aH, .ref aU])), (aK, .inl (cI, 6, .inl fK))] H := hP
        have hD : va_D A [(x, .inr (5, [vx_0, vx_1, .ref ho, vx_3, vx_4, vx_5, vx_6, .ref tr, vx_8, vx_9])), (aW, .inl (cI, 5, .inl fW)), (aS, .inl (cI, 5, .inl fS)), (aP, .inl (cI, 6, .inl fP)), (aT, .inl (cI, 6, .inl fT)), (aH, .inl (cI, 6, .inl fH)), (aU, .inl (cI, 6, .inl fU)), (tr, .inr (4, [.ref bg, .int 0])), (bg, .inl (cI, 16, .inl gf)), (ho, .inr (0, [.int fr, .int co, .int (nI R), .int (nI T), .int mi, .ref aW, .ref aS, .ref aK, .ref aP, .ref aT, .ref aH, .ref aU])), (aK, .inl (cI, 6, .inl fK))] := hD
        refine lv_iload_n hx hb dX5_ask_59 rfl (lv_at hl 1 rfl) ?_
        refine lv_iconst (v := 0) hx hb dX5_ask_60 (by decide) ?_
        refine wt_goI (wr := [(x, .inr (5, [vx_0, vx_1, .ref ho, vx_3, vx_4, vx_5, vx_6, .ref tr, vx_8, vx_9])), (aW, .inl (cI, 5, .inl fW)), (aS, .inl (cI, 5, .inl fS)), (aP, .inl (cI, 6, .inl fP)), (aT, .inl (cI, 6, .inl fT))]) (wt_runSZ (As := [.ref ho, .ref tr, .int r_10, .int (nI j_4), .int 0]) (rest := []) ⟨hx, hb, hml, hown, hts⟩ (c_X5_begin_16 l D cI cZ cH _ _ _ ho aK aH aU T j_4 0 fK fH fU tr bg 0 gf r_10 (.int fr) (.int co) (.int (nI R)) (.int mi) (.ref aW) (.ref aS) (.ref aP) (.ref aT) (by first | assumption | omega) (by first | assumption | omega) (by first | assumption | omega) (by first | assumption | omega)) (va_cwS 5 hts gX5_ask_X5_begin rfl rfl rfl (by decide +kernel) ⟨Nat.le_of_ble_eq_true rfl, Nat.le_of_ble_eq_true rfl⟩) hK hP hD [9, 10, 5, 6, 7, 8] rfl (by decide) hZ hS hA rfl hl.1 rfl (Nat.le_of_ble_eq_true rfl) dX5_ask_61 ⟨Nat.le_of_ble_eq_true rfl, Nat.le_of_ble_eq_true rfl⟩) hP hD hS hA [9, 10, 5, 6, 7, 8] [0, 1, 2, 3, 4] rfl rfl (by decide) (by decide) (fun r_13 w_14 H locs h_15 hP hD hS => ?_)
        obtain ⟨gf2_16, tc2_17, rfl, x_18⟩ := h_15
        have hP : va_P D vwCl [(x, .inr (5, [vx_0, vx_1, .ref ho, vx_3, vx_4, vx_5, vx_6, .ref tr, vx_8, vx_9])), (aW, .inl (cI, 5, .inl fW)), (aS, .inl (cI, 5, .inl fS)), (aP, .inl (cI, 6, .inl fP)), (aT, .inl (cI, 6, .inl fT)), (ho, .inr (0, [.int fr, .int co, .int (nI R), .int (nI T), .int mi, .ref aW, .ref aS, .ref aK, .ref aP, .ref aT, .ref aH, .ref aU])), (aK, .inl (cI, 6, .inl fK)), (aH, .inl (cI, 6, .inl fH)), (aU, .inl (cI, 6, .inl fU)), (tr, .inr (4, [.ref bg, .int (nI tc2_17)])), (bg, .inl (cI, 16, .inl gf2_16))] H := hP
        have hD : va_D A [(x, .inr (5, [vx_0, vx_1, .ref ho, vx_3, vx_4, vx_5, vx_6, .ref tr, vx_8, vx_9])), (aW, .inl (cI, 5, .inl fW)), (aS, .inl (cI, 5, .inl fS)), (aP, .inl (cI, 6, .inl fP)), (aT, .inl (cI, 6, .inl fT)), (ho, .inr (0, [.int fr, .int co, .int (nI R), .int (nI T), .int mi, .ref aW, .ref aS, .ref aK, .ref aP, .ref aT, .ref aH, .ref aU])), (aK, .inl (cI, 6, .inl fK)), (aH, .inl (cI, 6, .inl fH)), (aU, .inl (cI, 6, .inl fU)), (tr, .inr (4, [.ref bg, .int (nI tc2_17)])), (bg, .inl (cI, 16, .inl gf2_16))] := hD
        have hP9 := hP.sub (ws' := [(x, .inr (5, [vx_0, vx_1, .ref ho, vx_3, vx_4, vx_5, vx_6, .ref tr, vx_8, vx_9])), (ho, .inr (0, [.int fr, .int co, .int (nI R), .int (nI T), .int mi, .ref aW, .ref aS, .ref aK, .ref aP, .ref aT, .ref aH, .ref aU])), (aW, .inl (cI, 5, .inl fW)), (aS, .inl (cI, 5, .inl fS)), (aK, .inl (cI, 6, .inl fK)), (aP, .inl (cI, 6, .inl fP)), (aT, .inl (cI, 6, .inl fT)), (aH, .inl (cI, 6, .inl fH)), (aU, .inl (cI, 6, .inl fU)), (tr, .inr (4, [.ref bg, .int (nI tc2_17)])), (bg, .inl (cI, 16, .inl gf2_16))]) [0, 5, 1, 2, 6, 3, 4, 7, 8, 9, 10] rfl
        have hD9 := hD.sub (ws' := [(x, .inr (5, [vx_0, vx_1, .ref ho, vx_3, vx_4, vx_5, vx_6, .ref tr, vx_8, vx_9])), (ho, .inr (0, [.int fr, .int co, .int (nI R), .int (nI T), .int mi, .ref aW, .ref aS, .ref aK, .ref aP, .ref aT, .ref aH, .ref aU])), (aW, .inl (cI, 5, .inl fW)), (aS, .inl (cI, 5, .inl fS)), (aK, .inl (cI, 6, .inl fK)), (aP, .inl (cI, 6, .inl fP)), (aT, .inl (cI, 6, .inl fT)), (aH, .inl (cI, 6, .inl fH)), (aU, .inl (cI, 6, .inl fU)), (tr, .inr (4, [.ref bg, .int (nI tc2_17)])), (bg, .inl (cI, 16, .inl gf2_16))]) [0, 5, 1, 2, 6, 3, 4, 7, 8, 9, 10] (by decide) rfl
        exact wt_iret hx hb hr hlocks hP9 hD9 hS ⟨gf2_16, tc2_17, rfl, (by omega)⟩ dX5_ask_64
      · skip
        have c_9 : j_8 = 0 := (nI_eq (a := j_8) (b := 0) (by omega) (by omega)).mp c_9
        refine lv_aload_n hx hb dX5_ask_40 rfl (lv_at hl 0 rfl) ?_
        refine va_get (D := D) (ci := 5) (v := .ref ho) (C := RX5) (T := TX5) (N := 10) hx hb hts hi5 hown hK.1 hP 0 rfl rfl 2 (by decide) wf26 (fun _ h9 => h9) rfl dX5_ask_41 ?_
        refine lv_iload_n hx hb dX5_ask_44 rfl (lv_at hl 1 rfl) ?_
        refine wt_goI (wr := [(x, .inr (5, [vx_0, vx_1, .ref ho, vx_3, vx_4, vx_5, vx_6, .ref tr, vx_8, vx_9])), (aW, .inl (cI, 5, .inl fW)), (aS, .inl (cI, 5, .inl fS)), (aP, .inl (cI, 6, .inl fP)), (aT, .inl (cI, 6, .inl fT)), (aH, .inl (cI, 6, .inl fH)), (aU, .inl (cI, 6, .inl fU)), (tr, .inr (4, [.ref bg, .int 0])), (bg, .inl (cI, 16, .inl gf))]) (wt_runSZ (As := [.ref ho, .int (nI j_4)]) (rest := [.ref tr, .ref ho]) ⟨hx, hb, hml, hown, hts⟩ (c_X5_sizeBody l D cI cZ cH _ _ _ ho aK T j_4 fK (.int fr) (.int co) (.int (nI R)) (.int mi) (.ref aW) (.ref aS) (.ref aP) (.ref aT) (.ref aH) (.ref aU) (by first | assumption | omega) (by first | assumption | omega)) (va_cwS 2 hts gX5_ask_X5_sizeBody rfl rfl rfl (by decide +kernel) ⟨Nat.le_of_ble_eq_true rfl, Nat.le_of_ble_eq_true rfl⟩) hK hP hD [1, 4] rfl (by decide) hZ hS hA rfl hl.1 rfl (Nat.le_of_ble_eq_true rfl) dX5_ask_45 ⟨Nat.le_of_ble_eq_true rfl, Nat.le_of_ble_eq_true rfl⟩) hP hD hS hA [1, 4] [0, 2, 3, 5, 6, 7, 8, 9, 10] rfl rfl (by decide) (by decide) (fun r_19 w_20 H locs h_21 hP hD hS => ?_)
        obtain rfl := h_21
        have hP : va_P D vwCl [(x, .inr (5, [vx_0, vx_1, .ref ho, vx_3, vx_4, vx_5, vx_6, .ref tr, vx_8, vx_9])), (aW, .inl (cI, 5, .inl fW)), (aS, .inl (cI, 5, .inl fS)), (aP, .inl (cI, 6, .inl fP)), (aT, .inl (cI, 6, .inl fT)), (aH, .inl (cI, 6, .inl fH)), (aU, .inl (cI, 6, .inl fU)), (tr, .inr (4, [.ref bg, .int 0])), (bg, .inl (cI, 16, .inl gf)), (ho, .inr (0, [.int fr, .int co, .int (nI R), .int (nI T), .int mi, .ref aW, .ref aS, .ref aK, .ref aP, .ref aT, .ref aH, .ref aU])), (aK, .inl (cI, 6, .inl fK))] H := hP
        have hD : va_D A [(x, .inr (5, [vx_0, vx_1, .ref ho, vx_3, vx_4, vx_5, vx_6, .ref tr, vx_8, vx_9])), (aW, .inl (cI, 5, .inl fW)), (aS, .inl (cI, 5, .inl fS)), (aP, .inl (cI, 6, .inl fP)), (aT, .inl (cI, 6, .inl fT)), (aH, .inl (cI, 6, .inl fH)), (aU, .inl (cI, 6, .inl fU)), (tr, .inr (4, [.ref bg, .int 0])), (bg, .inl (cI, 16, .inl gf)), (ho, .inr (0, [.int fr, .int co, .int (nI R), .int (nI T), .int mi, .ref aW, .ref aS, .ref aK, .ref aP, .ref aT, .ref aH, .ref aU])), (aK, .inl (cI, 6, .inl fK))] := hD
        refine lv_goto (tgt := 59) hx hb dX5_ask_48 (by decide) ?_
        refine lv_iload_n hx hb dX5_ask_59 rfl (lv_at hl 1 rfl) ?_
        refine lv_iconst (v := 0) hx hb dX5_ask_60 (by decide) ?_
        refine wt_goI (wr := [(x, .inr (5, [vx_0, vx_1, .ref ho, vx_3, vx_4, vx_5, vx_6, .ref tr, vx_8, vx_9])), (aW, .inl (cI, 5, .inl fW)), (aS, .inl (cI, 5, .inl fS)), (aP, .inl (cI, 6, .inl fP)), (aT, .inl (cI, 6, .inl fT))]) (wt_runSZ (As := [.ref ho, .ref tr, .int r_19, .int (nI j_4), .int 0]) (rest := []) ⟨hx, hb, hml, hown, hts⟩ (c_X5_begin_16 l D cI cZ cH _ _ _ ho aK aH aU T j_4 0 fK fH fU tr bg 0 gf r_19 (.int fr) (.int co) (.int (nI R)) (.int mi) (.ref aW) (.ref aS) (.ref aP) (.ref aT) (by first | assumption | omega) (by first | assumption | omega) (by first | assumption | omega) (by first | assumption | omega)) (va_cwS 5 hts gX5_ask_X5_begin rfl rfl rfl (by decide +kernel) ⟨Nat.le_of_ble_eq_true rfl, Nat.le_of_ble_eq_true rfl⟩) hK hP hD [9, 10, 5, 6, 7, 8] rfl (by decide) hZ hS hA rfl hl.1 rfl (Nat.le_of_ble_eq_true rfl) dX5_ask_61 ⟨Nat.le_of_ble_eq_true rfl, Nat.le_of_ble_eq_true rfl⟩) hP hD hS hA [9, 10, 5, 6, 7, 8] [0, 1, 2, 3, 4] rfl rfl (by decide) (by decide) (fun r_22 w_23 H locs h_24 hP hD hS => ?_)
        obtain ⟨gf2_25, tc2_26, rfl, x_27⟩ := h_24
        have hP : va_P D vwCl [(x, .inr (5, [vx_0, vx_1, .ref ho, vx_3, vx_4, vx_5, vx_6, .ref tr, vx_8, vx_9])), (aW, .inl (cI, 5, .inl fW)), (aS, .inl (cI, 5, .inl fS)), (aP, .inl (cI, 6, .inl fP)), (aT, .inl (cI, 6, .inl fT)), (ho, .inr (0, [.int fr, .int co, .int (nI R), .int (nI T), .int mi, .ref aW, .ref aS, .ref aK, .ref aP, .ref aT, .ref aH, .ref aU])), (aK, .inl (cI, 6, .inl fK)), (aH, .inl (cI, 6, .inl fH)), (aU, .inl (cI, 6, .inl fU)), (tr, .inr (4, [.ref bg, .int (nI tc2_26)])), (bg, .inl (cI, 16, .inl gf2_25))] H := hP
        have hD : va_D A [(x, .inr (5, [vx_0, vx_1, .ref ho, vx_3, vx_4, vx_5, vx_6, .ref tr, vx_8, vx_9])), (aW, .inl (cI, 5, .inl fW)), (aS, .inl (cI, 5, .inl fS)), (aP, .inl (cI, 6, .inl fP)), (aT, .inl (cI, 6, .inl fT)), (ho, .inr (0, [.int fr, .int co, .int (nI R), .int (nI T), .int mi, .ref aW, .ref aS, .ref aK, .ref aP, .ref aT, .ref aH, .ref aU])), (aK, .inl (cI, 6, .inl fK)), (aH, .inl (cI, 6, .inl fH)), (aU, .inl (cI, 6, .inl fU)), (tr, .inr (4, [.ref bg, .int (nI tc2_26)])), (bg, .inl (cI, 16, .inl gf2_25))] := hD
        have hP9 := hP.sub (ws' := [(x, .inr (5, [vx_0, vx_1, .ref ho, vx_3, vx_4, vx_5, vx_6, .ref tr, vx_8, vx_9])), (ho, .inr (0, [.int fr, .int co, .int (nI R), .int (nI T), .int mi, .ref aW, .ref aS, .ref aK, .ref aP, .ref aT, .ref aH, .ref aU])), (aW, .inl (cI, 5, .inl fW)), (aS, .inl (cI, 5, .inl fS)), (aK, .inl (cI, 6, .inl fK)), (aP, .inl (cI, 6, .inl fP)), (aT, .inl (cI, 6, .inl fT)), (aH, .inl (cI, 6, .inl fH)), (aU, .inl (cI, 6, .inl fU)), (tr, .inr (4, [.ref bg, .int (nI tc2_26)])), (bg, .inl (cI, 16, .inl gf2_25))]) [0, 5, 1, 2, 6, 3, 4, 7, 8, 9, 10] rfl
        have hD9 := hD.sub (ws' := [(x, .inr (5, [vx_0, vx_1, .ref ho, vx_3, vx_4, vx_5, vx_6, .ref tr, vx_8, vx_9])), (ho, .inr (0, [.int fr, .int co, .int (nI R), .int (nI T), .int mi, .ref aW, .ref aS, .ref aK, .ref aP, .ref aT, .ref aH, .ref aU])), (aW, .inl (cI, 5, .inl fW)), (aS, .inl (cI, 5, .inl fS)), (aK, .inl (cI, 6, .inl fK)), (aP, .inl (cI, 6, .inl fP)), (aT, .inl (cI, 6, .inl fT)), (aH, .inl (cI, 6, .inl fH)), (aU, .inl (cI, 6, .inl fU)), (tr, .inr (4, [.ref bg, .int (nI tc2_26)])), (bg, .inl (cI, 16, .inl gf2_25))]) [0, 5, 1, 2, 6, 3, 4, 7, 8, 9, 10] (by decide) rfl
        exact wt_iret hx hb hr hlocks hP9 hD9 hS ⟨gf2_25, tc2_26, rfl, (by omega)⟩ dX5_ask_64
    · skip
      refine lv_ldc hx hb hown wc70 dX5_ask_17 ?_
      have hP9 := hP.sub (ws' := [(x, .inr (5, [vx_0, vx_1, .ref ho, vx_3, vx_4, vx_5, vx_6, .ref tr, vx_8, vx_9])), (ho, .inr (0, [.int fr, .int co, .int (nI R), .int (nI T), .int mi, .ref aW, .ref aS, .ref aK, .ref aP, .ref aT, .ref aH, .ref aU])), (aW, .inl (cI, 5, .inl fW)), (aS, .inl (cI, 5, .inl fS)), (aK, .inl (cI, 6, .inl fK)), (aP, .inl (cI, 6, .inl fP)), (aT, .inl (cI, 6, .inl fT)), (aH, .inl (cI, 6, .inl fH)), (aU, .inl (cI, 6, .inl fU)), (tr, .inr (4, [.ref bg, .int (nI tc)])), (bg, .inl (cI, 16, .inl gf))]) [0, 1, 2, 3, 4, 5, 6, 7, 8, 9, 10] rfl
      have hD9 := hD.sub (ws' := [(x, .inr (5, [vx_0, vx_1, .ref ho, vx_3, vx_4, vx_5, vx_6, .ref tr, vx_8, vx_9])), (ho, .inr (0, [.int fr, .int co, .int (nI R), .int (nI T), .int mi, .ref aW, .ref aS, .ref aK, .ref aP, .ref aT, .ref aH, .ref aU])), (aW, .inl (cI, 5, .inl fW)), (aS, .inl (cI, 5, .inl fS)), (aK, .inl (cI, 6, .inl fK)), (aP, .inl (cI, 6, .inl fP)), (aT, .inl (cI, 6, .inl fT)), (aH, .inl (cI, 6, .inl fH)), (aU, .inl (cI, 6, .inl fU)), (tr, .inr (4, [.ref bg, .int (nI tc)])), (bg, .inl (cI, 16, .inl gf))]) [0, 1, 2, 3, 4, 5, 6, 7, 8, 9, 10] (by decide) rfl
      exact wt_iret hx hb hr hlocks hP9 hD9 hS ⟨gf, tc, rfl, (by omega)⟩ dX5_ask_19
set_option maxHeartbeats 4000000 in
set_option maxRecDepth 100000 in
theorem c_X5_as (l : Launch) (D : va_G) (cI cZ cH : ClassId) (ab sb mb : Nat) (x : Nat) (xf : Int32) (ho aW aS aK aP aT aH aU : Nat) (R T : Nat) (fr co mi : Int32) (fW fS fK fP fT fH fU : Nat → Int32) (a1 a2 : Int32) (vx_0 vx_1 vx_3 vx_4 vx_5 vx_6 vx_7 vx_8 : Value) (hR5 : R ≤ 5) (hT6 : T ≤ 6) (hwP : hw R T fP) : wt_MZ (wt_ZS ab sb mb abF sbF mbF) l yX5_as wsX5_as ({ frames := 2, cells := 0, slots := 0, locals := 43 } : Room) D (wt_T cI cZ cH) [.ref x, .int a1, .int a2] [(x, .inr (5, [vx_0, vx_1, .ref ho, vx_3, vx_4, vx_5, vx_6, vx_7, vx_8, .int xf])), (ho, .inr (0, [.int fr, .int co, .int (nI R), .int (nI T), .int mi, .ref aW, .ref aS, .ref aK, .ref aP, .ref aT, .ref aH, .ref aU])), (aW, .inl (cI, 5, .inl fW)), (aS, .inl (cI, 5, .inl fS)), (aK, .inl (cI, 6, .inl fK)), (aP, .inl (cI, 6, .inl fP)), (aT, .inl (cI, 6, .inl fT)), (aH, .inl (cI, 6, .inl fH)), (aU, .inl (cI, 6, .inl fU))] (wt_QI D (fun r w => ∃ (x_f9 : Int32), w = [(x, .inr (5, [vx_0, vx_1, .ref ho, vx_3, vx_4, vx_5, vx_6, vx_7, vx_8, .int x_f9])), (ho, .inr (0, [.int fr, .int co, .int (nI R), .int (nI T), .int mi, .ref aW, .ref aS, .ref aK, .ref aP, .ref aT, .ref aH, .ref aU])), (aW, .inl (cI, 5, .inl fW)), (aS, .inl (cI, 5, .inl fS)), (aK, .inl (cI, 6, .inl fK)), (aP, .inl (cI, 6, .inl fP)), (aT, .inl (cI, 6, .inl fT)), (aH, .inl (cI, 6, .inl fH)), (aU, .inl (cI, 6, .inl fU))])) := by
  refine wt_MZ.ofW (cc := cX5_as) (maxL := 5) (ret := (some .int)) (by decide) rfl (Nat.le_of_ble_eq_true rfl) ?_
  intro p e s m below meth c A ls hx hb hr hts hown hlocks hml hnm hP hK hD hA hS hl hZ
  have hP : va_P D vwCl [(x, .inr (5, [vx_0, vx_1, .ref ho, vx_3, vx_4, vx_5, vx_6, vx_7, vx_8, .int xf])), (ho, .inr (0, [.int fr, .int co, .int (nI R), .int (nI T), .int mi, .ref aW, .ref aS, .ref aK, .ref aP, .ref aT, .ref aH, .ref aU])), (aW, .inl (cI, 5, .inl fW)), (aS, .inl (cI, 5, .inl fS)), (aK, .inl (cI, 6, .inl fK)), (aP, .inl (cI, 6, .inl fP)), (aT, .inl (cI, 6, .inl fT)), (aH, .inl (cI, 6, .inl fH)), (aU, .inl (cI, 6, .inl fU))] s.heap := hP
  have hown : s.vm.findClass RX5 = some m.cls := hown
  have hl : lv_has ls 5 [(0, .ref x), (1, .int a1), (2, .int a2)] := hl
  have hi0 : ∀ w ∈ u_ws RX0 TX0 12, w ∈ wsX5_as := by decide +kernel
  have hi5 : ∀ w ∈ u_ws RX5 TX5 10, w ∈ wsX5_as := by decide +kernel
  have wc70 := hts (.constant RX5 70 (-1000001)) (by decide +kernel)
  have wf26 := hts (.fieldLink RX5 26 "WarmTubes" "now" "LWarmTubes$House;") (by decide +kernel)
  have wf301 := hts (.fieldLink RX5 301 "WarmTubes$House" "sort" "[I") (by decide +kernel)
  have wf304 := hts (.fieldLink RX5 304 "WarmTubes" "ABOVE" "[I") (by decide +kernel)
  refine lv_aload_n hx hb dX5_as_0 rfl (lv_at hl 0 rfl) ?_
  refine lv_iload_n hx hb dX5_as_1 rfl (lv_at hl 1 rfl) ?_
  refine wt_rV (As := [.int a1]) (rest := []) ⟨hx, hb, hml, hown, hts⟩ (c_X5_isTube l D cI cZ cH x ho T a1 vx_0 vx_1 vx_3 vx_4 vx_5 vx_6 vx_7 vx_8 (.int xf) (.int fr) (.int co) (.int (nI R)) (.int mi) (.ref aW) (.ref aS) (.ref aK) (.ref aP) (.ref aT) (.ref aH) (.ref aU)) (cwV 1 hts gX5_as_X5_isTube rfl rfl rfl (by decide +kernel) ⟨Nat.le_of_ble_eq_true rfl, Nat.le_of_ble_eq_true rfl⟩) hK hP [0, 1] rfl (va_recv hK.1 hP (ci := 5) (q0 := 0) rfl rfl) rfl hl.1 rfl (Nat.le_of_ble_eq_true rfl) dX5_as_2 ⟨Nat.le_of_ble_eq_true rfl, Nat.le_of_ble_eq_true rfl⟩ (fun r_1 e_2 => ?_)
  subst e_2
  refine lv_if_eq (tgt := 17) hx hb dX5_as_5 (by decide) (fun c_3 => ?_) (fun c_3 => ?_)
  · skip
    refine lv_ldc hx hb hown wc70 dX5_as_17 ?_
    have hP9 := hP.sub (ws' := [(x, .inr (5, [vx_0, vx_1, .ref ho, vx_3, vx_4, vx_5, vx_6, vx_7, vx_8, .int xf])), (ho, .inr (0, [.int fr, .int co, .int (nI R), .int (nI T), .int mi, .ref aW, .ref aS, .ref aK, .ref aP, .ref aT, .ref aH, .ref aU])), (aW, .inl (cI, 5, .inl fW)), (aS, .inl (cI, 5, .inl fS)), (aK, .inl (cI, 6, .inl fK)), (aP, .inl (cI, 6, .inl fP)), (aT, .inl (cI, 6, .inl fT)), (aH, .inl (cI, 6, .inl fH)), (aU, .inl (cI, 6, .inl fU))]) [0, 1, 2, 3, 4, 5, 6, 7, 8] rfl
    have hD9 := hD.sub (ws' := [(x, .inr (5, [vx_0, vx_1, .ref ho, vx_3, vx_4, vx_5, vx_6, vx_7, vx_8, .int xf])), (ho, .inr (0, [.int fr, .int co, .int (nI R), .int (nI T), .int mi, .ref aW, .ref aS, .ref aK, .ref aP, .ref aT, .ref aH, .ref aU])), (aW, .inl (cI, 5, .inl fW)), (aS, .inl (cI, 5, .inl fS)), (aK, .inl (cI, 6, .inl fK)), (aP, .inl (cI, 6, .inl fP)), (aT, .inl (cI, 6, .inl fT)), (aH, .inl (cI, 6, .inl fH)), (aU, .inl (cI, 6, .inl fU))]) [0, 1, 2, 3, 4, 5, 6, 7, 8] (by decide) rfl
    exact wt_iret hx hb hr hlocks hP9 hD9 hS ⟨xf, rfl⟩ dX5_as_19
  · skip
    obtain ⟨j_4, hj_4, rfl⟩ := wI_natT (T := T) (by omega) c_3
    refine lv_iload_n hx hb dX5_as_8 rfl (lv_at hl 2 rfl) ?_
    refine lv_iconst (v := 0) hx hb dX5_as_9 (by decide) ?_
    refine lv_iconst (v := 5) hx hb dX5_as_10 (by decide) ?_
    refine wt_rS (As := [.int a2, .int 0, .int 5]) (rest := []) ⟨hx, hb, hml, hown, hts⟩ (c_X5_within l D cI cZ cH a2 0 5) (va_cwS 3 hts gX5_as_X5_within rfl rfl rfl (by decide +kernel) ⟨Nat.le_of_ble_eq_true rfl, Nat.le_of_ble_eq_true rfl⟩) hK hP [] rfl rfl hl.1 rfl (Nat.le_of_ble_eq_true rfl) dX5_as_11 ⟨Nat.le_of_ble_eq_true rfl, Nat.le_of_ble_eq_true rfl⟩ (fun r_5 e_6 => ?_)
    subst e_6
    refine lv_if_ne (tgt := 20) hx hb dX5_as_14 (by decide) (fun c_7 => ?_) (fun c_7 => ?_)
    · skip
      obtain ⟨j_8, hj_8, hj_8b, rfl⟩ := wI_nat (a := 0) (b := 5) (by omega) (by omega) c_7
      refine lv_aload_n hx hb dX5_as_20 rfl (lv_at hl 0 rfl) ?_
      refine va_get (D := D) (ci := 5) (v := .ref ho) (C := RX5) (T := TX5) (N := 10) hx hb hts hi5 hown hK.1 hP 0 rfl rfl 2 (by decide) wf26 (fun _ h9 => h9) rfl dX5_as_21 ?_
      refine va_get (D := D) (ci := 0) (v := .ref aK) (C := RX0) (T := TX0) (N := 12) hx hb hts hi0 hown hK.1 hP 1 rfl rfl 7 (by decide) wf301 (fun _ h9 => h9) rfl dX5_as_24 ?_
      refine lv_iload_n hx hb dX5_as_27 rfl (lv_at hl 1 rfl) ?_
      refine va_iald hx hb hK.1 hP 4 0 rfl rfl (vp_in_nI (by omega) (by omega)) dX5_as_28 ?_
      refine lv_topi (fun ov_9 _ => ?_)
      refine lv_istore_n (lv' := [(3, .int ov_9), (0, .ref x), (1, .int (nI j_4)), (2, .int (nI j_8))]) hx hb dX5_as_29 rfl hl (by decide) rfl (fun ls hl => ?_)
      refine lv_iconst (v := 0) hx hb dX5_as_30 (by decide) ?_
      refine lv_istore (lv' := [(4, .int 0), (3, .int ov_9), (0, .ref x), (1, .int (nI j_4)), (2, .int (nI j_8))]) hx hb dX5_as_31 hl (by decide) rfl (fun ls hl => ?_)
      have loop33 : ∀ (k i_10 : Nat) (y_11 : Int32) (H : Heap) (locs : List Loc) (ls : Array Slot), i_10 + k = 6 → va_P D vwCl [(x, .inr (5, [vx_0, vx_1, .ref ho, vx_3, vx_4, vx_5, vx_6, vx_7, vx_8, .int xf])), (ho, .inr (0, [.int fr, .int co, .int (nI R), .int (nI T), .int mi, .ref aW, .ref aS, .ref aK, .ref aP, .ref aT, .ref aH, .ref aU])), (aW, .inl (cI, 5, .inl fW)), (aS, .inl (cI, 5, .inl fS)), (aK, .inl (cI, 6, .inl fK)), (aP, .inl (cI, 6, .inl fP)), (aT, .inl (cI, 6, .inl fT)), (aH, .inl (cI, 6, .inl fH)), (aU, .inl (cI, 6, .inl fU))] H → va_D A [(x, .inr (5, [vx_0, vx_1, .ref ho, vx_3, vx_4, vx_5, vx_6, vx_7, vx_8, .int xf])), (ho, .inr (0, [.int fr, .int co, .int (nI R), .int (nI T), .int mi, .ref aW, .ref aS, .ref aK, .ref aP, .ref aT, .ref aH, .ref aU])), (aW, .inl (cI, 5, .inl fW)), (aS, .inl (cI, 5, .inl fS)), (aK, .inl (cI, 6, .inl fK)), (aP, .inl (cI, 6, .inl fP)), (aT, .inl (cI, 6, .inl fT)), (aH, .inl (cI, 6, .inl fH)), (aU, .inl (cI, 6, .inl fU))] → va_S A s.heap H locs → lv_has ls 5 [(4, .int (nI i_10)), (3, .int y_11), (0, .ref x), (1, .int (nI j_4)), (2, .int (nI j_8))] → W p l e ({ frames := 2, cells := 0, slots := 0, locals := 43 } : Room) s m ([.ref x, .int (nI j_4), .int (nI j_8)] : List Value).toArray below meth c H locs 0 0 (MQ below (wt_QI D (fun r w => ∃ (x_f9 : Int32), w = [(x, .inr (5, [vx_0, vx_1, .ref ho, vx_3, vx_4, vx_5, vx_6, vx_7, vx_8, .int x_f9])), (ho, .inr (0, [.int fr, .int co, .int (nI R), .int (nI T), .int mi, .ref aW, .ref aS, .ref aK, .ref aP, .ref aT, .ref aH, .ref aU])), (aW, .inl (cI, 5, .inl fW)), (aS, .inl (cI, 5, .inl fS)), (aK, .inl (cI, 6, .inl fK)), (aP, .inl (cI, 6, .inl fP)), (aT, .inl (cI, 6, .inl fT)), (aH, .inl (cI, 6, .inl fH)), (aU, .inl (cI, 6, .inl fU))]) A) ([.ref x, .int (nI j_4), .int (nI j_8)] : List Value).toArray s 0 0 A) (F0 m 33 ls []) := by
        intro k
        induction k with
        | zero =>
          intro i_10 y_11 H locs ls hik  hP hD hS hl
          refine lv_iload hx hb dX5_as_33 (lv_at hl 0 rfl) ?_
          refine lv_bipush (v := 6) hx hb dX5_as_35 (by decide) ?_
          refine lv_icmp_ge (tgt := 72) hx hb dX5_as_37 (by decide) (fun _ => ?_) (fun h => absurd (nI_le (a := 6) (b := i_10) (by omega) (by omega)) h)
          refine lv_aload_n hx hb dX5_as_72 rfl (lv_at hl 2 rfl) ?_
          refine lv_iconst (v := 3) hx hb dX5_as_73 (by decide) ?_
          refine wt_goI (wr := [(ho, .inr (0, [.int fr, .int co, .int (nI R), .int (nI T), .int mi, .ref aW, .ref aS, .ref aK, .ref aP, .ref aT, .ref aH, .ref aU])), (aW, .inl (cI, 5, .inl fW)), (aS, .inl (cI, 5, .inl fS)), (aK, .inl (cI, 6, .inl fK)), (aP, .inl (cI, 6, .inl fP)), (aT, .inl (cI, 6, .inl fT)), (aH, .inl (cI, 6, .inl fH)), (aU, .inl (cI, 6, .inl fU))]) (wt_runV (As := [.int 3]) (rest := []) ⟨hx, hb, hml, hown, hts⟩ (c_X5_found l D cI cZ cH x 3 vx_0 vx_1 (.ref ho) vx_3 vx_4 vx_5 vx_6 vx_7 vx_8 (.int xf)) (cwV 1 hts gX5_as_X5_found rfl rfl rfl (by decide +kernel) ⟨Nat.le_of_ble_eq_true rfl, Nat.le_of_ble_eq_true rfl⟩) hK hP hD [0] rfl (by decide) (va_recv hK.1 hP (ci := 5) (q0 := 0) rfl rfl) rfl hl.1 rfl (Nat.le_of_ble_eq_true rfl) dX5_as_74 ⟨Nat.le_of_ble_eq_true rfl, Nat.le_of_ble_eq_true rfl⟩) hP hD hS hA [0] [1, 2, 3, 4, 5, 6, 7, 8] rfl rfl (by decide) (by decide) (fun r_12 w_13 H locs h_14 hP hD hS => ?_)
          obtain ⟨rfl, rfl⟩ := h_14
          have hP : va_P D vwCl [(ho, .inr (0, [.int fr, .int co, .int (nI R), .int (nI T), .int mi, .ref aW, .ref aS, .ref aK, .ref aP, .ref aT, .ref aH, .ref aU])), (aW, .inl (cI, 5, .inl fW)), (aS, .inl (cI, 5, .inl fS)), (aK, .inl (cI, 6, .inl fK)), (aP, .inl (cI, 6, .inl fP)), (aT, .inl (cI, 6, .inl fT)), (aH, .inl (cI, 6, .inl fH)), (aU, .inl (cI, 6, .inl fU)), (x, .inr (5, [vx_0, vx_1, .ref ho, vx_3, vx_4, vx_5, vx_6, vx_7, vx_8, .int 3]))] H := hP
          have hD : va_D A [(ho, .inr (0, [.int fr, .int co, .int (nI R), .int (nI T), .int mi, .ref aW, .ref aS, .ref aK, .ref aP, .ref aT, .ref aH, .ref aU])), (aW, .inl (cI, 5, .inl fW)), (aS, .inl (cI, 5, .inl fS)), (aK, .inl (cI, 6, .inl fK)), (aP, .inl (cI, 6, .inl fP)), (aT, .inl (cI, 6, .inl fT)), (aH, .inl (cI, 6, .inl fH)), (aU, .inl (cI, 6, .inl fU)), (x, .inr (5, [vx_0, vx_1, .ref ho, vx_3, vx_4, vx_5, vx_6, vx_7, vx_8, .int 3]))] := hD
          refine wt_top (z := (-1000013)) (by decide) ?_
          have hP9 := hP.sub (ws' := [(x, .inr (5, [vx_0, vx_1, .ref ho, vx_3, vx_4, vx_5, vx_6, vx_7, vx_8, .int 3])), (ho, .inr (0, [.int fr, .int co, .int (nI R), .int (nI T), .int mi, .ref aW, .ref aS, .ref aK, .ref aP, .ref aT, .ref aH, .ref aU])), (aW, .inl (cI, 5, .inl fW)), (aS, .inl (cI, 5, .inl fS)), (aK, .inl (cI, 6, .inl fK)), (aP, .inl (cI, 6, .inl fP)), (aT, .inl (cI, 6, .inl fT)), (aH, .inl (cI, 6, .inl fH)), (aU, .inl (cI, 6, .inl fU))]) [8, 0, 1, 2, 3, 4, 5, 6, 7] rfl
          have hD9 := hD.sub (ws' := [(x, .inr (5, [vx_0, vx_1, .ref ho, vx_3, vx_4, vx_5, vx_6, vx_7, vx_8, .int 3])), (ho, .inr (0, [.int fr, .int co, .int (nI R), .int (nI T), .int mi, .ref aW, .ref aS, .ref aK, .ref aP, .ref aT, .ref aH, .ref aU])), (aW, .inl (cI, 5, .inl fW)), (aS, .inl (cI, 5, .inl fS)), (aK, .inl (cI, 6, .inl fK)), (aP, .inl (cI, 6, .inl fP)), (aT, .inl (cI, 6, .inl fT)), (aH, .inl (cI, 6, .inl fH)), (aU, .inl (cI, 6, .inl fU))]) [8, 0, 1, 2, 3, 4, 5, 6, 7] (by decide) rfl
          exact wt_iret hx hb hr hlocks hP9 hD9 hS ⟨3, rfl⟩ dX5_as_77
        | succ k ih33 =>
          intro i_10 y_11 H locs ls hik  hP hD hS hl
          refine lv_iload hx hb dX5_as_33 (lv_at hl 0 rfl) ?_
          refine lv_bipush (v := 6) hx hb dX5_as_35 (by decide) ?_
          refine lv_icmp_ge (tgt := 72) hx hb dX5_as_37 (by decide) (fun h => absurd h (nI_ge (a := i_10) (b := 6) (by omega) (by omega))) (fun _ => ?_)
          refine lv_iload_n hx hb dX5_as_40 rfl (lv_at hl 1 rfl) ?_
          refine lv_iconst (v := 0) hx hb dX5_as_41 (by decide) ?_
          refine lv_iconst (v := 5) hx hb dX5_as_42 (by decide) ?_
          refine wt_rS (As := [.int y_11, .int 0, .int 5]) (rest := []) ⟨hx, hb, hml, hown, hts⟩ (c_X5_within l D cI cZ cH y_11 0 5) (va_cwS 3 hts gX5_as_X5_within rfl rfl rfl (by decide +kernel) ⟨Nat.le_of_ble_eq_true rfl, Nat.le_of_ble_eq_true rfl⟩) hK hP [] rfl rfl hl.1 rfl (Nat.le_of_ble_eq_true rfl) dX5_as_43 ⟨Nat.le_of_ble_eq_true rfl, Nat.le_of_ble_eq_true rfl⟩ (fun r_15 e_16 => ?_)
          subst e_16
          refine lv_if_eq (tgt := 72) hx hb dX5_as_46 (by decide) (fun c_17 => ?_) (fun c_17 => ?_)
          · skip
            refine lv_aload_n hx hb dX5_as_72 rfl (lv_at hl 2 rfl) ?_
            refine lv_iconst (v := 3) hx hb dX5_as_73 (by decide) ?_
            refine wt_goI (wr := [(ho, .inr (0, [.int fr, .int co, .int (nI R), .int (nI T), .int mi, .ref aW, .ref aS, .ref aK, .ref aP, .ref aT, .ref aH, .ref aU])), (aW, .inl (cI, 5, .inl fW)), (aS, .inl (cI, 5, .inl fS)), (aK, .inl (cI, 6, .inl fK)), (aP, .inl (cI, 6, .inl fP)), (aT, .inl (cI, 6, .inl fT)), (aH, .inl (cI, 6, .inl fH)), (aU, .inl (cI, 6, .inl fU))]) (wt_runV (As := [.int 3]) (rest := []) ⟨hx, hb, hml, hown, hts⟩ (c_X5_found l D cI cZ cH x 3 vx_0 vx_1 (.ref ho) vx_3 vx_4 vx_5 vx_6 vx_7 vx_8 (.int xf)) (cwV 1 hts gX5_as_X5_found rfl rfl rfl (by decide +kernel) ⟨Nat.le_of_ble_eq_true rfl, Nat.le_of_ble_eq_true rfl⟩) hK hP hD [0] rfl (by decide) (va_recv hK.1 hP (ci := 5) (q0 := 0) rfl rfl) rfl hl.1 rfl (Nat.le_of_ble_eq_true rfl) dX5_as_74 ⟨Nat.le_of_ble_eq_true rfl, Nat.le_of_ble_eq_true rfl⟩) hP hD hS hA [0] [1, 2, 3, 4, 5, 6, 7, 8] rfl rfl (by decide) (by decide) (fun r_18 w_19 H locs h_20 hP hD hS => ?_)
            obtain ⟨rfl, rfl⟩ := h_20
            have hP : va_P D vwCl [(ho, .inr (0, [.int fr, .int co, .int (nI R), .int (nI T), .int mi, .ref aW, .ref aS, .ref aK, .ref aP, .ref aT, .ref aH, .ref aU])), (aW, .inl (cI, 5, .inl fW)), (aS, .inl (cI, 5, .inl fS)), (aK, .inl (cI, 6, .inl fK)), (aP, .inl (cI, 6, .inl fP)), (aT, .inl (cI, 6, .inl fT)), (aH, .inl (cI, 6, .inl fH)), (aU, .inl (cI, 6, .inl fU)), (x, .inr (5, [vx_0, vx_1, .ref ho, vx_3, vx_4, vx_5, vx_6, vx_7, vx_8, .int 3]))] H := hP
            have hD : va_D A [(ho, .inr (0, [.int fr, .int co, .int (nI R), .int (nI T), .int mi, .ref aW, .ref aS, .ref aK, .ref aP, .ref aT, .ref aH, .ref aU])), (aW, .inl (cI, 5, .inl fW)), (aS, .inl (cI, 5, .inl fS)), (aK, .inl (cI, 6, .inl fK)), (aP, .inl (cI, 6, .inl fP)), (aT, .inl (cI, 6, .inl fT)), (aH, .inl (cI, 6, .inl fH)), (aU, .inl (cI, 6, .inl fU)), (x, .inr (5, [vx_0, vx_1, .ref ho, vx_3, vx_4, vx_5, vx_6, vx_7, vx_8, .int 3]))] := hD
            refine wt_top (z := (-1000013)) (by decide) ?_
            have hP9 := hP.sub (ws' := [(x, .inr (5, [vx_0, vx_1, .ref ho, vx_3, vx_4, vx_5, vx_6, vx_7, vx_8, .int 3])), (ho, .inr (0, [.int fr, .int co, .int (nI R), .int (nI T), .int mi, .ref aW, .ref aS, .ref aK, .ref aP, .ref aT, .ref aH, .ref aU])), (aW, .inl (cI, 5, .inl fW)), (aS, .inl (cI, 5, .inl fS)), (aK, .inl (cI, 6, .inl fK)), (aP, .inl (cI, 6, .inl fP)), (aT, .inl (cI, 6, .inl fT)), (aH, .inl (cI, 6, .inl fH)), (aU, .inl (cI, 6, .inl fU))]) [8, 0, 1, 2, 3, 4, 5, 6, 7] rfl
            have hD9 := hD.sub (ws' := [(x, .inr (5, [vx_0, vx_1, .ref ho, vx_3, vx_4, vx_5, vx_6, vx_7, vx_8, .int 3])), (ho, .inr (0, [.int fr, .int co, .int (nI R), .int (nI T), .int mi, .ref aW, .ref aS, .ref aK, .ref aP, .ref aT, .ref aH, .ref aU])), (aW, .inl (cI, 5, .inl fW)), (aS, .inl (cI, 5, .inl fS)), (aK, .inl (cI, 6, .inl fK)), (aP, .inl (cI, 6, .inl fP)), (aT, .inl (cI, 6, .inl fT)), (aH, .inl (cI, 6, .inl fH)), (aU, .inl (cI, 6, .inl fU))]) [8, 0, 1, 2, 3, 4, 5, 6, 7] (by decide) rfl
            exact wt_iret hx hb hr hlocks hP9 hD9 hS ⟨3, rfl⟩ dX5_as_77
          · skip
            obtain ⟨j_21, hj_21, hj_21b, rfl⟩ := wI_nat (a := 0) (b := 5) (by omega) (by omega) c_17
            refine lv_iload_n hx hb dX5_as_49 rfl (lv_at hl 1 rfl) ?_
            refine lv_iload_n hx hb dX5_as_50 rfl (lv_at hl 4 rfl) ?_
            refine lv_icmp_ne (tgt := 60) hx hb dX5_as_51 (by decide) (fun c_22 => ?_) (fun c_22 => ?_)
            · skip
              have c_22 : ¬ (j_21 = j_8) := fun h => c_22 ((nI_eq (a := j_21) (b := j_8) (by omega) (by omega)).mpr h)
              refine va_gets hx hb hZ.1.1 hS hown wf304 (fun _ h => h) dX5_as_60 ?_
              refine lv_iload_n hx hb dX5_as_63 rfl (lv_at hl 1 rfl) ?_
              refine va_ti hx hb hZ.1.2 hS (vp_in_nI (by omega) (by omega)) rfl dX5_as_64 ?_
              refine lv_topi (fun ov_23 _ => ?_)
              refine lv_istore_n (lv' := [(3, .int ov_23), (4, .int (nI i_10)), (0, .ref x), (1, .int (nI j_4)), (2, .int (nI j_8))]) hx hb dX5_as_65 rfl hl (by decide) rfl (fun ls hl => ?_)
              refine lv_iinc (v := nI (i_10 + 1)) (lv' := [(4, .int (nI (i_10 + 1))), (3, .int ov_23), (0, .ref x), (1, .int (nI j_4)), (2, .int (nI j_8))]) hx hb dX5_as_66 hl (k := 1) rfl (nI_add i_10 1) (by decide) rfl (fun ls hl => ?_)
              refine lv_goto (tgt := 33) hx hb dX5_as_69 (by decide) ?_
              exact ih33 ((i_10 + 1)) ov_23 H locs ls (by omega)  hP hD hS (lv_sub hl [0, 1, 2, 3, 4] rfl)
            · skip
              have c_22 : j_21 = j_8 := (nI_eq (a := j_21) (b := j_8) (by omega) (by omega)).mp c_22
              refine lv_aload_n hx hb dX5_as_54 rfl (lv_at hl 2 rfl) ?_
              refine lv_iload_n hx hb dX5_as_55 rfl (lv_at hl 3 rfl) ?_
              refine wt_goI (wr := [(ho, .inr (0, [.int fr, .int co, .int (nI R), .int (nI T), .int mi, .ref aW, .ref aS, .ref aK, .ref aP, .ref aT, .ref aH, .ref aU])), (aW, .inl (cI, 5, .inl fW)), (aS, .inl (cI, 5, .inl fS)), (aK, .inl (cI, 6, .inl fK)), (aP, .inl (cI, 6, .inl fP)), (aT, .inl (cI, 6, .inl fT)), (aH, .inl (cI, 6, .inl fH)), (aU, .inl (cI, 6, .inl fU))]) (wt_runV (As := [.int (nI j_4)]) (rest := []) ⟨hx, hb, hml, hown, hts⟩ (c_X5_plain l D cI cZ cH x (nI j_4) vx_0 vx_1 (.ref ho) vx_3 vx_4 vx_5 vx_6 vx_7 vx_8 (.int xf)) (cwV 1 hts gX5_as_X5_plain rfl rfl rfl (by decide +kernel) ⟨Nat.le_of_ble_eq_true rfl, Nat.le_of_ble_eq_true rfl⟩) hK hP hD [0] rfl (by decide) (va_recv hK.1 hP (ci := 5) (q0 := 0) rfl rfl) rfl hl.1 rfl (Nat.le_of_ble_eq_true rfl) dX5_as_56 ⟨Nat.le_of_ble_eq_true rfl, Nat.le_of_ble_eq_true rfl⟩) hP hD hS hA [0] [1, 2, 3, 4, 5, 6, 7, 8] rfl rfl (by decide) (by decide) (fun r_24 w_25 H locs h_26 hP hD hS => ?_)
              obtain ⟨rfl, rfl⟩ := h_26
              have hP : va_P D vwCl [(ho, .inr (0, [.int fr, .int co, .int (nI R), .int (nI T), .int mi, .ref aW, .ref aS, .ref aK, .ref aP, .ref aT, .ref aH, .ref aU])), (aW, .inl (cI, 5, .inl fW)), (aS, .inl (cI, 5, .inl fS)), (aK, .inl (cI, 6, .inl fK)), (aP, .inl (cI, 6, .inl fP)), (aT, .inl (cI, 6, .inl fT)), (aH, .inl (cI, 6, .inl fH)), (aU, .inl (cI, 6, .inl fU)), (x, .inr (5, [vx_0, vx_1, .ref ho, vx_3, vx_4, vx_5, vx_6, vx_7, vx_8, .int 0]))] H := hP
              have hD : va_D A [(ho, .inr (0, [.int fr, .int co, .int (nI R), .int (nI T), .int mi, .ref aW, .ref aS, .ref aK, .ref aP, .ref aT, .ref aH, .ref aU])), (aW, .inl (cI, 5, .inl fW)), (aS, .inl (cI, 5, .inl fS)), (aK, .inl (cI, 6, .inl fK)), (aP, .inl (cI, 6, .inl fP)), (aT, .inl (cI, 6, .inl fT)), (aH, .inl (cI, 6, .inl fH)), (aU, .inl (cI, 6, .inl fU)), (x, .inr (5, [vx_0, vx_1, .ref ho, vx_3, vx_4, vx_5, vx_6, vx_7, vx_8, .int 0]))] := hD
              have hP9 := hP.sub (ws' := [(x, .inr (5, [vx_0, vx_1, .ref ho, vx_3, vx_4, vx_5, vx_6, vx_7, vx_8, .int 0])), (ho, .inr (0, [.int fr, .int co, .int (nI R), .int (nI T), .int mi, .ref aW, .ref aS, .ref aK, .ref aP, .ref aT, .ref aH, .ref aU])), (aW, .inl (cI, 5, .inl fW)), (aS, .inl (cI, 5, .inl fS)), (aK, .inl (cI, 6, .inl fK)), (aP, .inl (cI, 6, .inl fP)), (aT, .inl (cI, 6, .inl fT)), (aH, .inl (cI, 6, .inl fH)), (aU, .inl (cI, 6, .inl fU))]) [8, 0, 1, 2, 3, 4, 5, 6, 7] rfl
              have hD9 := hD.sub (ws' := [(x, .inr (5, [vx_0, vx_1, .ref ho, vx_3, vx_4, vx_5, vx_6, vx_7, vx_8, .int 0])), (ho, .inr (0, [.int fr, .int co, .int (nI R), .int (nI T), .int mi, .ref aW, .ref aS, .ref aK, .ref aP, .ref aT, .ref aH, .ref aU])), (aW, .inl (cI, 5, .inl fW)), (aS, .inl (cI, 5, .inl fS)), (aK, .inl (cI, 6, .inl fK)), (aP, .inl (cI, 6, .inl fP)), (aT, .inl (cI, 6, .inl fT)), (aH, .inl (cI, 6, .inl fH)), (aU, .inl (cI, 6, .inl fU))]) [8, 0, 1, 2, 3, 4, 5, 6, 7] (by decide) rfl
              exact wt_iret hx hb hr hlocks hP9 hD9 hS ⟨0, rfl⟩ dX5_as_59
      exact loop33 (6 - 0) (0) ov_9 _ _ ls (by omega)  hP hD hS hl
    · skip
      refine lv_ldc hx hb hown wc70 dX5_as_17 ?_
      have hP9 := hP.sub (ws' := [(x, .inr (5, [vx_0, vx_1, .ref ho, vx_3, vx_4, vx_5, vx_6, vx_7, vx_8, .int xf])), (ho, .inr (0, [.int fr, .int co, .int (nI R), .int (nI T), .int mi, .ref aW, .ref aS, .ref aK, .ref aP, .ref aT, .ref aH, .ref aU])), (aW, .inl (cI, 5, .inl fW)), (aS, .inl (cI, 5, .inl fS)), (aK, .inl (cI, 6, .inl fK)), (aP, .inl (cI, 6, .inl fP)), (aT, .inl (cI, 6, .inl fT)), (aH, .inl (cI, 6, .inl fH)), (aU, .inl (cI, 6, .inl fU))]) [0, 1, 2, 3, 4, 5, 6, 7, 8] rfl
      have hD9 := hD.sub (ws' := [(x, .inr (5, [vx_0, vx_1, .ref ho, vx_3, vx_4, vx_5, vx_6, vx_7, vx_8, .int xf])), (ho, .inr (0, [.int fr, .int co, .int (nI R), .int (nI T), .int mi, .ref aW, .ref aS, .ref aK, .ref aP, .ref aT, .ref aH, .ref aU])), (aW, .inl (cI, 5, .inl fW)), (aS, .inl (cI, 5, .inl fS)), (aK, .inl (cI, 6, .inl fK)), (aP, .inl (cI, 6, .inl fP)), (aT, .inl (cI, 6, .inl fT)), (aH, .inl (cI, 6, .inl fH)), (aU, .inl (cI, 6, .inl fU))]) [0, 1, 2, 3, 4, 5, 6, 7, 8] (by decide) rfl
      exact wt_iret hx hb hr hlocks hP9 hD9 hS ⟨xf, rfl⟩ dX5_as_19

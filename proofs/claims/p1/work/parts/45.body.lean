set_option maxHeartbeats 4000000 in
set_option maxRecDepth 100000 in
theorem law_body {p : Program} {e : Env} {s : State} {m : MethodId} {below : List Frame} {meth : Method} {c : Code} (l : Launch) {b : Nat} {xs : Nat → Int32} (C0 : lw_At p s m meth c b 7 xs) {D : va_G} {cI cZ cH : ClassId} (x rw ln sz it tp bt nw nw5 nw6 nw7 nw8 nw9 nw10 nw11 th th5 th6 th7 th8 th9 th10 th11 im i0 i05 i06 i07 i08 i09 i010 i011 i1 i15 i16 i17 i18 i19 i110 i111 ps fd pr tr bg md m_ln m_mn m_it m_hs m_fr m_tn m_ws m_bt m_td m_ik m_kp m_tc : Nat) (lf m_lf : Nat → Int32) (imf : Nat → Option Nat) (hl8 : ∀ j, j < 8 → lf j = -1) (him : imf 0 = some i0 ∧ imf 1 = some i1) (hm8 : ∀ j, j < 8 → m_lf j = -1) {H : Heap} {locs : List Loc} {ls : Array Slot} {cells slots : Nat} (hcs : cells ≤ 1000 ∧ slots ≤ 10000) (hK : wt_K D (wt_T cI cZ cH) s) (hP : va_P D vwCl [(x, .inr (5, [.ref rw, .ref tp, .ref nw, .ref th, .ref im, .ref ps, .ref pr, .ref tr, .int 0, .int 0])), (rw, .inr (2, [.ref ln, .ref sz, .ref it])), (ln, .inl (cI, 8, .inl lf)), (sz, .inl (cI, 8, .inl (fun _ => 0))), (it, .inl (cI, 320, .inl (fun _ => 0))), (tp, .inr (3, [.ref bt, .int 0, .int 0, .int 0, .int 0])), (bt, .inl (cI, 120, .inl (fun _ => 0))), (nw, .inr (0, [.int 0, .int 0, .int 0, .int 0, .int 0, .ref nw5, .ref nw6, .ref nw7, .ref nw8, .ref nw9, .ref nw10, .ref nw11])), (nw5, .inl (cI, 5, .inl (fun _ => 0))), (nw6, .inl (cI, 5, .inl (fun _ => 0))), (nw7, .inl (cI, 6, .inl (fun _ => 0))), (nw8, .inl (cI, 6, .inl (fun _ => 0))), (nw9, .inl (cI, 6, .inl (fun _ => 0))), (nw10, .inl (cI, 6, .inl (fun _ => 0))), (nw11, .inl (cI, 6, .inl (fun _ => 0))), (th, .inr (0, [.int 0, .int 0, .int 0, .int 0, .int 0, .ref th5, .ref th6, .ref th7, .ref th8, .ref th9, .ref th10, .ref th11])), (th5, .inl (cI, 5, .inl (fun _ => 0))), (th6, .inl (cI, 5, .inl (fun _ => 0))), (th7, .inl (cI, 6, .inl (fun _ => 0))), (th8, .inl (cI, 6, .inl (fun _ => 0))), (th9, .inl (cI, 6, .inl (fun _ => 0))), (th10, .inl (cI, 6, .inl (fun _ => 0))), (th11, .inl (cI, 6, .inl (fun _ => 0))), (im, .inl (cH, 2, .inr (.inr (.inr (.inr imf))))), (i0, .inr (0, [.int 0, .int 0, .int 0, .int 0, .int 0, .ref i05, .ref i06, .ref i07, .ref i08, .ref i09, .ref i010, .ref i011])), (i05, .inl (cI, 5, .inl (fun _ => 0))), (i06, .inl (cI, 5, .inl (fun _ => 0))), (i07, .inl (cI, 6, .inl (fun _ => 0))), (i08, .inl (cI, 6, .inl (fun _ => 0))), (i09, .inl (cI, 6, .inl (fun _ => 0))), (i010, .inl (cI, 6, .inl (fun _ => 0))), (i011, .inl (cI, 6, .inl (fun _ => 0))), (i1, .inr (0, [.int 0, .int 0, .int 0, .int 0, .int 0, .ref i15, .ref i16, .ref i17, .ref i18, .ref i19, .ref i110, .ref i111])), (i15, .inl (cI, 5, .inl (fun _ => 0))), (i16, .inl (cI, 5, .inl (fun _ => 0))), (i17, .inl (cI, 6, .inl (fun _ => 0))), (i18, .inl (cI, 6, .inl (fun _ => 0))), (i19, .inl (cI, 6, .inl (fun _ => 0))), (i110, .inl (cI, 6, .inl (fun _ => 0))), (i111, .inl (cI, 6, .inl (fun _ => 0))), (ps, .inr (1, [.ref fd, .int 0, .int 0])), (fd, .inl (cI, 552, .inl (fun _ => 0))), (pr, .inl (cI, 3, .inl (fun _ => 0))), (tr, .inr (4, [.ref bg, .int 0])), (bg, .inl (cI, 16, .inl (fun _ => 0))), (md, .inr (6, [.int 0, .int 0, .ref m_ln, .ref m_mn, .ref m_it, .ref m_hs, .ref m_fr, .ref m_tn, .ref m_ws, .int 0, .ref m_bt, .int 0, .int 0, .int 0, .int 0, .int 0, .int 0, .int 0, .int 0, .ref m_td, .ref m_ik, .ref m_kp, .ref m_tc, .int 0])), (m_ln, .inl (cI, 8, .inl m_lf)), (m_mn, .inl (cI, 8, .inl (fun _ => 0))), (m_it, .inl (cI, 320, .inl (fun _ => 0))), (m_hs, .inl (cI, 45, .inl (fun _ => 0))), (m_fr, .inl (cI, 45, .inl (fun _ => 0))), (m_tn, .inl (cI, 45, .inl (fun _ => 0))), (m_ws, .inl (cI, 1080, .inl (fun _ => 0))), (m_bt, .inl (cI, 120, .inl (fun _ => 0))), (m_td, .inl (cI, 3, .inl (fun _ => 0))), (m_ik, .inl (cZ, 2, .inl (fun _ => 0))), (m_kp, .inl (cI, 90, .inl (fun _ => 0))), (m_tc, .inl (cI, 16, .inl (fun _ => 0)))] H) (hD : va_D (fun q : Nat => s.heap.size ≤ q) [(x, .inr (5, [.ref rw, .ref tp, .ref nw, .ref th, .ref im, .ref ps, .ref pr, .ref tr, .int 0, .int 0])), (rw, .inr (2, [.ref ln, .ref sz, .ref it])), (ln, .inl (cI, 8, .inl lf)), (sz, .inl (cI, 8, .inl (fun _ => 0))), (it, .inl (cI, 320, .inl (fun _ => 0))), (tp, .inr (3, [.ref bt, .int 0, .int 0, .int 0, .int 0])), (bt, .inl (cI, 120, .inl (fun _ => 0))), (nw, .inr (0, [.int 0, .int 0, .int 0, .int 0, .int 0, .ref nw5, .ref nw6, .ref nw7, .ref nw8, .ref nw9, .ref nw10, .ref nw11])), (nw5, .inl (cI, 5, .inl (fun _ => 0))), (nw6, .inl (cI, 5, .inl (fun _ => 0))), (nw7, .inl (cI, 6, .inl (fun _ => 0))), (nw8, .inl (cI, 6, .inl (fun _ => 0))), (nw9, .inl (cI, 6, .inl (fun _ => 0))), (nw10, .inl (cI, 6, .inl (fun _ => 0))), (nw11, .inl (cI, 6, .inl (fun _ => 0))), (th, .inr (0, [.int 0, .int 0, .int 0, .int 0, .int 0, .ref th5, .ref th6, .ref th7, .ref th8, .ref th9, .ref th10, .ref th11])), (th5, .inl (cI, 5, .inl (fun _ => 0))), (th6, .inl (cI, 5, .inl (fun _ => 0))), (th7, .inl (cI, 6, .inl (fun _ => 0))), (th8, .inl (cI, 6, .inl (fun _ => 0))), (th9, .inl (cI, 6, .inl (fun _ => 0))), (th10, .inl (cI, 6, .inl (fun _ => 0))), (th11, .inl (cI, 6, .inl (fun _ => 0))), (im, .inl (cH, 2, .inr (.inr (.inr (.inr imf))))), (i0, .inr (0, [.int 0, .int 0, .int 0, .int 0, .int 0, .ref i05, .ref i06, .ref i07, .ref i08, .ref i09, .ref i010, .ref i011])), (i05, .inl (cI, 5, .inl (fun _ => 0))), (i06, .inl (cI, 5, .inl (fun _ => 0))), (i07, .inl (cI, 6, .inl (fun _ => 0))), (i08, .inl (cI, 6, .inl (fun _ => 0))), (i09, .inl (cI, 6, .inl (fun _ => 0))), (i010, .inl (cI, 6, .inl (fun _ => 0))), (i011, .inl (cI, 6, .inl (fun _ => 0))), (i1, .inr (0, [.int 0, .int 0, .int 0, .int 0, .int 0, .ref i15, .ref i16, .ref i17, .ref i18, .ref i19, .ref i110, .ref i111])), (i15, .inl (cI, 5, .inl (fun _ => 0))), (i16, .inl (cI, 5, .inl (fun _ => 0))), (i17, .inl (cI, 6, .inl (fun _ => 0))), (i18, .inl (cI, 6, .inl (fun _ => 0))), (i19, .inl (cI, 6, .inl (fun _ => 0))), (i110, .inl (cI, 6, .inl (fun _ => 0))), (i111, .inl (cI, 6, .inl (fun _ => 0))), (ps, .inr (1, [.ref fd, .int 0, .int 0])), (fd, .inl (cI, 552, .inl (fun _ => 0))), (pr, .inl (cI, 3, .inl (fun _ => 0))), (tr, .inr (4, [.ref bg, .int 0])), (bg, .inl (cI, 16, .inl (fun _ => 0))), (md, .inr (6, [.int 0, .int 0, .ref m_ln, .ref m_mn, .ref m_it, .ref m_hs, .ref m_fr, .ref m_tn, .ref m_ws, .int 0, .ref m_bt, .int 0, .int 0, .int 0, .int 0, .int 0, .int 0, .int 0, .int 0, .ref m_td, .ref m_ik, .ref m_kp, .ref m_tc, .int 0])), (m_ln, .inl (cI, 8, .inl m_lf)), (m_mn, .inl (cI, 8, .inl (fun _ => 0))), (m_it, .inl (cI, 320, .inl (fun _ => 0))), (m_hs, .inl (cI, 45, .inl (fun _ => 0))), (m_fr, .inl (cI, 45, .inl (fun _ => 0))), (m_tn, .inl (cI, 45, .inl (fun _ => 0))), (m_ws, .inl (cI, 1080, .inl (fun _ => 0))), (m_bt, .inl (cI, 120, .inl (fun _ => 0))), (m_td, .inl (cI, 3, .inl (fun _ => 0))), (m_ik, .inl (cZ, 2, .inl (fun _ => 0))), (m_kp, .inl (cI, 90, .inl (fun _ => 0))), (m_tc, .inl (cI, 16, .inl (fun _ => 0)))]) (hS : va_S (fun q : Nat => s.heap.size ≤ q) s.heap H locs) (hl : lv_has ls 4 [(3, .int 0), (2, .ref md), (1, .ref x), (0, .ref b)]) : W p l e room_1 s m #[Value.ref b] below meth c H locs cells slots (lw_Z below #[Value.ref b] s) (F0 m 27 ls []) := by
  obtain ⟨hx, hb, hr, hml, hown, hts, hX, hbl, hlocks, hgv⟩ := id C0
  have hb : c.code = cL_law := hb
  have hown : s.vm.findClass RL = some m.cls := hown
  have hA : ∀ q : Nat, s.heap.size ≤ q → (fun q : Nat => s.heap.size ≤ q) q := fun _ h => h
  have hbA : ¬ (fun q : Nat => s.heap.size ≤ q) b := Nat.not_le.mpr hbl
  refine lv_aload_n hx hb dL_law_27 rfl (lv_at hl 3 rfl) ?_
  refine lv_iload_n hx hb dL_law_28 rfl (lv_at hl 0 rfl) ?_
  refine va_sld hx hb hX hbl hbA hS (by rw [vp_in_iff]; decide) dL_law_29 ?_
  refine lv_bipush (v := 63) hx hb dL_law_30 (by decide) ?_
  refine lv_iand hx hb dL_law_32 ?_
  refine lv_topi (fun z ez => ?_)
  clear ez
  rcases wt_dec z 0 with c_0 | c_0
  · subst c_0
    refine lv_tableIn (off := 175) (tgt := 208) hx hb dL_law_33 (by decide) (by decide) rfl (by decide) ?_
    exact law_0 l C0 x rw ln sz it tp bt nw nw5 nw6 nw7 nw8 nw9 nw10 nw11 th th5 th6 th7 th8 th9 th10 th11 im i0 i05 i06 i07 i08 i09 i010 i011 i1 i15 i16 i17 i18 i19 i110 i111 ps fd pr tr bg md m_ln m_mn m_it m_hs m_fr m_tn m_ws m_bt m_td m_ik m_kp m_tc lf m_lf imf hl8 him hm8 hcs hK hP hD hS hl
  rcases wt_dec z 1 with c_1 | c_1
  · subst c_1
    refine lv_tableIn (off := 218) (tgt := 251) hx hb dL_law_33 (by decide) (by decide) rfl (by decide) ?_
    exact law_1 l C0 x rw ln sz it tp bt nw nw5 nw6 nw7 nw8 nw9 nw10 nw11 th th5 th6 th7 th8 th9 th10 th11 im i0 i05 i06 i07 i08 i09 i010 i011 i1 i15 i16 i17 i18 i19 i110 i111 ps fd pr tr bg md m_ln m_mn m_it m_hs m_fr m_tn m_ws m_bt m_td m_ik m_kp m_tc lf m_lf imf hl8 him hm8 hcs hK hP hD hS hl
  rcases wt_dec z 2 with c_2 | c_2
  · subst c_2
    refine lv_tableIn (off := 261) (tgt := 294) hx hb dL_law_33 (by decide) (by decide) rfl (by decide) ?_
    exact law_2 l C0 x rw ln sz it tp bt nw nw5 nw6 nw7 nw8 nw9 nw10 nw11 th th5 th6 th7 th8 th9 th10 th11 im i0 i05 i06 i07 i08 i09 i010 i011 i1 i15 i16 i17 i18 i19 i110 i111 ps fd pr tr bg md m_ln m_mn m_it m_hs m_fr m_tn m_ws m_bt m_td m_ik m_kp m_tc lf m_lf imf hl8 him hm8 hcs hK hP hD hS hl
  rcases wt_dec z 3 with c_3 | c_3
  · subst c_3
    refine lv_tableIn (off := 324) (tgt := 357) hx hb dL_law_33 (by decide) (by decide) rfl (by decide) ?_
    exact law_3 l C0 x rw ln sz it tp bt nw nw5 nw6 nw7 nw8 nw9 nw10 nw11 th th5 th6 th7 th8 th9 th10 th11 im i0 i05 i06 i07 i08 i09 i010 i011 i1 i15 i16 i17 i18 i19 i110 i111 ps fd pr tr bg md m_ln m_mn m_it m_hs m_fr m_tn m_ws m_bt m_td m_ik m_kp m_tc lf m_lf imf hl8 him hm8 hcs hK hP hD hS hl
  rcases wt_dec z 4 with c_4 | c_4
  · subst c_4
    refine lv_tableIn (off := 347) (tgt := 380) hx hb dL_law_33 (by decide) (by decide) rfl (by decide) ?_
    exact law_4 l C0 x rw ln sz it tp bt nw nw5 nw6 nw7 nw8 nw9 nw10 nw11 th th5 th6 th7 th8 th9 th10 th11 im i0 i05 i06 i07 i08 i09 i010 i011 i1 i15 i16 i17 i18 i19 i110 i111 ps fd pr tr bg md m_ln m_mn m_it m_hs m_fr m_tn m_ws m_bt m_td m_ik m_kp m_tc lf m_lf imf hl8 him hm8 hcs hK hP hD hS hl
  rcases wt_dec z 5 with c_5 | c_5
  · subst c_5
    refine lv_tableIn (off := 370) (tgt := 403) hx hb dL_law_33 (by decide) (by decide) rfl (by decide) ?_
    exact law_5 l C0 x rw ln sz it tp bt nw nw5 nw6 nw7 nw8 nw9 nw10 nw11 th th5 th6 th7 th8 th9 th10 th11 im i0 i05 i06 i07 i08 i09 i010 i011 i1 i15 i16 i17 i18 i19 i110 i111 ps fd pr tr bg md m_ln m_mn m_it m_hs m_fr m_tn m_ws m_bt m_td m_ik m_kp m_tc lf m_lf imf hl8 him hm8 hcs hK hP hD hS hl
  rcases wt_dec z 6 with c_6 | c_6
  · subst c_6
    refine lv_tableIn (off := 383) (tgt := 416) hx hb dL_law_33 (by decide) (by decide) rfl (by decide) ?_
    exact law_6 l C0 x rw ln sz it tp bt nw nw5 nw6 nw7 nw8 nw9 nw10 nw11 th th5 th6 th7 th8 th9 th10 th11 im i0 i05 i06 i07 i08 i09 i010 i011 i1 i15 i16 i17 i18 i19 i110 i111 ps fd pr tr bg md m_ln m_mn m_it m_hs m_fr m_tn m_ws m_bt m_td m_ik m_kp m_tc lf m_lf imf hl8 him hm8 hcs hK hP hD hS hl
  rcases wt_dec z 7 with c_7 | c_7
  · subst c_7
    refine lv_tableIn (off := 396) (tgt := 429) hx hb dL_law_33 (by decide) (by decide) rfl (by decide) ?_
    exact law_7 l C0 x rw ln sz it tp bt nw nw5 nw6 nw7 nw8 nw9 nw10 nw11 th th5 th6 th7 th8 th9 th10 th11 im i0 i05 i06 i07 i08 i09 i010 i011 i1 i15 i16 i17 i18 i19 i110 i111 ps fd pr tr bg md m_ln m_mn m_it m_hs m_fr m_tn m_ws m_bt m_td m_ik m_kp m_tc lf m_lf imf hl8 him hm8 hcs hK hP hD hS hl
  rcases wt_dec z 8 with c_8 | c_8
  · subst c_8
    refine lv_tableIn (off := 409) (tgt := 442) hx hb dL_law_33 (by decide) (by decide) rfl (by decide) ?_
    exact law_8 l C0 x rw ln sz it tp bt nw nw5 nw6 nw7 nw8 nw9 nw10 nw11 th th5 th6 th7 th8 th9 th10 th11 im i0 i05 i06 i07 i08 i09 i010 i011 i1 i15 i16 i17 i18 i19 i110 i111 ps fd pr tr bg md m_ln m_mn m_it m_hs m_fr m_tn m_ws m_bt m_td m_ik m_kp m_tc lf m_lf imf hl8 him hm8 hcs hK hP hD hS hl
  rcases wt_dec z 9 with c_9 | c_9
  · subst c_9
    refine lv_tableIn (off := 432) (tgt := 465) hx hb dL_law_33 (by decide) (by decide) rfl (by decide) ?_
    exact law_9 l C0 x rw ln sz it tp bt nw nw5 nw6 nw7 nw8 nw9 nw10 nw11 th th5 th6 th7 th8 th9 th10 th11 im i0 i05 i06 i07 i08 i09 i010 i011 i1 i15 i16 i17 i18 i19 i110 i111 ps fd pr tr bg md m_ln m_mn m_it m_hs m_fr m_tn m_ws m_bt m_td m_ik m_kp m_tc lf m_lf imf hl8 him hm8 hcs hK hP hD hS hl
  rcases wt_dec z 10 with c_10 | c_10
  · subst c_10
    refine lv_tableIn (off := 465) (tgt := 498) hx hb dL_law_33 (by decide) (by decide) rfl (by decide) ?_
    exact law_10 l C0 x rw ln sz it tp bt nw nw5 nw6 nw7 nw8 nw9 nw10 nw11 th th5 th6 th7 th8 th9 th10 th11 im i0 i05 i06 i07 i08 i09 i010 i011 i1 i15 i16 i17 i18 i19 i110 i111 ps fd pr tr bg md m_ln m_mn m_it m_hs m_fr m_tn m_ws m_bt m_td m_ik m_kp m_tc lf m_lf imf hl8 him hm8 hcs hK hP hD hS hl
  rcases wt_dec z 11 with c_11 | c_11
  · subst c_11
    refine lv_tableIn (off := 488) (tgt := 521) hx hb dL_law_33 (by decide) (by decide) rfl (by decide) ?_
    exact law_11 l C0 x rw ln sz it tp bt nw nw5 nw6 nw7 nw8 nw9 nw10 nw11 th th5 th6 th7 th8 th9 th10 th11 im i0 i05 i06 i07 i08 i09 i010 i011 i1 i15 i16 i17 i18 i19 i110 i111 ps fd pr tr bg md m_ln m_mn m_it m_hs m_fr m_tn m_ws m_bt m_td m_ik m_kp m_tc lf m_lf imf hl8 him hm8 hcs hK hP hD hS hl
  rcases wt_dec z 12 with c_12 | c_12
  · subst c_12
    refine lv_tableIn (off := 521) (tgt := 554) hx hb dL_law_33 (by decide) (by decide) rfl (by decide) ?_
    exact law_12 l C0 x rw ln sz it tp bt nw nw5 nw6 nw7 nw8 nw9 nw10 nw11 th th5 th6 th7 th8 th9 th10 th11 im i0 i05 i06 i07 i08 i09 i010 i011 i1 i15 i16 i17 i18 i19 i110 i111 ps fd pr tr bg md m_ln m_mn m_it m_hs m_fr m_tn m_ws m_bt m_td m_ik m_kp m_tc lf m_lf imf hl8 him hm8 hcs hK hP hD hS hl
  rcases wt_dec z 13 with c_13 | c_13
  · subst c_13
    refine lv_tableIn (off := 554) (tgt := 587) hx hb dL_law_33 (by decide) (by decide) rfl (by decide) ?_
    exact law_13 l C0 x rw ln sz it tp bt nw nw5 nw6 nw7 nw8 nw9 nw10 nw11 th th5 th6 th7 th8 th9 th10 th11 im i0 i05 i06 i07 i08 i09 i010 i011 i1 i15 i16 i17 i18 i19 i110 i111 ps fd pr tr bg md m_ln m_mn m_it m_hs m_fr m_tn m_ws m_bt m_td m_ik m_kp m_tc lf m_lf imf hl8 him hm8 hcs hK hP hD hS hl
  rcases wt_dec z 14 with c_14 | c_14
  · subst c_14
    refine lv_tableIn (off := 587) (tgt := 620) hx hb dL_law_33 (by decide) (by decide) rfl (by decide) ?_
    exact law_14 l C0 x rw ln sz it tp bt nw nw5 nw6 nw7 nw8 nw9 nw10 nw11 th th5 th6 th7 th8 th9 th10 th11 im i0 i05 i06 i07 i08 i09 i010 i011 i1 i15 i16 i17 i18 i19 i110 i111 ps fd pr tr bg md m_ln m_mn m_it m_hs m_fr m_tn m_ws m_bt m_td m_ik m_kp m_tc lf m_lf imf hl8 him hm8 hcs hK hP hD hS hl
  rcases wt_dec z 15 with c_15 | c_15
  · subst c_15
    refine lv_tableIn (off := 620) (tgt := 653) hx hb dL_law_33 (by decide) (by decide) rfl (by decide) ?_
    exact law_15 l C0 x rw ln sz it tp bt nw nw5 nw6 nw7 nw8 nw9 nw10 nw11 th th5 th6 th7 th8 th9 th10 th11 im i0 i05 i06 i07 i08 i09 i010 i011 i1 i15 i16 i17 i18 i19 i110 i111 ps fd pr tr bg md m_ln m_mn m_it m_hs m_fr m_tn m_ws m_bt m_td m_ik m_kp m_tc lf m_lf imf hl8 him hm8 hcs hK hP hD hS hl
  rcases wt_dec z 16 with c_16 | c_16
  · subst c_16
    refine lv_tableIn (off := 653) (tgt := 686) hx hb dL_law_33 (by decide) (by decide) rfl (by decide) ?_
    exact law_16 l C0 x rw ln sz it tp bt nw nw5 nw6 nw7 nw8 nw9 nw10 nw11 th th5 th6 th7 th8 th9 th10 th11 im i0 i05 i06 i07 i08 i09 i010 i011 i1 i15 i16 i17 i18 i19 i110 i111 ps fd pr tr bg md m_ln m_mn m_it m_hs m_fr m_tn m_ws m_bt m_td m_ik m_kp m_tc lf m_lf imf hl8 him hm8 hcs hK hP hD hS hl
  rcases wt_dec z 17 with c_17 | c_17
  · subst c_17
    refine lv_tableIn (off := 686) (tgt := 719) hx hb dL_law_33 (by decide) (by decide) rfl (by decide) ?_
    exact law_17 l C0 x rw ln sz it tp bt nw nw5 nw6 nw7 nw8 nw9 nw10 nw11 th th5 th6 th7 th8 th9 th10 th11 im i0 i05 i06 i07 i08 i09 i010 i011 i1 i15 i16 i17 i18 i19 i110 i111 ps fd pr tr bg md m_ln m_mn m_it m_hs m_fr m_tn m_ws m_bt m_td m_ik m_kp m_tc lf m_lf imf hl8 him hm8 hcs hK hP hD hS hl
  rcases wt_dec z 18 with c_18 | c_18
  · subst c_18
    refine lv_tableIn (off := 709) (tgt := 742) hx hb dL_law_33 (by decide) (by decide) rfl (by decide) ?_
    exact law_18 l C0 x rw ln sz it tp bt nw nw5 nw6 nw7 nw8 nw9 nw10 nw11 th th5 th6 th7 th8 th9 th10 th11 im i0 i05 i06 i07 i08 i09 i010 i011 i1 i15 i16 i17 i18 i19 i110 i111 ps fd pr tr bg md m_ln m_mn m_it m_hs m_fr m_tn m_ws m_bt m_td m_ik m_kp m_tc lf m_lf imf hl8 him hm8 hcs hK hP hD hS hl
  rcases wt_dec z 19 with c_19 | c_19
  · subst c_19
    refine lv_tableIn (off := 732) (tgt := 765) hx hb dL_law_33 (by decide) (by decide) rfl (by decide) ?_
    exact law_19 l C0 x rw ln sz it tp bt nw nw5 nw6 nw7 nw8 nw9 nw10 nw11 th th5 th6 th7 th8 th9 th10 th11 im i0 i05 i06 i07 i08 i09 i010 i011 i1 i15 i16 i17 i18 i19 i110 i111 ps fd pr tr bg md m_ln m_mn m_it m_hs m_fr m_tn m_ws m_bt m_td m_ik m_kp m_tc lf m_lf imf hl8 him hm8 hcs hK hP hD hS hl
  rcases wt_dec z 20 with c_20 | c_20
  · subst c_20
    refine lv_tableIn (off := 755) (tgt := 788) hx hb dL_law_33 (by decide) (by decide) rfl (by decide) ?_
    exact law_20 l C0 x rw ln sz it tp bt nw nw5 nw6 nw7 nw8 nw9 nw10 nw11 th th5 th6 th7 th8 th9 th10 th11 im i0 i05 i06 i07 i08 i09 i010 i011 i1 i15 i16 i17 i18 i19 i110 i111 ps fd pr tr bg md m_ln m_mn m_it m_hs m_fr m_tn m_ws m_bt m_td m_ik m_kp m_tc lf m_lf imf hl8 him hm8 hcs hK hP hD hS hl
  rcases wt_dec z 21 with c_21 | c_21
  · subst c_21
    refine lv_tableIn (off := 798) (tgt := 831) hx hb dL_law_33 (by decide) (by decide) rfl (by decide) ?_
    exact law_21 l C0 x rw ln sz it tp bt nw nw5 nw6 nw7 nw8 nw9 nw10 nw11 th th5 th6 th7 th8 th9 th10 th11 im i0 i05 i06 i07 i08 i09 i010 i011 i1 i15 i16 i17 i18 i19 i110 i111 ps fd pr tr bg md m_ln m_mn m_it m_hs m_fr m_tn m_ws m_bt m_td m_ik m_kp m_tc lf m_lf imf hl8 him hm8 hcs hK hP hD hS hl
  rcases wt_dec z 22 with c_22 | c_22
  · subst c_22
    refine lv_tableIn (off := 841) (tgt := 874) hx hb dL_law_33 (by decide) (by decide) rfl (by decide) ?_
    exact law_22 l C0 x rw ln sz it tp bt nw nw5 nw6 nw7 nw8 nw9 nw10 nw11 th th5 th6 th7 th8 th9 th10 th11 im i0 i05 i06 i07 i08 i09 i010 i011 i1 i15 i16 i17 i18 i19 i110 i111 ps fd pr tr bg md m_ln m_mn m_it m_hs m_fr m_tn m_ws m_bt m_td m_ik m_kp m_tc lf m_lf imf hl8 him hm8 hcs hK hP hD hS hl
  rcases wt_dec z 23 with c_23 | c_23
  · subst c_23
    refine lv_tableIn (off := 884) (tgt := 917) hx hb dL_law_33 (by decide) (by decide) rfl (by decide) ?_
    exact law_23 l C0 x rw ln sz it tp bt nw nw5 nw6 nw7 nw8 nw9 nw10 nw11 th th5 th6 th7 th8 th9 th10 th11 im i0 i05 i06 i07 i08 i09 i010 i011 i1 i15 i16 i17 i18 i19 i110 i111 ps fd pr tr bg md m_ln m_mn m_it m_hs m_fr m_tn m_ws m_bt m_td m_ik m_kp m_tc lf m_lf imf hl8 him hm8 hcs hK hP hD hS hl
  rcases wt_dec z 24 with c_24 | c_24
  · subst c_24
    refine lv_tableIn (off := 917) (tgt := 950) hx hb dL_law_33 (by decide) (by decide) rfl (by decide) ?_
    exact law_24 l C0 x rw ln sz it tp bt nw nw5 nw6 nw7 nw8 nw9 nw10 nw11 th th5 th6 th7 th8 th9 th10 th11 im i0 i05 i06 i07 i08 i09 i010 i011 i1 i15 i16 i17 i18 i19 i110 i111 ps fd pr tr bg md m_ln m_mn m_it m_hs m_fr m_tn m_ws m_bt m_td m_ik m_kp m_tc lf m_lf imf hl8 him hm8 hcs hK hP hD hS hl
  rcases wt_dec z 25 with c_25 | c_25
  · subst c_25
    refine lv_tableIn (off := 960) (tgt := 993) hx hb dL_law_33 (by decide) (by decide) rfl (by decide) ?_
    exact law_25 l C0 x rw ln sz it tp bt nw nw5 nw6 nw7 nw8 nw9 nw10 nw11 th th5 th6 th7 th8 th9 th10 th11 im i0 i05 i06 i07 i08 i09 i010 i011 i1 i15 i16 i17 i18 i19 i110 i111 ps fd pr tr bg md m_ln m_mn m_it m_hs m_fr m_tn m_ws m_bt m_td m_ik m_kp m_tc lf m_lf imf hl8 him hm8 hcs hK hP hD hS hl
  rcases wt_dec z 26 with c_26 | c_26
  · subst c_26
    refine lv_tableIn (off := 1003) (tgt := 1036) hx hb dL_law_33 (by decide) (by decide) rfl (by decide) ?_
    exact law_26 l C0 x rw ln sz it tp bt nw nw5 nw6 nw7 nw8 nw9 nw10 nw11 th th5 th6 th7 th8 th9 th10 th11 im i0 i05 i06 i07 i08 i09 i010 i011 i1 i15 i16 i17 i18 i19 i110 i111 ps fd pr tr bg md m_ln m_mn m_it m_hs m_fr m_tn m_ws m_bt m_td m_ik m_kp m_tc lf m_lf imf hl8 him hm8 hcs hK hP hD hS hl
  rcases wt_dec z 27 with c_27 | c_27
  · subst c_27
    refine lv_tableIn (off := 1016) (tgt := 1049) hx hb dL_law_33 (by decide) (by decide) rfl (by decide) ?_
    exact law_27 l C0 x rw ln sz it tp bt nw nw5 nw6 nw7 nw8 nw9 nw10 nw11 th th5 th6 th7 th8 th9 th10 th11 im i0 i05 i06 i07 i08 i09 i010 i011 i1 i15 i16 i17 i18 i19 i110 i111 ps fd pr tr bg md m_ln m_mn m_it m_hs m_fr m_tn m_ws m_bt m_td m_ik m_kp m_tc lf m_lf imf hl8 him hm8 hcs hK hP hD hS hl
  rcases wt_dec z 28 with c_28 | c_28
  · subst c_28
    refine lv_tableIn (off := 1079) (tgt := 1112) hx hb dL_law_33 (by decide) (by decide) rfl (by decide) ?_
    exact law_28 l C0 x rw ln sz it tp bt nw nw5 nw6 nw7 nw8 nw9 nw10 nw11 th th5 th6 th7 th8 th9 th10 th11 im i0 i05 i06 i07 i08 i09 i010 i011 i1 i15 i16 i17 i18 i19 i110 i111 ps fd pr tr bg md m_ln m_mn m_it m_hs m_fr m_tn m_ws m_bt m_td m_ik m_kp m_tc lf m_lf imf hl8 him hm8 hcs hK hP hD hS hl
  rcases wt_dec z 29 with c_29 | c_29
  · subst c_29
    refine lv_tableIn (off := 1154) (tgt := 1187) hx hb dL_law_33 (by decide) (by decide) rfl (by decide) ?_
    exact law_29 l C0 x rw ln sz it tp bt nw nw5 nw6 nw7 nw8 nw9 nw10 nw11 th th5 th6 th7 th8 th9 th10 th11 im i0 i05 i06 i07 i08 i09 i010 i011 i1 i15 i16 i17 i18 i19 i110 i111 ps fd pr tr bg md m_ln m_mn m_it m_hs m_fr m_tn m_ws m_bt m_td m_ik m_kp m_tc lf m_lf imf hl8 him hm8 hcs hK hP hD hS hl
  rcases wt_dec z 30 with c_30 | c_30
  · subst c_30
    refine lv_tableIn (off := 1217) (tgt := 1250) hx hb dL_law_33 (by decide) (by decide) rfl (by decide) ?_
    exact law_30 l C0 x rw ln sz it tp bt nw nw5 nw6 nw7 nw8 nw9 nw10 nw11 th th5 th6 th7 th8 th9 th10 th11 im i0 i05 i06 i07 i08 i09 i010 i011 i1 i15 i16 i17 i18 i19 i110 i111 ps fd pr tr bg md m_ln m_mn m_it m_hs m_fr m_tn m_ws m_bt m_td m_ik m_kp m_tc lf m_lf imf hl8 him hm8 hcs hK hP hD hS hl
  rcases wt_dec z 31 with c_31 | c_31
  · subst c_31
    refine lv_tableIn (off := 1271) (tgt := 1304) hx hb dL_law_33 (by decide) (by decide) rfl (by decide) ?_
    exact law_31 l C0 x rw ln sz it tp bt nw nw5 nw6 nw7 nw8 nw9 nw10 nw11 th th5 th6 th7 th8 th9 th10 th11 im i0 i05 i06 i07 i08 i09 i010 i011 i1 i15 i16 i17 i18 i19 i110 i111 ps fd pr tr bg md m_ln m_mn m_it m_hs m_fr m_tn m_ws m_bt m_td m_ik m_kp m_tc lf m_lf imf hl8 him hm8 hcs hK hP hD hS hl
  rcases wt_dec z 32 with c_32 | c_32
  · subst c_32
    refine lv_tableIn (off := 1314) (tgt := 1347) hx hb dL_law_33 (by decide) (by decide) rfl (by decide) ?_
    exact law_32 l C0 x rw ln sz it tp bt nw nw5 nw6 nw7 nw8 nw9 nw10 nw11 th th5 th6 th7 th8 th9 th10 th11 im i0 i05 i06 i07 i08 i09 i010 i011 i1 i15 i16 i17 i18 i19 i110 i111 ps fd pr tr bg md m_ln m_mn m_it m_hs m_fr m_tn m_ws m_bt m_td m_ik m_kp m_tc lf m_lf imf hl8 him hm8 hcs hK hP hD hS hl
  rcases wt_dec z 33 with c_33 | c_33
  · subst c_33
    refine lv_tableIn (off := 1337) (tgt := 1370) hx hb dL_law_33 (by decide) (by decide) rfl (by decide) ?_
    exact law_33 l C0 x rw ln sz it tp bt nw nw5 nw6 nw7 nw8 nw9 nw10 nw11 th th5 th6 th7 th8 th9 th10 th11 im i0 i05 i06 i07 i08 i09 i010 i011 i1 i15 i16 i17 i18 i19 i110 i111 ps fd pr tr bg md m_ln m_mn m_it m_hs m_fr m_tn m_ws m_bt m_td m_ik m_kp m_tc lf m_lf imf hl8 him hm8 hcs hK hP hD hS hl
  rcases wt_dec z 34 with c_34 | c_34
  · subst c_34
    refine lv_tableIn (off := 1360) (tgt := 1393) hx hb dL_law_33 (by decide) (by decide) rfl (by decide) ?_
    exact law_34 l C0 x rw ln sz it tp bt nw nw5 nw6 nw7 nw8 nw9 nw10 nw11 th th5 th6 th7 th8 th9 th10 th11 im i0 i05 i06 i07 i08 i09 i010 i011 i1 i15 i16 i17 i18 i19 i110 i111 ps fd pr tr bg md m_ln m_mn m_it m_hs m_fr m_tn m_ws m_bt m_td m_ik m_kp m_tc lf m_lf imf hl8 him hm8 hcs hK hP hD hS hl
  rcases wt_dec z 35 with c_35 | c_35
  · subst c_35
    refine lv_tableIn (off := 1383) (tgt := 1416) hx hb dL_law_33 (by decide) (by decide) rfl (by decide) ?_
    exact law_35 l C0 x rw ln sz it tp bt nw nw5 nw6 nw7 nw8 nw9 nw10 nw11 th th5 th6 th7 th8 th9 th10 th11 im i0 i05 i06 i07 i08 i09 i010 i011 i1 i15 i16 i17 i18 i19 i110 i111 ps fd pr tr bg md m_ln m_mn m_it m_hs m_fr m_tn m_ws m_bt m_td m_ik m_kp m_tc lf m_lf imf hl8 him hm8 hcs hK hP hD hS hl
  rcases wt_dec z 36 with c_36 | c_36
  · subst c_36
    refine lv_tableIn (off := 1416) (tgt := 1449) hx hb dL_law_33 (by decide) (by decide) rfl (by decide) ?_
    exact law_36 l C0 x rw ln sz it tp bt nw nw5 nw6 nw7 nw8 nw9 nw10 nw11 th th5 th6 th7 th8 th9 th10 th11 im i0 i05 i06 i07 i08 i09 i010 i011 i1 i15 i16 i17 i18 i19 i110 i111 ps fd pr tr bg md m_ln m_mn m_it m_hs m_fr m_tn m_ws m_bt m_td m_ik m_kp m_tc lf m_lf imf hl8 him hm8 hcs hK hP hD hS hl
  rcases wt_dec z 37 with c_37 | c_37
  · subst c_37
    refine lv_tableIn (off := 1449) (tgt := 1482) hx hb dL_law_33 (by decide) (by decide) rfl (by decide) ?_
    exact law_37 l C0 x rw ln sz it tp bt nw nw5 nw6 nw7 nw8 nw9 nw10 nw11 th th5 th6 th7 th8 th9 th10 th11 im i0 i05 i06 i07 i08 i09 i010 i011 i1 i15 i16 i17 i18 i19 i110 i111 ps fd pr tr bg md m_ln m_mn m_it m_hs m_fr m_tn m_ws m_bt m_td m_ik m_kp m_tc lf m_lf imf hl8 him hm8 hcs hK hP hD hS hl
  rcases wt_dec z 38 with c_38 | c_38
  · subst c_38
    refine lv_tableIn (off := 1472) (tgt := 1505) hx hb dL_law_33 (by decide) (by decide) rfl (by decide) ?_
    exact law_38 l C0 x rw ln sz it tp bt nw nw5 nw6 nw7 nw8 nw9 nw10 nw11 th th5 th6 th7 th8 th9 th10 th11 im i0 i05 i06 i07 i08 i09 i010 i011 i1 i15 i16 i17 i18 i19 i110 i111 ps fd pr tr bg md m_ln m_mn m_it m_hs m_fr m_tn m_ws m_bt m_td m_ik m_kp m_tc lf m_lf imf hl8 him hm8 hcs hK hP hD hS hl
  rcases wt_dec z 39 with c_39 | c_39
  · subst c_39
    refine lv_tableIn (off := 1495) (tgt := 1528) hx hb dL_law_33 (by decide) (by decide) rfl (by decide) ?_
    exact law_39 l C0 x rw ln sz it tp bt nw nw5 nw6 nw7 nw8 nw9 nw10 nw11 th th5 th6 th7 th8 th9 th10 th11 im i0 i05 i06 i07 i08 i09 i010 i011 i1 i15 i16 i17 i18 i19 i110 i111 ps fd pr tr bg md m_ln m_mn m_it m_hs m_fr m_tn m_ws m_bt m_td m_ik m_kp m_tc lf m_lf imf hl8 him hm8 hcs hK hP hD hS hl
  refine lv_tableOut (tgt := 1541) hx hb dL_law_33 (by have := lv_neT (a := 0) c_0 rfl; have := lv_neT (a := 1) c_1 rfl; have := lv_neT (a := 2) c_2 rfl; have := lv_neT (a := 3) c_3 rfl; have := lv_neT (a := 4) c_4 rfl; have := lv_neT (a := 5) c_5 rfl; have := lv_neT (a := 6) c_6 rfl; have := lv_neT (a := 7) c_7 rfl; have := lv_neT (a := 8) c_8 rfl; have := lv_neT (a := 9) c_9 rfl; have := lv_neT (a := 10) c_10 rfl; have := lv_neT (a := 11) c_11 rfl; have := lv_neT (a := 12) c_12 rfl; have := lv_neT (a := 13) c_13 rfl; have := lv_neT (a := 14) c_14 rfl; have := lv_neT (a := 15) c_15 rfl; have := lv_neT (a := 16) c_16 rfl; have := lv_neT (a := 17) c_17 rfl; have := lv_neT (a := 18) c_18 rfl; have := lv_neT (a := 19) c_19 rfl; have := lv_neT (a := 20) c_20 rfl; have := lv_neT (a := 21) c_21 rfl; have := lv_neT (a := 22) c_22 rfl; have := lv_neT (a := 23) c_23 rfl; have := lv_neT (a := 24) c_24 rfl; have := lv_neT (a := 25) c_25 rfl; have := lv_neT (a := 26) c_26 rfl; have := lv_neT (a := 27) c_27 rfl; have := lv_neT (a := 28) c_28 rfl; have := lv_neT (a := 29) c_29 rfl; have := lv_neT (a := 30) c_30 rfl; have := lv_neT (a := 31) c_31 rfl; have := lv_neT (a := 32) c_32 rfl; have := lv_neT (a := 33) c_33 rfl; have := lv_neT (a := 34) c_34 rfl; have := lv_neT (a := 35) c_35 rfl; have := lv_neT (a := 36) c_36 rfl; have := lv_neT (a := 37) c_37 rfl; have := lv_neT (a := 38) c_38 rfl; have := lv_neT (a := 39) c_39 rfl; omega) (by decide) ?_
  exact law_tail l C0 (x := x) (md := md) ⟨Nat.le_trans hcs.1 (Nat.le_of_ble_eq_true rfl), Nat.le_trans hcs.2 (Nat.le_of_ble_eq_true rfl)⟩ hS hl

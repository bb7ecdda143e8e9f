set_option maxHeartbeats 4000000 in
set_option maxRecDepth 100000 in
theorem law_body {p : Program} {e : Env} {s : State} {m : MethodId} {below : List Frame} {meth : Method} {c : Code} (l : Launch) {b L : Nat} {xs : Nat → Int32} (hL : L ≤ 448) (C0 : lw_At p s m meth c b L xs) {D : va_G} {cI cZ cH : ClassId} (hK : wt_K D (wt_T cI cZ cH) s) {ab sb mb : Nat} (hZ : wt_ZS ab sb mb abF sbF mbF (fun q : Nat => s.heap.size ≤ q) s s.heap) {x rw ln sl it tp bt ho aW aS aK aP aT aH aU th tW tS tK tP tT tH tU im i0 i0W i0S i0K i0P i0T i0H i0U i1 i1W i1S i1K i1P i1T i1H i1U ps fd pr tr bg md m_ln m_mn m_it m_hs m_fr m_tn m_ws m_bt m_td m_ik m_kp m_tc : Nat} {imf : Nat → Option Nat} (him0 : imf 0 = some i0) (him1 : imf 1 = some i1) {cells slots : Nat} (hcs : cells ≤ 1000 ∧ slots ≤ 10000) {i : Nat} (hi : i + 7 ≤ L) (hk : LK p l e s m below meth c b cells slots D cI cZ cH x rw ln sl it tp bt ho aW aS aK aP aT aH aU th tW tS tK tP tT tH tU im i0 i0W i0S i0K i0P i0T i0H i0U i1 i1W i1S i1K i1P i1T i1H i1U ps fd pr tr bg md m_ln m_mn m_it m_hs m_fr m_tn m_ws m_bt m_td m_ik m_kp m_tc imf i 1540) : LK p l e s m below meth c b cells slots D cI cZ cH x rw ln sl it tp bt ho aW aS aK aP aT aH aU th tW tS tK tP tT tH tU im i0 i0W i0S i0K i0P i0T i0H i0U i1 i1W i1S i1K i1P i1T i1H i1U ps fd pr tr bg md m_ln m_mn m_it m_hs m_fr m_tn m_ws m_bt m_td m_ik m_kp m_tc imf i 27 := by
  intro tl R T yR yT wR wT nx sz tc ac kn mR mT xv xf s2 s3 s4 fr co mi t0 t1 t2 t3 t4 yfr yco ymi wfr wco wmi m0 sv s12 s13 s14 s15 s16 s17 s18 lf sf tf bf fW fS fK fP fT fH fU eW eS eK eP eT eH eU yfW yfS yfK yfP yfT yfH yfU wfW wfS wfK wfP wfT wfH wfU ff qf gf m_lf m_sf m_tf m_f m_g m_h m_wf m_df m_ikf m_kf m_cf hR5 hT6 hwP hnx hsz hpk htl hs8 htc hyR hyT hwy hwR hwT hww m_hR m_hT m_hrk m_hac m_hwk m_hRT m_hkk m_hs8 m_htd m_hkn hRR H locs ls hP hD hS hl
  obtain ⟨hx, hb, hr, hml, hown, hts, hX, hbl, hlocks, hgv⟩ := id C0
  have hb : c.code = cL_law := hb
  have hown : s.vm.findClass RL = some m.cls := hown
  have hA : ∀ q : Nat, s.heap.size ≤ q → (fun q : Nat => s.heap.size ≤ q) q := fun _ h => h
  have hbA : ¬ (fun q : Nat => s.heap.size ≤ q) b := Nat.not_le.mpr hbl
  refine lv_aload_n hx hb dL_law_27 rfl (lv_at hl 3 rfl) ?_
  refine lv_iload_n hx hb dL_law_28 rfl (lv_at hl 0 rfl) ?_
  refine va_sld hx hb hX hbl hbA hS (vp_in_nI (by omega) (by omega)) dL_law_29 ?_
  refine lv_bipush (v := 63) hx hb dL_law_30 (by decide) ?_
  refine lv_iand hx hb dL_law_32 ?_
  refine lv_topi (fun z ez => ?_)
  clear ez
  rcases wt_dec z 0 with c_0 | c_0
  · subst c_0
    refine lv_tableIn (off := 175) (tgt := 208) hx hb dL_law_33 (by decide) (by decide) rfl (by decide) ?_
    exact law_0 l hL C0 hK hZ him0 him1 hcs hi hk tl R T yR yT wR wT nx sz tc ac kn mR mT xv xf s2 s3 s4 fr co mi t0 t1 t2 t3 t4 yfr yco ymi wfr wco wmi m0 sv s12 s13 s14 s15 s16 s17 s18 lf sf tf bf fW fS fK fP fT fH fU eW eS eK eP eT eH eU yfW yfS yfK yfP yfT yfH yfU wfW wfS wfK wfP wfT wfH wfU ff qf gf m_lf m_sf m_tf m_f m_g m_h m_wf m_df m_ikf m_kf m_cf hR5 hT6 hwP hnx hsz hpk htl hs8 htc hyR hyT hwy hwR hwT hww m_hR m_hT m_hrk m_hac m_hwk m_hRT m_hkk m_hs8 m_htd m_hkn hRR H locs ls hP hD hS hl
  rcases wt_dec z 1 with c_1 | c_1
  · subst c_1
    refine lv_tableIn (off := 218) (tgt := 251) hx hb dL_law_33 (by decide) (by decide) rfl (by decide) ?_
    exact law_1 l hL C0 hK hZ him0 him1 hcs hi hk tl R T yR yT wR wT nx sz tc ac kn mR mT xv xf s2 s3 s4 fr co mi t0 t1 t2 t3 t4 yfr yco ymi wfr wco wmi m0 sv s12 s13 s14 s15 s16 s17 s18 lf sf tf bf fW fS fK fP fT fH fU eW eS eK eP eT eH eU yfW yfS yfK yfP yfT yfH yfU wfW wfS wfK wfP wfT wfH wfU ff qf gf m_lf m_sf m_tf m_f m_g m_h m_wf m_df m_ikf m_kf m_cf hR5 hT6 hwP hnx hsz hpk htl hs8 htc hyR hyT hwy hwR hwT hww m_hR m_hT m_hrk m_hac m_hwk m_hRT m_hkk m_hs8 m_htd m_hkn hRR H locs ls hP hD hS hl
  rcases wt_dec z 2 with c_2 | c_2
  · subst c_2
    refine lv_tableIn (off := 261) (tgt := 294) hx hb dL_law_33 (by decide) (by decide) rfl (by decide) ?_
    exact law_2 l hL C0 hK hZ him0 him1 hcs hi hk tl R T yR yT wR wT nx sz tc ac kn mR mT xv xf s2 s3 s4 fr co mi t0 t1 t2 t3 t4 yfr yco ymi wfr wco wmi m0 sv s12 s13 s14 s15 s16 s17 s18 lf sf tf bf fW fS fK fP fT fH fU eW eS eK eP eT eH eU yfW yfS yfK yfP yfT yfH yfU wfW wfS wfK wfP wfT wfH wfU ff qf gf m_lf m_sf m_tf m_f m_g m_h m_wf m_df m_ikf m_kf m_cf hR5 hT6 hwP hnx hsz hpk htl hs8 htc hyR hyT hwy hwR hwT hww m_hR m_hT m_hrk m_hac m_hwk m_hRT m_hkk m_hs8 m_htd m_hkn hRR H locs ls hP hD hS hl
  rcases wt_dec z 3 with c_3 | c_3
  · subst c_3
    refine lv_tableIn (off := 324) (tgt := 357) hx hb dL_law_33 (by decide) (by decide) rfl (by decide) ?_
    exact law_3 l hL C0 hK hZ him0 him1 hcs hi hk tl R T yR yT wR wT nx sz tc ac kn mR mT xv xf s2 s3 s4 fr co mi t0 t1 t2 t3 t4 yfr yco ymi wfr wco wmi m0 sv s12 s13 s14 s15 s16 s17 s18 lf sf tf bf fW fS fK fP fT fH fU eW eS eK eP eT eH eU yfW yfS yfK yfP yfT yfH yfU wfW wfS wfK wfP wfT wfH wfU ff qf gf m_lf m_sf m_tf m_f m_g m_h m_wf m_df m_ikf m_kf m_cf hR5 hT6 hwP hnx hsz hpk htl hs8 htc hyR hyT hwy hwR hwT hww m_hR m_hT m_hrk m_hac m_hwk m_hRT m_hkk m_hs8 m_htd m_hkn hRR H locs ls hP hD hS hl
  rcases wt_dec z 4 with c_4 | c_4
  · subst c_4
    refine lv_tableIn (off := 347) (tgt := 380) hx hb dL_law_33 (by decide) (by decide) rfl (by decide) ?_
    exact law_4 l hL C0 hK hZ him0 him1 hcs hi hk tl R T yR yT wR wT nx sz tc ac kn mR mT xv xf s2 s3 s4 fr co mi t0 t1 t2 t3 t4 yfr yco ymi wfr wco wmi m0 sv s12 s13 s14 s15 s16 s17 s18 lf sf tf bf fW fS fK fP fT fH fU eW eS eK eP eT eH eU yfW yfS yfK yfP yfT yfH yfU wfW wfS wfK wfP wfT wfH wfU ff qf gf m_lf m_sf m_tf m_f m_g m_h m_wf m_df m_ikf m_kf m_cf hR5 hT6 hwP hnx hsz hpk htl hs8 htc hyR hyT hwy hwR hwT hww m_hR m_hT m_hrk m_hac m_hwk m_hRT m_hkk m_hs8 m_htd m_hkn hRR H locs ls hP hD hS hl
  rcases wt_dec z 5 with c_5 | c_5
  · subst c_5
    refine lv_tableIn (off := 370) (tgt := 403) hx hb dL_law_33 (by decide) (by decide) rfl (by decide) ?_
    exact law_5 l hL C0 hK hZ him0 him1 hcs hi hk tl R T yR yT wR wT nx sz tc ac kn mR mT xv xf s2 s3 s4 fr co mi t0 t1 t2 t3 t4 yfr yco ymi wfr wco wmi m0 sv s12 s13 s14 s15 s16 s17 s18 lf sf tf bf fW fS fK fP fT fH fU eW eS eK eP eT eH eU yfW yfS yfK yfP yfT yfH yfU wfW wfS wfK wfP wfT wfH wfU ff qf gf m_lf m_sf m_tf m_f m_g m_h m_wf m_df m_ikf m_kf m_cf hR5 hT6 hwP hnx hsz hpk htl hs8 htc hyR hyT hwy hwR hwT hww m_hR m_hT m_hrk m_hac m_hwk m_hRT m_hkk m_hs8 m_htd m_hkn hRR H locs ls hP hD hS hl
  rcases wt_dec z 6 with c_6 | c_6
  · subst c_6
    refine lv_tableIn (off := 383) (tgt := 416) hx hb dL_law_33 (by decide) (by decide) rfl (by decide) ?_
    exact law_6 l hL C0 hK hZ him0 him1 hcs hi hk tl R T yR yT wR wT nx sz tc ac kn mR mT xv xf s2 s3 s4 fr co mi t0 t1 t2 t3 t4 yfr yco ymi wfr wco wmi m0 sv s12 s13 s14 s15 s16 s17 s18 lf sf tf bf fW fS fK fP fT fH fU eW eS eK eP eT eH eU yfW yfS yfK yfP yfT yfH yfU wfW wfS wfK wfP wfT wfH wfU ff qf gf m_lf m_sf m_tf m_f m_g m_h m_wf m_df m_ikf m_kf m_cf hR5 hT6 hwP hnx hsz hpk htl hs8 htc hyR hyT hwy hwR hwT hww m_hR m_hT m_hrk m_hac m_hwk m_hRT m_hkk m_hs8 m_htd m_hkn hRR H locs ls hP hD hS hl
  rcases wt_dec z 7 with c_7 | c_7
  · subst c_7
    refine lv_tableIn (off := 396) (tgt := 429) hx hb dL_law_33 (by decide) (by decide) rfl (by decide) ?_
    exact law_7 l hL C0 hK hZ him0 him1 hcs hi hk tl R T yR yT wR wT nx sz tc ac kn mR mT xv xf s2 s3 s4 fr co mi t0 t1 t2 t3 t4 yfr yco ymi wfr wco wmi m0 sv s12 s13 s14 s15 s16 s17 s18 lf sf tf bf fW fS fK fP fT fH fU eW eS eK eP eT eH eU yfW yfS yfK yfP yfT yfH yfU wfW wfS wfK wfP wfT wfH wfU ff qf gf m_lf m_sf m_tf m_f m_g m_h m_wf m_df m_ikf m_kf m_cf hR5 hT6 hwP hnx hsz hpk htl hs8 htc hyR hyT hwy hwR hwT hww m_hR m_hT m_hrk m_hac m_hwk m_hRT m_hkk m_hs8 m_htd m_hkn hRR H locs ls hP hD hS hl
  rcases wt_dec z 8 with c_8 | c_8
  · subst c_8
    refine lv_tableIn (off := 409) (tgt := 442) hx hb dL_law_33 (by decide) (by decide) rfl (by decide) ?_
    exact law_8 l hL C0 hK hZ him0 him1 hcs hi hk tl R T yR yT wR wT nx sz tc ac kn mR mT xv xf s2 s3 s4 fr co mi t0 t1 t2 t3 t4 yfr yco ymi wfr wco wmi m0 sv s12 s13 s14 s15 s16 s17 s18 lf sf tf bf fW fS fK fP fT fH fU eW eS eK eP eT eH eU yfW yfS yfK yfP yfT yfH yfU wfW wfS wfK wfP wfT wfH wfU ff qf gf m_lf m_sf m_tf m_f m_g m_h m_wf m_df m_ikf m_kf m_cf hR5 hT6 hwP hnx hsz hpk htl hs8 htc hyR hyT hwy hwR hwT hww m_hR m_hT m_hrk m_hac m_hwk m_hRT m_hkk m_hs8 m_htd m_hkn hRR H locs ls hP hD hS hl
  rcases wt_dec z 9 with c_9 | c_9
  · subst c_9
    refine lv_tableIn (off := 432) (tgt := 465) hx hb dL_law_33 (by decide) (by decide) rfl (by decide) ?_
    exact law_9 l hL C0 hK hZ him0 him1 hcs hi hk tl R T yR yT wR wT nx sz tc ac kn mR mT xv xf s2 s3 s4 fr co mi t0 t1 t2 t3 t4 yfr yco ymi wfr wco wmi m0 sv s12 s13 s14 s15 s16 s17 s18 lf sf tf bf fW fS fK fP fT fH fU eW eS eK eP eT eH eU yfW yfS yfK yfP yfT yfH yfU wfW wfS wfK wfP wfT wfH wfU ff qf gf m_lf m_sf m_tf m_f m_g m_h m_wf m_df m_ikf m_kf m_cf hR5 hT6 hwP hnx hsz hpk htl hs8 htc hyR hyT hwy hwR hwT hww m_hR m_hT m_hrk m_hac m_hwk m_hRT m_hkk m_hs8 m_htd m_hkn hRR H locs ls hP hD hS hl
  rcases wt_dec z 10 with c_10 | c_10
  · subst c_10
    refine lv_tableIn (off := 465) (tgt := 498) hx hb dL_law_33 (by decide) (by decide) rfl (by decide) ?_
    exact law_10 l hL C0 hK hZ him0 him1 hcs hi hk tl R T yR yT wR wT nx sz tc ac kn mR mT xv xf s2 s3 s4 fr co mi t0 t1 t2 t3 t4 yfr yco ymi wfr wco wmi m0 sv s12 s13 s14 s15 s16 s17 s18 lf sf tf bf fW fS fK fP fT fH fU eW eS eK eP eT eH eU yfW yfS yfK yfP yfT yfH yfU wfW wfS wfK wfP wfT wfH wfU ff qf gf m_lf m_sf m_tf m_f m_g m_h m_wf m_df m_ikf m_kf m_cf hR5 hT6 hwP hnx hsz hpk htl hs8 htc hyR hyT hwy hwR hwT hww m_hR m_hT m_hrk m_hac m_hwk m_hRT m_hkk m_hs8 m_htd m_hkn hRR H locs ls hP hD hS hl
  rcases wt_dec z 11 with c_11 | c_11
  · subst c_11
    refine lv_tableIn (off := 488) (tgt := 521) hx hb dL_law_33 (by decide) (by decide) rfl (by decide) ?_
    exact law_11 l hL C0 hK hZ him0 him1 hcs hi hk tl R T yR yT wR wT nx sz tc ac kn mR mT xv xf s2 s3 s4 fr co mi t0 t1 t2 t3 t4 yfr yco ymi wfr wco wmi m0 sv s12 s13 s14 s15 s16 s17 s18 lf sf tf bf fW fS fK fP fT fH fU eW eS eK eP eT eH eU yfW yfS yfK yfP yfT yfH yfU wfW wfS wfK wfP wfT wfH wfU ff qf gf m_lf m_sf m_tf m_f m_g m_h m_wf m_df m_ikf m_kf m_cf hR5 hT6 hwP hnx hsz hpk htl hs8 htc hyR hyT hwy hwR hwT hww m_hR m_hT m_hrk m_hac m_hwk m_hRT m_hkk m_hs8 m_htd m_hkn hRR H locs ls hP hD hS hl
  rcases wt_dec z 12 with c_12 | c_12
  · subst c_12
    refine lv_tableIn (off := 521) (tgt := 554) hx hb dL_law_33 (by decide) (by decide) rfl (by decide) ?_
    exact law_12 l hL C0 hK hZ him0 him1 hcs hi hk tl R T yR yT wR wT nx sz tc ac kn mR mT xv xf s2 s3 s4 fr co mi t0 t1 t2 t3 t4 yfr yco ymi wfr wco wmi m0 sv s12 s13 s14 s15 s16 s17 s18 lf sf tf bf fW fS fK fP fT fH fU eW eS eK eP eT eH eU yfW yfS yfK yfP yfT yfH yfU wfW wfS wfK wfP wfT wfH wfU ff qf gf m_lf m_sf m_tf m_f m_g m_h m_wf m_df m_ikf m_kf m_cf hR5 hT6 hwP hnx hsz hpk htl hs8 htc hyR hyT hwy hwR hwT hww m_hR m_hT m_hrk m_hac m_hwk m_hRT m_hkk m_hs8 m_htd m_hkn hRR H locs ls hP hD hS hl
  rcases wt_dec z 13 with c_13 | c_13
  · subst c_13
    refine lv_tableIn (off := 554) (tgt := 587) hx hb dL_law_33 (by decide) (by decide) rfl (by decide) ?_
    exact law_13 l hL C0 hK hZ him0 him1 hcs hi hk tl R T yR yT wR wT nx sz tc ac kn mR mT xv xf s2 s3 s4 fr co mi t0 t1 t2 t3 t4 yfr yco ymi wfr wco wmi m0 sv s12 s13 s14 s15 s16 s17 s18 lf sf tf bf fW fS fK fP fT fH fU eW eS eK eP eT eH eU yfW yfS yfK yfP yfT yfH yfU wfW wfS wfK wfP wfT wfH wfU ff qf gf m_lf m_sf m_tf m_f m_g m_h m_wf m_df m_ikf m_kf m_cf hR5 hT6 hwP hnx hsz hpk htl hs8 htc hyR hyT hwy hwR hwT hww m_hR m_hT m_hrk m_hac m_hwk m_hRT m_hkk m_hs8 m_htd m_hkn hRR H locs ls hP hD hS hl
  rcases wt_dec z 14 with c_14 | c_14
  · subst c_14
    refine lv_tableIn (off := 587) (tgt := 620) hx hb dL_law_33 (by decide) (by decide) rfl (by decide) ?_
    exact law_14 l hL C0 hK hZ him0 him1 hcs hi hk tl R T yR yT wR wT nx sz tc ac kn mR mT xv xf s2 s3 s4 fr co mi t0 t1 t2 t3 t4 yfr yco ymi wfr wco wmi m0 sv s12 s13 s14 s15 s16 s17 s18 lf sf tf bf fW fS fK fP fT fH fU eW eS eK eP eT eH eU yfW yfS yfK yfP yfT yfH yfU wfW wfS wfK wfP wfT wfH wfU ff qf gf m_lf m_sf m_tf m_f m_g m_h m_wf m_df m_ikf m_kf m_cf hR5 hT6 hwP hnx hsz hpk htl hs8 htc hyR hyT hwy hwR hwT hww m_hR m_hT m_hrk m_hac m_hwk m_hRT m_hkk m_hs8 m_htd m_hkn hRR H locs ls hP hD hS hl
  rcases wt_dec z 15 with c_15 | c_15
  · subst c_15
    refine lv_tableIn (off := 620) (tgt := 653) hx hb dL_law_33 (by decide) (by decide) rfl (by decide) ?_
    exact law_15 l hL C0 hK hZ him0 him1 hcs hi hk tl R T yR yT wR wT nx sz tc ac kn mR mT xv xf s2 s3 s4 fr co mi t0 t1 t2 t3 t4 yfr yco ymi wfr wco wmi m0 sv s12 s13 s14 s15 s16 s17 s18 lf sf tf bf fW fS fK fP fT fH fU eW eS eK eP eT eH eU yfW yfS yfK yfP yfT yfH yfU wfW wfS wfK wfP wfT wfH wfU ff qf gf m_lf m_sf m_tf m_f m_g m_h m_wf m_df m_ikf m_kf m_cf hR5 hT6 hwP hnx hsz hpk htl hs8 htc hyR hyT hwy hwR hwT hww m_hR m_hT m_hrk m_hac m_hwk m_hRT m_hkk m_hs8 m_htd m_hkn hRR H locs ls hP hD hS hl
  rcases wt_dec z 16 with c_16 | c_16
  · subst c_16
    refine lv_tableIn (off := 653) (tgt := 686) hx hb dL_law_33 (by decide) (by decide) rfl (by decide) ?_
    exact law_16 l hL C0 hK hZ him0 him1 hcs hi hk tl R T yR yT wR wT nx sz tc ac kn mR mT xv xf s2 s3 s4 fr co mi t0 t1 t2 t3 t4 yfr yco ymi wfr wco wmi m0 sv s12 s13 s14 s15 s16 s17 s18 lf sf tf bf fW fS fK fP fT fH fU eW eS eK eP eT eH eU yfW yfS yfK yfP yfT yfH yfU wfW wfS wfK wfP wfT wfH wfU ff qf gf m_lf m_sf m_tf m_f m_g m_h m_wf m_df m_ikf m_kf m_cf hR5 hT6 hwP hnx hsz hpk htl hs8 htc hyR hyT hwy hwR hwT hww m_hR m_hT m_hrk m_hac m_hwk m_hRT m_hkk m_hs8 m_htd m_hkn hRR H locs ls hP hD hS hl
  rcases wt_dec z 17 with c_17 | c_17
  · subst c_17
    refine lv_tableIn (off := 686) (tgt := 719) hx hb dL_law_33 (by decide) (by decide) rfl (by decide) ?_
    exact law_17 l hL C0 hK hZ him0 him1 hcs hi hk tl R T yR yT wR wT nx sz tc ac kn mR mT xv xf s2 s3 s4 fr co mi t0 t1 t2 t3 t4 yfr yco ymi wfr wco wmi m0 sv s12 s13 s14 s15 s16 s17 s18 lf sf tf bf fW fS fK fP fT fH fU eW eS eK eP eT eH eU yfW yfS yfK yfP yfT yfH yfU wfW wfS wfK wfP wfT wfH wfU ff qf gf m_lf m_sf m_tf m_f m_g m_h m_wf m_df m_ikf m_kf m_cf hR5 hT6 hwP hnx hsz hpk htl hs8 htc hyR hyT hwy hwR hwT hww m_hR m_hT m_hrk m_hac m_hwk m_hRT m_hkk m_hs8 m_htd m_hkn hRR H locs ls hP hD hS hl
  rcases wt_dec z 18 with c_18 | c_18
  · subst c_18
    refine lv_tableIn (off := 709) (tgt := 742) hx hb dL_law_33 (by decide) (by decide) rfl (by decide) ?_
    exact law_18 l hL C0 hK hZ him0 him1 hcs hi hk tl R T yR yT wR wT nx sz tc ac kn mR mT xv xf s2 s3 s4 fr co mi t0 t1 t2 t3 t4 yfr yco ymi wfr wco wmi m0 sv s12 s13 s14 s15 s16 s17 s18 lf sf tf bf fW fS fK fP fT fH fU eW eS eK eP eT eH eU yfW yfS yfK yfP yfT yfH yfU wfW wfS wfK wfP wfT wfH wfU ff qf gf m_lf m_sf m_tf m_f m_g m_h m_wf m_df m_ikf m_kf m_cf hR5 hT6 hwP hnx hsz hpk htl hs8 htc hyR hyT hwy hwR hwT hww m_hR m_hT m_hrk m_hac m_hwk m_hRT m_hkk m_hs8 m_htd m_hkn hRR H locs ls hP hD hS hl
  rcases wt_dec z 19 with c_19 | c_19
  · subst c_19
    refine lv_tableIn (off := 732) (tgt := 765) hx hb dL_law_33 (by decide) (by decide) rfl (by decide) ?_
    exact law_19 l hL C0 hK hZ him0 him1 hcs hi hk tl R T yR yT wR wT nx sz tc ac kn mR mT xv xf s2 s3 s4 fr co mi t0 t1 t2 t3 t4 yfr yco ymi wfr wco wmi m0 sv s12 s13 s14 s15 s16 s17 s18 lf sf tf bf fW fS fK fP fT fH fU eW eS eK eP eT eH eU yfW yfS yfK yfP yfT yfH yfU wfW wfS wfK wfP wfT wfH wfU ff qf gf m_lf m_sf m_tf m_f m_g m_h m_wf m_df m_ikf m_kf m_cf hR5 hT6 hwP hnx hsz hpk htl hs8 htc hyR hyT hwy hwR hwT hww m_hR m_hT m_hrk m_hac m_hwk m_hRT m_hkk m_hs8 m_htd m_hkn hRR H locs ls hP hD hS hl
  rcases wt_dec z 20 with c_20 | c_20
  · subst c_20
    refine lv_tableIn (off := 755) (tgt := 788) hx hb dL_law_33 (by decide) (by decide) rfl (by decide) ?_
    exact law_20 l hL C0 hK hZ him0 him1 hcs hi hk tl R T yR yT wR wT nx sz tc ac kn mR mT xv xf s2 s3 s4 fr co mi t0 t1 t2 t3 t4 yfr yco ymi wfr wco wmi m0 sv s12 s13 s14 s15 s16 s17 s18 lf sf tf bf fW fS fK fP fT fH fU eW eS eK eP eT eH eU yfW yfS yfK yfP yfT yfH yfU wfW wfS wfK wfP wfT wfH wfU ff qf gf m_lf m_sf m_tf m_f m_g m_h m_wf m_df m_ikf m_kf m_cf hR5 hT6 hwP hnx hsz hpk htl hs8 htc hyR hyT hwy hwR hwT hww m_hR m_hT m_hrk m_hac m_hwk m_hRT m_hkk m_hs8 m_htd m_hkn hRR H locs ls hP hD hS hl
  rcases wt_dec z 21 with c_21 | c_21
  · subst c_21
    refine lv_tableIn (off := 798) (tgt := 831) hx hb dL_law_33 (by decide) (by decide) rfl (by decide) ?_
    exact law_21 l hL C0 hK hZ him0 him1 hcs hi hk tl R T yR yT wR wT nx sz tc ac kn mR mT xv xf s2 s3 s4 fr co mi t0 t1 t2 t3 t4 yfr yco ymi wfr wco wmi m0 sv s12 s13 s14 s15 s16 s17 s18 lf sf tf bf fW fS fK fP fT fH fU eW eS eK eP eT eH eU yfW yfS yfK yfP yfT yfH yfU wfW wfS wfK wfP wfT wfH wfU ff qf gf m_lf m_sf m_tf m_f m_g m_h m_wf m_df m_ikf m_kf m_cf hR5 hT6 hwP hnx hsz hpk htl hs8 htc hyR hyT hwy hwR hwT hww m_hR m_hT m_hrk m_hac m_hwk m_hRT m_hkk m_hs8 m_htd m_hkn hRR H locs ls hP hD hS hl
  rcases wt_dec z 22 with c_22 | c_22
  · subst c_22
    refine lv_tableIn (off := 841) (tgt := 874) hx hb dL_law_33 (by decide) (by decide) rfl (by decide) ?_
    exact law_22 l hL C0 hK hZ him0 him1 hcs hi hk tl R T yR yT wR wT nx sz tc ac kn mR mT xv xf s2 s3 s4 fr co mi t0 t1 t2 t3 t4 yfr yco ymi wfr wco wmi m0 sv s12 s13 s14 s15 s16 s17 s18 lf sf tf bf fW fS fK fP fT fH fU eW eS eK eP eT eH eU yfW yfS yfK yfP yfT yfH yfU wfW wfS wfK wfP wfT wfH wfU ff qf gf m_lf m_sf m_tf m_f m_g m_h m_wf m_df m_ikf m_kf m_cf hR5 hT6 hwP hnx hsz hpk htl hs8 htc hyR hyT hwy hwR hwT hww m_hR m_hT m_hrk m_hac m_hwk m_hRT m_hkk m_hs8 m_htd m_hkn hRR H locs ls hP hD hS hl
  rcases wt_dec z 23 with c_23 | c_23
  · subst c_23
    refine lv_tableIn (off := 884) (tgt := 917) hx hb dL_law_33 (by decide) (by decide) rfl (by decide) ?_
    exact law_23 l hL C0 hK hZ him0 him1 hcs hi hk tl R T yR yT wR wT nx sz tc ac kn mR mT xv xf s2 s3 s4 fr co mi t0 t1 t2 t3 t4 yfr yco ymi wfr wco wmi m0 sv s12 s13 s14 s15 s16 s17 s18 lf sf tf bf fW fS fK fP fT fH fU eW eS eK eP eT eH eU yfW yfS yfK yfP yfT yfH yfU wfW wfS wfK wfP wfT wfH wfU ff qf gf m_lf m_sf m_tf m_f m_g m_h m_wf m_df m_ikf m_kf m_cf hR5 hT6 hwP hnx hsz hpk htl hs8 htc hyR hyT hwy hwR hwT hww m_hR m_hT m_hrk m_hac m_hwk m_hRT m_hkk m_hs8 m_htd m_hkn hRR H locs ls hP hD hS hl
  rcases wt_dec z 24 with c_24 | c_24
  · subst c_24
    refine lv_tableIn (off := 917) (tgt := 950) hx hb dL_law_33 (by decide) (by decide) rfl (by decide) ?_
    exact law_24 l hL C0 hK hZ him0 him1 hcs hi hk tl R T yR yT wR wT nx sz tc ac kn mR mT xv xf s2 s3 s4 fr co mi t0 t1 t2 t3 t4 yfr yco ymi wfr wco wmi m0 sv s12 s13 s14 s15 s16 s17 s18 lf sf tf bf fW fS fK fP fT fH fU eW eS eK eP eT eH eU yfW yfS yfK yfP yfT yfH yfU wfW wfS wfK wfP wfT wfH wfU ff qf gf m_lf m_sf m_tf m_f m_g m_h m_wf m_df m_ikf m_kf m_cf hR5 hT6 hwP hnx hsz hpk htl hs8 htc hyR hyT hwy hwR hwT hww m_hR m_hT m_hrk m_hac m_hwk m_hRT m_hkk m_hs8 m_htd m_hkn hRR H locs ls hP hD hS hl
  rcases wt_dec z 25 with c_25 | c_25
  · subst c_25
    refine lv_tableIn (off := 960) (tgt := 993) hx hb dL_law_33 (by decide) (by decide) rfl (by decide) ?_
    exact law_25 l hL C0 hK hZ him0 him1 hcs hi hk tl R T yR yT wR wT nx sz tc ac kn mR mT xv xf s2 s3 s4 fr co mi t0 t1 t2 t3 t4 yfr yco ymi wfr wco wmi m0 sv s12 s13 s14 s15 s16 s17 s18 lf sf tf bf fW fS fK fP fT fH fU eW eS eK eP eT eH eU yfW yfS yfK yfP yfT yfH yfU wfW wfS wfK wfP wfT wfH wfU ff qf gf m_lf m_sf m_tf m_f m_g m_h m_wf m_df m_ikf m_kf m_cf hR5 hT6 hwP hnx hsz hpk htl hs8 htc hyR hyT hwy hwR hwT hww m_hR m_hT m_hrk m_hac m_hwk m_hRT m_hkk m_hs8 m_htd m_hkn hRR H locs ls hP hD hS hl
  rcases wt_dec z 26 with c_26 | c_26
  · subst c_26
    refine lv_tableIn (off := 1003) (tgt := 1036) hx hb dL_law_33 (by decide) (by decide) rfl (by decide) ?_
    exact law_26 l hL C0 hK hZ him0 him1 hcs hi hk tl R T yR yT wR wT nx sz tc ac kn mR mT xv xf s2 s3 s4 fr co mi t0 t1 t2 t3 t4 yfr yco ymi wfr wco wmi m0 sv s12 s13 s14 s15 s16 s17 s18 lf sf tf bf fW fS fK fP fT fH fU eW eS eK eP eT eH eU yfW yfS yfK yfP yfT yfH yfU wfW wfS wfK wfP wfT wfH wfU ff qf gf m_lf m_sf m_tf m_f m_g m_h m_wf m_df m_ikf m_kf m_cf hR5 hT6 hwP hnx hsz hpk htl hs8 htc hyR hyT hwy hwR hwT hww m_hR m_hT m_hrk m_hac m_hwk m_hRT m_hkk m_hs8 m_htd m_hkn hRR H locs ls hP hD hS hl
  rcases wt_dec z 27 with c_27 | c_27
  · subst c_27
    refine lv_tableIn (off := 1016) (tgt := 1049) hx hb dL_law_33 (by decide) (by decide) rfl (by decide) ?_
    exact law_27 l hL C0 hK hZ him0 him1 hcs hi hk tl R T yR yT wR wT nx sz tc ac kn mR mT xv xf s2 s3 s4 fr co mi t0 t1 t2 t3 t4 yfr yco ymi wfr wco wmi m0 sv s12 s13 s14 s15 s16 s17 s18 lf sf tf bf fW fS fK fP fT fH fU eW eS eK eP eT eH eU yfW yfS yfK yfP yfT yfH yfU wfW wfS wfK wfP wfT wfH wfU ff qf gf m_lf m_sf m_tf m_f m_g m_h m_wf m_df m_ikf m_kf m_cf hR5 hT6 hwP hnx hsz hpk htl hs8 htc hyR hyT hwy hwR hwT hww m_hR m_hT m_hrk m_hac m_hwk m_hRT m_hkk m_hs8 m_htd m_hkn hRR H locs ls hP hD hS hl
  rcases wt_dec z 28 with c_28 | c_28
  · subst c_28
    refine lv_tableIn (off := 1079) (tgt := 1112) hx hb dL_law_33 (by decide) (by decide) rfl (by decide) ?_
    exact law_28 l hL C0 hK hZ him0 him1 hcs hi hk tl R T yR yT wR wT nx sz tc ac kn mR mT xv xf s2 s3 s4 fr co mi t0 t1 t2 t3 t4 yfr yco ymi wfr wco wmi m0 sv s12 s13 s14 s15 s16 s17 s18 lf sf tf bf fW fS fK fP fT fH fU eW eS eK eP eT eH eU yfW yfS yfK yfP yfT yfH yfU wfW wfS wfK wfP wfT wfH wfU ff qf gf m_lf m_sf m_tf m_f m_g m_h m_wf m_df m_ikf m_kf m_cf hR5 hT6 hwP hnx hsz hpk htl hs8 htc hyR hyT hwy hwR hwT hww m_hR m_hT m_hrk m_hac m_hwk m_hRT m_hkk m_hs8 m_htd m_hkn hRR H locs ls hP hD hS hl
  rcases wt_dec z 29 with c_29 | c_29
  · subst c_29
    refine lv_tableIn (off := 1154) (tgt := 1187) hx hb dL_law_33 (by decide) (by decide) rfl (by decide) ?_
    exact law_29 l hL C0 hK hZ him0 him1 hcs hi hk tl R T yR yT wR wT nx sz tc ac kn mR mT xv xf s2 s3 s4 fr co mi t0 t1 t2 t3 t4 yfr yco ymi wfr wco wmi m0 sv s12 s13 s14 s15 s16 s17 s18 lf sf tf bf fW fS fK fP fT fH fU eW eS eK eP eT eH eU yfW yfS yfK yfP yfT yfH yfU wfW wfS wfK wfP wfT wfH wfU ff qf gf m_lf m_sf m_tf m_f m_g m_h m_wf m_df m_ikf m_kf m_cf hR5 hT6 hwP hnx hsz hpk htl hs8 htc hyR hyT hwy hwR hwT hww m_hR m_hT m_hrk m_hac m_hwk m_hRT m_hkk m_hs8 m_htd m_hkn hRR H locs ls hP hD hS hl
  rcases wt_dec z 30 with c_30 | c_30
  · subst c_30
    refine lv_tableIn (off := 1217) (tgt := 1250) hx hb dL_law_33 (by decide) (by decide) rfl (by decide) ?_
    exact law_30 l hL C0 hK hZ him0 him1 hcs hi hk tl R T yR yT wR wT nx sz tc ac kn mR mT xv xf s2 s3 s4 fr co mi t0 t1 t2 t3 t4 yfr yco ymi wfr wco wmi m0 sv s12 s13 s14 s15 s16 s17 s18 lf sf tf bf fW fS fK fP fT fH fU eW eS eK eP eT eH eU yfW yfS yfK yfP yfT yfH yfU wfW wfS wfK wfP wfT wfH wfU ff qf gf m_lf m_sf m_tf m_f m_g m_h m_wf m_df m_ikf m_kf m_cf hR5 hT6 hwP hnx hsz hpk htl hs8 htc hyR hyT hwy hwR hwT hww m_hR m_hT m_hrk m_hac m_hwk m_hRT m_hkk m_hs8 m_htd m_hkn hRR H locs ls hP hD hS hl
  rcases wt_dec z 31 with c_31 | c_31
  · subst c_31
    refine lv_tableIn (off := 1270) (tgt := 1303) hx hb dL_law_33 (by decide) (by decide) rfl (by decide) ?_
    exact law_31 l hL C0 hK hZ him0 him1 hcs hi hk tl R T yR yT wR wT nx sz tc ac kn mR mT xv xf s2 s3 s4 fr co mi t0 t1 t2 t3 t4 yfr yco ymi wfr wco wmi m0 sv s12 s13 s14 s15 s16 s17 s18 lf sf tf bf fW fS fK fP fT fH fU eW eS eK eP eT eH eU yfW yfS yfK yfP yfT yfH yfU wfW wfS wfK wfP wfT wfH wfU ff qf gf m_lf m_sf m_tf m_f m_g m_h m_wf m_df m_ikf m_kf m_cf hR5 hT6 hwP hnx hsz hpk htl hs8 htc hyR hyT hwy hwR hwT hww m_hR m_hT m_hrk m_hac m_hwk m_hRT m_hkk m_hs8 m_htd m_hkn hRR H locs ls hP hD hS hl
  rcases wt_dec z 32 with c_32 | c_32
  · subst c_32
    refine lv_tableIn (off := 1313) (tgt := 1346) hx hb dL_law_33 (by decide) (by decide) rfl (by decide) ?_
    exact law_32 l hL C0 hK hZ him0 him1 hcs hi hk tl R T yR yT wR wT nx sz tc ac kn mR mT xv xf s2 s3 s4 fr co mi t0 t1 t2 t3 t4 yfr yco ymi wfr wco wmi m0 sv s12 s13 s14 s15 s16 s17 s18 lf sf tf bf fW fS fK fP fT fH fU eW eS eK eP eT eH eU yfW yfS yfK yfP yfT yfH yfU wfW wfS wfK wfP wfT wfH wfU ff qf gf m_lf m_sf m_tf m_f m_g m_h m_wf m_df m_ikf m_kf m_cf hR5 hT6 hwP hnx hsz hpk htl hs8 htc hyR hyT hwy hwR hwT hww m_hR m_hT m_hrk m_hac m_hwk m_hRT m_hkk m_hs8 m_htd m_hkn hRR H locs ls hP hD hS hl
  rcases wt_dec z 33 with c_33 | c_33
  · subst c_33
    refine lv_tableIn (off := 1336) (tgt := 1369) hx hb dL_law_33 (by decide) (by decide) rfl (by decide) ?_
    exact law_33 l hL C0 hK hZ him0 him1 hcs hi hk tl R T yR yT wR wT nx sz tc ac kn mR mT xv xf s2 s3 s4 fr co mi t0 t1 t2 t3 t4 yfr yco ymi wfr wco wmi m0 sv s12 s13 s14 s15 s16 s17 s18 lf sf tf bf fW fS fK fP fT fH fU eW eS eK eP eT eH eU yfW yfS yfK yfP yfT yfH yfU wfW wfS wfK wfP wfT wfH wfU ff qf gf m_lf m_sf m_tf m_f m_g m_h m_wf m_df m_ikf m_kf m_cf hR5 hT6 hwP hnx hsz hpk htl hs8 htc hyR hyT hwy hwR hwT hww m_hR m_hT m_hrk m_hac m_hwk m_hRT m_hkk m_hs8 m_htd m_hkn hRR H locs ls hP hD hS hl
  rcases wt_dec z 34 with c_34 | c_34
  · subst c_34
    refine lv_tableIn (off := 1359) (tgt := 1392) hx hb dL_law_33 (by decide) (by decide) rfl (by decide) ?_
    exact law_34 l hL C0 hK hZ him0 him1 hcs hi hk tl R T yR yT wR wT nx sz tc ac kn mR mT xv xf s2 s3 s4 fr co mi t0 t1 t2 t3 t4 yfr yco ymi wfr wco wmi m0 sv s12 s13 s14 s15 s16 s17 s18 lf sf tf bf fW fS fK fP fT fH fU eW eS eK eP eT eH eU yfW yfS yfK yfP yfT yfH yfU wfW wfS wfK wfP wfT wfH wfU ff qf gf m_lf m_sf m_tf m_f m_g m_h m_wf m_df m_ikf m_kf m_cf hR5 hT6 hwP hnx hsz hpk htl hs8 htc hyR hyT hwy hwR hwT hww m_hR m_hT m_hrk m_hac m_hwk m_hRT m_hkk m_hs8 m_htd m_hkn hRR H locs ls hP hD hS hl
  rcases wt_dec z 35 with c_35 | c_35
  · subst c_35
    refine lv_tableIn (off := 1382) (tgt := 1415) hx hb dL_law_33 (by decide) (by decide) rfl (by decide) ?_
    exact law_35 l hL C0 hK hZ him0 him1 hcs hi hk tl R T yR yT wR wT nx sz tc ac kn mR mT xv xf s2 s3 s4 fr co mi t0 t1 t2 t3 t4 yfr yco ymi wfr wco wmi m0 sv s12 s13 s14 s15 s16 s17 s18 lf sf tf bf fW fS fK fP fT fH fU eW eS eK eP eT eH eU yfW yfS yfK yfP yfT yfH yfU wfW wfS wfK wfP wfT wfH wfU ff qf gf m_lf m_sf m_tf m_f m_g m_h m_wf m_df m_ikf m_kf m_cf hR5 hT6 hwP hnx hsz hpk htl hs8 htc hyR hyT hwy hwR hwT hww m_hR m_hT m_hrk m_hac m_hwk m_hRT m_hkk m_hs8 m_htd m_hkn hRR H locs ls hP hD hS hl
  rcases wt_dec z 36 with c_36 | c_36
  · subst c_36
    refine lv_tableIn (off := 1415) (tgt := 1448) hx hb dL_law_33 (by decide) (by decide) rfl (by decide) ?_
    exact law_36 l hL C0 hK hZ him0 him1 hcs hi hk tl R T yR yT wR wT nx sz tc ac kn mR mT xv xf s2 s3 s4 fr co mi t0 t1 t2 t3 t4 yfr yco ymi wfr wco wmi m0 sv s12 s13 s14 s15 s16 s17 s18 lf sf tf bf fW fS fK fP fT fH fU eW eS eK eP eT eH eU yfW yfS yfK yfP yfT yfH yfU wfW wfS wfK wfP wfT wfH wfU ff qf gf m_lf m_sf m_tf m_f m_g m_h m_wf m_df m_ikf m_kf m_cf hR5 hT6 hwP hnx hsz hpk htl hs8 htc hyR hyT hwy hwR hwT hww m_hR m_hT m_hrk m_hac m_hwk m_hRT m_hkk m_hs8 m_htd m_hkn hRR H locs ls hP hD hS hl
  rcases wt_dec z 37 with c_37 | c_37
  · subst c_37
    refine lv_tableIn (off := 1448) (tgt := 1481) hx hb dL_law_33 (by decide) (by decide) rfl (by decide) ?_
    exact law_37 l hL C0 hK hZ him0 him1 hcs hi hk tl R T yR yT wR wT nx sz tc ac kn mR mT xv xf s2 s3 s4 fr co mi t0 t1 t2 t3 t4 yfr yco ymi wfr wco wmi m0 sv s12 s13 s14 s15 s16 s17 s18 lf sf tf bf fW fS fK fP fT fH fU eW eS eK eP eT eH eU yfW yfS yfK yfP yfT yfH yfU wfW wfS wfK wfP wfT wfH wfU ff qf gf m_lf m_sf m_tf m_f m_g m_h m_wf m_df m_ikf m_kf m_cf hR5 hT6 hwP hnx hsz hpk htl hs8 htc hyR hyT hwy hwR hwT hww m_hR m_hT m_hrk m_hac m_hwk m_hRT m_hkk m_hs8 m_htd m_hkn hRR H locs ls hP hD hS hl
  rcases wt_dec z 38 with c_38 | c_38
  · subst c_38
    refine lv_tableIn (off := 1471) (tgt := 1504) hx hb dL_law_33 (by decide) (by decide) rfl (by decide) ?_
    exact law_38 l hL C0 hK hZ him0 him1 hcs hi hk tl R T yR yT wR wT nx sz tc ac kn mR mT xv xf s2 s3 s4 fr co mi t0 t1 t2 t3 t4 yfr yco ymi wfr wco wmi m0 sv s12 s13 s14 s15 s16 s17 s18 lf sf tf bf fW fS fK fP fT fH fU eW eS eK eP eT eH eU yfW yfS yfK yfP yfT yfH yfU wfW wfS wfK wfP wfT wfH wfU ff qf gf m_lf m_sf m_tf m_f m_g m_h m_wf m_df m_ikf m_kf m_cf hR5 hT6 hwP hnx hsz hpk htl hs8 htc hyR hyT hwy hwR hwT hww m_hR m_hT m_hrk m_hac m_hwk m_hRT m_hkk m_hs8 m_htd m_hkn hRR H locs ls hP hD hS hl
  rcases wt_dec z 39 with c_39 | c_39
  · subst c_39
    refine lv_tableIn (off := 1494) (tgt := 1527) hx hb dL_law_33 (by decide) (by decide) rfl (by decide) ?_
    exact law_39 l hL C0 hK hZ him0 him1 hcs hi hk tl R T yR yT wR wT nx sz tc ac kn mR mT xv xf s2 s3 s4 fr co mi t0 t1 t2 t3 t4 yfr yco ymi wfr wco wmi m0 sv s12 s13 s14 s15 s16 s17 s18 lf sf tf bf fW fS fK fP fT fH fU eW eS eK eP eT eH eU yfW yfS yfK yfP yfT yfH yfU wfW wfS wfK wfP wfT wfH wfU ff qf gf m_lf m_sf m_tf m_f m_g m_h m_wf m_df m_ikf m_kf m_cf hR5 hT6 hwP hnx hsz hpk htl hs8 htc hyR hyT hwy hwR hwT hww m_hR m_hT m_hrk m_hac m_hwk m_hRT m_hkk m_hs8 m_htd m_hkn hRR H locs ls hP hD hS hl
  refine lv_tableOut (tgt := 1540) hx hb dL_law_33 (by have := lv_neT (a := 0) c_0 rfl; have := lv_neT (a := 1) c_1 rfl; have := lv_neT (a := 2) c_2 rfl; have := lv_neT (a := 3) c_3 rfl; have := lv_neT (a := 4) c_4 rfl; have := lv_neT (a := 5) c_5 rfl; have := lv_neT (a := 6) c_6 rfl; have := lv_neT (a := 7) c_7 rfl; have := lv_neT (a := 8) c_8 rfl; have := lv_neT (a := 9) c_9 rfl; have := lv_neT (a := 10) c_10 rfl; have := lv_neT (a := 11) c_11 rfl; have := lv_neT (a := 12) c_12 rfl; have := lv_neT (a := 13) c_13 rfl; have := lv_neT (a := 14) c_14 rfl; have := lv_neT (a := 15) c_15 rfl; have := lv_neT (a := 16) c_16 rfl; have := lv_neT (a := 17) c_17 rfl; have := lv_neT (a := 18) c_18 rfl; have := lv_neT (a := 19) c_19 rfl; have := lv_neT (a := 20) c_20 rfl; have := lv_neT (a := 21) c_21 rfl; have := lv_neT (a := 22) c_22 rfl; have := lv_neT (a := 23) c_23 rfl; have := lv_neT (a := 24) c_24 rfl; have := lv_neT (a := 25) c_25 rfl; have := lv_neT (a := 26) c_26 rfl; have := lv_neT (a := 27) c_27 rfl; have := lv_neT (a := 28) c_28 rfl; have := lv_neT (a := 29) c_29 rfl; have := lv_neT (a := 30) c_30 rfl; have := lv_neT (a := 31) c_31 rfl; have := lv_neT (a := 32) c_32 rfl; have := lv_neT (a := 33) c_33 rfl; have := lv_neT (a := 34) c_34 rfl; have := lv_neT (a := 35) c_35 rfl; have := lv_neT (a := 36) c_36 rfl; have := lv_neT (a := 37) c_37 rfl; have := lv_neT (a := 38) c_38 rfl; have := lv_neT (a := 39) c_39 rfl; omega) (by decide) ?_
  exact hk tl R T yR yT wR wT nx sz tc ac kn mR mT xv xf s2 s3 s4 fr co mi t0 t1 t2 t3 t4 yfr yco ymi wfr wco wmi m0 sv s12 s13 s14 s15 s16 s17 s18 lf sf tf bf fW fS fK fP fT fH fU eW eS eK eP eT eH eU yfW yfS yfK yfP yfT yfH yfU wfW wfS wfK wfP wfT wfH wfU ff qf gf m_lf m_sf m_tf m_f m_g m_h m_wf m_df m_ikf m_kf m_cf hR5 hT6 hwP hnx hsz hpk htl hs8 htc hyR hyT hwy hwR hwT hww m_hR m_hT m_hrk m_hac m_hwk m_hRT m_hkk m_hs8 m_htd m_hkn hRR H locs ls hP hD hS hl
set_option maxHeartbeats 4000000 in
set_option maxRecDepth 100000 in
theorem law_tail {p : Program} {e : Env} {s : State} {m : MethodId} {below : List Frame} {meth : Method} {c : Code} (l : Launch) {b L : Nat} {xs : Nat → Int32} (hL : L ≤ 448) (C0 : lw_At p s m meth c b L xs) {D : va_G} {cI cZ cH : ClassId} (hK : wt_K D (wt_T cI cZ cH) s) {ab sb mb : Nat} (hZ : wt_ZS ab sb mb abF sbF mbF (fun q : Nat => s.heap.size ≤ q) s s.heap) {x rw ln sl it tp bt ho aW aS aK aP aT aH aU th tW tS tK tP tT tH tU im i0 i0W i0S i0K i0P i0T i0H i0U i1 i1W i1S i1K i1P i1T i1H i1U ps fd pr tr bg md m_ln m_mn m_it m_hs m_fr m_tn m_ws m_bt m_td m_ik m_kp m_tc : Nat} {imf : Nat → Option Nat} (him0 : imf 0 = some i0) (him1 : imf 1 = some i1) {cells slots : Nat} (hcs : cells ≤ 1000 ∧ slots ≤ 10000) {i : Nat} (hi : i + 7 ≤ L) (hk : LK p l e s m below meth c b cells slots D cI cZ cH x rw ln sl it tp bt ho aW aS aK aP aT aH aU th tW tS tK tP tT tH tU im i0 i0W i0S i0K i0P i0T i0H i0U i1 i1W i1S i1K i1P i1T i1H i1U ps fd pr tr bg md m_ln m_mn m_it m_hs m_fr m_tn m_ws m_bt m_td m_ik m_kp m_tc imf (i + 7) 18) : LK p l e s m below meth c b cells slots D cI cZ cH x rw ln sl it tp bt ho aW aS aK aP aT aH aU th tW tS tK tP tT tH tU im i0 i0W i0S i0K i0P i0T i0H i0U i1 i1W i1S i1K i1P i1T i1H i1U ps fd pr tr bg md m_ln m_mn m_it m_hs m_fr m_tn m_ws m_bt m_td m_ik m_kp m_tc imf i 1540 := by
  intro tl R T yR yT wR wT nx sz tc ac kn mR mT xv xf s2 s3 s4 fr co mi t0 t1 t2 t3 t4 yfr yco ymi wfr wco wmi m0 sv s12 s13 s14 s15 s16 s17 s18 lf sf tf bf fW fS fK fP fT fH fU eW eS eK eP eT eH eU yfW yfS yfK yfP yfT yfH yfU wfW wfS wfK wfP wfT wfH wfU ff qf gf m_lf m_sf m_tf m_f m_g m_h m_wf m_df m_ikf m_kf m_cf hR5 hT6 hwP hnx hsz hpk htl hs8 htc hyR hyT hwy hwR hwT hww m_hR m_hT m_hrk m_hac m_hwk m_hRT m_hkk m_hs8 m_htd m_hkn hRR H locs ls hP hD hS hl
  obtain ⟨hx, hb, hr, hml, hown, hts, hX, hbl, hlocks, hgv⟩ := id C0
  have hb : c.code = cL_law := hb
  have hown : s.vm.findClass RL = some m.cls := hown
  have hA : ∀ q : Nat, s.heap.size ≤ q → (fun q : Nat => s.heap.size ≤ q) q := fun _ h => h
  have hbA : ¬ (fun q : Nat => s.heap.size ≤ q) b := Nat.not_le.mpr hbl
  refine lv_iinc (v := nI (i + 7)) (lv' := [(3, .int (nI (i + 7))), (2, .ref md), (1, .ref x), (0, .ref b)]) hx hb dL_law_1540 hl (k := 0) rfl (nI_add i 7) (by decide) rfl (fun ls hl => ?_)
  refine lv_goto (tgt := 18) hx hb dL_law_1543 (by decide) ?_
  exact hk tl R T yR yT wR wT nx sz tc ac kn mR mT xv xf s2 s3 s4 fr co mi t0 t1 t2 t3 t4 yfr yco ymi wfr wco wmi m0 sv s12 s13 s14 s15 s16 s17 s18 lf sf tf bf fW fS fK fP fT fH fU eW eS eK eP eT eH eU yfW yfS yfK yfP yfT yfH yfU wfW wfS wfK wfP wfT wfH wfU ff qf gf m_lf m_sf m_tf m_f m_g m_h m_wf m_df m_ikf m_kf m_cf hR5 hT6 hwP hnx hsz hpk htl hs8 htc hyR hyT hwy hwR hwT hww m_hR m_hT m_hrk m_hac m_hwk m_hRT m_hkk m_hs8 m_htd m_hkn hRR H locs ls hP hD hS hl
set_option maxHeartbeats 4000000 in
set_option maxRecDepth 100000 in
theorem law_loop {p : Program} {e : Env} {s : State} {m : MethodId} {below : List Frame} {meth : Method} {c : Code} (l : Launch) {b L : Nat} {xs : Nat → Int32} (hL : L ≤ 448) (C0 : lw_At p s m meth c b L xs) {D : va_G} {cI cZ cH : ClassId} (hK : wt_K D (wt_T cI cZ cH) s) {ab sb mb : Nat} (hZ : wt_ZS ab sb mb abF sbF mbF (fun q : Nat => s.heap.size ≤ q) s s.heap) {x rw ln sl it tp bt ho aW aS aK aP aT aH aU th tW tS tK tP tT tH tU im i0 i0W i0S i0K i0P i0T i0H i0U i1 i1W i1S i1K i1P i1T i1H i1U ps fd pr tr bg md m_ln m_mn m_it m_hs m_fr m_tn m_ws m_bt m_td m_ik m_kp m_tc : Nat} {imf : Nat → Option Nat} (him0 : imf 0 = some i0) (him1 : imf 1 = some i1) {cells slots : Nat} (hcs : cells ≤ 1000 ∧ slots ≤ 10000) : ∀ (n i : Nat), i ≤ 1000 → L < i + 7 * n + 7 → LK p l e s m below meth c b cells slots D cI cZ cH x rw ln sl it tp bt ho aW aS aK aP aT aH aU th tW tS tK tP tT tH tU im i0 i0W i0S i0K i0P i0T i0H i0U i1 i1W i1S i1K i1P i1T i1H i1U ps fd pr tr bg md m_ln m_mn m_it m_hs m_fr m_tn m_ws m_bt m_td m_ik m_kp m_tc imf i 18 := by
  intro n
  induction n with
  | zero =>
    intro i hi1 hi2
    intro tl R T yR yT wR wT nx sz tc ac kn mR mT xv xf s2 s3 s4 fr co mi t0 t1 t2 t3 t4 yfr yco ymi wfr wco wmi m0 sv s12 s13 s14 s15 s16 s17 s18 lf sf tf bf fW fS fK fP fT fH fU eW eS eK eP eT eH eU yfW yfS yfK yfP yfT yfH yfU wfW wfS wfK wfP wfT wfH wfU ff qf gf m_lf m_sf m_tf m_f m_g m_h m_wf m_df m_ikf m_kf m_cf hR5 hT6 hwP hnx hsz hpk htl hs8 htc hyR hyT hwy hwR hwT hww m_hR m_hT m_hrk m_hac m_hwk m_hRT m_hkk m_hs8 m_htd m_hkn hRR H locs ls hP hD hS hl
    obtain ⟨hx, hb, hr, hml, hown, hts, hX, hbl, hlocks, hgv⟩ := id C0
    have hb : c.code = cL_law := hb
    have hown : s.vm.findClass RL = some m.cls := hown
    have hA : ∀ q : Nat, s.heap.size ≤ q → (fun q : Nat => s.heap.size ≤ q) q := fun _ h => h
    have hbA : ¬ (fun q : Nat => s.heap.size ≤ q) b := Nat.not_le.mpr hbl
    refine lv_iload_n hx hb dL_law_18 rfl (lv_at hl 0 rfl) ?_
    refine lv_aload_n hx hb dL_law_19 rfl (lv_at hl 3 rfl) ?_
    refine va_slen hx hb hX hbl hbA hS dL_law_20 ?_
    refine lv_bipush (v := 7) hx hb dL_law_21 (by decide) ?_
    refine lv_isub hx hb dL_law_23 ?_
    refine lv_icmp_gt (tgt := 1546) hx hb dL_law_24 (by decide) (fun _ => ?_) (fun h => absurd (lw_end (by omega) hL (by omega)) h)
    refine lv_iconst (v := 1) hx hb dL_law_1546 (by decide) ?_
    refine va_forget (fun q hq => hS.2.2 q hq) ?_
    refine W.widen (k := 600000) (n := 7302250) (Nat.le_trans hcs.1 (Nat.le_of_ble_eq_true rfl)) (Nat.le_trans hcs.2 (Nat.le_of_ble_eq_true rfl)) ?_
    exact lw_ret hx hb hr hlocks dL_law_1547
  | succ n ih =>
    intro i hi1 hi2
    intro tl R T yR yT wR wT nx sz tc ac kn mR mT xv xf s2 s3 s4 fr co mi t0 t1 t2 t3 t4 yfr yco ymi wfr wco wmi m0 sv s12 s13 s14 s15 s16 s17 s18 lf sf tf bf fW fS fK fP fT fH fU eW eS eK eP eT eH eU yfW yfS yfK yfP yfT yfH yfU wfW wfS wfK wfP wfT wfH wfU ff qf gf m_lf m_sf m_tf m_f m_g m_h m_wf m_df m_ikf m_kf m_cf hR5 hT6 hwP hnx hsz hpk htl hs8 htc hyR hyT hwy hwR hwT hww m_hR m_hT m_hrk m_hac m_hwk m_hRT m_hkk m_hs8 m_htd m_hkn hRR H locs ls hP hD hS hl
    obtain ⟨hx, hb, hr, hml, hown, hts, hX, hbl, hlocks, hgv⟩ := id C0
    have hb : c.code = cL_law := hb
    have hown : s.vm.findClass RL = some m.cls := hown
    have hA : ∀ q : Nat, s.heap.size ≤ q → (fun q : Nat => s.heap.size ≤ q) q := fun _ h => h
    have hbA : ¬ (fun q : Nat => s.heap.size ≤ q) b := Nat.not_le.mpr hbl
    refine lv_iload_n hx hb dL_law_18 rfl (lv_at hl 0 rfl) ?_
    refine lv_aload_n hx hb dL_law_19 rfl (lv_at hl 3 rfl) ?_
    refine va_slen hx hb hX hbl hbA hS dL_law_20 ?_
    refine lv_bipush (v := 7) hx hb dL_law_21 (by decide) ?_
    refine lv_isub hx hb dL_law_23 ?_
    by_cases h7 : i + 7 ≤ L
    · refine lv_icmp_gt (tgt := 1546) hx hb dL_law_24 (by decide) (fun h => absurd h (lw_on (by omega) hL h7)) (fun _ => ?_)
      exact law_body l hL C0 hK hZ him0 him1 hcs h7 (law_tail l hL C0 hK hZ him0 him1 hcs h7 (ih (i + 7) (by omega) (by omega))) tl R T yR yT wR wT nx sz tc ac kn mR mT xv xf s2 s3 s4 fr co mi t0 t1 t2 t3 t4 yfr yco ymi wfr wco wmi m0 sv s12 s13 s14 s15 s16 s17 s18 lf sf tf bf fW fS fK fP fT fH fU eW eS eK eP eT eH eU yfW yfS yfK yfP yfT yfH yfU wfW wfS wfK wfP wfT wfH wfU ff qf gf m_lf m_sf m_tf m_f m_g m_h m_wf m_df m_ikf m_kf m_cf hR5 hT6 hwP hnx hsz hpk htl hs8 htc hyR hyT hwy hwR hwT hww m_hR m_hT m_hrk m_hac m_hwk m_hRT m_hkk m_hs8 m_htd m_hkn hRR H locs ls hP hD hS hl
    · skip
      refine lv_icmp_gt (tgt := 1546) hx hb dL_law_24 (by decide) (fun _ => ?_) (fun h => absurd (lw_end (by omega) hL (by omega)) h)
      refine lv_iconst (v := 1) hx hb dL_law_1546 (by decide) ?_
      refine va_forget (fun q hq => hS.2.2 q hq) ?_
      refine W.widen (k := 600000) (n := 7302250) (Nat.le_trans hcs.1 (Nat.le_of_ble_eq_true rfl)) (Nat.le_trans hcs.2 (Nat.le_of_ble_eq_true rfl)) ?_
      exact lw_ret hx hb hr hlocks dL_law_1547

/-! The reference's reader: a token at a time. -/
/-- the token at p: its sort k, its number or letter v, the place behind it c -/
def TK (tl : Nat) (bf : Nat → Int32) (p c : Nat) (k v : Int32) : Prop :=
  (k = 1 → tl ≤ p) ∧ (tl ≤ p → k = 1) ∧ (k = 2 → pq tl bf p = v ∧ c = p + 1) ∧ (97 ≤ (pq tl bf p).toInt ∧ (pq tl bf p).toInt ≤ 122 → k = 2) ∧ (k = 3 → (nd tl bf p = 1 ∨ nd tl bf p = 2) ∧ v = nI (nv tl bf p) ∧ c = p + nd tl bf p) ∧ (nd tl bf p = 1 ∨ nd tl bf p = 2 → k = 3) ∧ (k = 4 → pq tl bf p = v ∧ c = p + 1) ∧ (pq tl bf p = 44 ∨ pq tl bf p = 59 → k = 4)
theorem lt_wI {x : Int32} (h : 97 ≤ x.toInt ∧ x.toInt ≤ 122) : ¬ wI x 97 122 = 0 := by
  have e1 : (97 : Int32).toInt = 97 := rfl
  have e2 : (122 : Int32).toInt = 122 := rfl
  have h1 : ¬ x < 97 := by rw [Int32.lt_iff_toInt_lt]; omega
  have h2 : ¬ 122 < x := by rw [Int32.lt_iff_toInt_lt]; omega
  unfold wI
  rw [if_neg h1, if_neg h2]
  decide
theorem wI_lt {x : Int32} (h : ¬ wI x 97 122 = 0) : 97 ≤ x.toInt ∧ x.toInt ≤ 122 := by
  have e1 : (97 : Int32).toInt = 97 := rfl
  have e2 : (122 : Int32).toInt = 122 := rfl
  obtain ⟨h1, h2⟩ := wI_ne h
  rw [Int32.lt_iff_toInt_lt] at h1 h2
  exact ⟨by omega, by omega⟩
theorem tk_end {tl : Nat} {bf : Nat → Int32} {p : Nat} {v : Int32} (h : tl ≤ p) : TK tl bf p p 1 v := by
  have e : pq tl bf p = -1 := pq_ge h
  have hd : ¬ dg (pq tl bf p) := fun q => absurd (dg_lt q) (by omega)
  refine ⟨fun _ => h, fun _ => rfl, fun q => absurd q (by decide), fun q => ?_, fun q => absurd q (by decide), fun q => ?_, fun q => absurd q (by decide), fun q => ?_⟩
  · rw [e] at q
    exact absurd q.1 (by decide)
  · exact absurd (nd_dg q) hd
  · rw [e] at q
    exact absurd q (by decide)
theorem dg_44 {x : Int32} (h : dg x) : ¬ (x = 44 ∨ x = 59) := by
  rintro (q | q)
  · rw [q] at h; exact absurd h (by decide)
  · rw [q] at h; exact absurd h (by decide)
theorem dg_97 {x : Int32} (h : dg x) : ¬ (97 ≤ x.toInt ∧ x.toInt ≤ 122) := fun q => by
  have h1 := h.2
  have h2 := q.1
  omega
theorem tk_name {tl : Nat} {bf : Nat → Int32} {p : Nat} (h : p < tl) (c : ¬ wI (bf p) 97 122 = 0) : TK tl bf p (p + 1) 2 (bf p) := by
  have e : pq tl bf p = bf p := pq_lt h
  have hl := wI_lt c
  refine ⟨fun q => absurd q (by decide), fun q => absurd q (by omega), fun _ => ⟨e, rfl⟩, fun _ => rfl, fun q => absurd q (by decide), fun q => ?_, fun q => absurd q (by decide), fun q => ?_⟩
  · have := nd_dg q
    rw [e] at this
    exact absurd hl (dg_97 this)
  · rw [e] at q
    rcases q with q | q
    · rw [q] at hl; exact absurd hl (by decide)
    · rw [q] at hl; exact absurd hl (by decide)
theorem tk_sign {tl : Nat} {bf : Nat → Int32} {p : Nat} (h : p < tl) (c1 : wI (bf p) 97 122 = 0) (c2 : wI (bf p) 48 57 = 0) (c3 : bf p = 44 ∨ bf p = 59) : TK tl bf p (p + 1) 4 (bf p) := by
  have e : pq tl bf p = bf p := pq_lt h
  refine ⟨fun q => absurd q (by decide), fun q => absurd q (by omega), fun q => absurd q (by decide), fun q => ?_, fun q => absurd q (by decide), fun q => ?_, fun _ => ⟨e, rfl⟩, fun _ => rfl⟩
  · rw [e] at q
    exact absurd c1 (lt_wI q)
  · have := nd_dg q
    rw [e] at this
    exact absurd this (dg_nI c2)
theorem tk_none {tl : Nat} {bf : Nat → Int32} {p : Nat} (h : p < tl) (c1 : wI (bf p) 97 122 = 0) (c2 : wI (bf p) 48 57 = 0) (c3 : ¬ bf p = 44) (c4 : ¬ bf p = 59) : TK tl bf p (p + 1) 0 (bf p) := by
  have e : pq tl bf p = bf p := pq_lt h
  refine ⟨fun q => absurd q (by decide), fun q => absurd q (by omega), fun q => absurd q (by decide), fun q => ?_, fun q => absurd q (by decide), fun q => ?_, fun q => absurd q (by decide), fun q => ?_⟩
  · rw [e] at q
    exact absurd c1 (lt_wI q)
  · have := nd_dg q
    rw [e] at this
    exact absurd this (dg_nI c2)
  · rw [e] at q
    exact q.elim (fun z => absurd z c3) (fun z => absurd z c4)
def dR (bf : Nat → Int32) (p i : Nat) : Prop := ∀ j, p ≤ j → j < i → dg (bf j)
theorem dR_1 {bf : Nat → Int32} {p : Nat} (h : dg (bf p)) : dR bf p (p + 1) := fun j h1 h2 => by
  rw [show j = p by omega]
  exact h
theorem dR_s {bf : Nat → Int32} {p i : Nat} (h : dR bf p i) (hi : dg (bf i)) : dR bf p (i + 1) := fun j h1 h2 => by
  by_cases e : j = i
  · rw [e]; exact hi
  · exact h j h1 (by omega)
theorem dR_pq {tl : Nat} {bf : Nat → Int32} {p i j : Nat} (h : dR bf p i) (hi : i ≤ tl) (h1 : p ≤ j) (h2 : j < i) : dg (pq tl bf j) := by
  rw [pq_lt (by omega)]
  exact h j h1 h2
theorem dR_no {tl : Nat} {bf : Nat → Int32} {i : Nat} (hi : i ≤ tl) (he : i = tl ∨ ¬ dg (bf i)) : ¬ dg (pq tl bf i) := fun q => by
  have h1 := dg_lt q
  rcases he with h | h
  · omega
  · rw [pq_lt h1] at q
    exact h q
theorem tk_num {tl : Nat} {bf : Nat → Int32} {p i : Nat} {v : Int32} (hd : dR bf p i) (h1 : p + 1 ≤ i) (hi : i ≤ tl) (he : i = tl ∨ ¬ dg (bf i)) (hv : i = p + 1 → v = nI (dv (bf p))) (hv2 : p + 2 ≤ i → v = nI (dv (bf p) * 10 + dv (bf (p + 1)))) (c : i - p ≤ 2) : TK tl bf p i 3 v := by
  have e : pq tl bf p = bf p := pq_lt (by omega)
  have d0 := dR_pq hd hi (Nat.le_refl p) (by omega)
  have hno := dR_no hi he
  refine ⟨fun q => absurd q (by decide), fun q => absurd q (by omega), fun q => absurd q (by decide), fun q => absurd q (dg_97 d0), fun _ => ?_, fun _ => rfl, fun q => absurd q (by decide), fun q => absurd q (dg_44 d0)⟩
  rcases (show i = p + 1 ∨ i = p + 2 by omega) with g | g
  · subst g
    refine ⟨Or.inl (nd_1 d0 hno), ?_, by rw [nd_1 d0 hno]⟩
    rw [nv_1 hno, e]
    exact hv rfl
  · subst g
    have d1 := dR_pq hd hi (show p ≤ p + 1 by omega) (by omega)
    have e1 : pq tl bf (p + 1) = bf (p + 1) := pq_lt (by omega)
    refine ⟨Or.inr (nd_2 d0 d1 hno), ?_, by rw [nd_2 d0 d1 hno]⟩
    rw [nv_2 d1, e, e1]
    exact hv2 (Nat.le_refl _)
theorem tk_run {tl : Nat} {bf : Nat → Int32} {p i : Nat} {v : Int32} (hd : dR bf p i) (hi : i ≤ tl) (c : ¬ i - p ≤ 2) : TK tl bf p i 0 v := by
  have d0 := dR_pq hd hi (Nat.le_refl p) (by omega)
  have d1 := dR_pq hd hi (show p ≤ p + 1 by omega) (by omega)
  have d2 := dR_pq hd hi (show p ≤ p + 2 by omega) (by omega)
  refine ⟨fun q => absurd q (by decide), fun q => absurd q (by omega), fun q => absurd q (by decide), fun q => absurd q (dg_97 d0), fun q => absurd q (by decide), fun q => ?_, fun q => absurd q (by decide), fun q => absurd q (dg_44 d0)⟩
  rw [nd_3 d0 d1 d2] at q
  omega
theorem dvB {y : Int32} (a : Nat) (h : dg y) : nI (10 * a) + y - 48 = nI (a * 10 + dv y) := by
  rw [Nat.mul_comm a 10]
  exact dvA (10 * a) h
/-- the reference's fields are those of a road's state -/
def RI (tl : Nat) (bf : Nat → Int32) (bd s13 s14 s15 s17 : Int32) (ta : Nat) (s : Int32 × Nat) : Prop := bd = s.1 ∧ (s.1 = 0 → s13 = nI s.2 ∧ s.2 ≤ tl ∧ TK tl bf s.2 ta s14 s15) ∧ (¬ s.1 = 0 → s17 = nI s.2)
def badS (k : Int32) (s : Int32 × Nat) : Int32 × Nat := if s.1 = 0 then (k, s.2) else s
def musS (a : Int32) (t : Nat) (s : Int32 × Nat) : Int32 × Nat := if s.1 = 0 then (if a = 0 then (1, s.2) else (0, t)) else s
theorem ri_eq {tl ta : Nat} {bf : Nat → Int32} {bd s13 s14 s15 s17 : Int32} {s s2 : Int32 × Nat} (e : s = s2) (h : RI tl bf bd s13 s14 s15 s17 ta s) : RI tl bf bd s13 s14 s15 s17 ta s2 := e ▸ h
theorem pos_n0 {k : Int32} (h : 0 < k) : ¬ k = 0 := fun e => by
  rw [e] at h
  exact absurd h (by decide)
theorem badS_y {k : Int32} {s : Int32 × Nat} (h : s.1 = 0) : badS k s = (k, s.2) := if_pos h
theorem badS_n {k : Int32} {s : Int32 × Nat} (h : ¬ s.1 = 0) : badS k s = s := if_neg h
theorem badS_ne {k : Int32} {s : Int32 × Nat} (hk : ¬ k = 0) : ¬ (badS k s).1 = 0 := by
  by_cases h : s.1 = 0
  · rw [badS_y h]; exact hk
  · rw [badS_n h]; exact h
theorem musS_st {a : Int32} {t : Nat} {s : Int32 × Nat} (h : ¬ s.1 = 0) : musS a t s = s := if_neg h
theorem musS_y {a : Int32} {t : Nat} {s : Int32 × Nat} (h : s.1 = 0) (ha : ¬ a = 0) : musS a t s = (0, t) := by unfold musS; rw [if_pos h, if_neg ha]
theorem musS_0 {a : Int32} {t : Nat} {s : Int32 × Nat} (ha : a = 0) : badS 1 s = musS a t s := by
  unfold musS badS
  by_cases h : s.1 = 0
  · rw [if_pos h, if_pos h, if_pos ha]
  · rw [if_neg h, if_neg h]
theorem ri_bn {tl ta : Nat} {bf : Nat → Int32} {bd s13 s14 s15 s17 k : Int32} {s : Int32 × Nat} (h : RI tl bf bd s13 s14 s15 s17 ta s) (c : ¬ bd = 0) : RI tl bf bd s13 s14 s15 s17 ta (badS k s) := ri_eq (badS_n (by rw [← h.1]; exact c)).symm h
theorem ri_by {tl ta : Nat} {bf : Nat → Int32} {bd s13 s14 s15 s17 k : Int32} {s : Int32 × Nat} (h : RI tl bf bd s13 s14 s15 s17 ta s) (c : bd = 0) (hk : ¬ k = 0) : RI tl bf k s13 s14 s15 s13 ta (badS k s) := by
  have h0 : s.1 = 0 := by rw [← h.1]; exact c
  rw [badS_y h0]
  exact ⟨rfl, fun q => absurd q hk, fun _ => (h.2.1 h0).1⟩
theorem ri_next {tl ta t2 : Nat} {bf : Nat → Int32} {bd s13 s14 s15 s17 a n13 n14 n15 : Int32} {s : Int32 × Nat} (h : RI tl bf bd s13 s14 s15 s17 ta s) (c : bd = 0) (ha : ¬ a = 0) (hta : ta ≤ tl) (e : n13 = nI ta) (hk : TK tl bf ta t2 n14 n15) : RI tl bf bd n13 n14 n15 s17 t2 (musS a ta s) := by
  have h0 : s.1 = 0 := by rw [← h.1]; exact c
  rw [musS_y h0 ha]
  exact ⟨c, fun _ => ⟨e, hta, hk⟩, fun q => absurd rfl q⟩
theorem ri_ms {tl ta : Nat} {bf : Nat → Int32} {bd s13 s14 s15 s17 a : Int32} {s : Int32 × Nat} (h : RI tl bf bd s13 s14 s15 s17 ta s) (c : ¬ bd = 0) : RI tl bf bd s13 s14 s15 s17 ta (musS a ta s) := ri_eq (musS_st (by rw [← h.1]; exact c)).symm h
theorem sg_1 {tl ta : Nat} {bf : Nat → Int32} {bd s13 s14 s15 s17 k : Int32} {s : Int32 × Nat} (h : RI tl bf bd s13 s14 s15 s17 ta s) (c4 : s14 = 4) (cv : s15 = k) : musS 1 ta s = sP tl bf k s := by
  by_cases h0 : s.1 = 0
  · obtain ⟨_, _, hk⟩ := h.2.1 h0
    obtain ⟨e1, e2⟩ := hk.2.2.2.2.2.2.1 c4
    rw [musS_y h0 (by decide), sP_y h0 (e1.trans cv), e2]
  · rw [musS_st h0, sP_st h0]
theorem sg_a {tl ta : Nat} {bf : Nat → Int32} {bd s13 s14 s15 s17 k : Int32} {s : Int32 × Nat} (h : RI tl bf bd s13 s14 s15 s17 ta s) (hk : k = 44 ∨ k = 59) (c4 : ¬ s14 = 4) : musS 0 ta s = sP tl bf k s := by
  by_cases h0 : s.1 = 0
  · obtain ⟨_, _, ht⟩ := h.2.1 h0
    have hn : ¬ pq tl bf s.2 = k := fun q => c4 (ht.2.2.2.2.2.2.2 (by rw [q]; exact hk))
    rw [← musS_0 rfl, badS_y h0, sP_n h0 hn]
  · rw [musS_st h0, sP_st h0]
theorem sg_b {tl ta : Nat} {bf : Nat → Int32} {bd s13 s14 s15 s17 k : Int32} {s : Int32 × Nat} (h : RI tl bf bd s13 s14 s15 s17 ta s) (c4 : s14 = 4) (cv : ¬ s15 = k) : musS 0 ta s = sP tl bf k s := by
  by_cases h0 : s.1 = 0
  · obtain ⟨_, _, ht⟩ := h.2.1 h0
    obtain ⟨e1, e2⟩ := ht.2.2.2.2.2.2.1 c4
    have hn : ¬ pq tl bf s.2 = k := fun q => cv (e1.symm.trans q)
    rw [← musS_0 rfl, badS_y h0, sP_n h0 hn]
  · rw [musS_st h0, sP_st h0]
/-- whether a letter stands there -/
theorem lB_s {tl ta : Nat} {bf : Nat → Int32} {bd s13 s14 s15 s17 k : Int32} {s : Int32 × Nat} (h : RI tl bf bd s13 s14 s15 s17 ta s) (hl : 97 ≤ k.toInt ∧ k.toInt ≤ 122) : (lB bd s14 s15 k = 1 ∧ s.1 = 0 ∧ pq tl bf s.2 = k ∧ ta = s.2 + 1) ∨ (lB bd s14 s15 k = 0 ∧ ¬ (s.1 = 0 ∧ pq tl bf s.2 = k)) := by
  unfold lB
  by_cases h0 : s.1 = 0
  · have hb : bd = 0 := h.1.trans h0
    obtain ⟨_, _, ht⟩ := h.2.1 h0
    rw [if_pos hb]
    by_cases c2 : s14 = 2
    · obtain ⟨e1, e2⟩ := ht.2.2.1 c2
      rw [if_pos c2]
      by_cases cv : s15 = k
      · rw [if_pos cv]
        exact Or.inl ⟨rfl, h0, e1.trans cv, e2⟩
      · rw [if_neg cv]
        exact Or.inr ⟨rfl, fun q => cv (e1.symm.trans q.2)⟩
    · rw [if_neg c2]
      exact Or.inr ⟨rfl, fun q => c2 (ht.2.2.2.1 (by rw [q.2]; exact hl))⟩
  · have hb : ¬ bd = 0 := by rw [h.1]; exact h0
    rw [if_neg hb]
    exact Or.inr ⟨rfl, fun q => h0 q.1⟩
theorem let_P {tl ta : Nat} {bf : Nat → Int32} {bd s13 s14 s15 s17 k : Int32} {s : Int32 × Nat} (h : RI tl bf bd s13 s14 s15 s17 ta s) (hl : 97 ≤ k.toInt ∧ k.toInt ≤ 122) : musS (lB bd s14 s15 k) ta s = sP tl bf k s := by
  rcases lB_s h hl with ⟨e, h0, hp, ht⟩ | ⟨e, hn⟩
  · rw [e, musS_y h0 (by decide), sP_y h0 hp, ht]
  · rw [e]
    by_cases h0 : s.1 = 0
    · rw [← musS_0 rfl, badS_y h0, sP_n h0 (fun q => hn ⟨h0, q⟩)]
    · rw [musS_st h0, sP_st h0]
theorem nv_99 {tl : Nat} {bf : Nat → Int32} {p : Nat} (h : nd tl bf p = 1 ∨ nd tl bf p = 2) : nv tl bf p ≤ 99 := by
  have d0 := dv9 (nd_dg h)
  by_cases c : dg (pq tl bf (p + 1))
  · have d1 := dv9 c
    rw [nv_2 c]
    omega
  · rw [nv_1 c]
    omega
theorem nm_st {tl ta t : Nat} {bf : Nat → Int32} {bd s13 s14 s15 s17 : Int32} {lo hi : Nat} {s : Int32 × Nat} (h : RI tl bf bd s13 s14 s15 s17 ta s) (c : ¬ bd = 0) : musS 1 t s = sN tl bf lo hi s := by
  have h0 : ¬ s.1 = 0 := by rw [← h.1]; exact c
  rw [musS_st h0, sN_st h0]
theorem nm_1 {tl ta t : Nat} {bf : Nat → Int32} {bd s13 s14 s15 s17 : Int32} {lo hi : Nat} {s : Int32 × Nat} (h : RI tl bf bd s13 s14 s15 s17 ta s) (c : bd = 0) (c3 : ¬ s14 = 3) : musS 1 t (badS 1 s) = sN tl bf lo hi s := by
  have h0 : s.1 = 0 := by rw [← h.1]; exact c
  obtain ⟨_, _, ht⟩ := h.2.1 h0
  rw [musS_st (badS_ne (by decide)), badS_y h0, sN_1 h0 (fun q => c3 (ht.2.2.2.2.2.1 q))]
theorem nm_2 {tl ta t : Nat} {bf : Nat → Int32} {bd s13 s14 s15 s17 : Int32} {lo hi : Nat} {s : Int32 × Nat} (h : RI tl bf bd s13 s14 s15 s17 ta s) (c : bd = 0) (c3 : s14 = 3) (hlo : lo ≤ 999) (hhi : hi ≤ 999) (cw : wI s15 (nI lo) (nI hi) = 0) : musS 1 t (badS 2 s) = sN tl bf lo hi s := by
  have h0 : s.1 = 0 := by rw [← h.1]; exact c
  obtain ⟨_, _, ht⟩ := h.2.1 h0
  obtain ⟨e1, e2, _⟩ := ht.2.2.2.2.1 c3
  have h9 := nv_99 e1
  rw [e2] at cw
  rw [musS_st (badS_ne (by decide)), badS_y h0, sN_2 h0 e1 (wI_out (by omega) (by omega) (by omega) cw)]
theorem nm_0 {tl ta : Nat} {bf : Nat → Int32} {bd s13 s14 s17 : Int32} {lo hi j : Nat} {s : Int32 × Nat} (h : RI tl bf bd s13 s14 (nI j) s17 ta s) (c : bd = 0) (c3 : s14 = 3) (h9 : hi ≤ 999) (hj : lo ≤ j ∧ j ≤ hi) : musS 1 ta s = sN tl bf lo hi s := by
  have h0 : s.1 = 0 := by rw [← h.1]; exact c
  obtain ⟨_, _, ht⟩ := h.2.1 h0
  obtain ⟨e1, e2, e3⟩ := ht.2.2.2.2.1 c3
  have h99 := nv_99 e1
  have e := (nI_eq (by omega) (by omega)).mp e2
  rw [musS_y h0 (by decide), sN_y h0 e1 (by omega), e3]
theorem ri_begin {tl t2 : Nat} {bf : Nat → Int32} {n13 n14 n15 s17 : Int32} (e : n13 = nI 0) (hk : TK tl bf 0 t2 n14 n15) : RI tl bf 0 n13 n14 n15 s17 t2 (0, 0) := ⟨rfl, fun _ => ⟨e, Nat.zero_le _, hk⟩, fun q => absurd rfl q⟩
/-- whether a tube's letter stands there -/
theorem kB_kq {x : Int32} : (kB x = -1000000 ∧ kq x = 0) ∨ (¬ kB x = -1000000 ∧ kB x = kq x ∧ ¬ kq x = 0 ∧ 97 ≤ x.toInt ∧ x.toInt ≤ 122) := by
  by_cases h1 : x = 112
  · subst h1; exact Or.inr (by decide)
  · by_cases h2 : x = 103
    · subst h2; exact Or.inr (by decide)
    · by_cases h3 : x = 115
      · subst h3; exact Or.inr (by decide)
      · by_cases h4 : x = 119
        · subst h4; exact Or.inr (by decide)
        · by_cases h5 : x = 108
          · subst h5; exact Or.inr (by decide)
          · refine Or.inl ⟨?_, ?_⟩
            · unfold kB; rw [if_neg h1, if_neg h2, if_neg h3, if_neg h4, if_neg h5]
            · unfold kq; rw [if_neg h1, if_neg h2, if_neg h3, if_neg h4, if_neg h5]
theorem sB_s {tl ta : Nat} {bf : Nat → Int32} {bd s13 s14 s15 s17 : Int32} {s : Int32 × Nat} (h : RI tl bf bd s13 s14 s15 s17 ta s) : (sB bd s14 s15 = 1 ∧ s.1 = 0 ∧ ¬ kq (pq tl bf s.2) = 0 ∧ kB s15 = kq (pq tl bf s.2) ∧ ta = s.2 + 1) ∨ (sB bd s14 s15 = 0 ∧ ¬ (s.1 = 0 ∧ ¬ kq (pq tl bf s.2) = 0)) := by
  unfold sB
  by_cases h0 : s.1 = 0
  · have hb : bd = 0 := h.1.trans h0
    obtain ⟨_, _, ht⟩ := h.2.1 h0
    rw [if_pos hb]
    by_cases c2 : s14 = 2
    · obtain ⟨e1, e2⟩ := ht.2.2.1 c2
      rw [if_pos c2]
      rcases kB_kq (x := s15) with ⟨k1, k2⟩ | ⟨k1, k2, k3, _⟩
      · rw [if_pos k1]
        exact Or.inr ⟨rfl, fun q => q.2 (by rw [e1]; exact k2)⟩
      · rw [if_neg k1]
        exact Or.inl ⟨rfl, h0, by rw [e1]; exact k3, by rw [e1]; exact k2, e2⟩
    · rw [if_neg c2]
      refine Or.inr ⟨rfl, fun q => c2 (ht.2.2.2.1 ?_)⟩
      rcases kB_kq (x := pq tl bf s.2) with ⟨_, k2⟩ | ⟨_, _, _, k4⟩
      · exact absurd k2 q.2
      · exact k4
  · have hb : ¬ bd = 0 := by rw [h.1]; exact h0
    rw [if_neg hb]
    exact Or.inr ⟨rfl, fun q => h0 q.1⟩
theorem sB_y {tl ta : Nat} {bf : Nat → Int32} {bd s13 s14 s15 s17 : Int32} {s : Int32 × Nat} (h : RI tl bf bd s13 s14 s15 s17 ta s) (c : ¬ sB bd s14 s15 = 0) : s.1 = 0 ∧ ¬ kq (pq tl bf s.2) = 0 ∧ kB s15 = kq (pq tl bf s.2) ∧ ta = s.2 + 1 := (sB_s h).elim (fun q => q.2) (fun q => absurd q.1 c)
theorem sB_n {tl ta : Nat} {bf : Nat → Int32} {bd s13 s14 s15 s17 : Int32} {s : Int32 × Nat} (h : RI tl bf bd s13 s14 s15 s17 ta s) (c : sB bd s14 s15 = 0) : ¬ (s.1 = 0 ∧ ¬ kq (pq tl bf s.2) = 0) := (sB_s h).elim (fun q => absurd (q.1.symm.trans c) (by decide)) (fun q => q.2)
theorem lB_y {tl ta : Nat} {bf : Nat → Int32} {bd s13 s14 s15 s17 k : Int32} {s : Int32 × Nat} (h : RI tl bf bd s13 s14 s15 s17 ta s) (hl : 97 ≤ k.toInt ∧ k.toInt ≤ 122) (c : ¬ lB bd s14 s15 k = 0) : s.1 = 0 ∧ pq tl bf s.2 = k := (lB_s h hl).elim (fun q => ⟨q.2.1, q.2.2.1⟩) (fun q => absurd q.1 c)
theorem lB_n {tl ta : Nat} {bf : Nat → Int32} {bd s13 s14 s15 s17 k : Int32} {s : Int32 × Nat} (h : RI tl bf bd s13 s14 s15 s17 ta s) (hl : 97 ≤ k.toInt ∧ k.toInt ≤ 122) (c : lB bd s14 s15 k = 0) : ¬ (s.1 = 0 ∧ pq tl bf s.2 = k) := (lB_s h hl).elim (fun q => absurd (q.1.symm.trans c) (by decide)) (fun q => q.2)
theorem tu_1 {tl ta : Nat} {bf : Nat → Int32} {bd s13 s14 s15 s17 : Int32} {s : Int32 × Nat} (h : RI tl bf bd s13 s14 s15 s17 ta s) (c : ¬ sB bd s14 s15 = 0) : musS 1 ta s = (0, s.2 + 1) := by
  obtain ⟨h0, _, _, ht⟩ := sB_y h c
  rw [musS_y h0 (by decide), ht]
theorem tu_3 {tl ta t : Nat} {bf : Nat → Int32} {bd s13 s14 s15 s17 : Int32} {s : Int32 × Nat} (h : RI tl bf bd s13 s14 s15 s17 ta s) (c : ¬ sB bd s14 s15 = 0) : musS 1 t (badS 3 s) = (3, s.2) := by
  obtain ⟨h0, _, _, _⟩ := sB_y h c
  rw [musS_st (badS_ne (by decide)), badS_y h0]
theorem rmS_5 {tl R : Nat} {bf : Nat → Int32} {s : Int32 × Nat} (h : R = 5) : sRoom tl bf (badS 3 s) = sRoom tl bf (if R = 5 then badS 3 s else s) := by rw [if_pos h]
theorem rmS_n {tl R : Nat} {bf : Nat → Int32} {s : Int32 × Nat} (h : ¬ R = 5) : sRoom tl bf s = sRoom tl bf (if R = 5 then badS 3 s else s) := by rw [if_neg h]
theorem tuS_6 {tl R T : Nat} {bf : Nat → Int32} {p : Nat} (h : T = 6) : sTube tl bf R (3, p) = sTube tl bf R (if T = 6 then (3, p) else (0, p + 1)) := by rw [if_pos h]
theorem tuS_n {tl R T : Nat} {bf : Nat → Int32} {p : Nat} (h : ¬ T = 6) : sTube tl bf R (0, p + 1) = sTube tl bf R (if T = 6 then (3, p) else (0, p + 1)) := by rw [if_neg h]
theorem rm_first {tl k : Nat} {bf : Nat → Int32} {s : Int32 × Nat} (hn : ¬ (s.1 = 0 ∧ pq tl bf s.2 = 109)) : sRm tl bf (k + 1) 0 (badS 1 s) = sRm tl bf (k + 1) 0 s := by
  by_cases h0 : s.1 = 0
  · have hp : ¬ pq tl bf s.2 = 109 := fun q => hn ⟨h0, q⟩
    rw [rm_st (badS_ne (by decide)), badS_y h0]
    simp [sRm, h0, hp]
  · rw [badS_n h0]
theorem rm_step {tl k R R2 : Nat} {bf : Nat → Int32} {s : Int32 × Nat} (h : s.1 = 0 ∧ pq tl bf s.2 = 109) (e1 : (sRoom tl bf (if R = 5 then badS 3 s else s)).1 = 0 → R2 = R + 1) (e2 : ¬ (sRoom tl bf (if R = 5 then badS 3 s else s)).1 = 0 → R2 = R) : sRm tl bf (k + 1) R s = sRm tl bf k R2 (sRoom tl bf (if R = 5 then badS 3 s else s)) := by
  by_cases h5 : R = 5
  · rw [if_pos h5] at e1 e2 ⊢
    have hb : ¬ (badS 3 s).1 = 0 := badS_ne (by decide)
    rw [sRoom_st hb] at e1 e2 ⊢
    rw [rm_st hb, e2 hb, badS_y h.1]
    simp [sRm, h, h5]
  · rw [if_neg h5] at e1 e2 ⊢
    by_cases c : (sRoom tl bf s).1 = 0
    · rw [e1 c]
      simp [sRm, h, h5, c]
    · rw [rm_st c, e2 c]
      simp [sRm, h, h5, c]
theorem rm_exit {tl k R : Nat} {bf : Nat → Int32} {s : Int32 × Nat} (hn : ¬ (s.1 = 0 ∧ pq tl bf s.2 = 109)) (hm : R = 0 → s.1 = 0 → pq tl bf s.2 = 109) : sRm tl bf k R s = (s, R) := by
  cases k with
  | zero => rfl
  | succ k =>
    have h2 : ¬ (s.1 = 0 ∧ R = 0) := fun q => hn ⟨q.1, hm q.2 q.1⟩
    show (if s.1 = 0 ∧ pq tl bf s.2 = 109 then _ else (if s.1 = 0 ∧ R = 0 then ((1, s.2), R) else (s, R))) = (s, R)
    rw [if_neg hn, if_neg h2]
def kF (n : Nat) (K f : Nat → Int32) : Prop := ∀ t, t < n → f (15 + 5 * t) = K t
theorem kF_0 {K f : Nat → Int32} : kF 0 K f := fun t h => absurd h (Nat.not_lt_zero t)
theorem kF_s {n : Nat} {K f g : Nat → Int32} {x : Int32} (h : kF n K f) (e1 : g (15 + 5 * n) = x) (e2 : ∀ t, t < n → g (15 + 5 * t) = f (15 + 5 * t)) : kF (n + 1) (upd K n x) g := by
  intro t ht
  by_cases e : t = n
  · subst e; rw [pk_us]; exact e1
  · rw [pk_un e, e2 t (by omega)]; exact h t (by omega)
theorem tb_first {tl R k : Nat} {bf K : Nat → Int32} {s : Int32 × Nat} (hn : ¬ (s.1 = 0 ∧ ¬ kq (pq tl bf s.2) = 0)) : sTb tl bf R (k + 1) 0 K (badS 1 s) = sTb tl bf R (k + 1) 0 K s := by
  by_cases h0 : s.1 = 0
  · have hp : kq (pq tl bf s.2) = 0 := Classical.byContradiction fun q => hn ⟨h0, q⟩
    rw [tb_st (badS_ne (by decide)), badS_y h0]
    simp [sTb, h0, hp]
  · rw [badS_n h0]
/-- what is left of a tube's step -/
def tS (T p : Nat) : Int32 × Nat := if T = 6 then (3, p) else (0, p + 1)
theorem tb_step {tl R k T T2 : Nat} {bf K K2 : Nat → Int32} {s : Int32 × Nat} (h : s.1 = 0 ∧ ¬ kq (pq tl bf s.2) = 0) (e1 : (sTube tl bf R (if T = 6 then (3, s.2) else (0, s.2 + 1))).1 = 0 → T2 = T + 1 ∧ K2 = upd K T (kq (pq tl bf s.2))) (e2 : ¬ (sTube tl bf R (if T = 6 then (3, s.2) else (0, s.2 + 1))).1 = 0 → T2 = T ∧ K2 = K) : sTb tl bf R (k + 1) T K s = sTb tl bf R k T2 K2 (sTube tl bf R (if T = 6 then (3, s.2) else (0, s.2 + 1))) := by
  by_cases h6 : T = 6
  · rw [if_pos h6] at e1 e2 ⊢
    have hb : ¬ ((3 : Int32), s.2).1 = 0 := (by decide : ¬ (3 : Int32) = 0)
    rw [sTube_st hb] at e1 e2 ⊢
    rw [tb_st hb, (e2 hb).1, (e2 hb).2]
    simp [sTb, h, h6]
  · rw [if_neg h6] at e1 e2 ⊢
    by_cases c : (sTube tl bf R (0, s.2 + 1)).1 = 0
    · rw [(e1 c).1, (e1 c).2]
      simp [sTb, h, h6, c]
    · rw [tb_st c, (e2 c).1, (e2 c).2]
      simp [sTb, h, h6, c]
def enS (tl : Nat) (s : Int32 × Nat) : Int32 × Nat := if s.1 = 0 ∧ s.2 < tl then (1, s.2) else s
theorem tb_exit {tl R k T : Nat} {bf K : Nat → Int32} {s : Int32 × Nat} (hn : ¬ (s.1 = 0 ∧ ¬ kq (pq tl bf s.2) = 0)) (hm : T = 0 → s.1 = 0 → ¬ kq (pq tl bf s.2) = 0) (hk : k = 0 → ¬ s.1 = 0) : sTb tl bf R k T K s = (enS tl s, T, K) := by
  by_cases h0 : s.1 = 0
  · cases k with
    | zero => exact absurd h0 (hk rfl)
    | succ k =>
      have hT : ¬ T = 0 := fun q => hn ⟨h0, hm q h0⟩
      have h2 : (s.1 = 0 ∧ (s.2 < tl ∨ T = 0)) ↔ (s.1 = 0 ∧ s.2 < tl) := ⟨fun q => ⟨q.1, q.2.resolve_right hT⟩, fun q => ⟨q.1, Or.inl q.2⟩⟩
      show (if s.1 = 0 ∧ ¬ kq (pq tl bf s.2) = 0 then _ else (if s.1 = 0 ∧ (s.2 < tl ∨ T = 0) then ((1, s.2), T, K) else (s, T, K))) = (enS tl s, T, K)
      rw [if_neg hn]
      unfold enS
      by_cases c : s.1 = 0 ∧ s.2 < tl
      · rw [if_pos (h2.mpr c), if_pos c]
      · rw [if_neg (fun q => c (h2.mp q)), if_neg c]
  · have e : enS tl s = s := if_neg (fun q => h0 q.1)
    rw [tb_st h0, e]
/-- what the last look says -/
def FE (s : Int32 × Nat) (r f a l l0 : Int32) : Prop := f = s.1 ∧ (s.1 = 0 → r = 0 ∧ l = l0) ∧ (¬ s.1 = 0 → r = 1 ∧ a = nI s.2 ∧ l = s.1)
theorem fe_A {tl ta : Nat} {bf : Nat → Int32} {bd s13 s14 s15 s17 f a l0 : Int32} {s : Int32 × Nat} (h : RI tl bf bd s13 s14 s15 s17 ta s) (c : bd = 0) (c1 : ¬ s14 = 1) (h2 : RI tl bf f s13 s14 s15 a ta (badS 1 s)) : FE (enS tl s) 1 f a f l0 := by
  have h0 : s.1 = 0 := by rw [← h.1]; exact c
  obtain ⟨_, _, ht⟩ := h.2.1 h0
  have hlt : s.2 < tl := by
    rcases Nat.lt_or_ge s.2 tl with g | g
    · exact g
    · exact absurd (ht.2.1 g) c1
  have e : enS tl s = badS 1 s := by rw [badS_y h0]; exact if_pos ⟨h0, hlt⟩
  have hb : ¬ (badS 1 s).1 = 0 := badS_ne (by decide)
  rw [e]
  exact ⟨h2.1, fun q => absurd q hb, fun _ => ⟨rfl, h2.2.2 hb, h2.1⟩⟩
theorem fe_B {tl ta : Nat} {bf : Nat → Int32} {bd s13 s14 s15 s17 l0 : Int32} {s : Int32 × Nat} (h : RI tl bf bd s13 s14 s15 s17 ta s) (c : bd = 0) (c1 : s14 = 1) : FE (enS tl s) 0 bd s17 l0 l0 := by
  have h0 : s.1 = 0 := by rw [← h.1]; exact c
  obtain ⟨_, _, ht⟩ := h.2.1 h0
  have hge := ht.1 c1
  have e : enS tl s = s := if_neg (fun q => by have := q.2; omega)
  rw [e]
  exact ⟨h.1, fun _ => ⟨rfl, rfl⟩, fun q => absurd h0 q⟩
theorem fe_C {tl ta : Nat} {bf : Nat → Int32} {bd s13 s14 s15 s17 l0 : Int32} {s : Int32 × Nat} (h : RI tl bf bd s13 s14 s15 s17 ta s) (c : ¬ bd = 0) : FE (enS tl s) 1 bd s17 bd l0 := by
  have h0 : ¬ s.1 = 0 := by rw [← h.1]; exact c
  have e : enS tl s = s := if_neg (fun q => h0 q.1)
  rw [e]
  exact ⟨h.1, fun q => absurd q h0, fun _ => ⟨rfl, h.2.2 h0, h.1⟩⟩
theorem fe_0 {s : Int32 × Nat} {r f a l l0 : Int32} (h : FE s r f a l l0) (c : r = 0) : s.1 = 0 := by
  by_cases h0 : s.1 = 0
  · exact h0
  · have := (h.2.2 h0).1
    rw [c] at this
    exact absurd this (by decide)
theorem fe_1 {s : Int32 × Nat} {r f a l l0 : Int32} (h : FE s r f a l l0) (c : ¬ r = 0) : ¬ s.1 = 0 := fun q => c (h.2.1 q).1
theorem prB_of {tl R : Nat} {bf : Nat → Int32} {s : Int32 × Nat} (h : prA tl bf = (s, R)) : sTb tl bf R 7 0 (fun _ => 0) s = prB tl bf := by
  unfold prB
  rw [h]
theorem hm_A0 {tl T : Nat} {bf K : Nat → Int32} {s : Int32 × Nat} {r f a l l0 : Int32} (hB : prB tl bf = (enS tl s, T, K)) (h : FE (enS tl s) r f a l l0) (c : r = 0) : nI T = hsA (prB tl bf) ∧ l = hsV (prB tl bf) l0 ∧ (prB tl bf).1.1 = 0 := by
  have h0 := fe_0 h c
  have e0 : (prB tl bf).1.1 = 0 := by rw [hB]; exact h0
  refine ⟨?_, ?_, e0⟩
  · unfold hsA
    rw [if_pos e0, hB]
  · unfold hsV
    rw [if_pos e0]
    exact (h.2.1 h0).2
theorem hm_A1 {tl T : Nat} {bf K : Nat → Int32} {s : Int32 × Nat} {r f a l l0 : Int32} (hB : prB tl bf = (enS tl s, T, K)) (h : FE (enS tl s) r f a l l0) (c : ¬ r = 0) : (-1000100) - a = hsA (prB tl bf) ∧ l = hsV (prB tl bf) l0 ∧ ¬ (prB tl bf).1.1 = 0 := by
  have h0 := fe_1 h c
  obtain ⟨_, e2, e3⟩ := h.2.2 h0
  have e0 : ¬ (prB tl bf).1.1 = 0 := by rw [hB]; exact h0
  refine ⟨?_, ?_, e0⟩
  · unfold hsA
    rw [if_neg e0, hB, e2]
  · unfold hsV
    rw [if_neg e0, hB]
    exact e3
theorem rt_rk {R T v : Nat} {f : Nat → Int32} {k tk h : Int32} (hr : rk R T f) (hv : v ≤ R) : rk R (T + 1) (upd (upd (upd (upd (upd f (15 + 5 * T) k) (15 + 5 * T + 1) (nI v)) (15 + 5 * T + 2) tk) (15 + 5 * T + 3) h) 1 (nI (T + 1))) := by
  refine ⟨?_, pk_us, fun t ht => ?_⟩
  · rw [pk_un (by omega), pk_un (by omega), pk_un (by omega), pk_un (by omega), pk_un (by omega)]
    exact hr.1
  · rw [pk_un (by omega), pk_un (by omega), pk_un (by omega)]
    by_cases e : t = T
    · subst e
      exact ⟨v, hv, by rw [show 16 + 5 * t = 15 + 5 * t + 1 by omega]; exact pk_us⟩
    · rw [pk_un (by omega), pk_un (by omega)]
      exact hr.2.2 t ht
theorem rt_k {T : Nat} {f : Nat → Int32} {k a b c d : Int32} : upd (upd (upd (upd (upd f (15 + 5 * T) k) (15 + 5 * T + 1) a) (15 + 5 * T + 2) b) (15 + 5 * T + 3) c) 1 d (15 + 5 * T) = k := by
  rw [pk_un (by omega), pk_un (by omega), pk_un (by omega), pk_un (by omega), pk_us]
theorem rt_o {T : Nat} {f : Nat → Int32} {k a b c d : Int32} : ∀ t, t < T → upd (upd (upd (upd (upd f (15 + 5 * T) k) (15 + 5 * T + 1) a) (15 + 5 * T + 2) b) (15 + 5 * T + 3) c) 1 d (15 + 5 * t) = f (15 + 5 * t) := by
  intro t ht
  rw [pk_un (by omega), pk_un (by omega), pk_un (by omega), pk_un (by omega), pk_un (by omega)]
theorem kF_cp {n i : Nat} {K g f : Nat → Int32} (h : kF n K f) (hc : cpd i 0 0 g f) (hi : i = 45) (hn : n ≤ 6) : kF n K g := by
  intro t ht
  have e := hc (15 + 5 * t) (by omega)
  rw [Nat.zero_add] at e
  rw [e]
  exact h t ht
theorem kF_r {n : Nat} {K K2 f : Nat → Int32} (e : K2 = K) (h : kF n K f) : kF n K2 f := by
  rw [e]
  exact h
theorem fe_bd {tl ta : Nat} {bf : Nat → Int32} {bd s13 s14 s15 s17 : Int32} {s : Int32 × Nat} (h : RI tl bf bd s13 s14 s15 s17 ta s) (c : ¬ bd = 0) : ¬ s.1 = 0 := by
  rw [← h.1]
  exact c
theorem tb_next {tl R k T T2 ta ta2 : Nat} {bf K tf tf2 : Nat → Int32} {s : Int32 × Nat} {f16 f13 f14 f15 f17 s15 : Int32} {B : (Int32 × Nat) × (Nat × (Nat → Int32))} (hG : sTb tl bf R (k + 1) T K s = B) (hK : kF T K tf) (hs : s.1 = 0 ∧ ¬ kq (pq tl bf s.2) = 0 ∧ kB s15 = kq (pq tl bf s.2) ∧ ta = s.2 + 1)
    (hri : RI tl bf f16 f13 f14 f15 f17 ta2 (sTube tl bf R (if T = 6 then (3, s.2) else (0, s.2 + 1)))) (one : f16 = 0 → T2 = T + 1) (kind : f16 = 0 → tf2 (15 + 5 * T) = kB s15 ∧ ∀ t, t < T → tf2 (15 + 5 * t) = tf (15 + 5 * t)) (no : ¬ f16 = 0 → T2 = T ∧ tf2 = tf) :
    ∃ (S : Int32 × Nat) (K2 : Nat → Int32), RI tl bf f16 f13 f14 f15 f17 ta2 S ∧ kF T2 K2 tf2 ∧ sTb tl bf R k T2 K2 S = B ∧ (T2 = 0 → S.1 = 0 → ¬ kq (pq tl bf S.2) = 0) := by
  by_cases h0 : f16 = 0
  · have hS := hri.1.symm.trans h0
    refine ⟨_, upd K T (kq (pq tl bf s.2)), hri, ?_, ?_, fun h => absurd h (by rw [one h0]; omega)⟩
    · rw [one h0]
      exact kF_s hK ((kind h0).1.trans hs.2.2.1) (kind h0).2
    · rw [← hG]
      exact (tb_step ⟨hs.1, hs.2.1⟩ (fun _ => ⟨one h0, rfl⟩) (fun h => absurd hS h)).symm
  · have hS : ¬ (sTube tl bf R (if T = 6 then (3, s.2) else (0, s.2 + 1))).1 = 0 := fun q => h0 (hri.1.trans q)
    refine ⟨_, K, hri, ?_, ?_, fun _ h => absurd h hS⟩
    · rw [(no h0).1, (no h0).2]
      exact hK
    · rw [← hG]
      exact (tb_step ⟨hs.1, hs.2.1⟩ (fun h => absurd h hS) (fun _ => ⟨(no h0).1, rfl⟩)).symm

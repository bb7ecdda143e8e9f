/-! The text: what both readers make of it. -/
/-- the byte at p; -1 at the end -/
def pq (tl : Nat) (bf : Nat → Int32) (p : Nat) : Int32 := if p < tl then bf p else -1
theorem pq_lt {tl : Nat} {bf : Nat → Int32} {p : Nat} (h : p < tl) : pq tl bf p = bf p := if_pos h
theorem pq_ge {tl : Nat} {bf : Nat → Int32} {p : Nat} (h : tl ≤ p) : pq tl bf p = -1 := if_neg (by omega)
theorem pq_on {tl : Nat} {bf : Nat → Int32} {p : Nat} {k : Int32} (h : pq tl bf p = k) (hk : ¬ k = -1) : p < tl := by
  rcases Nat.lt_or_ge p tl with g | g
  · exact g
  · exact absurd ((pq_ge g).symm.trans h).symm hk
abbrev dg (x : Int32) : Prop := 48 ≤ x.toInt ∧ x.toInt ≤ 57
def dv (x : Int32) : Nat := (x.toInt - 48).toNat
theorem dg_of {x : Int32} (h1 : ¬ x < 48) (h2 : ¬ 57 < x) : dg x := by
  have e1 : (48 : Int32).toInt = 48 := rfl
  have e2 : (57 : Int32).toInt = 57 := rfl
  rw [Int32.lt_iff_toInt_lt] at h1 h2
  exact ⟨by omega, by omega⟩
theorem dg_lo {x : Int32} (h : x < 48) : ¬ dg x := fun p => by
  have e1 : (48 : Int32).toInt = 48 := rfl
  rw [Int32.lt_iff_toInt_lt] at h
  have := p.1
  omega
theorem dg_hi {x : Int32} (h : 57 < x) : ¬ dg x := fun p => by
  have e1 : (57 : Int32).toInt = 57 := rfl
  rw [Int32.lt_iff_toInt_lt] at h
  have := p.2
  omega
theorem dg_wI {x : Int32} (h : ¬ wI x 48 57 = 0) : dg x := dg_of (wI_ne h).1 (wI_ne h).2
theorem dg_nI {x : Int32} (h : wI x 48 57 = 0) : ¬ dg x := by
  unfold wI at h
  split at h
  · rename_i c; exact dg_lo c
  · split at h
    · rename_i c; exact dg_hi c
    · exact absurd h (by decide)
theorem dg_lt {tl : Nat} {bf : Nat → Int32} {p : Nat} (h : dg (pq tl bf p)) : p < tl := by
  rcases Nat.lt_or_ge p tl with g | g
  · exact g
  · rw [pq_ge g] at h
    exact absurd h.1 (by decide)
theorem dvA {x : Int32} (a : Nat) (h : dg x) : nI a + x - 48 = nI (a + dv x) := by
  have e : x = nI (48 + dv x) := by
    apply Int32.toInt_inj.mp
    have h1 := h.1
    have h2 := h.2
    unfold dv
    rw [nI_toInt (by omega)]
    omega
  have e2 : nI a + nI (48 + dv x) - nI 48 = nI (a + dv x) := by
    rw [nI_add, show a + (48 + dv x) = (a + dv x) + 48 by omega, ← nI_add, Int32.add_sub_cancel]
  show nI a + x - nI 48 = nI (a + dv x)
  exact (congrArg (fun y => nI a + y - nI 48) e).trans e2
theorem dv1 {x : Int32} (h : dg x) : 0 + x - 48 = nI (dv x) := by
  have h2 := dvA 0 h
  rw [Nat.zero_add] at h2
  exact h2
theorem dvS {x : Int32} (h : dg x) : x - 48 = nI (dv x) := by
  have h2 := dv1 h
  rw [Int32.zero_add] at h2
  exact h2
theorem dv9 {x : Int32} (h : dg x) : dv x ≤ 9 := by
  have := h.2
  unfold dv
  omega
/-- how many figures stand at p, three at most; the number that they make -/
def nd (tl : Nat) (bf : Nat → Int32) (p : Nat) : Nat := if dg (pq tl bf p) then (if dg (pq tl bf (p + 1)) then (if dg (pq tl bf (p + 2)) then 3 else 2) else 1) else 0
def nv (tl : Nat) (bf : Nat → Int32) (p : Nat) : Nat := if dg (pq tl bf (p + 1)) then dv (pq tl bf p) * 10 + dv (pq tl bf (p + 1)) else dv (pq tl bf p)
theorem nd_0 {tl : Nat} {bf : Nat → Int32} {p : Nat} (h : ¬ dg (pq tl bf p)) : nd tl bf p = 0 := if_neg h
theorem nd_1 {tl : Nat} {bf : Nat → Int32} {p : Nat} (h : dg (pq tl bf p)) (h1 : ¬ dg (pq tl bf (p + 1))) : nd tl bf p = 1 := by unfold nd; rw [if_pos h, if_neg h1]
theorem nd_2 {tl : Nat} {bf : Nat → Int32} {p : Nat} (h : dg (pq tl bf p)) (h1 : dg (pq tl bf (p + 1))) (h2 : ¬ dg (pq tl bf (p + 2))) : nd tl bf p = 2 := by unfold nd; rw [if_pos h, if_pos h1, if_neg h2]
theorem nd_3 {tl : Nat} {bf : Nat → Int32} {p : Nat} (h : dg (pq tl bf p)) (h1 : dg (pq tl bf (p + 1))) (h2 : dg (pq tl bf (p + 2))) : nd tl bf p = 3 := by unfold nd; rw [if_pos h, if_pos h1, if_pos h2]
theorem nd_dg {tl : Nat} {bf : Nat → Int32} {p : Nat} (h : nd tl bf p = 1 ∨ nd tl bf p = 2) : dg (pq tl bf p) := by
  by_cases c : dg (pq tl bf p)
  · exact c
  · rw [nd_0 c] at h
    omega
theorem nv_1 {tl : Nat} {bf : Nat → Int32} {p : Nat} (h1 : ¬ dg (pq tl bf (p + 1))) : nv tl bf p = dv (pq tl bf p) := if_neg h1
theorem nv_2 {tl : Nat} {bf : Nat → Int32} {p : Nat} (h1 : dg (pq tl bf (p + 1))) : nv tl bf p = dv (pq tl bf p) * 10 + dv (pq tl bf (p + 1)) := if_pos h1
/-- a road's state: (0, where) or (the fault, its place); a fault stays -/
def sP (tl : Nat) (bf : Nat → Int32) (k : Int32) (s : Int32 × Nat) : Int32 × Nat := if s.1 = 0 then (if pq tl bf s.2 = k then (0, s.2 + 1) else (1, s.2)) else s
def sN (tl : Nat) (bf : Nat → Int32) (lo hi : Nat) (s : Int32 × Nat) : Int32 × Nat := if s.1 = 0 then (if nd tl bf s.2 = 1 ∨ nd tl bf s.2 = 2 then (if lo ≤ nv tl bf s.2 ∧ nv tl bf s.2 ≤ hi then (0, s.2 + nd tl bf s.2) else (2, s.2)) else (1, s.2)) else s
theorem sP_st {tl : Nat} {bf : Nat → Int32} {k : Int32} {s : Int32 × Nat} (h : ¬ s.1 = 0) : sP tl bf k s = s := if_neg h
theorem sN_st {tl : Nat} {bf : Nat → Int32} {lo hi : Nat} {s : Int32 × Nat} (h : ¬ s.1 = 0) : sN tl bf lo hi s = s := if_neg h
theorem sP_y {tl : Nat} {bf : Nat → Int32} {k : Int32} {s : Int32 × Nat} (h : s.1 = 0) (c : pq tl bf s.2 = k) : sP tl bf k s = (0, s.2 + 1) := by unfold sP; rw [if_pos h, if_pos c]
theorem sP_n {tl : Nat} {bf : Nat → Int32} {k : Int32} {s : Int32 × Nat} (h : s.1 = 0) (c : ¬ pq tl bf s.2 = k) : sP tl bf k s = (1, s.2) := by unfold sP; rw [if_pos h, if_neg c]
theorem sN_y {tl : Nat} {bf : Nat → Int32} {lo hi : Nat} {s : Int32 × Nat} (h : s.1 = 0) (c : nd tl bf s.2 = 1 ∨ nd tl bf s.2 = 2) (c2 : lo ≤ nv tl bf s.2 ∧ nv tl bf s.2 ≤ hi) : sN tl bf lo hi s = (0, s.2 + nd tl bf s.2) := by unfold sN; rw [if_pos h, if_pos c, if_pos c2]
theorem sN_2 {tl : Nat} {bf : Nat → Int32} {lo hi : Nat} {s : Int32 × Nat} (h : s.1 = 0) (c : nd tl bf s.2 = 1 ∨ nd tl bf s.2 = 2) (c2 : ¬ (lo ≤ nv tl bf s.2 ∧ nv tl bf s.2 ≤ hi)) : sN tl bf lo hi s = (2, s.2) := by unfold sN; rw [if_pos h, if_pos c, if_neg c2]
theorem sN_1 {tl : Nat} {bf : Nat → Int32} {lo hi : Nat} {s : Int32 × Nat} (h : s.1 = 0) (c : ¬ (nd tl bf s.2 = 1 ∨ nd tl bf s.2 = 2)) : sN tl bf lo hi s = (1, s.2) := by unfold sN; rw [if_pos h, if_neg c]
theorem sP_ok {tl : Nat} {bf : Nat → Int32} {k : Int32} {p : Nat} (c : pq tl bf p = k) : sP tl bf k (0, p) = (0, p + 1) := sP_y (s := (0, p)) rfl c
theorem sP_no {tl : Nat} {bf : Nat → Int32} {k : Int32} {p : Nat} (c : ¬ pq tl bf p = k) : sP tl bf k (0, p) = (1, p) := sP_n (s := (0, p)) rfl c
/-- the class's answer of a road: 1, or 0 with the fault and its place told -/
def CI (s : Int32 × Nat) (r : Int32) (t : Nat) (f a : Int32) : Prop := (s = (0, t) ∧ r = 1) ∨ (s = (f, t) ∧ ¬ f = 0 ∧ r = 0 ∧ a = nI t)
def CN (s : Int32 × Nat) (v : Nat) (r : Int32) (t : Nat) (f a : Int32) : Prop := (s = (0, t) ∧ r = nI v ∧ v ≤ 999) ∨ (s = (f, t) ∧ ¬ f = 0 ∧ r = -1 ∧ a = nI t)
theorem ci_ok {s : Int32 × Nat} {r f a : Int32} {t : Nat} (h : CI s r t f a) (c : ¬ r = 0) : s = (0, t) := h.elim (fun q => q.1) (fun q => absurd q.2.2.1 c)
theorem ci_no {s : Int32 × Nat} {r f a : Int32} {t : Nat} (h : CI s r t f a) (c : r = 0) : CI s 0 t f a := by
  rw [c] at h
  exact h
theorem cn_ok {s : Int32 × Nat} {r f a : Int32} {t v : Nat} (h : CN s v r t f a) (c : ¬ r < 0) : s = (0, t) := h.elim (fun q => q.1) (fun q => absurd (by rw [q.2.2.1]; decide) c)
theorem cn_no {s : Int32 × Nat} {r f a : Int32} {t v : Nat} (h : CN s v r t f a) (c : r < 0) : CI s 0 t f a := by
  rcases h with q | q
  · rw [q.2.1] at c
    exact absurd c (nI_pos (by have := q.2.2; omega))
  · exact Or.inr ⟨q.1, q.2.1, rfl, q.2.2.2⟩
theorem ci_ne {s : Int32 × Nat} {f a : Int32} {t : Nat} (h : CI s 0 t f a) : ¬ s.1 = 0 := by
  rcases h with q | q
  · exact absurd q.2 (by decide)
  · rw [q.1]
    exact q.2.1
theorem ci_P {tl : Nat} {bf : Nat → Int32} {k : Int32} {s : Int32 × Nat} {f a : Int32} {t : Nat} (h : CI s 0 t f a) : CI (sP tl bf k s) 0 t f a := by
  rw [sP_st (ci_ne h)]
  exact h
theorem ci_N {tl : Nat} {bf : Nat → Int32} {lo hi : Nat} {s : Int32 × Nat} {f a : Int32} {t : Nat} (h : CI s 0 t f a) : CI (sN tl bf lo hi s) 0 t f a := by
  rw [sN_st (ci_ne h)]
  exact h
theorem ci_e {s : Int32 × Nat} {t0 : Nat} (g : Int32 × Nat → Int32 × Nat) {r f a : Int32} {t : Nat} (E : s = (0, t0)) (h : CI (g (0, t0)) r t f a) : CI (g s) r t f a := by
  rw [E]
  exact h
theorem cn_e {s : Int32 × Nat} {t0 : Nat} (g : Int32 × Nat → Int32 × Nat) {r f a : Int32} {t v : Nat} (E : s = (0, t0)) (h : CN (g (0, t0)) v r t f a) : CN (g s) v r t f a := by
  rw [E]
  exact h
theorem ci_1 {s : Int32 × Nat} {f a : Int32} {t : Nat} (E : s = (0, t)) : CI s 1 t f a := Or.inl ⟨E, rfl⟩
theorem ci_f {s : Int32 × Nat} {f : Int32} {t : Nat} (E : s = (f, t)) (h : ¬ f = 0) : CI s 0 t f (nI t) := Or.inr ⟨E, h, rfl, rfl⟩
theorem ci_r {s s2 : Int32 × Nat} {r f a : Int32} {t : Nat} (e : s2 = s) (h : CI s r t f a) : CI s2 r t f a := by
  rw [e]
  exact h
theorem cn_y {tl : Nat} {bf : Nat → Int32} {lo hi p q v : Nat} {f a : Int32} (h : nd tl bf p = 1 ∨ nd tl bf p = 2) (hv : nv tl bf p = v) (hb : lo ≤ v ∧ v ≤ hi) (h9 : hi ≤ 999) (hq : p + nd tl bf p = q) : CN (sN tl bf lo hi (0, p)) (nv tl bf p) (nI v) q f a := by
  subst hv
  refine Or.inl ⟨?_, rfl, by omega⟩
  rw [sN_y (s := (0, p)) rfl h hb]
  show ((0 : Int32), p + nd tl bf p) = (0, q)
  rw [hq]
theorem cn_2 {tl : Nat} {bf : Nat → Int32} {lo hi p v : Nat} (h : nd tl bf p = 1 ∨ nd tl bf p = 2) (hv : nv tl bf p = v) (hb : ¬ (lo ≤ v ∧ v ≤ hi)) : CN (sN tl bf lo hi (0, p)) (nv tl bf p) (-1) p 2 (nI p) := by
  subst hv
  exact Or.inr ⟨sN_2 (s := (0, p)) rfl h hb, by decide, rfl, rfl⟩
theorem cn_1 {tl : Nat} {bf : Nat → Int32} {lo hi p : Nat} (h : ¬ (nd tl bf p = 1 ∨ nd tl bf p = 2)) : CN (sN tl bf lo hi (0, p)) (nv tl bf p) (-1) p 1 (nI p) := Or.inr ⟨sN_1 (s := (0, p)) rfl h, by decide, rfl, rfl⟩
theorem wI_out {n a b : Nat} (hn : n < 2 ^ 31) (ha : a < 2 ^ 31) (hb : b < 2 ^ 31) (h : wI (nI n) (nI a) (nI b) = 0) : ¬ (a ≤ n ∧ n ≤ b) := fun p => by
  unfold wI at h
  rw [if_neg (nI_nlt p.1 hn), if_neg (nI_nlt p.2 hb)] at h
  exact absurd h (by decide)
theorem wI_inn {n a b : Nat} (hn : n < 2 ^ 31) (ha : a < 2 ^ 31) (hb : b < 2 ^ 31) (h : ¬ wI (nI n) (nI a) (nI b) = 0) : a ≤ n ∧ n ≤ b := by
  obtain ⟨h1, h2⟩ := wI_ne h
  constructor
  · rcases Nat.lt_or_ge n a with g | g
    · exact absurd (nI_lt g ha) h1
    · exact g
  · rcases Nat.lt_or_ge b n with g | g
    · exact absurd (nI_lt g hn) h2
    · exact g
def sLaw (tl : Nat) (bf : Nat → Int32) (s : Int32 × Nat) : Int32 × Nat := sP tl bf 59 (sN tl bf 0 60 (sP tl bf 44 (sN tl bf 0 9 (sP tl bf 104 s))))
def sRoom (tl : Nat) (bf : Nat → Int32) (s : Int32 × Nat) : Int32 × Nat := sP tl bf 59 (sN tl bf 0 20 (sP tl bf 44 (sN tl bf 0 99 (sP tl bf 109 s))))
def sTube (tl : Nat) (bf : Nat → Int32) (R : Nat) (s : Int32 × Nat) : Int32 × Nat := sP tl bf 59 (sN tl bf 1 40 (sP tl bf 44 (sN tl bf 1 9 (sP tl bf 44 (sN tl bf 0 R s)))))
theorem sRoom_st {tl : Nat} {bf : Nat → Int32} {s : Int32 × Nat} (h : ¬ s.1 = 0) : sRoom tl bf s = s := by
  unfold sRoom
  rw [sP_st h, sN_st h, sP_st h, sN_st h, sP_st h]
theorem sTube_st {tl : Nat} {bf : Nat → Int32} {R : Nat} {s : Int32 × Nat} (h : ¬ s.1 = 0) : sTube tl bf R s = s := by
  unfold sTube
  rw [sN_st h, sP_st h, sN_st h, sP_st h, sN_st h, sP_st h]
theorem sRoom_n {tl : Nat} {bf : Nat → Int32} {p : Nat} (h : ¬ pq tl bf p = 109) : sRoom tl bf (0, p) = (1, p) := by
  have h1 : ¬ ((1 : Int32), p).1 = 0 := (by decide : ¬ (1 : Int32) = 0)
  unfold sRoom
  rw [sP_no h, sN_st h1, sP_st h1, sN_st h1, sP_st h1]
theorem sRoom_109 {tl : Nat} {bf : Nat → Int32} {p q : Nat} (E : sRoom tl bf (0, p) = (0, q)) : pq tl bf p = 109 := by
  by_cases c : pq tl bf p = 109
  · exact c
  · rw [sRoom_n c] at E
    exact absurd (congrArg Prod.fst E) (by decide : ¬ (1 : Int32) = 0)
/-- rooms from the i-th on -/
def sRm (tl : Nat) (bf : Nat → Int32) : Nat → Nat → Int32 × Nat → (Int32 × Nat) × Nat
  | 0, i, s => (s, i)
  | k + 1, i, s => if s.1 = 0 ∧ pq tl bf s.2 = 109 then (if i = 5 then ((3, s.2), i) else (if (sRoom tl bf s).1 = 0 then sRm tl bf k (i + 1) (sRoom tl bf s) else (sRoom tl bf s, i))) else (if s.1 = 0 ∧ i = 0 then ((1, s.2), i) else (s, i))
theorem rm_end {tl : Nat} {bf : Nat → Int32} {k i p : Nat} (hp : ¬ pq tl bf p = 109) (hi : 0 < i) : sRm tl bf (k + 1) i (0, p) = ((0, p), i) := by
  have h0 : ¬ i = 0 := by omega
  simp [sRm, hp, h0]
theorem rm_full {tl : Nat} {bf : Nat → Int32} {k i p : Nat} (hp : pq tl bf p = 109) (hi : i = 5) : sRm tl bf (k + 1) i (0, p) = ((3, p), i) := by
  simp [sRm, hp, hi]
theorem rm_on {tl : Nat} {bf : Nat → Int32} {k i p q : Nat} (hi : ¬ i = 5) (E : sRoom tl bf (0, p) = (0, q)) : sRm tl bf (k + 1) i (0, p) = sRm tl bf k (i + 1) (0, q) := by
  have hp := sRoom_109 E
  simp [sRm, hp, hi, E]
theorem rm_bad {tl : Nat} {bf : Nat → Int32} {k i p : Nat} (hp : i = 0 ∨ pq tl bf p = 109) (hi : ¬ i = 5) (h : ¬ (sRoom tl bf (0, p)).1 = 0) : sRm tl bf (k + 1) i (0, p) = (sRoom tl bf (0, p), i) := by
  by_cases c : pq tl bf p = 109
  · simp [sRm, c, hi, h]
  · have h0 : i = 0 := hp.resolve_right c
    rw [sRoom_n c]
    simp [sRm, c, h0]
/-- a kind by its letter; 0: none -/
def kq (x : Int32) : Int32 := if x = 112 then 1 else if x = 103 then 2 else if x = 115 then 3 else if x = 119 then 4 else if x = 108 then 5 else 0
def sTb (tl : Nat) (bf : Nat → Int32) (R : Nat) : Nat → Nat → (Nat → Int32) → Int32 × Nat → (Int32 × Nat) × (Nat × (Nat → Int32))
  | 0, t, K, s => (s, t, K)
  | k + 1, t, K, s => if s.1 = 0 ∧ ¬ kq (pq tl bf s.2) = 0 then (if t = 6 then ((3, s.2), t, K) else (if (sTube tl bf R (0, s.2 + 1)).1 = 0 then sTb tl bf R k (t + 1) (upd K t (kq (pq tl bf s.2))) (sTube tl bf R (0, s.2 + 1)) else (sTube tl bf R (0, s.2 + 1), t, K))) else (if s.1 = 0 ∧ (s.2 < tl ∨ t = 0) then ((1, s.2), t, K) else (s, t, K))
theorem tb_end {tl : Nat} {bf : Nat → Int32} {R k t p : Nat} {K : Nat → Int32} (hp : tl ≤ p) (ht : 0 < t) : sTb tl bf R (k + 1) t K (0, p) = ((0, p), t, K) := by
  have h0 : ¬ t = 0 := by omega
  have h1 : ¬ p < tl := by omega
  have h2 : kq (pq tl bf p) = 0 := by rw [pq_ge hp]; decide
  simp [sTb, h0, h1, h2]
theorem tb_no {tl : Nat} {bf : Nat → Int32} {R k t p : Nat} {K : Nat → Int32} (hk : kq (pq tl bf p) = 0) (h : p < tl ∨ t = 0) : sTb tl bf R (k + 1) t K (0, p) = ((1, p), t, K) := by
  simp [sTb, hk, h]
theorem tb_full {tl : Nat} {bf : Nat → Int32} {R k t p : Nat} {K : Nat → Int32} (hk : ¬ kq (pq tl bf p) = 0) (ht : t = 6) : sTb tl bf R (k + 1) t K (0, p) = ((3, p), t, K) := by
  simp [sTb, hk, ht]
theorem tb_on {tl : Nat} {bf : Nat → Int32} {R k t p q : Nat} {K : Nat → Int32} (hk : ¬ kq (pq tl bf p) = 0) (ht : ¬ t = 6) (E : sTube tl bf R (0, p + 1) = (0, q)) : sTb tl bf R (k + 1) t K (0, p) = sTb tl bf R k (t + 1) (upd K t (kq (pq tl bf p))) (0, q) := by
  simp [sTb, hk, ht, E]
theorem tb_bad {tl : Nat} {bf : Nat → Int32} {R k t p : Nat} {K : Nat → Int32} (hk : ¬ kq (pq tl bf p) = 0) (ht : ¬ t = 6) (h : ¬ (sTube tl bf R (0, p + 1)).1 = 0) : sTb tl bf R (k + 1) t K (0, p) = (sTube tl bf R (0, p + 1), t, K) := by
  simp [sTb, hk, ht, h]
theorem tb_st {tl : Nat} {bf : Nat → Int32} {R k t : Nat} {K : Nat → Int32} {s : Int32 × Nat} (h : ¬ s.1 = 0) : sTb tl bf R k t K s = (s, t, K) := by
  cases k with
  | zero => rfl
  | succ k => simp [sTb, h]
theorem rm_st {tl : Nat} {bf : Nat → Int32} {k i : Nat} {s : Int32 × Nat} (h : ¬ s.1 = 0) : sRm tl bf k i s = (s, i) := by
  cases k with
  | zero => rfl
  | succ k => simp [sRm, h]
/-- the whole text: rooms, tubes -/
def prA (tl : Nat) (bf : Nat → Int32) : (Int32 × Nat) × Nat := sRm tl bf 6 0 (sLaw tl bf (0, 0))
def prB (tl : Nat) (bf : Nat → Int32) : (Int32 × Nat) × (Nat × (Nat → Int32)) := sTb tl bf (prA tl bf).2 7 0 (fun _ => 0) (prA tl bf).1
theorem prB_f1 {tl : Nat} {bf : Nat → Int32} (h : ¬ (sLaw tl bf (0, 0)).1 = 0) : (prB tl bf).1 = sLaw tl bf (0, 0) := by
  have e : (prA tl bf).1 = sLaw tl bf (0, 0) := by unfold prA; rw [rm_st h]
  unfold prB
  rw [e, tb_st h]
theorem prB_f2 {tl : Nat} {bf : Nat → Int32} (h : ¬ (prA tl bf).1.1 = 0) : (prB tl bf).1 = (prA tl bf).1 := by
  unfold prB
  rw [tb_st h]
def kE (n : Nat) (K f : Nat → Int32) : Prop := ∀ t, t < n → f t = K t
theorem kE_0 {K f : Nat → Int32} : kE 0 K f := fun t h => absurd h (Nat.not_lt_zero t)
theorem kE_s {n : Nat} {K f : Nat → Int32} {x : Int32} (h : kE n K f) : kE (n + 1) (upd K n x) (upd f n x) := by
  intro t ht
  by_cases e : t = n
  · subst e; rw [pk_us, pk_us]
  · rw [pk_un e, pk_un e]; exact h t (by omega)
/-- what a call of house() answers, and the latest fault behind it -/
def hsA (b : (Int32 × Nat) × (Nat × (Nat → Int32))) : Int32 := if b.1.1 = 0 then nI b.2.1 else (-1000100) - nI b.1.2
def hsV (b : (Int32 × Nat) × (Nat × (Nat → Int32))) (x : Int32) : Int32 := if b.1.1 = 0 then x else b.1.1
theorem kE_r {n : Nat} {K K2 f : Nat → Int32} (e : K2 = K) (h : kE n K f) : kE n K2 f := by
  rw [e]
  exact h
theorem kE_t {n : Nat} {K f g : Nat → Int32} (h : kE n K f) (h2 : kE 6 f g) (hn : n ≤ 6) : kE n K g := fun t ht => (h2 t (by omega)).trans (h t ht)
theorem kE_cpy {f g : Nat → Int32} : kE 6 f (va_cpy f g 0 0 6) := by
  intro t ht
  rw [pk_cpy_in (Nat.zero_le _) (by omega)]
  rw [show 0 + (t - 0) = t by omega]
theorem kq_lt {tl : Nat} {bf : Nat → Int32} {p : Nat} (h : ¬ kq (pq tl bf p) = 0) : p < tl := by
  rcases Nat.lt_or_ge p tl with g | g
  · exact g
  · rw [pq_ge g] at h
    exact absurd (by decide) h
theorem hw_pushE {R i v : Nat} {P : Nat → Int32} {r : Int32} (h : hw R i P) (hv : v ≤ R) (e : r = nI v) : hw R (i + 1) (upd P i r) := by
  rw [e]
  exact hw_push h hv
theorem prA_ci {tl t1 : Nat} {bf : Nat → Int32} {r f a : Int32} {t : Nat} (E1 : sLaw tl bf (0, 0) = (0, t1)) (h : CI (sRm tl bf 6 0 (0, t1)).1 r t f a) : CI (prA tl bf).1 r t f a := by
  unfold prA
  rw [E1]
  exact h
theorem prA_ok {tl t1 t2 : Nat} {bf : Nat → Int32} (E1 : sLaw tl bf (0, 0) = (0, t1)) (h : (sRm tl bf 6 0 (0, t1)).1 = (0, t2)) : (prA tl bf).1 = (0, t2) := by
  unfold prA
  rw [E1]
  exact h
theorem prA_2 {tl t1 R2 : Nat} {bf : Nat → Int32} (E1 : sLaw tl bf (0, 0) = (0, t1)) (h : R2 = (sRm tl bf 6 0 (0, t1)).2) : R2 = (prA tl bf).2 := by
  unfold prA
  rw [E1]
  exact h
theorem prB_e {tl t2 R2 : Nat} {bf : Nat → Int32} (E2 : (prA tl bf).1 = (0, t2)) (E3 : R2 = (prA tl bf).2) : prB tl bf = sTb tl bf R2 7 0 (fun _ => 0) (0, t2) := by
  unfold prB
  rw [← E3, E2]
theorem prB_ci {tl t2 R2 : Nat} {bf : Nat → Int32} {r f a : Int32} {t : Nat} (E2 : (prA tl bf).1 = (0, t2)) (E3 : R2 = (prA tl bf).2) (h : CI (sTb tl bf R2 7 0 (fun _ => 0) (0, t2)).1 r t f a) : CI (prB tl bf).1 r t f a := by
  rw [prB_e E2 E3]
  exact h
theorem prB_all {tl t2 R2 T2 : Nat} {bf eP eK : Nat → Int32} (E2 : (prA tl bf).1 = (0, t2)) (E3 : R2 = (prA tl bf).2) (h1 : 0 < R2) (h5 : R2 ≤ 5) (h : 0 < T2 ∧ T2 ≤ 6 ∧ hw R2 T2 eP ∧ T2 = (sTb tl bf R2 7 0 (fun _ => 0) (0, t2)).2.1 ∧ kE T2 (sTb tl bf R2 7 0 (fun _ => 0) (0, t2)).2.2 eK) : 0 < R2 ∧ R2 ≤ 5 ∧ 0 < T2 ∧ T2 ≤ 6 ∧ hw R2 T2 eP ∧ R2 = (prA tl bf).2 ∧ T2 = (prB tl bf).2.1 ∧ kE T2 (prB tl bf).2.2 eK := by
  obtain ⟨a, b, c, d, e⟩ := h
  refine ⟨h1, h5, a, b, c, E3, ?_, ?_⟩
  · rw [prB_e E2 E3]; exact d
  · rw [prB_e E2 E3]; exact e
theorem hs_z {tl t : Nat} {bf : Nat → Int32} (E : (prB tl bf).1 = (0, t)) : (prB tl bf).1.1 = 0 := by rw [E]
theorem hsA_0 {tl t T2 : Nat} {bf : Nat → Int32} (E : (prB tl bf).1 = (0, t)) (h : T2 = (prB tl bf).2.1) : nI T2 = hsA (prB tl bf) := by
  unfold hsA
  rw [if_pos (hs_z E), h]
theorem hsV_0 {tl t : Nat} {bf : Nat → Int32} {x : Int32} (E : (prB tl bf).1 = (0, t)) : x = hsV (prB tl bf) x := by
  unfold hsV
  rw [if_pos (hs_z E)]
theorem hsA_f {tl t : Nat} {bf : Nat → Int32} {f a : Int32} (h : CI (prB tl bf).1 0 t f a) : (-1000100) - a = hsA (prB tl bf) := by
  have hn := ci_ne h
  rcases h with q | q
  · exact absurd q.2 (by decide)
  · unfold hsA
    rw [if_neg hn, q.1, q.2.2.2]
theorem hsV_f {tl t : Nat} {bf : Nat → Int32} {f a x : Int32} (h : CI (prB tl bf).1 0 t f a) : f = hsV (prB tl bf) x := by
  have hn := ci_ne h
  rcases h with q | q
  · exact absurd q.2 (by decide)
  · unfold hsV
    rw [if_neg hn, q.1]
theorem rm_bad1 {tl : Nat} {bf : Nat → Int32} {k i p : Nat} (hp : i = 0 ∨ pq tl bf p = 109) (hi : ¬ i = 5) (h : ¬ (sRoom tl bf (0, p)).1 = 0) : (sRm tl bf (k + 1) i (0, p)).1 = sRoom tl bf (0, p) := by
  rw [rm_bad hp hi h]
theorem tb_bad1 {tl : Nat} {bf : Nat → Int32} {R k t p : Nat} {K : Nat → Int32} (hk : ¬ kq (pq tl bf p) = 0) (ht : ¬ t = 6) (h : ¬ (sTube tl bf R (0, p + 1)).1 = 0) : (sTb tl bf R (k + 1) t K (0, p)).1 = sTube tl bf R (0, p + 1) := by
  rw [tb_bad hk ht h]

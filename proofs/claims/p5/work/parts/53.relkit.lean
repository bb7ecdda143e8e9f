/-! Rows and the tape, class and reference side by side. -/
def fdA (a : Int32) (t : Nat) : Int32 := if wI a 0 255 = 0 then (-1000001) else if t = 120 then (-1000003) else nI (t + 1)
def fdT (a : Int32) (t : Nat) : Nat := if wI a 0 255 = 0 then t else if t = 120 then t else t + 1
def fdB (a : Int32) (t : Nat) (f : Nat → Int32) : Nat → Int32 := if wI a 0 255 = 0 then f else if t = 120 then f else upd f t a
theorem fd_0 {a : Int32} {t : Nat} {f : Nat → Int32} (h : wI a 0 255 = 0) : fdA a t = (-1000001) ∧ fdT a t = t ∧ fdB a t f = f := ⟨if_pos h, if_pos h, if_pos h⟩
theorem fd_1 {a : Int32} {t : Nat} {f : Nat → Int32} (h : ¬ wI a 0 255 = 0) (h2 : t = 120) : fdA a t = (-1000003) ∧ fdT a t = t ∧ fdB a t f = f := by
  refine ⟨?_, ?_, ?_⟩
  · unfold fdA; rw [if_neg h, if_pos h2]
  · unfold fdT; rw [if_neg h, if_pos h2]
  · unfold fdB; rw [if_neg h, if_pos h2]
theorem fd_2 {a : Int32} {t : Nat} {f : Nat → Int32} (h : ¬ wI a 0 255 = 0) (h2 : ¬ t = 120) : fdA a t = nI (t + 1) ∧ fdT a t = t + 1 ∧ fdB a t f = upd f t a := by
  refine ⟨?_, ?_, ?_⟩
  · unfold fdA; rw [if_neg h, if_neg h2]
  · unfold fdT; rw [if_neg h, if_neg h2]
  · unfold fdB; rw [if_neg h, if_neg h2]
def mB (x : Int32) : Int32 := if x = -1 then 1 else 0
theorem mB_1 {x : Int32} (h : x = -1) : mB x = 1 := if_pos h
theorem mB_0 {x : Int32} (h : ¬ x = -1) : mB x = 0 := if_neg h
theorem mB_e {x : Int32} (h : mB x = 0) : ¬ x = -1 := fun e => by rw [mB_1 e] at h; exact absurd h (by decide)
theorem mB_n {x : Int32} (h : ¬ mB x = 0) : x = -1 := by
  by_cases e : x = -1
  · exact e
  · exact absurd (mB_0 e) h
/-- what is found of n items from i on of a row of lane l with s items -/
def rs (l s i n : Int32) : Int32 := if l = -1 then 1 else if 0 ≤ i.toInt ∧ 0 ≤ n.toInt ∧ i.toInt + n.toInt ≤ s.toInt then 0 else 2
theorem rs_m (l s i n : Int32) : ¬ rs l s i n = -1 := by
  unfold rs
  split
  · decide
  · split
    · decide
    · decide
theorem rs_1 {l s i n : Int32} (h : l = -1) : rs l s i n = 1 := if_pos h
theorem rs_2 {l s i n : Int32} (h : ¬ l = -1) (h2 : ¬ (0 ≤ i.toInt ∧ 0 ≤ n.toInt ∧ i.toInt + n.toInt ≤ s.toInt)) : rs l s i n = 2 := by unfold rs; rw [if_neg h, if_neg h2]
theorem rs_0 {l s i n : Int32} (h : ¬ l = -1) (h2 : 0 ≤ i.toInt ∧ 0 ≤ n.toInt ∧ i.toInt + n.toInt ≤ s.toInt) : rs l s i n = 0 := by unfold rs; rw [if_neg h, if_pos h2]
theorem i_lt0 {x : Int32} (h : x < 0) : x.toInt < 0 := by
  rw [Int32.lt_iff_toInt_lt] at h
  exact h
theorem rs_i {l s i n : Int32} (h : ¬ l = -1) (c : i < 0) : rs l s i n = 2 := rs_2 h (fun p => by have := i_lt0 c; omega)
theorem rs_k {l s i n : Int32} (h : ¬ l = -1) (c : n < 0) : rs l s i n = 2 := rs_2 h (fun p => by have := i_lt0 c; omega)
theorem rs_s {l s i n : Int32} {q : Nat} (h : ¬ l = -1) (e : s = nI q) (hq : q ≤ 40) (c : nI q < n) : rs l s i n = 2 := rs_2 h (fun p => by
  rw [e, nI_toInt (by omega)] at p
  rw [Int32.lt_iff_toInt_lt, nI_toInt (by omega)] at c
  omega)
theorem rs_N {l s : Int32} {a b q : Nat} (h : ¬ l = -1) (e : s = nI q) (hq : q ≤ 40) (ha : a < 2 ^ 31) (hb : b < 2 ^ 31) : rs l s (nI a) (nI b) = if a + b ≤ q then 0 else 2 := by
  by_cases c : a + b ≤ q
  · rw [if_pos c]
    exact rs_0 h (by rw [e, nI_toInt ha, nI_toInt hb, nI_toInt (by omega)]; omega)
  · rw [if_neg c]
    exact rs_2 h (by rw [e, nI_toInt ha, nI_toInt hb, nI_toInt (by omega)]; omega)
theorem rs_ok {l s i : Int32} {b q : Nat} (h : ¬ l = -1) (e : s = nI q) (hq : q ≤ 40) (hb : b ≤ q) (c0 : ¬ i < 0) (c : i ≤ nI (q - b)) : rs l s i (nI b) = 0 := by
  obtain ⟨a, ha, rfl⟩ := nI_of c0
  have c2 := (nI_leI ha (by omega)).mp c
  rw [rs_N h e hq ha (by omega), if_pos (by omega)]
theorem rs_h {l s i : Int32} {b q : Nat} (h : ¬ l = -1) (e : s = nI q) (hq : q ≤ 40) (hb : b ≤ q) (c0 : ¬ i < 0) (c : ¬ i ≤ nI (q - b)) : rs l s i (nI b) = 2 := by
  obtain ⟨a, ha, rfl⟩ := nI_of c0
  have c2 : ¬ a ≤ q - b := fun h2 => c ((nI_leI ha (by omega)).mpr h2)
  rw [rs_N h e hq ha (by omega), if_neg (by omega)]
theorem rs_nat {l i n : Int32} {sf : Nat → Int32} {j : Nat} (hs : hw 40 8 sf) (hj : j < 8) (c : rs l (sf j) i n = 0) : ∃ a b : Nat, i = nI a ∧ n = nI b ∧ a + b ≤ 40 := by
  obtain ⟨q, hq, e⟩ := hs j hj
  unfold rs at c
  split at c
  · exact absurd c (by decide)
  · split at c
    · rename_i p
      rw [e, nI_toInt (by omega)] at p
      refine ⟨i.toInt.toNat, n.toInt.toNat, ?_, ?_, by omega⟩
      · apply Int32.toInt_inj.mp
        rw [nI_toInt (by omega)]
        omega
      · apply Int32.toInt_inj.mp
        rw [nI_toInt (by omega)]
        omega
    · exact absurd c (by decide)
theorem rs_nat1 {l i : Int32} {sf : Nat → Int32} {j : Nat} (hs : hw 40 8 sf) (hj : j < 8) (c : rs l (sf j) i 1 = 0) : ∃ a : Nat, i = nI a ∧ a < 40 := by
  obtain ⟨a, b, h1, h2, h3⟩ := rs_nat hs hj c
  have e : nI 1 = nI b := h2
  by_cases hb : b = 0
  · subst hb
    exact absurd e (by decide)
  · exact ⟨a, h1, by omega⟩
theorem rs_natb {l i : Int32} {sf : Nat → Int32} {j b : Nat} (hs : hw 40 8 sf) (hj : j < 8) (hb : b ≤ 40) (c : rs l (sf j) i (nI b) = 0) : ∃ a : Nat, i = nI a ∧ a + b ≤ 40 := by
  obtain ⟨a, b2, h1, h2, h3⟩ := rs_nat hs hj c
  have e := (nI_eq (by omega) (by omega)).mp h2
  exact ⟨a, h1, by omega⟩
theorem ng_lt {x : Int32} (h : ¬ 0 ≤ x) : x < 0 := by
  rw [Int32.le_iff_toInt_le] at h
  rw [Int32.lt_iff_toInt_lt]
  omega
theorem nl_m1 {l : Int32} (h : ¬ l < 0) : ¬ l = -1 := fun e => h (by rw [e]; decide)
theorem rs_w {l s i : Int32} {q : Nat} (h : ¬ l = -1) (e : s = nI q) (hq : q ≤ 40) (c : wI i 0 (nI q - 1) = 0) : rs l s i 1 = 2 := rs_2 h (fun p => by
  have p1 : (1 : Int32).toInt = 1 := rfl
  have p0 : (0 : Int32).toInt = 0 := rfl
  rw [e, nI_toInt (by omega), p1] at p
  have e1 : (nI q - nI 1).toInt = (q : Int) - (1 : Nat) := pk_sub_toInt (by omega) (by decide)
  have e2 : (nI q - 1).toInt = (q : Int) - 1 := e1
  have h1 : ¬ i < 0 := by rw [Int32.lt_iff_toInt_lt, p0]; omega
  have h2 : ¬ nI q - 1 < i := by rw [Int32.lt_iff_toInt_lt, e2]; omega
  unfold wI at c
  rw [if_neg h1, if_neg h2] at c
  exact absurd c (by decide))
theorem rs_w0 {l s : Int32} {j q : Nat} (h : ¬ l = -1) (e : s = nI q) (hq : q ≤ 40) (hj : j < q) : rs l s (nI j) 1 = 0 := by
  have h1 := rs_N (b := 1) h e hq (by omega : j < 2 ^ 31) (by decide)
  rw [if_pos (by omega)] at h1
  exact h1
def lq (f : Nat → Int32) : Prop := ∀ r, r < 8 → f r = -1 ∨ 0 ≤ (f r).toInt
theorem lq_neg {f : Nat → Int32} {r : Nat} (h : lq f) (hr : r < 8) (c : f r < 0) : f r = -1 := (h r hr).elim (fun e => e) (fun e => by have := i_lt0 c; omega)
/-- an answer, and what status() tells, by what was found: -1 is BAD -/
def fA (F v : Int32) : Int32 := if F = -1 then (-1000001) else if F = 0 then v else (-1000010) - F
def fQ (F x : Int32) : Int32 := if F = -1 then x else F
theorem fA_b {F : Int32} (e : F = -1) (v : Int32) : fA F v = (-1000001) := if_pos e
theorem fQ_b {F : Int32} (e : F = -1) (x : Int32) : fQ F x = x := if_pos e
theorem fA_0 {F : Int32} (e : F = 0) (v : Int32) : fA F v = v := by subst e; unfold fA; rw [if_neg (by decide), if_pos rfl]
theorem fQ_k {F k : Int32} (e : F = k) (h : ¬ k = -1) (x : Int32) : fQ F x = k := by subst e; exact if_neg h
theorem fA_f {F k : Int32} (e : F = k) (h : ¬ k = -1) (h0 : ¬ k = 0) (v : Int32) : fA F v = (-1000010) - k := by subst e; unfold fA; rw [if_neg h, if_neg h0]
theorem fA_1 {F : Int32} (e : F = 1) (v : Int32) : fA F v = (-1000011) := (fA_f e (by decide) (by decide) v).trans (by decide)
theorem fA_2 {F : Int32} (e : F = 2) (v : Int32) : fA F v = (-1000012) := (fA_f e (by decide) (by decide) v).trans (by decide)
theorem fA_4 {F : Int32} (e : F = 4) (v : Int32) : fA F v = (-1000014) := (fA_f e (by decide) (by decide) v).trans (by decide)
theorem fA_5 {F : Int32} (e : F = 5) (v : Int32) : fA F v = (-1000015) := (fA_f e (by decide) (by decide) v).trans (by decide)
def nrw (l v : Int32) : Int32 := if l = 0 then v.toInt8.toInt32 else if l = 1 then v.toInt16.toInt32 else v
theorem nrw_b {l v : Int32} (h : l = 0) : v.toInt8.toInt32 = nrw l v := (if_pos h).symm
theorem nrw_s {l v : Int32} (h : ¬ l = 0) (h1 : l = 1) : v.toInt16.toInt32 = nrw l v := by unfold nrw; rw [if_neg h, if_pos h1]
theorem nrw_i {l v : Int32} (h : ¬ l = 0) (h1 : ¬ l = 1) : v = nrw l v := by unfold nrw; rw [if_neg h, if_neg h1]
theorem wI_lt8 {a : Int32} (c : ¬ wI a 0 7 = 0) : a.toNatClampNeg < 8 := by
  obtain ⟨j, h1, h2, e⟩ := wI_nat (a := 0) (b := 7) (by decide) (by decide) c
  rw [e, nI_clamp (by omega)]
  omega
def rowF (a b c : Int32) : Int32 := if wI a 0 7 = 0 then -1 else if wI b 0 2 = 0 then -1 else if c ≤ 40 then (if 0 ≤ c then 0 else 4) else -1
theorem rowF_a {a b c : Int32} (h : wI a 0 7 = 0) : rowF a b c = -1 := if_pos h
theorem rowF_b {a b c : Int32} (h : ¬ wI a 0 7 = 0) (h2 : wI b 0 2 = 0) : rowF a b c = -1 := by unfold rowF; rw [if_neg h, if_pos h2]
theorem rowF_c {a b c : Int32} (h : ¬ wI a 0 7 = 0) (h2 : ¬ wI b 0 2 = 0) (h3 : ¬ c ≤ 40) : rowF a b c = -1 := by unfold rowF; rw [if_neg h, if_neg h2, if_neg h3]
theorem rowF_s {a b c : Int32} (h : ¬ wI a 0 7 = 0) (h2 : ¬ wI b 0 2 = 0) (h3 : c ≤ 40) (h4 : ¬ 0 ≤ c) : rowF a b c = 4 := by unfold rowF; rw [if_neg h, if_neg h2, if_pos h3, if_neg h4]
theorem rowF_0 {a b c : Int32} (h : ¬ wI a 0 7 = 0) (h2 : ¬ wI b 0 2 = 0) (h3 : c ≤ 40) (h4 : 0 ≤ c) : rowF a b c = 0 := by unfold rowF; rw [if_neg h, if_neg h2, if_pos h3, if_pos h4]
theorem rowF_ge {a b c : Int32} (e : rowF a b c = 0) : 0 ≤ b.toInt := by
  unfold rowF at e
  split at e
  · exact absurd e (by decide)
  · split at e
    · exact absurd e (by decide)
    · rename_i h2
      obtain ⟨h3, _⟩ := wI_ne h2
      have p0 : (0 : Int32).toInt = 0 := rfl
      rw [Int32.lt_iff_toInt_lt, p0] at h3
      omega
def rowL (f : Nat → Int32) (a b c : Int32) : Nat → Int32 := if rowF a b c = 0 then upd f a.toNatClampNeg b else f
def rowS (f : Nat → Int32) (a b c : Int32) : Nat → Int32 := if rowF a b c = 0 then upd f a.toNatClampNeg c else f
theorem rowL_n {f : Nat → Int32} {a b c k : Int32} (e : rowF a b c = k) (h : ¬ k = 0) : f = rowL f a b c := by subst e; exact (if_neg h).symm
theorem rowS_n {f : Nat → Int32} {a b c k : Int32} (e : rowF a b c = k) (h : ¬ k = 0) : f = rowS f a b c := by subst e; exact (if_neg h).symm
theorem rowL_0 {f : Nat → Int32} {j : Nat} {b c : Int32} (e : rowF (nI j) b c = 0) (hj : j ≤ 7) : upd f j b = rowL f (nI j) b c := by unfold rowL; rw [if_pos e, nI_clamp (by omega)]
theorem rowS_0 {f : Nat → Int32} {j : Nat} {b c : Int32} (e : rowF (nI j) b c = 0) (hj : j ≤ 7) : upd f j c = rowS f (nI j) b c := by unfold rowS; rw [if_pos e, nI_clamp (by omega)]
def setF (lf sf : Nat → Int32) (a i : Int32) : Int32 := if wI a 0 7 = 0 then -1 else rs (lf a.toNatClampNeg) (sf a.toNatClampNeg) i 1
theorem setF_b {lf sf : Nat → Int32} {a i : Int32} (c : wI a 0 7 = 0) : setF lf sf a i = -1 := if_pos c
theorem setF_on {lf sf : Nat → Int32} {j : Nat} {i : Int32} (c : ¬ wI (nI j) 0 7 = 0) (hj : j ≤ 7) : setF lf sf (nI j) i = rs (lf j) (sf j) i 1 := by unfold setF; rw [if_neg c, nI_clamp (by omega)]
theorem set_v {lf : Nat → Int32} {j : Nat} {F v : Int32} (hj : j ≤ 7) (e : F = 0) : nrw (lf j) v = fA F (nrw (lf (nI j).toNatClampNeg) v) := by rw [fA_0 e, nI_clamp (by omega)]
/-- copy, by the two rows' lanes and sizes -/
def cpF (lx sx ly sy i j n : Int32) : Int32 := if lx = -1 then 1 else if ly = -1 then 1 else if lx = ly then (if rs lx sx i n = 0 then (if rs ly sy j n = 0 then 0 else 2) else 2) else 5
theorem cpF_x {lx sx ly sy i j n : Int32} (h : lx = -1) : cpF lx sx ly sy i j n = 1 := if_pos h
theorem cpF_y {lx sx ly sy i j n : Int32} (h : ¬ lx = -1) (h2 : ly = -1) : cpF lx sx ly sy i j n = 1 := by unfold cpF; rw [if_neg h, if_pos h2]
theorem cpF_5 {lx sx ly sy i j n : Int32} (h : ¬ lx = -1) (h2 : ¬ ly = -1) (h3 : ¬ lx = ly) : cpF lx sx ly sy i j n = 5 := by unfold cpF; rw [if_neg h, if_neg h2, if_neg h3]
theorem cpF_i {lx sx ly sy i j n : Int32} (h : ¬ lx = -1) (h2 : ¬ ly = -1) (h3 : lx = ly) (h4 : ¬ rs lx sx i n = 0) : cpF lx sx ly sy i j n = 2 := by unfold cpF; rw [if_neg h, if_neg h2, if_pos h3, if_neg h4]
theorem cpF_j {lx sx ly sy i j n : Int32} (h : ¬ lx = -1) (h2 : ¬ ly = -1) (h3 : lx = ly) (h4 : ¬ rs ly sy j n = 0) : cpF lx sx ly sy i j n = 2 := by
  by_cases e : rs lx sx i n = 0
  · unfold cpF; rw [if_neg h, if_neg h2, if_pos h3, if_pos e, if_neg h4]
  · exact cpF_i h h2 h3 e
theorem cpF_0 {lx sx ly sy i j n : Int32} (h : ¬ lx = -1) (h2 : ¬ ly = -1) (h3 : lx = ly) (h4 : rs lx sx i n = 0) (h5 : rs ly sy j n = 0) : cpF lx sx ly sy i j n = 0 := by unfold cpF; rw [if_neg h, if_neg h2, if_pos h3, if_pos h4, if_pos h5]
theorem rs_e2 {x : Int32} (h : x = 2) : ¬ x = 0 := by subst h; decide
theorem rs_g {l s : Int32} {a b q : Nat} (h : ¬ l = -1) (e : s = nI q) (hq : q ≤ 40) (ha : a < 2 ^ 31) (hb : b < 2 ^ 31) (c : 0 < lg_cmp (lN (a + b)) (lN q)) : rs l s (nI a) (nI b) = 2 := by
  have h1 := (lg_cmp_gt _ _).mp c
  rw [Int64.lt_iff_toInt_lt] at h1
  have ea : (lN (a + b)).toInt = ((a + b : Nat) : Int) := lg_ofNat_toInt (by omega)
  have eb : (lN q).toInt = (q : Int) := lg_ofNat_toInt (by omega)
  rw [rs_N h e hq ha hb, if_neg (by omega)]
theorem rs_l {l s : Int32} {a b q : Nat} (h : ¬ l = -1) (e : s = nI q) (hq : q ≤ 40) (ha : a < 2 ^ 31) (hb : b < 2 ^ 31) (c : a + b ≤ q) : rs l s (nI a) (nI b) = 0 := by
  rw [rs_N h e hq ha hb, if_pos c]
def copyF (lf sf : Nat → Int32) (a i b j n : Int32) : Int32 := if wI a 0 7 = 0 then -1 else if wI b 0 7 = 0 then -1 else cpF (lf a.toNatClampNeg) (sf a.toNatClampNeg) (lf b.toNatClampNeg) (sf b.toNatClampNeg) i j n
theorem copyF_a {lf sf : Nat → Int32} {a i b j n : Int32} (c : wI a 0 7 = 0) : copyF lf sf a i b j n = -1 := if_pos c
theorem copyF_b {lf sf : Nat → Int32} {a i b j n : Int32} (c : ¬ wI a 0 7 = 0) (c2 : wI b 0 7 = 0) : copyF lf sf a i b j n = -1 := by unfold copyF; rw [if_neg c, if_pos c2]
theorem copyF_on {lf sf : Nat → Int32} {x y : Nat} {i j n k : Int32} (c : ¬ wI (nI x) 0 7 = 0) (hx : x ≤ 7) (c2 : ¬ wI (nI y) 0 7 = 0) (hy : y ≤ 7) (e : cpF (lf x) (sf x) (lf y) (sf y) i j n = k) : copyF lf sf (nI x) i (nI y) j n = k := by
  unfold copyF; rw [if_neg c, if_neg c2, nI_clamp (by omega), nI_clamp (by omega)]; exact e
def dropF (lf : Nat → Int32) (a : Int32) : Int32 := if wI a 0 7 = 0 then -1 else if lf a.toNatClampNeg = -1 then 1 else 0
theorem dropF_b {lf : Nat → Int32} {a : Int32} (c : wI a 0 7 = 0) : dropF lf a = -1 := if_pos c
theorem dropF_1 {lf : Nat → Int32} {j : Nat} (c : ¬ wI (nI j) 0 7 = 0) (hj : j ≤ 7) (h : lf j = -1) : dropF lf (nI j) = 1 := by unfold dropF; rw [if_neg c, nI_clamp (by omega), if_pos h]
theorem dropF_0 {lf : Nat → Int32} {j : Nat} (c : ¬ wI (nI j) 0 7 = 0) (hj : j ≤ 7) (h : ¬ lf j = -1) : dropF lf (nI j) = 0 := by unfold dropF; rw [if_neg c, nI_clamp (by omega), if_neg h]
theorem drop_v {sf : Nat → Int32} {j q : Nat} {F : Int32} (hj : j ≤ 7) (e : F = 0) (h : sf j = nI q) : nI q = fA F (sf (nI j).toNatClampNeg) := by rw [fA_0 e, nI_clamp (by omega)]; exact h.symm
def drL (lf : Nat → Int32) (a : Int32) : Nat → Int32 := if dropF lf a = 0 then upd lf a.toNatClampNeg (-1) else lf
def drS (sf lf : Nat → Int32) (a : Int32) : Nat → Int32 := if dropF lf a = 0 then upd sf a.toNatClampNeg 0 else sf
theorem drL_n {lf : Nat → Int32} {a k : Int32} (e : dropF lf a = k) (h : ¬ k = 0) : lf = drL lf a := by subst e; exact (if_neg h).symm
theorem drS_n {sf lf : Nat → Int32} {a k : Int32} (e : dropF lf a = k) (h : ¬ k = 0) : sf = drS sf lf a := by subst e; exact (if_neg h).symm
theorem drL_0 {lf : Nat → Int32} {j : Nat} (e : dropF lf (nI j) = 0) (hj : j ≤ 7) : upd lf j (-1) = drL lf (nI j) := by unfold drL; rw [if_pos e, nI_clamp (by omega)]
theorem drS_0 {sf lf : Nat → Int32} {j : Nat} (e : dropF lf (nI j) = 0) (hj : j ≤ 7) : upd sf j 0 = drS sf lf (nI j) := by unfold drS; rw [if_pos e, nI_clamp (by omega)]
theorem hw_updz {R T : Nat} {P : Nat → Int32} (h : hw R T P) (k : Nat) : hw R T (upd P k 0) := hw_upd (v := 0) h (Nat.zero_le _) k
/-- lanes alike, sizes alike where a row is there -/
def RR (lf sf ml ms : Nat → Int32) : Prop := ∀ r, r < 8 → lf r = ml r ∧ (ml r = -1 ∨ (0 ≤ (ml r).toInt ∧ sf r = ms r))
theorem rr_0 {lf sf ml ms : Nat → Int32} (h1 : ∀ j, j < 8 → lf j = -1) (h2 : ∀ j, j < 8 → ml j = -1) : RR lf sf ml ms := fun r hr => ⟨(h1 r hr).trans (h2 r hr).symm, Or.inl (h2 r hr)⟩
theorem rr_lq {lf sf ml ms : Nat → Int32} (h : RR lf sf ml ms) : lq ml := fun r hr => (h r hr).2.elim Or.inl (fun q => Or.inr q.1)
theorem rr_dropF {lf sf ml ms : Nat → Int32} (h : RR lf sf ml ms) (a : Int32) : dropF ml a = dropF lf a := by
  unfold dropF
  by_cases c : wI a 0 7 = 0
  · rw [if_pos c, if_pos c]
  · rw [if_neg c, if_neg c, (h _ (wI_lt8 c)).1]
theorem rr_drop {lf sf ml ms : Nat → Int32} (h : RR lf sf ml ms) (a : Int32) : fA (dropF ml a) (ms a.toNatClampNeg) = fA (dropF lf a) (sf a.toNatClampNeg) := by
  rw [rr_dropF h]
  by_cases c : wI a 0 7 = 0
  · rw [fA_b (dropF_b c), fA_b (dropF_b c)]
  · obtain ⟨e1, e2⟩ := h _ (wI_lt8 c)
    rcases e2 with e | ⟨_, e⟩
    · have e3 : dropF lf a = 1 := by unfold dropF; rw [if_neg c, if_pos (e1.trans e)]
      rw [fA_1 e3, fA_1 e3]
    · rw [e]
theorem rr_rowX {lf sf ml ms : Nat → Int32} (h : RR lf sf ml ms) (a b c : Int32) : RR (rowL lf a b c) (rowS sf a b c) (rowL ml a b c) (rowS ms a b c) := by
  unfold rowL rowS
  by_cases e : rowF a b c = 0
  · simp only [if_pos e]
    intro r hr
    by_cases q : r = a.toNatClampNeg
    · subst q
      rw [pk_us, pk_us, pk_us, pk_us]
      exact ⟨rfl, Or.inr ⟨rowF_ge e, rfl⟩⟩
    · rw [pk_un q, pk_un q, pk_un q, pk_un q]
      exact h r hr
  · simp only [if_neg e]
    exact h
theorem rr_dropX {lf sf ml ms : Nat → Int32} (h : RR lf sf ml ms) (a : Int32) : RR (drL lf a) (drS sf lf a) (drL ml a) ms := by
  have e2 := rr_dropF h a
  unfold drL drS
  by_cases e : dropF lf a = 0
  · simp only [if_pos e, if_pos (e2.trans e)]
    intro r hr
    by_cases q : r = a.toNatClampNeg
    · subst q
      rw [pk_us, pk_us]
      exact ⟨rfl, Or.inl rfl⟩
    · rw [pk_un q, pk_un q, pk_un q]
      exact h r hr
  · have e3 : ¬ dropF ml a = 0 := by rw [e2]; exact e
    simp only [if_neg e, if_neg e3]
    exact h

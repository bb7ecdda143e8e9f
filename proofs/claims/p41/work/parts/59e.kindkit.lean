/-! Rows of the reference whose kinds and places are known. -/
def rq (K P : Nat → Int32) (R T : Nat) (f : Nat → Int32) : Prop := f 0 = nI R ∧ f 1 = nI T ∧ (∀ t, t < 6 → ∃ q, q ≤ R ∧ P t = nI q) ∧ (∀ t, t < 6 → f (16 + 5 * t) = P t) ∧ ∀ t, t < 6 → f (15 + 5 * t) = K t
theorem rq_rk {K P : Nat → Int32} {R T : Nat} {f : Nat → Int32} (h : rq K P R T f) : rk R T f := ⟨h.1, h.2.1, fun t ht => by
  obtain ⟨q, h1, h2⟩ := h.2.2.1 t ht
  exact ⟨q, h1, (h.2.2.2.1 t ht).trans h2⟩⟩
theorem rq_of {R T : Nat} {f : Nat → Int32} (h : rk R T f) : rq (fun t => f (15 + 5 * t)) (fun t => f (16 + 5 * t)) R T f := ⟨h.1, h.2.1, fun t ht => h.2.2 t ht, fun _ _ => rfl, fun _ _ => rfl⟩
theorem rq_upd {K P : Nat → Int32} {R T k : Nat} {f : Nat → Int32} {i : Int32} (h : rq K P R T f) (hi : i.toNatClampNeg = k) (hk : 2 ≤ k ∧ (k < 15 ∨ ((k - 15) % 5 ≠ 0 ∧ (k - 15) % 5 ≠ 1))) (x : Int32) : rq K P R T (upd f i.toNatClampNeg x) := by
  rw [hi]
  refine ⟨by rw [pk_un (by omega)]; exact h.1, by rw [pk_un (by omega)]; exact h.2.1, h.2.2.1, fun t ht => ?_, fun t ht => ?_⟩
  · rw [pk_un (by omega)]; exact h.2.2.2.1 t ht
  · rw [pk_un (by omega)]; exact h.2.2.2.2 t ht
theorem rq_updP {K P : Nat → Int32} {R T k v j : Nat} {f : Nat → Int32} {i : Int32} (h : rq K P R T f) (hi : i.toNatClampNeg = k) (hk : k = 16 + 5 * j) (hj : j < 6) (hv : v ≤ R) : rq K (upd P j (nI v)) R T (upd f i.toNatClampNeg (nI v)) := by
  rw [hi]
  subst hk
  refine ⟨by rw [pk_un (by omega)]; exact h.1, by rw [pk_un (by omega)]; exact h.2.1, fun t ht => ?_, fun t ht => ?_, fun t ht => ?_⟩
  · by_cases e : t = j
    · subst e; exact ⟨v, hv, pk_us⟩
    · rw [pk_un e]; exact h.2.2.1 t ht
  · by_cases e : t = j
    · subst e; rw [pk_us, pk_us]
    · rw [pk_un (by omega), pk_un e]; exact h.2.2.2.1 t ht
  · rw [pk_un (by omega)]; exact h.2.2.2.2 t ht
theorem rq_cp {K P : Nat → Int32} {R T n a b : Nat} {g f : Nat → Int32} (h : rq K P R T (fun k => f (b + k))) (hc : cpd n a b g f) (hn : 45 ≤ n) : rq K P R T (fun k => g (a + k)) := by
  refine ⟨(hc 0 (by omega)).trans h.1, (hc 1 (by omega)).trans h.2.1, h.2.2.1, fun t ht => (hc _ (by omega)).trans (h.2.2.2.1 t ht), fun t ht => (hc _ (by omega)).trans (h.2.2.2.2 t ht)⟩
theorem rq_z {K P : Nat → Int32} {R T : Nat} {f : Nat → Int32} (h : rq K P R T f) : rq K P R T (fun k => f (0 + k)) := by
  have e : (fun k => f (0 + k)) = f := funext fun k => by rw [Nat.zero_add]
  rw [e]; exact h
theorem rq_z' {K P : Nat → Int32} {R T : Nat} {f : Nat → Int32} (h : rq K P R T (fun k => f (0 + k))) : rq K P R T f := by
  have e : (fun k => f (0 + k)) = f := funext fun k => by rw [Nat.zero_add]
  rw [e] at h; exact h
/-- the rows kept of acts: of the same kinds -/
def wq (K : Nat → Int32) (R T n : Nat) (f : Nat → Int32) : Prop := ∀ a, a < n → ∃ P, rq K P R T (fun k => f (45 * a + k))
theorem wq_0 {K : Nat → Int32} {R T : Nat} {f : Nat → Int32} : wq K R T 0 f := fun a h => absurd h (Nat.not_lt_zero a)
theorem wq_wk {K : Nat → Int32} {R T n : Nat} {f : Nat → Int32} (h : wq K R T n f) : wk R T n f := fun a ha => by
  obtain ⟨P, hP⟩ := h a ha
  exact rq_rk hP
theorem wq_le {K : Nat → Int32} {R T n m : Nat} {f : Nat → Int32} (h : wq K R T n f) (hm : m ≤ n) : wq K R T m f := fun a ha => h a (by omega)
theorem wq_sh {K : Nat → Int32} {R T n i : Nat} {g f : Nat → Int32} (h : wq K R T n f) (hs : shd i g f) (hi : i = 1035) (hn : n = 24) : wq K R T (n - 1) g := by
  intro a ha
  obtain ⟨P, hP⟩ := h (a + 1) (by omega)
  refine ⟨P, rq_cp (n := 45) (a := 45 * a) (b := 45 * (a + 1)) (f := f) hP (fun k hk => ?_) (by omega)⟩
  rw [hs.1 _ (by omega), show 45 * a + k + 45 = 45 * (a + 1) + k by omega]
theorem wq_put {K P : Nat → Int32} {R T n i : Nat} {g g0 f : Nat → Int32} (h : wq K R T n g0) (hf : rq K P R T f) (hc : cpd i (45 * n) 0 g f) (hi : i = 45) (ho : ∀ k, k < 45 * n → g k = g0 k) : wq K R T (n + 1) g := by
  intro a ha
  by_cases e : a = n
  · subst e; exact ⟨P, rq_cp (rq_z hf) hc (by omega)⟩
  · obtain ⟨P2, hP⟩ := h a (by omega)
    refine ⟨P2, rq_cp (n := 45) (a := 45 * a) (b := 45 * a) (f := g0) hP (fun k hk => ?_) (by omega)⟩
    exact ho _ (by omega)
theorem wq_K {K K2 : Nat → Int32} {R T n : Nat} {f : Nat → Int32} (h : wq K R T n f) (e : ∀ t, t < 6 → K2 t = K t) : wq K2 R T n f := fun a ha => by
  obtain ⟨P, hP⟩ := h a ha
  exact ⟨P, hP.1, hP.2.1, hP.2.2.1, hP.2.2.2.1, fun t ht => (hP.2.2.2.2 t ht).trans (e t ht).symm⟩
/-- kinds of the class and of the reference: alike, and kinds -/
def kV (n : Nat) (f : Nat → Int32) : Prop := ∀ t, t < n → ∃ k, 1 ≤ k ∧ k ≤ 5 ∧ f t = nI k
theorem kV_0 {f : Nat → Int32} : kV 0 f := fun t h => absurd h (Nat.not_lt_zero t)
theorem kq_v {x : Int32} (h : ¬ kq x = 0) : ∃ k : Nat, 1 ≤ k ∧ k ≤ 5 ∧ kq x = nI k := by
  unfold kq at h ⊢
  by_cases h1 : x = 112
  · rw [if_pos h1]; exact ⟨1, by omega, by omega, rfl⟩
  · rw [if_neg h1] at h ⊢
    by_cases h2 : x = 103
    · rw [if_pos h2]; exact ⟨2, by omega, by omega, rfl⟩
    · rw [if_neg h2] at h ⊢
      by_cases h3 : x = 115
      · rw [if_pos h3]; exact ⟨3, by omega, by omega, rfl⟩
      · rw [if_neg h3] at h ⊢
        by_cases h4 : x = 119
        · rw [if_pos h4]; exact ⟨4, by omega, by omega, rfl⟩
        · rw [if_neg h4] at h ⊢
          by_cases h5 : x = 108
          · rw [if_pos h5]; exact ⟨5, by omega, by omega, rfl⟩
          · rw [if_neg h5] at h
            exact absurd rfl h
/-- every kind that the text tells is one -/
theorem tb_kV {tl R : Nat} {bf : Nat → Int32} : ∀ (k t : Nat) (K : Nat → Int32) (s : Int32 × Nat), kV t K → kV (sTb tl bf R k t K s).2.1 (sTb tl bf R k t K s).2.2 := by
  intro k
  induction k with
  | zero => intro t K s h; exact h
  | succ k ih =>
    intro t K s h
    show kV (if s.1 = 0 ∧ ¬ kq (pq tl bf s.2) = 0 then (if t = 6 then ((3, s.2), t, K) else (if (sTube tl bf R (0, s.2 + 1)).1 = 0 then sTb tl bf R k (t + 1) (upd K t (kq (pq tl bf s.2))) (sTube tl bf R (0, s.2 + 1)) else (sTube tl bf R (0, s.2 + 1), t, K))) else (if s.1 = 0 ∧ (s.2 < tl ∨ t = 0) then ((1, s.2), t, K) else (s, t, K)) : (Int32 × Nat) × (Nat × (Nat → Int32))).2.1 (if s.1 = 0 ∧ ¬ kq (pq tl bf s.2) = 0 then (if t = 6 then ((3, s.2), t, K) else (if (sTube tl bf R (0, s.2 + 1)).1 = 0 then sTb tl bf R k (t + 1) (upd K t (kq (pq tl bf s.2))) (sTube tl bf R (0, s.2 + 1)) else (sTube tl bf R (0, s.2 + 1), t, K))) else (if s.1 = 0 ∧ (s.2 < tl ∨ t = 0) then ((1, s.2), t, K) else (s, t, K)) : (Int32 × Nat) × (Nat × (Nat → Int32))).2.2
    by_cases c : s.1 = 0 ∧ ¬ kq (pq tl bf s.2) = 0
    · rw [if_pos c]
      by_cases c6 : t = 6
      · rw [if_pos c6]; exact h
      · rw [if_neg c6]
        by_cases c0 : (sTube tl bf R (0, s.2 + 1)).1 = 0
        · rw [if_pos c0]
          refine ih _ _ _ (fun u hu => ?_)
          by_cases e : u = t
          · subst e; rw [pk_us]; exact kq_v c.2
          · rw [pk_un e]; exact h u (by omega)
        · rw [if_neg c0]; exact h
    · rw [if_neg c]
      by_cases c1 : s.1 = 0 ∧ (s.2 < tl ∨ t = 0)
      · rw [if_pos c1]; exact h
      · rw [if_neg c1]; exact h
theorem pr_kV {tl : Nat} {bf : Nat → Int32} : kV (prB tl bf).2.1 (prB tl bf).2.2 := by
  have h := tb_kV (tl := tl) (bf := bf) (R := (prA tl bf).2) 7 0 (fun _ => 0) (prA tl bf).1 kV_0
  have e : prB tl bf = sTb tl bf (prA tl bf).2 7 0 (fun _ => 0) (prA tl bf).1 := by rw [prB]
  rw [e]
  exact h
theorem kV_e {n : Nat} {K f : Nat → Int32} (h : kV n K) (e : kE n K f) : kV n f := fun t ht => by
  obtain ⟨k, h1, h2, h3⟩ := h t ht
  exact ⟨k, h1, h2, (e t ht).trans h3⟩
theorem kF_e {n : Nat} {K f g : Nat → Int32} (h : kF n K f) (e : kE n K g) : kF n g f := fun t ht => (h t ht).trans (e t ht).symm
theorem kF_u {n : Nat} {K f g : Nat → Int32} (h : kF n K f) (hn : n ≤ 6) (e : ∀ t, t < 6 → g (15 + 5 * t) = f (15 + 5 * t)) : kF n K g := fun t ht => (e t (by omega)).trans (h t ht)
theorem rq_lt {P : Nat → Int32} {j q R : Nat} (e : P j = nI q) (hq : q ≤ R) (hR : R ≤ 5) (h : ∃ z : Nat, P j = nI z ∧ z < R) : q < R := by
  obtain ⟨z, h1, h2⟩ := h
  have := (nI_eq (by omega) (by omega)).mp (e.symm.trans h1)
  omega

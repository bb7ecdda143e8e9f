/-! Rows of the reference: 45 numbers, the rooms, the tubes, their places. -/
def rk (R T : Nat) (f : Nat → Int32) : Prop := f 0 = nI R ∧ f 1 = nI T ∧ ∀ t, t < 6 → ∃ q, q ≤ R ∧ f (16 + 5 * t) = nI q
theorem rk_at {R T : Nat} {f : Nat → Int32} (h : rk R T f) {t : Nat} (ht : t < 6) : ∃ q, q ≤ R ∧ f (16 + 5 * t) = nI q := h.2.2 t ht
theorem rk_upd {R T k : Nat} {f : Nat → Int32} {i : Int32} (h : rk R T f) (hi : i.toNatClampNeg = k) (hk : 2 ≤ k ∧ (k < 16 ∨ (k - 16) % 5 ≠ 0)) (x : Int32) : rk R T (upd f i.toNatClampNeg x) := by
  rw [hi]
  refine ⟨by rw [pk_un (by omega)]; exact h.1, by rw [pk_un (by omega)]; exact h.2.1, fun t ht => ?_⟩
  obtain ⟨q, h1, h2⟩ := h.2.2 t ht
  exact ⟨q, h1, by rw [pk_un (by omega)]; exact h2⟩
theorem rk_updP {R T k v : Nat} {f : Nat → Int32} {i : Int32} (h : rk R T f) (hi : i.toNatClampNeg = k) (hk : 2 ≤ k) (hv : v ≤ R) : rk R T (upd f i.toNatClampNeg (nI v)) := by
  rw [hi]
  refine ⟨by rw [pk_un (by omega)]; exact h.1, by rw [pk_un (by omega)]; exact h.2.1, fun t ht => ?_⟩
  by_cases e : 16 + 5 * t = k
  · exact ⟨v, hv, by rw [e]; exact pk_us⟩
  · obtain ⟨q, h1, h2⟩ := h.2.2 t ht
    exact ⟨q, h1, by rw [pk_un e]; exact h2⟩
/-- numbers copied one by one -/
def cpd (n a b : Nat) (g f : Nat → Int32) : Prop := ∀ k, k < n → g (a + k) = f (b + k)
theorem cpd_0 {a b : Nat} {g f : Nat → Int32} : cpd 0 a b g f := fun k h => absurd h (Nat.not_lt_zero k)
theorem cpd_s {n a b : Nat} {g f : Nat → Int32} (h : cpd n a b g f) : cpd (n + 1) a b (upd g (a + n) (f (b + n))) f := by
  intro k hk
  by_cases e : k = n
  · subst e; exact pk_us
  · rw [pk_un (by omega)]; exact h k (by omega)
theorem rk_cpd {R T n a b : Nat} {g f : Nat → Int32} (h : rk R T (fun k => f (b + k))) (hc : cpd n a b g f) (hn : 45 ≤ n) : rk R T (fun k => g (a + k)) := by
  refine ⟨(hc 0 (by omega)).trans h.1, (hc 1 (by omega)).trans h.2.1, fun t ht => ?_⟩
  obtain ⟨q, h1, h2⟩ := h.2.2 t ht
  exact ⟨q, h1, (hc _ (by omega)).trans h2⟩
theorem rk_z {R T : Nat} {f : Nat → Int32} (h : rk R T f) : rk R T (fun k => f (0 + k)) := by
  have e : (fun k => f (0 + k)) = f := funext fun k => by rw [Nat.zero_add]
  rw [e]; exact h
theorem rk_z' {R T : Nat} {f : Nat → Int32} (h : rk R T (fun k => f (0 + k))) : rk R T f := by
  have e : (fun k => f (0 + k)) = f := funext fun k => by rw [Nat.zero_add]
  rw [e] at h; exact h
theorem rk_cp {R T n : Nat} {g f : Nat → Int32} (h : rk R T f) (hc : cpd n 0 0 g f) (hn : 45 ≤ n) : rk R T g := rk_z' (rk_cpd (rk_z h) hc hn)
theorem wt_lcle {a b : Nat} (ha : a < 2 ^ 62) (hb : b < 2 ^ 62) (h : ¬ 0 < lg_cmp (lN a) (lN b)) : a ≤ b := by
  have h1 : ¬ lN b < lN a := fun h2 => h ((lg_cmp_gt _ _).mpr h2)
  rw [Int64.lt_iff_toInt_lt] at h1
  have ea : (lN a).toInt = (a : Int) := lg_ofNat_toInt (by omega)
  have eb : (lN b).toInt = (b : Int) := lg_ofNat_toInt (by omega)
  omega
theorem cpd_s0 {n : Nat} {g f : Nat → Int32} (h : cpd n 0 0 g f) : cpd (n + 1) 0 0 (upd g n (f (0 + n))) f := by
  have := cpd_s h
  rw [Nat.zero_add] at this
  rw [Nat.zero_add]
  exact this
/-- what the reference keeps of acts: rows of 45 numbers -/
def wk (R T n : Nat) (f : Nat → Int32) : Prop := ∀ a, a < n → rk R T (fun k => f (45 * a + k))
theorem wk_0 {R T : Nat} {f : Nat → Int32} : wk R T 0 f := fun a h => absurd h (Nat.not_lt_zero a)
theorem wk_le {R T n m : Nat} {f : Nat → Int32} (h : wk R T n f) (hm : m ≤ n) : wk R T m f := fun a ha => h a (by omega)
def shd (n : Nat) (g f : Nat → Int32) : Prop := (∀ k, k < n → g k = f (k + 45)) ∧ ∀ k, n ≤ k → g k = f k
theorem shd_0 {f : Nat → Int32} : shd 0 f f := ⟨fun k h => absurd h (Nat.not_lt_zero k), fun _ _ => rfl⟩
theorem shd_s {n : Nat} {g f : Nat → Int32} (h : shd n g f) : shd (n + 1) (upd g n (f (n + 45))) f := by
  refine ⟨fun k hk => ?_, fun k hk => ?_⟩
  · by_cases e : k = n
    · subst e; exact pk_us
    · rw [pk_un e]; exact h.1 k (by omega)
  · rw [pk_un (by omega)]; exact h.2 k (by omega)
theorem wk_sh {R T n i : Nat} {g f : Nat → Int32} (h : wk R T n f) (hs : shd i g f) (hi : i = 1035) (hn : n = 24) : wk R T (n - 1) g := by
  intro a ha
  refine rk_cpd (n := 45) (a := 45 * a) (b := 45 * (a + 1)) (f := f) (h (a + 1) (by omega)) (fun k hk => ?_) (by omega)
  rw [hs.1 _ (by omega), show 45 * a + k + 45 = 45 * (a + 1) + k by omega]
theorem wk_put {R T n i : Nat} {g g0 f : Nat → Int32} (h : wk R T n g0) (hf : rk R T f) (hc : cpd i (45 * n) 0 g f) (hi : i = 45) (ho : ∀ k, k < 45 * n → g k = g0 k) : wk R T (n + 1) g := by
  intro a ha
  by_cases e : a = n
  · subst e; exact rk_cpd (rk_z hf) hc (by omega)
  · refine rk_cpd (n := 45) (a := 45 * a) (b := 45 * a) (f := g0) (h a (by omega)) (fun k hk => ?_) (by omega)
    exact ho _ (by omega)
theorem wk_out {n a i : Nat} {g g0 : Nat → Int32} {x : Int32} (h : ∀ k, k < a → g k = g0 k) : ∀ k, k < a → upd g (a + i) x k = g0 k := fun k hk => by rw [pk_un (by omega)]; exact h k hk
theorem wt_and64 {m : Nat} (h : m < 64) (y : Int32) : ∃ n : Nat, n < 64 ∧ nI m &&& y = nI n := by
  refine ⟨m &&& y.toBitVec.toNat, Nat.lt_of_le_of_lt Nat.and_le_left h, ?_⟩
  have e : y = nI y.toBitVec.toNat := by
    apply Int32.toBitVec_inj.1
    show y.toBitVec = BitVec.ofNat 32 y.toBitVec.toNat
    exact by simp
  conv => lhs; rw [e]
  exact wt_and m _
theorem wt_p64 {T : Nat} (h : T ≤ 6) : 1 ≤ 2 ^ T ∧ 2 ^ T ≤ 64 := by
  have h1 : ∀ t, t < 7 → 1 ≤ 2 ^ t ∧ 2 ^ t ≤ 64 := by decide
  exact h1 T (by omega)
theorem cpd_s0b {n b : Nat} {g f : Nat → Int32} (h : cpd n 0 b g f) : cpd (n + 1) 0 b (upd g n (f (b + n))) f := by
  have := cpd_s h
  rw [Nat.zero_add] at this
  exact this
theorem wt_ngt {x : Int32} (h : x ≤ 0) : ¬ 0 < x := by
  rw [Int32.le_iff_toInt_le] at h
  rw [Int32.lt_iff_toInt_lt]
  omega
/-- images: two rows, each of some house or of none -/
def kk (f : Nat → Int32) : Prop := ∀ a, a < 2 → ∃ R T : Nat, R ≤ 5 ∧ T ≤ 6 ∧ (0 < R → 0 < T) ∧ rk R T (fun k => f (45 * a + k))
theorem kk_out {a i : Nat} {g g0 : Nat → Int32} {x : Int32} (h : ∀ k, (k < 45 * a ∨ 45 * a + 45 ≤ k) → g k = g0 k) (hi : i < 45) : ∀ k, (k < 45 * a ∨ 45 * a + 45 ≤ k) → upd g (45 * a + i) x k = g0 k := fun k hk => by rw [pk_un (by omega)]; exact h k hk
theorem kk_put {R T a i : Nat} {g g0 f : Nat → Int32} (h : kk g0) (hR : R ≤ 5) (hT : T ≤ 6) (hRT : 0 < R → 0 < T) (hf : rk R T f) (hc : cpd i (45 * a) 0 g f) (hi : i = 45) (ho : ∀ k, (k < 45 * a ∨ 45 * a + 45 ≤ k) → g k = g0 k) : kk g := by
  intro b hb
  by_cases e : b = a
  · subst e; exact ⟨R, T, hR, hT, hRT, rk_cpd (rk_z hf) hc (by omega)⟩
  · obtain ⟨R', T', h1, h2, h3, h4⟩ := h b hb
    refine ⟨R', T', h1, h2, h3, rk_cpd (n := 45) (a := 45 * b) (b := 45 * b) (f := g0) h4 (fun k hk => ho _ (by omega)) (by omega)⟩
theorem kk_get {a i : Nat} {g kf wf : Nat → Int32} (h : kk kf) (ha : a < 2) (hc : cpd i 0 (45 * a) g kf) (hi : i = 45) : ∃ R2 T2 : Nat, R2 ≤ 5 ∧ T2 ≤ 6 ∧ (0 < R2 → 0 < T2) ∧ rk R2 T2 g ∧ 0 ≤ 24 ∧ wk R2 T2 0 wf := by
  obtain ⟨R', T', h1, h2, h3, h4⟩ := h a ha
  exact ⟨R', T', h1, h2, h3, rk_z' (rk_cpd h4 hc (by omega)), by omega, wk_0⟩
theorem wt_ix3 {x d : Int32} (h1 : -1 ≤ x) (h2 : ¬ x = -1) (h3 : ¬ d ≤ x) (hd : d.toInt ≤ 3) : vp_in x 3 := by
  rw [Int32.le_iff_toInt_le] at h1 h3
  have e1 : (-1 : Int32).toInt = -1 := rfl
  have h4 : x.toInt ≠ -1 := fun e => h2 (Int32.toInt_inj.mp (by rw [e]; rfl))
  obtain ⟨n, hn, rfl⟩ := nI_of (x := x) (by rw [Int32.lt_iff_toInt_lt]; have e0 : (0 : Int32).toInt = 0 := rfl; omega)
  rw [nI_toInt hn] at h3
  exact vp_in_nI (by omega) (by omega)
theorem rk_room {R T : Nat} {f : Nat → Int32} (h : rk R T f) : rk (R + 1) T (upd f (Int32.toNatClampNeg 0) (nI (R + 1))) := by
  rw [show Int32.toNatClampNeg 0 = 0 from rfl]
  refine ⟨pk_us, by rw [pk_un (by omega)]; exact h.2.1, fun t ht => ?_⟩
  obtain ⟨q, h1, h2⟩ := h.2.2 t ht
  exact ⟨q, by omega, by rw [pk_un (by omega)]; exact h2⟩
theorem rk_tube {R T : Nat} {f : Nat → Int32} (h : rk R T f) : rk R (T + 1) (upd f (Int32.toNatClampNeg 1) (nI (T + 1))) := by
  rw [show Int32.toNatClampNeg 1 = 1 from rfl]
  refine ⟨by rw [pk_un (by omega)]; exact h.1, pk_us, fun t ht => ?_⟩
  obtain ⟨q, h1, h2⟩ := h.2.2 t ht
  exact ⟨q, h1, by rw [pk_un (by omega)]; exact h2⟩
theorem rk_00 {n : Nat} {g : Nat → Int32} (h : ∀ k, k < n → g k = 0) (hn : 45 ≤ n) : rk 0 0 g :=
  ⟨h 0 (by omega), h 1 (by omega), fun t ht => ⟨0, Nat.le_refl _, h _ (by omega)⟩⟩
theorem wt_lele {x : Int32} (h : 0 < x) : 0 ≤ x := by
  rw [Int32.lt_iff_toInt_lt] at h
  rw [Int32.le_iff_toInt_le]
  omega
def lB (bd kd v k : Int32) : Int32 := if bd = 0 then if kd = 2 then if v = k then 1 else 0 else 0 else 0
theorem lB_bd {bd kd v k : Int32} (h : ¬ lB bd kd v k = 0) : bd = 0 := by
  unfold lB at h
  split at h
  · assumption
  · exact absurd rfl h
theorem lB_0 {bd kd v k : Int32} (h : ¬ bd = 0) : lB bd kd v k = 0 := by
  unfold lB; rw [if_neg h]
def kB (x : Int32) : Int32 := if x = 112 then 1 else if x = 103 then 2 else if x = 115 then 3 else if x = 119 then 4 else if x = 108 then 5 else -1000000
def sB (bd kd v : Int32) : Int32 := if bd = 0 then if kd = 2 then if kB v = -1000000 then 0 else 1 else 0 else 0
theorem sB_bd {bd kd v : Int32} (h : ¬ sB bd kd v = 0) : bd = 0 := by
  unfold sB at h
  split at h
  · assumption
  · exact absurd rfl h
theorem sB_0 {bd kd v : Int32} (h : ¬ bd = 0) : sB bd kd v = 0 := by
  unfold sB; rw [if_neg h]
theorem wt_eq0 {x : Int32} (h1 : 0 ≤ x) (h2 : x ≤ 0) : x = 0 := by
  rw [Int32.le_iff_toInt_le] at h1 h2
  apply Int32.toInt_inj.mp
  omega
theorem wt_z0 {i : Nat} {g : Nat → Int32} (h : ∀ k, k < i → g k = 0) : ∀ k, k < i + 1 → upd g i 0 k = 0 := by
  intro k hk
  by_cases e : k = i
  · subst e; exact pk_us
  · rw [pk_un e]; exact h k (by omega)
theorem wt_nar1 {n : Nat} (h : n ≤ 1) : narrow .boolean (.int (nI n)) = .int (nI n) := by
  rcases (show n = 0 ∨ n = 1 by omega) with e | e <;> subst e <;> rfl
theorem wt_decr (x : Int32) : x + Int32.ofInt (-1) = x - 1 := by rw [Int32.sub_eq_add_neg]; rfl
theorem wt_down (k : Nat) : nI (k + 1) - 1 = nI k := by
  rw [← nI_add k 1, show nI 1 = (1 : Int32) from rfl, Int32.add_sub_cancel]
def hB (a b : Int32) : Int32 := if (a >>> (b &&& 31)) &&& 1 = 1 then 1 else 0
theorem wt_and0 (y : Int32) : nI 0 &&& y = 0 := by
  apply Int32.toBitVec_inj.1
  show BitVec.ofNat 32 0 &&& y.toBitVec = BitVec.ofNat 32 0
  simp
theorem wt_andn (x : Int32) : x &&& (x ^^^ (-1)) = 0 := by
  apply Int32.toBitVec_inj.1
  show x.toBitVec &&& (x.toBitVec ^^^ BitVec.allOnes 32) = BitVec.ofNat 32 0
  apply BitVec.eq_of_getLsbD_eq
  intro i hi
  rw [BitVec.getLsbD_and, BitVec.getLsbD_xor, BitVec.getLsbD_allOnes, decide_eq_true hi]
  cases x.toBitVec.getLsbD i <;> simp
theorem hB_0 (y : Int32) : hB (nI 0) y = 0 := by
  have e : nI 0 >>> (y &&& 31) = 0 := by
    apply Int32.toBitVec_inj.1
    simp [nI]
  unfold hB
  rw [e]
  decide
theorem wt_p10 {w f j : Nat} (h : w ≤ 10 ^ j) (hf : f ≤ 10) : w * f ≤ 10 ^ (j + 1) := by
  rw [Nat.pow_succ]; exact Nat.mul_le_mul h hf
theorem wt_p6 {w j : Nat} (h : w ≤ 10 ^ j) (hj : j ≤ 6) : w ≤ 1000000 := Nat.le_trans h (Nat.le_trans (Nat.pow_le_pow_right (by omega) hj) (by decide))
theorem wt_lsub {a b : Nat} (h : b ≤ a) (ha : a < 2 ^ 62) : lN a - lN b = lN (a - b) := by
  have e : lN a = lN (a - b) + lN b := by rw [lN_add, show a - b + b = a by omega]
  rw [e, Int64.add_sub_cancel]
theorem wt_l0 {b : Nat} (h : b = 0) : lN b = 0 := by subst h; rfl
theorem wt_lz {b : Nat} (h : lg_cmp (lN b) 0 = 0) (hb : b < 2 ^ 31) : b = 0 := by
  have h1 := (lg_cmp_eq _ _).mp h
  rcases Nat.eq_zero_or_pos b with e | e
  · exact e
  · exact absurd h1 (wt_lne e hb)
theorem wt_lpos {b : Nat} (h : ¬ lg_cmp (lN b) 0 = 0) (hb : b < 2 ^ 31) : 0 < b := by
  rcases Nat.eq_zero_or_pos b with e | e
  · exact absurd ((lg_cmp_eq _ _).mpr (wt_l0 e)) h
  · exact e

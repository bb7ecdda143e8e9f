/-! More of the rows' own kit: places of tubes, sets as bits. -/
/-- where the first T tubes are: in a room, or on the step -/
def hw (R T : Nat) (P : Nat → Int32) : Prop := ∀ t, t < T → ∃ q, q ≤ R ∧ P t = nI q
theorem hw_upd {R T v : Nat} {P : Nat → Int32} (h : hw R T P) (hv : v ≤ R) (k : Nat) : hw R T (upd P k (nI v)) := by
  intro t ht
  by_cases e : t = k
  · exact ⟨v, hv, by subst e; exact pk_us⟩
  · obtain ⟨q, h1, h2⟩ := h t ht
    exact ⟨q, h1, by rw [pk_un e]; exact h2⟩
theorem hw_cpy {R T : Nat} {P G : Nat → Int32} (h : hw R T P) (hT : T ≤ 6) : hw R T (va_cpy P G (Int32.toNatClampNeg 0) (Int32.toNatClampNeg 0) (Int32.toNatClampNeg 6)) := by
  intro t ht
  obtain ⟨q, h1, h2⟩ := h t ht
  refine ⟨q, h1, ?_⟩
  rw [show Int32.toNatClampNeg 0 = 0 from rfl, show Int32.toNatClampNeg 6 = 6 from rfl, pk_cpy_in (Nat.zero_le _) (by omega)]
  rw [show 0 + (t - 0) = t by omega]; exact h2
theorem wt_or (a b : Nat) : nI a ||| nI b = nI (a ||| b) := by
  apply Int32.toBitVec_inj.1
  show BitVec.ofNat 32 a ||| BitVec.ofNat 32 b = BitVec.ofNat 32 (a ||| b)
  apply BitVec.eq_of_getLsbD_eq
  intro i hi
  simp [hi]
theorem wt_and (a b : Nat) : nI a &&& nI b = nI (a &&& b) := by
  apply Int32.toBitVec_inj.1
  show BitVec.ofNat 32 a &&& BitVec.ofNat 32 b = BitVec.ofNat 32 (a &&& b)
  apply BitVec.eq_of_getLsbD_eq
  intro i hi
  simp [hi]
theorem wt_or64 {s t : Nat} (h : s < 64) (ht : t < 6) : s ||| 2 ^ t < 64 := by
  have h2 : 2 ^ t < 2 ^ 6 := Nat.pow_lt_pow_right (by omega) ht
  exact Nat.or_lt_two_pow (n := 6) h h2
theorem wt_shl1 {t : Nat} (h : t < 6) : (1 : Int32) <<< (nI t &&& 31) = nI (2 ^ t) := by
  have h1 : ∀ t, t < 6 → (1 : Int32) <<< (nI t &&& 31) = nI (2 ^ t) := by decide
  exact h1 t h

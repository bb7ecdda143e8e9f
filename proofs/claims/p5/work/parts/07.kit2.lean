/-! More of the rows' own kit: places of tubes, sets as bits. -/
/-- where the first T tubes are: in a room, or on the step -/
def hw (R T : Nat) (P : Nat → Int32) : Prop := ∀ t, t < T → ∃ q, q ≤ R ∧ P t = nI q
theorem hw_upd {R T v : Nat} {P : Nat → Int32} (h : hw R T P) (hv : v ≤ R) (k : Nat) : hw R T (upd P k (nI v)) := by
  intro t ht
  by_cases e : t = k
  · exact ⟨v, hv, by subst e; exact pk_us⟩
  · obtain ⟨q, h1, h2⟩ := h t ht
    exact ⟨q, h1, by rw [pk_un e]; exact h2⟩
theorem hw_cpy {R T : Nat} {P G : Nat → Int32} (h : hw R T P) (hT : T ≤ 6) : hw R T (va_cpy P G (Int32.toNatClampNeg 0) (Int32.toNatClampNeg 0) (Int32.toNatClampNeg 6)) := by
  intro t ht
  obtain ⟨q, h1, h2⟩ := h t ht
  refine ⟨q, h1, ?_⟩
  rw [show Int32.toNatClampNeg 0 = 0 from rfl, show Int32.toNatClampNeg 6 = 6 from rfl, pk_cpy_in (Nat.zero_le _) (by omega)]
  rw [show 0 + (t - 0) = t by omega]; exact h2
theorem wt_or (a b : Nat) : nI a ||| nI b = nI (a ||| b) := by
  apply Int32.toBitVec_inj.1
  show BitVec.ofNat 32 a ||| BitVec.ofNat 32 b = BitVec.ofNat 32 (a ||| b)
  apply BitVec.eq_of_getLsbD_eq
  intro i hi
  simp [hi]
theorem wt_and (a b : Nat) : nI a &&& nI b = nI (a &&& b) := by
  apply Int32.toBitVec_inj.1
  show BitVec.ofNat 32 a &&& BitVec.ofNat 32 b = BitVec.ofNat 32 (a &&& b)
  apply BitVec.eq_of_getLsbD_eq
  intro i hi
  simp [hi]
theorem wt_or64 {s t : Nat} (h : s < 64) (ht : t < 6) : s ||| 2 ^ t < 64 := by
  have h2 : 2 ^ t < 2 ^ 6 := Nat.pow_lt_pow_right (by omega) ht
  exact Nat.or_lt_two_pow (n := 6) h h2
theorem wt_shl1 {t : Nat} (h : t < 31) : (1 : Int32) <<< (nI t &&& 31) = nI (2 ^ t) := by
  have h1 : ∀ t, t < 31 → (1 : Int32) <<< (nI t &&& 31) = nI (2 ^ t) := by decide
  exact h1 t h
theorem wt_lne {n : Nat} (h : 0 < n) (h2 : n < 2 ^ 31) : ¬ lN n = 0 := by
  intro e
  have h3 := congrArg Int64.toInt e
  rw [lN_toInt h2] at h3
  have h4 : (0 : Int64).toInt = 0 := rfl
  omega
theorem wt_min {a b : Nat} (ha : a < 2 ^ 31) (hb : b < 2 ^ 31) : (if nI b < nI a then nI b else nI a) = nI (min a b) := by
  by_cases h : b < a
  · rw [if_pos (nI_lt h ha), Nat.min_eq_right (by omega)]
  · rw [if_neg (nI_nlt (by omega) hb), Nat.min_eq_left (by omega)]
theorem wI_nat {x : Int32} {a b : Nat} (ha : a < 2 ^ 31) (hb : b < 2 ^ 31) (h : ¬ wI x (OfNat.ofNat a) (OfNat.ofNat b) = 0) : ∃ j : Nat, a ≤ j ∧ j ≤ b ∧ x = nI j := by
  obtain ⟨h1, h2⟩ := wI_ne h
  have ea : (OfNat.ofNat a : Int32).toInt = a := nI_toInt ha
  have eb : (OfNat.ofNat b : Int32).toInt = b := nI_toInt hb
  rw [Int32.lt_iff_toInt_lt] at h1 h2
  refine ⟨x.toInt.toNat, by omega, by omega, ?_⟩
  apply Int32.toInt_inj.mp
  rw [nI_toInt (by omega)]
  omega
theorem wI_natT {x : Int32} {T : Nat} (hT : T < 2 ^ 30) (h : ¬ wI x 0 (nI T - 1) = 0) : ∃ j : Nat, j < T ∧ x = nI j := by
  obtain ⟨h1, h2⟩ := wI_ne h
  rw [Int32.lt_iff_toInt_lt] at h1 h2
  have e1 : (nI T - nI 1).toInt = (T : Int) - (1 : Nat) := pk_sub_toInt hT (by decide)
  have e2 : (nI T - 1).toInt = (T : Int) - 1 := e1
  have e0 : (0 : Int32).toInt = 0 := rfl
  refine ⟨x.toInt.toNat, by omega, ?_⟩
  apply Int32.toInt_inj.mp
  rw [nI_toInt (by omega)]
  omega
theorem wI_natTX {n T : Nat} (hn : n < 2 ^ 31) (hT : T < 2 ^ 30) (h : ¬ wI (nI n) 0 (nI T - 1) = 0) : n < T := by
  obtain ⟨j, h1, h3⟩ := wI_natT hT h
  have := (nI_eq hn (by omega)).mp h3
  omega
theorem wP_nat {R : Nat} (hR : R < 2 ^ 31) (h : ¬ wP (nI R) = 0) : 0 < R := by
  rcases Nat.eq_zero_or_pos R with e | e
  · subst e; exact absurd rfl h
  · exact e
/-- a ROOM or THE STEP of a HOUSE that stands -/
def gP (t : Int32) (R : Nat) : Int32 := if wP (nI R) = 0 then 0 else if wI t 0 (nI R) = 0 then 0 else 1
theorem gP_nat {x : Int32} {R : Nat} (hR : R < 2 ^ 30) (h : ¬ gP x R = 0) : 0 < R ∧ ∃ j : Nat, j ≤ R ∧ x = nI j := by
  unfold gP at h
  split at h
  · exact absurd rfl h
  · rename_i h1
    split at h
    · exact absurd rfl h
    · rename_i h2
      have h0 := wP_nat (by omega) h1
      refine ⟨h0, ?_⟩
      obtain ⟨h3, h4⟩ := wI_ne h2
      rw [Int32.lt_iff_toInt_lt] at h3 h4
      rw [nI_toInt (by omega)] at h4
      have e0 : (0 : Int32).toInt = 0 := rfl
      refine ⟨x.toInt.toNat, by omega, ?_⟩
      apply Int32.toInt_inj.mp
      rw [nI_toInt (by omega)]
      omega
/-- the ring: each of the latest sz pieces of 23 numbers has its tubes' places -/
def pk (R T nx sz : Nat) (f : Nat → Int32) : Prop := ∀ j, j < sz → hw R T (fun t => f ((nx + 23 - j) % 24 * 23 + 11 + t))
theorem pk_0 {R T nx : Nat} {f : Nat → Int32} : pk R T nx 0 f := fun j h => absurd h (Nat.not_lt_zero j)
theorem pk_keep {R T nx sz : Nat} {f g : Nat → Int32} (h : pk R T nx sz f) (hT : T ≤ 6) (hn : nx < 24) (hs : sz ≤ 24) (hw2 : hw R T (fun t => g (nx * 23 + 11 + t)) ∧ ∀ k, (k < nx * 23 ∨ nx * 23 + 23 ≤ k) → g k = f k) : pk R T ((nx + 1) % 24) (min 24 (sz + 1)) g := by
  intro j hj
  by_cases e : j = 0
  · subst e
    have e1 : ((nx + 1) % 24 + 23 - 0) % 24 = nx := by omega
    rw [e1]; exact hw2.1
  · intro t ht
    obtain ⟨q, h1, h2⟩ := h (j - 1) (by omega) t ht
    refine ⟨q, h1, ?_⟩
    have e1 : ((nx + 1) % 24 + 23 - j) % 24 = (nx + 23 - (j - 1)) % 24 := by omega
    have e2 : (nx + 23 - (j - 1)) % 24 ≠ nx := by omega
    have e3 : (nx + 23 - (j - 1)) % 24 < 24 := Nat.mod_lt _ (by omega)
    rw [e1]
    generalize (nx + 23 - (j - 1)) % 24 = z at h2 e2 e3
    show g (z * 23 + 11 + t) = nI q
    rw [hw2.2 _ (by omega)]; exact h2
theorem pk_top {R T nx sz : Nat} {f : Nat → Int32} (h : pk R T nx sz f) (hs : 0 < sz) (hn : nx < 24) : hw R T (fun t => f ((nx + 24 - 1) % 24 * 23 + 11 + t)) := by
  have h1 := h 0 hs
  have e : (nx + 23 - 0) % 24 = (nx + 24 - 1) % 24 := by omega
  rw [e] at h1
  exact h1
theorem pk_down {R T nx sz : Nat} {f : Nat → Int32} (h : pk R T nx sz f) (hn : nx < 24) (hs : sz ≤ 24) (h0 : 0 < sz) : pk R T ((nx + 24 - 1) % 24) (sz - 1) f := by
  intro j hj
  have h1 := h (j + 1) (by omega)
  have e : ((nx + 24 - 1) % 24 + 23 - j) % 24 = (nx + 23 - (j + 1)) % 24 := by omega
  rw [e]; exact h1
theorem wt_nne {n : Nat} (h : 0 < n) (h2 : n < 2 ^ 31) : ¬ nI n = 0 := nI_ne0 h h2
theorem wc_hw {R T a : Nat} {fW fS fP fU f : Nat → Int32} {mi : Int32} (h : hw R T fP) (hT : T ≤ 6) : hw R T (fun t => va_cpy fU (va_cpy fP (va_cpy fS (va_cpy fW (upd f a mi) 0 (a + 1) 5) 0 (a + 1 + 5) 5) 0 (a + 1 + 10) 6) 0 (a + 1 + 10 + 6) 6 (a + 11 + t)) := by
  intro t ht
  obtain ⟨q, h1, h2⟩ := h t ht
  refine ⟨q, h1, ?_⟩
  show va_cpy fU _ 0 (a + 1 + 10 + 6) 6 (a + 11 + t) = nI q
  rw [pk_cpy_out (by omega), pk_cpy_in (by omega) (by omega), show 0 + (a + 11 + t - (a + 1 + 10)) = t by omega]
  exact h2
theorem wc_out {a : Nat} {fW fS fP fU f : Nat → Int32} {mi : Int32} : ∀ k, (k < a ∨ a + 23 ≤ k) → va_cpy fU (va_cpy fP (va_cpy fS (va_cpy fW (upd f a mi) 0 (a + 1) 5) 0 (a + 1 + 5) 5) 0 (a + 1 + 10) 6) 0 (a + 1 + 10 + 6) 6 k = f k := by
  intro k hk
  rw [pk_cpy_out (by omega), pk_cpy_out (by omega), pk_cpy_out (by omega), pk_cpy_out (by omega), pk_un (by omega)]
theorem rc_hw {R T a : Nat} {ff G : Nat → Int32} (h : hw R T (fun t => ff (a + 11 + t))) (hT : T ≤ 6) : hw R T (va_cpy ff G (a + 1 + 10) 0 6) := by
  intro t ht
  obtain ⟨q, h1, h2⟩ := h t ht
  refine ⟨q, h1, ?_⟩
  rw [pk_cpy_in (Nat.zero_le _) (by omega), show a + 1 + 10 + (t - 0) = a + 11 + t by omega]
  exact h2
theorem wt_ofle {n : Int32} {q : Nat} (h : ¬ n < 0) (h2 : ¬ nI q < n) (hq : q < 2 ^ 31 := by omega) : ∃ b : Nat, b ≤ q ∧ n = nI b := by
  obtain ⟨b, hb, rfl⟩ := nI_of h
  refine ⟨b, ?_, rfl⟩
  rcases Nat.lt_or_ge q b with g | g
  · exact absurd (nI_lt g hb) h2
  · exact g
theorem reach_ok {i : Int32} {b q : Nat} (h0 : ¬ i < 0) (h1 : i ≤ nI (q - b)) (hq : b ≤ q ∧ q ≤ 40) : ∃ a c : Nat, i = nI a ∧ nI b = nI c ∧ a + c ≤ 40 := by
  obtain ⟨a, ha, rfl⟩ := nI_of h0
  have h2 := (nI_leI ha (by omega)).mp h1
  exact ⟨a, b, rfl, rfl, by omega⟩
theorem wt_max1 (y : Int64) : ¬ (if y < 1 then (1 : Int64) else y) = 0 := by
  by_cases h : y < 1
  · rw [if_pos h]; decide
  · rw [if_neg h]
    intro e
    rw [e] at h
    exact h (by decide)
theorem wt_nlt {x : Int32} (h : 0 ≤ x) : ¬ x < 0 := by
  rw [Int32.le_iff_toInt_le] at h
  rw [Int32.lt_iff_toInt_lt]
  omega
theorem wt_neg (x : Int32) : x < 0 ∨ ∃ n : Nat, n < 2 ^ 31 ∧ x = nI n := by
  by_cases h : x < 0
  · exact Or.inl h
  · exact Or.inr (nI_of h)
theorem wt_lez {x : Int32} (h : x < 0) : x ≤ 0 := by
  rw [Int32.lt_iff_toInt_lt] at h
  rw [Int32.le_iff_toInt_le]
  omega
theorem wt_rSl {p : Program} {l : Launch} {e : Env} {R : Room} {s : State} {m : MethodId} {args : Array Value} {below : List Frame} {meth : Method} {c : Code} {H : Heap} {locs : List Loc} {cells slots : Nat} {Q : State → Prop}
    {y : MethodName} {bytes cc : ByteArray} {maxL nL n index pc : Nat} {ret : Option FieldType} {wsx Ts : List Cond} {rm : Room} {own : String} {As rest st0 : List Value} {ls : Array Slot} {D : va_G} {tys : List (ClassId × FieldType)} {ws wc : va_W}
    {post : Int64 → Prop} (S : CallFix p m c cc nL s args Ts own) (hM : wt_R l y wsx rm D tys As wc (vp_Sl post)) (cw : CallB R s args own index y bytes maxL ret wsx rm 0 0 n ∧ (Cond.static y).before args s = true) (hK : wt_K D tys s) (hP : va_P D vwCl ws H) (isC : List Nat) (hC : isC.filterMap (fun i => ws[i]?) = wc)
    (hn : As.length = n) (hsize : ls.size = nL) (hstack : st0 = As.reverse ++ rest) (hW : (rest.map fun v => v.category).sum ≤ 8) (hdg : decode cc pc = .ok (.invokestatic index, 3)) (hf : cells ≤ R.cells ∧ slots ≤ R.slots)
    (kk : ∀ r : Int64, post r → W p l e R s m args below meth c H locs cells slots Q (F0 m (pc + 3) ls (.long r :: rest))) : W p l e R s m args below meth c H locs cells slots Q (F0 m pc ls st0) :=
  vp_callSl (W.runS (As := As) (rest := rest) (g := F0 m pc ls st0) S hM cw ⟨wt_blindS, fun U hU hW => ⟨rfl, by rw [hU]; exact hP.sub isC hC, hK.warm hW⟩⟩ rfl hn hsize hstack (lv_room hW) hdg hf) kk

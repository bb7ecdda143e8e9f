/-! Kinds, traces, findings, class and reference side by side. -/
def kdA (a : Int32) (T : Nat) (f : Nat → Int32) : Int32 := if wI a 0 (nI T - 1) = 0 then (-1000001) else f a.toNatClampNeg
theorem kdA_b {a : Int32} {T : Nat} {f : Nat → Int32} (h : wI a 0 (nI T - 1) = 0) : kdA a T f = (-1000001) := if_pos h
theorem kdA_y {j T : Nat} {f : Nat → Int32} (h : ¬ wI (nI j) 0 (nI T - 1) = 0) (hj : j < 6) : kdA (nI j) T f = f j := by unfold kdA; rw [if_neg h, nI_clamp (by omega)]
theorem wI_ltT {a : Int32} {T : Nat} (hT : T ≤ 6) (h : ¬ wI a 0 (nI T - 1) = 0) : a.toNatClampNeg < T := by
  obtain ⟨j, h1, e⟩ := wI_natT (T := T) (by omega) h
  rw [e, nI_clamp (by omega)]
  exact h1
/-- whether a tube of the kind k is one of the kind a -/
def oB (k a : Int32) : Int32 := if a = 0 then 1 else if k = a then 1 else if a = 1 ∧ k < 4 then 1 else if a = 4 ∧ k = 5 then 1 else 0
theorem oB_0 {k a : Int32} (h : a = 0) : 1 = oB k a := (if_pos h).symm
theorem oB_1 {k a : Int32} (h0 : ¬ a = 0) (h : k = a) : 1 = oB k a := by unfold oB; rw [if_neg h0, if_pos h]
theorem oB_2 {k a : Int32} (h0 : ¬ a = 0) (h1 : ¬ k = a) (h2 : ¬ a = 1) (h3 : ¬ a = 4) : 0 = oB k a := by unfold oB; rw [if_neg h0, if_neg h1, if_neg (fun h => h2 h.1), if_neg (fun h => h3 h.1)]
theorem oB_3 {k a : Int32} (h0 : ¬ a = 0) (h1 : ¬ k = a) (h2 : ¬ a = 1) (_ : a = 4) (h4 : ¬ k = 5) : 0 = oB k a := by unfold oB; rw [if_neg h0, if_neg h1, if_neg (fun h => h2 h.1), if_neg (fun h => h4 h.2)]
theorem oB_4 {k a : Int32} (h0 : ¬ a = 0) (h1 : ¬ k = a) (h2 : ¬ a = 1) (h3 : a = 4) (h4 : k = 5) : 1 = oB k a := by unfold oB; rw [if_neg h0, if_neg h1, if_neg (fun h => h2 h.1), if_pos ⟨h3, h4⟩]
theorem oB_5 {k a : Int32} (h0 : ¬ a = 0) (h1 : ¬ k = a) (h2 : a = 1) (h3 : k < 4) : 1 = oB k a := by unfold oB; rw [if_neg h0, if_neg h1, if_pos ⟨h2, h3⟩]
theorem oB_6 {k a : Int32} (h0 : ¬ a = 0) (h1 : ¬ k = a) (_ : a = 1) (h3 : ¬ k < 4) (h4 : ¬ a = 4) : 0 = oB k a := by unfold oB; rw [if_neg h0, if_neg h1, if_neg (fun h => h3 h.2), if_neg (fun h => h4 h.1)]
def asF (T : Nat) (f : Nat → Int32) (a b : Int32) : Int32 := if wI a 0 (nI T - 1) = 0 then -1 else if wI b 0 5 = 0 then -1 else if oB (f a.toNatClampNeg) b = 0 then 3 else 0
theorem asF_a {T : Nat} {f : Nat → Int32} {a b : Int32} (h : wI a 0 (nI T - 1) = 0) : asF T f a b = -1 := if_pos h
theorem asF_b {T : Nat} {f : Nat → Int32} {a b : Int32} (h : ¬ wI a 0 (nI T - 1) = 0) (h2 : wI b 0 5 = 0) : asF T f a b = -1 := by unfold asF; rw [if_neg h, if_pos h2]
theorem asF_3 {T j : Nat} {f : Nat → Int32} {b : Int32} (hj : j < 6) (h : ¬ wI (nI j) 0 (nI T - 1) = 0) (h2 : ¬ wI b 0 5 = 0) (h3 : oB (f j) b = 0) : asF T f (nI j) b = 3 := by unfold asF; rw [if_neg h, if_neg h2, nI_clamp (by omega), if_pos h3]
theorem asF_0 {T j : Nat} {f : Nat → Int32} {b : Int32} (hj : j < 6) (h : ¬ wI (nI j) 0 (nI T - 1) = 0) (h2 : ¬ wI b 0 5 = 0) (h3 : ¬ oB (f j) b = 0) : asF T f (nI j) b = 0 := by unfold asF; rw [if_neg h, if_neg h2, nI_clamp (by omega), if_neg h3]
theorem as_eq {a b : Int32} {T : Nat} {fK m_f : Nat → Int32} (hT : T ≤ 6) (h : kF T fK m_f) : asF T (fun t => m_f (15 + 5 * t)) a b = asF T fK a b := by
  unfold asF
  by_cases c : wI a 0 (nI T - 1) = 0
  · rw [if_pos c, if_pos c]
  · rw [if_neg c, if_neg c]
    show (if wI b 0 5 = 0 then (-1 : Int32) else if oB (m_f (15 + 5 * a.toNatClampNeg)) b = 0 then 3 else 0) = _
    rw [h _ (wI_ltT hT c)]
/-- numbers left one behind another -/
def apL : List Int32 → Nat → (Nat → Int32) → Nat → Int32
  | [], _, f => f
  | x :: r, n, f => apL r (n + 1) (upd f n x)
def sq (k w : Int32) : List Int32 := if w = 0 then (if k = 1 then [11, 10, 21, 20] else if k = 2 then [12, 11, 10, 24, 21, 20] else if k = 3 then [11, 10, 22, 21, 20] else if k = 4 then [13, 10] else [14, 13, 10]) else (if k = 1 then [21, 20] else if k = 2 then [24, 21, 20] else if k = 3 then [22, 21, 20] else if k = 4 then [23, 20, 13, 10] else [23, 20, 14, 13, 10])
def akN (T : Nat) (f : Nat → Int32) (a b : Int32) (n : Nat) : Nat := if wI a 0 (nI T - 1) = 0 then n else if wI b 0 1 = 0 then n else (sq (f a.toNatClampNeg) b).length
def akG (T : Nat) (f : Nat → Int32) (a b : Int32) (g : Nat → Int32) : Nat → Int32 := if wI a 0 (nI T - 1) = 0 then g else if wI b 0 1 = 0 then g else apL (sq (f a.toNatClampNeg) b) 0 g
theorem ak_a {T n : Nat} {f g : Nat → Int32} {a b : Int32} (h : wI a 0 (nI T - 1) = 0) : n = akN T f a b n ∧ g = akG T f a b g := ⟨(if_pos h).symm, (if_pos h).symm⟩
theorem ak_b {T n : Nat} {f g : Nat → Int32} {a b : Int32} (h : ¬ wI a 0 (nI T - 1) = 0) (h2 : wI b 0 1 = 0) : n = akN T f a b n ∧ g = akG T f a b g := by
  unfold akN akG
  rw [if_neg h, if_pos h2, if_neg h, if_pos h2]
  exact ⟨rfl, rfl⟩
theorem ak_y {T n j m : Nat} {f g : Nat → Int32} {b s : Int32} {l : List Int32} (hj : j < 6) (h : ¬ wI (nI j) 0 (nI T - 1) = 0) (h2 : ¬ wI b 0 1 = 0) (e : f j = s) (e2 : sq s b = l) (e3 : l.length = m) : m = akN T f (nI j) b n ∧ apL l 0 g = akG T f (nI j) b g := by
  unfold akN akG
  rw [if_neg h, if_neg h2, if_neg h, if_neg h2, nI_clamp (by omega), e, e2]
  exact ⟨e3.symm, rfl⟩
theorem ak_eq {a b : Int32} {T n : Nat} {fK m_f g : Nat → Int32} (hT : T ≤ 6) (h : kF T fK m_f) : akN T (fun t => m_f (15 + 5 * t)) a b n = akN T fK a b n ∧ akG T (fun t => m_f (15 + 5 * t)) a b g = akG T fK a b g := by
  unfold akN akG
  by_cases c : wI a 0 (nI T - 1) = 0
  · rw [if_pos c, if_pos c, if_pos c, if_pos c]
    exact ⟨rfl, rfl⟩
  · rw [if_neg c, if_neg c, if_neg c, if_neg c]
    have e : (fun t => m_f (15 + 5 * t)) a.toNatClampNeg = fK a.toNatClampNeg := h _ (wI_ltT hT c)
    rw [e]
    exact ⟨rfl, rfl⟩
def trA (a : Int32) (n : Nat) (g : Nat → Int32) : Int32 := if wI a 0 (nI n - 1) = 0 then (-1000000) else g a.toNatClampNeg
theorem trA_b {a : Int32} {n : Nat} {g : Nat → Int32} (h : wI a 0 (nI n - 1) = 0) : trA a n g = (-1000000) := if_pos h
theorem trA_y {j n : Nat} {g : Nat → Int32} (h : ¬ wI (nI j) 0 (nI n - 1) = 0) (hj : j < 16) : trA (nI j) n g = g j := by unfold trA; rw [if_neg h, nI_clamp (by omega)]
/-- what is found of n items of a row, asked for a tube, a room -/
def whF (T R : Nat) (lf sf : Nat → Int32) (t w r ro i n : Int32) : Int32 := if wI t 0 (nI T - 1) = 0 then -1 else if wI w 0 2 = 0 then -1 else if wI r 0 (nI R - 1) = 0 then -1 else if wI ro 0 7 = 0 then -1 else if wI n 1 12 = 0 then -1 else rs (lf ro.toNatClampNeg) (sf ro.toNatClampNeg) i n
def frF (R : Nat) (lf sf : Nat → Int32) (r w ro i n : Int32) : Int32 := if wI r 0 (nI R - 1) = 0 then -1 else if wI w 0 1 = 0 then -1 else if wI ro 0 7 = 0 then -1 else if wI n 1 12 = 0 then -1 else rs (lf ro.toNatClampNeg) (sf ro.toNatClampNeg) i n
theorem whF_1 {T R : Nat} {lf sf : Nat → Int32} {t w r ro i n : Int32} (h : wI t 0 (nI T - 1) = 0) : whF T R lf sf t w r ro i n = -1 := if_pos h
theorem whF_2 {T R : Nat} {lf sf : Nat → Int32} {t w r ro i n : Int32} (h : ¬ wI t 0 (nI T - 1) = 0) (h2 : wI w 0 2 = 0) : whF T R lf sf t w r ro i n = -1 := by unfold whF; rw [if_neg h, if_pos h2]
theorem whF_3 {T R : Nat} {lf sf : Nat → Int32} {t w r ro i n : Int32} (h : ¬ wI t 0 (nI T - 1) = 0) (h2 : ¬ wI w 0 2 = 0) (h3 : wI r 0 (nI R - 1) = 0) : whF T R lf sf t w r ro i n = -1 := by unfold whF; rw [if_neg h, if_neg h2, if_pos h3]
theorem whF_4 {T R : Nat} {lf sf : Nat → Int32} {t w r ro i n : Int32} (h : ¬ wI t 0 (nI T - 1) = 0) (h2 : ¬ wI w 0 2 = 0) (h3 : ¬ wI r 0 (nI R - 1) = 0) (h4 : wI ro 0 7 = 0) : whF T R lf sf t w r ro i n = -1 := by unfold whF; rw [if_neg h, if_neg h2, if_neg h3, if_pos h4]
theorem whF_5 {T R : Nat} {lf sf : Nat → Int32} {t w r ro i n : Int32} (h : ¬ wI t 0 (nI T - 1) = 0) (h2 : ¬ wI w 0 2 = 0) (h3 : ¬ wI r 0 (nI R - 1) = 0) (h4 : ¬ wI ro 0 7 = 0) (h5 : wI n 1 12 = 0) : whF T R lf sf t w r ro i n = -1 := by unfold whF; rw [if_neg h, if_neg h2, if_neg h3, if_neg h4, if_pos h5]
theorem whF_6 {T R x : Nat} {lf sf : Nat → Int32} {t w r i n : Int32} (hx : x ≤ 7) (h : ¬ wI t 0 (nI T - 1) = 0) (h2 : ¬ wI w 0 2 = 0) (h3 : ¬ wI r 0 (nI R - 1) = 0) (h4 : ¬ wI (nI x) 0 7 = 0) (h5 : ¬ wI n 1 12 = 0) : whF T R lf sf t w r (nI x) i n = rs (lf x) (sf x) i n := by unfold whF; rw [if_neg h, if_neg h2, if_neg h3, if_neg h4, if_neg h5, nI_clamp (by omega)]
theorem frF_1 {R : Nat} {lf sf : Nat → Int32} {r w ro i n : Int32} (h : wI r 0 (nI R - 1) = 0) : frF R lf sf r w ro i n = -1 := if_pos h
theorem frF_2 {R : Nat} {lf sf : Nat → Int32} {r w ro i n : Int32} (h : ¬ wI r 0 (nI R - 1) = 0) (h2 : wI w 0 1 = 0) : frF R lf sf r w ro i n = -1 := by unfold frF; rw [if_neg h, if_pos h2]
theorem frF_3 {R : Nat} {lf sf : Nat → Int32} {r w ro i n : Int32} (h : ¬ wI r 0 (nI R - 1) = 0) (h2 : ¬ wI w 0 1 = 0) (h3 : wI ro 0 7 = 0) : frF R lf sf r w ro i n = -1 := by unfold frF; rw [if_neg h, if_neg h2, if_pos h3]
theorem frF_4 {R : Nat} {lf sf : Nat → Int32} {r w ro i n : Int32} (h : ¬ wI r 0 (nI R - 1) = 0) (h2 : ¬ wI w 0 1 = 0) (h3 : ¬ wI ro 0 7 = 0) (h4 : wI n 1 12 = 0) : frF R lf sf r w ro i n = -1 := by unfold frF; rw [if_neg h, if_neg h2, if_neg h3, if_pos h4]
theorem frF_5 {R x : Nat} {lf sf : Nat → Int32} {r w i n : Int32} (hx : x ≤ 7) (h : ¬ wI r 0 (nI R - 1) = 0) (h2 : ¬ wI w 0 1 = 0) (h3 : ¬ wI (nI x) 0 7 = 0) (h4 : ¬ wI n 1 12 = 0) : frF R lf sf r w (nI x) i n = rs (lf x) (sf x) i n := by unfold frF; rw [if_neg h, if_neg h2, if_neg h3, if_neg h4, nI_clamp (by omega)]
theorem wh_eq {T R : Nat} {lf sf ml ms : Nat → Int32} (h : RR lf sf ml ms) (t w r ro i n : Int32) : whF T R ml ms t w r ro i n = whF T R lf sf t w r ro i n := by
  unfold whF
  by_cases c : wI ro 0 7 = 0
  · simp only [if_pos c]
  · simp only [if_neg c, rr_rs h (wI_lt8 c)]
theorem fr_eq {R : Nat} {lf sf ml ms : Nat → Int32} (h : RR lf sf ml ms) (r w ro i n : Int32) : frF R ml ms r w ro i n = frF R lf sf r w ro i n := by
  unfold frF
  by_cases c : wI ro 0 7 = 0
  · simp only [if_pos c]
  · simp only [if_neg c, rr_rs h (wI_lt8 c)]
/-- an image on both sides, its kinds too -/
def IK (y yT : Nat) (yK : Nat → Int32) (b : Int32) (kf : Nat → Int32) (a : Nat) : Prop := IM y yT b kf a ∧ (0 < y → yT ≤ 6 ∧ kF yT yK (fun k => kf (45 * a + k)) ∧ kV yT yK)
theorem ik_0 {yK kf : Nat → Int32} {a : Nat} : IK 0 0 yK 0 kf a := ⟨im_0, fun h => absurd h (Nat.not_lt_zero _)⟩
theorem kF_cpd {n i a : Nat} {K g f : Nat → Int32} (h : kF n K f) (hc : cpd i a 0 g f) (hi : 45 ≤ i) (hn : n ≤ 6) : kF n K (fun k => g (a + k)) := fun t ht => by
  have e := hc (15 + 5 * t) (by omega)
  rw [Nat.zero_add] at e
  exact e.trans (h t ht)
theorem kF_E {n : Nat} {K K2 f : Nat → Int32} (h : kF n K f) (e : kE 6 K K2) (hn : n ≤ 6) : kF n K2 f := fun t ht => (h t ht).trans (e t (by omega)).symm
theorem kV_E {n : Nat} {K K2 : Nat → Int32} (h : kV n K) (e : kE 6 K K2) (hn : n ≤ 6) : kV n K2 := fun t ht => by
  obtain ⟨k, h1, h2, h3⟩ := h t ht
  exact ⟨k, h1, h2, (e t (by omega)).trans h3⟩
theorem ik_step {j : Nat} {jk k : Int32} {R T y yT : Nat} {yK yK2 fK ikf ikf2 kf kf2 f : Nat → Int32} (hjk : jk = nI j) (hj : j ≤ 1) (h : IK y yT yK (ikf j) kf j) (hP : imP k R ikf ikf2 kf kf2 f) (hr : rk R T f) (hR : R ≤ 5) (hT : T ≤ 6) (hRT : 0 < R → 0 < T) (hF : kF T fK f) (hV : kV T fK) (hE : kE 6 (imN jk k R fK yK) yK2) : IK (imN jk k R R y) (imN jk k R T yT) yK2 (ikf2 j) kf2 j := by
  refine ⟨im_step hjk hj h.1 hP hr hR hT hRT, ?_⟩
  subst hjk
  by_cases c : k = nI j ∧ 0 < R
  · have n1 : imN (nI j) k R T yT = T := if_pos c
    have n2 : imN (nI j) k R fK yK = fK := if_pos c
    rw [n1]
    rw [n2] at hE
    intro _
    have hA : imA k R = 1 := by
      refine imA_1 (fun z => ?_) c.2
      rcases (show j = 0 ∨ j = 1 by omega) with g | g
      · subst g; exact w01_0 z c.1
      · subst g; exact w01_1 z c.1
    obtain ⟨_, e2, _⟩ := hP.1 hA
    rw [c.1, nI_clamp (by omega)] at e2
    exact ⟨hT, kF_E (kF_cpd hF e2 (by omega) hT) hE hT, kV_E hV hE hT⟩
  · have n0 : imN (nI j) k R R y = y := if_neg c
    have n1 : imN (nI j) k R T yT = yT := if_neg c
    have n2 : imN (nI j) k R fK yK = yK := if_neg c
    rw [n0, n1]
    rw [n2] at hE
    intro hy
    obtain ⟨h6, hF2, hV2⟩ := h.2 hy
    refine ⟨h6, kF_E (fun t ht => ?_) hE h6, kV_E hV2 hE h6⟩
    have e0 := hF2 t ht
    by_cases a1 : imA k R = 1
    · obtain ⟨_, _, e3⟩ := hP.1 a1
      obtain ⟨c1, c2⟩ := imA_y a1
      have hk : k.toNatClampNeg ≠ j ∧ k.toNatClampNeg ≤ 1 := by
        rcases w01_or c1 with q | q
        · subst q
          refine ⟨fun z => c ⟨?_, c2⟩, by decide⟩
          rw [← z]; decide
        · subst q
          refine ⟨fun z => c ⟨?_, c2⟩, by decide⟩
          rw [← z]; decide
      have e4 : kf2 (45 * j + (15 + 5 * t)) = kf (45 * j + (15 + 5 * t)) := e3 _ (by have := hk.1; have := hk.2; omega)
      exact e4.trans e0
    · obtain ⟨_, e2⟩ := hP.2 a1
      rw [e2]
      exact e0
theorem rm_kF {k : Int32} {T y yT w wT ac ac2 : Nat} {yK wK fK fK2 ikf kf f f2 : Nat → Int32} (h0 : IK y yT yK (ikf 0) kf 0) (h1 : IK w wT wK (ikf 1) kf 1) (hP : rmP k ikf kf f f2 ac ac2) (hT : T ≤ 6) (hF : kF T fK f) (hV : kV T fK) (hE : kE 6 (reN k y w yK wK fK) fK2) : kF (reN k y w yT wT T) fK2 f2 ∧ kV (reN k y w yT wT T) fK2 := by
  have eq := rm_eq (k := k) h0.1 h1.1
  by_cases c0 : k = 0 ∧ 0 < y
  · have n1 : reN k y w yT wT T = yT := if_pos c0
    have n2 : reN k y w yK wK fK = yK := if_pos c0
    rw [n1]
    rw [n2] at hE
    obtain ⟨h6, hF2, hV2⟩ := h0.2 c0.2
    have hA : rmA k ikf = 1 := by rw [eq, c0.1]; exact reA_0 (by decide) rfl c0.2
    obtain ⟨_, e2⟩ := hP.1 hA
    rw [c0.1] at e2
    refine ⟨kF_E (fun t ht => ?_) hE h6, kV_E hV2 hE h6⟩
    have e := e2 (15 + 5 * t) (by omega)
    rw [Nat.zero_add] at e
    exact e.trans (hF2 t ht)
  · by_cases c1 : k = 1 ∧ 0 < w
    · have n1 : reN k y w yT wT T = wT := by unfold reN; rw [if_neg c0, if_pos c1]
      have n2 : reN k y w yK wK fK = wK := by unfold reN; rw [if_neg c0, if_pos c1]
      rw [n1]
      rw [n2] at hE
      obtain ⟨h6, hF2, hV2⟩ := h1.2 c1.2
      have hA : rmA k ikf = 1 := by rw [eq, c1.1]; exact reA_1 (by decide) (by decide) c1.2
      obtain ⟨_, e2⟩ := hP.1 hA
      rw [c1.1] at e2
      refine ⟨kF_E (fun t ht => ?_) hE h6, kV_E hV2 hE h6⟩
      have e := e2 (15 + 5 * t) (by omega)
      rw [Nat.zero_add] at e
      exact e.trans (hF2 t ht)
    · have n1 : reN k y w yT wT T = T := by unfold reN; rw [if_neg c0, if_neg c1]
      have n2 : reN k y w yK wK fK = fK := by unfold reN; rw [if_neg c0, if_neg c1]
      rw [n1]
      rw [n2] at hE
      have hA : ¬ rmA k ikf = 1 := fun q => by
        rw [eq] at q
        by_cases cw : wI k 0 1 = 0
        · rw [reA_b cw] at q; exact absurd q (by decide)
        · rcases w01_or cw with e | e
          · have z : ¬ 0 < y := fun g => c0 ⟨e, g⟩
            rw [reA_0s cw e z] at q; exact absurd q (by decide)
          · have z : ¬ 0 < w := fun g => c1 ⟨e, g⟩
            rw [reA_1s cw (by rw [e]; decide) z] at q; exact absurd q (by decide)
      obtain ⟨_, e2⟩ := hP.2 hA
      rw [e2]
      exact ⟨kF_E hF hE hT, kV_E hV hE hT⟩
theorem kV_F {T : Nat} {fK m_f : Nat → Int32} (h : kV T fK) (e : kF T fK m_f) : kV T (fun t => m_f (15 + 5 * t)) := fun t ht => by
  obtain ⟨k, h1, h2, h3⟩ := h t ht
  exact ⟨k, h1, h2, (e t ht).trans h3⟩
theorem rm_wq {k : Int32} {R T R2 T2 ac ac2 : Nat} {ikf kf f f2 wf : Nat → Int32} (hP : rmP k ikf kf f f2 ac ac2) (h : wq (fun t => f (15 + 5 * t)) R T ac wf) (e : ¬ rmA k ikf = 1 → R2 = R ∧ T2 = T) : wq (fun t => f2 (15 + 5 * t)) R2 T2 ac2 wf := by
  by_cases c : rmA k ikf = 1
  · rw [(hP.1 c).1]; exact wq_0
  · obtain ⟨e1, e2⟩ := hP.2 c
    rw [e1, e2, (e c).1, (e c).2]
    exact h
theorem rm_rt {k : Int32} {R T y yT w wT : Nat} {ikf kf : Nat → Int32} (h0 : IM y yT (ikf 0) kf 0) (h1 : IM w wT (ikf 1) kf 1) (c : ¬ rmA k ikf = 1) : reN k y w y w R = R ∧ reN k y w yT wT T = T := by
  rw [rm_eq h0 h1] at c
  have n0 : ¬ (k = 0 ∧ 0 < y) := fun q => c (by rw [q.1]; exact reA_0 (by decide) rfl q.2)
  have n1 : ¬ (k = 1 ∧ 0 < w) := fun q => c (by rw [q.1]; exact reA_1 (by decide) (by decide) q.2)
  exact ⟨(re_n n0 n1).symm, (re_n n0 n1).symm⟩

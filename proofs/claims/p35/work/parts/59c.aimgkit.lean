/-! Images, class and reference side by side. -/
def imA (k : Int32) (R : Nat) : Int32 := if wI k 0 1 = 0 then (-1000001) else if 0 < R then 1 else (-1000002)
theorem imA_b {k : Int32} {R : Nat} (h : wI k 0 1 = 0) : imA k R = (-1000001) := if_pos h
theorem imA_s {k : Int32} {R : Nat} (h : ¬ wI k 0 1 = 0) (h2 : ¬ 0 < R) : imA k R = (-1000002) := by unfold imA; rw [if_neg h, if_neg h2]
theorem imA_1 {k : Int32} {R : Nat} (h : ¬ wI k 0 1 = 0) (h2 : 0 < R) : imA k R = 1 := by unfold imA; rw [if_neg h, if_pos h2]
theorem imA_y {k : Int32} {R : Nat} (h : imA k R = 1) : ¬ wI k 0 1 = 0 ∧ 0 < R := by
  by_cases c : wI k 0 1 = 0
  · rw [imA_b c] at h; exact absurd h (by decide)
  · by_cases c2 : 0 < R
    · exact ⟨c, c2⟩
    · rw [imA_s c c2] at h; exact absurd h (by decide)
theorem w01_0 {k : Int32} (h : wI k 0 1 = 0) : ¬ k = 0 := fun e => by rw [e] at h; exact absurd h (by decide)
theorem w01_1 {k : Int32} (h : wI k 0 1 = 0) : ¬ k = 1 := fun e => by rw [e] at h; exact absurd h (by decide)
theorem w01_or {k : Int32} (h : ¬ wI k 0 1 = 0) : k = 0 ∨ k = 1 := wt_01 h
theorem wP_0 {R : Nat} (h : wP (nI R) = 0) (hR : R < 2 ^ 31 := by omega) : ¬ 0 < R := fun q => by
  unfold wP at h
  rw [if_neg (nI_nle q hR)] at h
  exact absurd h (by decide)
/-- a number, a row of numbers behind image(k): of the image j -/
def imN {α : Type} (j k : Int32) (R : Nat) (a y : α) : α := if k = j ∧ 0 < R then a else y
theorem im_y {α : Type} {j k : Int32} {R : Nat} {a y : α} (e : k = j) (h : 0 < R) : a = imN j k R a y := (if_pos ⟨e, h⟩).symm
theorem im_n {α : Type} {j k : Int32} {R : Nat} {a y : α} (h : ¬ k = j) : y = imN j k R a y := (if_neg (fun q => h q.1)).symm
theorem im_z {α : Type} {j k : Int32} {R : Nat} {a y : α} (h : ¬ 0 < R) : y = imN j k R a y := (if_neg (fun q => h q.2)).symm
theorem imK_y {j k : Int32} {R : Nat} {f y g : Nat → Int32} (e : k = j) (h : 0 < R) (hk : kE 6 f g) : kE 6 (imN j k R f y) g := kE_r (im_y e h).symm hk
theorem imK_n {j k : Int32} {R : Nat} {f y : Nat → Int32} (h : ¬ k = j) : kE 6 (imN j k R f y) y := kE_r (im_n h).symm (fun _ _ => rfl)
theorem imK_z {j k : Int32} {R : Nat} {f y : Nat → Int32} (h : ¬ 0 < R) : kE 6 (imN j k R f y) y := kE_r (im_z h).symm (fun _ _ => rfl)
theorem kE_rf {n : Nat} {f : Nat → Int32} : kE n f f := fun _ _ => rfl
def reA (k : Int32) (y w : Nat) : Int32 := if wI k 0 1 = 0 then (-1000001) else if k = 0 then (if 0 < y then 1 else (-1000002)) else (if 0 < w then 1 else (-1000002))
theorem reA_b {k : Int32} {y w : Nat} (h : wI k 0 1 = 0) : reA k y w = (-1000001) := if_pos h
theorem reA_0 {k : Int32} {y w : Nat} (h : ¬ wI k 0 1 = 0) (e : k = 0) (h2 : 0 < y) : reA k y w = 1 := by unfold reA; rw [if_neg h, if_pos e, if_pos h2]
theorem reA_0s {k : Int32} {y w : Nat} (h : ¬ wI k 0 1 = 0) (e : k = 0) (h2 : ¬ 0 < y) : reA k y w = (-1000002) := by unfold reA; rw [if_neg h, if_pos e, if_neg h2]
theorem reA_1 {k : Int32} {y w : Nat} (h : ¬ wI k 0 1 = 0) (e : ¬ k = 0) (h2 : 0 < w) : reA k y w = 1 := by unfold reA; rw [if_neg h, if_neg e, if_pos h2]
theorem reA_1s {k : Int32} {y w : Nat} (h : ¬ wI k 0 1 = 0) (e : ¬ k = 0) (h2 : ¬ 0 < w) : reA k y w = (-1000002) := by unfold reA; rw [if_neg h, if_neg e, if_neg h2]
/-- a number, a row of numbers behind restore(k) -/
def reN {α : Type} (k : Int32) (y w : Nat) (a b c : α) : α := if k = 0 ∧ 0 < y then a else if k = 1 ∧ 0 < w then b else c
theorem re_0 {α : Type} {k : Int32} {y w : Nat} {a b c : α} (e : k = 0) (h : 0 < y) : a = reN k y w a b c := (if_pos ⟨e, h⟩).symm
theorem re_1 {α : Type} {k : Int32} {y w : Nat} {a b c : α} (e : k = 1) (h : 0 < w) : b = reN k y w a b c := by
  have h0 : ¬ (k = 0 ∧ 0 < y) := fun q => by rw [e] at q; exact absurd q.1 (by decide)
  unfold reN
  rw [if_neg h0, if_pos ⟨e, h⟩]
theorem re_n {α : Type} {k : Int32} {y w : Nat} {a b c : α} (h : ¬ (k = 0 ∧ 0 < y)) (h1 : ¬ (k = 1 ∧ 0 < w)) : c = reN k y w a b c := by
  unfold reN
  rw [if_neg h, if_neg h1]
theorem reK_r {k : Int32} {y w : Nat} {a b c g f : Nat → Int32} (e : f = reN k y w a b c) (h : kE 6 f g) : kE 6 (reN k y w a b c) g := kE_r e.symm h
/-- the reference's flag and row of an image, and the class's rooms and tubes of it -/
def IM (y yT : Nat) (b : Int32) (kf : Nat → Int32) (a : Nat) : Prop := (b = 0 ∧ y = 0) ∨ (¬ b = 0 ∧ 0 < y ∧ 0 < yT ∧ y ≤ 5 ∧ yT ≤ 6 ∧ rk y yT (fun k => kf (45 * a + k)))
theorem im_0 {kf : Nat → Int32} {a : Nat} : IM 0 0 0 kf a := Or.inl ⟨rfl, rfl⟩
def imP (k : Int32) (R : Nat) (ikf ikf2 kf kf2 f : Nat → Int32) : Prop := (imA k R = 1 → ikf2 = upd ikf k.toNatClampNeg (vp_nar .boolean 1) ∧ cpd 45 (45 * k.toNatClampNeg) 0 kf2 f ∧ ∀ q, (q < 45 * k.toNatClampNeg ∨ 45 * k.toNatClampNeg + 45 ≤ q) → kf2 q = kf q) ∧ (¬ imA k R = 1 → ikf2 = ikf ∧ kf2 = kf)
theorem imP_n {k : Int32} {R : Nat} {ikf kf f : Nat → Int32} {v : Int32} (e : imA k R = v) (h : ¬ v = 1) : imP k R ikf ikf kf kf f := ⟨fun q => absurd (e.symm.trans q) h, fun _ => ⟨rfl, rfl⟩⟩
theorem imP_y {j R i : Nat} {ikf kf kf2 f : Nat → Int32} (hj : j ≤ 1) (e : imA (nI j) R = 1) (hi : i = 45) (hc : cpd i (45 * j) 0 kf2 f) (ho : ∀ q, (q < 45 * j ∨ 45 * j + 45 ≤ q) → kf2 q = kf q) : imP (nI j) R ikf (upd ikf j (vp_nar .boolean 1)) kf kf2 f := by
  subst hi
  refine ⟨fun _ => ?_, fun q => absurd e q⟩
  rw [nI_clamp (by omega)]
  exact ⟨rfl, hc, ho⟩
theorem im_nar : ¬ vp_nar .boolean 1 = 0 := by decide
theorem im_step {j : Nat} {jk k : Int32} {R T y yT : Nat} {ikf ikf2 kf kf2 f : Nat → Int32} (hjk : jk = nI j) (hj : j ≤ 1) (h : IM y yT (ikf j) kf j) (hP : imP k R ikf ikf2 kf kf2 f) (hr : rk R T f) (hR : R ≤ 5) (hT : T ≤ 6) (hRT : 0 < R → 0 < T) : IM (imN jk k R R y) (imN jk k R T yT) (ikf2 j) kf2 j := by
  subst hjk
  by_cases c : imA k R = 1
  · obtain ⟨e1, e2, e3⟩ := hP.1 c
    obtain ⟨c1, c2⟩ := imA_y c
    by_cases ek : k = nI j
    · rw [← im_y ek c2, ← im_y ek c2]
      subst ek
      rw [nI_clamp (by omega)] at e1 e2 e3
      refine Or.inr ⟨?_, c2, hRT c2, hR, hT, rk_cpd (rk_z hr) e2 (by omega)⟩
      rw [e1, pk_us]
      exact im_nar
    · rw [← im_n ek, ← im_n ek]
      have hk : k.toNatClampNeg ≠ j ∧ k.toNatClampNeg ≤ 1 := by
        rcases w01_or c1 with q | q
        · subst q
          refine ⟨fun z => ek ?_, by decide⟩
          rw [← z]; decide
        · subst q
          refine ⟨fun z => ek ?_, by decide⟩
          rw [← z]; decide
      have e4 : ikf2 j = ikf j := by rw [e1]; exact pk_un (fun z => hk.1 z.symm)
      rw [e4]
      rcases h with h | ⟨h1, h2, h3, h4, h5, h6⟩
      · exact Or.inl h
      · refine Or.inr ⟨h1, h2, h3, h4, h5, rk_cpd (n := 45) (a := 45 * j) (b := 45 * j) (f := kf) h6 (fun q hq => e3 _ ?_) (by omega)⟩
        have := hk.1
        have := hk.2
        omega
  · obtain ⟨e1, e2⟩ := hP.2 c
    have hn : ¬ (k = nI j ∧ 0 < R) := fun q => by
      refine c (imA_1 (fun z => ?_) q.2)
      rcases (show j = 0 ∨ j = 1 by omega) with g | g
      · subst g; exact w01_0 z q.1
      · subst g; exact w01_1 z q.1
    have n1 : imN (nI j) k R R y = y := if_neg hn
    have n2 : imN (nI j) k R T yT = yT := if_neg hn
    rw [n1, n2, e1, e2]
    exact h
/-- restore, by the reference's flags -/
def rmA (k : Int32) (ikf : Nat → Int32) : Int32 := if wI k 0 1 = 0 then (-1000001) else if ikf k.toNatClampNeg = 0 then (-1000002) else 1
theorem rmA_b {k : Int32} {ikf : Nat → Int32} (h : wI k 0 1 = 0) : rmA k ikf = (-1000001) := if_pos h
theorem rmA_s {j : Nat} {ikf : Nat → Int32} (hj : j ≤ 1) (h : ¬ wI (nI j) 0 1 = 0) (h2 : ikf j = 0) : rmA (nI j) ikf = (-1000002) := by unfold rmA; rw [if_neg h, nI_clamp (by omega), if_pos h2]
theorem rmA_1 {j : Nat} {ikf : Nat → Int32} (hj : j ≤ 1) (h : ¬ wI (nI j) 0 1 = 0) (h2 : ¬ ikf j = 0) : rmA (nI j) ikf = 1 := by unfold rmA; rw [if_neg h, nI_clamp (by omega), if_neg h2]
def rmP (k : Int32) (ikf kf f f2 : Nat → Int32) (ac ac2 : Nat) : Prop := (rmA k ikf = 1 → ac2 = 0 ∧ cpd 45 0 (45 * k.toNatClampNeg) f2 kf) ∧ (¬ rmA k ikf = 1 → ac2 = ac ∧ f2 = f)
theorem rmP_n {k v : Int32} {ikf kf f : Nat → Int32} {ac : Nat} (e : rmA k ikf = v) (h : ¬ v = 1) : rmP k ikf kf f f ac ac := ⟨fun q => absurd (e.symm.trans q) h, fun _ => ⟨rfl, rfl⟩⟩
theorem rmP_y {j i : Nat} {ikf kf f f2 : Nat → Int32} {ac : Nat} (hj : j ≤ 1) (e : rmA (nI j) ikf = 1) (hi : i = 45) (hc : cpd i 0 (45 * j) f2 kf) : rmP (nI j) ikf kf f f2 ac 0 := by
  subst hi
  refine ⟨fun _ => ?_, fun q => absurd e q⟩
  rw [nI_clamp (by omega)]
  exact ⟨rfl, hc⟩
theorem im_b {y yT a : Nat} {b : Int32} {kf : Nat → Int32} (h : IM y yT b kf a) : (b = 0 ↔ ¬ 0 < y) := by
  rcases h with h | h
  · exact ⟨fun _ => by omega, fun _ => h.1⟩
  · exact ⟨fun q => absurd q h.1, fun q => absurd h.2.1 q⟩
theorem rm_eq {k : Int32} {y yT w wT : Nat} {ikf kf : Nat → Int32} (h0 : IM y yT (ikf 0) kf 0) (h1 : IM w wT (ikf 1) kf 1) : rmA k ikf = reA k y w := by
  by_cases c : wI k 0 1 = 0
  · rw [rmA_b c, reA_b c]
  · rcases w01_or c with e | e
    · subst e
      by_cases z : 0 < y
      · have b0 : ¬ ikf 0 = 0 := fun q => ((im_b h0).mp q) z
        rw [reA_0 c rfl z]
        exact rmA_1 (j := 0) (by omega) c b0
      · have b0 : ikf 0 = 0 := (im_b h0).mpr z
        rw [reA_0s c rfl z]
        exact rmA_s (j := 0) (by omega) c b0
    · subst e
      by_cases z : 0 < w
      · have b0 : ¬ ikf 1 = 0 := fun q => ((im_b h1).mp q) z
        rw [reA_1 c (by decide) z]
        exact rmA_1 (j := 1) (by omega) c b0
      · have b0 : ikf 1 = 0 := (im_b h1).mpr z
        rw [reA_1s c (by decide) z]
        exact rmA_s (j := 1) (by omega) c b0
/-- the reference's house behind restore has the class's rooms and tubes -/
theorem rm_rk {k : Int32} {R T y yT w wT ac ac2 : Nat} {ikf kf f f2 wf : Nat → Int32} (h0 : IM y yT (ikf 0) kf 0) (h1 : IM w wT (ikf 1) kf 1) (hP : rmP k ikf kf f f2 ac ac2) (hr : rk R T f) (hw : wk R T ac wf) (hRT : 0 < R → 0 < T) (hac : ac ≤ 24) : rk (reN k y w y w R) (reN k y w yT wT T) f2 ∧ wk (reN k y w y w R) (reN k y w yT wT T) ac2 wf ∧ (0 < reN k y w y w R → 0 < reN k y w yT wT T) ∧ ac2 ≤ 24 := by
  by_cases c : rmA k ikf = 1
  · obtain ⟨e1, e2⟩ := hP.1 c
    have c2 := (rm_eq (k := k) h0 h1).symm.trans c
    have cw : ¬ wI k 0 1 = 0 := fun q => by rw [rmA_b q] at c; exact absurd c (by decide)
    subst e1
    rcases w01_or cw with e | e
    · subst e
      have hy : 0 < y := by
        by_cases z : 0 < y
        · exact z
        · rw [reA_0s cw rfl z] at c2; exact absurd c2 (by decide)
      rw [← re_0 rfl hy, ← re_0 rfl hy]
      rcases h0 with h | ⟨_, _, h3, _, _, h6⟩
      · omega
      · exact ⟨rk_z' (rk_cpd h6 e2 (by omega)), wk_0, fun _ => h3, by omega⟩
    · subst e
      have hy : 0 < w := by
        by_cases z : 0 < w
        · exact z
        · rw [reA_1s cw (by decide) z] at c2; exact absurd c2 (by decide)
      rw [← re_1 rfl hy, ← re_1 rfl hy]
      rcases h1 with h | ⟨_, _, h3, _, _, h6⟩
      · omega
      · exact ⟨rk_z' (rk_cpd h6 e2 (by omega)), wk_0, fun _ => h3, by omega⟩
  · obtain ⟨e1, e2⟩ := hP.2 c
    have c2 : ¬ reA k y w = 1 := fun q => c ((rm_eq h0 h1).trans q)
    have n0 : ¬ (k = 0 ∧ 0 < y) := fun q => c2 (by rw [q.1]; exact reA_0 (by decide) rfl q.2)
    have n1 : ¬ (k = 1 ∧ 0 < w) := fun q => c2 (by rw [q.1]; exact reA_1 (by decide) (by decide) q.2)
    rw [← re_n n0 n1, ← re_n n0 n1, e1, e2]
    exact ⟨hr, hw, hRT, hac⟩
/-- a fact that the arithmetic of rows isn't to look into -/
def Hid (p : Prop) : Prop := p
theorem hid {p : Prop} (h : p) : Hid p := h
theorem hid_out {p : Prop} (h : Hid p) : p := h

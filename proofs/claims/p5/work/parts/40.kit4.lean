/-! A call of a nest mate's static method; digits. -/
theorem wt_runSN {p : Program} {l : Launch} {e : Env} {R : Room} {s : State} {m : MethodId} {args : Array Value} {below : List Frame} {meth : Method} {c : Code} {H : Heap} {locs : List Loc} {cells slots : Nat} {y : MethodName} {bytes cc : ByteArray} {maxL nL n index pc : Nat} {ret : Option FieldType} {wsx Ts : List Cond} {rm : Room} {own host : String} {As rest st0 : List Value} {ls : Array Slot} {D : va_G} {tys : List (ClassId × FieldType)} {ws wc : va_W} {A0 : Nat → Prop} {Qf : (Nat → Prop) → Array Value → State → Outcome → State → Prop}
    (S : CallFix p m c cc nL s args Ts own) (hM : wt_M l y wsx rm D tys As wc Qf) (cw : va_CN R s args own index y host bytes maxL ret wsx rm rm.cells rm.slots n ∧ (Cond.static y).before args s = true ∧ True) (hK : wt_K D tys s) (hP : va_P D vwCl ws H) (hD : va_D A0 ws) (isC : List Nat) (hC : isC.map (fun i => ws[i]?) = wc.map some) (hnd : va_nd isC = true)
    (hn : As.length = n) (hsize : ls.size = nL) (hstack : st0 = As.reverse ++ rest) (hW : (rest.map fun v => v.category).sum ≤ 8) (hdg : decode cc pc = .ok (.invokestatic index, 3)) (hf : cells + rm.cells ≤ R.cells ∧ slots + rm.slots ≤ R.slots) :
    va_Run p l e R s m args below meth c H locs cells slots rm.cells rm.slots (F0 m pc ls st0) rest (Qf (va_A wc H.size) As.toArray) (va_A wc H.size) :=
  va_runSN (As := As) (rest := rest) S (hM H.size) cw ⟨wt_blind, fun U hU hW => ⟨rfl, by rw [hU], by rw [hU]; exact hP.sub isC (wt_fm hC), hK.warm hW, (hD.sub isC hnd hC).weaken (fun _ _ _ _ => trivial)⟩⟩ rfl hn hsize hstack (lv_room hW) hdg hf
theorem wt_dig {x : Int32} (h : ¬ x < 48) : ¬ x = -1 := by
  intro e
  rw [e] at h
  exact h (by decide)
theorem wt_orv {r : Int32} {lo hi : Nat} (h : r = (-1) ∨ ∃ v : Nat, lo ≤ v ∧ v ≤ hi ∧ r = nI v) (h2 : ¬ r < 0) : ∃ v : Nat, lo ≤ v ∧ v ≤ hi ∧ r = nI v := by
  rcases h with h | h
  · rw [h] at h2; exact absurd (by decide) h2
  · exact h
theorem hw_push {R i v : Nat} {P : Nat → Int32} (h : hw R i P) (hv : v ≤ R) : hw R (i + 1) (upd P i (nI v)) := by
  intro t ht
  by_cases e : t = i
  · exact ⟨v, hv, by subst e; exact pk_us⟩
  · obtain ⟨q, h1, h2⟩ := h t (by omega)
    exact ⟨q, h1, by rw [pk_un e]; exact h2⟩

/-! Methods that read the class's static tables. -/
def wt_S1 (n : String) (t : Nat) (f : Nat → Int32) (A : Nat → Prop) (U : State) (H : Heap) : Prop := va_Z "WarmTubes" n "[I" (.ref t) A U H ∧ va_T .int t 6 (fun j => .int (f j)) A U H
theorem wt_S1.to {n : String} {t : Nat} {f : Nat → Int32} {A B : Nat → Prop} {u U : State} {H0 H : Heap} {locs : List Loc} (h : wt_S1 n t f A u H0) (hS : va_S A H0 H locs) (hAB : ∀ q, B q → A q) (hvm : u.vm.Alike U.vm) : wt_S1 n t f B U H :=
  ⟨((h.1.kept (fun a ha hn => hS.2.1 a ha hn)).narrow hAB).moved hvm, ((h.2.kept (fun a ha hn => hS.2.1 a ha hn)).narrow hAB).moved hvm⟩
def wt_ZS (ab sb mb : Nat) (af sf mf : Nat → Int32) (A : Nat → Prop) (U : State) (H : Heap) : Prop := wt_S1 "ABOVE" ab af A U H ∧ wt_S1 "SIZE_BODY" sb sf A U H ∧ wt_S1 "MARK_BODY" mb mf A U H
theorem wt_ZS.to {ab sb mb : Nat} {af sf mf : Nat → Int32} {A B : Nat → Prop} {u U : State} {H0 H : Heap} {locs : List Loc} (h : wt_ZS ab sb mb af sf mf A u H0) (hS : va_S A H0 H locs) (hAB : ∀ q, B q → A q) (hvm : u.vm.Alike U.vm) : wt_ZS ab sb mb af sf mf B U H :=
  ⟨h.1.to hS hAB hvm, h.2.1.to hS hAB hvm, h.2.2.to hS hAB hvm⟩
def wt_preZ (Z : (Nat → Prop) → State → Heap → Prop) (D : va_G) (tys : List (ClassId × FieldType)) (av : List Value) (ws : va_W) (sz : Nat) : Array Value → State → Prop := va_Pc av (fun U => U.heap.size = sz ∧ va_P D vwCl ws U.heap ∧ wt_K D tys U ∧ va_D (fun _ => True) ws ∧ Z (va_A ws sz) U U.heap)
theorem wt_blindZ {ab sb mb : Nat} {af sf mf : Nat → Int32} {D : va_G} {tys : List (ClassId × FieldType)} {av : List Value} {ws : va_W} {sz : Nat} : FrameBlind (wt_preZ (wt_ZS ab sb mb af sf mf) D tys av ws sz) := fun a U g mk q => by
  obtain ⟨q0, q1, qP, qK, qD, qZ⟩ := q
  exact ⟨q0, q1, qP, qK.calling, qD, qZ.to (U := U.calling g mk a) va_S.rf (fun _ h => h) (Vm.Alike.refl U.vm)⟩
def wt_MZ (Z : (Nat → Prop) → State → Heap → Prop) (l : Launch) (y : MethodName) (wsx : List Cond) (rm : Room) (D : va_G) (tys : List (ClassId × FieldType)) (av : List Value) (ws : va_W) (Qf : (Nat → Prop) → Array Value → State → Outcome → State → Prop) : Prop :=
  ∀ sz : Nat, Met l y wsx rm (wt_preZ Z D tys av ws sz) (Qf (va_A ws sz)) rm.cells rm.slots (va_A ws sz)
theorem wt_MZ.ofW {Z : (Nat → Prop) → State → Heap → Prop} {l : Launch} {y : MethodName} {wsx ws' : List Cond} {rm : Room} {D : va_G} {tys : List (ClassId × FieldType)} {av : List Value} {ws : va_W} {Qf : (Nat → Prop) → Array Value → State → Outcome → State → Prop} {cc : ByteArray} {maxL : Nat} {ret : Option FieldType}
    (hy : plainName y.cls = true) (hw : wsx = Cond.code y cc maxL ret :: ws') (hlen : (lg_sl av).length ≤ maxL)
    (body : ∀ (p : Program) (e : Env) (s : State) (m : MethodId) (below : List Frame) (meth : Method) (c : Code) (A : Nat → Prop) (ls : Array Slot), p.tables.exec = Jvm.exec → c.code = cc → meth.sig.returnType = ret → (∀ w ∈ wsx, w.before av.toArray s = true) → s.vm.findClass y.cls = some m.cls → meth.locks = false → c.maxLocals = maxL → meth.name = y.name → va_P D vwCl ws s.heap → wt_K D tys s → va_D A ws → (∀ q, s.heap.size ≤ q → A q) → va_S A s.heap s.heap [] → lv_has ls maxL (lv_args 0 av) → Z A s s.heap →
      W p l e rm s m av.toArray below meth c s.heap [] 0 0 (MQ below (Qf A) av.toArray s rm.cells rm.slots A) (F0 m 0 ls [])) : wt_MZ Z l y wsx rm D tys av ws Qf := by
  intro sz
  refine Met.ofW (cc := cc) (maxL := maxL) (ret := ret) hy hw ?_
  intro p e s m args below meth c s₁ B hml hv
  obtain ⟨rfl, hsz, hP, hK, hD0, hZ⟩ := hv
  subst hsz
  rw [lg_entry_eq]
  exact body p e s m below meth c (va_A ws s.heap.size) _ B.exec B.bytes B.returns (atoms_spec (ws := wsx) B.pre) (findClass_of_methodNamed B.named) B.notSynchronized hml (name_of_methodNamed B.named B.method).1 hP hK hD0.self (fun q h => Or.inr h) va_S.rf (lv_entry av hlen) hZ
section WTZ
variable {p : Program} {l : Launch} {e : Env} {R : Room} {s : State} {m : MethodId} {args : Array Value} {below : List Frame} {meth : Method} {c : Code} {H : Heap} {locs : List Loc} {cells slots : Nat}
  {y : MethodName} {bytes cc : ByteArray} {maxL nL n index pc : Nat} {ret : Option FieldType} {wsx Ts : List Cond} {rm : Room} {own C : String} {b : Addr} {As rest st0 : List Value} {ls : Array Slot} {D : va_G} {tys : List (ClassId × FieldType)} {ws wc : va_W} {A0 : Nat → Prop} {Qf : (Nat → Prop) → Array Value → State → Outcome → State → Prop} {ab sb mb : Nat} {af sf mf : Nat → Int32}
theorem wt_runSZ (S : CallFix p m c cc nL s args Ts own) (hM : wt_MZ (wt_ZS ab sb mb af sf mf) l y wsx rm D tys As wc Qf) (cw : CallB R s args own index y bytes maxL ret wsx rm rm.cells rm.slots n ∧ (Cond.static y).before args s = true) (hK : wt_K D tys s) (hP : va_P D vwCl ws H) (hD : va_D A0 ws) (isC : List Nat) (hC : isC.map (fun i => ws[i]?) = wc.map some) (hnd : va_nd isC = true)
    (hZ : wt_ZS ab sb mb af sf mf A0 s s.heap) (hS : va_S A0 s.heap H locs) (hA : ∀ q, s.heap.size ≤ q → A0 q)
    (hn : As.length = n) (hsize : ls.size = nL) (hstack : st0 = As.reverse ++ rest) (hW : (rest.map fun v => v.category).sum ≤ 8) (hdg : decode cc pc = .ok (.invokestatic index, 3)) (hf : cells + rm.cells ≤ R.cells ∧ slots + rm.slots ≤ R.slots) :
    va_Run p l e R s m args below meth c H locs cells slots rm.cells rm.slots (F0 m pc ls st0) rest (Qf (va_A wc H.size) As.toArray) (va_A wc H.size) :=
  va_runS (As := As) (rest := rest) S (hM H.size) cw ⟨wt_blindZ, fun U hU hW => ⟨rfl, by rw [hU], by rw [hU]; exact hP.sub isC (wt_fm hC), hK.warm hW, (hD.sub isC hnd hC).weaken (fun _ _ _ _ => trivial), by rw [hU]; exact hZ.to hS (va_free hD hS hA isC hC) hW.alike⟩⟩ rfl hn hsize hstack (lv_room hW) hdg hf
theorem wt_runVZ (S : CallFix p m c cc nL s args Ts own) (hM : wt_MZ (wt_ZS ab sb mb af sf mf) l y wsx rm D tys (.ref b :: As) wc Qf) (cw : CallW R s args own C index y bytes maxL ret wsx rm rm.cells rm.slots n) (hK : wt_K D tys s) (hP : va_P D vwCl ws H) (hD : va_D A0 ws) (isC : List Nat) (hC : isC.map (fun i => ws[i]?) = wc.map some) (hnd : va_nd isC = true)
    (hZ : wt_ZS ab sb mb af sf mf A0 s s.heap) (hS : va_S A0 s.heap H locs) (hA : ∀ q, s.heap.size ≤ q → A0 q)
    (hrecv : ∃ cell : Cell, H[b]? = some cell ∧ cell.vm.isStatics = false ∧ s.vm.findClass C = some cell.cls) (hn : As.length = n) (hsize : ls.size = nL) (hstack : st0 = As.reverse ++ .ref b :: rest) (hW : (rest.map fun v => v.category).sum ≤ 8) (hdg : decode cc pc = .ok (.invokevirtual index, 3)) (hf : cells + rm.cells ≤ R.cells ∧ slots + rm.slots ≤ R.slots) :
    va_Run p l e R s m args below meth c H locs cells slots rm.cells rm.slots (F0 m pc ls st0) rest (Qf (va_A wc H.size) (.ref b :: As).toArray) (va_A wc H.size) :=
  va_runV (As := As) (rest := rest) S (hM H.size) cw ⟨wt_blindZ, hrecv, fun U hU hW => ⟨rfl, by rw [hU], by rw [hU]; exact hP.sub isC (wt_fm hC), hK.warm hW, (hD.sub isC hnd hC).weaken (fun _ _ _ _ => trivial), by rw [hU]; exact hZ.to hS (va_free hD hS hA isC hC) hW.alike⟩⟩ rfl hn hsize hstack (lv_room hW) hdg hf
end WTZ

/-! own base rows: boolean answers, flat tables, contracts that read, contracts that write without making cells -/
def bI (b : Bool) : Int32 := if b = true then 1 else 0
theorem bI_nar (b : Bool) : narrow .boolean (.int (bI b)) = .int (bI b) := by cases b <;> rfl
theorem bI_0 {b : Bool} : bI b = 0 ↔ b = false := by cases b <;> simp [bI]
def fl (w : Nat) (C : Nat → Nat → Int32) : Nat → Int32 := fun k => C (k % w) (k / w)
def up2 (C : Nat → Nat → Int32) (c r : Nat) (v : Int32) : Nat → Nat → Int32 := fun c' => if c' = c then upd (C c) r v else C c'
def adr (ws : va_W) : Nat → Prop := fun q => q ∈ ws.map Prod.fst
def RdP (D : va_G) (tys : List (ClassId × FieldType)) (av : List Value) (ws : va_W) : Array Value → State → Prop := fun v U => v = av.toArray ∧ va_P D vwCl ws U.heap ∧ va_K D vwCl tys U
def MuP (D : va_G) (tys : List (ClassId × FieldType)) (av : List Value) (ws : va_W) : Array Value → State → Prop := fun v U => v = av.toArray ∧ va_P D vwCl ws U.heap ∧ va_K D vwCl tys U ∧ va_D (fun _ => True) ws
def QM (D : va_G) (o : Option Value) (ws ws' : va_W) : Array Value → State → Outcome → State → Prop := fun _ st oc t => oc = .returned o ∧ va_P D vwCl ws' t.heap ∧ va_F (adr ws) st t
theorem RdP.blind {D : va_G} {tys : List (ClassId × FieldType)} {av : List Value} {ws : va_W} : FrameBlind (RdP D tys av ws) := fun a U g mk q => ⟨q.1, q.2.1, va_K.moved (u := U) (U := U.calling g mk a) (Vm.Alike.refl U.vm) q.2.2⟩
theorem MuP.blind {D : va_G} {tys : List (ClassId × FieldType)} {av : List Value} {ws : va_W} : FrameBlind (MuP D tys av ws) := fun a U g mk q => ⟨q.1, q.2.1, va_K.moved (u := U) (U := U.calling g mk a) (Vm.Alike.refl U.vm) q.2.2.1, q.2.2.2⟩
def repl : va_W → List Nat → va_W → va_W
  | ws, i :: is, q :: w1 => repl (ws.set i q) is w1
  | ws, _, _ => ws
theorem repl_get : ∀ (is : List Nat) (w1 ws : va_W) (k : Nat) (q : Nat × va_E), is.length = w1.length → (repl ws is w1)[k]? = some q → q ∈ w1 ∨ (k ∉ is ∧ ws[k]? = some q)
  | [], [], ws, k, q, _, h => Or.inr ⟨List.not_mem_nil, h⟩
  | [], q0 :: w1, ws, k, q, hl, h => by simp at hl
  | i :: is, [], ws, k, q, hl, h => by simp at hl
  | i :: is, q0 :: w1, ws, k, q, hl, h => by
    rcases repl_get is w1 (ws.set i q0) k q (by simpa using hl) h with h1 | ⟨h1, h2⟩
    · exact Or.inl (List.mem_cons_of_mem _ h1)
    · by_cases hk : i = k
      · subst hk
        left
        have h3 : i < ws.length := by
          have := (List.getElem?_eq_some_iff.mp h2).1
          simpa using this
        rw [List.getElem?_set_self h3] at h2
        cases h2
        exact List.mem_cons_self
      · rw [List.getElem?_set_ne hk] at h2
        exact Or.inr ⟨fun h4 => (List.mem_cons.mp h4).elim (fun e => hk e.symm) h1, h2⟩
theorem va_D.fst {A : Nat → Prop} {ws ws' : va_W} (h : va_D A ws) (e : ws'.map Prod.fst = ws.map Prod.fst) : va_D A ws' := by
  have key : ∀ (k : Nat) (q : Nat × va_E), ws'[k]? = some q → ∃ q', ws[k]? = some q' ∧ q'.1 = q.1 := by
    intro k q hq
    have h1 : (ws'.map Prod.fst)[k]? = some q.1 := by rw [List.getElem?_map, hq]; rfl
    rw [e, List.getElem?_map] at h1
    cases h2 : ws[k]? with
    | none => rw [h2] at h1; cases h1
    | some q' => rw [h2] at h1; exact ⟨q', rfl, Option.some.inj h1⟩
  refine ⟨fun i j p q hi hj hpq => ?_, fun k q hk => ?_⟩
  · obtain ⟨p', hp', ep⟩ := key i p hi
    obtain ⟨q', hq', eq⟩ := key j q hj
    exact h.1 i j p' q' hp' hq' (by rw [ep, eq, hpq])
  · obtain ⟨q', hq', eq⟩ := key k q hk
    rw [← eq]
    exact h.2 k q' hq'
/-- behind a call that made nothing: the callee's cells are new, the others as they were -/
theorem repl_P {A : Nat → Prop} {D : va_G} {ws wc wc' wn : va_W} {H H1 : Heap} {is : List Nat} (hP : va_P D vwCl ws H) (hD : va_D A ws) (hs : is.map (fun i => ws[i]?) = wc.map some) (ha : wc'.map Prod.fst = wc.map Prod.fst) (hr : repl ws is wc' = wn) (hP1 : va_P D vwCl wc' H1) (hF : ∀ q : Nat, q < H.size → ¬ adr wc q → H1[q]? = H[q]?) : va_P D vwCl wn H1 := by
  subst hr
  have hl : is.length = wc'.length := by
    have h1 := congrArg List.length hs
    have h2 := congrArg List.length ha
    simp only [List.length_map] at h1 h2
    omega
  intro k q hk
  rcases repl_get is wc' ws k q hl hk with h | ⟨h1, h2⟩
  · obtain ⟨j, hj⟩ := List.getElem?_of_mem h
    exact hP1 j q hj
  · refine (hP k q h2).kept (hF q.1 (hP k q h2).lt ?_)
    intro h3
    obtain ⟨q', hq', e⟩ := List.mem_map.mp (show q.1 ∈ wc.map Prod.fst from h3)
    obtain ⟨j, hj⟩ := List.getElem?_of_mem hq'
    have h4 : (is.map (fun i => ws[i]?))[j]? = some (some q') := by rw [hs, List.getElem?_map, hj]; rfl
    rw [List.getElem?_map] at h4
    cases h5 : is[j]? with
    | none => rw [h5] at h4; cases h4
    | some i =>
      rw [h5] at h4
      have h6 : ws[i]? = some q' := Option.some.inj h4
      have h7 := hD.1 k i q q' h2 h6 e.symm
      subst h7
      exact h1 (List.mem_of_getElem? h5)
theorem adr_sub {A : Nat → Prop} {ws wc : va_W} {is : List Nat} (hD : va_D A ws) (hs : is.map (fun i => ws[i]?) = wc.map some) : ∀ q, adr wc q → A q := by
  intro q h3
  obtain ⟨q', hq', e⟩ := List.mem_map.mp (show q ∈ wc.map Prod.fst from h3)
  obtain ⟨j, hj⟩ := List.getElem?_of_mem hq'
  have h4 : (is.map (fun i => ws[i]?))[j]? = some (some q') := by rw [hs, List.getElem?_map, hj]; rfl
  rw [List.getElem?_map] at h4
  cases h5 : is[j]? with
  | none => rw [h5] at h4; cases h4
  | some i =>
    rw [h5] at h4
    have h6 : ws[i]? = some q' := Option.some.inj h4
    rw [← e]
    exact hD.2 i q' h6
theorem adr_D {A : Nat → Prop} {ws : va_W} (hD : va_D A ws) : va_D (adr ws) ws := ⟨hD.1, fun k q hk => List.mem_map.mpr ⟨q, List.mem_of_getElem? hk, rfl⟩⟩
theorem subP {D : va_G} {ws wc : va_W} {H : Heap} {is : List Nat} (hP : va_P D vwCl ws H) (hs : is.map (fun i => ws[i]?) = wc.map some) : va_P D vwCl wc H := by
  intro k q hk
  have h4 : (is.map (fun i => ws[i]?))[k]? = some (some q) := by rw [hs, List.getElem?_map, hk]; rfl
  rw [List.getElem?_map] at h4
  cases h5 : is[k]? with
  | none => rw [h5] at h4; cases h4
  | some i =>
    rw [h5] at h4
    exact hP i q (Option.some.inj h4)
section BASE
variable {p : Program} {l : Launch} {e : Env} {R : Room} {s : State} {m : MethodId} {args : Array Value} {below : List Frame} {meth : Method} {c : Code} {H H0 : Heap} {locs : List Loc} {cells slots : Nat} {Q : State → Prop}
variable {cc : ByteArray} {pc : Nat} {ls : Array Slot} {rest st0 : List Value} {D : va_G} {tys : List (ClassId × FieldType)} {A : Nat → Prop}
theorem lb_eq (hx : p.tables.exec = Jvm.exec) (hb : c.code = cc) {b : Bool} {off : Int} {tgt : Nat} (hdg : decode cc pc = .ok (.ifCond .eq off, 3)) (ht : (pc : Int) + off = (tgt : Int))
    (kt : b = false → W p l e R s m args below meth c H locs cells slots Q (F0 m tgt ls rest)) (kf : b = true → W p l e R s m args below meth c H locs cells slots Q (F0 m (pc + 3) ls rest)) : W p l e R s m args below meth c H locs cells slots Q (F0 m pc ls (.int (bI b) :: rest)) :=
  lv_if_eq hx hb hdg ht (fun h => kt (bI_0.mp h)) (fun h => kf (by cases b with | false => exact absurd rfl h | true => rfl))
theorem lb_ne (hx : p.tables.exec = Jvm.exec) (hb : c.code = cc) {b : Bool} {off : Int} {tgt : Nat} (hdg : decode cc pc = .ok (.ifCond .ne off, 3)) (ht : (pc : Int) + off = (tgt : Int))
    (kt : b = true → W p l e R s m args below meth c H locs cells slots Q (F0 m tgt ls rest)) (kf : b = false → W p l e R s m args below meth c H locs cells slots Q (F0 m (pc + 3) ls rest)) : W p l e R s m args below meth c H locs cells slots Q (F0 m pc ls (.int (bI b) :: rest)) :=
  lv_if_ne hx hb hdg ht (fun h => kt (by cases b with | false => exact absurd rfl h | true => rfl)) (fun h => kf (by cases b with | false => rfl | true => exact absurd h (by decide)))
theorem rd_iret {r v : Int32} (hx : p.tables.exec = Jvm.exec) (hb : c.code = cc) (hr : meth.sig.returnType = some .int) (hlocks : meth.locks = false) (hdg : decode cc pc = .ok (.ireturn, 1)) (hv : v = r) : W p l e R s m args below meth c s.heap [] 0 0 (MQ below (QcRead r) args s 0 0 (fun _ => False)) (F0 m pc ls [.int v]) :=
  W.iret hx hb hr (fun t ht hW => ⟨by rw [hv], ht⟩) (fun q h => by cases h) hdg hlocks
theorem rd_zret {b : Bool} {v : Int32} (hx : p.tables.exec = Jvm.exec) (hb : c.code = cc) (hr : meth.sig.returnType = some .boolean) (hlocks : meth.locks = false) (hdg : decode cc pc = .ok (.ireturn, 1)) (hv : v = bI b) : W p l e R s m args below meth c s.heap [] 0 0 (MQ below (QcRead (bI b)) args s 0 0 (fun _ => False)) (F0 m pc ls [.int v]) :=
  W.zret hx hb hr (by rw [hv]; exact bI_nar b) (fun t ht hW => ⟨by rw [hv], ht⟩) (fun q h => by cases h) hdg hlocks
theorem mu_iret {r v : Int32} {ws ws' : va_W} (hx : p.tables.exec = Jvm.exec) (hb : c.code = cc) (hr : meth.sig.returnType = some .int) (hlocks : meth.locks = false) (hS : va_S (adr ws) s.heap H locs) (hdg : decode cc pc = .ok (.ireturn, 1)) (hv : v = r) (hP : va_P D vwCl ws' H) : W p l e R s m args below meth c H locs 0 0 (MQ below (QM D (some (.int r)) ws ws') args s 0 0 (adr ws)) (F0 m pc ls [.int v]) :=
  W.iret hx hb hr (fun t ht hW => ⟨by rw [hv], by rw [ht]; exact hP, hS.F ht⟩) hS.2.2 hdg hlocks
theorem mu_zret {b : Bool} {v : Int32} {ws ws' : va_W} (hx : p.tables.exec = Jvm.exec) (hb : c.code = cc) (hr : meth.sig.returnType = some .boolean) (hlocks : meth.locks = false) (hS : va_S (adr ws) s.heap H locs) (hdg : decode cc pc = .ok (.ireturn, 1)) (hv : v = bI b) (hP : va_P D vwCl ws' H) : W p l e R s m args below meth c H locs 0 0 (MQ below (QM D (some (.int (bI b))) ws ws') args s 0 0 (adr ws)) (F0 m pc ls [.int v]) :=
  W.zret hx hb hr (by rw [hv]; exact bI_nar b) (fun t ht hW => ⟨by rw [hv], by rw [ht]; exact hP, hS.F ht⟩) hS.2.2 hdg hlocks
theorem mu_vret {ws ws' : va_W} (hx : p.tables.exec = Jvm.exec) (hb : c.code = cc) (hr : meth.sig.returnType = none) (hlocks : meth.locks = false) (hS : va_S (adr ws) s.heap H locs) (hdg : decode cc pc = .ok (.return_, 1)) (hP : va_P D vwCl ws' H) : W p l e R s m args below meth c H locs 0 0 (MQ below (QM D none ws ws') args s 0 0 (adr ws)) (F0 m pc ls []) :=
  W.vret hx hb hr (fun t ht hW => ⟨rfl, by rw [ht]; exact hP, hS.F ht⟩) hS.2.2 hdg hlocks
/-- a call that reads: of an object (the callee's world's first cell) -/
theorem rcV {y : MethodName} {bytes : ByteArray} {maxL nL n index ci : Nat} {ret : Option FieldType} {ws Ts : List Cond} {rm : Room} {own C : String} {b : Addr} {As : List Value} {wS wc : va_W} {r : Int32} {fs : List Value} {q : vw_C}
    (S : CallFix p m c cc nL s args Ts own) (hM : Met l y ws rm (RdP D tys (.ref b :: As) wc) (QcRead r) 0 0 (fun _ => False)) (cw : CallW R s args own C index y bytes maxL ret ws rm 0 0 n) (hK : va_K D vwCl tys s) (hP : va_P D vwCl wS H) (is : List Nat) (hs : is.map (fun i => wS[i]?) = wc.map some)
    (hc : vwCl[ci]? = some q) (hC : q.1 = C) (he : wc[0]? = some (b, .inr (ci, fs))) (hn : As.length = n) (hsz : ls.size = nL) (hst : st0 = As.reverse ++ .ref b :: rest) (hW : (rest.map fun v => v.category).sum ≤ 8) (hf : cells ≤ R.cells ∧ slots ≤ R.slots) (hdg : decode cc pc = .ok (.invokevirtual index, 3))
    (kk : W p l e R s m args below meth c H locs cells slots Q (F0 m (pc + 3) ls (.int r :: rest))) : W p l e R s m args below meth c H locs cells slots Q (F0 m pc ls st0) := by
  have hP1 := subP hP hs
  subst hC
  exact W.callR (W.runV S hM cw ⟨RdP.blind, va_recv hK hP1 hc he, fun U hU hWU => ⟨rfl, by rw [hU]; exact hP1, va_K.moved hWU.alike hK⟩⟩ rfl hn hsz hst (lv_room hW) hdg hf) kk
theorem rcS {y : MethodName} {bytes : ByteArray} {maxL nL n index : Nat} {ret : Option FieldType} {ws Ts : List Cond} {rm : Room} {own : String} {As : List Value} {wS wc : va_W} {r : Int32}
    (S : CallFix p m c cc nL s args Ts own) (hM : Met l y ws rm (RdP D tys As wc) (QcRead r) 0 0 (fun _ => False)) (cw : CallB R s args own index y bytes maxL ret ws rm 0 0 n ∧ (Cond.static y).before args s = true) (hK : va_K D vwCl tys s) (hP : va_P D vwCl wS H) (is : List Nat) (hs : is.map (fun i => wS[i]?) = wc.map some)
    (hn : As.length = n) (hsz : ls.size = nL) (hst : st0 = As.reverse ++ rest) (hW : (rest.map fun v => v.category).sum ≤ 8) (hf : cells ≤ R.cells ∧ slots ≤ R.slots) (hdg : decode cc pc = .ok (.invokestatic index, 3))
    (kk : W p l e R s m args below meth c H locs cells slots Q (F0 m (pc + 3) ls (.int r :: rest))) : W p l e R s m args below meth c H locs cells slots Q (F0 m pc ls st0) := by
  have hP1 := subP hP hs
  exact W.callR (W.runS S hM cw ⟨RdP.blind, fun U hU hWU => ⟨rfl, by rw [hU]; exact hP1, va_K.moved hWU.alike hK⟩⟩ rfl hn hsz hst (lv_room hW) hdg hf) kk
/-- a call that writes: the callee's cells are new behind it, the others as they were -/
theorem mcV {y : MethodName} {bytes : ByteArray} {maxL nL n index ci : Nat} {ret : Option FieldType} {ws Ts : List Cond} {rm : Room} {own C : String} {b : Addr} {As : List Value} {wS wc wc' wn : va_W} {o : Option Value} {fs : List Value} {q : vw_C}
    (S : CallFix p m c cc nL s args Ts own) (hM : Met l y ws rm (MuP D tys (.ref b :: As) wc) (QM D o wc wc') 0 0 (adr wc)) (cw : CallW R s args own C index y bytes maxL ret ws rm 0 0 n) (hK : va_K D vwCl tys s) (hP : va_P D vwCl wS H) (hD : va_D A wS) (hS : va_S A H0 H locs) (is : List Nat) (hnd : va_nd is = true) (hs : is.map (fun i => wS[i]?) = wc.map some) (ha : wc'.map Prod.fst = wc.map Prod.fst) (hr : repl wS is wc' = wn) (hfa : wn.map Prod.fst = wS.map Prod.fst)
    (hc : vwCl[ci]? = some q) (hC : q.1 = C) (he : wc[0]? = some (b, .inr (ci, fs))) (hn : As.length = n) (hsz : ls.size = nL) (hst : st0 = As.reverse ++ .ref b :: rest) (hW : (rest.map fun v => v.category).sum ≤ 8) (hf : cells ≤ R.cells ∧ slots ≤ R.slots) (hdg : decode cc pc = .ok (.invokevirtual index, 3))
    (kk : ∀ (H1 : Heap) (locs1 : List Loc), va_P D vwCl wn H1 → va_D A wn → va_S A H0 H1 locs1 → W p l e R s m args below meth c H1 locs1 cells slots Q (F0 m (pc + 3) ls (o.toList ++ rest))) : W p l e R s m args below meth c H locs cells slots Q (F0 m pc ls st0) := by
  have hP1 := subP hP hs
  have hDc : va_D (fun _ => True) wc := (hD.sub is hnd hs).weaken (fun _ _ _ _ => trivial)
  subst hC
  intro T hT X
  obtain ⟨v, st₀, t, T', L, h0, X', hL, e1, ⟨hv, hq, hF⟩, st⟩ := W.runV S hM cw ⟨MuP.blind, va_recv hK hP1 hc he, fun U hU hWU => ⟨rfl, by rw [hU]; exact hP1, va_K.moved hWU.alike hK, hDc⟩⟩ rfl hn hsz hst (lv_room hW) hdg hf T hT X
  cases hv
  have hF2 : ∀ q : Nat, q < H.size → ¬ adr wc q → T'.heap[q]? = H[q]? := fun q h1 h2 => by rw [e1, hF.2 q (by rw [h0]; exact h1) h2, h0]
  have hz : H.size ≤ T'.heap.size := by rw [e1]; have := hF.1; rw [h0] at this; exact this
  have hsub := adr_sub hD hs
  obtain ⟨t2, a1, b1⟩ := kk T'.heap (locs ++ L) (repl_P hP hD hs ha hr (by rw [e1]; exact hq) hF2) (hD.fst hfa)
    ⟨Nat.le_trans hS.1 hz, fun q h1 h2 => by rw [hF2 q (Nat.lt_of_lt_of_le h1 hS.1) (fun z => h2 (hsub q z))]; exact hS.2.1 q h1 h2, fun q hq => by
      rcases List.mem_append.mp hq with h | h
      · exact hS.2.2 q h
      · exact hsub _ (hL q h)⟩ T' rfl X'
  exact ⟨t2, st t2 a1, b1⟩
end BASE
/-- a method that reads -/
theorem rd_of {l : Launch} {y : MethodName} {ws ws' : List Cond} {rm : Room} {cc : ByteArray} {maxL : Nat} {ret : Option FieldType} {D : va_G} {tys : List (ClassId × FieldType)} {av : List Value} {wc : va_W} {r : Int32} (hy : plainName y.cls = true) (hw : ws = Cond.code y cc maxL ret :: ws') (hlen : (lg_sl av).length ≤ maxL)
    (body : ∀ (p : Program) (e : Env) (s : State) (m : MethodId) (below : List Frame) (meth : Method) (c : Code) (ls : Array Slot), p.tables.exec = Jvm.exec → c.code = cc → meth.sig.returnType = ret → (∀ w ∈ ws, w.before av.toArray s = true) → s.vm.findClass y.cls = some m.cls → meth.locks = false → c.maxLocals = maxL → va_P D vwCl wc s.heap → va_K D vwCl tys s → lv_has ls maxL (lv_args 0 av) →
      W p l e rm s m av.toArray below meth c s.heap [] 0 0 (MQ below (QcRead r) av.toArray s 0 0 (fun _ => False)) (F0 m 0 ls [])) : Met l y ws rm (RdP D tys av wc) (QcRead r) 0 0 (fun _ => False) := by
  refine Met.ofW (cc := cc) (maxL := maxL) (ret := ret) hy hw ?_
  intro p e s m args below meth c s₁ B hml hv
  obtain ⟨rfl, hP, hK⟩ := hv
  rw [lg_entry_eq]
  exact body p e s m below meth c _ B.exec B.bytes B.returns (atoms_spec (ws := ws) B.pre) (findClass_of_methodNamed B.named) B.notSynchronized hml hP hK (lv_entry av hlen)
/-- a method that writes -/
theorem mu_of {l : Launch} {y : MethodName} {ws ws' : List Cond} {rm : Room} {cc : ByteArray} {maxL : Nat} {ret : Option FieldType} {D : va_G} {tys : List (ClassId × FieldType)} {av : List Value} {wc wc' : va_W} {o : Option Value} (hy : plainName y.cls = true) (hw : ws = Cond.code y cc maxL ret :: ws') (hlen : (lg_sl av).length ≤ maxL)
    (body : ∀ (p : Program) (e : Env) (s : State) (m : MethodId) (below : List Frame) (meth : Method) (c : Code) (ls : Array Slot), p.tables.exec = Jvm.exec → c.code = cc → meth.sig.returnType = ret → (∀ w ∈ ws, w.before av.toArray s = true) → s.vm.findClass y.cls = some m.cls → meth.locks = false → c.maxLocals = maxL → va_K D vwCl tys s → lv_has ls maxL (lv_args 0 av) →
      ∀ (H : Heap) (locs : List Loc), va_P D vwCl wc H → va_D (adr wc) wc → va_S (adr wc) s.heap H locs → W p l e rm s m av.toArray below meth c H locs 0 0 (MQ below (QM D o wc wc') av.toArray s 0 0 (adr wc)) (F0 m 0 ls [])) : Met l y ws rm (MuP D tys av wc) (QM D o wc wc') 0 0 (adr wc) := by
  refine Met.ofW (cc := cc) (maxL := maxL) (ret := ret) hy hw ?_
  intro p e s m args below meth c s₁ B hml hv
  obtain ⟨rfl, hP, hK, hD⟩ := hv
  rw [lg_entry_eq]
  exact body p e s m below meth c _ B.exec B.bytes B.returns (atoms_spec (ws := ws) B.pre) (findClass_of_methodNamed B.named) B.notSynchronized hml hK (lv_entry av hlen) s.heap [] hP (adr_D hD) va_S.rf

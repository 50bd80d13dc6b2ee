theorem isHd_out {np : Nat} {P : Nat → Nat → Int32} {p : Int32} (h : inR np p = false) : isHd np P p = false := by simp [isHd, h]
theorem isHd_yes {np : Nat} {P : Nat → Nat → Int32} {j : Nat} (hn : np ≤ 24) (h : j < np) (e : P 4 j = -1) : isHd np P (nI j) = true := by
  unfold isHd
  rw [show tat np 6 P (nI j) 4 = P 4 j from tat_nI (c := 4) (by omega) (by omega) h (by omega), inR_lt h (by omega), e]
  decide
theorem isHd_no {np : Nat} {P : Nat → Nat → Int32} {j : Nat} (hn : np ≤ 24) (h : j < np) (e : ¬ P 4 j = -1) : isHd np P (nI j) = false := by
  unfold isHd
  rw [show tat np 6 P (nI j) 4 = P 4 j from tat_nI (c := 4) (by omega) (by omega) h (by omega)]
  simp [e]
theorem isSt_up4 (np : Nat) (P : Nat → Nat → Int32) (j : Nat) (v x : Int32) : isSt np (up2 P 4 j v) x = isSt np P x := by
  unfold isSt tat
  rfl
theorem okBr_iff {nh nb : Nat} {h g a b : Int32} : okBr nh nb h g a b = true ↔ (twoH nh h g = true ∧ 0 ≤ a.toInt ∧ a.toInt ≤ b.toInt ∧ b.toInt ≤ 3000 ∧ nb < 20) := by
  have h0 : (0 : Int32).toInt = 0 := by decide
  have h3 : (3000 : Int32).toInt = 3000 := by decide
  unfold okBr inB
  simp only [Bool.and_eq_true, Bool.not_eq_true', decide_eq_false_iff_not, decide_eq_true_eq, fa_lt, fa_le, h0, h3]
  constructor
  · rintro ⟨⟨⟨⟨h1, h2⟩, h3⟩, h4⟩, h5⟩
    exact ⟨h1, by omega, by omega, by omega, by omega⟩
  · rintro ⟨h1, h2, h3, h4, h5⟩
    exact ⟨⟨⟨⟨h1, by omega⟩, by omega⟩, by omega⟩, by omega⟩
theorem inB_inR {v : Int32} {hi : Nat} {H : Int32} (e : H = nI hi) (hb : hi < 2 ^ 31 - 1) : inB v 0 H = inR (hi + 1) v := by
  unfold inB inR
  congr 1
  rw [e]
  have h1 : (nI hi < v) ↔ (nI (hi + 1) ≤ v) := by
    rw [fa_lt, fa_le, nI_toInt (by omega), nI_toInt (by omega)]
    omega
  simp [h1]
theorem tat_noc {n w hi : Nat} {C : Nat → Nat → Int32} {r c H : Int32} (h : inB c 0 H = false) (e : H = nI hi) (hw : w = hi + 1) (hb : hi < 2 ^ 31 - 1 := by omega) : tat n w C r c = -1 := by
  rw [inB_inR e hb] at h
  unfold tat
  rw [hw, h]
  simp
theorem inR_nlt {n : Nat} {r : Int32} (h : ¬ r < nI n) : inR n r = false := by
  have h1 : nI n ≤ r := by rw [fa_lt] at h; rw [fa_le]; omega
  simp [inR, h1]
theorem inR_ylt {n : Nat} {r : Int32} (h0 : ¬ r < 0) (h : r < nI n) : inR n r = true := by
  have h1 : ¬ nI n ≤ r := by rw [fa_lt] at h; rw [fa_le]; omega
  simp [inR, h0, h1]
theorem tat_nocs {nn : Nat} {C : Nat → Nat → Int32} {r : Int32} {w : Int32} (h0 : ¬ w = 0) (h1 : ¬ w = 1) (h2 : ¬ w = 2) (h3 : ¬ w = 3) (h4 : ¬ w = 4) : tat nn 5 C r w = -1 := by
  by_cases c : inR 5 w = true
  · obtain ⟨j, hj, rfl⟩ := inR_ex c (by omega)
    exfalso
    rcases (show j = 0 ∨ j = 1 ∨ j = 2 ∨ j = 3 ∨ j = 4 by omega) with e | e | e | e | e <;> subst e
    · exact h0 rfl
    · exact h1 rfl
    · exact h2 rfl
    · exact h3 rfl
    · exact h4 rfl
  · unfold tat
    rw [show inR 5 w = false by simpa using c]
    simp
section WHOLE
variable {p : Program} {l : Launch} {e : Env} {R : Room} {s : State} {m : MethodId} {args : Array Value} {below : List Frame} {meth : Method} {c : Code} {H H0 : Heap} {locs : List Loc} {cells slots : Nat} {Q : State → Prop}
variable {cc : ByteArray} {pc : Nat} {ls : Array Slot} {rest st0 : List Value} {D : va_G} {tys : List (ClassId × FieldType)} {A : Nat → Prop}
/-- a call that reads, the callee's world being the caller's -/
theorem rcVw {y : MethodName} {bytes : ByteArray} {maxL nL n index ci : Nat} {ret : Option FieldType} {ws Ts : List Cond} {rm : Room} {own C : String} {b : Addr} {As : List Value} {wS : va_W} {r : Int32} {fs : List Value} {q : vw_C}
    (S : CallFix p m c cc nL s args Ts own) (hM : Met l y ws rm (RdP D tys (.ref b :: As) wS) (QcRead r) 0 0 (fun _ => False)) (cw : CallW R s args own C index y bytes maxL ret ws rm 0 0 n) (hK : va_K D vwCl tys s) (hP : va_P D vwCl wS H)
    (hc : vwCl[ci]? = some q) (hC : q.1 = C) (he : wS[0]? = some (b, .inr (ci, fs))) (hn : As.length = n) (hsz : ls.size = nL) (hst : st0 = As.reverse ++ .ref b :: rest) (hW : (rest.map fun v => v.category).sum ≤ 8) (hf : cells ≤ R.cells ∧ slots ≤ R.slots) (hdg : decode cc pc = .ok (.invokevirtual index, 3))
    (kk : W p l e R s m args below meth c H locs cells slots Q (F0 m (pc + 3) ls (.int r :: rest))) : W p l e R s m args below meth c H locs cells slots Q (F0 m pc ls st0) := by
  subst hC
  exact W.callR (W.runV S hM cw ⟨RdP.blind, va_recv hK hP hc he, fun U hU hWU => ⟨rfl, by rw [hU]; exact hP, va_K.moved hWU.alike hK⟩⟩ rfl hn hsz hst (lv_room hW) hdg hf) kk
/-- a call that writes, the callee's world being the caller's -/
theorem mcVw {y : MethodName} {bytes : ByteArray} {maxL nL n index ci : Nat} {ret : Option FieldType} {ws Ts : List Cond} {rm : Room} {own C : String} {b : Addr} {As : List Value} {wS wn : va_W} {o : Option Value} {fs : List Value} {q : vw_C}
    (S : CallFix p m c cc nL s args Ts own) (hM : Met l y ws rm (MuP D tys (.ref b :: As) wS) (QM D o wS wn) 0 0 (adr wS)) (cw : CallW R s args own C index y bytes maxL ret ws rm 0 0 n) (hK : va_K D vwCl tys s) (hP : va_P D vwCl wS H) (hD : va_D A wS) (hS : va_S A H0 H locs) (hfa : wn.map Prod.fst = wS.map Prod.fst)
    (hc : vwCl[ci]? = some q) (hC : q.1 = C) (he : wS[0]? = some (b, .inr (ci, fs))) (hn : As.length = n) (hsz : ls.size = nL) (hst : st0 = As.reverse ++ .ref b :: rest) (hW : (rest.map fun v => v.category).sum ≤ 8) (hf : cells ≤ R.cells ∧ slots ≤ R.slots) (hdg : decode cc pc = .ok (.invokevirtual index, 3))
    (kk : ∀ (H1 : Heap) (locs1 : List Loc), va_P D vwCl wn H1 → va_D A wn → va_S A H0 H1 locs1 → W p l e R s m args below meth c H1 locs1 cells slots Q (F0 m (pc + 3) ls (o.toList ++ rest))) : W p l e R s m args below meth c H locs cells slots Q (F0 m pc ls st0) := by
  have hDc : va_D (fun _ => True) wS := hD.weaken (fun _ _ _ _ => trivial)
  subst hC
  intro T hT X
  obtain ⟨v, st₀, t, T', L, h0, X', hL, e1, ⟨hv, hq, hF⟩, st⟩ := W.runV S hM cw ⟨MuP.blind, va_recv hK hP hc he, fun U hU hWU => ⟨rfl, by rw [hU]; exact hP, va_K.moved hWU.alike hK, hDc⟩⟩ rfl hn hsz hst (lv_room hW) hdg hf T hT X
  cases hv
  have hF2 : ∀ q : Nat, q < H.size → ¬ adr wS q → T'.heap[q]? = H[q]? := fun q h1 h2 => by rw [e1, hF.2 q (by rw [h0]; exact h1) h2, h0]
  have hz : H.size ≤ T'.heap.size := by rw [e1]; have := hF.1; rw [h0] at this; exact this
  have hsub : ∀ q, adr wS q → A q := fun q h3 => by
    obtain ⟨q', hq', e⟩ := List.mem_map.mp (show q ∈ wS.map Prod.fst from h3)
    obtain ⟨j, hj⟩ := List.getElem?_of_mem hq'
    rw [← e]
    exact hD.2 j q' hj
  obtain ⟨t2, a1, b1⟩ := kk T'.heap (locs ++ L) (by rw [e1]; exact hq) (hD.fst hfa)
    ⟨Nat.le_trans hS.1 hz, fun q h1 h2 => by rw [hF2 q (Nat.lt_of_lt_of_le h1 hS.1) (fun z => h2 (hsub q z))]; exact hS.2.1 q h1 h2, fun q hq => by
      rcases List.mem_append.mp hq with h | h
      · exact hS.2.2 q h
      · exact hsub _ (hL q h)⟩ T' rfl X'
  exact ⟨t2, st t2 a1, b1⟩
end WHOLE

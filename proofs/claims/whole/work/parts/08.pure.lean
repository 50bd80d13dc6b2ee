/-! plain rows: numbers, the tables' own functions -/
theorem fa_lt (a b : Int32) : a < b ↔ a.toInt < b.toInt := Int32.lt_iff_toInt_lt
theorem fa_le (a b : Int32) : a ≤ b ↔ a.toInt ≤ b.toInt := Int32.le_iff_toInt_le
theorem fa_eq (a b : Int32) : a = b ↔ a.toInt = b.toInt := ⟨fun h => h ▸ rfl, fun h => Int32.toInt_inj.mp h⟩
/-- an index of n rows -/
def inR (n : Nat) (r : Int32) : Bool := !decide (r < 0) && !decide (nI n ≤ r)
theorem inR_ex {n : Nat} {r : Int32} (h : inR n r = true) (hn : n < 2 ^ 31) : ∃ j : Nat, j < n ∧ r = nI j := by
  simp only [inR, Bool.and_eq_true, Bool.not_eq_true', decide_eq_false_iff_not] at h
  rcases pk_ix r hn with q | q | q
  · exact absurd q h.1
  · exact absurd q h.2
  · exact q
theorem inR_nI {n j : Nat} (hn : n < 2 ^ 31) (hj : j < 2 ^ 31) : inR n (nI j) = decide (j < n) := by
  have h1 : ¬ nI j < 0 := nI_pos hj
  by_cases h : j < n
  · have h2 : ¬ nI n ≤ nI j := nI_ge h hn
    simp [inR, h1, h2, h]
  · have h2 : nI n ≤ nI j := nI_le (by omega) hj
    simp [inR, h2, h]
theorem inR_lt {n j : Nat} (h : j < n) (hn : n < 2 ^ 31) : inR n (nI j) = true := by
  rw [inR_nI hn (by omega)]; simp [h]
theorem inR_no {n : Nat} {r : Int32} (h : r < 0) : inR n r = false := by simp [inR, h]
theorem inR_m1 (n : Nat) : inR n (-1) = false := inR_no (by decide)
/-- a table's cell; none outside -/
def tat (n w : Nat) (C : Nat → Nat → Int32) (r c : Int32) : Int32 := if (inR n r && inR w c) = true then C c.toNatClampNeg r.toNatClampNeg else -1
/-- a table with a cell written; nothing outside -/
def tput (n w : Nat) (C : Nat → Nat → Int32) (r c v : Int32) : Nat → Nat → Int32 := if (inR n r && inR w c) = true then up2 C c.toNatClampNeg r.toNatClampNeg v else C
def adn (mo n : Nat) : Nat := if mo ≤ n then n else n + 1
def arow (mo n : Nat) : Int32 := if mo ≤ n then -1 else nI n
theorem tat_nI {n w : Nat} {C : Nat → Nat → Int32} {r c : Nat} (hn : n < 2 ^ 31) (hw : w < 2 ^ 31) (hr : r < n) (hc : c < w) : tat n w C (nI r) (nI c) = C c r := by
  unfold tat
  rw [inR_lt hr hn, inR_lt hc hw, nI_clamp (by omega), nI_clamp (by omega)]
  rfl
theorem tat_no {n w : Nat} {C : Nat → Nat → Int32} {r c : Int32} (h : inR n r = false) : tat n w C r c = -1 := by simp [tat, h]
theorem tput_nI {n w : Nat} {C : Nat → Nat → Int32} {r c : Nat} {v : Int32} (hn : n < 2 ^ 31) (hw : w < 2 ^ 31) (hr : r < n) (hc : c < w) : tput n w C (nI r) (nI c) v = up2 C c r v := by
  unfold tput
  rw [inR_lt hr hn, inR_lt hc hw, nI_clamp (by omega), nI_clamp (by omega)]
  rfl
theorem tput_no {n w : Nat} {C : Nat → Nat → Int32} {r c v : Int32} (h : inR n r = false) : tput n w C r c v = C := by simp [tput, h]
theorem fl_at {w : Nat} {C : Nat → Nat → Int32} {r c : Nat} (hc : c < w) : fl w C (r * w + c) = C c r := by
  unfold fl
  have h1 : (r * w + c) % w = c := by rw [Nat.mul_comm, Nat.mul_add_mod]; exact Nat.mod_eq_of_lt hc
  have h2 : (r * w + c) / w = r := by
    rw [Nat.mul_comm, Nat.mul_add_div (by omega), Nat.div_eq_of_lt hc]; omega
  rw [h1, h2]
theorem fl_up {w : Nat} {C : Nat → Nat → Int32} {r c : Nat} {v : Int32} (hc : c < w) : fl w (up2 C c r v) = upd (fl w C) (r * w + c) v := by
  funext k
  unfold fl up2 upd
  by_cases h : k = r * w + c
  · subst h
    have h1 : (r * w + c) % w = c := by rw [Nat.mul_comm, Nat.mul_add_mod]; exact Nat.mod_eq_of_lt hc
    have h2 : (r * w + c) / w = r := by
      rw [Nat.mul_comm, Nat.mul_add_div (by omega), Nat.div_eq_of_lt hc]; omega
    simp [h1, h2]
  · rw [if_neg h]
    by_cases h1 : k % w = c
    · rw [if_pos h1]
      have h2 : ¬ k / w = r := by
        intro h2
        apply h
        have := Nat.div_add_mod k w
        rw [h2, h1, Nat.mul_comm] at this
        exact this.symm
      rw [if_neg h2]
      show _ = C (k % w) (k / w)
      rw [h1]
    · rw [if_neg h1]
theorem fl_up_out {w : Nat} {C : Nat → Nat → Int32} {r c : Nat} {v : Int32} (h0 : 0 < w) (hc : w ≤ c) : fl w (up2 C c r v) = fl w C := by
  funext k
  unfold fl up2
  rw [if_neg (by have := Nat.mod_lt k h0; omega)]
/-- the place of a cell in a flat table -/
theorem cell_ix {n w : Nat} {r c : Int32} (h : (inR n r && inR w c) = true) (hn : n < 2 ^ 31) (hw : w < 2 ^ 31) : r * nI w + c = nI (r.toNatClampNeg * w + c.toNatClampNeg) ∧ r.toNatClampNeg < n ∧ c.toNatClampNeg < w := by
  rw [Bool.and_eq_true] at h
  obtain ⟨i, hi, rfl⟩ := inR_ex h.1 hn
  obtain ⟨j, hj, rfl⟩ := inR_ex h.2 hw
  rw [nI_clamp (by omega), nI_clamp (by omega), pk_mul, nI_add]
  exact ⟨rfl, hi, hj⟩
theorem cell_lt {n mo w i j : Nat} (hn : n ≤ mo) (hi : i < n) (hj : j < w) : i * w + j < mo * w := by
  have h1 : (i + 1) * w ≤ mo * w := Nat.mul_le_mul_right w (by omega)
  rw [Nat.succ_mul] at h1
  omega
section ALN
variable {p : Program} {l : Launch} {e : Env} {R : Room} {s : State} {m : MethodId} {args : Array Value} {below : List Frame} {meth : Method} {c : Code} {H H0 : Heap} {locs : List Loc} {cells slots : Nat} {Q : State → Prop}
variable {cc : ByteArray} {pc : Nat} {ls : Array Slot} {rest : List Value} {D : va_G} {cl : List vw_C} {ws : va_W} {tys : List (ClassId × FieldType)} {A : Nat → Prop} {a : Nat}
theorem va_ialdN (hexec : p.tables.exec = Jvm.exec) (hb : c.code = cc) (hK : va_K D cl tys s) (hP : va_P D cl ws H) (q0 t0 : Nat) {cA : ClassId} {n : Nat} {f : Nat → Int32} (ha : ws[q0]? = some (a, .inl (cA, n, .inl f))) (ht : tys[t0]? = some (cA, .int)) {i : Int32} (j : Nat) (hj : i = nI j) (hlt : j < n) (hn : n < 2 ^ 31) (hdg : decode cc pc = .ok (.iaload, 1))
    (kk : W p l e R s m args below meth c H locs cells slots Q (F0 m (pc + 1) ls (.int (f j) :: rest))) : W p l e R s m args below meth c H locs cells slots Q (F0 m pc ls (.int i :: .ref a :: rest)) := by
  subst hj
  refine va_iald hexec hb hK hP q0 t0 ha ht (vp_in_nI hlt hn) hdg ?_
  rw [nI_clamp (by omega)]
  exact kk
theorem va_zaldN (hexec : p.tables.exec = Jvm.exec) (hb : c.code = cc) (hK : va_K D cl tys s) (hP : va_P D cl ws H) (q0 t0 : Nat) {cA : ClassId} {n : Nat} {f : Nat → Int32} (ha : ws[q0]? = some (a, .inl (cA, n, .inl f))) (ht : tys[t0]? = some (cA, .boolean)) {i : Int32} (j : Nat) (hj : i = nI j) (hlt : j < n) (hn : n < 2 ^ 31) (hdg : decode cc pc = .ok (.baload, 1))
    (kk : W p l e R s m args below meth c H locs cells slots Q (F0 m (pc + 1) ls (.int (f j) :: rest))) : W p l e R s m args below meth c H locs cells slots Q (F0 m pc ls (.int i :: .ref a :: rest)) := by
  subst hj
  refine va_zald hexec hb hK hP q0 t0 ha ht (vp_in_nI hlt hn) hdg ?_
  rw [nI_clamp (by omega)]
  exact kk
theorem va_iastN (hexec : p.tables.exec = Jvm.exec) (hb : c.code = cc) (hK : va_K D cl tys s) (hP : va_P D cl ws H) (hD : va_D A ws) (hS : va_S A H0 H locs) (q0 t0 : Nat) {cA : ClassId} {n : Nat} {f : Nat → Int32} (ha : ws[q0]? = some (a, .inl (cA, n, .inl f))) (ht : tys[t0]? = some (cA, .int)) {i : Int32} {x : Int32} (j : Nat) (hj : i = nI j) (hlt : j < n) (hn : n < 2 ^ 31) (hdg : decode cc pc = .ok (.iastore, 1))
    (kk : ∀ (H1 : Heap) (locs1 : List Loc), va_P D cl (ws.set q0 (a, .inl (cA, n, .inl (upd f j x)))) H1 → va_D A (ws.set q0 (a, .inl (cA, n, .inl (upd f j x)))) → va_S A H0 H1 locs1 → W p l e R s m args below meth c H1 locs1 cells slots Q (F0 m (pc + 1) ls rest)) : W p l e R s m args below meth c H locs cells slots Q (F0 m pc ls (.int x :: .int i :: .ref a :: rest)) := by
  subst hj
  refine va_iast hexec hb hK hP hD hS q0 t0 ha ht (vp_in_nI hlt hn) hdg ?_
  rw [nI_clamp (by omega)]
  exact kk
theorem va_zastN (hexec : p.tables.exec = Jvm.exec) (hb : c.code = cc) (hK : va_K D cl tys s) (hP : va_P D cl ws H) (hD : va_D A ws) (hS : va_S A H0 H locs) (q0 t0 : Nat) {cA : ClassId} {n : Nat} {f : Nat → Int32} (ha : ws[q0]? = some (a, .inl (cA, n, .inl f))) (ht : tys[t0]? = some (cA, .boolean)) {i : Int32} {x : Int32} (j : Nat) (hj : i = nI j) (hlt : j < n) (hn : n < 2 ^ 31) (hx : vp_nar .boolean x = x) (hdg : decode cc pc = .ok (.bastore, 1))
    (kk : ∀ (H1 : Heap) (locs1 : List Loc), va_P D cl (ws.set q0 (a, .inl (cA, n, .inl (upd f j x)))) H1 → va_D A (ws.set q0 (a, .inl (cA, n, .inl (upd f j x)))) → va_S A H0 H1 locs1 → W p l e R s m args below meth c H1 locs1 cells slots Q (F0 m (pc + 1) ls rest)) : W p l e R s m args below meth c H locs cells slots Q (F0 m pc ls (.int x :: .int i :: .ref a :: rest)) := by
  subst hj
  refine va_zast hexec hb hK hP hD hS q0 t0 ha ht (vp_in_nI hlt hn) hdg ?_
  rw [nI_clamp (by omega), hx]
  exact kk
end ALN

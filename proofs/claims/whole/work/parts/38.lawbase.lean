/-! the law's world: the class's cells and the reference's, over one state -/
def WX (cI : ClassId) (a : Nat → Nat) (np nh nn nb ne : Nat) (td : Int32) (P G N B E : Nat → Nat → Int32) : va_W := [((a 0), .inr (4, [.ref (a 1), .ref (a 4), .ref (a 7), .ref (a 10), .ref (a 12), .int td])), ((a 1), .inr (2, [.ref (a 2)])), ((a 2), .inr (3, [.int (nI 24), .int (nI 6), .ref (a 3), .int (nI np)])), ((a 3), .inl (cI, 24 * 6, .inl (fl 6 P))), ((a 4), .inr (0, [.ref (a 5)])), ((a 5), .inr (3, [.int (nI 5), .int (nI 6), .ref (a 6), .int (nI nh)])), ((a 6), .inl (cI, 5 * 6, .inl (fl 6 G))), ((a 7), .inr (1, [.ref (a 8), .ref (a 1)])), ((a 8), .inr (3, [.int (nI 200), .int (nI 5), .ref (a 9), .int (nI nn)])), ((a 9), .inl (cI, 200 * 5, .inl (fl 5 N))), ((a 10), .inr (3, [.int (nI 20), .int (nI 4), .ref (a 11), .int (nI nb)])), ((a 11), .inl (cI, 20 * 4, .inl (fl 4 B))), ((a 12), .inr (3, [.int (nI 200), .int (nI 6), .ref (a 13), .int (nI ne)])), ((a 13), .inl (cI, 200 * 6, .inl (fl 6 E)))]
def WM (cI cZ : ClassId) (k : Nat → Nat) (np nh nn nb ne : Nat) (td : Int32) (P G N B E : Nat → Nat → Int32) (mc : Nat → Int32) : va_W := [((k 0), .inr (5, [.int (nI np), .int (nI nh), .int td, .int (nI nn), .int (nI nb), .int (nI ne), .ref (k 1), .ref (k 2), .ref (k 3), .ref (k 4), .ref (k 5), .ref (k 6), .ref (k 7), .ref (k 8), .ref (k 9), .ref (k 10), .ref (k 11), .ref (k 12), .ref (k 13), .ref (k 14), .ref (k 15), .ref (k 16), .ref (k 17), .ref (k 18), .ref (k 19), .ref (k 20)])), ((k 1), .inl (cI, 96, .inl (fl 4 P))), ((k 2), .inl (cI, 24, .inl (P 4))), ((k 3), .inl (cZ, 24, .inl (P 5))), ((k 4), .inl (cI, 5, .inl (G 0))), ((k 5), .inl (cI, 5, .inl (G 1))), ((k 6), .inl (cI, 5, .inl (G 2))), ((k 7), .inl (cI, 5, .inl (G 3))), ((k 8), .inl (cI, 5, .inl (G 4))), ((k 9), .inl (cI, 5, .inl (mc))), ((k 10), .inl (cZ, 5, .inl (G 5))), ((k 11), .inl (cI, 200, .inl (N 0))), ((k 12), .inl (cI, 200, .inl (N 1))), ((k 13), .inl (cI, 200, .inl (N 2))), ((k 14), .inl (cI, 200, .inl (N 3))), ((k 15), .inl (cI, 200, .inl (N 4))), ((k 16), .inl (cI, 20, .inl (B 0))), ((k 17), .inl (cI, 20, .inl (B 1))), ((k 18), .inl (cI, 20, .inl (B 2))), ((k 19), .inl (cI, 20, .inl (B 3))), ((k 20), .inl (cI, 1200, .inl (fl 6 E)))]
def aX (a : Nat → Nat) : List Nat := [a 0, a 1, a 2, a 3, a 4, a 5, a 6, a 7, a 8, a 9, a 10, a 11, a 12, a 13]
def aM (k : Nat → Nat) : List Nat := [k 0, k 1, k 2, k 3, k 4, k 5, k 6, k 7, k 8, k 9, k 10, k 11, k 12, k 13, k 14, k 15, k 16, k 17, k 18, k 19, k 20]
def geS (s : State) : Nat → Prop := fun q => s.heap.size ≤ q
/-- what stays through the law's loop -/
def LC (p : Program) (s : State) (m : MethodId) (meth : Method) (c : Code) (b L : Nat) (xs : Nat → Int32) (D : va_G) (cI cZ : ClassId) (a k : Nat → Nat) : Prop :=
  p.tables.exec = Jvm.exec ∧ c.code = cL_law ∧ c.maxLocals = 4 ∧ s.vm.findClass RL = some m.cls ∧ (∀ w ∈ wsL_law, w.before #[Value.ref b] s = true) ∧ va_X b L xs s s.heap ∧ b < s.heap.size ∧ va_K D vwCl [(cI, .int), (cZ, .boolean)] s ∧ L ≤ 3072 ∧ (∀ q, q ∈ aX a → ¬ q ∈ aM k) ∧ meth.sig.returnType = ret ∧ meth.locks = false
def LX (p : Program) (s : State) (m : MethodId) (meth : Method) (c : Code) (b L : Nat) (xs : Nat → Int32) (D : va_G) (cI cZ : ClassId) (a k : Nat → Nat) (ls : Array Slot) (i : Nat) : Prop :=
  LC p s m meth c b L xs D cI cZ a k ∧ lv_has ls 4 [(0, .ref b), (1, .ref (a 0)), (2, .ref (k 0)), (3, .int (nI i))] ∧ i + 6 ≤ L
/-- what each call changes -/
def LY (s : State) (D : va_G) (cI cZ : ClassId) (a k : Nat → Nat) (H : Heap) (locs : List Loc) (np nh nn nb ne : Nat) (td : Int32) (P G N B E : Nat → Nat → Int32) (mc : Nat → Int32) : Prop :=
  Iv np nh nn nb ne td P G N mc ∧ va_P D vwCl (WX cI a np nh nn nb ne td P G N B E) H ∧ va_P D vwCl (WM cI cZ k np nh nn nb ne td P G N B E mc) H ∧ va_D (geS s) (WX cI a np nh nn nb ne td P G N B E) ∧ va_D (geS s) (WM cI cZ k np nh nn nb ne td P G N B E mc) ∧ va_S (geS s) s.heap H locs
def LK (p : Program) (l : Launch) (e : Env) (s : State) (m : MethodId) (below : List Frame) (meth : Method) (c : Code) (Q : State → Prop) (b : Nat) (D : va_G) (cI cZ : ClassId) (a k : Nat → Nat) (ls : Array Slot) : Prop :=
  ∀ (H : Heap) (locs : List Loc) (np nh nn nb ne : Nat) (td : Int32) (P G N B E : Nat → Nat → Int32) (mc : Nat → Int32), LY s D cI cZ a k H locs np nh nn nb ne td P G N B E mc → W p l e room_1 s m #[Value.ref b] below meth c H locs 40 9000 Q (F0 m 972 ls [])
section LAW
variable {p : Program} {l : Launch} {e : Env} {R : Room} {s : State} {m : MethodId} {args : Array Value} {below : List Frame} {meth : Method} {c : Code} {H H0 : Heap} {locs : List Loc} {cells slots : Nat} {Q : State → Prop}
variable {cc : ByteArray} {pc : Nat} {ls : Array Slot} {rest st0 : List Value} {D : va_G} {tys : List (ClassId × FieldType)} {A : Nat → Prop} {cI cZ : ClassId} {a k : Nat → Nat}
/-- a call that writes the cells w, the cells v standing beside them -/
theorem lcV {y : MethodName} {bytes : ByteArray} {maxL nL n index ci : Nat} {ret : Option FieldType} {ws Ts : List Cond} {rm : Room} {own C : String} {b : Addr} {As : List Value} {w v w' : va_W} {r : Int32} {fs : List Value} {q : vw_C}
    (S : CallFix p m c cc nL s args Ts own) (hM : Met l y ws rm (MuP D tys (.ref b :: As) w) (QM D (some (.int r)) w w') 0 0 (adr w)) (cw : CallW R s args own C index y bytes maxL ret ws rm 0 0 n) (hK : va_K D vwCl tys s) (hP : va_P D vwCl w H) (hV : va_P D vwCl v H) (hD : va_D A w) (hap : ∀ q, adr w q → ¬ adr v q) (hS : va_S A H0 H locs) (hfa : w'.map Prod.fst = w.map Prod.fst)
    (hc : vwCl[ci]? = some q) (hC : q.1 = C) (he : w[0]? = some (b, .inr (ci, fs))) (hn : As.length = n) (hsz : ls.size = nL) (hst : st0 = As.reverse ++ .ref b :: rest) (hW : (rest.map fun v => v.category).sum ≤ 8) (hf : cells ≤ R.cells ∧ slots ≤ R.slots) (hdg : decode cc pc = .ok (.invokevirtual index, 3))
    (kk : ∀ (H1 : Heap) (locs1 : List Loc), va_P D vwCl w' H1 → va_P D vwCl v H1 → va_D A w' → va_S A H0 H1 locs1 → W p l e R s m args below meth c H1 locs1 cells slots Q (F0 m (pc + 3) ls (.int r :: rest))) : W p l e R s m args below meth c H locs cells slots Q (F0 m pc ls st0) := by
  have hDc : va_D (fun _ => True) w := hD.weaken (fun _ _ _ _ => trivial)
  subst hC
  intro T hT X
  obtain ⟨v0, st₀, t, T', L, h0, X', hL, e1, ⟨hv, hq, hF⟩, st⟩ := W.runV S hM cw ⟨MuP.blind, va_recv hK hP hc he, fun U hU hWU => ⟨rfl, by rw [hU]; exact hP, va_K.moved hWU.alike hK, hDc⟩⟩ rfl hn hsz hst (lv_room hW) hdg hf T hT X
  cases hv
  have hF2 : ∀ q : Nat, q < H.size → ¬ adr w q → T'.heap[q]? = H[q]? := fun q h1 h2 => by rw [e1, hF.2 q (by rw [h0]; exact h1) h2, h0]
  have hz : H.size ≤ T'.heap.size := by rw [e1]; have := hF.1; rw [h0] at this; exact this
  have hsub : ∀ q, adr w q → A q := fun q h3 => by
    obtain ⟨q', hq', e⟩ := List.mem_map.mp (show q ∈ w.map Prod.fst from h3)
    obtain ⟨j, hj⟩ := List.getElem?_of_mem hq'
    rw [← e]
    exact hD.2 j q' hj
  have hV' : va_P D vwCl v T'.heap := fun j q hj => (hV j q hj).kept (hF2 q.1 (hV j q hj).lt (fun h => hap q.1 h (List.mem_map.mpr ⟨q, List.mem_of_getElem? hj, rfl⟩)))
  obtain ⟨t2, a1, b1⟩ := kk T'.heap (locs ++ L) (by rw [e1]; exact hq) hV' (hD.fst hfa)
    ⟨Nat.le_trans hS.1 hz, fun q h1 h2 => by rw [hF2 q (Nat.lt_of_lt_of_le h1 hS.1) (fun z => h2 (hsub q z))]; exact hS.2.1 q h1 h2, fun q hq => by
      rcases List.mem_append.mp hq with h | h
      · exact hS.2.2 q h
      · exact hsub _ (hL q h)⟩ T' rfl X'
  exact ⟨t2, st t2 a1, b1⟩
/-- an int of the script, by the five rows that load it -/
theorem ls_ld {b L i : Nat} {xs : Nat → Int32} {n : Int} (X : LX p s m meth c b L xs D cI cZ a k ls i) (hS : va_S (geS s) s.heap H locs) (j : Nat) (hj : j < 6) (hn : Int32.ofInt n = nI j) (d0 : decode cL_law pc = .ok (.aload_n 0, 1)) (d1 : decode cL_law (pc + 1) = .ok (.iload_n 3, 1)) (d2 : decode cL_law (pc + 1 + 1) = .ok (.iconst n, 1)) (d3 : decode cL_law (pc + 1 + 1 + 1) = .ok (.iadd, 1)) (d4 : decode cL_law (pc + 1 + 1 + 1 + 1) = .ok (.iaload, 1))
    (kk : W p l e R s m args below meth c H locs cells slots Q (F0 m (pc + 1 + 1 + 1 + 1 + 1) ls (.int (xs (i + j)) :: rest))) : W p l e R s m args below meth c H locs cells slots Q (F0 m pc ls rest) := by
  obtain ⟨⟨hx, hb, hml, hown, hts, hX, hbl, hK, hL, hap, hr, hlocks⟩, hl, hi⟩ := X
  refine lv_aload_n hx hb d0 rfl (lv_at hl 0 rfl) ?_
  refine lv_iload_n hx hb d1 rfl (lv_at hl 3 rfl) ?_
  refine lv_iconst (v := nI j) hx hb d2 hn ?_
  refine lv_iadd hx hb d3 ?_
  rw [nI_add]
  refine va_sld hx hb hX hbl (Nat.not_le.mpr hbl) hS (vp_in_nI (n := i + j) (by omega) (by omega)) d4 ?_
  rw [nI_clamp (by omega)]
  exact kk
end LAW

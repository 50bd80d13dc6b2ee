def R_law : String := "OtherNamesLaw"
def lw_P (b : Addr) (xs : List Int32) (args : Array Value) (s : State) : Prop := args = #[.ref b] ∧ s.IntsAt b xs ∧ xs.length ≤ 3072 ∧ (Jvm.Cond.and given_1 narrow_1).before args s = true
def lw_Q (_ : Array Value) (s : State) (o : Outcome) (t : State) : Prop := o = .returned (some (.int 1)) ∧ Framed s o t [] 600000 7302250
def lw_Z (below : List Frame) (a : Array Value) (s : State) : State → Prop := fun t => ∃ o, t.status = .running ∧ Ended t below o ∧ lw_Q a s o t
/-- the law's own end, with 1 on the stack, nothing written that was there before, its room as the claim has it -/
theorem lw_ret {p : Program} {l : Launch} {e : Env} {s : State} {m : MethodId} {below : List Frame} {meth : Method} {c : Code} {b : Nat} (hx : p.tables.exec = Jvm.exec) (hb : c.code = code) (hr : meth.sig.returnType = ret) (hlocks : meth.locks = false) {pc : Nat} {H : Heap} {ls : Array Slot} (hdg : decode code pc = .ok (.ireturn, 1)) : W p l e room_1 s m #[Value.ref b] below meth c H [] 600000 7302250 (lw_Z below #[Value.ref b] s) (F0 m pc ls [.int 1]) := by
  intro T hT X
  obtain ⟨fs, hret, hrun, hended, hW, hframe⟩ := X.leave (v := some (.int 1)) (hlocks := hlocks) (fun h => by rw [hr] at h; cases h)
  have hmeth' : T.vm.method? m = some meth := X.method'
  refine ⟨T.setFrames fs, ?_, .returned (some (.int 1)), hrun, hended, rfl, ⟨_, rfl⟩, hW, hframe⟩
  jvm_step X.here [X.here.top, hx, hb, hdg, hmeth', hr, ret, narrow_b1]
  (try refine ⟨rfl, ?_⟩); (try refine ⟨rfl, ?_⟩)
  first | (intro acts; rw [hret _ acts rfl rfl rfl]) | rw [hret _ _ rfl rfl rfl]
  exact Steps.refl _
/-- what holds at the law's entry: the machine, the code, the tables' words (any of lw_tbl by 'hts w (by decide +kernel)'), the script of L ints xs at the cell b, what the Statement gives of the start (any of its parts by flat_of_before) -/
def lw_At (p : Program) (s : State) (m : MethodId) (meth : Method) (c : Code) (b L : Nat) (xs : Nat → Int32) : Prop :=
  p.tables.exec = Jvm.exec ∧ c.code = code ∧ meth.sig.returnType = ret ∧ c.maxLocals = 4 ∧ s.vm.findClass R_law = some m.cls ∧ (∀ w ∈ lw_tbl, w.before #[Value.ref b] s = true) ∧ va_X b L xs s s.heap ∧ b < s.heap.size ∧ meth.locks = false ∧ (Jvm.Cond.and given_1 narrow_1).before #[Value.ref b] s = true
set_option maxHeartbeats 4000000 in
set_option maxRecDepth 100000 in
/-- one turn of the law's loop -/
theorem law_head {p : Program} {l : Launch} {e : Env} {s : State} {m : MethodId} {below : List Frame} {meth : Method} {c : Code} {b L : Nat} {xs : Nat → Int32} {D : va_G} {cI cZ : ClassId} {a k : Nat → Nat} (C : LC p s m meth c b L xs D cI cZ a k) (i : Nat) (hi : i ≤ L + 6) {H : Heap} {locs : List Loc} {np nh nn nb ne : Nat} {td : Int32} {P G N B E : Nat → Nat → Int32} {mc : Nat → Int32} {ls : Array Slot} (Y : LY s D cI cZ a k H locs np nh nn nb ne td P G N B E mc) (hl : lv_has ls 4 [(0, .ref b), (1, .ref (a 0)), (2, .ref (k 0)), (3, .int (nI i))]) (nx : i + 6 ≤ L → ∀ (H : Heap) (locs : List Loc) (np nh nn nb ne : Nat) (td : Int32) (P G N B E : Nat → Nat → Int32) (mc : Nat → Int32) (ls : Array Slot), LY s D cI cZ a k H locs np nh nn nb ne td P G N B E mc → lv_has ls 4 [(0, .ref b), (1, .ref (a 0)), (2, .ref (k 0)), (3, .int (nI (i + 6)))] → W p l e room_1 s m #[Value.ref b] below meth c H locs 40 9000 (lw_Z below #[Value.ref b] s) (F0 m 18 ls [])) : W p l e room_1 s m #[Value.ref b] below meth c H locs 40 9000 (lw_Z below #[Value.ref b] s) (F0 m 18 ls []) := by
  obtain ⟨hx, hb, hml, hown, hts, hX, hbl, hK, hL, hap, hr, hlocks⟩ := id C
  have hS := Y.2.2.2.2.2
  refine lv_iload_n hx hb dL_law_18 rfl (lv_at hl 3 rfl) ?_
  refine lv_aload_n hx hb dL_law_19 rfl (lv_at hl 0 rfl) ?_
  refine va_slen hx hb hX hbl (Nat.not_le.mpr hbl) hS dL_law_20 ?_
  refine lv_bipush (v := nI 6) hx hb dL_law_21 (by decide) ?_
  refine lv_isub hx hb dL_law_23 ?_
  refine lv_icmp_gt (tgt := 978) hx hb dL_law_24 (by decide) (fun q => ?_) (fun q => ?_)
  · refine lv_iconst (v := 1) hx hb dL_law_978 (by decide) ?_
    refine va_forget (fun q hq => hS.2.2 q hq) ?_
    refine W.widen (k := 600000) (n := 7302250) (Nat.le_of_ble_eq_true rfl) (Nat.le_of_ble_eq_true rfl) ?_
    exact lw_ret hx hb hr hlocks dL_law_979
  · have hi6 : i + 6 ≤ L := by
      have h1 : (nI L - nI 6).toInt = (L : Int) - (6 : Nat) := pk_sub_toInt (by omega) (by omega)
      have h2 : (nI i).toInt = (i : Int) := nI_toInt (by omega)
      have q : ¬ nI L - nI 6 < nI i := q
      rw [fa_lt, h1, h2] at q
      omega
    have kk : LK p l e s m below meth c (lw_Z below #[Value.ref b] s) b D cI cZ a k ls := by
      intro H locs np nh nn nb ne td P G N B E mc Y
      refine lv_iinc (v := nI (i + 6)) (lv' := [(3, .int (nI (i + 6))), (0, .ref b), (1, .ref (a 0)), (2, .ref (k 0))]) hx hb dL_law_972 hl (k := 3) rfl (nI_add i 6) (by decide) rfl (fun ls hl => ?_)
      refine lv_goto (tgt := 18) hx hb dL_law_975 (by decide) ?_
      exact nx hi6 _ _ _ _ _ _ _ _ _ _ _ _ _ _ ls Y (lv_sub hl [1, 2, 3, 0] rfl)
    have X : LX p s m meth c b L xs D cI cZ a k ls i := ⟨C, hl, hi6⟩
    refine lv_aload_n hx hb dL_law_27 rfl (lv_at hl 0 rfl) ?_
    refine lv_iload_n hx hb dL_law_28 rfl (lv_at hl 3 rfl) ?_
    refine va_sld hx hb hX hbl (Nat.not_le.mpr hbl) hS (vp_in_nI (n := i) (by omega) (by omega)) dL_law_29 ?_
    refine lv_bipush (v := 31) hx hb dL_law_30 (by decide) ?_
    refine lv_iand hx hb dL_law_32 ?_
    refine lv_topi (fun x ex => ?_)
    have e21 : (21 : Int32).toInt = 21 := by decide
    have e0 : (0 : Int32).toInt = 0 := by decide
    by_cases h0 : x < 0
    · refine lv_tableOut (tgt := 972) hx hb dL_law_33 (Or.inl (by rw [fa_lt, e0] at h0; exact h0)) (by decide) ?_
      exact kk _ _ _ _ _ _ _ _ _ _ _ _ _ _ Y
    · by_cases h1 : (21 : Int32) < x
      · refine lv_tableOut (tgt := 972) hx hb dL_law_33 (Or.inr (by rw [fa_lt, e21] at h1; exact h1)) (by decide) ?_
        exact kk _ _ _ _ _ _ _ _ _ _ _ _ _ _ Y
      · obtain ⟨j, hj, ej⟩ := nI_of2 (x := x) (M := 21) (n := 21) e21 h0 (by rw [fa_le]; rw [fa_lt] at h1; omega)
        clear ex
        subst ej
        rcases (show j = 0 ∨ j = 1 ∨ j = 2 ∨ j = 3 ∨ j = 4 ∨ j = 5 ∨ j = 6 ∨ j = 7 ∨ j = 8 ∨ j = 9 ∨ j = 10 ∨ j = 11 ∨ j = 12 ∨ j = 13 ∨ j = 14 ∨ j = 15 ∨ j = 16 ∨ j = 17 ∨ j = 18 ∨ j = 19 ∨ j = 20 ∨ j = 21 by omega) with ej | ej | ej | ej | ej | ej | ej | ej | ej | ej | ej | ej | ej | ej | ej | ej | ej | ej | ej | ej | ej | ej <;> subst ej
        · exact lv_tableIn (tgt := 136) (off := 103) hx hb dL_law_33 (by decide +kernel) (by decide +kernel) (by decide +kernel) (by decide) (law_c0 X Y kk)
        · exact lv_tableIn (tgt := 189) (off := 156) hx hb dL_law_33 (by decide +kernel) (by decide +kernel) (by decide +kernel) (by decide) (law_c1 X Y kk)
        · exact lv_tableIn (tgt := 232) (off := 199) hx hb dL_law_33 (by decide +kernel) (by decide +kernel) (by decide +kernel) (by decide) (law_c2 X Y kk)
        · exact lv_tableIn (tgt := 295) (off := 262) hx hb dL_law_33 (by decide +kernel) (by decide +kernel) (by decide +kernel) (by decide) (law_c3 X Y kk)
        · exact lv_tableIn (tgt := 318) (off := 285) hx hb dL_law_33 (by decide +kernel) (by decide +kernel) (by decide +kernel) (by decide) (law_c4 X Y kk)
        · exact lv_tableIn (tgt := 351) (off := 318) hx hb dL_law_33 (by decide +kernel) (by decide +kernel) (by decide +kernel) (by decide) (law_c5 X Y kk)
        · exact lv_tableIn (tgt := 374) (off := 341) hx hb dL_law_33 (by decide +kernel) (by decide +kernel) (by decide +kernel) (by decide) (law_c6 X Y kk)
        · exact lv_tableIn (tgt := 397) (off := 364) hx hb dL_law_33 (by decide +kernel) (by decide +kernel) (by decide +kernel) (by decide) (law_c7 X Y kk)
        · exact lv_tableIn (tgt := 430) (off := 397) hx hb dL_law_33 (by decide +kernel) (by decide +kernel) (by decide +kernel) (by decide) (law_c8 X Y kk)
        · exact lv_tableIn (tgt := 463) (off := 430) hx hb dL_law_33 (by decide +kernel) (by decide +kernel) (by decide +kernel) (by decide) (law_c9 X Y kk)
        · exact lv_tableIn (tgt := 516) (off := 483) hx hb dL_law_33 (by decide +kernel) (by decide +kernel) (by decide +kernel) (by decide) (law_c10 X Y kk)
        · exact lv_tableIn (tgt := 559) (off := 526) hx hb dL_law_33 (by decide +kernel) (by decide +kernel) (by decide +kernel) (by decide) (law_c11 X Y kk)
        · exact lv_tableIn (tgt := 612) (off := 579) hx hb dL_law_33 (by decide +kernel) (by decide +kernel) (by decide +kernel) (by decide) (law_c12 X Y kk)
        · exact lv_tableIn (tgt := 675) (off := 642) hx hb dL_law_33 (by decide +kernel) (by decide +kernel) (by decide +kernel) (by decide) (law_c13 X Y kk)
        · exact lv_tableIn (tgt := 698) (off := 665) hx hb dL_law_33 (by decide +kernel) (by decide +kernel) (by decide +kernel) (by decide) (law_c14 X Y kk)
        · exact lv_tableIn (tgt := 731) (off := 698) hx hb dL_law_33 (by decide +kernel) (by decide +kernel) (by decide +kernel) (by decide) (law_c15 X Y kk)
        · exact lv_tableIn (tgt := 774) (off := 741) hx hb dL_law_33 (by decide +kernel) (by decide +kernel) (by decide +kernel) (by decide) (law_c16 X Y kk)
        · exact lv_tableIn (tgt := 807) (off := 774) hx hb dL_law_33 (by decide +kernel) (by decide +kernel) (by decide +kernel) (by decide) (law_c17 X Y kk)
        · exact lv_tableIn (tgt := 850) (off := 817) hx hb dL_law_33 (by decide +kernel) (by decide +kernel) (by decide +kernel) (by decide) (law_c18 X Y kk)
        · exact lv_tableIn (tgt := 883) (off := 850) hx hb dL_law_33 (by decide +kernel) (by decide +kernel) (by decide +kernel) (by decide) (law_c19 X Y kk)
        · exact lv_tableIn (tgt := 916) (off := 883) hx hb dL_law_33 (by decide +kernel) (by decide +kernel) (by decide +kernel) (by decide) (law_c20 X Y kk)
        · exact lv_tableIn (tgt := 949) (off := 916) hx hb dL_law_33 (by decide +kernel) (by decide +kernel) (by decide +kernel) (by decide) (law_c21 X Y kk)
/-- the law's loop -/
theorem law_loop {p : Program} {l : Launch} {e : Env} {s : State} {m : MethodId} {below : List Frame} {meth : Method} {c : Code} {b L : Nat} {xs : Nat → Int32} {D : va_G} {cI cZ : ClassId} {a k : Nat → Nat} (C : LC p s m meth c b L xs D cI cZ a k) : ∀ (n i : Nat), L < i + n → i ≤ L + 6 → ∀ (H : Heap) (locs : List Loc) (np nh nn nb ne : Nat) (td : Int32) (P G N B E : Nat → Nat → Int32) (mc : Nat → Int32) (ls : Array Slot), LY s D cI cZ a k H locs np nh nn nb ne td P G N B E mc → lv_has ls 4 [(0, .ref b), (1, .ref (a 0)), (2, .ref (k 0)), (3, .int (nI i))] → W p l e room_1 s m #[Value.ref b] below meth c H locs 40 9000 (lw_Z below #[Value.ref b] s) (F0 m 18 ls []) := by
  intro n
  induction n with
  | zero =>
    intro i h1 h2 H locs np nh nn nb ne td P G N B E mc ls Y hl
    exact law_head C i h2 Y hl (fun h => absurd h (by omega))
  | succ n ih =>
    intro i h1 h2 H locs np nh nn nb ne td P G N B E mc ls Y hl
    exact law_head C i h2 Y hl (fun h => ih (i + 6) (by omega) (by omega))

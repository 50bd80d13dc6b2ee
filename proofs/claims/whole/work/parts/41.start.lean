theorem arr_int {args : Array Value} {s : State} (h : (Cond.arrayClass .int).before args s = true) : ∃ cA : ClassId, ArrOfT s cA .int ∧ va_RA s cA .int := by
  obtain ⟨cA, kA, comp, h1, h2, h3⟩ := Cond.arrayClass_spec h
  exact ⟨cA, fun n z => ⟨fun k h => (by cases h), kA, h2, comp, h3⟩, h1⟩
theorem arr_bool {args : Array Value} {s : State} (h : (Cond.arrayClass .boolean).before args s = true) : ∃ cA : ClassId, ArrOfT s cA .boolean ∧ va_RA s cA .boolean := by
  obtain ⟨cA, kA, comp, h1, h2, h3⟩ := Cond.arrayClass_spec h
  exact ⟨cA, fun n z => ⟨fun k h => (by cases h), kA, h2, comp, h3⟩, h1⟩
def adA (l : List Nat) : Nat → Nat := fun i => l.getD i 0
set_option maxRecDepth 20000 in
theorem df4 : ∀ j, j < 6 → defaultValue (tyX4 j) = vp_V [.null, .null, .null, .null, .null, .int 0] j := by
  intro j hj
  rcases (show j = 0 ∨ j = 1 ∨ j = 2 ∨ j = 3 ∨ j = 4 ∨ j = 5 by omega) with rfl | rfl | rfl | rfl | rfl | rfl <;> rfl
set_option maxRecDepth 20000 in
theorem df5 : ∀ j, j < 26 → defaultValue (tyX5 j) = vp_V [.int 0, .int 0, .int 0, .int 0, .int 0, .int 0, .null, .null, .null, .null, .null, .null, .null, .null, .null, .null, .null, .null, .null, .null, .null, .null, .null, .null, .null, .null] j := by
  intro j hj
  rcases (show j = 0 ∨ j = 1 ∨ j = 2 ∨ j = 3 ∨ j = 4 ∨ j = 5 ∨ j = 6 ∨ j = 7 ∨ j = 8 ∨ j = 9 ∨ j = 10 ∨ j = 11 ∨ j = 12 ∨ j = 13 ∨ j = 14 ∨ j = 15 ∨ j = 16 ∨ j = 17 ∨ j = 18 ∨ j = 19 ∨ j = 20 ∨ j = 21 ∨ j = 22 ∨ j = 23 ∨ j = 24 ∨ j = 25 by omega) with rfl | rfl | rfl | rfl | rfl | rfl | rfl | rfl | rfl | rfl | rfl | rfl | rfl | rfl | rfl | rfl | rfl | rfl | rfl | rfl | rfl | rfl | rfl | rfl | rfl | rfl <;> rfl
theorem apart_of {A : Nat → Prop} {w v : va_W} (h : va_D A (w ++ v)) : ∀ q, q ∈ w.map Prod.fst → ¬ q ∈ v.map Prod.fst := by
  intro q h1 h2
  obtain ⟨x, hx, e1⟩ := List.mem_map.mp h1
  obtain ⟨y, hy, e2⟩ := List.mem_map.mp h2
  obtain ⟨i, hi⟩ := List.getElem?_of_mem hx
  obtain ⟨j, hj⟩ := List.getElem?_of_mem hy
  have hil : i < w.length := (List.getElem?_eq_some_iff.mp hi).1
  have h3 : (w ++ v)[i]? = some x := by rw [List.getElem?_append_left hil]; exact hi
  have h4 : (w ++ v)[w.length + j]? = some y := by rw [List.getElem?_append_right (by omega), Nat.add_sub_cancel_left]; exact hj
  have := h.1 i (w.length + j) x y h3 h4 (by rw [e1, e2])
  omega
theorem D_left {A : Nat → Prop} {w v : va_W} (h : va_D A (w ++ v)) : va_D A w := by
  refine ⟨fun i j p q hi hj e => ?_, fun i q hi => ?_⟩
  · have hil : i < w.length := (List.getElem?_eq_some_iff.mp hi).1
    have hjl : j < w.length := (List.getElem?_eq_some_iff.mp hj).1
    exact h.1 i j p q (by rw [List.getElem?_append_left hil]; exact hi) (by rw [List.getElem?_append_left hjl]; exact hj) e
  · have hil : i < w.length := (List.getElem?_eq_some_iff.mp hi).1
    exact h.2 i q (by rw [List.getElem?_append_left hil]; exact hi)
theorem D_right {A : Nat → Prop} {w v : va_W} (h : va_D A (w ++ v)) : va_D A v := by
  refine ⟨fun i j p q hi hj e => ?_, fun i q hi => ?_⟩
  · have := h.1 (w.length + i) (w.length + j) p q (by rw [List.getElem?_append_right (by omega), Nat.add_sub_cancel_left]; exact hi) (by rw [List.getElem?_append_right (by omega), Nat.add_sub_cancel_left]; exact hj) e
    omega
  · exact h.2 (w.length + i) q (by rw [List.getElem?_append_right (by omega), Nat.add_sub_cancel_left]; exact hi)
theorem P_left {D : va_G} {w v : va_W} {H : Heap} (h : va_P D vwCl (w ++ v) H) : va_P D vwCl w H := by
  intro i q hi
  have hil : i < w.length := (List.getElem?_eq_some_iff.mp hi).1
  exact h i q (by rw [List.getElem?_append_left hil]; exact hi)
theorem P_right {D : va_G} {w v : va_W} {H : Heap} (h : va_P D vwCl (w ++ v) H) : va_P D vwCl v H := by
  intro i q hi
  exact h (w.length + i) q (by rw [List.getElem?_append_right (by omega), Nat.add_sub_cancel_left]; exact hi)
set_option maxHeartbeats 4000000 in
set_option maxRecDepth 100000 in
/-- THE LAW, from its entry -/
theorem whole_start {p : Program} {e : Env} {s : State} {m : MethodId} {below : List Frame} {meth : Method} {c : Code} (l : Launch) {b L : Nat} {xs : Nat → Int32} (hL : L ≤ 3072) (C0 : lw_At p s m meth c b L xs) : W p l e room_1 s m #[Value.ref b] below meth c s.heap [] 0 0 (lw_Z below #[Value.ref b] s) (entryFrame m ([Value.ref b] : List Value).toArray 4) := by
  obtain ⟨hx, hb, hr, hml, hown, hts0, hX, hbl, hlocks, hgv⟩ := id C0
  have hts : ∀ w ∈ wsL_law, w.before #[Value.ref b] s = true := fun w h => hts0 w (wsL_law_in w h)
  have hown : s.vm.findClass RL = some m.cls := hown
  have hA : ∀ q : Nat, s.heap.size ≤ q → geS s q := fun _ h => h
  obtain ⟨c0, iS0, hKn0⟩ := u_known (C := RX0) (T := TX0) (N := 1) (n := 1) hts inlX0 (hts (.instantiable RX0 1) (by decide +kernel))
  obtain ⟨c1, iS1, hKn1⟩ := u_known (C := RX1) (T := TX1) (N := 2) (n := 2) hts inlX1 (hts (.instantiable RX1 2) (by decide +kernel))
  obtain ⟨c2, iS2, hKn2⟩ := u_known (C := RX2) (T := TX2) (N := 1) (n := 1) hts inlX2 (hts (.instantiable RX2 1) (by decide +kernel))
  obtain ⟨c3, iS3, hKn3⟩ := u_known (C := RX3) (T := TX3) (N := 4) (n := 4) hts inlX3 (hts (.instantiable RX3 4) (by decide +kernel))
  obtain ⟨c4, iS4, hKn4⟩ := u_known (C := RX4) (T := TX4) (N := 6) (n := 6) hts inlX4 (hts (.instantiable RX4 6) (by decide +kernel))
  obtain ⟨c5, iS5, hKn5⟩ := u_known (C := RX5) (T := TX5) (N := 26) (n := 26) hts inlX5 (hts (.instantiable RX5 26) (by decide +kernel))
  obtain ⟨cI, hI1, hI2⟩ := arr_int (hts (.arrayClass .int) (by decide +kernel))
  obtain ⟨cZ, hZ1, hZ2⟩ := arr_bool (hts (.arrayClass .boolean) (by decide +kernel))
  obtain ⟨D, hKc⟩ : ∃ D : va_G, ∀ (k : Nat) (q : vw_C), vwCl[k]? = some q → u_Kn s q.1 q.2.1 q.2.2 (D.1 k) (D.2 k) := by
    refine ⟨(fun k => match k with | 0 => c0 | 1 => c1 | 2 => c2 | 3 => c3 | 4 => c4 | _ => c5, fun k => match k with | 0 => iS0 | 1 => iS1 | 2 => iS2 | 3 => iS3 | 4 => iS4 | _ => iS5), ?_⟩
    intro k q hq
    match k, hq with
    | 0, hq => cases hq; exact hKn0
    | 1, hq => cases hq; exact hKn1
    | 2, hq => cases hq; exact hKn2
    | 3, hq => cases hq; exact hKn3
    | 4, hq => cases hq; exact hKn4
    | 5, hq => cases hq; exact hKn5
    | k + 6, hq => simp [vwCl] at hq
  have hS : va_S (geS s) s.heap s.heap [] := va_S.rf
  have hK : va_K D vwCl [(cI, .int), (cZ, .boolean)] s := ⟨hKc, fun k q h => by
    match k, h with
    | 0, h => cases h; exact ⟨hI1, hI2⟩
    | 1, h => cases h; exact ⟨hZ1, hZ2⟩
    | k + 2, h => simp at h⟩
  have hP : va_P D vwCl [] s.heap := fun k q h => by simp at h
  have hD : va_D (geS s) [] := ⟨fun i j p q h => by simp at h, fun k q h => by simp at h⟩
  have hl := lv_entry ([.ref b]) (n := 4) (Nat.le_of_ble_eq_true rfl)
  rw [lg_entry_eq]
  generalize (lg_sl ([.ref b]) ++ List.replicate (4 - (lg_sl ([.ref b])).length) Slot.unset).toArray = ls at hl ⊢
  have hl : lv_has ls 4 [(0, .ref b)] := hl
  refine va_new (ci := 4) (fs := [.null, .null, .null, .null, .null, .int 0]) (C := RX4) (T := TX4) (N := 6) hx hb hts inlX4 tyX4 tyX4_ok hown (hts (.classLink RL 7 RX4) (by decide +kernel)) (hts (.instantiable RX4 6) (by decide +kernel)) (hts (.initialized RX4) (by decide +kernel)) hK hP hD hS hA rfl df4 (Nat.le_of_ble_eq_true rfl) (Nat.le_of_ble_eq_true rfl) dL_law_0 (fun o H hP hD hS => ?_)
  have hP : va_P D vwCl [(o, .inr (4, [.null, .null, .null, .null, .null, .int 0]))] H := hP
  have hD : va_D (geS s) [(o, .inr (4, [.null, .null, .null, .null, .null, .int 0]))] := hD
  refine lv_dup hx hb dL_law_3 rfl ?_
  refine mkI (As := []) (rest := [.ref o]) (wr := []) ⟨hx, hb, hml, hown, hts⟩ (kX4_init l D cI cZ o H.size) (cwI 0 hts gL_law_X4_init rfl rfl rfl (hts (.initialized RX4) (by decide +kernel)) (hts (.methodLink RL 9 yX4_init) (by decide +kernel)) (hts (.instanceMethod yX4_init) (by decide +kernel)) rfl (by decide +kernel) ⟨Nat.le_of_ble_eq_true rfl, Nat.le_of_ble_eq_true rfl⟩) hK hP hD hS hA [0] [] (by decide) rfl rfl (by decide) (by decide) rfl hl.1 rfl (Nat.le_of_ble_eq_true rfl) ⟨Nat.le_of_ble_eq_true rfl, Nat.le_of_ble_eq_true rfl⟩ dL_law_4 (fun w1 H locs hF hP hD hS => ?_)
  obtain ⟨q5, q5_h, q5_a, q16, q16_h, q16_a, q27, q27_h, q27_a, q42, q42_a, q56, q56_a, rfl⟩ := hF
  have hP : va_P D vwCl (WX cI (adA [o, q5, q5_h, q5_a, q16, q16_h, q16_a, q27, q27_h, q27_a, q42, q42_a, q56, q56_a]) 0 0 0 0 0 0 (fun _ _ => 0) (fun _ _ => 0) (fun _ _ => 0) (fun _ _ => 0) (fun _ _ => 0)) H := hP
  have hD : va_D (geS s) (WX cI (adA [o, q5, q5_h, q5_a, q16, q16_h, q16_a, q27, q27_h, q27_a, q42, q42_a, q56, q56_a]) 0 0 0 0 0 0 (fun _ _ => 0) (fun _ _ => 0) (fun _ _ => 0) (fun _ _ => 0) (fun _ _ => 0)) := hD
  generalize ew : WX cI (adA [o, q5, q5_h, q5_a, q16, q16_h, q16_a, q27, q27_h, q27_a, q42, q42_a, q56, q56_a]) 0 0 0 0 0 0 (fun _ _ => 0) (fun _ _ => 0) (fun _ _ => 0) (fun _ _ => 0) (fun _ _ => 0) = w at hP hD
  refine W.widen (k := 14) (n := 6100) (Nat.le_of_ble_eq_true rfl) (Nat.le_of_ble_eq_true rfl) ?_
  refine lv_astore_n (lv' := [(1, .ref o), (0, .ref b)]) hx hb dL_law_7 rfl hl (by decide) rfl (fun ls hl => ?_)
  refine va_new (ci := 5) (fs := [.int 0, .int 0, .int 0, .int 0, .int 0, .int 0, .null, .null, .null, .null, .null, .null, .null, .null, .null, .null, .null, .null, .null, .null, .null, .null, .null, .null, .null, .null]) (C := RX5) (T := TX5) (N := 26) hx hb hts inlX5 tyX5 tyX5_ok hown (hts (.classLink RL 10 RX5) (by decide +kernel)) (hts (.instantiable RX5 26) (by decide +kernel)) (hts (.initialized RX5) (by decide +kernel)) hK hP hD hS hA rfl df5 (Nat.le_of_ble_eq_true rfl) (Nat.le_of_ble_eq_true rfl) dL_law_8 (fun o5 H hP hD hS => ?_)
  refine lv_dup hx hb dL_law_11 rfl ?_
  have hlen : w.length = 14 := by rw [← ew]; rfl
  refine mkI (As := []) (rest := [.ref o5]) (wr := w) (wc := [(o5, .inr (5, [.int 0, .int 0, .int 0, .int 0, .int 0, .int 0, .null, .null, .null, .null, .null, .null, .null, .null, .null, .null, .null, .null, .null, .null, .null, .null, .null, .null, .null, .null]))]) ⟨hx, hb, hml, hown, hts⟩ (kX5_init l D cI cZ o5 H.size) (cwI 0 hts gL_law_X5_init rfl rfl rfl (hts (.initialized RX5) (by decide +kernel)) (hts (.methodLink RL 12 yX5_init) (by decide +kernel)) (hts (.instanceMethod yX5_init) (by decide +kernel)) rfl (by decide +kernel) ⟨Nat.le_of_ble_eq_true rfl, Nat.le_of_ble_eq_true rfl⟩) hK hP hD hS hA [14] [0, 1, 2, 3, 4, 5, 6, 7, 8, 9, 10, 11, 12, 13] (by decide) (by rw [← ew]; rfl) (by rw [← ew]; rfl) (by decide) (by decide) rfl hl.1 rfl (Nat.le_of_ble_eq_true rfl) ⟨Nat.le_of_ble_eq_true rfl, Nat.le_of_ble_eq_true rfl⟩ dL_law_12 (fun w1 H locs hF hP hD hS => ?_)
  obtain ⟨q7, q15, q23, q30, q37, q44, q51, q58, q65, q72, q81, q90, q99, q108, q117, q125, q133, q141, q149, q158, rfl⟩ := hF
  have hP : va_P D vwCl (w ++ WM cI cZ (adA [o5, q7, q15, q23, q30, q37, q44, q51, q58, q65, q72, q81, q90, q99, q108, q117, q125, q133, q141, q149, q158]) 0 0 0 0 0 0 (fun _ _ => 0) (fun _ _ => 0) (fun _ _ => 0) (fun _ _ => 0) (fun _ _ => 0) (fun _ => 0)) H := hP
  have hD : va_D (geS s) (w ++ WM cI cZ (adA [o5, q7, q15, q23, q30, q37, q44, q51, q58, q65, q72, q81, q90, q99, q108, q117, q125, q133, q141, q149, q158]) 0 0 0 0 0 0 (fun _ _ => 0) (fun _ _ => 0) (fun _ _ => 0) (fun _ _ => 0) (fun _ _ => 0) (fun _ => 0)) := hD
  refine W.widen (k := 40) (n := 9000) (Nat.le_of_ble_eq_true rfl) (Nat.le_of_ble_eq_true rfl) ?_
  refine lv_astore_n (lv' := [(2, .ref o5), (1, .ref o), (0, .ref b)]) hx hb dL_law_15 rfl hl (by decide) rfl (fun ls hl => ?_)
  refine lv_iconst (v := nI 0) hx hb dL_law_16 (by decide) ?_
  refine lv_istore_n (lv' := [(3, .int (nI 0)), (2, .ref o5), (1, .ref o), (0, .ref b)]) hx hb dL_law_17 rfl hl (by decide) rfl (fun ls hl => ?_)
  have hap := apart_of hD
  have hP1 := P_left hP
  have hP2 := P_right hP
  have hD1 := D_left hD
  have hD2 := D_right hD
  subst ew
  have C : LC p s m meth c b L xs D cI cZ (adA [o, q5, q5_h, q5_a, q16, q16_h, q16_a, q27, q27_h, q27_a, q42, q42_a, q56, q56_a]) (adA [o5, q7, q15, q23, q30, q37, q44, q51, q58, q65, q72, q81, q90, q99, q108, q117, q125, q133, q141, q149, q158]) := ⟨hx, hb, hml, hown, hts, hX, hbl, hK, hL, hap, hr, hlocks⟩
  exact law_loop C (L + 1) 0 (by omega) (by omega) _ _ _ _ _ _ _ _ _ _ _ _ _ _ ls ⟨Iv.start, hP1, hP2, hD1, hD2, hS⟩ (lv_sub hl [3, 2, 1, 0] rfl)

/-! the constructors -/
theorem max0 {m : Nat} (h : m < 2 ^ 31) : (if (0 : Int32) < nI m then nI m else 0) = nI m := by
  by_cases c : (0 : Int32) < nI m
  · rw [if_pos c]
  · rw [if_neg c]
    have h1 : ¬ 0 < m := fun q => c (nI_lt (a := 0) q h)
    have e : m = 0 := by omega
    rw [e]; rfl
set_option maxHeartbeats 4000000 in
set_option maxRecDepth 100000 in
theorem kX3_init (l : Launch) (D : va_G) (cI cZ : ClassId) (h sz mo w : Nat) (hz : mo ≤ 200 ∧ w ≤ 6) : Met l yX3_init wsX3_init ({ frames := 1, cells := 1, slots := 1200, locals := 21 } : Room) (va_Pc [.ref h, .int (nI mo), .int (nI w)] (fun U => U.heap.size = sz ∧ va_P D vwCl [(h, .inr (3, [.int 0, .int 0, .null, .int 0]))] U.heap ∧ va_K D vwCl [(cI, .int), (cZ, .boolean)] U ∧ va_D (fun _ => True) [(h, .inr (3, [.int 0, .int 0, .null, .int 0]))])) (va_Qv (fun (_ : Unit) => True) (fun _ t => ∃ a : Nat, va_P D vwCl [(h, .inr (3, [.int (nI mo), .int (nI w), .ref a, .int (nI 0)])), (a, .inl (cI, mo * w, .inl (fl w (fun _ _ => 0))))] t.heap ∧ va_K D vwCl [(cI, .int), (cZ, .boolean)] t ∧ va_D (va_A [(h, .inr (3, [.int 0, .int 0, .null, .int 0]))] sz) [(h, .inr (3, [.int (nI mo), .int (nI w), .ref a, .int (nI 0)])), (a, .inl (cI, mo * w, .inl (fl w (fun _ _ => 0))))]) (va_A [(h, .inr (3, [.int 0, .int 0, .null, .int 0]))] sz)) 1 1200 (va_A [(h, .inr (3, [.int 0, .int 0, .null, .int 0]))] sz) := by
  have hbig : mo * w ≤ 1200 := Nat.mul_le_mul hz.1 hz.2
  refine Met.ofW (cc := cX3_init) (maxL := 3) (ret := none) (by decide) rfl ?_
  intro pp ee ss mm args bw me cd s₁ B hml hv
  obtain ⟨rfl, hsz, hP, hK, hD0⟩ := hv
  have hx := B.exec
  have hb := B.bytes
  have hr := B.returns
  have hts := atoms_spec (ws := wsX3_init) B.pre
  have hown : ss.vm.findClass RX3 = some mm.cls := findClass_of_methodNamed B.named
  have hlocks := B.notSynchronized
  have hin : me.name = "<init>" := (name_of_methodNamed B.named B.method).1
  subst hsz
  have hD := hD0.self (sz := ss.heap.size)
  generalize hAe : va_A [(h, .inr (3, [.int 0, .int 0, .null, .int 0]))] ss.heap.size = A at hD ⊢
  have hA : ∀ q : Nat, ss.heap.size ≤ q → A q := fun q h => by rw [← hAe]; exact Or.inr h
  have hS : va_S A ss.heap ss.heap [] := va_S.rf
  have hP : va_P D vwCl [(h, .inr (3, [.int 0, .int 0, .null, .int 0]))] ss.heap := hP
  have hl := lv_entry ([.ref h, .int (nI mo), .int (nI w)]) (n := 3) (Nat.le_of_ble_eq_true rfl)
  rw [lg_entry_eq]
  generalize (lg_sl ([.ref h, .int (nI mo), .int (nI w)]) ++ List.replicate (3 - (lg_sl ([.ref h, .int (nI mo), .int (nI w)])).length) Slot.unset).toArray = ls at hl ⊢
  have hl : lv_has ls 3 [(0, .ref h), (1, .int (nI mo)), (2, .int (nI w))] := hl
  have hin3 := (show ∀ w ∈ wsX30, w ∈ wsX3_init by decide +kernel)
  refine lv_aload_n hx hb dX3_init_0 rfl (lv_at hl 0 rfl) ?_
  refine W.objInit hx hb hown (hts (.methodLink RX3 3 objectInit) (by decide +kernel)) (hts (.instanceMethod objectInit) (by decide +kernel)) (hts _ (List.mem_of_getElem? (i := 3) rfl)) rfl (by rw [hml]; exact hl.1) rfl dX3_init_1 (Nat.le_of_ble_eq_true rfl) (Nat.le_of_ble_eq_true rfl) ?_
  refine W.eq (g2 := F0 mm 4 ls []) rfl ?_
  refine lv_aload_n hx hb dX3_init_4 rfl (lv_at hl 0 rfl) ?_
  refine lv_iconst (v := 0) hx hb dX3_init_5 (by decide) ?_
  refine lv_iload_n hx hb dX3_init_6 rfl (lv_at hl 1 rfl) ?_
  refine va_mmax hx hb (hml.trans hl.1.symm) hown (hts (.methodLink RX3 9 Lib.Math.max.name) (by decide +kernel)) (hts (.static Lib.Math.max.name) (by decide +kernel)) (hts (.initialized "java/lang/Math") (by decide +kernel)) (hts _ (List.mem_of_getElem? (i := 7) rfl)) (Nat.le_of_ble_eq_true rfl) (Nat.le_of_ble_eq_true rfl) (Nat.zero_le _) (Nat.zero_le _) dX3_init_7 ?_
  rw [max0 (show mo < 2 ^ 31 by omega)]
  refine va_putF (D := D) (ci := 3) (v := .int (nI mo)) (ty := .int) (C := RX3) (T := TX3) (N := 4) hx hb hts hin3 tyX3 tyX3_ok nmX3 hown hK hP hD hS 0 rfl rfl 0 (by decide) (hts (.fieldLink RX3 15 "OtherNames$Rows" "most" "I") (by decide +kernel)) (fun _ h9 => h9) rfl hin rfl (by decide +kernel) rfl rfl (Nat.le_of_ble_eq_true rfl) dX3_init_10 (fun H locs hP hD hS => ?_)
  have hP : va_P D vwCl [(h, .inr (3, [.int (nI mo), .int 0, .null, .int 0]))] H := hP
  have hD : va_D A [(h, .inr (3, [.int (nI mo), .int 0, .null, .int 0]))] := hD
  refine lv_aload_n hx hb dX3_init_13 rfl (lv_at hl 0 rfl) ?_
  refine lv_iconst (v := 0) hx hb dX3_init_14 (by decide) ?_
  refine lv_iload_n hx hb dX3_init_15 rfl (lv_at hl 2 rfl) ?_
  refine va_mmax hx hb (hml.trans hl.1.symm) hown (hts (.methodLink RX3 9 Lib.Math.max.name) (by decide +kernel)) (hts (.static Lib.Math.max.name) (by decide +kernel)) (hts (.initialized "java/lang/Math") (by decide +kernel)) (hts _ (List.mem_of_getElem? (i := 7) rfl)) (Nat.le_of_ble_eq_true rfl) (Nat.le_of_ble_eq_true rfl) (Nat.zero_le _) (Nat.zero_le _) dX3_init_16 ?_
  rw [max0 (show w < 2 ^ 31 by omega)]
  refine va_putF (D := D) (ci := 3) (v := .int (nI w)) (ty := .int) (C := RX3) (T := TX3) (N := 4) hx hb hts hin3 tyX3 tyX3_ok nmX3 hown hK hP hD hS 0 rfl rfl 1 (by decide) (hts (.fieldLink RX3 21 "OtherNames$Rows" "width" "I") (by decide +kernel)) (fun _ h9 => h9) rfl hin rfl (by decide +kernel) rfl rfl (Nat.le_of_ble_eq_true rfl) dX3_init_19 (fun H locs hP hD hS => ?_)
  have hP : va_P D vwCl [(h, .inr (3, [.int (nI mo), .int (nI w), .null, .int 0]))] H := hP
  have hD : va_D A [(h, .inr (3, [.int (nI mo), .int (nI w), .null, .int 0]))] := hD
  refine lv_aload_n hx hb dX3_init_22 rfl (lv_at hl 0 rfl) ?_
  refine lv_aload_n hx hb dX3_init_23 rfl (lv_at hl 0 rfl) ?_
  refine va_get (D := D) (ci := 3) (v := .int (nI mo)) (C := RX3) (T := TX3) (N := 4) hx hb hts hin3 hown hK hP 0 rfl rfl 0 (by decide) (hts (.fieldLink RX3 15 "OtherNames$Rows" "most" "I") (by decide +kernel)) (fun _ h9 => h9) rfl dX3_init_24 ?_
  refine lv_aload_n hx hb dX3_init_27 rfl (lv_at hl 0 rfl) ?_
  refine va_get (D := D) (ci := 3) (v := .int (nI w)) (C := RX3) (T := TX3) (N := 4) hx hb hts hin3 hown hK hP 0 rfl rfl 1 (by decide) (hts (.fieldLink RX3 21 "OtherNames$Rows" "width" "I") (by decide +kernel)) (fun _ h9 => h9) rfl dX3_init_28 ?_
  refine lv_imul hx hb dX3_init_31 ?_
  rw [pk_mul]
  refine va_newa (ty := .int) (N' := mo * w) (a0 := (mo * w, .inl (fun _ => 0))) hx hb (hts (.arrayClass .int) (by decide +kernel)) rfl hK hP hD hS hA (fun cA => rfl) (nI_pos (by omega)) (nI_clamp (by omega)) (by show mo * w * 4 ≤ 536870912; omega) (Nat.le_of_ble_eq_true rfl) (by show 0 + mo * w ≤ 1200; omega) dX3_init_32 (fun qa cA H hK2 hP hD hS => ?_)
  have ecA : cA = cI := Option.some.inj ((show ss.vm.findClass _ = some cA from (hK2.2 2 _ rfl).2).symm.trans (hK.2 0 _ rfl).2)
  rw [ecA] at hP hD
  have hP : va_P D vwCl [(h, .inr (3, [.int (nI mo), .int (nI w), .null, .int 0])), (qa, .inl (cI, mo * w, .inl (fun _ => 0)))] H := hP
  have hD : va_D A [(h, .inr (3, [.int (nI mo), .int (nI w), .null, .int 0])), (qa, .inl (cI, mo * w, .inl (fun _ => 0)))] := hD
  refine W.widen (k := 1) (n := 1200) (by omega) (by omega) ?_
  refine va_putF (D := D) (ci := 3) (v := .ref qa) (ty := .array .int) (C := RX3) (T := TX3) (N := 4) hx hb hts hin3 tyX3 tyX3_ok nmX3 hown hK hP hD hS 0 rfl rfl 2 (by decide) (hts (.fieldLink RX3 24 "OtherNames$Rows" "cells" "[I") (by decide +kernel)) (fun _ h9 => h9) rfl hin rfl (by decide +kernel) rfl rfl (Nat.le_of_ble_eq_true rfl) dX3_init_34 (fun H locs hP hD hS => ?_)
  have hP : va_P D vwCl [(h, .inr (3, [.int (nI mo), .int (nI w), .ref qa, .int 0])), (qa, .inl (cI, mo * w, .inl (fun _ => 0)))] H := hP
  have hD : va_D A [(h, .inr (3, [.int (nI mo), .int (nI w), .ref qa, .int 0])), (qa, .inl (cI, mo * w, .inl (fun _ => 0)))] := hD
  refine lv_aload_n hx hb dX3_init_37 rfl (lv_at hl 0 rfl) ?_
  refine lv_iconst (v := 0) hx hb dX3_init_38 (by decide) ?_
  refine va_put (D := D) (ci := 3) (v := .int 0) (ty := .int) (C := RX3) (T := TX3) (N := 4) hx hb hts hin3 tyX3 tyX3_ok nmX3 hown hK hP hD hS 0 rfl rfl 3 (by decide) (hts (.fieldLink RX3 28 "OtherNames$Rows" "size" "I") (by decide +kernel)) (fun _ h9 => h9) rfl (by decide +kernel) rfl rfl (Nat.le_of_ble_eq_true rfl) dX3_init_39 (fun H locs hP hD hS => ?_)
  have hP : va_P D vwCl [(h, .inr (3, [.int (nI mo), .int (nI w), .ref qa, .int (nI 0)])), (qa, .inl (cI, mo * w, .inl (fl w (fun _ _ => 0))))] H := hP
  have hD : va_D A [(h, .inr (3, [.int (nI mo), .int (nI w), .ref qa, .int (nI 0)])), (qa, .inl (cI, mo * w, .inl (fl w (fun _ _ => 0))))] := hD
  exact W.vret hx hb hr (fun t ht hW => ⟨⟨(), rfl, trivial, qa, by rw [ht]; exact hP, va_K.moved hW.alike hK, hD⟩, hS.F ht⟩) hS.2.2 dX3_init_42

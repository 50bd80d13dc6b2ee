set_option maxHeartbeats 4000000 in
set_option maxRecDepth 100000 in
theorem kX5_firstOf (l : Launch) (D : va_G) (cI cZ : ClassId) (o5 k6 k7 k8 k9 k10 k11 k12 k13 k14 k15 k16 k17 k18 k19 k20 k21 k22 k23 k24 k25 np nh nn nb ne : Nat) (td : Int32) (P G N B E : Nat → Nat → Int32) (mc : Nat → Int32) (h : Int32) (sp : Int32) (hh : Int32) (hnp : np ≤ 24) (hnn : nn ≤ 200) (hw : HP np (P 4)) (ho : HO nn np N) : Met l yX5_firstOf wsX5_firstOf ({ frames := 1, cells := 0, slots := 0, locals := 22 } : Room) (RdP D [(cI, .int), (cZ, .boolean)] [.ref o5, .int h, .int sp, .int hh] [(o5, .inr (5, [.int (nI np), .int (nI nh), .int td, .int (nI nn), .int (nI nb), .int (nI ne), .ref k6, .ref k7, .ref k8, .ref k9, .ref k10, .ref k11, .ref k12, .ref k13, .ref k14, .ref k15, .ref k16, .ref k17, .ref k18, .ref k19, .ref k20, .ref k21, .ref k22, .ref k23, .ref k24, .ref k25])), (k6, .inl (cI, 96, .inl (fl 4 P))), (k7, .inl (cI, 24, .inl (P 4))), (k8, .inl (cZ, 24, .inl (P 5))), (k9, .inl (cI, 5, .inl (G 0))), (k10, .inl (cI, 5, .inl (G 1))), (k11, .inl (cI, 5, .inl (G 2))), (k12, .inl (cI, 5, .inl (G 3))), (k13, .inl (cI, 5, .inl (G 4))), (k14, .inl (cI, 5, .inl (mc))), (k15, .inl (cZ, 5, .inl (G 5))), (k16, .inl (cI, 200, .inl (N 0))), (k17, .inl (cI, 200, .inl (N 1))), (k18, .inl (cI, 200, .inl (N 2))), (k19, .inl (cI, 200, .inl (N 3))), (k20, .inl (cI, 200, .inl (N 4))), (k21, .inl (cI, 20, .inl (B 0))), (k22, .inl (cI, 20, .inl (B 1))), (k23, .inl (cI, 20, .inl (B 2))), (k24, .inl (cI, 20, .inl (B 3))), (k25, .inl (cI, 1200, .inl (fl 6 E)))]) (QcRead (fsI (ffB N (P 4) h sp hh) nn)) 0 0 (fun _ => False) := by
  refine rd_of (cc := cX5_firstOf) (maxL := 5) (ret := (some .int)) (by decide) rfl (Nat.le_of_ble_eq_true rfl) ?_
  intro pp ee ss mm bw me cd ls hx hb hr hts hown hlocks hml hP hK hl
  have hl : lv_has ls 5 [(0, .ref o5), (1, .int h), (2, .int sp), (3, .int hh)] := hl
  have hf100 := hts (.fieldLink RX5 100 "OtherNamesModel" "names" "I") (by decide +kernel)
  have hin5 := (show ∀ w ∈ wsX50, w ∈ wsX5_firstOf by decide +kernel)
  have hf41 := hts (.fieldLink RX5 41 "OtherNamesModel" "nameHouse" "[I") (by decide +kernel)
  have hf53 := hts (.fieldLink RX5 53 "OtherNamesModel" "nameSpan" "[I") (by decide +kernel)
  have hf47 := hts (.fieldLink RX5 47 "OtherNamesModel" "owner" "[I") (by decide +kernel)
  refine lv_iconst (v := 0) hx hb dX5_firstOf_0 (by decide) ?_
  refine lv_istore (lv' := [(4, .int 0), (0, .ref o5), (1, .int h), (2, .int sp), (3, .int hh)]) hx hb dX5_firstOf_1 hl (by decide) rfl (fun ls hl => ?_)
  have loop : ∀ (k : Nat) (i : Nat) (ls : Array Slot), i ≤ nn → (∀ j, j < i → ffB N (P 4) h sp hh j = false) → nn < i + k → lv_has ls 5 [(0, .ref o5), (1, .int h), (2, .int sp), (3, .int hh), (4, .int (nI i))] → W pp l ee ({ frames := 1, cells := 0, slots := 0, locals := 22 } : Room) ss mm ([.ref o5, .int h, .int sp, .int hh] : List Value).toArray bw me cd ss.heap [] 0 0 (MQ bw (QcRead (fsI (ffB N (P 4) h sp hh) nn)) ([.ref o5, .int h, .int sp, .int hh] : List Value).toArray ss 0 0 (fun _ => False)) (F0 mm 3 ls []) := by
    intro k
    induction k with
    | zero => intro i ls hi hno hk; exact absurd hk (by omega)
    | succ k ih =>
      intro i ls hi hno hk hl
      refine lv_iload hx hb dX5_firstOf_3 (lv_at hl 4 rfl) ?_
      refine lv_aload_n hx hb dX5_firstOf_5 rfl (lv_at hl 0 rfl) ?_
      refine va_get (D := D) (ci := 5) (v := .int (nI nn)) (C := RX5) (T := TX5) (N := 26) hx hb hts hin5 hown hK hP 0 rfl rfl 3 (by decide) hf100 (fun _ h9 => h9) rfl dX5_firstOf_6 ?_
      refine lv_icmp_ge (tgt := 58) hx hb dX5_firstOf_9 (by decide) (fun c_9 => ?_) (fun c_9 => ?_)
      · skip
        have hi2 : i = nn := Nat.le_antisymm hi (lit_T c_9 nn rfl (by omega) (by omega))
        refine lv_iconst (v := (-1)) hx hb dX5_firstOf_58 (by decide) ?_
        exact rd_iret hx hb hr hlocks dX5_firstOf_59 (by rw [hi2] at hno; rw [fsI_none hno])
      · skip
        have hi2 : i < nn := lit_F c_9 nn rfl (by omega) (by omega)
        refine lv_aload_n hx hb dX5_firstOf_12 rfl (lv_at hl 0 rfl) ?_
        refine va_get (D := D) (ci := 5) (v := .ref k16) (C := RX5) (T := TX5) (N := 26) hx hb hts hin5 hown hK hP 0 rfl rfl 16 (by decide) hf41 (fun _ h9 => h9) rfl dX5_firstOf_13 ?_
        refine lv_iload hx hb dX5_firstOf_16 (lv_at hl 4 rfl) ?_
        refine va_ialdN (D := D) (cl := vwCl) (cA := cI) (f := N 0) hx hb hK hP 11 0 rfl rfl i (rfl) (by omega) (by first | decide | assumption) dX5_firstOf_18 ?_
        refine lv_iload_n hx hb dX5_firstOf_19 rfl (lv_at hl 1 rfl) ?_
        refine lv_icmp_ne (tgt := 52) hx hb dX5_firstOf_20 (by decide) (fun c_20 => ?_) (fun c_20 => ?_)
        · skip
          refine lv_iinc (v := (nI i) + 1) (lv' := [(4, .int (((nI i) + 1))), (0, .ref o5), (1, .int h), (2, .int sp), (3, .int hh)]) hx hb dX5_firstOf_52 hl (k := 4) rfl rfl (by decide) rfl (fun ls hl => ?_)
          refine lv_goto (tgt := 3) hx hb dX5_firstOf_55 (by decide) ?_
          rw [nI_1 i] at hl
          exact ih (i + 1) ls (by omega) (noS hno (by simp [ffB, c_9, c_20])) (by omega) (lv_sub hl [1, 2, 3, 4, 0] rfl)
        · skip
          refine lv_aload_n hx hb dX5_firstOf_23 rfl (lv_at hl 0 rfl) ?_
          refine va_get (D := D) (ci := 5) (v := .ref k20) (C := RX5) (T := TX5) (N := 26) hx hb hts hin5 hown hK hP 0 rfl rfl 20 (by decide) hf53 (fun _ h9 => h9) rfl dX5_firstOf_24 ?_
          refine lv_iload hx hb dX5_firstOf_27 (lv_at hl 4 rfl) ?_
          refine va_ialdN (D := D) (cl := vwCl) (cA := cI) (f := N 4) hx hb hK hP 15 0 rfl rfl i (rfl) (by omega) (by first | decide | assumption) dX5_firstOf_29 ?_
          refine lv_iload_n hx hb dX5_firstOf_30 rfl (lv_at hl 2 rfl) ?_
          refine lv_icmp_ne (tgt := 52) hx hb dX5_firstOf_31 (by decide) (fun c_31 => ?_) (fun c_31 => ?_)
          · skip
            refine lv_iinc (v := (nI i) + 1) (lv' := [(4, .int (((nI i) + 1))), (0, .ref o5), (1, .int h), (2, .int sp), (3, .int hh)]) hx hb dX5_firstOf_52 hl (k := 4) rfl rfl (by decide) rfl (fun ls hl => ?_)
            refine lv_goto (tgt := 3) hx hb dX5_firstOf_55 (by decide) ?_
            rw [nI_1 i] at hl
            exact ih (i + 1) ls (by omega) (noS hno (by simp [ffB, c_9, c_20, c_31])) (by omega) (lv_sub hl [1, 2, 3, 4, 0] rfl)
          · skip
            refine lv_aload_n hx hb dX5_firstOf_34 rfl (lv_at hl 0 rfl) ?_
            refine lv_aload_n hx hb dX5_firstOf_35 rfl (lv_at hl 0 rfl) ?_
            refine va_get (D := D) (ci := 5) (v := .ref k18) (C := RX5) (T := TX5) (N := 26) hx hb hts hin5 hown hK hP 0 rfl rfl 18 (by decide) hf47 (fun _ h9 => h9) rfl dX5_firstOf_36 ?_
            refine lv_iload hx hb dX5_firstOf_39 (lv_at hl 4 rfl) ?_
            refine va_ialdN (D := D) (cl := vwCl) (cA := cI) (f := N 2) hx hb hK hP 13 0 rfl rfl i (rfl) (by omega) (by first | decide | assumption) dX5_firstOf_41 ?_
            rw [show ((N 2) i) = nI (ow N i) from (ho i hi2).1]
            refine rcVw (As := [.int (nI (ow N i))]) (rest := []) (ci := 5) ⟨hx, hb, hml, hown, hts⟩ (kX5_head l D cI cZ o5 k6 k7 k8 k9 k10 k11 k12 k13 k14 k15 k16 k17 k18 k19 k20 k21 k22 k23 k24 k25 np nh nn nb ne td P G N B E mc (ow N i) (by first | assumption | omega) (by first | assumption | omega) (ho i hi2).2) (cwV 1 hts gX5_firstOf_X5_head rfl rfl rfl (by decide +kernel) ⟨Nat.le_of_ble_eq_true rfl, Nat.le_of_ble_eq_true rfl⟩) hK hP rfl rfl rfl rfl hl.1 rfl (Nat.le_of_ble_eq_true rfl) ⟨Nat.zero_le _, Nat.zero_le _⟩ dX5_firstOf_42 ?_
            refine lv_iload_n hx hb dX5_firstOf_45 rfl (lv_at hl 3 rfl) ?_
            refine lv_icmp_ne (tgt := 52) hx hb dX5_firstOf_46 (by decide) (fun c_46 => ?_) (fun c_46 => ?_)
            · skip
              refine lv_iinc (v := (nI i) + 1) (lv' := [(4, .int (((nI i) + 1))), (0, .ref o5), (1, .int h), (2, .int sp), (3, .int hh)]) hx hb dX5_firstOf_52 hl (k := 4) rfl rfl (by decide) rfl (fun ls hl => ?_)
              refine lv_goto (tgt := 3) hx hb dX5_firstOf_55 (by decide) ?_
              rw [nI_1 i] at hl
              exact ih (i + 1) ls (by omega) (noS hno (by simp [ffB, c_9, c_20, c_31, c_46])) (by omega) (lv_sub hl [1, 2, 3, 4, 0] rfl)
            · skip
              refine lv_iload hx hb dX5_firstOf_49 (lv_at hl 4 rfl) ?_
              exact rd_iret hx hb hr hlocks dX5_firstOf_51 (by rw [fsI_some hno (by simp [ffB, c_9, c_20, c_31, c_46]) (by omega) hi2])
  exact loop (nn + 1) 0 ls (by omega) (fun j hj => absurd hj (Nat.not_lt_zero j)) (by omega) (lv_sub hl [1, 2, 3, 4, 0] rfl)
set_option maxHeartbeats 4000000 in
set_option maxRecDepth 100000 in
theorem kX5_find (l : Launch) (D : va_G) (cI cZ : ClassId) (o5 k6 k7 k8 k9 k10 k11 k12 k13 k14 k15 k16 k17 k18 k19 k20 k21 k22 k23 k24 k25 np nh nn nb ne : Nat) (td : Int32) (P G N B E : Nat → Nat → Int32) (mc : Nat → Int32) (h : Int32) (nm : Int32) (hnn : nn ≤ 200) : Met l yX5_find wsX5_find ({ frames := 0, cells := 0, slots := 0, locals := 0 } : Room) (RdP D [(cI, .int), (cZ, .boolean)] [.ref o5, .int h, .int nm] [(o5, .inr (5, [.int (nI np), .int (nI nh), .int td, .int (nI nn), .int (nI nb), .int (nI ne), .ref k6, .ref k7, .ref k8, .ref k9, .ref k10, .ref k11, .ref k12, .ref k13, .ref k14, .ref k15, .ref k16, .ref k17, .ref k18, .ref k19, .ref k20, .ref k21, .ref k22, .ref k23, .ref k24, .ref k25])), (k6, .inl (cI, 96, .inl (fl 4 P))), (k7, .inl (cI, 24, .inl (P 4))), (k8, .inl (cZ, 24, .inl (P 5))), (k9, .inl (cI, 5, .inl (G 0))), (k10, .inl (cI, 5, .inl (G 1))), (k11, .inl (cI, 5, .inl (G 2))), (k12, .inl (cI, 5, .inl (G 3))), (k13, .inl (cI, 5, .inl (G 4))), (k14, .inl (cI, 5, .inl (mc))), (k15, .inl (cZ, 5, .inl (G 5))), (k16, .inl (cI, 200, .inl (N 0))), (k17, .inl (cI, 200, .inl (N 1))), (k18, .inl (cI, 200, .inl (N 2))), (k19, .inl (cI, 200, .inl (N 3))), (k20, .inl (cI, 200, .inl (N 4))), (k21, .inl (cI, 20, .inl (B 0))), (k22, .inl (cI, 20, .inl (B 1))), (k23, .inl (cI, 20, .inl (B 2))), (k24, .inl (cI, 20, .inl (B 3))), (k25, .inl (cI, 1200, .inl (fl 6 E)))]) (QcRead (fsI (fdB N h nm) nn)) 0 0 (fun _ => False) := by
  refine rd_of (cc := cX5_find) (maxL := 4) (ret := (some .int)) (by decide) rfl (Nat.le_of_ble_eq_true rfl) ?_
  intro pp ee ss mm bw me cd ls hx hb hr hts hown hlocks hml hP hK hl
  have hl : lv_has ls 4 [(0, .ref o5), (1, .int h), (2, .int nm)] := hl
  have hf100 := hts (.fieldLink RX5 100 "OtherNamesModel" "names" "I") (by decide +kernel)
  have hin5 := (show ∀ w ∈ wsX50, w ∈ wsX5_find by decide +kernel)
  have hf41 := hts (.fieldLink RX5 41 "OtherNamesModel" "nameHouse" "[I") (by decide +kernel)
  have hf44 := hts (.fieldLink RX5 44 "OtherNamesModel" "nameOf" "[I") (by decide +kernel)
  refine lv_iconst (v := 0) hx hb dX5_find_0 (by decide) ?_
  refine lv_istore_n (lv' := [(3, .int 0), (0, .ref o5), (1, .int h), (2, .int nm)]) hx hb dX5_find_1 rfl hl (by decide) rfl (fun ls hl => ?_)
  have loop : ∀ (k : Nat) (i : Nat) (ls : Array Slot), i ≤ nn → (∀ j, j < i → fdB N h nm j = false) → nn < i + k → lv_has ls 4 [(0, .ref o5), (1, .int h), (2, .int nm), (3, .int (nI i))] → W pp l ee ({ frames := 0, cells := 0, slots := 0, locals := 0 } : Room) ss mm ([.ref o5, .int h, .int nm] : List Value).toArray bw me cd ss.heap [] 0 0 (MQ bw (QcRead (fsI (fdB N h nm) nn)) ([.ref o5, .int h, .int nm] : List Value).toArray ss 0 0 (fun _ => False)) (F0 mm 2 ls []) := by
    intro k
    induction k with
    | zero => intro i ls hi hno hk; exact absurd hk (by omega)
    | succ k ih =>
      intro i ls hi hno hk hl
      refine lv_iload_n hx hb dX5_find_2 rfl (lv_at hl 3 rfl) ?_
      refine lv_aload_n hx hb dX5_find_3 rfl (lv_at hl 0 rfl) ?_
      refine va_get (D := D) (ci := 5) (v := .int (nI nn)) (C := RX5) (T := TX5) (N := 26) hx hb hts hin5 hown hK hP 0 rfl rfl 3 (by decide) hf100 (fun _ h9 => h9) rfl dX5_find_4 ?_
      refine lv_icmp_ge (tgt := 38) hx hb dX5_find_7 (by decide) (fun c_7 => ?_) (fun c_7 => ?_)
      · skip
        have hi2 : i = nn := Nat.le_antisymm hi (lit_T c_7 nn rfl (by omega) (by omega))
        refine lv_iconst (v := (-1)) hx hb dX5_find_38 (by decide) ?_
        exact rd_iret hx hb hr hlocks dX5_find_39 (by rw [hi2] at hno; rw [fsI_none hno])
      · skip
        have hi2 : i < nn := lit_F c_7 nn rfl (by omega) (by omega)
        refine lv_aload_n hx hb dX5_find_10 rfl (lv_at hl 0 rfl) ?_
        refine va_get (D := D) (ci := 5) (v := .ref k16) (C := RX5) (T := TX5) (N := 26) hx hb hts hin5 hown hK hP 0 rfl rfl 16 (by decide) hf41 (fun _ h9 => h9) rfl dX5_find_11 ?_
        refine lv_iload_n hx hb dX5_find_14 rfl (lv_at hl 3 rfl) ?_
        refine va_ialdN (D := D) (cl := vwCl) (cA := cI) (f := N 0) hx hb hK hP 11 0 rfl rfl i (rfl) (by omega) (by first | decide | assumption) dX5_find_15 ?_
        refine lv_iload_n hx hb dX5_find_16 rfl (lv_at hl 1 rfl) ?_
        refine lv_icmp_ne (tgt := 32) hx hb dX5_find_17 (by decide) (fun c_17 => ?_) (fun c_17 => ?_)
        · skip
          refine lv_iinc (v := (nI i) + 1) (lv' := [(3, .int (((nI i) + 1))), (0, .ref o5), (1, .int h), (2, .int nm)]) hx hb dX5_find_32 hl (k := 3) rfl rfl (by decide) rfl (fun ls hl => ?_)
          refine lv_goto (tgt := 2) hx hb dX5_find_35 (by decide) ?_
          rw [nI_1 i] at hl
          exact ih (i + 1) ls (by omega) (noS hno (by simp [fdB, c_7, c_17])) (by omega) (lv_sub hl [1, 2, 3, 0] rfl)
        · skip
          refine lv_aload_n hx hb dX5_find_20 rfl (lv_at hl 0 rfl) ?_
          refine va_get (D := D) (ci := 5) (v := .ref k17) (C := RX5) (T := TX5) (N := 26) hx hb hts hin5 hown hK hP 0 rfl rfl 17 (by decide) hf44 (fun _ h9 => h9) rfl dX5_find_21 ?_
          refine lv_iload_n hx hb dX5_find_24 rfl (lv_at hl 3 rfl) ?_
          refine va_ialdN (D := D) (cl := vwCl) (cA := cI) (f := N 1) hx hb hK hP 12 0 rfl rfl i (rfl) (by omega) (by first | decide | assumption) dX5_find_25 ?_
          refine lv_iload_n hx hb dX5_find_26 rfl (lv_at hl 2 rfl) ?_
          refine lv_icmp_ne (tgt := 32) hx hb dX5_find_27 (by decide) (fun c_27 => ?_) (fun c_27 => ?_)
          · skip
            refine lv_iinc (v := (nI i) + 1) (lv' := [(3, .int (((nI i) + 1))), (0, .ref o5), (1, .int h), (2, .int nm)]) hx hb dX5_find_32 hl (k := 3) rfl rfl (by decide) rfl (fun ls hl => ?_)
            refine lv_goto (tgt := 2) hx hb dX5_find_35 (by decide) ?_
            rw [nI_1 i] at hl
            exact ih (i + 1) ls (by omega) (noS hno (by simp [fdB, c_7, c_17, c_27])) (by omega) (lv_sub hl [1, 2, 3, 0] rfl)
          · skip
            refine lv_iload_n hx hb dX5_find_30 rfl (lv_at hl 3 rfl) ?_
            exact rd_iret hx hb hr hlocks dX5_find_31 (by rw [fsI_some hno (by simp [fdB, c_7, c_17, c_27]) (by omega) hi2])
  exact loop (nn + 1) 0 ls (by omega) (fun j hj => absurd hj (Nat.not_lt_zero j)) (by omega) (lv_sub hl [1, 2, 3, 0] rfl)
set_option maxHeartbeats 4000000 in
set_option maxRecDepth 100000 in
theorem kX5_isHeld (l : Launch) (D : va_G) (cI cZ : ClassId) (o5 k6 k7 k8 k9 k10 k11 k12 k13 k14 k15 k16 k17 k18 k19 k20 k21 k22 k23 k24 k25 np nh nn nb ne : Nat) (td : Int32) (P G N B E : Nat → Nat → Int32) (mc : Nat → Int32) (h : Int32) (g : Int32) (dy : Int32) (hnb : nb ≤ 20) : Met l yX5_isHeld wsX5_isHeld ({ frames := 0, cells := 0, slots := 0, locals := 0 } : Room) (RdP D [(cI, .int), (cZ, .boolean)] [.ref o5, .int h, .int g, .int dy] [(o5, .inr (5, [.int (nI np), .int (nI nh), .int td, .int (nI nn), .int (nI nb), .int (nI ne), .ref k6, .ref k7, .ref k8, .ref k9, .ref k10, .ref k11, .ref k12, .ref k13, .ref k14, .ref k15, .ref k16, .ref k17, .ref k18, .ref k19, .ref k20, .ref k21, .ref k22, .ref k23, .ref k24, .ref k25])), (k6, .inl (cI, 96, .inl (fl 4 P))), (k7, .inl (cI, 24, .inl (P 4))), (k8, .inl (cZ, 24, .inl (P 5))), (k9, .inl (cI, 5, .inl (G 0))), (k10, .inl (cI, 5, .inl (G 1))), (k11, .inl (cI, 5, .inl (G 2))), (k12, .inl (cI, 5, .inl (G 3))), (k13, .inl (cI, 5, .inl (G 4))), (k14, .inl (cI, 5, .inl (mc))), (k15, .inl (cZ, 5, .inl (G 5))), (k16, .inl (cI, 200, .inl (N 0))), (k17, .inl (cI, 200, .inl (N 1))), (k18, .inl (cI, 200, .inl (N 2))), (k19, .inl (cI, 200, .inl (N 3))), (k20, .inl (cI, 200, .inl (N 4))), (k21, .inl (cI, 20, .inl (B 0))), (k22, .inl (cI, 20, .inl (B 1))), (k23, .inl (cI, 20, .inl (B 2))), (k24, .inl (cI, 20, .inl (B 3))), (k25, .inl (cI, 1200, .inl (fl 6 E)))]) (QcRead (bI (anys (brB B h g dy) nb))) 0 0 (fun _ => False) := by
  refine rd_of (cc := cX5_isHeld) (maxL := 5) (ret := (some .boolean)) (by decide) rfl (Nat.le_of_ble_eq_true rfl) ?_
  intro pp ee ss mm bw me cd ls hx hb hr hts hown hlocks hml hP hK hl
  have hl : lv_has ls 5 [(0, .ref o5), (1, .int h), (2, .int g), (3, .int dy)] := hl
  have hf120 := hts (.fieldLink RX5 120 "OtherNamesModel" "bridges" "I") (by decide +kernel)
  have hin5 := (show ∀ w ∈ wsX50, w ∈ wsX5_isHeld by decide +kernel)
  have hf56 := hts (.fieldLink RX5 56 "OtherNamesModel" "bridgeFrom" "[I") (by decide +kernel)
  have hf59 := hts (.fieldLink RX5 59 "OtherNamesModel" "bridgeTo" "[I") (by decide +kernel)
  have hf62 := hts (.fieldLink RX5 62 "OtherNamesModel" "bridgeFirst" "[I") (by decide +kernel)
  have hf65 := hts (.fieldLink RX5 65 "OtherNamesModel" "bridgeLast" "[I") (by decide +kernel)
  refine lv_iconst (v := 0) hx hb dX5_isHeld_0 (by decide) ?_
  refine lv_istore (lv' := [(4, .int 0), (0, .ref o5), (1, .int h), (2, .int g), (3, .int dy)]) hx hb dX5_isHeld_1 hl (by decide) rfl (fun ls hl => ?_)
  have loop : ∀ (k : Nat) (i : Nat) (ls : Array Slot), i ≤ nb → (∀ j, j < i → brB B h g dy j = false) → nb < i + k → lv_has ls 5 [(0, .ref o5), (1, .int h), (2, .int g), (3, .int dy), (4, .int (nI i))] → W pp l ee ({ frames := 0, cells := 0, slots := 0, locals := 0 } : Room) ss mm ([.ref o5, .int h, .int g, .int dy] : List Value).toArray bw me cd ss.heap [] 0 0 (MQ bw (QcRead (bI (anys (brB B h g dy) nb))) ([.ref o5, .int h, .int g, .int dy] : List Value).toArray ss 0 0 (fun _ => False)) (F0 mm 3 ls []) := by
    intro k
    induction k with
    | zero => intro i ls hi hno hk; exact absurd hk (by omega)
    | succ k ih =>
      intro i ls hi hno hk hl
      refine lv_iload hx hb dX5_isHeld_3 (lv_at hl 4 rfl) ?_
      refine lv_aload_n hx hb dX5_isHeld_5 rfl (lv_at hl 0 rfl) ?_
      refine va_get (D := D) (ci := 5) (v := .int (nI nb)) (C := RX5) (T := TX5) (N := 26) hx hb hts hin5 hown hK hP 0 rfl rfl 4 (by decide) hf120 (fun _ h9 => h9) rfl dX5_isHeld_6 ?_
      refine lv_icmp_ge (tgt := 64) hx hb dX5_isHeld_9 (by decide) (fun c_9 => ?_) (fun c_9 => ?_)
      · skip
        have hi2 : i = nb := Nat.le_antisymm hi (lit_T c_9 nb rfl (by omega) (by omega))
        refine lv_iconst (v := 0) hx hb dX5_isHeld_64 (by decide) ?_
        exact rd_zret hx hb hr hlocks dX5_isHeld_65 (by rw [hi2] at hno; rw [anys_no hno]; rfl)
      · skip
        have hi2 : i < nb := lit_F c_9 nb rfl (by omega) (by omega)
        refine lv_aload_n hx hb dX5_isHeld_12 rfl (lv_at hl 0 rfl) ?_
        refine va_get (D := D) (ci := 5) (v := .ref k21) (C := RX5) (T := TX5) (N := 26) hx hb hts hin5 hown hK hP 0 rfl rfl 21 (by decide) hf56 (fun _ h9 => h9) rfl dX5_isHeld_13 ?_
        refine lv_iload hx hb dX5_isHeld_16 (lv_at hl 4 rfl) ?_
        refine va_ialdN (D := D) (cl := vwCl) (cA := cI) (f := B 0) hx hb hK hP 16 0 rfl rfl i (rfl) (by omega) (by first | decide | assumption) dX5_isHeld_18 ?_
        refine lv_iload_n hx hb dX5_isHeld_19 rfl (lv_at hl 1 rfl) ?_
        refine lv_icmp_ne (tgt := 58) hx hb dX5_isHeld_20 (by decide) (fun c_20 => ?_) (fun c_20 => ?_)
        · skip
          refine lv_iinc (v := (nI i) + 1) (lv' := [(4, .int (((nI i) + 1))), (0, .ref o5), (1, .int h), (2, .int g), (3, .int dy)]) hx hb dX5_isHeld_58 hl (k := 4) rfl rfl (by decide) rfl (fun ls hl => ?_)
          refine lv_goto (tgt := 3) hx hb dX5_isHeld_61 (by decide) ?_
          rw [nI_1 i] at hl
          exact ih (i + 1) ls (by omega) (noS hno (by simp [brB, c_9, c_20])) (by omega) (lv_sub hl [1, 2, 3, 4, 0] rfl)
        · skip
          refine lv_aload_n hx hb dX5_isHeld_23 rfl (lv_at hl 0 rfl) ?_
          refine va_get (D := D) (ci := 5) (v := .ref k22) (C := RX5) (T := TX5) (N := 26) hx hb hts hin5 hown hK hP 0 rfl rfl 22 (by decide) hf59 (fun _ h9 => h9) rfl dX5_isHeld_24 ?_
          refine lv_iload hx hb dX5_isHeld_27 (lv_at hl 4 rfl) ?_
          refine va_ialdN (D := D) (cl := vwCl) (cA := cI) (f := B 1) hx hb hK hP 17 0 rfl rfl i (rfl) (by omega) (by first | decide | assumption) dX5_isHeld_29 ?_
          refine lv_iload_n hx hb dX5_isHeld_30 rfl (lv_at hl 2 rfl) ?_
          refine lv_icmp_ne (tgt := 58) hx hb dX5_isHeld_31 (by decide) (fun c_31 => ?_) (fun c_31 => ?_)
          · skip
            refine lv_iinc (v := (nI i) + 1) (lv' := [(4, .int (((nI i) + 1))), (0, .ref o5), (1, .int h), (2, .int g), (3, .int dy)]) hx hb dX5_isHeld_58 hl (k := 4) rfl rfl (by decide) rfl (fun ls hl => ?_)
            refine lv_goto (tgt := 3) hx hb dX5_isHeld_61 (by decide) ?_
            rw [nI_1 i] at hl
            exact ih (i + 1) ls (by omega) (noS hno (by simp [brB, c_9, c_20, c_31])) (by omega) (lv_sub hl [1, 2, 3, 4, 0] rfl)
          · skip
            refine lv_iload_n hx hb dX5_isHeld_34 rfl (lv_at hl 3 rfl) ?_
            refine lv_aload_n hx hb dX5_isHeld_35 rfl (lv_at hl 0 rfl) ?_
            refine va_get (D := D) (ci := 5) (v := .ref k23) (C := RX5) (T := TX5) (N := 26) hx hb hts hin5 hown hK hP 0 rfl rfl 23 (by decide) hf62 (fun _ h9 => h9) rfl dX5_isHeld_36 ?_
            refine lv_iload hx hb dX5_isHeld_39 (lv_at hl 4 rfl) ?_
            refine va_ialdN (D := D) (cl := vwCl) (cA := cI) (f := B 2) hx hb hK hP 18 0 rfl rfl i (rfl) (by omega) (by first | decide | assumption) dX5_isHeld_41 ?_
            refine lv_icmp_lt (tgt := 58) hx hb dX5_isHeld_42 (by decide) (fun c_42 => ?_) (fun c_42 => ?_)
            · skip
              refine lv_iinc (v := (nI i) + 1) (lv' := [(4, .int (((nI i) + 1))), (0, .ref o5), (1, .int h), (2, .int g), (3, .int dy)]) hx hb dX5_isHeld_58 hl (k := 4) rfl rfl (by decide) rfl (fun ls hl => ?_)
              refine lv_goto (tgt := 3) hx hb dX5_isHeld_61 (by decide) ?_
              rw [nI_1 i] at hl
              exact ih (i + 1) ls (by omega) (noS hno (by simp [brB, c_9, c_20, c_31, c_42])) (by omega) (lv_sub hl [1, 2, 3, 4, 0] rfl)
            · skip
              refine lv_iload_n hx hb dX5_isHeld_45 rfl (lv_at hl 3 rfl) ?_
              refine lv_aload_n hx hb dX5_isHeld_46 rfl (lv_at hl 0 rfl) ?_
              refine va_get (D := D) (ci := 5) (v := .ref k24) (C := RX5) (T := TX5) (N := 26) hx hb hts hin5 hown hK hP 0 rfl rfl 24 (by decide) hf65 (fun _ h9 => h9) rfl dX5_isHeld_47 ?_
              refine lv_iload hx hb dX5_isHeld_50 (lv_at hl 4 rfl) ?_
              refine va_ialdN (D := D) (cl := vwCl) (cA := cI) (f := B 3) hx hb hK hP 19 0 rfl rfl i (rfl) (by omega) (by first | decide | assumption) dX5_isHeld_52 ?_
              refine lv_icmp_gt (tgt := 58) hx hb dX5_isHeld_53 (by decide) (fun c_53 => ?_) (fun c_53 => ?_)
              · skip
                refine lv_iinc (v := (nI i) + 1) (lv' := [(4, .int (((nI i) + 1))), (0, .ref o5), (1, .int h), (2, .int g), (3, .int dy)]) hx hb dX5_isHeld_58 hl (k := 4) rfl rfl (by decide) rfl (fun ls hl => ?_)
                refine lv_goto (tgt := 3) hx hb dX5_isHeld_61 (by decide) ?_
                rw [nI_1 i] at hl
                exact ih (i + 1) ls (by omega) (noS hno (by simp [brB, c_9, c_20, c_31, c_42, c_53])) (by omega) (lv_sub hl [1, 2, 3, 4, 0] rfl)
              · skip
                refine lv_iconst (v := 1) hx hb dX5_isHeld_56 (by decide) ?_
                exact rd_zret hx hb hr hlocks dX5_isHeld_57 (by rw [anys_yes (i := i) (by simp [brB, c_9, c_20, c_31, c_42, c_53]) hi2]; rfl)
  exact loop (nb + 1) 0 ls (by omega) (fun j hj => absurd hj (Nat.not_lt_zero j)) (by omega) (lv_sub hl [1, 2, 3, 4, 0] rfl)
set_option maxHeartbeats 4000000 in
set_option maxRecDepth 100000 in
theorem kX5_holds (l : Launch) (D : va_G) (cI cZ : ClassId) (o5 k6 k7 k8 k9 k10 k11 k12 k13 k14 k15 k16 k17 k18 k19 k20 k21 k22 k23 k24 k25 np nh nn nb ne : Nat) (td : Int32) (P G N B E : Nat → Nat → Int32) (mc : Nat → Int32) (h : Int32) (g : Int32) (dy : Int32) (hnb : nb ≤ 20) : Met l yX5_holds wsX5_holds ({ frames := 1, cells := 0, slots := 0, locals := 24 } : Room) (RdP D [(cI, .int), (cZ, .boolean)] [.ref o5, .int h, .int g, .int dy] [(o5, .inr (5, [.int (nI np), .int (nI nh), .int td, .int (nI nn), .int (nI nb), .int (nI ne), .ref k6, .ref k7, .ref k8, .ref k9, .ref k10, .ref k11, .ref k12, .ref k13, .ref k14, .ref k15, .ref k16, .ref k17, .ref k18, .ref k19, .ref k20, .ref k21, .ref k22, .ref k23, .ref k24, .ref k25])), (k6, .inl (cI, 96, .inl (fl 4 P))), (k7, .inl (cI, 24, .inl (P 4))), (k8, .inl (cZ, 24, .inl (P 5))), (k9, .inl (cI, 5, .inl (G 0))), (k10, .inl (cI, 5, .inl (G 1))), (k11, .inl (cI, 5, .inl (G 2))), (k12, .inl (cI, 5, .inl (G 3))), (k13, .inl (cI, 5, .inl (G 4))), (k14, .inl (cI, 5, .inl (mc))), (k15, .inl (cZ, 5, .inl (G 5))), (k16, .inl (cI, 200, .inl (N 0))), (k17, .inl (cI, 200, .inl (N 1))), (k18, .inl (cI, 200, .inl (N 2))), (k19, .inl (cI, 200, .inl (N 3))), (k20, .inl (cI, 200, .inl (N 4))), (k21, .inl (cI, 20, .inl (B 0))), (k22, .inl (cI, 20, .inl (B 1))), (k23, .inl (cI, 20, .inl (B 2))), (k24, .inl (cI, 20, .inl (B 3))), (k25, .inl (cI, 1200, .inl (fl 6 E)))]) (QcRead (if (twoH nh h g && inB dy 0 3000) = true then bI (anys (brB B h g dy) nb) else -1)) 0 0 (fun _ => False) := by
  refine rd_of (cc := cX5_holds) (maxL := 4) (ret := (some .int)) (by decide) rfl (Nat.le_of_ble_eq_true rfl) ?_
  intro pp ee ss mm bw me cd ls hx hb hr hts hown hlocks hml hP hK hl
  have hl : lv_has ls 4 [(0, .ref o5), (1, .int h), (2, .int g), (3, .int dy)] := hl
  refine lv_aload_n hx hb dX5_holds_0 rfl (lv_at hl 0 rfl) ?_
  refine lv_iload_n hx hb dX5_holds_1 rfl (lv_at hl 1 rfl) ?_
  refine rcVw (As := [.int h]) (rest := []) (ci := 5) ⟨hx, hb, hml, hown, hts⟩ (kX5_isHouse l D cI cZ o5 k6 k7 k8 k9 k10 k11 k12 k13 k14 k15 k16 k17 k18 k19 k20 k21 k22 k23 k24 k25 np nh nn nb ne td P G N B E mc h) (cwV 1 hts gX5_holds_X5_isHouse rfl rfl rfl (by decide +kernel) ⟨Nat.le_of_ble_eq_true rfl, Nat.le_of_ble_eq_true rfl⟩) hK hP rfl rfl rfl rfl hl.1 rfl (Nat.le_of_ble_eq_true rfl) ⟨Nat.zero_le _, Nat.zero_le _⟩ dX5_holds_2 ?_
  refine lb_eq (tgt := 32) hx hb dX5_holds_5 (by decide) (fun c_5 => ?_) (fun c_5 => ?_)
  · skip
    refine lv_iconst (v := (-1)) hx hb dX5_holds_32 (by decide) ?_
    exact rd_iret hx hb hr hlocks dX5_holds_33 (by simp [twoH, bI, c_5])
  · skip
    refine lv_aload_n hx hb dX5_holds_8 rfl (lv_at hl 0 rfl) ?_
    refine lv_iload_n hx hb dX5_holds_9 rfl (lv_at hl 2 rfl) ?_
    refine rcVw (As := [.int g]) (rest := []) (ci := 5) ⟨hx, hb, hml, hown, hts⟩ (kX5_isHouse l D cI cZ o5 k6 k7 k8 k9 k10 k11 k12 k13 k14 k15 k16 k17 k18 k19 k20 k21 k22 k23 k24 k25 np nh nn nb ne td P G N B E mc g) (cwV 1 hts gX5_holds_X5_isHouse rfl rfl rfl (by decide +kernel) ⟨Nat.le_of_ble_eq_true rfl, Nat.le_of_ble_eq_true rfl⟩) hK hP rfl rfl rfl rfl hl.1 rfl (Nat.le_of_ble_eq_true rfl) ⟨Nat.zero_le _, Nat.zero_le _⟩ dX5_holds_10 ?_
    refine lb_eq (tgt := 32) hx hb dX5_holds_13 (by decide) (fun c_13 => ?_) (fun c_13 => ?_)
    · skip
      refine lv_iconst (v := (-1)) hx hb dX5_holds_32 (by decide) ?_
      exact rd_iret hx hb hr hlocks dX5_holds_33 (by simp [twoH, bI, c_5, c_13])
    · skip
      refine lv_iload_n hx hb dX5_holds_16 rfl (lv_at hl 1 rfl) ?_
      refine lv_iload_n hx hb dX5_holds_17 rfl (lv_at hl 2 rfl) ?_
      refine lv_icmp_eq (tgt := 32) hx hb dX5_holds_18 (by decide) (fun c_18 => ?_) (fun c_18 => ?_)
      · skip
        refine lv_iconst (v := (-1)) hx hb dX5_holds_32 (by decide) ?_
        exact rd_iret hx hb hr hlocks dX5_holds_33 (by simp [twoH, bI, c_5, c_13, c_18])
      · skip
        refine lv_iload_n hx hb dX5_holds_21 rfl (lv_at hl 3 rfl) ?_
        refine lv_iconst (v := 0) hx hb dX5_holds_22 (by decide) ?_
        refine lv_sipush (v := 3000) hx hb dX5_holds_23 (by decide) ?_
        refine rcS (As := [.int dy, .int 0, .int 3000]) (rest := []) ⟨hx, hb, hml, hown, hts⟩ (kX5_in l D cI cZ dy 0 3000) (va_cwS 3 hts gX5_holds_X5_in rfl rfl rfl (by decide +kernel) ⟨Nat.le_of_ble_eq_true rfl, Nat.le_of_ble_eq_true rfl⟩) hK hP [] rfl rfl hl.1 rfl (Nat.le_of_ble_eq_true rfl) ⟨Nat.zero_le _, Nat.zero_le _⟩ dX5_holds_26 ?_
        refine lb_ne (tgt := 34) hx hb dX5_holds_29 (by decide) (fun c_29 => ?_) (fun c_29 => ?_)
        · skip
          refine lv_aload_n hx hb dX5_holds_34 rfl (lv_at hl 0 rfl) ?_
          refine lv_iload_n hx hb dX5_holds_35 rfl (lv_at hl 1 rfl) ?_
          refine lv_iload_n hx hb dX5_holds_36 rfl (lv_at hl 2 rfl) ?_
          refine lv_iload_n hx hb dX5_holds_37 rfl (lv_at hl 3 rfl) ?_
          refine rcVw (As := [.int h, .int g, .int dy]) (rest := []) (ci := 5) ⟨hx, hb, hml, hown, hts⟩ (kX5_isHeld l D cI cZ o5 k6 k7 k8 k9 k10 k11 k12 k13 k14 k15 k16 k17 k18 k19 k20 k21 k22 k23 k24 k25 np nh nn nb ne td P G N B E mc h g dy (by first | assumption | omega)) (cwV 3 hts gX5_holds_X5_isHeld rfl rfl rfl (by decide +kernel) ⟨Nat.le_of_ble_eq_true rfl, Nat.le_of_ble_eq_true rfl⟩) hK hP rfl rfl rfl rfl hl.1 rfl (Nat.le_of_ble_eq_true rfl) ⟨Nat.zero_le _, Nat.zero_le _⟩ dX5_holds_38 ?_
          refine lb_eq (tgt := 48) hx hb dX5_holds_41 (by decide) (fun c_41 => ?_) (fun c_41 => ?_)
          · skip
            refine lv_iconst (v := 0) hx hb dX5_holds_48 (by decide) ?_
            exact rd_iret hx hb hr hlocks dX5_holds_49 (by simp [twoH, bI, c_5, c_13, c_18, c_29, c_41])
          · skip
            refine lv_iconst (v := 1) hx hb dX5_holds_44 (by decide) ?_
            refine lv_goto (tgt := 49) hx hb dX5_holds_45 (by decide) ?_
            exact rd_iret hx hb hr hlocks dX5_holds_49 (by simp [twoH, bI, c_5, c_13, c_18, c_29, c_41])
        · skip
          refine lv_iconst (v := (-1)) hx hb dX5_holds_32 (by decide) ?_
          exact rd_iret hx hb hr hlocks dX5_holds_33 (by simp [twoH, bI, c_5, c_13, c_18, c_29])

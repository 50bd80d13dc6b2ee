set_option maxHeartbeats 4000000 in
set_option maxRecDepth 100000 in
theorem kX5_knows (l : Launch) (D : va_G) (cI cZ : ClassId) (o5 k6 k7 k8 k9 k10 k11 k12 k13 k14 k15 k16 k17 k18 k19 k20 k21 k22 k23 k24 k25 np nh nn nb ne : Nat) (td : Int32) (P G N B E : Nat → Nat → Int32) (mc : Nat → Int32) (h : Int32) (p : Nat) (hnp : np ≤ 24) (hnn : nn ≤ 200) (hw : HP np (P 4)) (ho : HO nn np N) (hp : p < np) : Met l yX5_knows wsX5_knows ({ frames := 1, cells := 0, slots := 0, locals := 22 } : Room) (RdP D [(cI, .int), (cZ, .boolean)] [.ref o5, .int h, .int (nI p)] [(o5, .inr (5, [.int (nI np), .int (nI nh), .int td, .int (nI nn), .int (nI nb), .int (nI ne), .ref k6, .ref k7, .ref k8, .ref k9, .ref k10, .ref k11, .ref k12, .ref k13, .ref k14, .ref k15, .ref k16, .ref k17, .ref k18, .ref k19, .ref k20, .ref k21, .ref k22, .ref k23, .ref k24, .ref k25])), (k6, .inl (cI, 96, .inl (fl 4 P))), (k7, .inl (cI, 24, .inl (P 4))), (k8, .inl (cZ, 24, .inl (P 5))), (k9, .inl (cI, 5, .inl (G 0))), (k10, .inl (cI, 5, .inl (G 1))), (k11, .inl (cI, 5, .inl (G 2))), (k12, .inl (cI, 5, .inl (G 3))), (k13, .inl (cI, 5, .inl (G 4))), (k14, .inl (cI, 5, .inl (mc))), (k15, .inl (cZ, 5, .inl (G 5))), (k16, .inl (cI, 200, .inl (N 0))), (k17, .inl (cI, 200, .inl (N 1))), (k18, .inl (cI, 200, .inl (N 2))), (k19, .inl (cI, 200, .inl (N 3))), (k20, .inl (cI, 200, .inl (N 4))), (k21, .inl (cI, 20, .inl (B 0))), (k22, .inl (cI, 20, .inl (B 1))), (k23, .inl (cI, 20, .inl (B 2))), (k24, .inl (cI, 20, .inl (B 3))), (k25, .inl (cI, 1200, .inl (fl 6 E)))]) (QcRead (bI (knB nn P N h p))) 0 0 (fun _ => False) := by
  refine rd_of (cc := cX5_knows) (maxL := 4) (ret := (some .boolean)) (by decide) rfl (Nat.le_of_ble_eq_true rfl) ?_
  intro pp ee ss mm bw me cd ls hx hb hr hts hown hlocks hml hP hK hl
  have hl : lv_has ls 4 [(0, .ref o5), (1, .int h), (2, .int ((nI p)))] := hl
  have hf16 := hts (.fieldLink RX5 16 "OtherNamesModel" "isStruck" "[Z") (by decide +kernel)
  have hin5 := (show ∀ w ∈ wsX50, w ∈ wsX5_knows by decide +kernel)
  have hf100 := hts (.fieldLink RX5 100 "OtherNamesModel" "names" "I") (by decide +kernel)
  have hf41 := hts (.fieldLink RX5 41 "OtherNamesModel" "nameHouse" "[I") (by decide +kernel)
  have hf47 := hts (.fieldLink RX5 47 "OtherNamesModel" "owner" "[I") (by decide +kernel)
  refine lv_aload_n hx hb dX5_knows_0 rfl (lv_at hl 0 rfl) ?_
  refine lv_iload_n hx hb dX5_knows_1 rfl (lv_at hl 2 rfl) ?_
  refine rcVw (As := [.int ((nI p))]) (rest := []) (ci := 5) ⟨hx, hb, hml, hown, hts⟩ (kX5_head l D cI cZ o5 k6 k7 k8 k9 k10 k11 k12 k13 k14 k15 k16 k17 k18 k19 k20 k21 k22 k23 k24 k25 np nh nn nb ne td P G N B E mc p (by first | assumption | omega) (by first | assumption | omega) (hp)) (cwV 1 hts gX5_knows_X5_head rfl rfl rfl (by decide +kernel) ⟨Nat.le_of_ble_eq_true rfl, Nat.le_of_ble_eq_true rfl⟩) hK hP rfl rfl rfl rfl hl.1 rfl (Nat.le_of_ble_eq_true rfl) ⟨Nat.zero_le _, Nat.zero_le _⟩ dX5_knows_2 ?_
  refine lv_iload_n hx hb dX5_knows_5 rfl (lv_at hl 2 rfl) ?_
  refine lv_icmp_ne (tgt := 18) hx hb dX5_knows_6 (by decide) (fun c_6 => ?_) (fun c_6 => ?_)
  · skip
    have hh : ¬ hd (P 4) p = p := fun q => c_6 (by rw [q])
    refine lv_iconst (v := 0) hx hb dX5_knows_18 (by decide) ?_
    exact rd_zret hx hb hr hlocks dX5_knows_19 (by simp [bI, knB, hh])
  · skip
    have hh : hd (P 4) p = p := nI_inj (by have := hd_lt hw hnp hp; omega) (by omega) c_6
    refine lv_aload_n hx hb dX5_knows_9 rfl (lv_at hl 0 rfl) ?_
    refine va_get (D := D) (ci := 5) (v := .ref k8) (C := RX5) (T := TX5) (N := 26) hx hb hts hin5 hown hK hP 0 rfl rfl 8 (by decide) hf16 (fun _ h9 => h9) rfl dX5_knows_10 ?_
    refine lv_iload_n hx hb dX5_knows_13 rfl (lv_at hl 2 rfl) ?_
    refine va_zaldN (D := D) (cl := vwCl) (cA := cZ) (f := P 5) hx hb hK hP 3 1 rfl rfl p (rfl) (by omega) (by first | decide | assumption) dX5_knows_14 ?_
    refine lv_if_eq (tgt := 20) hx hb dX5_knows_15 (by decide) (fun c_15 => ?_) (fun c_15 => ?_)
    · skip
      refine lv_iconst (v := 0) hx hb dX5_knows_20 (by decide) ?_
      refine lv_istore_n (lv' := [(3, .int 0), (0, .ref o5), (1, .int h), (2, .int ((nI p)))]) hx hb dX5_knows_21 rfl hl (by decide) rfl (fun ls hl => ?_)
      have loop : ∀ (k : Nat) (i : Nat) (ls : Array Slot), i ≤ nn → (∀ j, j < i → kwB N (P 4) h p j = false) → nn < i + k → lv_has ls 4 [(0, .ref o5), (1, .int h), (2, .int ((nI p))), (3, .int (nI i))] → W pp l ee ({ frames := 1, cells := 0, slots := 0, locals := 22 } : Room) ss mm ([.ref o5, .int h, .int (nI p)] : List Value).toArray bw me cd ss.heap [] 0 0 (MQ bw (QcRead (bI (knB nn P N h p))) ([.ref o5, .int h, .int (nI p)] : List Value).toArray ss 0 0 (fun _ => False)) (F0 mm 22 ls []) := by
        intro k
        induction k with
        | zero => intro i ls hi hno hk; exact absurd hk (by omega)
        | succ k ih =>
          intro i ls hi hno hk hl
          refine lv_iload_n hx hb dX5_knows_22 rfl (lv_at hl 3 rfl) ?_
          refine lv_aload_n hx hb dX5_knows_23 rfl (lv_at hl 0 rfl) ?_
          refine va_get (D := D) (ci := 5) (v := .int (nI nn)) (C := RX5) (T := TX5) (N := 26) hx hb hts hin5 hown hK hP 0 rfl rfl 3 (by decide) hf100 (fun _ h9 => h9) rfl dX5_knows_24 ?_
          refine lv_icmp_ge (tgt := 62) hx hb dX5_knows_27 (by decide) (fun c_27 => ?_) (fun c_27 => ?_)
          · skip
            have hi2 : i = nn := Nat.le_antisymm hi (lit_T c_27 nn rfl (by omega) (by omega))
            refine lv_iconst (v := 0) hx hb dX5_knows_62 (by decide) ?_
            exact rd_zret hx hb hr hlocks dX5_knows_63 (by rw [hi2] at hno; rw [knB, anys_no hno]; simp [bI])
          · skip
            have hi2 : i < nn := lit_F c_27 nn rfl (by omega) (by omega)
            have hoi := (ho i hi2).2
            refine lv_aload_n hx hb dX5_knows_30 rfl (lv_at hl 0 rfl) ?_
            refine va_get (D := D) (ci := 5) (v := .ref k16) (C := RX5) (T := TX5) (N := 26) hx hb hts hin5 hown hK hP 0 rfl rfl 16 (by decide) hf41 (fun _ h9 => h9) rfl dX5_knows_31 ?_
            refine lv_iload_n hx hb dX5_knows_34 rfl (lv_at hl 3 rfl) ?_
            refine va_ialdN (D := D) (cl := vwCl) (cA := cI) (f := N 0) hx hb hK hP 11 0 rfl rfl i (rfl) (by omega) (by first | decide | assumption) dX5_knows_35 ?_
            refine lv_iload_n hx hb dX5_knows_36 rfl (lv_at hl 1 rfl) ?_
            refine lv_icmp_ne (tgt := 56) hx hb dX5_knows_37 (by decide) (fun c_37 => ?_) (fun c_37 => ?_)
            · skip
              refine lv_iinc (v := (nI i) + 1) (lv' := [(3, .int (((nI i) + 1))), (0, .ref o5), (1, .int h), (2, .int ((nI p)))]) hx hb dX5_knows_56 hl (k := 3) rfl rfl (by decide) rfl (fun ls hl => ?_)
              refine lv_goto (tgt := 22) hx hb dX5_knows_59 (by decide) ?_
              rw [nI_1 i] at hl
              exact ih (i + 1) ls (by omega) (noS hno (by simp [kwB, c_37])) (by omega) (lv_sub hl [1, 2, 3, 0] rfl)
            · skip
              refine lv_aload_n hx hb dX5_knows_40 rfl (lv_at hl 0 rfl) ?_
              refine lv_aload_n hx hb dX5_knows_41 rfl (lv_at hl 0 rfl) ?_
              refine va_get (D := D) (ci := 5) (v := .ref k18) (C := RX5) (T := TX5) (N := 26) hx hb hts hin5 hown hK hP 0 rfl rfl 18 (by decide) hf47 (fun _ h9 => h9) rfl dX5_knows_42 ?_
              refine lv_iload_n hx hb dX5_knows_45 rfl (lv_at hl 3 rfl) ?_
              refine va_ialdN (D := D) (cl := vwCl) (cA := cI) (f := N 2) hx hb hK hP 13 0 rfl rfl i (rfl) (by omega) (by first | decide | assumption) dX5_knows_46 ?_
              rw [show ((N 2) i) = nI (ow N i) from (ho i hi2).1]
              refine rcVw (As := [.int (nI (ow N i))]) (rest := []) (ci := 5) ⟨hx, hb, hml, hown, hts⟩ (kX5_head l D cI cZ o5 k6 k7 k8 k9 k10 k11 k12 k13 k14 k15 k16 k17 k18 k19 k20 k21 k22 k23 k24 k25 np nh nn nb ne td P G N B E mc (ow N i) (by first | assumption | omega) (by first | assumption | omega) (hoi)) (cwV 1 hts gX5_knows_X5_head rfl rfl rfl (by decide +kernel) ⟨Nat.le_of_ble_eq_true rfl, Nat.le_of_ble_eq_true rfl⟩) hK hP rfl rfl rfl rfl hl.1 rfl (Nat.le_of_ble_eq_true rfl) ⟨Nat.zero_le _, Nat.zero_le _⟩ dX5_knows_47 ?_
              refine lv_iload_n hx hb dX5_knows_50 rfl (lv_at hl 2 rfl) ?_
              refine lv_icmp_ne (tgt := 56) hx hb dX5_knows_51 (by decide) (fun c_51 => ?_) (fun c_51 => ?_)
              · skip
                have hk2 : ¬ hd (P 4) (ow N i) = p := fun q => c_51 (by rw [q])
                refine lv_iinc (v := (nI i) + 1) (lv' := [(3, .int (((nI i) + 1))), (0, .ref o5), (1, .int h), (2, .int ((nI p)))]) hx hb dX5_knows_56 hl (k := 3) rfl rfl (by decide) rfl (fun ls hl => ?_)
                refine lv_goto (tgt := 22) hx hb dX5_knows_59 (by decide) ?_
                rw [nI_1 i] at hl
                exact ih (i + 1) ls (by omega) (noS hno (by simp [kwB, hk2])) (by omega) (lv_sub hl [1, 2, 3, 0] rfl)
              · skip
                have hk2 : hd (P 4) (ow N i) = p := nI_inj (by have := hd_lt hw hnp hoi; omega) (by omega) c_51
                refine lv_iconst (v := 1) hx hb dX5_knows_54 (by decide) ?_
                exact rd_zret hx hb hr hlocks dX5_knows_55 (by rw [knB, anys_yes (i := i) (by simp [kwB, c_37, hk2]) hi2]; simp [bI, hh, c_15])
      exact loop (nn + 1) 0 ls (by omega) (fun j hj => absurd hj (Nat.not_lt_zero j)) (by omega) (lv_sub hl [1, 2, 3, 0] rfl)
    · skip
      refine lv_iconst (v := 0) hx hb dX5_knows_18 (by decide) ?_
      exact rd_zret hx hb hr hlocks dX5_knows_19 (by simp [bI, knB, hh, c_15])
set_option maxHeartbeats 4000000 in
set_option maxRecDepth 100000 in
theorem kX5_areAlike (l : Launch) (D : va_G) (cI cZ : ClassId) (o5 k6 k7 k8 k9 k10 k11 k12 k13 k14 k15 k16 k17 k18 k19 k20 k21 k22 k23 k24 k25 np nh nn nb ne : Nat) (td : Int32) (P G N B E : Nat → Nat → Int32) (mc : Nat → Int32) (p : Nat) (q : Nat) (set : Int32) (hnp : np ≤ 24) (hp : p < np) (hq : q < np) : Met l yX5_areAlike wsX5_areAlike ({ frames := 0, cells := 0, slots := 0, locals := 0 } : Room) (RdP D [(cI, .int), (cZ, .boolean)] [.ref o5, .int (nI p), .int (nI q), .int set] [(o5, .inr (5, [.int (nI np), .int (nI nh), .int td, .int (nI nn), .int (nI nb), .int (nI ne), .ref k6, .ref k7, .ref k8, .ref k9, .ref k10, .ref k11, .ref k12, .ref k13, .ref k14, .ref k15, .ref k16, .ref k17, .ref k18, .ref k19, .ref k20, .ref k21, .ref k22, .ref k23, .ref k24, .ref k25])), (k6, .inl (cI, 96, .inl (fl 4 P))), (k7, .inl (cI, 24, .inl (P 4))), (k8, .inl (cZ, 24, .inl (P 5))), (k9, .inl (cI, 5, .inl (G 0))), (k10, .inl (cI, 5, .inl (G 1))), (k11, .inl (cI, 5, .inl (G 2))), (k12, .inl (cI, 5, .inl (G 3))), (k13, .inl (cI, 5, .inl (G 4))), (k14, .inl (cI, 5, .inl (mc))), (k15, .inl (cZ, 5, .inl (G 5))), (k16, .inl (cI, 200, .inl (N 0))), (k17, .inl (cI, 200, .inl (N 1))), (k18, .inl (cI, 200, .inl (N 2))), (k19, .inl (cI, 200, .inl (N 3))), (k20, .inl (cI, 200, .inl (N 4))), (k21, .inl (cI, 20, .inl (B 0))), (k22, .inl (cI, 20, .inl (B 1))), (k23, .inl (cI, 20, .inl (B 2))), (k24, .inl (cI, 20, .inl (B 3))), (k25, .inl (cI, 1200, .inl (fl 6 E)))]) (QcRead (bI (alls (alM P p q set) 4))) 0 0 (fun _ => False) := by
  refine rd_of (cc := cX5_areAlike) (maxL := 6) (ret := (some .boolean)) (by decide) rfl (Nat.le_of_ble_eq_true rfl) ?_
  intro pp ee ss mm bw me cd ls hx hb hr hts hown hlocks hml hP hK hl
  have hl : lv_has ls 6 [(0, .ref o5), (1, .int ((nI p))), (2, .int ((nI q))), (3, .int set)] := hl
  have hf7 := hts (.fieldLink RX5 7 "OtherNamesModel" "marks" "[I") (by decide +kernel)
  have hin5 := (show ∀ w ∈ wsX50, w ∈ wsX5_areAlike by decide +kernel)
  refine lv_iconst (v := 1) hx hb dX5_areAlike_0 (by decide) ?_
  refine lv_istore (lv' := [(4, .int 1), (0, .ref o5), (1, .int ((nI p))), (2, .int ((nI q))), (3, .int set)]) hx hb dX5_areAlike_1 hl (by decide) rfl (fun ls hl => ?_)
  refine lv_iconst (v := 0) hx hb dX5_areAlike_3 (by decide) ?_
  refine lv_istore (lv' := [(5, .int 0), (4, .int 1), (0, .ref o5), (1, .int ((nI p))), (2, .int ((nI q))), (3, .int set)]) hx hb dX5_areAlike_4 hl (by decide) rfl (fun ls hl => ?_)
  have loop : ∀ (k : Nat) (i : Nat) (ls : Array Slot), i ≤ 4 → 4 < i + k → lv_has ls 6 [(0, .ref o5), (1, .int ((nI p))), (2, .int ((nI q))), (3, .int set), (4, .int (bI (alls (alM P p q set) i))), (5, .int (nI i))] → W pp l ee ({ frames := 0, cells := 0, slots := 0, locals := 0 } : Room) ss mm ([.ref o5, .int (nI p), .int (nI q), .int set] : List Value).toArray bw me cd ss.heap [] 0 0 (MQ bw (QcRead (bI (alls (alM P p q set) 4))) ([.ref o5, .int (nI p), .int (nI q), .int set] : List Value).toArray ss 0 0 (fun _ => False)) (F0 mm 6 ls []) := by
    intro k
    induction k with
    | zero => intro i ls hi hk; exact absurd hk (by omega)
    | succ k ih =>
      intro i ls hi hk hl
      refine lv_iload hx hb dX5_areAlike_6 (lv_at hl 5 rfl) ?_
      refine lv_iconst (v := 4) hx hb dX5_areAlike_8 (by decide) ?_
      refine lv_icmp_ge (tgt := 64) hx hb dX5_areAlike_9 (by decide) (fun c_9 => ?_) (fun c_9 => ?_)
      · skip
        have hi2 : i = 4 := Nat.le_antisymm hi (lit_T c_9 4 rfl (by omega) (by omega))
        refine lv_iload hx hb dX5_areAlike_64 (lv_at hl 4 rfl) ?_
        exact rd_zret hx hb hr hlocks dX5_areAlike_66 (by rw [hi2])
      · skip
        have hi2 : i < 4 := lit_F c_9 4 rfl (by omega) (by omega)
        refine lv_iload hx hb dX5_areAlike_12 (lv_at hl 4 rfl) ?_
        refine lb_eq (tgt := 55) hx hb dX5_areAlike_14 (by decide) (fun c_14 => ?_) (fun c_14 => ?_)
        · skip
          refine lv_iconst (v := 0) hx hb dX5_areAlike_55 (by decide) ?_
          refine lv_istore (lv' := [(4, .int 0), (0, .ref o5), (1, .int ((nI p))), (2, .int ((nI q))), (3, .int set), (5, .int (nI i))]) hx hb dX5_areAlike_56 hl (by decide) rfl (fun ls hl => ?_)
          refine lv_iinc (v := (nI i) + 1) (lv' := [(5, .int (((nI i) + 1))), (4, .int 0), (0, .ref o5), (1, .int ((nI p))), (2, .int ((nI q))), (3, .int set)]) hx hb dX5_areAlike_58 hl (k := 5) rfl rfl (by decide) rfl (fun ls hl => ?_)
          refine lv_goto (tgt := 6) hx hb dX5_areAlike_61 (by decide) ?_
          rw [nI_1 i] at hl
          rw [show 0 = bI (alls (alM P p q set) (i + 1)) by simp [bI, alls, alM, c_9, c_14]] at hl
          exact ih (i + 1) ls (by omega) (by omega) (lv_sub hl [2, 3, 4, 5, 1, 0] rfl)
        · skip
          refine lv_iload_n hx hb dX5_areAlike_17 rfl (lv_at hl 3 rfl) ?_
          refine lv_iload hx hb dX5_areAlike_18 (lv_at hl 5 rfl) ?_
          refine lv_ishr hx hb dX5_areAlike_20 ?_
          refine lv_iconst (v := 1) hx hb dX5_areAlike_21 (by decide) ?_
          refine lv_iand hx hb dX5_areAlike_22 ?_
          refine lv_if_eq (tgt := 51) hx hb dX5_areAlike_23 (by decide) (fun c_23 => ?_) (fun c_23 => ?_)
          · skip
            refine lv_iconst (v := 1) hx hb dX5_areAlike_51 (by decide) ?_
            refine lv_goto (tgt := 56) hx hb dX5_areAlike_52 (by decide) ?_
            refine lv_istore (lv' := [(4, .int 1), (0, .ref o5), (1, .int ((nI p))), (2, .int ((nI q))), (3, .int set), (5, .int (nI i))]) hx hb dX5_areAlike_56 hl (by decide) rfl (fun ls hl => ?_)
            refine lv_iinc (v := (nI i) + 1) (lv' := [(5, .int (((nI i) + 1))), (4, .int 1), (0, .ref o5), (1, .int ((nI p))), (2, .int ((nI q))), (3, .int set)]) hx hb dX5_areAlike_58 hl (k := 5) rfl rfl (by decide) rfl (fun ls hl => ?_)
            refine lv_goto (tgt := 6) hx hb dX5_areAlike_61 (by decide) ?_
            rw [nI_1 i] at hl
            rw [show 1 = bI (alls (alM P p q set) (i + 1)) by simp [bI, alls, alM, c_9, c_14, c_23]] at hl
            exact ih (i + 1) ls (by omega) (by omega) (lv_sub hl [2, 3, 4, 5, 1, 0] rfl)
          · skip
            refine lv_aload_n hx hb dX5_areAlike_26 rfl (lv_at hl 0 rfl) ?_
            refine va_get (D := D) (ci := 5) (v := .ref k6) (C := RX5) (T := TX5) (N := 26) hx hb hts hin5 hown hK hP 0 rfl rfl 6 (by decide) hf7 (fun _ h9 => h9) rfl dX5_areAlike_27 ?_
            refine lv_iconst (v := 4) hx hb dX5_areAlike_30 (by decide) ?_
            refine lv_iload_n hx hb dX5_areAlike_31 rfl (lv_at hl 1 rfl) ?_
            refine lv_imul hx hb dX5_areAlike_32 ?_
            refine lv_iload hx hb dX5_areAlike_33 (lv_at hl 5 rfl) ?_
            refine lv_iadd hx hb dX5_areAlike_35 ?_
            refine va_ialdN (D := D) (cl := vwCl) (cA := cI) (f := fl 4 P) hx hb hK hP 1 0 rfl rfl (p * 4 + i) (ixI 4 p i) (by omega) (by first | decide | assumption) dX5_areAlike_36 ?_
            rw [show ((fl 4 P) (p * 4 + i)) = (P i p) from fl_at (by omega)]
            refine lv_aload_n hx hb dX5_areAlike_37 rfl (lv_at hl 0 rfl) ?_
            refine va_get (D := D) (ci := 5) (v := .ref k6) (C := RX5) (T := TX5) (N := 26) hx hb hts hin5 hown hK hP 0 rfl rfl 6 (by decide) hf7 (fun _ h9 => h9) rfl dX5_areAlike_38 ?_
            refine lv_iconst (v := 4) hx hb dX5_areAlike_41 (by decide) ?_
            refine lv_iload_n hx hb dX5_areAlike_42 rfl (lv_at hl 2 rfl) ?_
            refine lv_imul hx hb dX5_areAlike_43 ?_
            refine lv_iload hx hb dX5_areAlike_44 (lv_at hl 5 rfl) ?_
            refine lv_iadd hx hb dX5_areAlike_46 ?_
            refine va_ialdN (D := D) (cl := vwCl) (cA := cI) (f := fl 4 P) hx hb hK hP 1 0 rfl rfl (q * 4 + i) (ixI 4 q i) (by omega) (by first | decide | assumption) dX5_areAlike_47 ?_
            rw [show ((fl 4 P) (q * 4 + i)) = (P i q) from fl_at (by omega)]
            refine lv_icmp_ne (tgt := 55) hx hb dX5_areAlike_48 (by decide) (fun c_48 => ?_) (fun c_48 => ?_)
            · skip
              refine lv_iconst (v := 0) hx hb dX5_areAlike_55 (by decide) ?_
              refine lv_istore (lv' := [(4, .int 0), (0, .ref o5), (1, .int ((nI p))), (2, .int ((nI q))), (3, .int set), (5, .int (nI i))]) hx hb dX5_areAlike_56 hl (by decide) rfl (fun ls hl => ?_)
              refine lv_iinc (v := (nI i) + 1) (lv' := [(5, .int (((nI i) + 1))), (4, .int 0), (0, .ref o5), (1, .int ((nI p))), (2, .int ((nI q))), (3, .int set)]) hx hb dX5_areAlike_58 hl (k := 5) rfl rfl (by decide) rfl (fun ls hl => ?_)
              refine lv_goto (tgt := 6) hx hb dX5_areAlike_61 (by decide) ?_
              rw [nI_1 i] at hl
              rw [show 0 = bI (alls (alM P p q set) (i + 1)) by simp [bI, alls, alM, c_9, c_14, c_23, c_48]] at hl
              exact ih (i + 1) ls (by omega) (by omega) (lv_sub hl [2, 3, 4, 5, 1, 0] rfl)
            · skip
              refine lv_iconst (v := 1) hx hb dX5_areAlike_51 (by decide) ?_
              refine lv_goto (tgt := 56) hx hb dX5_areAlike_52 (by decide) ?_
              refine lv_istore (lv' := [(4, .int 1), (0, .ref o5), (1, .int ((nI p))), (2, .int ((nI q))), (3, .int set), (5, .int (nI i))]) hx hb dX5_areAlike_56 hl (by decide) rfl (fun ls hl => ?_)
              refine lv_iinc (v := (nI i) + 1) (lv' := [(5, .int (((nI i) + 1))), (4, .int 1), (0, .ref o5), (1, .int ((nI p))), (2, .int ((nI q))), (3, .int set)]) hx hb dX5_areAlike_58 hl (k := 5) rfl rfl (by decide) rfl (fun ls hl => ?_)
              refine lv_goto (tgt := 6) hx hb dX5_areAlike_61 (by decide) ?_
              rw [nI_1 i] at hl
              rw [show 1 = bI (alls (alM P p q set) (i + 1)) by simp [bI, alls, alM, c_9, c_14, c_23, c_48]] at hl
              exact ih (i + 1) ls (by omega) (by omega) (lv_sub hl [2, 3, 4, 5, 1, 0] rfl)
  exact loop 5 0 ls (by omega) (by omega) (lv_sub hl [2, 3, 4, 5, 1, 0] rfl)
set_option maxHeartbeats 4000000 in
set_option maxRecDepth 100000 in
theorem kX5_group (l : Launch) (D : va_G) (cI cZ : ClassId) (o5 k6 k7 k8 k9 k10 k11 k12 k13 k14 k15 k16 k17 k18 k19 k20 k21 k22 k23 k24 k25 np nh nn nb ne : Nat) (td : Int32) (P G N B E : Nat → Nat → Int32) (mc : Nat → Int32) (h : Int32) (p : Nat) (set : Int32) (hnp : np ≤ 24) (hnn : nn ≤ 200) (hw : HP np (P 4)) (ho : HO nn np N) (hp : p < np) : Met l yX5_group wsX5_group ({ frames := 2, cells := 0, slots := 0, locals := 45 } : Room) (RdP D [(cI, .int), (cZ, .boolean)] [.ref o5, .int h, .int (nI p), .int set] [(o5, .inr (5, [.int (nI np), .int (nI nh), .int td, .int (nI nn), .int (nI nb), .int (nI ne), .ref k6, .ref k7, .ref k8, .ref k9, .ref k10, .ref k11, .ref k12, .ref k13, .ref k14, .ref k15, .ref k16, .ref k17, .ref k18, .ref k19, .ref k20, .ref k21, .ref k22, .ref k23, .ref k24, .ref k25])), (k6, .inl (cI, 96, .inl (fl 4 P))), (k7, .inl (cI, 24, .inl (P 4))), (k8, .inl (cZ, 24, .inl (P 5))), (k9, .inl (cI, 5, .inl (G 0))), (k10, .inl (cI, 5, .inl (G 1))), (k11, .inl (cI, 5, .inl (G 2))), (k12, .inl (cI, 5, .inl (G 3))), (k13, .inl (cI, 5, .inl (G 4))), (k14, .inl (cI, 5, .inl (mc))), (k15, .inl (cZ, 5, .inl (G 5))), (k16, .inl (cI, 200, .inl (N 0))), (k17, .inl (cI, 200, .inl (N 1))), (k18, .inl (cI, 200, .inl (N 2))), (k19, .inl (cI, 200, .inl (N 3))), (k20, .inl (cI, 200, .inl (N 4))), (k21, .inl (cI, 20, .inl (B 0))), (k22, .inl (cI, 20, .inl (B 1))), (k23, .inl (cI, 20, .inl (B 2))), (k24, .inl (cI, 20, .inl (B 3))), (k25, .inl (cI, 1200, .inl (fl 6 E)))]) (QcRead (nI (grM np nn P N h p set))) 0 0 (fun _ => False) := by
  refine rd_of (cc := cX5_group) (maxL := 6) (ret := (some .int)) (by decide) rfl (Nat.le_of_ble_eq_true rfl) ?_
  intro pp ee ss mm bw me cd ls hx hb hr hts hown hlocks hml hP hK hl
  have hl : lv_has ls 6 [(0, .ref o5), (1, .int h), (2, .int ((nI p))), (3, .int set)] := hl
  have hf71 := hts (.fieldLink RX5 71 "OtherNamesModel" "people" "I") (by decide +kernel)
  have hin5 := (show ∀ w ∈ wsX50, w ∈ wsX5_group by decide +kernel)
  refine lv_iconst (v := 0) hx hb dX5_group_0 (by decide) ?_
  refine lv_istore (lv' := [(4, .int 0), (0, .ref o5), (1, .int h), (2, .int ((nI p))), (3, .int set)]) hx hb dX5_group_1 hl (by decide) rfl (fun ls hl => ?_)
  refine lv_iconst (v := 0) hx hb dX5_group_3 (by decide) ?_
  refine lv_istore (lv' := [(5, .int 0), (4, .int 0), (0, .ref o5), (1, .int h), (2, .int ((nI p))), (3, .int set)]) hx hb dX5_group_4 hl (by decide) rfl (fun ls hl => ?_)
  have loop : ∀ (k : Nat) (i : Nat) (ls : Array Slot), i ≤ np → np < i + k → lv_has ls 6 [(0, .ref o5), (1, .int h), (2, .int ((nI p))), (3, .int set), (4, .int (nI (ct (fun q => knB nn P N h q && alls (alM P p q set) 4) i))), (5, .int (nI i))] → W pp l ee ({ frames := 2, cells := 0, slots := 0, locals := 45 } : Room) ss mm ([.ref o5, .int h, .int (nI p), .int set] : List Value).toArray bw me cd ss.heap [] 0 0 (MQ bw (QcRead (nI (grM np nn P N h p set))) ([.ref o5, .int h, .int (nI p), .int set] : List Value).toArray ss 0 0 (fun _ => False)) (F0 mm 6 ls []) := by
    intro k
    induction k with
    | zero => intro i ls hi hk; exact absurd hk (by omega)
    | succ k ih =>
      intro i ls hi hk hl
      refine lv_iload hx hb dX5_group_6 (lv_at hl 5 rfl) ?_
      refine lv_aload_n hx hb dX5_group_8 rfl (lv_at hl 0 rfl) ?_
      refine va_get (D := D) (ci := 5) (v := .int (nI np)) (C := RX5) (T := TX5) (N := 26) hx hb hts hin5 hown hK hP 0 rfl rfl 0 (by decide) hf71 (fun _ h9 => h9) rfl dX5_group_9 ?_
      refine lv_icmp_ge (tgt := 52) hx hb dX5_group_12 (by decide) (fun c_12 => ?_) (fun c_12 => ?_)
      · skip
        have hi2 : i = np := Nat.le_antisymm hi (lit_T c_12 np rfl (by omega) (by omega))
        refine lv_iload hx hb dX5_group_52 (lv_at hl 4 rfl) ?_
        exact rd_iret hx hb hr hlocks dX5_group_54 (by rw [hi2]; rfl)
      · skip
        have hi2 : i < np := lit_F c_12 np rfl (by omega) (by omega)
        refine lv_iload hx hb dX5_group_15 (lv_at hl 4 rfl) ?_
        refine lv_aload_n hx hb dX5_group_17 rfl (lv_at hl 0 rfl) ?_
        refine lv_iload_n hx hb dX5_group_18 rfl (lv_at hl 1 rfl) ?_
        refine lv_iload hx hb dX5_group_19 (lv_at hl 5 rfl) ?_
        refine rcVw (As := [.int h, .int (nI i)]) (rest := [.int (nI (ct (fun q => knB nn P N h q && alls (alM P p q set) 4) i))]) (ci := 5) ⟨hx, hb, hml, hown, hts⟩ (kX5_knows l D cI cZ o5 k6 k7 k8 k9 k10 k11 k12 k13 k14 k15 k16 k17 k18 k19 k20 k21 k22 k23 k24 k25 np nh nn nb ne td P G N B E mc h i (by first | assumption | omega) (by first | assumption | omega) (by first | assumption | omega) (by first | assumption | omega) (hi2)) (cwV 2 hts gX5_group_X5_knows rfl rfl rfl (by decide +kernel) ⟨Nat.le_of_ble_eq_true rfl, Nat.le_of_ble_eq_true rfl⟩) hK hP rfl rfl rfl rfl hl.1 rfl (Nat.le_of_ble_eq_true rfl) ⟨Nat.zero_le _, Nat.zero_le _⟩ dX5_group_21 ?_
        refine lb_eq (tgt := 42) hx hb dX5_group_24 (by decide) (fun c_24 => ?_) (fun c_24 => ?_)
        · skip
          refine lv_iconst (v := 0) hx hb dX5_group_42 (by decide) ?_
          refine lv_iadd hx hb dX5_group_43 ?_
          refine lv_istore (lv' := [(4, .int (((nI (ct (fun q => knB nn P N h q && alls (alM P p q set) 4) i)) + 0))), (0, .ref o5), (1, .int h), (2, .int ((nI p))), (3, .int set), (5, .int (nI i))]) hx hb dX5_group_44 hl (by decide) rfl (fun ls hl => ?_)
          refine lv_iinc (v := (nI i) + 1) (lv' := [(5, .int (((nI i) + 1))), (4, .int (((nI (ct (fun q => knB nn P N h q && alls (alM P p q set) 4) i)) + 0))), (0, .ref o5), (1, .int h), (2, .int ((nI p))), (3, .int set)]) hx hb dX5_group_46 hl (k := 5) rfl rfl (by decide) rfl (fun ls hl => ?_)
          refine lv_goto (tgt := 6) hx hb dX5_group_49 (by decide) ?_
          rw [nI_1 i] at hl
          rw [show ((nI (ct (fun q => knB nn P N h q && alls (alM P p q set) 4) i)) + 0) = nI (ct (fun q => knB nn P N h q && alls (alM P p q set) 4) (i + 1)) by exact ct_no0 (by simp [c_12, c_24])] at hl
          exact ih (i + 1) ls (by omega) (by omega) (lv_sub hl [2, 3, 4, 5, 1, 0] rfl)
        · skip
          refine lv_aload_n hx hb dX5_group_27 rfl (lv_at hl 0 rfl) ?_
          refine lv_iload_n hx hb dX5_group_28 rfl (lv_at hl 2 rfl) ?_
          refine lv_iload hx hb dX5_group_29 (lv_at hl 5 rfl) ?_
          refine lv_iload_n hx hb dX5_group_31 rfl (lv_at hl 3 rfl) ?_
          refine rcVw (As := [.int ((nI p)), .int (nI i), .int set]) (rest := [.int (nI (ct (fun q => knB nn P N h q && alls (alM P p q set) 4) i))]) (ci := 5) ⟨hx, hb, hml, hown, hts⟩ (kX5_areAlike l D cI cZ o5 k6 k7 k8 k9 k10 k11 k12 k13 k14 k15 k16 k17 k18 k19 k20 k21 k22 k23 k24 k25 np nh nn nb ne td P G N B E mc p i set (by first | assumption | omega) (hp) (hi2)) (cwV 3 hts gX5_group_X5_areAlike rfl rfl rfl (by decide +kernel) ⟨Nat.le_of_ble_eq_true rfl, Nat.le_of_ble_eq_true rfl⟩) hK hP rfl rfl rfl rfl hl.1 rfl (Nat.le_of_ble_eq_true rfl) ⟨Nat.zero_le _, Nat.zero_le _⟩ dX5_group_32 ?_
          refine lb_eq (tgt := 42) hx hb dX5_group_35 (by decide) (fun c_35 => ?_) (fun c_35 => ?_)
          · skip
            refine lv_iconst (v := 0) hx hb dX5_group_42 (by decide) ?_
            refine lv_iadd hx hb dX5_group_43 ?_
            refine lv_istore (lv' := [(4, .int (((nI (ct (fun q => knB nn P N h q && alls (alM P p q set) 4) i)) + 0))), (0, .ref o5), (1, .int h), (2, .int ((nI p))), (3, .int set), (5, .int (nI i))]) hx hb dX5_group_44 hl (by decide) rfl (fun ls hl => ?_)
            refine lv_iinc (v := (nI i) + 1) (lv' := [(5, .int (((nI i) + 1))), (4, .int (((nI (ct (fun q => knB nn P N h q && alls (alM P p q set) 4) i)) + 0))), (0, .ref o5), (1, .int h), (2, .int ((nI p))), (3, .int set)]) hx hb dX5_group_46 hl (k := 5) rfl rfl (by decide) rfl (fun ls hl => ?_)
            refine lv_goto (tgt := 6) hx hb dX5_group_49 (by decide) ?_
            rw [nI_1 i] at hl
            rw [show ((nI (ct (fun q => knB nn P N h q && alls (alM P p q set) 4) i)) + 0) = nI (ct (fun q => knB nn P N h q && alls (alM P p q set) 4) (i + 1)) by exact ct_no0 (by simp [c_12, c_24, c_35])] at hl
            exact ih (i + 1) ls (by omega) (by omega) (lv_sub hl [2, 3, 4, 5, 1, 0] rfl)
          · skip
            refine lv_iconst (v := 1) hx hb dX5_group_38 (by decide) ?_
            refine lv_goto (tgt := 43) hx hb dX5_group_39 (by decide) ?_
            refine lv_iadd hx hb dX5_group_43 ?_
            refine lv_istore (lv' := [(4, .int (((nI (ct (fun q => knB nn P N h q && alls (alM P p q set) 4) i)) + 1))), (0, .ref o5), (1, .int h), (2, .int ((nI p))), (3, .int set), (5, .int (nI i))]) hx hb dX5_group_44 hl (by decide) rfl (fun ls hl => ?_)
            refine lv_iinc (v := (nI i) + 1) (lv' := [(5, .int (((nI i) + 1))), (4, .int (((nI (ct (fun q => knB nn P N h q && alls (alM P p q set) 4) i)) + 1))), (0, .ref o5), (1, .int h), (2, .int ((nI p))), (3, .int set)]) hx hb dX5_group_46 hl (k := 5) rfl rfl (by decide) rfl (fun ls hl => ?_)
            refine lv_goto (tgt := 6) hx hb dX5_group_49 (by decide) ?_
            rw [nI_1 i] at hl
            rw [show ((nI (ct (fun q => knB nn P N h q && alls (alM P p q set) 4) i)) + 1) = nI (ct (fun q => knB nn P N h q && alls (alM P p q set) 4) (i + 1)) by exact ct_yes (by simp [c_12, c_24, c_35])] at hl
            exact ih (i + 1) ls (by omega) (by omega) (lv_sub hl [2, 3, 4, 5, 1, 0] rfl)
  exact loop (np + 1) 0 ls (by omega) (by omega) (lv_sub hl [2, 3, 4, 5, 1, 0] rfl)
set_option maxHeartbeats 4000000 in
set_option maxRecDepth 100000 in
theorem kX5_known (l : Launch) (D : va_G) (cI cZ : ClassId) (o5 k6 k7 k8 k9 k10 k11 k12 k13 k14 k15 k16 k17 k18 k19 k20 k21 k22 k23 k24 k25 np nh nn nb ne : Nat) (td : Int32) (P G N B E : Nat → Nat → Int32) (mc : Nat → Int32) (h : Int32) (hnp : np ≤ 24) (hnn : nn ≤ 200) (hw : HP np (P 4)) (ho : HO nn np N) : Met l yX5_known wsX5_known ({ frames := 2, cells := 0, slots := 0, locals := 45 } : Room) (RdP D [(cI, .int), (cZ, .boolean)] [.ref o5, .int h] [(o5, .inr (5, [.int (nI np), .int (nI nh), .int td, .int (nI nn), .int (nI nb), .int (nI ne), .ref k6, .ref k7, .ref k8, .ref k9, .ref k10, .ref k11, .ref k12, .ref k13, .ref k14, .ref k15, .ref k16, .ref k17, .ref k18, .ref k19, .ref k20, .ref k21, .ref k22, .ref k23, .ref k24, .ref k25])), (k6, .inl (cI, 96, .inl (fl 4 P))), (k7, .inl (cI, 24, .inl (P 4))), (k8, .inl (cZ, 24, .inl (P 5))), (k9, .inl (cI, 5, .inl (G 0))), (k10, .inl (cI, 5, .inl (G 1))), (k11, .inl (cI, 5, .inl (G 2))), (k12, .inl (cI, 5, .inl (G 3))), (k13, .inl (cI, 5, .inl (G 4))), (k14, .inl (cI, 5, .inl (mc))), (k15, .inl (cZ, 5, .inl (G 5))), (k16, .inl (cI, 200, .inl (N 0))), (k17, .inl (cI, 200, .inl (N 1))), (k18, .inl (cI, 200, .inl (N 2))), (k19, .inl (cI, 200, .inl (N 3))), (k20, .inl (cI, 200, .inl (N 4))), (k21, .inl (cI, 20, .inl (B 0))), (k22, .inl (cI, 20, .inl (B 1))), (k23, .inl (cI, 20, .inl (B 2))), (k24, .inl (cI, 20, .inl (B 3))), (k25, .inl (cI, 1200, .inl (fl 6 E)))]) (QcRead (nI (ct (knB nn P N h) np))) 0 0 (fun _ => False) := by
  refine rd_of (cc := cX5_known) (maxL := 4) (ret := (some .int)) (by decide) rfl (Nat.le_of_ble_eq_true rfl) ?_
  intro pp ee ss mm bw me cd ls hx hb hr hts hown hlocks hml hP hK hl
  have hl : lv_has ls 4 [(0, .ref o5), (1, .int h)] := hl
  have hf71 := hts (.fieldLink RX5 71 "OtherNamesModel" "people" "I") (by decide +kernel)
  have hin5 := (show ∀ w ∈ wsX50, w ∈ wsX5_known by decide +kernel)
  refine lv_iconst (v := 0) hx hb dX5_known_0 (by decide) ?_
  refine lv_istore_n (lv' := [(2, .int 0), (0, .ref o5), (1, .int h)]) hx hb dX5_known_1 rfl hl (by decide) rfl (fun ls hl => ?_)
  refine lv_iconst (v := 0) hx hb dX5_known_2 (by decide) ?_
  refine lv_istore_n (lv' := [(3, .int 0), (2, .int 0), (0, .ref o5), (1, .int h)]) hx hb dX5_known_3 rfl hl (by decide) rfl (fun ls hl => ?_)
  have loop : ∀ (k : Nat) (i : Nat) (ls : Array Slot), i ≤ np → np < i + k → lv_has ls 4 [(0, .ref o5), (1, .int h), (2, .int (nI (ct (knB nn P N h) i))), (3, .int (nI i))] → W pp l ee ({ frames := 2, cells := 0, slots := 0, locals := 45 } : Room) ss mm ([.ref o5, .int h] : List Value).toArray bw me cd ss.heap [] 0 0 (MQ bw (QcRead (nI (ct (knB nn P N h) np))) ([.ref o5, .int h] : List Value).toArray ss 0 0 (fun _ => False)) (F0 mm 4 ls []) := by
    intro k
    induction k with
    | zero => intro i ls hi hk; exact absurd hk (by omega)
    | succ k ih =>
      intro i ls hi hk hl
      refine lv_iload_n hx hb dX5_known_4 rfl (lv_at hl 3 rfl) ?_
      refine lv_aload_n hx hb dX5_known_5 rfl (lv_at hl 0 rfl) ?_
      refine va_get (D := D) (ci := 5) (v := .int (nI np)) (C := RX5) (T := TX5) (N := 26) hx hb hts hin5 hown hK hP 0 rfl rfl 0 (by decide) hf71 (fun _ h9 => h9) rfl dX5_known_6 ?_
      refine lv_icmp_ge (tgt := 35) hx hb dX5_known_9 (by decide) (fun c_9 => ?_) (fun c_9 => ?_)
      · skip
        have hi2 : i = np := Nat.le_antisymm hi (lit_T c_9 np rfl (by omega) (by omega))
        refine lv_iload_n hx hb dX5_known_35 rfl (lv_at hl 2 rfl) ?_
        exact rd_iret hx hb hr hlocks dX5_known_36 (by rw [hi2])
      · skip
        have hi2 : i < np := lit_F c_9 np rfl (by omega) (by omega)
        refine lv_iload_n hx hb dX5_known_12 rfl (lv_at hl 2 rfl) ?_
        refine lv_aload_n hx hb dX5_known_13 rfl (lv_at hl 0 rfl) ?_
        refine lv_iload_n hx hb dX5_known_14 rfl (lv_at hl 1 rfl) ?_
        refine lv_iload_n hx hb dX5_known_15 rfl (lv_at hl 3 rfl) ?_
        refine rcVw (As := [.int h, .int (nI i)]) (rest := [.int (nI (ct (knB nn P N h) i))]) (ci := 5) ⟨hx, hb, hml, hown, hts⟩ (kX5_knows l D cI cZ o5 k6 k7 k8 k9 k10 k11 k12 k13 k14 k15 k16 k17 k18 k19 k20 k21 k22 k23 k24 k25 np nh nn nb ne td P G N B E mc h i (by first | assumption | omega) (by first | assumption | omega) (by first | assumption | omega) (by first | assumption | omega) (hi2)) (cwV 2 hts gX5_known_X5_knows rfl rfl rfl (by decide +kernel) ⟨Nat.le_of_ble_eq_true rfl, Nat.le_of_ble_eq_true rfl⟩) hK hP rfl rfl rfl rfl hl.1 rfl (Nat.le_of_ble_eq_true rfl) ⟨Nat.zero_le _, Nat.zero_le _⟩ dX5_known_16 ?_
        refine lb_eq (tgt := 26) hx hb dX5_known_19 (by decide) (fun c_19 => ?_) (fun c_19 => ?_)
        · skip
          refine lv_iconst (v := 0) hx hb dX5_known_26 (by decide) ?_
          refine lv_iadd hx hb dX5_known_27 ?_
          refine lv_istore_n (lv' := [(2, .int (((nI (ct (knB nn P N h) i)) + 0))), (0, .ref o5), (1, .int h), (3, .int (nI i))]) hx hb dX5_known_28 rfl hl (by decide) rfl (fun ls hl => ?_)
          refine lv_iinc (v := (nI i) + 1) (lv' := [(3, .int (((nI i) + 1))), (2, .int (((nI (ct (knB nn P N h) i)) + 0))), (0, .ref o5), (1, .int h)]) hx hb dX5_known_29 hl (k := 3) rfl rfl (by decide) rfl (fun ls hl => ?_)
          refine lv_goto (tgt := 4) hx hb dX5_known_32 (by decide) ?_
          rw [nI_1 i] at hl
          rw [show ((nI (ct (knB nn P N h) i)) + 0) = nI (ct (knB nn P N h) (i + 1)) by exact ct_no0 (by simp [c_9, c_19])] at hl
          exact ih (i + 1) ls (by omega) (by omega) (lv_sub hl [2, 3, 1, 0] rfl)
        · skip
          refine lv_iconst (v := 1) hx hb dX5_known_22 (by decide) ?_
          refine lv_goto (tgt := 27) hx hb dX5_known_23 (by decide) ?_
          refine lv_iadd hx hb dX5_known_27 ?_
          refine lv_istore_n (lv' := [(2, .int (((nI (ct (knB nn P N h) i)) + 1))), (0, .ref o5), (1, .int h), (3, .int (nI i))]) hx hb dX5_known_28 rfl hl (by decide) rfl (fun ls hl => ?_)
          refine lv_iinc (v := (nI i) + 1) (lv' := [(3, .int (((nI i) + 1))), (2, .int (((nI (ct (knB nn P N h) i)) + 1))), (0, .ref o5), (1, .int h)]) hx hb dX5_known_29 hl (k := 3) rfl rfl (by decide) rfl (fun ls hl => ?_)
          refine lv_goto (tgt := 4) hx hb dX5_known_32 (by decide) ?_
          rw [nI_1 i] at hl
          rw [show ((nI (ct (knB nn P N h) i)) + 1) = nI (ct (knB nn P N h) (i + 1)) by exact ct_yes (by simp [c_9, c_19])] at hl
          exact ih (i + 1) ls (by omega) (by omega) (lv_sub hl [2, 3, 1, 0] rfl)
  exact loop (np + 1) 0 ls (by omega) (by omega) (lv_sub hl [2, 3, 1, 0] rfl)

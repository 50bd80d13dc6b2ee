set_option maxHeartbeats 4000000 in
set_option maxRecDepth 100000 in
theorem kX5_joins (l : Launch) (D : va_G) (cI cZ : ClassId) (o5 k6 k7 k8 k9 k10 k11 k12 k13 k14 k15 k16 k17 k18 k19 k20 k21 k22 k23 k24 k25 np nh nn nb ne : Nat) (td : Int32) (P G N B E : Nat → Nat → Int32) (mc : Nat → Int32) (h : Int32) (g : Int32) (set : Int32) (hnp : np ≤ 24) (hnh : nh ≤ 5) (hnn : nn ≤ 200) (hw : HP np (P 4)) (ho : HO nn np N) (hs : ∀ p, P 5 p = 0 ∨ P 5 p = 1) : Met l yX5_joins wsX5_joins ({ frames := 3, cells := 0, slots := 0, locals := 70 } : Room) (RdP D [(cI, .int), (cZ, .boolean)] [.ref o5, .int h, .int g, .int set] [(o5, .inr (5, [.int (nI np), .int (nI nh), .int td, .int (nI nn), .int (nI nb), .int (nI ne), .ref k6, .ref k7, .ref k8, .ref k9, .ref k10, .ref k11, .ref k12, .ref k13, .ref k14, .ref k15, .ref k16, .ref k17, .ref k18, .ref k19, .ref k20, .ref k21, .ref k22, .ref k23, .ref k24, .ref k25])), (k6, .inl (cI, 96, .inl (fl 4 P))), (k7, .inl (cI, 24, .inl (P 4))), (k8, .inl (cZ, 24, .inl (P 5))), (k9, .inl (cI, 5, .inl (G 0))), (k10, .inl (cI, 5, .inl (G 1))), (k11, .inl (cI, 5, .inl (G 2))), (k12, .inl (cI, 5, .inl (G 3))), (k13, .inl (cI, 5, .inl (G 4))), (k14, .inl (cI, 5, .inl (mc))), (k15, .inl (cZ, 5, .inl (G 5))), (k16, .inl (cI, 200, .inl (N 0))), (k17, .inl (cI, 200, .inl (N 1))), (k18, .inl (cI, 200, .inl (N 2))), (k19, .inl (cI, 200, .inl (N 3))), (k20, .inl (cI, 200, .inl (N 4))), (k21, .inl (cI, 20, .inl (B 0))), (k22, .inl (cI, 20, .inl (B 1))), (k23, .inl (cI, 20, .inl (B 2))), (k24, .inl (cI, 20, .inl (B 3))), (k25, .inl (cI, 1200, .inl (fl 6 E)))]) (QcRead (if (twoH nh h g && inB set 0 15) = true then nI (ct (jnB np P (knw np P N h nn) (knw np P N g nn) set) 24) else -1)) 0 0 (fun _ => False) := by
  refine rd_of (cc := cX5_joins) (maxL := 6) (ret := (some .int)) (by decide) rfl (Nat.le_of_ble_eq_true rfl) ?_
  intro pp ee ss mm bw me cd ls hx hb hr hts hown hlocks hml hP hK hl
  have hl : lv_has ls 6 [(0, .ref o5), (1, .int h), (2, .int g), (3, .int set)] := hl
  have hf71 := hts (.fieldLink RX5 71 "OtherNamesModel" "people" "I") (by decide +kernel)
  have hin5 := (show ∀ w ∈ wsX50, w ∈ wsX5_joins by decide +kernel)
  refine lv_aload_n hx hb dX5_joins_0 rfl (lv_at hl 0 rfl) ?_
  refine lv_iload_n hx hb dX5_joins_1 rfl (lv_at hl 1 rfl) ?_
  refine rcVw (As := [.int h]) (rest := []) (ci := 5) ⟨hx, hb, hml, hown, hts⟩ (kX5_isHouse l D cI cZ o5 k6 k7 k8 k9 k10 k11 k12 k13 k14 k15 k16 k17 k18 k19 k20 k21 k22 k23 k24 k25 np nh nn nb ne td P G N B E mc h) (cwV 1 hts gX5_joins_X5_isHouse rfl rfl rfl (by decide +kernel) ⟨Nat.le_of_ble_eq_true rfl, Nat.le_of_ble_eq_true rfl⟩) hK hP rfl rfl rfl rfl hl.1 rfl (Nat.le_of_ble_eq_true rfl) ⟨Nat.zero_le _, Nat.zero_le _⟩ dX5_joins_2 ?_
  refine lb_eq (tgt := 31) hx hb dX5_joins_5 (by decide) (fun c_5 => ?_) (fun c_5 => ?_)
  · skip
    refine lv_iconst (v := (-1)) hx hb dX5_joins_31 (by decide) ?_
    exact rd_iret hx hb hr hlocks dX5_joins_32 (by simp [twoH, c_5])
  · skip
    refine lv_aload_n hx hb dX5_joins_8 rfl (lv_at hl 0 rfl) ?_
    refine lv_iload_n hx hb dX5_joins_9 rfl (lv_at hl 2 rfl) ?_
    refine rcVw (As := [.int g]) (rest := []) (ci := 5) ⟨hx, hb, hml, hown, hts⟩ (kX5_isHouse l D cI cZ o5 k6 k7 k8 k9 k10 k11 k12 k13 k14 k15 k16 k17 k18 k19 k20 k21 k22 k23 k24 k25 np nh nn nb ne td P G N B E mc g) (cwV 1 hts gX5_joins_X5_isHouse rfl rfl rfl (by decide +kernel) ⟨Nat.le_of_ble_eq_true rfl, Nat.le_of_ble_eq_true rfl⟩) hK hP rfl rfl rfl rfl hl.1 rfl (Nat.le_of_ble_eq_true rfl) ⟨Nat.zero_le _, Nat.zero_le _⟩ dX5_joins_10 ?_
    refine lb_eq (tgt := 31) hx hb dX5_joins_13 (by decide) (fun c_13 => ?_) (fun c_13 => ?_)
    · skip
      refine lv_iconst (v := (-1)) hx hb dX5_joins_31 (by decide) ?_
      exact rd_iret hx hb hr hlocks dX5_joins_32 (by simp [twoH, c_5, c_13])
    · skip
      refine lv_iload_n hx hb dX5_joins_16 rfl (lv_at hl 1 rfl) ?_
      refine lv_iload_n hx hb dX5_joins_17 rfl (lv_at hl 2 rfl) ?_
      refine lv_icmp_eq (tgt := 31) hx hb dX5_joins_18 (by decide) (fun c_18 => ?_) (fun c_18 => ?_)
      · skip
        refine lv_iconst (v := (-1)) hx hb dX5_joins_31 (by decide) ?_
        exact rd_iret hx hb hr hlocks dX5_joins_32 (by simp [twoH, c_5, c_13, c_18])
      · skip
        refine lv_iload_n hx hb dX5_joins_21 rfl (lv_at hl 3 rfl) ?_
        refine lv_iconst (v := 0) hx hb dX5_joins_22 (by decide) ?_
        refine lv_bipush (v := 15) hx hb dX5_joins_23 (by decide) ?_
        refine rcS (As := [.int set, .int 0, .int 15]) (rest := []) ⟨hx, hb, hml, hown, hts⟩ (kX5_in l D cI cZ set 0 15) (va_cwS 3 hts gX5_joins_X5_in rfl rfl rfl (by decide +kernel) ⟨Nat.le_of_ble_eq_true rfl, Nat.le_of_ble_eq_true rfl⟩) hK hP [] rfl rfl hl.1 rfl (Nat.le_of_ble_eq_true rfl) ⟨Nat.zero_le _, Nat.zero_le _⟩ dX5_joins_25 ?_
        refine lb_ne (tgt := 33) hx hb dX5_joins_28 (by decide) (fun c_28 => ?_) (fun c_28 => ?_)
        · skip
          refine lv_iconst (v := 0) hx hb dX5_joins_33 (by decide) ?_
          refine lv_istore (lv' := [(4, .int 0), (0, .ref o5), (1, .int h), (2, .int g), (3, .int set)]) hx hb dX5_joins_34 hl (by decide) rfl (fun ls hl => ?_)
          refine lv_iconst (v := 0) hx hb dX5_joins_36 (by decide) ?_
          refine lv_istore (lv' := [(5, .int 0), (4, .int 0), (0, .ref o5), (1, .int h), (2, .int g), (3, .int set)]) hx hb dX5_joins_37 hl (by decide) rfl (fun ls hl => ?_)
          have loop : ∀ (k : Nat) (i : Nat) (ls : Array Slot), i ≤ np → np < i + k → lv_has ls 6 [(0, .ref o5), (1, .int h), (2, .int g), (3, .int set), (4, .int (nI (ct (jnM np nn P N h g set) i))), (5, .int (nI i))] → W pp l ee ({ frames := 3, cells := 0, slots := 0, locals := 70 } : Room) ss mm ([.ref o5, .int h, .int g, .int set] : List Value).toArray bw me cd ss.heap [] 0 0 (MQ bw (QcRead (if (twoH nh h g && inB set 0 15) = true then nI (ct (jnB np P (knw np P N h nn) (knw np P N g nn) set) 24) else -1)) ([.ref o5, .int h, .int g, .int set] : List Value).toArray ss 0 0 (fun _ => False)) (F0 mm 39 ls []) := by
            intro k
            induction k with
            | zero => intro i ls hi hk; exact absurd hk (by omega)
            | succ k ih =>
              intro i ls hi hk hl
              refine lv_iload hx hb dX5_joins_39 (lv_at hl 5 rfl) ?_
              refine lv_aload_n hx hb dX5_joins_41 rfl (lv_at hl 0 rfl) ?_
              refine va_get (D := D) (ci := 5) (v := .int (nI np)) (C := RX5) (T := TX5) (N := 26) hx hb hts hin5 hown hK hP 0 rfl rfl 0 (by decide) hf71 (fun _ h9 => h9) rfl dX5_joins_42 ?_
              refine lv_icmp_ge (tgt := 108) hx hb dX5_joins_45 (by decide) (fun c_45 => ?_) (fun c_45 => ?_)
              · skip
                have hi2 : i = np := Nat.le_antisymm hi (lit_T c_45 np rfl (by omega) (by omega))
                refine lv_iload hx hb dX5_joins_108 (lv_at hl 4 rfl) ?_
                exact rd_iret hx hb hr hlocks dX5_joins_110 (by rw [hi2, if_pos (by simp [twoH, c_5, c_13, c_18, c_28]), joins_eq hnp hw ho hs])
              · skip
                have hi2 : i < np := lit_F c_45 np rfl (by omega) (by omega)
                refine lv_iload hx hb dX5_joins_48 (lv_at hl 4 rfl) ?_
                refine lv_aload_n hx hb dX5_joins_50 rfl (lv_at hl 0 rfl) ?_
                refine lv_iload_n hx hb dX5_joins_51 rfl (lv_at hl 1 rfl) ?_
                refine lv_iload hx hb dX5_joins_52 (lv_at hl 5 rfl) ?_
                refine rcVw (As := [.int h, .int (nI i)]) (rest := [.int (nI (ct (jnM np nn P N h g set) i))]) (ci := 5) ⟨hx, hb, hml, hown, hts⟩ (kX5_knows l D cI cZ o5 k6 k7 k8 k9 k10 k11 k12 k13 k14 k15 k16 k17 k18 k19 k20 k21 k22 k23 k24 k25 np nh nn nb ne td P G N B E mc h i (by first | assumption | omega) (by first | assumption | omega) (by first | assumption | omega) (by first | assumption | omega) (hi2)) (cwV 2 hts gX5_joins_X5_knows rfl rfl rfl (by decide +kernel) ⟨Nat.le_of_ble_eq_true rfl, Nat.le_of_ble_eq_true rfl⟩) hK hP rfl rfl rfl rfl hl.1 rfl (Nat.le_of_ble_eq_true rfl) ⟨Nat.zero_le _, Nat.zero_le _⟩ dX5_joins_54 ?_
                refine lb_eq (tgt := 98) hx hb dX5_joins_57 (by decide) (fun c_57 => ?_) (fun c_57 => ?_)
                · skip
                  refine lv_iconst (v := 0) hx hb dX5_joins_98 (by decide) ?_
                  refine lv_iadd hx hb dX5_joins_99 ?_
                  refine lv_istore (lv' := [(4, .int (((nI (ct (jnM np nn P N h g set) i)) + 0))), (0, .ref o5), (1, .int h), (2, .int g), (3, .int set), (5, .int (nI i))]) hx hb dX5_joins_100 hl (by decide) rfl (fun ls hl => ?_)
                  refine lv_iinc (v := (nI i) + 1) (lv' := [(5, .int (((nI i) + 1))), (4, .int (((nI (ct (jnM np nn P N h g set) i)) + 0))), (0, .ref o5), (1, .int h), (2, .int g), (3, .int set)]) hx hb dX5_joins_102 hl (k := 5) rfl rfl (by decide) rfl (fun ls hl => ?_)
                  refine lv_goto (tgt := 39) hx hb dX5_joins_105 (by decide) ?_
                  rw [nI_1 i] at hl
                  rw [show ((nI (ct (jnM np nn P N h g set) i)) + 0) = nI (ct (jnM np nn P N h g set) (i + 1)) by exact ct_no0 (by simp [jnM, c_5, c_13, c_18, c_28, c_45, c_57])] at hl
                  exact ih (i + 1) ls (by omega) (by omega) (lv_sub hl [2, 3, 4, 5, 1, 0] rfl)
                · skip
                  refine lv_aload_n hx hb dX5_joins_60 rfl (lv_at hl 0 rfl) ?_
                  refine lv_iload_n hx hb dX5_joins_61 rfl (lv_at hl 2 rfl) ?_
                  refine lv_iload hx hb dX5_joins_62 (lv_at hl 5 rfl) ?_
                  refine rcVw (As := [.int g, .int (nI i)]) (rest := [.int (nI (ct (jnM np nn P N h g set) i))]) (ci := 5) ⟨hx, hb, hml, hown, hts⟩ (kX5_knows l D cI cZ o5 k6 k7 k8 k9 k10 k11 k12 k13 k14 k15 k16 k17 k18 k19 k20 k21 k22 k23 k24 k25 np nh nn nb ne td P G N B E mc g i (by first | assumption | omega) (by first | assumption | omega) (by first | assumption | omega) (by first | assumption | omega) (hi2)) (cwV 2 hts gX5_joins_X5_knows rfl rfl rfl (by decide +kernel) ⟨Nat.le_of_ble_eq_true rfl, Nat.le_of_ble_eq_true rfl⟩) hK hP rfl rfl rfl rfl hl.1 rfl (Nat.le_of_ble_eq_true rfl) ⟨Nat.zero_le _, Nat.zero_le _⟩ dX5_joins_64 ?_
                  refine lb_eq (tgt := 98) hx hb dX5_joins_67 (by decide) (fun c_67 => ?_) (fun c_67 => ?_)
                  · skip
                    refine lv_iconst (v := 0) hx hb dX5_joins_98 (by decide) ?_
                    refine lv_iadd hx hb dX5_joins_99 ?_
                    refine lv_istore (lv' := [(4, .int (((nI (ct (jnM np nn P N h g set) i)) + 0))), (0, .ref o5), (1, .int h), (2, .int g), (3, .int set), (5, .int (nI i))]) hx hb dX5_joins_100 hl (by decide) rfl (fun ls hl => ?_)
                    refine lv_iinc (v := (nI i) + 1) (lv' := [(5, .int (((nI i) + 1))), (4, .int (((nI (ct (jnM np nn P N h g set) i)) + 0))), (0, .ref o5), (1, .int h), (2, .int g), (3, .int set)]) hx hb dX5_joins_102 hl (k := 5) rfl rfl (by decide) rfl (fun ls hl => ?_)
                    refine lv_goto (tgt := 39) hx hb dX5_joins_105 (by decide) ?_
                    rw [nI_1 i] at hl
                    rw [show ((nI (ct (jnM np nn P N h g set) i)) + 0) = nI (ct (jnM np nn P N h g set) (i + 1)) by exact ct_no0 (by simp [jnM, c_5, c_13, c_18, c_28, c_45, c_57, c_67])] at hl
                    exact ih (i + 1) ls (by omega) (by omega) (lv_sub hl [2, 3, 4, 5, 1, 0] rfl)
                  · skip
                    refine lv_aload_n hx hb dX5_joins_70 rfl (lv_at hl 0 rfl) ?_
                    refine lv_iload_n hx hb dX5_joins_71 rfl (lv_at hl 1 rfl) ?_
                    refine lv_iload hx hb dX5_joins_72 (lv_at hl 5 rfl) ?_
                    refine lv_iload_n hx hb dX5_joins_74 rfl (lv_at hl 3 rfl) ?_
                    refine rcVw (As := [.int h, .int (nI i), .int set]) (rest := [.int (nI (ct (jnM np nn P N h g set) i))]) (ci := 5) ⟨hx, hb, hml, hown, hts⟩ (kX5_group l D cI cZ o5 k6 k7 k8 k9 k10 k11 k12 k13 k14 k15 k16 k17 k18 k19 k20 k21 k22 k23 k24 k25 np nh nn nb ne td P G N B E mc h i set (by first | assumption | omega) (by first | assumption | omega) (by first | assumption | omega) (by first | assumption | omega) (hi2)) (cwV 3 hts gX5_joins_X5_group rfl rfl rfl (by decide +kernel) ⟨Nat.le_of_ble_eq_true rfl, Nat.le_of_ble_eq_true rfl⟩) hK hP rfl rfl rfl rfl hl.1 rfl (Nat.le_of_ble_eq_true rfl) ⟨Nat.zero_le _, Nat.zero_le _⟩ dX5_joins_75 ?_
                    refine lv_iconst (v := 1) hx hb dX5_joins_78 (by decide) ?_
                    refine lv_icmp_ne (tgt := 98) hx hb dX5_joins_79 (by decide) (fun c_79 => ?_) (fun c_79 => ?_)
                    · skip
                      refine lv_iconst (v := 0) hx hb dX5_joins_98 (by decide) ?_
                      refine lv_iadd hx hb dX5_joins_99 ?_
                      refine lv_istore (lv' := [(4, .int (((nI (ct (jnM np nn P N h g set) i)) + 0))), (0, .ref o5), (1, .int h), (2, .int g), (3, .int set), (5, .int (nI i))]) hx hb dX5_joins_100 hl (by decide) rfl (fun ls hl => ?_)
                      refine lv_iinc (v := (nI i) + 1) (lv' := [(5, .int (((nI i) + 1))), (4, .int (((nI (ct (jnM np nn P N h g set) i)) + 0))), (0, .ref o5), (1, .int h), (2, .int g), (3, .int set)]) hx hb dX5_joins_102 hl (k := 5) rfl rfl (by decide) rfl (fun ls hl => ?_)
                      refine lv_goto (tgt := 39) hx hb dX5_joins_105 (by decide) ?_
                      rw [nI_1 i] at hl
                      rw [show ((nI (ct (jnM np nn P N h g set) i)) + 0) = nI (ct (jnM np nn P N h g set) (i + 1)) by exact ct_no0 (by simp [jnM, c_5, c_13, c_18, c_28, c_45, c_57, c_67, c_79])] at hl
                      exact ih (i + 1) ls (by omega) (by omega) (lv_sub hl [2, 3, 4, 5, 1, 0] rfl)
                    · skip
                      refine lv_aload_n hx hb dX5_joins_82 rfl (lv_at hl 0 rfl) ?_
                      refine lv_iload_n hx hb dX5_joins_83 rfl (lv_at hl 2 rfl) ?_
                      refine lv_iload hx hb dX5_joins_84 (lv_at hl 5 rfl) ?_
                      refine lv_iload_n hx hb dX5_joins_86 rfl (lv_at hl 3 rfl) ?_
                      refine rcVw (As := [.int g, .int (nI i), .int set]) (rest := [.int (nI (ct (jnM np nn P N h g set) i))]) (ci := 5) ⟨hx, hb, hml, hown, hts⟩ (kX5_group l D cI cZ o5 k6 k7 k8 k9 k10 k11 k12 k13 k14 k15 k16 k17 k18 k19 k20 k21 k22 k23 k24 k25 np nh nn nb ne td P G N B E mc g i set (by first | assumption | omega) (by first | assumption | omega) (by first | assumption | omega) (by first | assumption | omega) (hi2)) (cwV 3 hts gX5_joins_X5_group rfl rfl rfl (by decide +kernel) ⟨Nat.le_of_ble_eq_true rfl, Nat.le_of_ble_eq_true rfl⟩) hK hP rfl rfl rfl rfl hl.1 rfl (Nat.le_of_ble_eq_true rfl) ⟨Nat.zero_le _, Nat.zero_le _⟩ dX5_joins_87 ?_
                      refine lv_iconst (v := 1) hx hb dX5_joins_90 (by decide) ?_
                      refine lv_icmp_ne (tgt := 98) hx hb dX5_joins_91 (by decide) (fun c_91 => ?_) (fun c_91 => ?_)
                      · skip
                        refine lv_iconst (v := 0) hx hb dX5_joins_98 (by decide) ?_
                        refine lv_iadd hx hb dX5_joins_99 ?_
                        refine lv_istore (lv' := [(4, .int (((nI (ct (jnM np nn P N h g set) i)) + 0))), (0, .ref o5), (1, .int h), (2, .int g), (3, .int set), (5, .int (nI i))]) hx hb dX5_joins_100 hl (by decide) rfl (fun ls hl => ?_)
                        refine lv_iinc (v := (nI i) + 1) (lv' := [(5, .int (((nI i) + 1))), (4, .int (((nI (ct (jnM np nn P N h g set) i)) + 0))), (0, .ref o5), (1, .int h), (2, .int g), (3, .int set)]) hx hb dX5_joins_102 hl (k := 5) rfl rfl (by decide) rfl (fun ls hl => ?_)
                        refine lv_goto (tgt := 39) hx hb dX5_joins_105 (by decide) ?_
                        rw [nI_1 i] at hl
                        rw [show ((nI (ct (jnM np nn P N h g set) i)) + 0) = nI (ct (jnM np nn P N h g set) (i + 1)) by exact ct_no0 (by simp [jnM, c_5, c_13, c_18, c_28, c_45, c_57, c_67, c_79, c_91])] at hl
                        exact ih (i + 1) ls (by omega) (by omega) (lv_sub hl [2, 3, 4, 5, 1, 0] rfl)
                      · skip
                        refine lv_iconst (v := 1) hx hb dX5_joins_94 (by decide) ?_
                        refine lv_goto (tgt := 99) hx hb dX5_joins_95 (by decide) ?_
                        refine lv_iadd hx hb dX5_joins_99 ?_
                        refine lv_istore (lv' := [(4, .int (((nI (ct (jnM np nn P N h g set) i)) + 1))), (0, .ref o5), (1, .int h), (2, .int g), (3, .int set), (5, .int (nI i))]) hx hb dX5_joins_100 hl (by decide) rfl (fun ls hl => ?_)
                        refine lv_iinc (v := (nI i) + 1) (lv' := [(5, .int (((nI i) + 1))), (4, .int (((nI (ct (jnM np nn P N h g set) i)) + 1))), (0, .ref o5), (1, .int h), (2, .int g), (3, .int set)]) hx hb dX5_joins_102 hl (k := 5) rfl rfl (by decide) rfl (fun ls hl => ?_)
                        refine lv_goto (tgt := 39) hx hb dX5_joins_105 (by decide) ?_
                        rw [nI_1 i] at hl
                        rw [show ((nI (ct (jnM np nn P N h g set) i)) + 1) = nI (ct (jnM np nn P N h g set) (i + 1)) by exact ct_yes (by simp [jnM, c_5, c_13, c_18, c_28, c_45, c_57, c_67, c_79, c_91])] at hl
                        exact ih (i + 1) ls (by omega) (by omega) (lv_sub hl [2, 3, 4, 5, 1, 0] rfl)
          exact loop (np + 1) 0 ls (by omega) (by omega) (lv_sub hl [2, 3, 4, 5, 1, 0] rfl)
        · skip
          refine lv_iconst (v := (-1)) hx hb dX5_joins_31 (by decide) ?_
          exact rd_iret hx hb hr hlocks dX5_joins_32 (by simp [twoH, c_5, c_13, c_18, c_28])

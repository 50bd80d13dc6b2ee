set_option maxHeartbeats 4000000 in
set_option maxRecDepth 100000 in
theorem kX5_tell (l : Launch) (D : va_G) (cI cZ : ClassId) (o5 k6 k7 k8 k9 k10 k11 k12 k13 k14 k15 k16 k17 k18 k19 k20 k21 k22 k23 k24 k25 np nh nn nb ne : Nat) (td : Int32) (P G N B E : Nat → Nat → Int32) (mc : Nat → Int32) (w : Int32) (hnp : np ≤ 24) (hnh : nh ≤ 5) (hnn : nn ≤ 200) (hw : HP np (P 4)) (ho : HO nn np N) (hs : ∀ p, P 5 p = 0 ∨ P 5 p = 1) (hg : ∀ h, h < nh → GH G h) (hmc : ∀ h, h < 5 → mc h = nI (ct (fun i => decide (N 0 i = nI h)) nn)) : Met l yX5_tell wsX5_tell ({ frames := 3, cells := 0, slots := 0, locals := 68 } : Room) (RdP D [(cI, .int), (cZ, .boolean)] [.ref o5, .int w] [(o5, .inr (5, [.int (nI np), .int (nI nh), .int td, .int (nI nn), .int (nI nb), .int (nI ne), .ref k6, .ref k7, .ref k8, .ref k9, .ref k10, .ref k11, .ref k12, .ref k13, .ref k14, .ref k15, .ref k16, .ref k17, .ref k18, .ref k19, .ref k20, .ref k21, .ref k22, .ref k23, .ref k24, .ref k25])), (k6, .inl (cI, 96, .inl (fl 4 P))), (k7, .inl (cI, 24, .inl (P 4))), (k8, .inl (cZ, 24, .inl (P 5))), (k9, .inl (cI, 5, .inl (G 0))), (k10, .inl (cI, 5, .inl (G 1))), (k11, .inl (cI, 5, .inl (G 2))), (k12, .inl (cI, 5, .inl (G 3))), (k13, .inl (cI, 5, .inl (G 4))), (k14, .inl (cI, 5, .inl (mc))), (k15, .inl (cZ, 5, .inl (G 5))), (k16, .inl (cI, 200, .inl (N 0))), (k17, .inl (cI, 200, .inl (N 1))), (k18, .inl (cI, 200, .inl (N 2))), (k19, .inl (cI, 200, .inl (N 3))), (k20, .inl (cI, 200, .inl (N 4))), (k21, .inl (cI, 20, .inl (B 0))), (k22, .inl (cI, 20, .inl (B 1))), (k23, .inl (cI, 20, .inl (B 2))), (k24, .inl (cI, 20, .inl (B 3))), (k25, .inl (cI, 1200, .inl (fl 6 E)))]) (QcRead (tlR np nh nn nb ne td P G N w)) 0 0 (fun _ => False) := by
  refine rd_of (cc := cX5_tell) (maxL := 2) (ret := (some .int)) (by decide) rfl (Nat.le_of_ble_eq_true rfl) ?_
  intro pp ee ss mm bw me cd ls hx hb hr hts hown hlocks hml hP hK hl
  have hl : lv_has ls 2 [(0, .ref o5), (1, .int w)] := hl
  have hf71 := hts (.fieldLink RX5 71 "OtherNamesModel" "people" "I") (by decide +kernel)
  have hin5 := (show ∀ w ∈ wsX50, w ∈ wsX5_tell by decide +kernel)
  have hf97 := hts (.fieldLink RX5 97 "OtherNamesModel" "houses" "I") (by decide +kernel)
  have hf94 := hts (.fieldLink RX5 94 "OtherNamesModel" "now" "I") (by decide +kernel)
  have hf100 := hts (.fieldLink RX5 100 "OtherNamesModel" "names" "I") (by decide +kernel)
  have hf126 := hts (.fieldLink RX5 126 "OtherNamesModel" "entries" "I") (by decide +kernel)
  have hf120 := hts (.fieldLink RX5 120 "OtherNamesModel" "bridges" "I") (by decide +kernel)
  have hf38 := hts (.fieldLink RX5 38 "OtherNamesModel" "isLost" "[Z") (by decide +kernel)
  have hf35 := hts (.fieldLink RX5 35 "OtherNamesModel" "many" "[I") (by decide +kernel)
  refine lv_iload_n hx hb dX5_tell_0 rfl (lv_at hl 1 rfl) ?_
  rcases Classical.em (w = 0) with c_1 | c_1_0
  · skip
    refine lv_tableIn (tgt := 40) hx hb dX5_tell_1 (by rw [c_1]; decide) (by rw [c_1]; decide) (by rw [c_1]; rfl) (by decide) ?_
    refine lv_aload_n hx hb dX5_tell_40 rfl (lv_at hl 0 rfl) ?_
    refine va_get (D := D) (ci := 5) (v := .int (nI np)) (C := RX5) (T := TX5) (N := 26) hx hb hts hin5 hown hK hP 0 rfl rfl 0 (by decide) hf71 (fun _ h9 => h9) rfl dX5_tell_41 ?_
    exact rd_iret hx hb hr hlocks dX5_tell_44 (by rw [c_1]; simp [tlR])
  rcases Classical.em (w = 1) with c_1 | c_1_1
  · skip
    refine lv_tableIn (tgt := 45) hx hb dX5_tell_1 (by rw [c_1]; decide) (by rw [c_1]; decide) (by rw [c_1]; rfl) (by decide) ?_
    refine lv_aload_n hx hb dX5_tell_45 rfl (lv_at hl 0 rfl) ?_
    refine va_get (D := D) (ci := 5) (v := .int (nI nh)) (C := RX5) (T := TX5) (N := 26) hx hb hts hin5 hown hK hP 0 rfl rfl 1 (by decide) hf97 (fun _ h9 => h9) rfl dX5_tell_46 ?_
    exact rd_iret hx hb hr hlocks dX5_tell_49 (by rw [c_1]; simp [tlR])
  rcases Classical.em (w = 2) with c_1 | c_1_2
  · skip
    refine lv_tableIn (tgt := 50) hx hb dX5_tell_1 (by rw [c_1]; decide) (by rw [c_1]; decide) (by rw [c_1]; rfl) (by decide) ?_
    refine lv_aload_n hx hb dX5_tell_50 rfl (lv_at hl 0 rfl) ?_
    refine va_get (D := D) (ci := 5) (v := .int td) (C := RX5) (T := TX5) (N := 26) hx hb hts hin5 hown hK hP 0 rfl rfl 2 (by decide) hf94 (fun _ h9 => h9) rfl dX5_tell_51 ?_
    exact rd_iret hx hb hr hlocks dX5_tell_54 (by rw [c_1]; simp [tlR])
  rcases Classical.em (w = 3) with c_1 | c_1_3
  · skip
    refine lv_tableIn (tgt := 55) hx hb dX5_tell_1 (by rw [c_1]; decide) (by rw [c_1]; decide) (by rw [c_1]; rfl) (by decide) ?_
    refine lv_aload_n hx hb dX5_tell_55 rfl (lv_at hl 0 rfl) ?_
    refine va_get (D := D) (ci := 5) (v := .int (nI nn)) (C := RX5) (T := TX5) (N := 26) hx hb hts hin5 hown hK hP 0 rfl rfl 3 (by decide) hf100 (fun _ h9 => h9) rfl dX5_tell_56 ?_
    exact rd_iret hx hb hr hlocks dX5_tell_59 (by rw [c_1]; simp [tlR])
  rcases Classical.em (w = 4) with c_1 | c_1_4
  · skip
    refine lv_tableIn (tgt := 60) hx hb dX5_tell_1 (by rw [c_1]; decide) (by rw [c_1]; decide) (by rw [c_1]; rfl) (by decide) ?_
    refine lv_aload_n hx hb dX5_tell_60 rfl (lv_at hl 0 rfl) ?_
    refine va_get (D := D) (ci := 5) (v := .int (nI ne)) (C := RX5) (T := TX5) (N := 26) hx hb hts hin5 hown hK hP 0 rfl rfl 5 (by decide) hf126 (fun _ h9 => h9) rfl dX5_tell_61 ?_
    exact rd_iret hx hb hr hlocks dX5_tell_64 (by rw [c_1]; simp [tlR])
  rcases Classical.em (w = 5) with c_1 | c_1_5
  · skip
    refine lv_tableIn (tgt := 65) hx hb dX5_tell_1 (by rw [c_1]; decide) (by rw [c_1]; decide) (by rw [c_1]; rfl) (by decide) ?_
    refine lv_aload_n hx hb dX5_tell_65 rfl (lv_at hl 0 rfl) ?_
    refine va_get (D := D) (ci := 5) (v := .int (nI nb)) (C := RX5) (T := TX5) (N := 26) hx hb hts hin5 hown hK hP 0 rfl rfl 4 (by decide) hf120 (fun _ h9 => h9) rfl dX5_tell_66 ?_
    exact rd_iret hx hb hr hlocks dX5_tell_69 (by rw [c_1]; simp [tlR])
  refine lv_tableOut (tgt := 70) hx hb dX5_tell_1 (by have g0 := lv_neT (a := 0) c_1_0 (by decide); have g1 := lv_neT (a := 1) c_1_1 (by decide); have g2 := lv_neT (a := 2) c_1_2 (by decide); have g3 := lv_neT (a := 3) c_1_3 (by decide); have g4 := lv_neT (a := 4) c_1_4 (by decide); have g5 := lv_neT (a := 5) c_1_5 (by decide); omega) (by decide) ?_
  refine lv_iload_n hx hb dX5_tell_70 rfl (lv_at hl 1 rfl) ?_
  refine lv_bipush (v := 10) hx hb dX5_tell_71 (by decide) ?_
  refine lv_icmp_lt (tgt := 97) hx hb dX5_tell_73 (by decide) (fun c_73 => ?_) (fun c_73 => ?_)
  · skip
    have r1 : ∀ j, j < nh → ¬ w = nI (10 + j) := rng_lo rfl (by omega) hnh c_73
    refine lv_iload_n hx hb dX5_tell_97 rfl (lv_at hl 1 rfl) ?_
    refine lv_bipush (v := 20) hx hb dX5_tell_98 (by decide) ?_
    refine lv_icmp_lt (tgt := 123) hx hb dX5_tell_100 (by decide) (fun c_100 => ?_) (fun c_100 => ?_)
    · skip
      have r2 : ∀ j, j < nh → ¬ w = nI (20 + j) := rng_lo rfl (by omega) hnh c_100
      refine lv_iload_n hx hb dX5_tell_123 rfl (lv_at hl 1 rfl) ?_
      refine lv_bipush (v := 30) hx hb dX5_tell_124 (by decide) ?_
      refine lv_icmp_lt (tgt := 160) hx hb dX5_tell_126 (by decide) (fun c_126 => ?_) (fun c_126 => ?_)
      · skip
        have r3 : ∀ j, j < nh → ¬ w = nI (30 + j) := rng_lo rfl (by omega) hnh c_126
        refine lv_iconst (v := (-1)) hx hb dX5_tell_160 (by decide) ?_
        exact rd_iret hx hb hr hlocks dX5_tell_161 (by rw [tl_none hnh c_1_0 c_1_1 c_1_2 c_1_3 c_1_4 c_1_5 r1 r2 r3])
      · skip
        refine lv_iload_n hx hb dX5_tell_129 rfl (lv_at hl 1 rfl) ?_
        refine lv_bipush (v := 30) hx hb dX5_tell_130 (by decide) ?_
        refine lv_aload_n hx hb dX5_tell_132 rfl (lv_at hl 0 rfl) ?_
        refine va_get (D := D) (ci := 5) (v := .int (nI nh)) (C := RX5) (T := TX5) (N := 26) hx hb hts hin5 hown hK hP 0 rfl rfl 1 (by decide) hf97 (fun _ h9 => h9) rfl dX5_tell_133 ?_
        refine lv_iadd hx hb dX5_tell_136 ?_
        refine lv_icmp_ge (tgt := 160) hx hb dX5_tell_137 (by decide) (fun c_137 => ?_) (fun c_137 => ?_)
        · skip
          have r3 : ∀ j, j < nh → ¬ w = nI (30 + j) := rng_hi rfl (by omega) hnh c_137
          refine lv_iconst (v := (-1)) hx hb dX5_tell_160 (by decide) ?_
          exact rd_iret hx hb hr hlocks dX5_tell_161 (by rw [tl_none hnh c_1_0 c_1_1 c_1_2 c_1_3 c_1_4 c_1_5 r1 r2 r3])
        · skip
          obtain ⟨j, hj, rfl⟩ := rng_ex (a := 30) rfl (by omega) hnh c_126 c_137
          refine lv_aload_n hx hb dX5_tell_140 rfl (lv_at hl 0 rfl) ?_
          refine va_get (D := D) (ci := 5) (v := .ref k15) (C := RX5) (T := TX5) (N := 26) hx hb hts hin5 hown hK hP 0 rfl rfl 15 (by decide) hf38 (fun _ h9 => h9) rfl dX5_tell_141 ?_
          refine lv_iload_n hx hb dX5_tell_144 rfl (lv_at hl 1 rfl) ?_
          refine lv_bipush (v := 30) hx hb dX5_tell_145 (by decide) ?_
          refine lv_isub hx hb dX5_tell_147 ?_
          refine va_zaldN (D := D) (cl := vwCl) (cA := cZ) (f := G 5) hx hb hK hP 10 1 rfl rfl j (subI (a := 30)) (by omega) (by first | decide | assumption) dX5_tell_148 ?_
          refine lv_if_eq (tgt := 156) hx hb dX5_tell_149 (by decide) (fun c_149 => ?_) (fun c_149 => ?_)
          · skip
            refine lv_iconst (v := 0) hx hb dX5_tell_156 (by decide) ?_
            refine lv_goto (tgt := 161) hx hb dX5_tell_157 (by decide) ?_
            exact rd_iret hx hb hr hlocks dX5_tell_161 (by rw [tl_w (k := 3) (j := j) (by omega) (by omega) (by omega) rfl, tlH, inR_lt hj (by omega), show tat nh 6 G (nI j) 5 = G 5 j from tatG (c := 5) hnh hj (by omega), c_149]; rfl)
          · skip
            have c_149 : G 5 j = 1 := (hg j hj).2.2.resolve_left c_149
            refine lv_iconst (v := 1) hx hb dX5_tell_152 (by decide) ?_
            refine lv_goto (tgt := 161) hx hb dX5_tell_153 (by decide) ?_
            exact rd_iret hx hb hr hlocks dX5_tell_161 (by rw [tl_w (k := 3) (j := j) (by omega) (by omega) (by omega) rfl, tlH, inR_lt hj (by omega), show tat nh 6 G (nI j) 5 = G 5 j from tatG (c := 5) hnh hj (by omega), c_149]; rfl)
    · skip
      refine lv_iload_n hx hb dX5_tell_103 rfl (lv_at hl 1 rfl) ?_
      refine lv_bipush (v := 20) hx hb dX5_tell_104 (by decide) ?_
      refine lv_aload_n hx hb dX5_tell_106 rfl (lv_at hl 0 rfl) ?_
      refine va_get (D := D) (ci := 5) (v := .int (nI nh)) (C := RX5) (T := TX5) (N := 26) hx hb hts hin5 hown hK hP 0 rfl rfl 1 (by decide) hf97 (fun _ h9 => h9) rfl dX5_tell_107 ?_
      refine lv_iadd hx hb dX5_tell_110 ?_
      refine lv_icmp_ge (tgt := 123) hx hb dX5_tell_111 (by decide) (fun c_111 => ?_) (fun c_111 => ?_)
      · skip
        have r2 : ∀ j, j < nh → ¬ w = nI (20 + j) := rng_hi rfl (by omega) hnh c_111
        refine lv_iload_n hx hb dX5_tell_123 rfl (lv_at hl 1 rfl) ?_
        refine lv_bipush (v := 30) hx hb dX5_tell_124 (by decide) ?_
        refine lv_icmp_lt (tgt := 160) hx hb dX5_tell_126 (by decide) (fun c_126 => ?_) (fun c_126 => ?_)
        · skip
          have r3 : ∀ j, j < nh → ¬ w = nI (30 + j) := rng_lo rfl (by omega) hnh c_126
          refine lv_iconst (v := (-1)) hx hb dX5_tell_160 (by decide) ?_
          exact rd_iret hx hb hr hlocks dX5_tell_161 (by rw [tl_none hnh c_1_0 c_1_1 c_1_2 c_1_3 c_1_4 c_1_5 r1 r2 r3])
        · skip
          refine lv_iload_n hx hb dX5_tell_129 rfl (lv_at hl 1 rfl) ?_
          refine lv_bipush (v := 30) hx hb dX5_tell_130 (by decide) ?_
          refine lv_aload_n hx hb dX5_tell_132 rfl (lv_at hl 0 rfl) ?_
          refine va_get (D := D) (ci := 5) (v := .int (nI nh)) (C := RX5) (T := TX5) (N := 26) hx hb hts hin5 hown hK hP 0 rfl rfl 1 (by decide) hf97 (fun _ h9 => h9) rfl dX5_tell_133 ?_
          refine lv_iadd hx hb dX5_tell_136 ?_
          refine lv_icmp_ge (tgt := 160) hx hb dX5_tell_137 (by decide) (fun c_137 => ?_) (fun c_137 => ?_)
          · skip
            have r3 : ∀ j, j < nh → ¬ w = nI (30 + j) := rng_hi rfl (by omega) hnh c_137
            refine lv_iconst (v := (-1)) hx hb dX5_tell_160 (by decide) ?_
            exact rd_iret hx hb hr hlocks dX5_tell_161 (by rw [tl_none hnh c_1_0 c_1_1 c_1_2 c_1_3 c_1_4 c_1_5 r1 r2 r3])
          · skip
            obtain ⟨j, hj, rfl⟩ := rng_ex (a := 30) rfl (by omega) hnh c_126 c_137
            refine lv_aload_n hx hb dX5_tell_140 rfl (lv_at hl 0 rfl) ?_
            refine va_get (D := D) (ci := 5) (v := .ref k15) (C := RX5) (T := TX5) (N := 26) hx hb hts hin5 hown hK hP 0 rfl rfl 15 (by decide) hf38 (fun _ h9 => h9) rfl dX5_tell_141 ?_
            refine lv_iload_n hx hb dX5_tell_144 rfl (lv_at hl 1 rfl) ?_
            refine lv_bipush (v := 30) hx hb dX5_tell_145 (by decide) ?_
            refine lv_isub hx hb dX5_tell_147 ?_
            refine va_zaldN (D := D) (cl := vwCl) (cA := cZ) (f := G 5) hx hb hK hP 10 1 rfl rfl j (subI (a := 30)) (by omega) (by first | decide | assumption) dX5_tell_148 ?_
            refine lv_if_eq (tgt := 156) hx hb dX5_tell_149 (by decide) (fun c_149 => ?_) (fun c_149 => ?_)
            · skip
              refine lv_iconst (v := 0) hx hb dX5_tell_156 (by decide) ?_
              refine lv_goto (tgt := 161) hx hb dX5_tell_157 (by decide) ?_
              exact rd_iret hx hb hr hlocks dX5_tell_161 (by rw [tl_w (k := 3) (j := j) (by omega) (by omega) (by omega) rfl, tlH, inR_lt hj (by omega), show tat nh 6 G (nI j) 5 = G 5 j from tatG (c := 5) hnh hj (by omega), c_149]; rfl)
            · skip
              have c_149 : G 5 j = 1 := (hg j hj).2.2.resolve_left c_149
              refine lv_iconst (v := 1) hx hb dX5_tell_152 (by decide) ?_
              refine lv_goto (tgt := 161) hx hb dX5_tell_153 (by decide) ?_
              exact rd_iret hx hb hr hlocks dX5_tell_161 (by rw [tl_w (k := 3) (j := j) (by omega) (by omega) (by omega) rfl, tlH, inR_lt hj (by omega), show tat nh 6 G (nI j) 5 = G 5 j from tatG (c := 5) hnh hj (by omega), c_149]; rfl)
      · skip
        obtain ⟨j, hj, rfl⟩ := rng_ex (a := 20) rfl (by omega) hnh c_100 c_111
        refine lv_aload_n hx hb dX5_tell_114 rfl (lv_at hl 0 rfl) ?_
        refine lv_iload_n hx hb dX5_tell_115 rfl (lv_at hl 1 rfl) ?_
        refine lv_bipush (v := 20) hx hb dX5_tell_116 (by decide) ?_
        refine lv_isub hx hb dX5_tell_118 ?_
        rw [show ((nI (20 + j)) - 20) = (nI j) from subI (a := 20)]
        refine rcVw (As := [.int ((nI j))]) (rest := []) (ci := 5) ⟨hx, hb, hml, hown, hts⟩ (kX5_known l D cI cZ o5 k6 k7 k8 k9 k10 k11 k12 k13 k14 k15 k16 k17 k18 k19 k20 k21 k22 k23 k24 k25 np nh nn nb ne td P G N B E mc (nI j) (by first | assumption | omega) (by first | assumption | omega) (by first | assumption | omega) (by first | assumption | omega)) (cwV 1 hts gX5_tell_X5_known rfl rfl rfl (by decide +kernel) ⟨Nat.le_of_ble_eq_true rfl, Nat.le_of_ble_eq_true rfl⟩) hK hP rfl rfl rfl rfl hl.1 rfl (Nat.le_of_ble_eq_true rfl) ⟨Nat.zero_le _, Nat.zero_le _⟩ dX5_tell_119 ?_
        exact rd_iret hx hb hr hlocks dX5_tell_122 (by rw [tl_w (k := 2) (j := j) (by omega) (by omega) (by omega) rfl, ← bc_kn hnp hw ho hs, tlH, inR_lt hj (by omega)]; rfl)
  · skip
    refine lv_iload_n hx hb dX5_tell_76 rfl (lv_at hl 1 rfl) ?_
    refine lv_bipush (v := 10) hx hb dX5_tell_77 (by decide) ?_
    refine lv_aload_n hx hb dX5_tell_79 rfl (lv_at hl 0 rfl) ?_
    refine va_get (D := D) (ci := 5) (v := .int (nI nh)) (C := RX5) (T := TX5) (N := 26) hx hb hts hin5 hown hK hP 0 rfl rfl 1 (by decide) hf97 (fun _ h9 => h9) rfl dX5_tell_80 ?_
    refine lv_iadd hx hb dX5_tell_83 ?_
    refine lv_icmp_ge (tgt := 97) hx hb dX5_tell_84 (by decide) (fun c_84 => ?_) (fun c_84 => ?_)
    · skip
      have r1 : ∀ j, j < nh → ¬ w = nI (10 + j) := rng_hi rfl (by omega) hnh c_84
      refine lv_iload_n hx hb dX5_tell_97 rfl (lv_at hl 1 rfl) ?_
      refine lv_bipush (v := 20) hx hb dX5_tell_98 (by decide) ?_
      refine lv_icmp_lt (tgt := 123) hx hb dX5_tell_100 (by decide) (fun c_100 => ?_) (fun c_100 => ?_)
      · skip
        have r2 : ∀ j, j < nh → ¬ w = nI (20 + j) := rng_lo rfl (by omega) hnh c_100
        refine lv_iload_n hx hb dX5_tell_123 rfl (lv_at hl 1 rfl) ?_
        refine lv_bipush (v := 30) hx hb dX5_tell_124 (by decide) ?_
        refine lv_icmp_lt (tgt := 160) hx hb dX5_tell_126 (by decide) (fun c_126 => ?_) (fun c_126 => ?_)
        · skip
          have r3 : ∀ j, j < nh → ¬ w = nI (30 + j) := rng_lo rfl (by omega) hnh c_126
          refine lv_iconst (v := (-1)) hx hb dX5_tell_160 (by decide) ?_
          exact rd_iret hx hb hr hlocks dX5_tell_161 (by rw [tl_none hnh c_1_0 c_1_1 c_1_2 c_1_3 c_1_4 c_1_5 r1 r2 r3])
        · skip
          refine lv_iload_n hx hb dX5_tell_129 rfl (lv_at hl 1 rfl) ?_
          refine lv_bipush (v := 30) hx hb dX5_tell_130 (by decide) ?_
          refine lv_aload_n hx hb dX5_tell_132 rfl (lv_at hl 0 rfl) ?_
          refine va_get (D := D) (ci := 5) (v := .int (nI nh)) (C := RX5) (T := TX5) (N := 26) hx hb hts hin5 hown hK hP 0 rfl rfl 1 (by decide) hf97 (fun _ h9 => h9) rfl dX5_tell_133 ?_
          refine lv_iadd hx hb dX5_tell_136 ?_
          refine lv_icmp_ge (tgt := 160) hx hb dX5_tell_137 (by decide) (fun c_137 => ?_) (fun c_137 => ?_)
          · skip
            have r3 : ∀ j, j < nh → ¬ w = nI (30 + j) := rng_hi rfl (by omega) hnh c_137
            refine lv_iconst (v := (-1)) hx hb dX5_tell_160 (by decide) ?_
            exact rd_iret hx hb hr hlocks dX5_tell_161 (by rw [tl_none hnh c_1_0 c_1_1 c_1_2 c_1_3 c_1_4 c_1_5 r1 r2 r3])
          · skip
            obtain ⟨j, hj, rfl⟩ := rng_ex (a := 30) rfl (by omega) hnh c_126 c_137
            refine lv_aload_n hx hb dX5_tell_140 rfl (lv_at hl 0 rfl) ?_
            refine va_get (D := D) (ci := 5) (v := .ref k15) (C := RX5) (T := TX5) (N := 26) hx hb hts hin5 hown hK hP 0 rfl rfl 15 (by decide) hf38 (fun _ h9 => h9) rfl dX5_tell_141 ?_
            refine lv_iload_n hx hb dX5_tell_144 rfl (lv_at hl 1 rfl) ?_
            refine lv_bipush (v := 30) hx hb dX5_tell_145 (by decide) ?_
            refine lv_isub hx hb dX5_tell_147 ?_
            refine va_zaldN (D := D) (cl := vwCl) (cA := cZ) (f := G 5) hx hb hK hP 10 1 rfl rfl j (subI (a := 30)) (by omega) (by first | decide | assumption) dX5_tell_148 ?_
            refine lv_if_eq (tgt := 156) hx hb dX5_tell_149 (by decide) (fun c_149 => ?_) (fun c_149 => ?_)
            · skip
              refine lv_iconst (v := 0) hx hb dX5_tell_156 (by decide) ?_
              refine lv_goto (tgt := 161) hx hb dX5_tell_157 (by decide) ?_
              exact rd_iret hx hb hr hlocks dX5_tell_161 (by rw [tl_w (k := 3) (j := j) (by omega) (by omega) (by omega) rfl, tlH, inR_lt hj (by omega), show tat nh 6 G (nI j) 5 = G 5 j from tatG (c := 5) hnh hj (by omega), c_149]; rfl)
            · skip
              have c_149 : G 5 j = 1 := (hg j hj).2.2.resolve_left c_149
              refine lv_iconst (v := 1) hx hb dX5_tell_152 (by decide) ?_
              refine lv_goto (tgt := 161) hx hb dX5_tell_153 (by decide) ?_
              exact rd_iret hx hb hr hlocks dX5_tell_161 (by rw [tl_w (k := 3) (j := j) (by omega) (by omega) (by omega) rfl, tlH, inR_lt hj (by omega), show tat nh 6 G (nI j) 5 = G 5 j from tatG (c := 5) hnh hj (by omega), c_149]; rfl)
      · skip
        refine lv_iload_n hx hb dX5_tell_103 rfl (lv_at hl 1 rfl) ?_
        refine lv_bipush (v := 20) hx hb dX5_tell_104 (by decide) ?_
        refine lv_aload_n hx hb dX5_tell_106 rfl (lv_at hl 0 rfl) ?_
        refine va_get (D := D) (ci := 5) (v := .int (nI nh)) (C := RX5) (T := TX5) (N := 26) hx hb hts hin5 hown hK hP 0 rfl rfl 1 (by decide) hf97 (fun _ h9 => h9) rfl dX5_tell_107 ?_
        refine lv_iadd hx hb dX5_tell_110 ?_
        refine lv_icmp_ge (tgt := 123) hx hb dX5_tell_111 (by decide) (fun c_111 => ?_) (fun c_111 => ?_)
        · skip
          have r2 : ∀ j, j < nh → ¬ w = nI (20 + j) := rng_hi rfl (by omega) hnh c_111
          refine lv_iload_n hx hb dX5_tell_123 rfl (lv_at hl 1 rfl) ?_
          refine lv_bipush (v := 30) hx hb dX5_tell_124 (by decide) ?_
          refine lv_icmp_lt (tgt := 160) hx hb dX5_tell_126 (by decide) (fun c_126 => ?_) (fun c_126 => ?_)
          · skip
            have r3 : ∀ j, j < nh → ¬ w = nI (30 + j) := rng_lo rfl (by omega) hnh c_126
            refine lv_iconst (v := (-1)) hx hb dX5_tell_160 (by decide) ?_
            exact rd_iret hx hb hr hlocks dX5_tell_161 (by rw [tl_none hnh c_1_0 c_1_1 c_1_2 c_1_3 c_1_4 c_1_5 r1 r2 r3])
          · skip
            refine lv_iload_n hx hb dX5_tell_129 rfl (lv_at hl 1 rfl) ?_
            refine lv_bipush (v := 30) hx hb dX5_tell_130 (by decide) ?_
            refine lv_aload_n hx hb dX5_tell_132 rfl (lv_at hl 0 rfl) ?_
            refine va_get (D := D) (ci := 5) (v := .int (nI nh)) (C := RX5) (T := TX5) (N := 26) hx hb hts hin5 hown hK hP 0 rfl rfl 1 (by decide) hf97 (fun _ h9 => h9) rfl dX5_tell_133 ?_
            refine lv_iadd hx hb dX5_tell_136 ?_
            refine lv_icmp_ge (tgt := 160) hx hb dX5_tell_137 (by decide) (fun c_137 => ?_) (fun c_137 => ?_)
            · skip
              have r3 : ∀ j, j < nh → ¬ w = nI (30 + j) := rng_hi rfl (by omega) hnh c_137
              refine lv_iconst (v := (-1)) hx hb dX5_tell_160 (by decide) ?_
              exact rd_iret hx hb hr hlocks dX5_tell_161 (by rw [tl_none hnh c_1_0 c_1_1 c_1_2 c_1_3 c_1_4 c_1_5 r1 r2 r3])
            · skip
              obtain ⟨j, hj, rfl⟩ := rng_ex (a := 30) rfl (by omega) hnh c_126 c_137
              refine lv_aload_n hx hb dX5_tell_140 rfl (lv_at hl 0 rfl) ?_
              refine va_get (D := D) (ci := 5) (v := .ref k15) (C := RX5) (T := TX5) (N := 26) hx hb hts hin5 hown hK hP 0 rfl rfl 15 (by decide) hf38 (fun _ h9 => h9) rfl dX5_tell_141 ?_
              refine lv_iload_n hx hb dX5_tell_144 rfl (lv_at hl 1 rfl) ?_
              refine lv_bipush (v := 30) hx hb dX5_tell_145 (by decide) ?_
              refine lv_isub hx hb dX5_tell_147 ?_
              refine va_zaldN (D := D) (cl := vwCl) (cA := cZ) (f := G 5) hx hb hK hP 10 1 rfl rfl j (subI (a := 30)) (by omega) (by first | decide | assumption) dX5_tell_148 ?_
              refine lv_if_eq (tgt := 156) hx hb dX5_tell_149 (by decide) (fun c_149 => ?_) (fun c_149 => ?_)
              · skip
                refine lv_iconst (v := 0) hx hb dX5_tell_156 (by decide) ?_
                refine lv_goto (tgt := 161) hx hb dX5_tell_157 (by decide) ?_
                exact rd_iret hx hb hr hlocks dX5_tell_161 (by rw [tl_w (k := 3) (j := j) (by omega) (by omega) (by omega) rfl, tlH, inR_lt hj (by omega), show tat nh 6 G (nI j) 5 = G 5 j from tatG (c := 5) hnh hj (by omega), c_149]; rfl)
              · skip
                have c_149 : G 5 j = 1 := (hg j hj).2.2.resolve_left c_149
                refine lv_iconst (v := 1) hx hb dX5_tell_152 (by decide) ?_
                refine lv_goto (tgt := 161) hx hb dX5_tell_153 (by decide) ?_
                exact rd_iret hx hb hr hlocks dX5_tell_161 (by rw [tl_w (k := 3) (j := j) (by omega) (by omega) (by omega) rfl, tlH, inR_lt hj (by omega), show tat nh 6 G (nI j) 5 = G 5 j from tatG (c := 5) hnh hj (by omega), c_149]; rfl)
        · skip
          obtain ⟨j, hj, rfl⟩ := rng_ex (a := 20) rfl (by omega) hnh c_100 c_111
          refine lv_aload_n hx hb dX5_tell_114 rfl (lv_at hl 0 rfl) ?_
          refine lv_iload_n hx hb dX5_tell_115 rfl (lv_at hl 1 rfl) ?_
          refine lv_bipush (v := 20) hx hb dX5_tell_116 (by decide) ?_
          refine lv_isub hx hb dX5_tell_118 ?_
          rw [show ((nI (20 + j)) - 20) = (nI j) from subI (a := 20)]
          refine rcVw (As := [.int ((nI j))]) (rest := []) (ci := 5) ⟨hx, hb, hml, hown, hts⟩ (kX5_known l D cI cZ o5 k6 k7 k8 k9 k10 k11 k12 k13 k14 k15 k16 k17 k18 k19 k20 k21 k22 k23 k24 k25 np nh nn nb ne td P G N B E mc (nI j) (by first | assumption | omega) (by first | assumption | omega) (by first | assumption | omega) (by first | assumption | omega)) (cwV 1 hts gX5_tell_X5_known rfl rfl rfl (by decide +kernel) ⟨Nat.le_of_ble_eq_true rfl, Nat.le_of_ble_eq_true rfl⟩) hK hP rfl rfl rfl rfl hl.1 rfl (Nat.le_of_ble_eq_true rfl) ⟨Nat.zero_le _, Nat.zero_le _⟩ dX5_tell_119 ?_
          exact rd_iret hx hb hr hlocks dX5_tell_122 (by rw [tl_w (k := 2) (j := j) (by omega) (by omega) (by omega) rfl, ← bc_kn hnp hw ho hs, tlH, inR_lt hj (by omega)]; rfl)
    · skip
      obtain ⟨j, hj, rfl⟩ := rng_ex (a := 10) rfl (by omega) hnh c_73 c_84
      refine lv_aload_n hx hb dX5_tell_87 rfl (lv_at hl 0 rfl) ?_
      refine va_get (D := D) (ci := 5) (v := .ref k14) (C := RX5) (T := TX5) (N := 26) hx hb hts hin5 hown hK hP 0 rfl rfl 14 (by decide) hf35 (fun _ h9 => h9) rfl dX5_tell_88 ?_
      refine lv_iload_n hx hb dX5_tell_91 rfl (lv_at hl 1 rfl) ?_
      refine lv_bipush (v := 10) hx hb dX5_tell_92 (by decide) ?_
      refine lv_isub hx hb dX5_tell_94 ?_
      refine va_ialdN (D := D) (cl := vwCl) (cA := cI) (f := mc) hx hb hK hP 9 0 rfl rfl j (subI (a := 10)) (by omega) (by first | decide | assumption) dX5_tell_95 ?_
      exact rd_iret hx hb hr hlocks dX5_tell_96 (by rw [tl_w (k := 1) (j := j) (by omega) (by omega) (by omega) rfl, hmc j (by omega), tlH, inR_lt hj (by omega)]; rfl)

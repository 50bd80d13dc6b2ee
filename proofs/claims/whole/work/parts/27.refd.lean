set_option maxHeartbeats 4000000 in
set_option maxRecDepth 100000 in
theorem kX5_look (l : Launch) (D : va_G) (cI cZ : ClassId) (o5 k6 k7 k8 k9 k10 k11 k12 k13 k14 k15 k16 k17 k18 k19 k20 k21 k22 k23 k24 k25 np nh nn nb ne : Nat) (td : Int32) (P G N B E : Nat → Nat → Int32) (mc : Nat → Int32) (p : Int32) (w : Int32) (hnp : np ≤ 24) (hnn : nn ≤ 200) (hw : HP np (P 4)) (hs : ∀ p, P 5 p = 0 ∨ P 5 p = 1) : Met l yX5_look wsX5_look ({ frames := 1, cells := 0, slots := 0, locals := 22 } : Room) (RdP D [(cI, .int), (cZ, .boolean)] [.ref o5, .int p, .int w] [(o5, .inr (5, [.int (nI np), .int (nI nh), .int td, .int (nI nn), .int (nI nb), .int (nI ne), .ref k6, .ref k7, .ref k8, .ref k9, .ref k10, .ref k11, .ref k12, .ref k13, .ref k14, .ref k15, .ref k16, .ref k17, .ref k18, .ref k19, .ref k20, .ref k21, .ref k22, .ref k23, .ref k24, .ref k25])), (k6, .inl (cI, 96, .inl (fl 4 P))), (k7, .inl (cI, 24, .inl (P 4))), (k8, .inl (cZ, 24, .inl (P 5))), (k9, .inl (cI, 5, .inl (G 0))), (k10, .inl (cI, 5, .inl (G 1))), (k11, .inl (cI, 5, .inl (G 2))), (k12, .inl (cI, 5, .inl (G 3))), (k13, .inl (cI, 5, .inl (G 4))), (k14, .inl (cI, 5, .inl (mc))), (k15, .inl (cZ, 5, .inl (G 5))), (k16, .inl (cI, 200, .inl (N 0))), (k17, .inl (cI, 200, .inl (N 1))), (k18, .inl (cI, 200, .inl (N 2))), (k19, .inl (cI, 200, .inl (N 3))), (k20, .inl (cI, 200, .inl (N 4))), (k21, .inl (cI, 20, .inl (B 0))), (k22, .inl (cI, 20, .inl (B 1))), (k23, .inl (cI, 20, .inl (B 2))), (k24, .inl (cI, 20, .inl (B 3))), (k25, .inl (cI, 1200, .inl (fl 6 E)))]) (QcRead (lkR np nn P N p w)) 0 0 (fun _ => False) := by
  refine rd_of (cc := cX5_look) (maxL := 5) (ret := (some .int)) (by decide) rfl (Nat.le_of_ble_eq_true rfl) ?_
  intro pp ee ss mm bw me cd ls hx hb hr hts hown hlocks hml hP hK hl
  have hl : lv_has ls 5 [(0, .ref o5), (1, .int p), (2, .int w)] := hl
  have hf13 := hts (.fieldLink RX5 13 "OtherNamesModel" "within" "[I") (by decide +kernel)
  have hin5 := (show ∀ w ∈ wsX50, w ∈ wsX5_look by decide +kernel)
  have hf16 := hts (.fieldLink RX5 16 "OtherNamesModel" "isStruck" "[Z") (by decide +kernel)
  have hf100 := hts (.fieldLink RX5 100 "OtherNamesModel" "names" "I") (by decide +kernel)
  have hf47 := hts (.fieldLink RX5 47 "OtherNamesModel" "owner" "[I") (by decide +kernel)
  have hf7 := hts (.fieldLink RX5 7 "OtherNamesModel" "marks" "[I") (by decide +kernel)
  refine lv_aload_n hx hb dX5_look_0 rfl (lv_at hl 0 rfl) ?_
  refine lv_iload_n hx hb dX5_look_1 rfl (lv_at hl 1 rfl) ?_
  refine rcVw (As := [.int p]) (rest := []) (ci := 5) ⟨hx, hb, hml, hown, hts⟩ (kX5_isPerson l D cI cZ o5 k6 k7 k8 k9 k10 k11 k12 k13 k14 k15 k16 k17 k18 k19 k20 k21 k22 k23 k24 k25 np nh nn nb ne td P G N B E mc p) (cwV 1 hts gX5_look_X5_isPerson rfl rfl rfl (by decide +kernel) ⟨Nat.le_of_ble_eq_true rfl, Nat.le_of_ble_eq_true rfl⟩) hK hP rfl rfl rfl rfl hl.1 rfl (Nat.le_of_ble_eq_true rfl) ⟨Nat.zero_le _, Nat.zero_le _⟩ dX5_look_2 ?_
  refine lb_ne (tgt := 10) hx hb dX5_look_5 (by decide) (fun c_5 => ?_) (fun c_5 => ?_)
  · skip
    obtain ⟨j, hj, rfl⟩ := inR_ex c_5 (by omega)
    refine lv_iconst (v := 0) hx hb dX5_look_10 (by decide) ?_
    refine lv_istore_n (lv' := [(3, .int 0), (0, .ref o5), (1, .int ((nI j))), (2, .int w)]) hx hb dX5_look_11 rfl hl (by decide) rfl (fun ls hl => ?_)
    refine lv_iload_n hx hb dX5_look_12 rfl (lv_at hl 3 rfl) ?_
    rcases Classical.em (w = 0) with c_13 | c_13_0
    · skip
      refine lv_tableIn (tgt := 60) hx hb dX5_look_13 (by rw [c_13]; decide) (by rw [c_13]; decide) (by rw [c_13]; rfl) (by decide) ?_
      refine lv_aload_n hx hb dX5_look_60 rfl (lv_at hl 1 rfl) ?_
      refine lv_iload_n hx hb dX5_look_61 rfl (lv_at hl 2 rfl) ?_
      refine rcVw (As := [.int ((nI j))]) (rest := []) (ci := 5) ⟨hx, hb, hml, hown, hts⟩ (kX5_head l D cI cZ o5 k6 k7 k8 k9 k10 k11 k12 k13 k14 k15 k16 k17 k18 k19 k20 k21 k22 k23 k24 k25 np nh nn nb ne td P G N B E mc j (by first | assumption | omega) (by first | assumption | omega) (hj)) (cwV 1 hts gX5_look_X5_head rfl rfl rfl (by decide +kernel) ⟨Nat.le_of_ble_eq_true rfl, Nat.le_of_ble_eq_true rfl⟩) hK hP rfl rfl rfl rfl hl.1 rfl (Nat.le_of_ble_eq_true rfl) ⟨Nat.zero_le _, Nat.zero_le _⟩ dX5_look_62 ?_
      exact rd_iret hx hb hr hlocks dX5_look_65 (by rw [lkR, inR_lt hj (by omega), if_pos rfl, if_pos c_13, nI_clamp (by omega)])
    rcases Classical.em (w = 1) with c_13 | c_13_1
    · skip
      refine lv_tableIn (tgt := 66) hx hb dX5_look_13 (by rw [c_13]; decide) (by rw [c_13]; decide) (by rw [c_13]; rfl) (by decide) ?_
      refine lv_aload_n hx hb dX5_look_66 rfl (lv_at hl 1 rfl) ?_
      refine va_get (D := D) (ci := 5) (v := .ref k7) (C := RX5) (T := TX5) (N := 26) hx hb hts hin5 hown hK hP 0 rfl rfl 7 (by decide) hf13 (fun _ h9 => h9) rfl dX5_look_67 ?_
      refine lv_iload_n hx hb dX5_look_70 rfl (lv_at hl 2 rfl) ?_
      refine va_ialdN (D := D) (cl := vwCl) (cA := cI) (f := P 4) hx hb hK hP 2 0 rfl rfl j (rfl) (by omega) (by first | decide | assumption) dX5_look_71 ?_
      exact rd_iret hx hb hr hlocks dX5_look_72 (by rw [c_13]; simp [lkR, inR_lt hj (show np < 2 ^ 31 by omega)]; exact (tat_nI (c := 4) (by omega) (by omega) hj (by omega)).symm)
    rcases Classical.em (w = 2) with c_13 | c_13_2
    · skip
      refine lv_tableIn (tgt := 73) hx hb dX5_look_13 (by rw [c_13]; decide) (by rw [c_13]; decide) (by rw [c_13]; rfl) (by decide) ?_
      refine lv_aload_n hx hb dX5_look_73 rfl (lv_at hl 1 rfl) ?_
      refine va_get (D := D) (ci := 5) (v := .ref k8) (C := RX5) (T := TX5) (N := 26) hx hb hts hin5 hown hK hP 0 rfl rfl 8 (by decide) hf16 (fun _ h9 => h9) rfl dX5_look_74 ?_
      refine lv_iload_n hx hb dX5_look_77 rfl (lv_at hl 2 rfl) ?_
      refine va_zaldN (D := D) (cl := vwCl) (cA := cZ) (f := P 5) hx hb hK hP 3 1 rfl rfl j (rfl) (by omega) (by first | decide | assumption) dX5_look_78 ?_
      refine lv_if_eq (tgt := 86) hx hb dX5_look_79 (by decide) (fun c_79 => ?_) (fun c_79 => ?_)
      · skip
        have hst := isSt_0 hnp hj c_79
        refine lv_iconst (v := 0) hx hb dX5_look_86 (by decide) ?_
        exact rd_iret hx hb hr hlocks dX5_look_87 (by rw [c_13]; simp [lkR, inR_lt hj (show np < 2 ^ 31 by omega), hst, bI])
      · skip
        have hst := isSt_1 hnp hj hs c_79
        refine lv_iconst (v := 1) hx hb dX5_look_82 (by decide) ?_
        refine lv_goto (tgt := 87) hx hb dX5_look_83 (by decide) ?_
        exact rd_iret hx hb hr hlocks dX5_look_87 (by rw [c_13]; simp [lkR, inR_lt hj (show np < 2 ^ 31 by omega), hst, bI])
    rcases Classical.em (w = 3) with c_13 | c_13_3
    · skip
      refine lv_tableIn (tgt := 88) hx hb dX5_look_13 (by rw [c_13]; decide) (by rw [c_13]; decide) (by rw [c_13]; rfl) (by decide) ?_
      refine lv_iconst (v := 0) hx hb dX5_look_88 (by decide) ?_
      refine lv_istore (lv' := [(4, .int 0), (3, .int 0), (0, .ref o5), (1, .int ((nI j))), (2, .int w)]) hx hb dX5_look_89 hl (by decide) rfl (fun ls hl => ?_)
      have loop : ∀ (k : Nat) (i : Nat) (ls : Array Slot), i ≤ nn → nn < i + k → lv_has ls 5 [(0, .ref o5), (1, .int ((nI j))), (2, .int w), (3, .int (nI (ct (fun i => decide (N 2 i = nI j)) i))), (4, .int (nI i))] → W pp l ee ({ frames := 1, cells := 0, slots := 0, locals := 22 } : Room) ss mm ([.ref o5, .int (nI j), .int w] : List Value).toArray bw me cd ss.heap [] 0 0 (MQ bw (QcRead (lkR np nn P N (nI j) w)) ([.ref o5, .int (nI j), .int w] : List Value).toArray ss 0 0 (fun _ => False)) (F0 mm 91 ls []) := by
        intro k
        induction k with
        | zero => intro i ls hi hk; exact absurd hk (by omega)
        | succ k ih =>
          intro i ls hi hk hl
          refine lv_iload hx hb dX5_look_91 (lv_at hl 4 rfl) ?_
          refine lv_aload_n hx hb dX5_look_93 rfl (lv_at hl 0 rfl) ?_
          refine va_get (D := D) (ci := 5) (v := .int (nI nn)) (C := RX5) (T := TX5) (N := 26) hx hb hts hin5 hown hK hP 0 rfl rfl 3 (by decide) hf100 (fun _ h9 => h9) rfl dX5_look_94 ?_
          refine lv_icmp_ge (tgt := 125) hx hb dX5_look_97 (by decide) (fun c_97 => ?_) (fun c_97 => ?_)
          · skip
            have hi2 : i = nn := Nat.le_antisymm hi (lit_T c_97 nn rfl (by omega) (by omega))
            refine lv_iload_n hx hb dX5_look_125 rfl (lv_at hl 3 rfl) ?_
            exact rd_iret hx hb hr hlocks dX5_look_126 (by rw [hi2, c_13]; simp [lkR, inR_lt hj (show np < 2 ^ 31 by omega)])
          · skip
            have hi2 : i < nn := lit_F c_97 nn rfl (by omega) (by omega)
            refine lv_iload_n hx hb dX5_look_100 rfl (lv_at hl 3 rfl) ?_
            refine lv_aload_n hx hb dX5_look_101 rfl (lv_at hl 0 rfl) ?_
            refine va_get (D := D) (ci := 5) (v := .ref k18) (C := RX5) (T := TX5) (N := 26) hx hb hts hin5 hown hK hP 0 rfl rfl 18 (by decide) hf47 (fun _ h9 => h9) rfl dX5_look_102 ?_
            refine lv_iload hx hb dX5_look_105 (lv_at hl 4 rfl) ?_
            refine va_ialdN (D := D) (cl := vwCl) (cA := cI) (f := N 2) hx hb hK hP 13 0 rfl rfl i (rfl) (by omega) (by first | decide | assumption) dX5_look_107 ?_
            refine lv_iload_n hx hb dX5_look_108 rfl (lv_at hl 1 rfl) ?_
            refine lv_icmp_ne (tgt := 116) hx hb dX5_look_109 (by decide) (fun c_109 => ?_) (fun c_109 => ?_)
            · skip
              refine lv_iconst (v := 0) hx hb dX5_look_116 (by decide) ?_
              refine lv_iadd hx hb dX5_look_117 ?_
              refine lv_istore_n (lv' := [(3, .int (((nI (ct (fun i => decide (N 2 i = nI j)) i)) + 0))), (0, .ref o5), (1, .int ((nI j))), (2, .int w), (4, .int (nI i))]) hx hb dX5_look_118 rfl hl (by decide) rfl (fun ls hl => ?_)
              refine lv_iinc (v := (nI i) + 1) (lv' := [(4, .int (((nI i) + 1))), (3, .int (((nI (ct (fun i => decide (N 2 i = nI j)) i)) + 0))), (0, .ref o5), (1, .int ((nI j))), (2, .int w)]) hx hb dX5_look_119 hl (k := 4) rfl rfl (by decide) rfl (fun ls hl => ?_)
              refine lv_goto (tgt := 91) hx hb dX5_look_122 (by decide) ?_
              rw [nI_1 i] at hl
              rw [show ((nI (ct (fun i => decide (N 2 i = nI j)) i)) + 0) = nI (ct (fun i => decide (N 2 i = nI j)) (i + 1)) by exact ct_no0 (by simp [c_109])] at hl
              exact ih (i + 1) ls (by omega) (by omega) (lv_sub hl [2, 3, 4, 1, 0] rfl)
            · skip
              refine lv_iconst (v := 1) hx hb dX5_look_112 (by decide) ?_
              refine lv_goto (tgt := 117) hx hb dX5_look_113 (by decide) ?_
              refine lv_iadd hx hb dX5_look_117 ?_
              refine lv_istore_n (lv' := [(3, .int (((nI (ct (fun i => decide (N 2 i = nI j)) i)) + 1))), (0, .ref o5), (1, .int ((nI j))), (2, .int w), (4, .int (nI i))]) hx hb dX5_look_118 rfl hl (by decide) rfl (fun ls hl => ?_)
              refine lv_iinc (v := (nI i) + 1) (lv' := [(4, .int (((nI i) + 1))), (3, .int (((nI (ct (fun i => decide (N 2 i = nI j)) i)) + 1))), (0, .ref o5), (1, .int ((nI j))), (2, .int w)]) hx hb dX5_look_119 hl (k := 4) rfl rfl (by decide) rfl (fun ls hl => ?_)
              refine lv_goto (tgt := 91) hx hb dX5_look_122 (by decide) ?_
              rw [nI_1 i] at hl
              rw [show ((nI (ct (fun i => decide (N 2 i = nI j)) i)) + 1) = nI (ct (fun i => decide (N 2 i = nI j)) (i + 1)) by exact ct_yes (by simp [c_109])] at hl
              exact ih (i + 1) ls (by omega) (by omega) (lv_sub hl [2, 3, 4, 1, 0] rfl)
      exact loop (nn + 1) 0 ls (by omega) (by omega) (lv_sub hl [2, 3, 4, 1, 0] rfl)
    rcases Classical.em (w = 4) with c_13 | c_13_4
    · skip
      refine lv_tableIn (tgt := 127) hx hb dX5_look_13 (by rw [c_13]; decide) (by rw [c_13]; decide) (by rw [c_13]; rfl) (by decide) ?_
      refine lv_aload_n hx hb dX5_look_127 rfl (lv_at hl 1 rfl) ?_
      refine va_get (D := D) (ci := 5) (v := .ref k6) (C := RX5) (T := TX5) (N := 26) hx hb hts hin5 hown hK hP 0 rfl rfl 6 (by decide) hf7 (fun _ h9 => h9) rfl dX5_look_128 ?_
      refine lv_iconst (v := 4) hx hb dX5_look_131 (by decide) ?_
      refine lv_iload_n hx hb dX5_look_132 rfl (lv_at hl 2 rfl) ?_
      refine lv_imul hx hb dX5_look_133 ?_
      refine lv_iload_n hx hb dX5_look_134 rfl (lv_at hl 3 rfl) ?_
      refine lv_iadd hx hb dX5_look_135 ?_
      refine lv_iconst (v := 4) hx hb dX5_look_136 (by decide) ?_
      refine lv_isub hx hb dX5_look_137 ?_
      refine va_ialdN (D := D) (cl := vwCl) (cA := cI) (f := fl 4 P) hx hb hK hP 1 0 rfl rfl (j * 4 + 0) (by rw [c_13]; exact ix4 j 0) (by omega) (by first | decide | assumption) dX5_look_138 ?_
      exact rd_iret hx hb hr hlocks dX5_look_139 (by rw [fl_at (by omega), lk_k (k := 0) hnp hj (by omega) c_13])
    rcases Classical.em (w = 5) with c_13 | c_13_5
    · skip
      refine lv_tableIn (tgt := 127) hx hb dX5_look_13 (by rw [c_13]; decide) (by rw [c_13]; decide) (by rw [c_13]; rfl) (by decide) ?_
      refine lv_aload_n hx hb dX5_look_127 rfl (lv_at hl 1 rfl) ?_
      refine va_get (D := D) (ci := 5) (v := .ref k6) (C := RX5) (T := TX5) (N := 26) hx hb hts hin5 hown hK hP 0 rfl rfl 6 (by decide) hf7 (fun _ h9 => h9) rfl dX5_look_128 ?_
      refine lv_iconst (v := 4) hx hb dX5_look_131 (by decide) ?_
      refine lv_iload_n hx hb dX5_look_132 rfl (lv_at hl 2 rfl) ?_
      refine lv_imul hx hb dX5_look_133 ?_
      refine lv_iload_n hx hb dX5_look_134 rfl (lv_at hl 3 rfl) ?_
      refine lv_iadd hx hb dX5_look_135 ?_
      refine lv_iconst (v := 4) hx hb dX5_look_136 (by decide) ?_
      refine lv_isub hx hb dX5_look_137 ?_
      refine va_ialdN (D := D) (cl := vwCl) (cA := cI) (f := fl 4 P) hx hb hK hP 1 0 rfl rfl (j * 4 + 1) (by rw [c_13]; exact ix4 j 1) (by omega) (by first | decide | assumption) dX5_look_138 ?_
      exact rd_iret hx hb hr hlocks dX5_look_139 (by rw [fl_at (by omega), lk_k (k := 1) hnp hj (by omega) c_13])
    rcases Classical.em (w = 6) with c_13 | c_13_6
    · skip
      refine lv_tableIn (tgt := 127) hx hb dX5_look_13 (by rw [c_13]; decide) (by rw [c_13]; decide) (by rw [c_13]; rfl) (by decide) ?_
      refine lv_aload_n hx hb dX5_look_127 rfl (lv_at hl 1 rfl) ?_
      refine va_get (D := D) (ci := 5) (v := .ref k6) (C := RX5) (T := TX5) (N := 26) hx hb hts hin5 hown hK hP 0 rfl rfl 6 (by decide) hf7 (fun _ h9 => h9) rfl dX5_look_128 ?_
      refine lv_iconst (v := 4) hx hb dX5_look_131 (by decide) ?_
      refine lv_iload_n hx hb dX5_look_132 rfl (lv_at hl 2 rfl) ?_
      refine lv_imul hx hb dX5_look_133 ?_
      refine lv_iload_n hx hb dX5_look_134 rfl (lv_at hl 3 rfl) ?_
      refine lv_iadd hx hb dX5_look_135 ?_
      refine lv_iconst (v := 4) hx hb dX5_look_136 (by decide) ?_
      refine lv_isub hx hb dX5_look_137 ?_
      refine va_ialdN (D := D) (cl := vwCl) (cA := cI) (f := fl 4 P) hx hb hK hP 1 0 rfl rfl (j * 4 + 2) (by rw [c_13]; exact ix4 j 2) (by omega) (by first | decide | assumption) dX5_look_138 ?_
      exact rd_iret hx hb hr hlocks dX5_look_139 (by rw [fl_at (by omega), lk_k (k := 2) hnp hj (by omega) c_13])
    rcases Classical.em (w = 7) with c_13 | c_13_7
    · skip
      refine lv_tableIn (tgt := 127) hx hb dX5_look_13 (by rw [c_13]; decide) (by rw [c_13]; decide) (by rw [c_13]; rfl) (by decide) ?_
      refine lv_aload_n hx hb dX5_look_127 rfl (lv_at hl 1 rfl) ?_
      refine va_get (D := D) (ci := 5) (v := .ref k6) (C := RX5) (T := TX5) (N := 26) hx hb hts hin5 hown hK hP 0 rfl rfl 6 (by decide) hf7 (fun _ h9 => h9) rfl dX5_look_128 ?_
      refine lv_iconst (v := 4) hx hb dX5_look_131 (by decide) ?_
      refine lv_iload_n hx hb dX5_look_132 rfl (lv_at hl 2 rfl) ?_
      refine lv_imul hx hb dX5_look_133 ?_
      refine lv_iload_n hx hb dX5_look_134 rfl (lv_at hl 3 rfl) ?_
      refine lv_iadd hx hb dX5_look_135 ?_
      refine lv_iconst (v := 4) hx hb dX5_look_136 (by decide) ?_
      refine lv_isub hx hb dX5_look_137 ?_
      refine va_ialdN (D := D) (cl := vwCl) (cA := cI) (f := fl 4 P) hx hb hK hP 1 0 rfl rfl (j * 4 + 3) (by rw [c_13]; exact ix4 j 3) (by omega) (by first | decide | assumption) dX5_look_138 ?_
      exact rd_iret hx hb hr hlocks dX5_look_139 (by rw [fl_at (by omega), lk_k (k := 3) hnp hj (by omega) c_13])
    refine lv_tableOut (tgt := 140) hx hb dX5_look_13 (by have g0 := lv_neT (a := 0) c_13_0 (by decide); have g1 := lv_neT (a := 1) c_13_1 (by decide); have g2 := lv_neT (a := 2) c_13_2 (by decide); have g3 := lv_neT (a := 3) c_13_3 (by decide); have g4 := lv_neT (a := 4) c_13_4 (by decide); have g5 := lv_neT (a := 5) c_13_5 (by decide); have g6 := lv_neT (a := 6) c_13_6 (by decide); have g7 := lv_neT (a := 7) c_13_7 (by decide); omega) (by decide) ?_
    refine lv_iconst (v := (-1)) hx hb dX5_look_140 (by decide) ?_
    exact rd_iret hx hb hr hlocks dX5_look_141 (by rw [lk_no hj hnp c_13_0 c_13_1 c_13_2 c_13_3 c_13_4 c_13_5 c_13_6 c_13_7])
  · skip
    refine lv_iconst (v := (-1)) hx hb dX5_look_8 (by decide) ?_
    exact rd_iret hx hb hr hlocks dX5_look_9 (by simp [lkR, c_5])

set_option maxHeartbeats 4000000 in
set_option maxRecDepth 100000 in
theorem kX5_count (l : Launch) (D : va_G) (cI cZ : ClassId) (o5 k6 k7 k8 k9 k10 k11 k12 k13 k14 k15 k16 k17 k18 k19 k20 k21 k22 k23 k24 k25 np nh nn nb ne : Nat) (td : Int32) (P G N B E : Nat → Nat → Int32) (mc : Nat → Int32) (h : Int32) (m : Int32) (n : Int32) (hnp : np ≤ 24) (hnh : nh ≤ 5) (hnn : nn ≤ 200) (hw : HP np (P 4)) (ho : HO nn np N) (hs : ∀ p, P 5 p = 0 ∨ P 5 p = 1) : Met l yX5_count wsX5_count ({ frames := 2, cells := 0, slots := 0, locals := 45 } : Room) (RdP D [(cI, .int), (cZ, .boolean)] [.ref o5, .int h, .int m, .int n] [(o5, .inr (5, [.int (nI np), .int (nI nh), .int td, .int (nI nn), .int (nI nb), .int (nI ne), .ref k6, .ref k7, .ref k8, .ref k9, .ref k10, .ref k11, .ref k12, .ref k13, .ref k14, .ref k15, .ref k16, .ref k17, .ref k18, .ref k19, .ref k20, .ref k21, .ref k22, .ref k23, .ref k24, .ref k25])), (k6, .inl (cI, 96, .inl (fl 4 P))), (k7, .inl (cI, 24, .inl (P 4))), (k8, .inl (cZ, 24, .inl (P 5))), (k9, .inl (cI, 5, .inl (G 0))), (k10, .inl (cI, 5, .inl (G 1))), (k11, .inl (cI, 5, .inl (G 2))), (k12, .inl (cI, 5, .inl (G 3))), (k13, .inl (cI, 5, .inl (G 4))), (k14, .inl (cI, 5, .inl (mc))), (k15, .inl (cZ, 5, .inl (G 5))), (k16, .inl (cI, 200, .inl (N 0))), (k17, .inl (cI, 200, .inl (N 1))), (k18, .inl (cI, 200, .inl (N 2))), (k19, .inl (cI, 200, .inl (N 3))), (k20, .inl (cI, 200, .inl (N 4))), (k21, .inl (cI, 20, .inl (B 0))), (k22, .inl (cI, 20, .inl (B 1))), (k23, .inl (cI, 20, .inl (B 2))), (k24, .inl (cI, 20, .inl (B 3))), (k25, .inl (cI, 1200, .inl (fl 6 E)))]) (QcRead (if (inR nh h && inB m 0 3 && inB n 0 7) = true then (if (smlB nh G h (hvI np P (knw np P N h nn) m n) || smlB nh G h (bc (knw np P N h nn) - hvI np P (knw np P N h nn) m n)) = true then -2 else hvI np P (knw np P N h nn) m n) else -1)) 0 0 (fun _ => False) := by
  refine rd_of (cc := cX5_count) (maxL := 7) (ret := (some .int)) (by decide) rfl (Nat.le_of_ble_eq_true rfl) ?_
  intro pp ee ss mm bw me cd ls hx hb hr hts hown hlocks hml hP hK hl
  have hl : lv_has ls 7 [(0, .ref o5), (1, .int h), (2, .int m), (3, .int n)] := hl
  have hf71 := hts (.fieldLink RX5 71 "OtherNamesModel" "people" "I") (by decide +kernel)
  have hin5 := (show ∀ w ∈ wsX50, w ∈ wsX5_count by decide +kernel)
  have hf32 := hts (.fieldLink RX5 32 "OtherNamesModel" "leastOf" "[I") (by decide +kernel)
  have hf7 := hts (.fieldLink RX5 7 "OtherNamesModel" "marks" "[I") (by decide +kernel)
  refine lv_aload_n hx hb dX5_count_0 rfl (lv_at hl 0 rfl) ?_
  refine lv_iload_n hx hb dX5_count_1 rfl (lv_at hl 1 rfl) ?_
  refine rcVw (As := [.int h]) (rest := []) (ci := 5) ⟨hx, hb, hml, hown, hts⟩ (kX5_isHouse l D cI cZ o5 k6 k7 k8 k9 k10 k11 k12 k13 k14 k15 k16 k17 k18 k19 k20 k21 k22 k23 k24 k25 np nh nn nb ne td P G N B E mc h) (cwV 1 hts gX5_count_X5_isHouse rfl rfl rfl (by decide +kernel) ⟨Nat.le_of_ble_eq_true rfl, Nat.le_of_ble_eq_true rfl⟩) hK hP rfl rfl rfl rfl hl.1 rfl (Nat.le_of_ble_eq_true rfl) ⟨Nat.zero_le _, Nat.zero_le _⟩ dX5_count_2 ?_
  refine lb_eq (tgt := 24) hx hb dX5_count_5 (by decide) (fun c_5 => ?_) (fun c_5 => ?_)
  · skip
    refine lv_iconst (v := (-1)) hx hb dX5_count_24 (by decide) ?_
    exact rd_iret hx hb hr hlocks dX5_count_25 (by simp [c_5])
  · skip
    obtain ⟨a_, ha_, rfl⟩ := inR_ex c_5 (by omega)
    have t4 : tat nh 6 G (nI a_) 4 = G 4 a_ := tatG (c := 4) hnh ha_ (by omega)
    refine lv_iload_n hx hb dX5_count_8 rfl (lv_at hl 2 rfl) ?_
    refine lv_iconst (v := 0) hx hb dX5_count_9 (by decide) ?_
    refine lv_iconst (v := 3) hx hb dX5_count_10 (by decide) ?_
    refine rcS (As := [.int m, .int 0, .int 3]) (rest := []) ⟨hx, hb, hml, hown, hts⟩ (kX5_in l D cI cZ m 0 3) (va_cwS 3 hts gX5_count_X5_in rfl rfl rfl (by decide +kernel) ⟨Nat.le_of_ble_eq_true rfl, Nat.le_of_ble_eq_true rfl⟩) hK hP [] rfl rfl hl.1 rfl (Nat.le_of_ble_eq_true rfl) ⟨Nat.zero_le _, Nat.zero_le _⟩ dX5_count_11 ?_
    refine lb_eq (tgt := 24) hx hb dX5_count_14 (by decide) (fun c_14 => ?_) (fun c_14 => ?_)
    · skip
      refine lv_iconst (v := (-1)) hx hb dX5_count_24 (by decide) ?_
      exact rd_iret hx hb hr hlocks dX5_count_25 (by simp [c_5, c_14])
    · skip
      obtain ⟨m_, hm_, rfl⟩ := inB_ex (hi := 3) c_14 rfl (by omega)
      refine lv_iload_n hx hb dX5_count_17 rfl (lv_at hl 3 rfl) ?_
      refine rcS (As := [.int n]) (rest := []) ⟨hx, hb, hml, hown, hts⟩ (kX5_isMark l D cI cZ n) (va_cwS 1 hts gX5_count_X5_isMark rfl rfl rfl (by decide +kernel) ⟨Nat.le_of_ble_eq_true rfl, Nat.le_of_ble_eq_true rfl⟩) hK hP [] rfl rfl hl.1 rfl (Nat.le_of_ble_eq_true rfl) ⟨Nat.zero_le _, Nat.zero_le _⟩ dX5_count_18 ?_
      refine lb_ne (tgt := 26) hx hb dX5_count_21 (by decide) (fun c_21 => ?_) (fun c_21 => ?_)
      · skip
        refine lv_iconst (v := 0) hx hb dX5_count_26 (by decide) ?_
        refine lv_istore (lv' := [(4, .int 0), (0, .ref o5), (1, .int ((nI a_))), (2, .int ((nI m_))), (3, .int n)]) hx hb dX5_count_27 hl (by decide) rfl (fun ls hl => ?_)
        refine lv_iconst (v := 0) hx hb dX5_count_29 (by decide) ?_
        refine lv_istore (lv' := [(5, .int 0), (4, .int 0), (0, .ref o5), (1, .int ((nI a_))), (2, .int ((nI m_))), (3, .int n)]) hx hb dX5_count_30 hl (by decide) rfl (fun ls hl => ?_)
        refine lv_iconst (v := 0) hx hb dX5_count_32 (by decide) ?_
        refine lv_istore (lv' := [(6, .int 0), (5, .int 0), (4, .int 0), (0, .ref o5), (1, .int ((nI a_))), (2, .int ((nI m_))), (3, .int n)]) hx hb dX5_count_33 hl (by decide) rfl (fun ls hl => ?_)
        have loop : ∀ (k : Nat) (i : Nat) (ls : Array Slot), i ≤ np → np < i + k → lv_has ls 7 [(0, .ref o5), (1, .int ((nI a_))), (2, .int ((nI m_))), (3, .int n), (4, .int (nI (ct (fun p => knB nn P N (nI a_) p && decide (P m_ p = n)) i))), (5, .int (nI (ct (fun p => knB nn P N (nI a_) p && !decide (P m_ p = n)) i))), (6, .int (nI i))] → W pp l ee ({ frames := 2, cells := 0, slots := 0, locals := 45 } : Room) ss mm ([.ref o5, .int (nI a_), .int (nI m_), .int n] : List Value).toArray bw me cd ss.heap [] 0 0 (MQ bw (QcRead (if (inR nh (nI a_) && inB (nI m_) 0 3 && inB n 0 7) = true then (if (smlB nh G (nI a_) (hvI np P (knw np P N (nI a_) nn) (nI m_) n) || smlB nh G (nI a_) (bc (knw np P N (nI a_) nn) - hvI np P (knw np P N (nI a_) nn) (nI m_) n)) = true then -2 else hvI np P (knw np P N (nI a_) nn) (nI m_) n) else -1)) ([.ref o5, .int (nI a_), .int (nI m_), .int n] : List Value).toArray ss 0 0 (fun _ => False)) (F0 mm 35 ls []) := by
          intro k
          induction k with
          | zero => intro i ls hi hk; exact absurd hk (by omega)
          | succ k ih =>
            intro i ls hi hk hl
            refine lv_iload hx hb dX5_count_35 (lv_at hl 6 rfl) ?_
            refine lv_aload_n hx hb dX5_count_37 rfl (lv_at hl 0 rfl) ?_
            refine va_get (D := D) (ci := 5) (v := .int (nI np)) (C := RX5) (T := TX5) (N := 26) hx hb hts hin5 hown hK hP 0 rfl rfl 0 (by decide) hf71 (fun _ h9 => h9) rfl dX5_count_38 ?_
            refine lv_icmp_ge (tgt := 93) hx hb dX5_count_41 (by decide) (fun c_41 => ?_) (fun c_41 => ?_)
            · skip
              have hi2 : i = np := Nat.le_antisymm hi (lit_T c_41 np rfl (by omega) (by omega))
              refine lv_iload hx hb dX5_count_93 (lv_at hl 4 rfl) ?_
              refine lv_if_eq (tgt := 109) hx hb dX5_count_95 (by decide) (fun c_95 => ?_) (fun c_95 => ?_)
              · skip
                refine lv_iload hx hb dX5_count_109 (lv_at hl 5 rfl) ?_
                refine lv_if_eq (tgt := 129) hx hb dX5_count_111 (by decide) (fun c_111 => ?_) (fun c_111 => ?_)
                · skip
                  refine lv_iconst (v := 0) hx hb dX5_count_129 (by decide) ?_
                  refine lv_istore (lv' := [(6, .int 0), (0, .ref o5), (1, .int ((nI a_))), (2, .int ((nI m_))), (3, .int n), (4, .int (nI (ct (fun p => knB nn P N (nI a_) p && decide (P m_ p = n)) i))), (5, .int (nI (ct (fun p => knB nn P N (nI a_) p && !decide (P m_ p = n)) i)))]) hx hb dX5_count_130 hl (by decide) rfl (fun ls hl => ?_)
                  refine lv_iload hx hb dX5_count_132 (lv_at hl 0 rfl) ?_
                  refine lv_if_eq (tgt := 142) hx hb dX5_count_134 (by decide) (fun _ => ?_) (fun c9 => absurd c9 (by decide))
                  refine lv_iload hx hb dX5_count_142 (lv_at hl 5 rfl) ?_
                  exact rd_iret hx hb hr hlocks dX5_count_144 (by rw [if_pos (by simp [c_5, c_14, c_21]), others_eq hnp hw ho hs (show m_ < 4 by omega), having_eq hnp hw ho hs (show m_ < 4 by omega)]; subst hi2; simp [smlB, t4, c_95, c_111])
                · skip
                  refine lv_iload hx hb dX5_count_114 (lv_at hl 5 rfl) ?_
                  refine lv_aload_n hx hb dX5_count_116 rfl (lv_at hl 0 rfl) ?_
                  refine va_get (D := D) (ci := 5) (v := .ref k13) (C := RX5) (T := TX5) (N := 26) hx hb hts hin5 hown hK hP 0 rfl rfl 13 (by decide) hf32 (fun _ h9 => h9) rfl dX5_count_117 ?_
                  refine lv_iload_n hx hb dX5_count_120 rfl (lv_at hl 1 rfl) ?_
                  refine va_ialdN (D := D) (cl := vwCl) (cA := cI) (f := G 4) hx hb hK hP 8 0 rfl rfl a_ (rfl) (by omega) (by first | decide | assumption) dX5_count_121 ?_
                  refine lv_icmp_ge (tgt := 129) hx hb dX5_count_122 (by decide) (fun c_122 => ?_) (fun c_122 => ?_)
                  · skip
                    refine lv_iconst (v := 0) hx hb dX5_count_129 (by decide) ?_
                    refine lv_istore (lv' := [(6, .int 0), (0, .ref o5), (1, .int ((nI a_))), (2, .int ((nI m_))), (3, .int n), (4, .int (nI (ct (fun p => knB nn P N (nI a_) p && decide (P m_ p = n)) i))), (5, .int (nI (ct (fun p => knB nn P N (nI a_) p && !decide (P m_ p = n)) i)))]) hx hb dX5_count_130 hl (by decide) rfl (fun ls hl => ?_)
                    refine lv_iload hx hb dX5_count_132 (lv_at hl 0 rfl) ?_
                    refine lv_if_eq (tgt := 142) hx hb dX5_count_134 (by decide) (fun _ => ?_) (fun c9 => absurd c9 (by decide))
                    refine lv_iload hx hb dX5_count_142 (lv_at hl 5 rfl) ?_
                    exact rd_iret hx hb hr hlocks dX5_count_144 (by rw [if_pos (by simp [c_5, c_14, c_21]), others_eq hnp hw ho hs (show m_ < 4 by omega), having_eq hnp hw ho hs (show m_ < 4 by omega)]; subst hi2; simp [smlB, t4, c_95, c_111, c_122])
                  · skip
                    refine lv_iconst (v := 1) hx hb dX5_count_125 (by decide) ?_
                    refine lv_goto (tgt := 130) hx hb dX5_count_126 (by decide) ?_
                    refine lv_istore (lv' := [(6, .int 1), (0, .ref o5), (1, .int ((nI a_))), (2, .int ((nI m_))), (3, .int n), (4, .int (nI (ct (fun p => knB nn P N (nI a_) p && decide (P m_ p = n)) i))), (5, .int (nI (ct (fun p => knB nn P N (nI a_) p && !decide (P m_ p = n)) i)))]) hx hb dX5_count_130 hl (by decide) rfl (fun ls hl => ?_)
                    refine lv_iload hx hb dX5_count_132 (lv_at hl 0 rfl) ?_
                    refine lv_if_eq (tgt := 142) hx hb dX5_count_134 (by decide) (fun c9 => absurd c9 (by decide)) (fun _ => ?_)
                    refine lv_bipush (v := (-2)) hx hb dX5_count_137 (by decide) ?_
                    refine lv_goto (tgt := 144) hx hb dX5_count_139 (by decide) ?_
                    exact rd_iret hx hb hr hlocks dX5_count_144 (by rw [if_pos (by simp [c_5, c_14, c_21]), others_eq hnp hw ho hs (show m_ < 4 by omega), having_eq hnp hw ho hs (show m_ < 4 by omega)]; subst hi2; simp [smlB, t4, c_95, c_111, c_122])
              · skip
                refine lv_iload hx hb dX5_count_98 (lv_at hl 4 rfl) ?_
                refine lv_aload_n hx hb dX5_count_100 rfl (lv_at hl 0 rfl) ?_
                refine va_get (D := D) (ci := 5) (v := .ref k13) (C := RX5) (T := TX5) (N := 26) hx hb hts hin5 hown hK hP 0 rfl rfl 13 (by decide) hf32 (fun _ h9 => h9) rfl dX5_count_101 ?_
                refine lv_iload_n hx hb dX5_count_104 rfl (lv_at hl 1 rfl) ?_
                refine va_ialdN (D := D) (cl := vwCl) (cA := cI) (f := G 4) hx hb hK hP 8 0 rfl rfl a_ (rfl) (by omega) (by first | decide | assumption) dX5_count_105 ?_
                refine lv_icmp_lt (tgt := 125) hx hb dX5_count_106 (by decide) (fun c_106 => ?_) (fun c_106 => ?_)
                · skip
                  have c_106 := lt_le c_106
                  refine lv_iconst (v := 1) hx hb dX5_count_125 (by decide) ?_
                  refine lv_goto (tgt := 130) hx hb dX5_count_126 (by decide) ?_
                  refine lv_istore (lv' := [(6, .int 1), (0, .ref o5), (1, .int ((nI a_))), (2, .int ((nI m_))), (3, .int n), (4, .int (nI (ct (fun p => knB nn P N (nI a_) p && decide (P m_ p = n)) i))), (5, .int (nI (ct (fun p => knB nn P N (nI a_) p && !decide (P m_ p = n)) i)))]) hx hb dX5_count_130 hl (by decide) rfl (fun ls hl => ?_)
                  refine lv_iload hx hb dX5_count_132 (lv_at hl 0 rfl) ?_
                  refine lv_if_eq (tgt := 142) hx hb dX5_count_134 (by decide) (fun c9 => absurd c9 (by decide)) (fun _ => ?_)
                  refine lv_bipush (v := (-2)) hx hb dX5_count_137 (by decide) ?_
                  refine lv_goto (tgt := 144) hx hb dX5_count_139 (by decide) ?_
                  exact rd_iret hx hb hr hlocks dX5_count_144 (by rw [if_pos (by simp [c_5, c_14, c_21]), others_eq hnp hw ho hs (show m_ < 4 by omega), having_eq hnp hw ho hs (show m_ < 4 by omega)]; subst hi2; simp [smlB, t4, c_95, c_106])
                · skip
                  have c_106 := nlt_le c_106
                  refine lv_iload hx hb dX5_count_109 (lv_at hl 5 rfl) ?_
                  refine lv_if_eq (tgt := 129) hx hb dX5_count_111 (by decide) (fun c_111 => ?_) (fun c_111 => ?_)
                  · skip
                    refine lv_iconst (v := 0) hx hb dX5_count_129 (by decide) ?_
                    refine lv_istore (lv' := [(6, .int 0), (0, .ref o5), (1, .int ((nI a_))), (2, .int ((nI m_))), (3, .int n), (4, .int (nI (ct (fun p => knB nn P N (nI a_) p && decide (P m_ p = n)) i))), (5, .int (nI (ct (fun p => knB nn P N (nI a_) p && !decide (P m_ p = n)) i)))]) hx hb dX5_count_130 hl (by decide) rfl (fun ls hl => ?_)
                    refine lv_iload hx hb dX5_count_132 (lv_at hl 0 rfl) ?_
                    refine lv_if_eq (tgt := 142) hx hb dX5_count_134 (by decide) (fun _ => ?_) (fun c9 => absurd c9 (by decide))
                    refine lv_iload hx hb dX5_count_142 (lv_at hl 5 rfl) ?_
                    exact rd_iret hx hb hr hlocks dX5_count_144 (by rw [if_pos (by simp [c_5, c_14, c_21]), others_eq hnp hw ho hs (show m_ < 4 by omega), having_eq hnp hw ho hs (show m_ < 4 by omega)]; subst hi2; simp [smlB, t4, c_95, c_106, c_111])
                  · skip
                    refine lv_iload hx hb dX5_count_114 (lv_at hl 5 rfl) ?_
                    refine lv_aload_n hx hb dX5_count_116 rfl (lv_at hl 0 rfl) ?_
                    refine va_get (D := D) (ci := 5) (v := .ref k13) (C := RX5) (T := TX5) (N := 26) hx hb hts hin5 hown hK hP 0 rfl rfl 13 (by decide) hf32 (fun _ h9 => h9) rfl dX5_count_117 ?_
                    refine lv_iload_n hx hb dX5_count_120 rfl (lv_at hl 1 rfl) ?_
                    refine va_ialdN (D := D) (cl := vwCl) (cA := cI) (f := G 4) hx hb hK hP 8 0 rfl rfl a_ (rfl) (by omega) (by first | decide | assumption) dX5_count_121 ?_
                    refine lv_icmp_ge (tgt := 129) hx hb dX5_count_122 (by decide) (fun c_122 => ?_) (fun c_122 => ?_)
                    · skip
                      refine lv_iconst (v := 0) hx hb dX5_count_129 (by decide) ?_
                      refine lv_istore (lv' := [(6, .int 0), (0, .ref o5), (1, .int ((nI a_))), (2, .int ((nI m_))), (3, .int n), (4, .int (nI (ct (fun p => knB nn P N (nI a_) p && decide (P m_ p = n)) i))), (5, .int (nI (ct (fun p => knB nn P N (nI a_) p && !decide (P m_ p = n)) i)))]) hx hb dX5_count_130 hl (by decide) rfl (fun ls hl => ?_)
                      refine lv_iload hx hb dX5_count_132 (lv_at hl 0 rfl) ?_
                      refine lv_if_eq (tgt := 142) hx hb dX5_count_134 (by decide) (fun _ => ?_) (fun c9 => absurd c9 (by decide))
                      refine lv_iload hx hb dX5_count_142 (lv_at hl 5 rfl) ?_
                      exact rd_iret hx hb hr hlocks dX5_count_144 (by rw [if_pos (by simp [c_5, c_14, c_21]), others_eq hnp hw ho hs (show m_ < 4 by omega), having_eq hnp hw ho hs (show m_ < 4 by omega)]; subst hi2; simp [smlB, t4, c_95, c_106, c_111, c_122])
                    · skip
                      refine lv_iconst (v := 1) hx hb dX5_count_125 (by decide) ?_
                      refine lv_goto (tgt := 130) hx hb dX5_count_126 (by decide) ?_
                      refine lv_istore (lv' := [(6, .int 1), (0, .ref o5), (1, .int ((nI a_))), (2, .int ((nI m_))), (3, .int n), (4, .int (nI (ct (fun p => knB nn P N (nI a_) p && decide (P m_ p = n)) i))), (5, .int (nI (ct (fun p => knB nn P N (nI a_) p && !decide (P m_ p = n)) i)))]) hx hb dX5_count_130 hl (by decide) rfl (fun ls hl => ?_)
                      refine lv_iload hx hb dX5_count_132 (lv_at hl 0 rfl) ?_
                      refine lv_if_eq (tgt := 142) hx hb dX5_count_134 (by decide) (fun c9 => absurd c9 (by decide)) (fun _ => ?_)
                      refine lv_bipush (v := (-2)) hx hb dX5_count_137 (by decide) ?_
                      refine lv_goto (tgt := 144) hx hb dX5_count_139 (by decide) ?_
                      exact rd_iret hx hb hr hlocks dX5_count_144 (by rw [if_pos (by simp [c_5, c_14, c_21]), others_eq hnp hw ho hs (show m_ < 4 by omega), having_eq hnp hw ho hs (show m_ < 4 by omega)]; subst hi2; simp [smlB, t4, c_95, c_106, c_111, c_122])
            · skip
              have hi2 : i < np := lit_F c_41 np rfl (by omega) (by omega)
              refine lv_aload_n hx hb dX5_count_44 rfl (lv_at hl 0 rfl) ?_
              refine lv_iload_n hx hb dX5_count_45 rfl (lv_at hl 1 rfl) ?_
              refine lv_iload hx hb dX5_count_46 (lv_at hl 6 rfl) ?_
              refine rcVw (As := [.int ((nI a_)), .int (nI i)]) (rest := []) (ci := 5) ⟨hx, hb, hml, hown, hts⟩ (kX5_knows l D cI cZ o5 k6 k7 k8 k9 k10 k11 k12 k13 k14 k15 k16 k17 k18 k19 k20 k21 k22 k23 k24 k25 np nh nn nb ne td P G N B E mc (nI a_) i (by first | assumption | omega) (by first | assumption | omega) (by first | assumption | omega) (by first | assumption | omega) (hi2)) (cwV 2 hts gX5_count_X5_knows rfl rfl rfl (by decide +kernel) ⟨Nat.le_of_ble_eq_true rfl, Nat.le_of_ble_eq_true rfl⟩) hK hP rfl rfl rfl rfl hl.1 rfl (Nat.le_of_ble_eq_true rfl) ⟨Nat.zero_le _, Nat.zero_le _⟩ dX5_count_48 ?_
              refine lb_ne (tgt := 57) hx hb dX5_count_51 (by decide) (fun c_51 => ?_) (fun c_51 => ?_)
              · skip
                refine lv_aload_n hx hb dX5_count_57 rfl (lv_at hl 0 rfl) ?_
                refine va_get (D := D) (ci := 5) (v := .ref k6) (C := RX5) (T := TX5) (N := 26) hx hb hts hin5 hown hK hP 0 rfl rfl 6 (by decide) hf7 (fun _ h9 => h9) rfl dX5_count_58 ?_
                refine lv_iconst (v := 4) hx hb dX5_count_61 (by decide) ?_
                refine lv_iload hx hb dX5_count_62 (lv_at hl 6 rfl) ?_
                refine lv_imul hx hb dX5_count_64 ?_
                refine lv_iload_n hx hb dX5_count_65 rfl (lv_at hl 2 rfl) ?_
                refine lv_iadd hx hb dX5_count_66 ?_
                refine va_ialdN (D := D) (cl := vwCl) (cA := cI) (f := fl 4 P) hx hb hK hP 1 0 rfl rfl (i * 4 + m_) (ixI 4 i m_) (by omega) (by first | decide | assumption) dX5_count_67 ?_
                rw [show ((fl 4 P) (i * 4 + m_)) = (P m_ i) from fl_at (by omega)]
                refine lv_iload_n hx hb dX5_count_68 rfl (lv_at hl 3 rfl) ?_
                refine lv_icmp_ne (tgt := 81) hx hb dX5_count_69 (by decide) (fun c_69 => ?_) (fun c_69 => ?_)
                · skip
                  refine lv_iload hx hb dX5_count_81 (lv_at hl 5 rfl) ?_
                  refine lv_iconst (v := 1) hx hb dX5_count_83 (by decide) ?_
                  refine lv_iadd hx hb dX5_count_84 ?_
                  refine lv_istore (lv' := [(5, .int (((nI (ct (fun p => knB nn P N (nI a_) p && !decide (P m_ p = n)) i)) + 1))), (0, .ref o5), (1, .int ((nI a_))), (2, .int ((nI m_))), (3, .int n), (4, .int (nI (ct (fun p => knB nn P N (nI a_) p && decide (P m_ p = n)) i))), (6, .int (nI i))]) hx hb dX5_count_85 hl (by decide) rfl (fun ls hl => ?_)
                  refine lv_iinc (v := (nI i) + 1) (lv' := [(6, .int (((nI i) + 1))), (5, .int (((nI (ct (fun p => knB nn P N (nI a_) p && !decide (P m_ p = n)) i)) + 1))), (0, .ref o5), (1, .int ((nI a_))), (2, .int ((nI m_))), (3, .int n), (4, .int (nI (ct (fun p => knB nn P N (nI a_) p && decide (P m_ p = n)) i)))]) hx hb dX5_count_87 hl (k := 6) rfl rfl (by decide) rfl (fun ls hl => ?_)
                  refine lv_goto (tgt := 35) hx hb dX5_count_90 (by decide) ?_
                  rw [nI_1 i] at hl
                  rw [show nI (ct (fun p => knB nn P N (nI a_) p && decide (P m_ p = n)) i) = nI (ct (fun p => knB nn P N (nI a_) p && decide (P m_ p = n)) (i + 1)) by exact ct_no (by simp [c_51, c_69])] at hl
                  rw [show ((nI (ct (fun p => knB nn P N (nI a_) p && !decide (P m_ p = n)) i)) + 1) = nI (ct (fun p => knB nn P N (nI a_) p && !decide (P m_ p = n)) (i + 1)) by exact ct_yes (by simp [c_51, c_69])] at hl
                  exact ih (i + 1) ls (by omega) (by omega) (lv_sub hl [2, 3, 4, 5, 6, 1, 0] rfl)
                · skip
                  refine lv_iload hx hb dX5_count_72 (lv_at hl 4 rfl) ?_
                  refine lv_iconst (v := 1) hx hb dX5_count_74 (by decide) ?_
                  refine lv_iadd hx hb dX5_count_75 ?_
                  refine lv_istore (lv' := [(4, .int (((nI (ct (fun p => knB nn P N (nI a_) p && decide (P m_ p = n)) i)) + 1))), (0, .ref o5), (1, .int ((nI a_))), (2, .int ((nI m_))), (3, .int n), (5, .int (nI (ct (fun p => knB nn P N (nI a_) p && !decide (P m_ p = n)) i))), (6, .int (nI i))]) hx hb dX5_count_76 hl (by decide) rfl (fun ls hl => ?_)
                  refine lv_goto (tgt := 87) hx hb dX5_count_78 (by decide) ?_
                  refine lv_iinc (v := (nI i) + 1) (lv' := [(6, .int (((nI i) + 1))), (4, .int (((nI (ct (fun p => knB nn P N (nI a_) p && decide (P m_ p = n)) i)) + 1))), (0, .ref o5), (1, .int ((nI a_))), (2, .int ((nI m_))), (3, .int n), (5, .int (nI (ct (fun p => knB nn P N (nI a_) p && !decide (P m_ p = n)) i)))]) hx hb dX5_count_87 hl (k := 6) rfl rfl (by decide) rfl (fun ls hl => ?_)
                  refine lv_goto (tgt := 35) hx hb dX5_count_90 (by decide) ?_
                  rw [nI_1 i] at hl
                  rw [show ((nI (ct (fun p => knB nn P N (nI a_) p && decide (P m_ p = n)) i)) + 1) = nI (ct (fun p => knB nn P N (nI a_) p && decide (P m_ p = n)) (i + 1)) by exact ct_yes (by simp [c_51, c_69])] at hl
                  rw [show nI (ct (fun p => knB nn P N (nI a_) p && !decide (P m_ p = n)) i) = nI (ct (fun p => knB nn P N (nI a_) p && !decide (P m_ p = n)) (i + 1)) by exact ct_no (by simp [c_51, c_69])] at hl
                  exact ih (i + 1) ls (by omega) (by omega) (lv_sub hl [2, 3, 4, 5, 1, 6, 0] rfl)
              · skip
                refine lv_goto (tgt := 87) hx hb dX5_count_54 (by decide) ?_
                refine lv_iinc (v := (nI i) + 1) (lv' := [(6, .int (((nI i) + 1))), (0, .ref o5), (1, .int ((nI a_))), (2, .int ((nI m_))), (3, .int n), (4, .int (nI (ct (fun p => knB nn P N (nI a_) p && decide (P m_ p = n)) i))), (5, .int (nI (ct (fun p => knB nn P N (nI a_) p && !decide (P m_ p = n)) i)))]) hx hb dX5_count_87 hl (k := 6) rfl rfl (by decide) rfl (fun ls hl => ?_)
                refine lv_goto (tgt := 35) hx hb dX5_count_90 (by decide) ?_
                rw [nI_1 i] at hl
                rw [show nI (ct (fun p => knB nn P N (nI a_) p && decide (P m_ p = n)) i) = nI (ct (fun p => knB nn P N (nI a_) p && decide (P m_ p = n)) (i + 1)) by exact ct_no (by simp [c_51])] at hl
                rw [show nI (ct (fun p => knB nn P N (nI a_) p && !decide (P m_ p = n)) i) = nI (ct (fun p => knB nn P N (nI a_) p && !decide (P m_ p = n)) (i + 1)) by exact ct_no (by simp [c_51])] at hl
                exact ih (i + 1) ls (by omega) (by omega) (lv_sub hl [1, 2, 3, 4, 5, 6, 0] rfl)
        exact loop (np + 1) 0 ls (by omega) (by omega) (lv_sub hl [3, 4, 5, 6, 2, 1, 0] rfl)
      · skip
        refine lv_iconst (v := (-1)) hx hb dX5_count_24 (by decide) ?_
        exact rd_iret hx hb hr hlocks dX5_count_25 (by simp [c_5, c_14, c_21])

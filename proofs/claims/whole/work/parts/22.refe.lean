set_option maxHeartbeats 4000000 in
set_option maxRecDepth 100000 in
theorem kX5_one (l : Launch) (D : va_G) (cI cZ : ClassId) (o5 k6 k7 k8 k9 k10 k11 k12 k13 k14 k15 k16 k17 k18 k19 k20 k21 k22 k23 k24 k25 np nh nn nb ne : Nat) (td : Int32) (P G N B E : Nat → Nat → Int32) (mc : Nat → Int32) (a : Int32) (b : Int32) (hnp : np ≤ 24) (hw : HP np (P 4)) (hs : ∀ p, P 5 p = 0 ∨ P 5 p = 1) : Met l yX5_one wsX5_one ({ frames := 2, cells := 0, slots := 0, locals := 44 } : Room) (MuP D [(cI, .int), (cZ, .boolean)] [.ref o5, .int a, .int b] [(o5, .inr (5, [.int (nI np), .int (nI nh), .int td, .int (nI nn), .int (nI nb), .int (nI ne), .ref k6, .ref k7, .ref k8, .ref k9, .ref k10, .ref k11, .ref k12, .ref k13, .ref k14, .ref k15, .ref k16, .ref k17, .ref k18, .ref k19, .ref k20, .ref k21, .ref k22, .ref k23, .ref k24, .ref k25])), (k6, .inl (cI, 96, .inl (fl 4 P))), (k7, .inl (cI, 24, .inl (P 4))), (k8, .inl (cZ, 24, .inl (P 5))), (k9, .inl (cI, 5, .inl (G 0))), (k10, .inl (cI, 5, .inl (G 1))), (k11, .inl (cI, 5, .inl (G 2))), (k12, .inl (cI, 5, .inl (G 3))), (k13, .inl (cI, 5, .inl (G 4))), (k14, .inl (cI, 5, .inl (mc))), (k15, .inl (cZ, 5, .inl (G 5))), (k16, .inl (cI, 200, .inl (N 0))), (k17, .inl (cI, 200, .inl (N 1))), (k18, .inl (cI, 200, .inl (N 2))), (k19, .inl (cI, 200, .inl (N 3))), (k20, .inl (cI, 200, .inl (N 4))), (k21, .inl (cI, 20, .inl (B 0))), (k22, .inl (cI, 20, .inl (B 1))), (k23, .inl (cI, 20, .inl (B 2))), (k24, .inl (cI, 20, .inl (B 3))), (k25, .inl (cI, 1200, .inl (fl 6 E)))]) (QM D (some (.int (bI (okJ np P a b)))) [(o5, .inr (5, [.int (nI np), .int (nI nh), .int td, .int (nI nn), .int (nI nb), .int (nI ne), .ref k6, .ref k7, .ref k8, .ref k9, .ref k10, .ref k11, .ref k12, .ref k13, .ref k14, .ref k15, .ref k16, .ref k17, .ref k18, .ref k19, .ref k20, .ref k21, .ref k22, .ref k23, .ref k24, .ref k25])), (k6, .inl (cI, 96, .inl (fl 4 P))), (k7, .inl (cI, 24, .inl (P 4))), (k8, .inl (cZ, 24, .inl (P 5))), (k9, .inl (cI, 5, .inl (G 0))), (k10, .inl (cI, 5, .inl (G 1))), (k11, .inl (cI, 5, .inl (G 2))), (k12, .inl (cI, 5, .inl (G 3))), (k13, .inl (cI, 5, .inl (G 4))), (k14, .inl (cI, 5, .inl (mc))), (k15, .inl (cZ, 5, .inl (G 5))), (k16, .inl (cI, 200, .inl (N 0))), (k17, .inl (cI, 200, .inl (N 1))), (k18, .inl (cI, 200, .inl (N 2))), (k19, .inl (cI, 200, .inl (N 3))), (k20, .inl (cI, 200, .inl (N 4))), (k21, .inl (cI, 20, .inl (B 0))), (k22, .inl (cI, 20, .inl (B 1))), (k23, .inl (cI, 20, .inl (B 2))), (k24, .inl (cI, 20, .inl (B 3))), (k25, .inl (cI, 1200, .inl (fl 6 E)))] [(o5, .inr (5, [.int (nI np), .int (nI nh), .int td, .int (nI nn), .int (nI nb), .int (nI ne), .ref k6, .ref k7, .ref k8, .ref k9, .ref k10, .ref k11, .ref k12, .ref k13, .ref k14, .ref k15, .ref k16, .ref k17, .ref k18, .ref k19, .ref k20, .ref k21, .ref k22, .ref k23, .ref k24, .ref k25])), (k6, .inl (cI, 96, .inl (fl 4 (joinT np P a b)))), (k7, .inl (cI, 24, .inl ((joinT np P a b) 4))), (k8, .inl (cZ, 24, .inl ((joinT np P a b) 5))), (k9, .inl (cI, 5, .inl (G 0))), (k10, .inl (cI, 5, .inl (G 1))), (k11, .inl (cI, 5, .inl (G 2))), (k12, .inl (cI, 5, .inl (G 3))), (k13, .inl (cI, 5, .inl (G 4))), (k14, .inl (cI, 5, .inl (mc))), (k15, .inl (cZ, 5, .inl (G 5))), (k16, .inl (cI, 200, .inl (N 0))), (k17, .inl (cI, 200, .inl (N 1))), (k18, .inl (cI, 200, .inl (N 2))), (k19, .inl (cI, 200, .inl (N 3))), (k20, .inl (cI, 200, .inl (N 4))), (k21, .inl (cI, 20, .inl (B 0))), (k22, .inl (cI, 20, .inl (B 1))), (k23, .inl (cI, 20, .inl (B 2))), (k24, .inl (cI, 20, .inl (B 3))), (k25, .inl (cI, 1200, .inl (fl 6 E)))]) 0 0 (adr [(o5, .inr (5, [.int (nI np), .int (nI nh), .int td, .int (nI nn), .int (nI nb), .int (nI ne), .ref k6, .ref k7, .ref k8, .ref k9, .ref k10, .ref k11, .ref k12, .ref k13, .ref k14, .ref k15, .ref k16, .ref k17, .ref k18, .ref k19, .ref k20, .ref k21, .ref k22, .ref k23, .ref k24, .ref k25])), (k6, .inl (cI, 96, .inl (fl 4 P))), (k7, .inl (cI, 24, .inl (P 4))), (k8, .inl (cZ, 24, .inl (P 5))), (k9, .inl (cI, 5, .inl (G 0))), (k10, .inl (cI, 5, .inl (G 1))), (k11, .inl (cI, 5, .inl (G 2))), (k12, .inl (cI, 5, .inl (G 3))), (k13, .inl (cI, 5, .inl (G 4))), (k14, .inl (cI, 5, .inl (mc))), (k15, .inl (cZ, 5, .inl (G 5))), (k16, .inl (cI, 200, .inl (N 0))), (k17, .inl (cI, 200, .inl (N 1))), (k18, .inl (cI, 200, .inl (N 2))), (k19, .inl (cI, 200, .inl (N 3))), (k20, .inl (cI, 200, .inl (N 4))), (k21, .inl (cI, 20, .inl (B 0))), (k22, .inl (cI, 20, .inl (B 1))), (k23, .inl (cI, 20, .inl (B 2))), (k24, .inl (cI, 20, .inl (B 3))), (k25, .inl (cI, 1200, .inl (fl 6 E)))]) := by
  refine mu_of (cc := cX5_one) (maxL := 4) (ret := (some .boolean)) (by decide) rfl (Nat.le_of_ble_eq_true rfl) ?_
  intro pp ee ss mm bw me cd ls hx hb hr hts hown hlocks hml hK hl H locs hP hD hS
  have hl : lv_has ls 4 [(0, .ref o5), (1, .int a), (2, .int b)] := hl
  have hf13 := hts (.fieldLink RX5 13 "OtherNamesModel" "within" "[I") (by decide +kernel)
  have hin5 := (show ∀ w ∈ wsX50, w ∈ wsX5_one by decide +kernel)
  have hf16 := hts (.fieldLink RX5 16 "OtherNamesModel" "isStruck" "[Z") (by decide +kernel)
  refine lv_aload_n hx hb dX5_one_0 rfl (lv_at hl 0 rfl) ?_
  refine lv_iload_n hx hb dX5_one_1 rfl (lv_at hl 1 rfl) ?_
  refine rcVw (As := [.int a]) (rest := []) (ci := 5) ⟨hx, hb, hml, hown, hts⟩ (kX5_isPerson l D cI cZ o5 k6 k7 k8 k9 k10 k11 k12 k13 k14 k15 k16 k17 k18 k19 k20 k21 k22 k23 k24 k25 np nh nn nb ne td P G N B E mc a) (cwV 1 hts gX5_one_X5_isPerson rfl rfl rfl (by decide +kernel) ⟨Nat.le_of_ble_eq_true rfl, Nat.le_of_ble_eq_true rfl⟩) hK hP rfl rfl rfl rfl hl.1 rfl (Nat.le_of_ble_eq_true rfl) ⟨Nat.zero_le _, Nat.zero_le _⟩ dX5_one_2 ?_
  refine lb_eq (tgt := 41) hx hb dX5_one_5 (by decide) (fun c_5 => ?_) (fun c_5 => ?_)
  · skip
    have ha := isHd_out (P := P) c_5
    refine lv_iconst (v := 0) hx hb dX5_one_41 (by decide) ?_
    refine mu_zret hx hb hr hlocks hS dX5_one_42 ?_ ?_
    · simp [bI, okJ, ha]
    have q0 : (fl 4 (joinT np P a b)) = (fl 4 P) := by rw [joinT, if_neg (by simp [okJ, ha])]
    have q1 : ((joinT np P a b) 4) = (P 4) := by rw [joinT, if_neg (by simp [okJ, ha])]
    have q2 : ((joinT np P a b) 5) = (P 5) := by rw [joinT, if_neg (by simp [okJ, ha])]
    rw [q0, q1, q2]
    exact hP
  · skip
    obtain ⟨ja, hja, rfl⟩ := inR_ex c_5 (by omega)
    refine lv_aload_n hx hb dX5_one_8 rfl (lv_at hl 0 rfl) ?_
    refine lv_iload_n hx hb dX5_one_9 rfl (lv_at hl 2 rfl) ?_
    refine rcVw (As := [.int b]) (rest := []) (ci := 5) ⟨hx, hb, hml, hown, hts⟩ (kX5_isPerson l D cI cZ o5 k6 k7 k8 k9 k10 k11 k12 k13 k14 k15 k16 k17 k18 k19 k20 k21 k22 k23 k24 k25 np nh nn nb ne td P G N B E mc b) (cwV 1 hts gX5_one_X5_isPerson rfl rfl rfl (by decide +kernel) ⟨Nat.le_of_ble_eq_true rfl, Nat.le_of_ble_eq_true rfl⟩) hK hP rfl rfl rfl rfl hl.1 rfl (Nat.le_of_ble_eq_true rfl) ⟨Nat.zero_le _, Nat.zero_le _⟩ dX5_one_10 ?_
    refine lb_eq (tgt := 41) hx hb dX5_one_13 (by decide) (fun c_13 => ?_) (fun c_13 => ?_)
    · skip
      have hb_ := isHd_out (P := P) c_13
      refine lv_iconst (v := 0) hx hb dX5_one_41 (by decide) ?_
      refine mu_zret hx hb hr hlocks hS dX5_one_42 ?_ ?_
      · simp [bI, okJ, hb_]
      have q0 : (fl 4 (joinT np P (nI ja) b)) = (fl 4 P) := by rw [joinT, if_neg (by simp [okJ, hb_])]
      have q1 : ((joinT np P (nI ja) b) 4) = (P 4) := by rw [joinT, if_neg (by simp [okJ, hb_])]
      have q2 : ((joinT np P (nI ja) b) 5) = (P 5) := by rw [joinT, if_neg (by simp [okJ, hb_])]
      rw [q0, q1, q2]
      exact hP
    · skip
      obtain ⟨jb, hjb, rfl⟩ := inR_ex c_13 (by omega)
      refine lv_iload_n hx hb dX5_one_16 rfl (lv_at hl 1 rfl) ?_
      refine lv_iload_n hx hb dX5_one_17 rfl (lv_at hl 2 rfl) ?_
      refine lv_icmp_eq (tgt := 41) hx hb dX5_one_18 (by decide) (fun c_18 => ?_) (fun c_18 => ?_)
      · skip
        refine lv_iconst (v := 0) hx hb dX5_one_41 (by decide) ?_
        refine mu_zret hx hb hr hlocks hS dX5_one_42 ?_ ?_
        · simp [bI, okJ, c_18]
        have q0 : (fl 4 (joinT np P (nI ja) (nI jb))) = (fl 4 P) := by rw [joinT, if_neg (by simp [okJ, c_18])]
        have q1 : ((joinT np P (nI ja) (nI jb)) 4) = (P 4) := by rw [joinT, if_neg (by simp [okJ, c_18])]
        have q2 : ((joinT np P (nI ja) (nI jb)) 5) = (P 5) := by rw [joinT, if_neg (by simp [okJ, c_18])]
        rw [q0, q1, q2]
        exact hP
      · skip
        refine lv_aload_n hx hb dX5_one_21 rfl (lv_at hl 0 rfl) ?_
        refine va_get (D := D) (ci := 5) (v := .ref k7) (C := RX5) (T := TX5) (N := 26) hx hb hts hin5 hown hK hP 0 rfl rfl 7 (by decide) hf13 (fun _ h9 => h9) rfl dX5_one_22 ?_
        refine lv_iload_n hx hb dX5_one_25 rfl (lv_at hl 1 rfl) ?_
        refine va_ialdN (D := D) (cl := vwCl) (cA := cI) (f := P 4) hx hb hK hP 2 0 rfl rfl ja (rfl) (by omega) (by first | decide | assumption) dX5_one_26 ?_
        refine lv_iconst (v := (-1)) hx hb dX5_one_27 (by decide) ?_
        refine lv_icmp_ne (tgt := 41) hx hb dX5_one_28 (by decide) (fun c_28 => ?_) (fun c_28 => ?_)
        · skip
          have ha := isHd_no hnp hja c_28
          refine lv_iconst (v := 0) hx hb dX5_one_41 (by decide) ?_
          refine mu_zret hx hb hr hlocks hS dX5_one_42 ?_ ?_
          · simp [bI, okJ, ha, c_18]
          have q0 : (fl 4 (joinT np P (nI ja) (nI jb))) = (fl 4 P) := by rw [joinT, if_neg (by simp [okJ, ha, c_18])]
          have q1 : ((joinT np P (nI ja) (nI jb)) 4) = (P 4) := by rw [joinT, if_neg (by simp [okJ, ha, c_18])]
          have q2 : ((joinT np P (nI ja) (nI jb)) 5) = (P 5) := by rw [joinT, if_neg (by simp [okJ, ha, c_18])]
          rw [q0, q1, q2]
          exact hP
        · skip
          have ha := isHd_yes hnp hja c_28
          refine lv_aload_n hx hb dX5_one_31 rfl (lv_at hl 0 rfl) ?_
          refine va_get (D := D) (ci := 5) (v := .ref k7) (C := RX5) (T := TX5) (N := 26) hx hb hts hin5 hown hK hP 0 rfl rfl 7 (by decide) hf13 (fun _ h9 => h9) rfl dX5_one_32 ?_
          refine lv_iload_n hx hb dX5_one_35 rfl (lv_at hl 2 rfl) ?_
          refine va_ialdN (D := D) (cl := vwCl) (cA := cI) (f := P 4) hx hb hK hP 2 0 rfl rfl jb (rfl) (by omega) (by first | decide | assumption) dX5_one_36 ?_
          refine lv_iconst (v := (-1)) hx hb dX5_one_37 (by decide) ?_
          refine lv_icmp_eq (tgt := 43) hx hb dX5_one_38 (by decide) (fun c_38 => ?_) (fun c_38 => ?_)
          · skip
            have hb_ := isHd_yes hnp hjb c_38
            refine lv_aload_n hx hb dX5_one_43 rfl (lv_at hl 0 rfl) ?_
            refine va_get (D := D) (ci := 5) (v := .ref k8) (C := RX5) (T := TX5) (N := 26) hx hb hts hin5 hown hK hP 0 rfl rfl 8 (by decide) hf16 (fun _ h9 => h9) rfl dX5_one_44 ?_
            refine lv_iload_n hx hb dX5_one_47 rfl (lv_at hl 1 rfl) ?_
            refine va_zaldN (D := D) (cl := vwCl) (cA := cZ) (f := P 5) hx hb hK hP 3 1 rfl rfl ja (rfl) (by omega) (by first | decide | assumption) dX5_one_48 ?_
            refine lv_if_ne (tgt := 61) hx hb dX5_one_49 (by decide) (fun c_49 => ?_) (fun c_49 => ?_)
            · skip
              have sa := isSt_1 hnp hja hs c_49
              refine lv_iconst (v := 1) hx hb dX5_one_61 (by decide) ?_
              refine lv_goto (tgt := 66) hx hb dX5_one_62 (by decide) ?_
              refine lv_istore_n (lv' := [(3, .int 1), (0, .ref o5), (1, .int ((nI ja))), (2, .int ((nI jb)))]) hx hb dX5_one_66 rfl hl (by decide) rfl (fun ls hl => ?_)
              have ub : tput np 6 P (nI jb) 4 (nI ja) = up2 P 4 jb (nI ja) := tput_nI (c := 4) (by omega) (by omega) hjb (by omega)
              refine lv_aload_n hx hb dX5_one_67 rfl (lv_at hl 1 rfl) ?_
              refine va_get (D := D) (ci := 5) (v := .ref k7) (C := RX5) (T := TX5) (N := 26) hx hb hts hin5 hown hK hP 0 rfl rfl 7 (by decide) hf13 (fun _ h9 => h9) rfl dX5_one_68 ?_
              refine lv_iload_n hx hb dX5_one_71 rfl (lv_at hl 3 rfl) ?_
              refine lv_iload_n hx hb dX5_one_72 rfl (lv_at hl 2 rfl) ?_
              refine va_iastN (D := D) (cl := vwCl) (cA := cI) (f := P 4) (x := (nI ja)) hx hb hK hP hD hS 2 0 rfl rfl jb (rfl) (by omega) (by first | decide | assumption) dX5_one_73 (fun H locs hP hD hS => ?_)
              have hP : va_P D vwCl [(o5, .inr (5, [.int (nI np), .int (nI nh), .int td, .int (nI nn), .int (nI nb), .int (nI ne), .ref k6, .ref k7, .ref k8, .ref k9, .ref k10, .ref k11, .ref k12, .ref k13, .ref k14, .ref k15, .ref k16, .ref k17, .ref k18, .ref k19, .ref k20, .ref k21, .ref k22, .ref k23, .ref k24, .ref k25])), (k6, .inl (cI, 96, .inl (fl 4 P))), (k7, .inl (cI, 24, .inl (upd (P 4) jb (nI ja)))), (k8, .inl (cZ, 24, .inl (P 5))), (k9, .inl (cI, 5, .inl (G 0))), (k10, .inl (cI, 5, .inl (G 1))), (k11, .inl (cI, 5, .inl (G 2))), (k12, .inl (cI, 5, .inl (G 3))), (k13, .inl (cI, 5, .inl (G 4))), (k14, .inl (cI, 5, .inl (mc))), (k15, .inl (cZ, 5, .inl (G 5))), (k16, .inl (cI, 200, .inl (N 0))), (k17, .inl (cI, 200, .inl (N 1))), (k18, .inl (cI, 200, .inl (N 2))), (k19, .inl (cI, 200, .inl (N 3))), (k20, .inl (cI, 200, .inl (N 4))), (k21, .inl (cI, 20, .inl (B 0))), (k22, .inl (cI, 20, .inl (B 1))), (k23, .inl (cI, 20, .inl (B 2))), (k24, .inl (cI, 20, .inl (B 3))), (k25, .inl (cI, 1200, .inl (fl 6 E)))] H := hP
              have hD : va_D (adr _) [(o5, .inr (5, [.int (nI np), .int (nI nh), .int td, .int (nI nn), .int (nI nb), .int (nI ne), .ref k6, .ref k7, .ref k8, .ref k9, .ref k10, .ref k11, .ref k12, .ref k13, .ref k14, .ref k15, .ref k16, .ref k17, .ref k18, .ref k19, .ref k20, .ref k21, .ref k22, .ref k23, .ref k24, .ref k25])), (k6, .inl (cI, 96, .inl (fl 4 P))), (k7, .inl (cI, 24, .inl (upd (P 4) jb (nI ja)))), (k8, .inl (cZ, 24, .inl (P 5))), (k9, .inl (cI, 5, .inl (G 0))), (k10, .inl (cI, 5, .inl (G 1))), (k11, .inl (cI, 5, .inl (G 2))), (k12, .inl (cI, 5, .inl (G 3))), (k13, .inl (cI, 5, .inl (G 4))), (k14, .inl (cI, 5, .inl (mc))), (k15, .inl (cZ, 5, .inl (G 5))), (k16, .inl (cI, 200, .inl (N 0))), (k17, .inl (cI, 200, .inl (N 1))), (k18, .inl (cI, 200, .inl (N 2))), (k19, .inl (cI, 200, .inl (N 3))), (k20, .inl (cI, 200, .inl (N 4))), (k21, .inl (cI, 20, .inl (B 0))), (k22, .inl (cI, 20, .inl (B 1))), (k23, .inl (cI, 20, .inl (B 2))), (k24, .inl (cI, 20, .inl (B 3))), (k25, .inl (cI, 1200, .inl (fl 6 E)))] := hD
              refine lv_iload_n hx hb dX5_one_74 rfl (lv_at hl 0 rfl) ?_
              refine lv_if_eq (tgt := 83) hx hb dX5_one_75 (by decide) (fun c9 => absurd c9 (by decide)) (fun _ => ?_)
              obtain ⟨P2, hP2⟩ : ∃ Q, Q = up2 P 4 jb (nI ja) := ⟨_, rfl⟩
              have q0 : (fl 4 P2) = (fl 4 P) := by rw [hP2]; first | rfl | exact fl_up_out (by omega) (by omega)
              have q1 : (P2 4) = (upd (P 4) jb (nI ja)) := by rw [hP2]; first | rfl | exact fl_up_out (by omega) (by omega)
              have q2 : (P2 5) = (P 5) := by rw [hP2]; first | rfl | exact fl_up_out (by omega) (by omega)
              have hP : va_P D vwCl [(o5, .inr (5, [.int (nI np), .int (nI nh), .int td, .int (nI nn), .int (nI nb), .int (nI ne), .ref k6, .ref k7, .ref k8, .ref k9, .ref k10, .ref k11, .ref k12, .ref k13, .ref k14, .ref k15, .ref k16, .ref k17, .ref k18, .ref k19, .ref k20, .ref k21, .ref k22, .ref k23, .ref k24, .ref k25])), (k6, .inl (cI, 96, .inl (fl 4 P2))), (k7, .inl (cI, 24, .inl (P2 4))), (k8, .inl (cZ, 24, .inl (P2 5))), (k9, .inl (cI, 5, .inl (G 0))), (k10, .inl (cI, 5, .inl (G 1))), (k11, .inl (cI, 5, .inl (G 2))), (k12, .inl (cI, 5, .inl (G 3))), (k13, .inl (cI, 5, .inl (G 4))), (k14, .inl (cI, 5, .inl (mc))), (k15, .inl (cZ, 5, .inl (G 5))), (k16, .inl (cI, 200, .inl (N 0))), (k17, .inl (cI, 200, .inl (N 1))), (k18, .inl (cI, 200, .inl (N 2))), (k19, .inl (cI, 200, .inl (N 3))), (k20, .inl (cI, 200, .inl (N 4))), (k21, .inl (cI, 20, .inl (B 0))), (k22, .inl (cI, 20, .inl (B 1))), (k23, .inl (cI, 20, .inl (B 2))), (k24, .inl (cI, 20, .inl (B 3))), (k25, .inl (cI, 1200, .inl (fl 6 E)))] H := by rw [q0, q1, q2]; exact hP
              have hD : va_D (adr [(o5, .inr (5, [.int (nI np), .int (nI nh), .int td, .int (nI nn), .int (nI nb), .int (nI ne), .ref k6, .ref k7, .ref k8, .ref k9, .ref k10, .ref k11, .ref k12, .ref k13, .ref k14, .ref k15, .ref k16, .ref k17, .ref k18, .ref k19, .ref k20, .ref k21, .ref k22, .ref k23, .ref k24, .ref k25])), (k6, .inl (cI, 96, .inl (fl 4 P))), (k7, .inl (cI, 24, .inl (P 4))), (k8, .inl (cZ, 24, .inl (P 5))), (k9, .inl (cI, 5, .inl (G 0))), (k10, .inl (cI, 5, .inl (G 1))), (k11, .inl (cI, 5, .inl (G 2))), (k12, .inl (cI, 5, .inl (G 3))), (k13, .inl (cI, 5, .inl (G 4))), (k14, .inl (cI, 5, .inl (mc))), (k15, .inl (cZ, 5, .inl (G 5))), (k16, .inl (cI, 200, .inl (N 0))), (k17, .inl (cI, 200, .inl (N 1))), (k18, .inl (cI, 200, .inl (N 2))), (k19, .inl (cI, 200, .inl (N 3))), (k20, .inl (cI, 200, .inl (N 4))), (k21, .inl (cI, 20, .inl (B 0))), (k22, .inl (cI, 20, .inl (B 1))), (k23, .inl (cI, 20, .inl (B 2))), (k24, .inl (cI, 20, .inl (B 3))), (k25, .inl (cI, 1200, .inl (fl 6 E)))]) [(o5, .inr (5, [.int (nI np), .int (nI nh), .int td, .int (nI nn), .int (nI nb), .int (nI ne), .ref k6, .ref k7, .ref k8, .ref k9, .ref k10, .ref k11, .ref k12, .ref k13, .ref k14, .ref k15, .ref k16, .ref k17, .ref k18, .ref k19, .ref k20, .ref k21, .ref k22, .ref k23, .ref k24, .ref k25])), (k6, .inl (cI, 96, .inl (fl 4 P2))), (k7, .inl (cI, 24, .inl (P2 4))), (k8, .inl (cZ, 24, .inl (P2 5))), (k9, .inl (cI, 5, .inl (G 0))), (k10, .inl (cI, 5, .inl (G 1))), (k11, .inl (cI, 5, .inl (G 2))), (k12, .inl (cI, 5, .inl (G 3))), (k13, .inl (cI, 5, .inl (G 4))), (k14, .inl (cI, 5, .inl (mc))), (k15, .inl (cZ, 5, .inl (G 5))), (k16, .inl (cI, 200, .inl (N 0))), (k17, .inl (cI, 200, .inl (N 1))), (k18, .inl (cI, 200, .inl (N 2))), (k19, .inl (cI, 200, .inl (N 3))), (k20, .inl (cI, 200, .inl (N 4))), (k21, .inl (cI, 20, .inl (B 0))), (k22, .inl (cI, 20, .inl (B 1))), (k23, .inl (cI, 20, .inl (B 2))), (k24, .inl (cI, 20, .inl (B 3))), (k25, .inl (cI, 1200, .inl (fl 6 E)))] := hD.fst rfl
              refine lv_aload_n hx hb dX5_one_78 rfl (lv_at hl 1 rfl) ?_
              refine lv_iload_n hx hb dX5_one_79 rfl (lv_at hl 2 rfl) ?_
              refine mcVw (As := [.int ((nI ja))]) (rest := []) (ci := 5) (wn := [(o5, .inr (5, [.int (nI np), .int (nI nh), .int td, .int (nI nn), .int (nI nb), .int (nI ne), .ref k6, .ref k7, .ref k8, .ref k9, .ref k10, .ref k11, .ref k12, .ref k13, .ref k14, .ref k15, .ref k16, .ref k17, .ref k18, .ref k19, .ref k20, .ref k21, .ref k22, .ref k23, .ref k24, .ref k25])), (k6, .inl (cI, 96, .inl (fl 4 (strk np P2 ja 24)))), (k7, .inl (cI, 24, .inl ((strk np P2 ja 24) 4))), (k8, .inl (cZ, 24, .inl ((strk np P2 ja 24) 5))), (k9, .inl (cI, 5, .inl (G 0))), (k10, .inl (cI, 5, .inl (G 1))), (k11, .inl (cI, 5, .inl (G 2))), (k12, .inl (cI, 5, .inl (G 3))), (k13, .inl (cI, 5, .inl (G 4))), (k14, .inl (cI, 5, .inl (mc))), (k15, .inl (cZ, 5, .inl (G 5))), (k16, .inl (cI, 200, .inl (N 0))), (k17, .inl (cI, 200, .inl (N 1))), (k18, .inl (cI, 200, .inl (N 2))), (k19, .inl (cI, 200, .inl (N 3))), (k20, .inl (cI, 200, .inl (N 4))), (k21, .inl (cI, 20, .inl (B 0))), (k22, .inl (cI, 20, .inl (B 1))), (k23, .inl (cI, 20, .inl (B 2))), (k24, .inl (cI, 20, .inl (B 3))), (k25, .inl (cI, 1200, .inl (fl 6 E)))]) ⟨hx, hb, hml, hown, hts⟩ (kX5_strikes l D cI cZ o5 k6 k7 k8 k9 k10 k11 k12 k13 k14 k15 k16 k17 k18 k19 k20 k21 k22 k23 k24 k25 np nh nn nb ne td P2 G N B E mc ja (by first | assumption | omega) (by rw [hP2]; exact hw.join hnp hja hjb (fun q => c_18 (by rw [q])) c_28 c_38) (by omega)) (cwV 1 hts gX5_one_X5_strikes rfl rfl rfl (by decide +kernel) ⟨Nat.le_of_ble_eq_true rfl, Nat.le_of_ble_eq_true rfl⟩) hK hP hD hS rfl rfl rfl rfl rfl hl.1 rfl (Nat.le_of_ble_eq_true rfl) ⟨Nat.zero_le _, Nat.zero_le _⟩ dX5_one_80 (fun H locs hP hD hS => ?_)
              refine W.eq (g2 := F0 mm 83 ls []) rfl ?_
              refine lv_iconst (v := 1) hx hb dX5_one_83 (by decide) ?_
              refine mu_zret hx hb hr hlocks hS dX5_one_84 ?_ ?_
              · simp [bI, okJ, ha, hb_, c_18]
              have q0 : (fl 4 (joinT np P (nI ja) (nI jb))) = (fl 4 (strk np P2 ja 24)) := by rw [joinT, if_pos (by simp [okJ, ha, hb_, c_18]), ub, if_pos (by simp [isSt_up4, sa]), nI_clamp (by omega), hP2]
              have q1 : ((joinT np P (nI ja) (nI jb)) 4) = ((strk np P2 ja 24) 4) := by rw [joinT, if_pos (by simp [okJ, ha, hb_, c_18]), ub, if_pos (by simp [isSt_up4, sa]), nI_clamp (by omega), hP2]
              have q2 : ((joinT np P (nI ja) (nI jb)) 5) = ((strk np P2 ja 24) 5) := by rw [joinT, if_pos (by simp [okJ, ha, hb_, c_18]), ub, if_pos (by simp [isSt_up4, sa]), nI_clamp (by omega), hP2]
              rw [q0, q1, q2]
              exact hP
            · skip
              have sa := isSt_0 hnp hja c_49
              refine lv_aload_n hx hb dX5_one_52 rfl (lv_at hl 0 rfl) ?_
              refine va_get (D := D) (ci := 5) (v := .ref k8) (C := RX5) (T := TX5) (N := 26) hx hb hts hin5 hown hK hP 0 rfl rfl 8 (by decide) hf16 (fun _ h9 => h9) rfl dX5_one_53 ?_
              refine lv_iload_n hx hb dX5_one_56 rfl (lv_at hl 2 rfl) ?_
              refine va_zaldN (D := D) (cl := vwCl) (cA := cZ) (f := P 5) hx hb hK hP 3 1 rfl rfl jb (rfl) (by omega) (by first | decide | assumption) dX5_one_57 ?_
              refine lv_if_eq (tgt := 65) hx hb dX5_one_58 (by decide) (fun c_58 => ?_) (fun c_58 => ?_)
              · skip
                have sb := isSt_0 hnp hjb c_58
                refine lv_iconst (v := 0) hx hb dX5_one_65 (by decide) ?_
                refine lv_istore_n (lv' := [(3, .int 0), (0, .ref o5), (1, .int ((nI ja))), (2, .int ((nI jb)))]) hx hb dX5_one_66 rfl hl (by decide) rfl (fun ls hl => ?_)
                have ub : tput np 6 P (nI jb) 4 (nI ja) = up2 P 4 jb (nI ja) := tput_nI (c := 4) (by omega) (by omega) hjb (by omega)
                refine lv_aload_n hx hb dX5_one_67 rfl (lv_at hl 1 rfl) ?_
                refine va_get (D := D) (ci := 5) (v := .ref k7) (C := RX5) (T := TX5) (N := 26) hx hb hts hin5 hown hK hP 0 rfl rfl 7 (by decide) hf13 (fun _ h9 => h9) rfl dX5_one_68 ?_
                refine lv_iload_n hx hb dX5_one_71 rfl (lv_at hl 3 rfl) ?_
                refine lv_iload_n hx hb dX5_one_72 rfl (lv_at hl 2 rfl) ?_
                refine va_iastN (D := D) (cl := vwCl) (cA := cI) (f := P 4) (x := (nI ja)) hx hb hK hP hD hS 2 0 rfl rfl jb (rfl) (by omega) (by first | decide | assumption) dX5_one_73 (fun H locs hP hD hS => ?_)
                have hP : va_P D vwCl [(o5, .inr (5, [.int (nI np), .int (nI nh), .int td, .int (nI nn), .int (nI nb), .int (nI ne), .ref k6, .ref k7, .ref k8, .ref k9, .ref k10, .ref k11, .ref k12, .ref k13, .ref k14, .ref k15, .ref k16, .ref k17, .ref k18, .ref k19, .ref k20, .ref k21, .ref k22, .ref k23, .ref k24, .ref k25])), (k6, .inl (cI, 96, .inl (fl 4 P))), (k7, .inl (cI, 24, .inl (upd (P 4) jb (nI ja)))), (k8, .inl (cZ, 24, .inl (P 5))), (k9, .inl (cI, 5, .inl (G 0))), (k10, .inl (cI, 5, .inl (G 1))), (k11, .inl (cI, 5, .inl (G 2))), (k12, .inl (cI, 5, .inl (G 3))), (k13, .inl (cI, 5, .inl (G 4))), (k14, .inl (cI, 5, .inl (mc))), (k15, .inl (cZ, 5, .inl (G 5))), (k16, .inl (cI, 200, .inl (N 0))), (k17, .inl (cI, 200, .inl (N 1))), (k18, .inl (cI, 200, .inl (N 2))), (k19, .inl (cI, 200, .inl (N 3))), (k20, .inl (cI, 200, .inl (N 4))), (k21, .inl (cI, 20, .inl (B 0))), (k22, .inl (cI, 20, .inl (B 1))), (k23, .inl (cI, 20, .inl (B 2))), (k24, .inl (cI, 20, .inl (B 3))), (k25, .inl (cI, 1200, .inl (fl 6 E)))] H := hP
                have hD : va_D (adr _) [(o5, .inr (5, [.int (nI np), .int (nI nh), .int td, .int (nI nn), .int (nI nb), .int (nI ne), .ref k6, .ref k7, .ref k8, .ref k9, .ref k10, .ref k11, .ref k12, .ref k13, .ref k14, .ref k15, .ref k16, .ref k17, .ref k18, .ref k19, .ref k20, .ref k21, .ref k22, .ref k23, .ref k24, .ref k25])), (k6, .inl (cI, 96, .inl (fl 4 P))), (k7, .inl (cI, 24, .inl (upd (P 4) jb (nI ja)))), (k8, .inl (cZ, 24, .inl (P 5))), (k9, .inl (cI, 5, .inl (G 0))), (k10, .inl (cI, 5, .inl (G 1))), (k11, .inl (cI, 5, .inl (G 2))), (k12, .inl (cI, 5, .inl (G 3))), (k13, .inl (cI, 5, .inl (G 4))), (k14, .inl (cI, 5, .inl (mc))), (k15, .inl (cZ, 5, .inl (G 5))), (k16, .inl (cI, 200, .inl (N 0))), (k17, .inl (cI, 200, .inl (N 1))), (k18, .inl (cI, 200, .inl (N 2))), (k19, .inl (cI, 200, .inl (N 3))), (k20, .inl (cI, 200, .inl (N 4))), (k21, .inl (cI, 20, .inl (B 0))), (k22, .inl (cI, 20, .inl (B 1))), (k23, .inl (cI, 20, .inl (B 2))), (k24, .inl (cI, 20, .inl (B 3))), (k25, .inl (cI, 1200, .inl (fl 6 E)))] := hD
                refine lv_iload_n hx hb dX5_one_74 rfl (lv_at hl 0 rfl) ?_
                refine lv_if_eq (tgt := 83) hx hb dX5_one_75 (by decide) (fun _ => ?_) (fun c9 => absurd c9 (by decide))
                refine lv_iconst (v := 1) hx hb dX5_one_83 (by decide) ?_
                refine mu_zret hx hb hr hlocks hS dX5_one_84 ?_ ?_
                · simp [bI, okJ, ha, hb_, c_18]
                have q0 : (fl 4 (joinT np P (nI ja) (nI jb))) = (fl 4 P) := by rw [joinT, if_pos (by simp [okJ, ha, hb_, c_18]), ub, if_neg (by simp [isSt_up4, sa, sb])]; first | rfl | exact fl_up_out (by omega) (by omega)
                have q1 : ((joinT np P (nI ja) (nI jb)) 4) = (upd (P 4) jb (nI ja)) := by rw [joinT, if_pos (by simp [okJ, ha, hb_, c_18]), ub, if_neg (by simp [isSt_up4, sa, sb])]; first | rfl | exact fl_up_out (by omega) (by omega)
                have q2 : ((joinT np P (nI ja) (nI jb)) 5) = (P 5) := by rw [joinT, if_pos (by simp [okJ, ha, hb_, c_18]), ub, if_neg (by simp [isSt_up4, sa, sb])]; first | rfl | exact fl_up_out (by omega) (by omega)
                rw [q0, q1, q2]
                exact hP
              · skip
                have sb := isSt_1 hnp hjb hs c_58
                refine lv_iconst (v := 1) hx hb dX5_one_61 (by decide) ?_
                refine lv_goto (tgt := 66) hx hb dX5_one_62 (by decide) ?_
                refine lv_istore_n (lv' := [(3, .int 1), (0, .ref o5), (1, .int ((nI ja))), (2, .int ((nI jb)))]) hx hb dX5_one_66 rfl hl (by decide) rfl (fun ls hl => ?_)
                have ub : tput np 6 P (nI jb) 4 (nI ja) = up2 P 4 jb (nI ja) := tput_nI (c := 4) (by omega) (by omega) hjb (by omega)
                refine lv_aload_n hx hb dX5_one_67 rfl (lv_at hl 1 rfl) ?_
                refine va_get (D := D) (ci := 5) (v := .ref k7) (C := RX5) (T := TX5) (N := 26) hx hb hts hin5 hown hK hP 0 rfl rfl 7 (by decide) hf13 (fun _ h9 => h9) rfl dX5_one_68 ?_
                refine lv_iload_n hx hb dX5_one_71 rfl (lv_at hl 3 rfl) ?_
                refine lv_iload_n hx hb dX5_one_72 rfl (lv_at hl 2 rfl) ?_
                refine va_iastN (D := D) (cl := vwCl) (cA := cI) (f := P 4) (x := (nI ja)) hx hb hK hP hD hS 2 0 rfl rfl jb (rfl) (by omega) (by first | decide | assumption) dX5_one_73 (fun H locs hP hD hS => ?_)
                have hP : va_P D vwCl [(o5, .inr (5, [.int (nI np), .int (nI nh), .int td, .int (nI nn), .int (nI nb), .int (nI ne), .ref k6, .ref k7, .ref k8, .ref k9, .ref k10, .ref k11, .ref k12, .ref k13, .ref k14, .ref k15, .ref k16, .ref k17, .ref k18, .ref k19, .ref k20, .ref k21, .ref k22, .ref k23, .ref k24, .ref k25])), (k6, .inl (cI, 96, .inl (fl 4 P))), (k7, .inl (cI, 24, .inl (upd (P 4) jb (nI ja)))), (k8, .inl (cZ, 24, .inl (P 5))), (k9, .inl (cI, 5, .inl (G 0))), (k10, .inl (cI, 5, .inl (G 1))), (k11, .inl (cI, 5, .inl (G 2))), (k12, .inl (cI, 5, .inl (G 3))), (k13, .inl (cI, 5, .inl (G 4))), (k14, .inl (cI, 5, .inl (mc))), (k15, .inl (cZ, 5, .inl (G 5))), (k16, .inl (cI, 200, .inl (N 0))), (k17, .inl (cI, 200, .inl (N 1))), (k18, .inl (cI, 200, .inl (N 2))), (k19, .inl (cI, 200, .inl (N 3))), (k20, .inl (cI, 200, .inl (N 4))), (k21, .inl (cI, 20, .inl (B 0))), (k22, .inl (cI, 20, .inl (B 1))), (k23, .inl (cI, 20, .inl (B 2))), (k24, .inl (cI, 20, .inl (B 3))), (k25, .inl (cI, 1200, .inl (fl 6 E)))] H := hP
                have hD : va_D (adr _) [(o5, .inr (5, [.int (nI np), .int (nI nh), .int td, .int (nI nn), .int (nI nb), .int (nI ne), .ref k6, .ref k7, .ref k8, .ref k9, .ref k10, .ref k11, .ref k12, .ref k13, .ref k14, .ref k15, .ref k16, .ref k17, .ref k18, .ref k19, .ref k20, .ref k21, .ref k22, .ref k23, .ref k24, .ref k25])), (k6, .inl (cI, 96, .inl (fl 4 P))), (k7, .inl (cI, 24, .inl (upd (P 4) jb (nI ja)))), (k8, .inl (cZ, 24, .inl (P 5))), (k9, .inl (cI, 5, .inl (G 0))), (k10, .inl (cI, 5, .inl (G 1))), (k11, .inl (cI, 5, .inl (G 2))), (k12, .inl (cI, 5, .inl (G 3))), (k13, .inl (cI, 5, .inl (G 4))), (k14, .inl (cI, 5, .inl (mc))), (k15, .inl (cZ, 5, .inl (G 5))), (k16, .inl (cI, 200, .inl (N 0))), (k17, .inl (cI, 200, .inl (N 1))), (k18, .inl (cI, 200, .inl (N 2))), (k19, .inl (cI, 200, .inl (N 3))), (k20, .inl (cI, 200, .inl (N 4))), (k21, .inl (cI, 20, .inl (B 0))), (k22, .inl (cI, 20, .inl (B 1))), (k23, .inl (cI, 20, .inl (B 2))), (k24, .inl (cI, 20, .inl (B 3))), (k25, .inl (cI, 1200, .inl (fl 6 E)))] := hD
                refine lv_iload_n hx hb dX5_one_74 rfl (lv_at hl 0 rfl) ?_
                refine lv_if_eq (tgt := 83) hx hb dX5_one_75 (by decide) (fun c9 => absurd c9 (by decide)) (fun _ => ?_)
                obtain ⟨P2, hP2⟩ : ∃ Q, Q = up2 P 4 jb (nI ja) := ⟨_, rfl⟩
                have q0 : (fl 4 P2) = (fl 4 P) := by rw [hP2]; first | rfl | exact fl_up_out (by omega) (by omega)
                have q1 : (P2 4) = (upd (P 4) jb (nI ja)) := by rw [hP2]; first | rfl | exact fl_up_out (by omega) (by omega)
                have q2 : (P2 5) = (P 5) := by rw [hP2]; first | rfl | exact fl_up_out (by omega) (by omega)
                have hP : va_P D vwCl [(o5, .inr (5, [.int (nI np), .int (nI nh), .int td, .int (nI nn), .int (nI nb), .int (nI ne), .ref k6, .ref k7, .ref k8, .ref k9, .ref k10, .ref k11, .ref k12, .ref k13, .ref k14, .ref k15, .ref k16, .ref k17, .ref k18, .ref k19, .ref k20, .ref k21, .ref k22, .ref k23, .ref k24, .ref k25])), (k6, .inl (cI, 96, .inl (fl 4 P2))), (k7, .inl (cI, 24, .inl (P2 4))), (k8, .inl (cZ, 24, .inl (P2 5))), (k9, .inl (cI, 5, .inl (G 0))), (k10, .inl (cI, 5, .inl (G 1))), (k11, .inl (cI, 5, .inl (G 2))), (k12, .inl (cI, 5, .inl (G 3))), (k13, .inl (cI, 5, .inl (G 4))), (k14, .inl (cI, 5, .inl (mc))), (k15, .inl (cZ, 5, .inl (G 5))), (k16, .inl (cI, 200, .inl (N 0))), (k17, .inl (cI, 200, .inl (N 1))), (k18, .inl (cI, 200, .inl (N 2))), (k19, .inl (cI, 200, .inl (N 3))), (k20, .inl (cI, 200, .inl (N 4))), (k21, .inl (cI, 20, .inl (B 0))), (k22, .inl (cI, 20, .inl (B 1))), (k23, .inl (cI, 20, .inl (B 2))), (k24, .inl (cI, 20, .inl (B 3))), (k25, .inl (cI, 1200, .inl (fl 6 E)))] H := by rw [q0, q1, q2]; exact hP
                have hD : va_D (adr [(o5, .inr (5, [.int (nI np), .int (nI nh), .int td, .int (nI nn), .int (nI nb), .int (nI ne), .ref k6, .ref k7, .ref k8, .ref k9, .ref k10, .ref k11, .ref k12, .ref k13, .ref k14, .ref k15, .ref k16, .ref k17, .ref k18, .ref k19, .ref k20, .ref k21, .ref k22, .ref k23, .ref k24, .ref k25])), (k6, .inl (cI, 96, .inl (fl 4 P))), (k7, .inl (cI, 24, .inl (P 4))), (k8, .inl (cZ, 24, .inl (P 5))), (k9, .inl (cI, 5, .inl (G 0))), (k10, .inl (cI, 5, .inl (G 1))), (k11, .inl (cI, 5, .inl (G 2))), (k12, .inl (cI, 5, .inl (G 3))), (k13, .inl (cI, 5, .inl (G 4))), (k14, .inl (cI, 5, .inl (mc))), (k15, .inl (cZ, 5, .inl (G 5))), (k16, .inl (cI, 200, .inl (N 0))), (k17, .inl (cI, 200, .inl (N 1))), (k18, .inl (cI, 200, .inl (N 2))), (k19, .inl (cI, 200, .inl (N 3))), (k20, .inl (cI, 200, .inl (N 4))), (k21, .inl (cI, 20, .inl (B 0))), (k22, .inl (cI, 20, .inl (B 1))), (k23, .inl (cI, 20, .inl (B 2))), (k24, .inl (cI, 20, .inl (B 3))), (k25, .inl (cI, 1200, .inl (fl 6 E)))]) [(o5, .inr (5, [.int (nI np), .int (nI nh), .int td, .int (nI nn), .int (nI nb), .int (nI ne), .ref k6, .ref k7, .ref k8, .ref k9, .ref k10, .ref k11, .ref k12, .ref k13, .ref k14, .ref k15, .ref k16, .ref k17, .ref k18, .ref k19, .ref k20, .ref k21, .ref k22, .ref k23, .ref k24, .ref k25])), (k6, .inl (cI, 96, .inl (fl 4 P2))), (k7, .inl (cI, 24, .inl (P2 4))), (k8, .inl (cZ, 24, .inl (P2 5))), (k9, .inl (cI, 5, .inl (G 0))), (k10, .inl (cI, 5, .inl (G 1))), (k11, .inl (cI, 5, .inl (G 2))), (k12, .inl (cI, 5, .inl (G 3))), (k13, .inl (cI, 5, .inl (G 4))), (k14, .inl (cI, 5, .inl (mc))), (k15, .inl (cZ, 5, .inl (G 5))), (k16, .inl (cI, 200, .inl (N 0))), (k17, .inl (cI, 200, .inl (N 1))), (k18, .inl (cI, 200, .inl (N 2))), (k19, .inl (cI, 200, .inl (N 3))), (k20, .inl (cI, 200, .inl (N 4))), (k21, .inl (cI, 20, .inl (B 0))), (k22, .inl (cI, 20, .inl (B 1))), (k23, .inl (cI, 20, .inl (B 2))), (k24, .inl (cI, 20, .inl (B 3))), (k25, .inl (cI, 1200, .inl (fl 6 E)))] := hD.fst rfl
                refine lv_aload_n hx hb dX5_one_78 rfl (lv_at hl 1 rfl) ?_
                refine lv_iload_n hx hb dX5_one_79 rfl (lv_at hl 2 rfl) ?_
                refine mcVw (As := [.int ((nI ja))]) (rest := []) (ci := 5) (wn := [(o5, .inr (5, [.int (nI np), .int (nI nh), .int td, .int (nI nn), .int (nI nb), .int (nI ne), .ref k6, .ref k7, .ref k8, .ref k9, .ref k10, .ref k11, .ref k12, .ref k13, .ref k14, .ref k15, .ref k16, .ref k17, .ref k18, .ref k19, .ref k20, .ref k21, .ref k22, .ref k23, .ref k24, .ref k25])), (k6, .inl (cI, 96, .inl (fl 4 (strk np P2 ja 24)))), (k7, .inl (cI, 24, .inl ((strk np P2 ja 24) 4))), (k8, .inl (cZ, 24, .inl ((strk np P2 ja 24) 5))), (k9, .inl (cI, 5, .inl (G 0))), (k10, .inl (cI, 5, .inl (G 1))), (k11, .inl (cI, 5, .inl (G 2))), (k12, .inl (cI, 5, .inl (G 3))), (k13, .inl (cI, 5, .inl (G 4))), (k14, .inl (cI, 5, .inl (mc))), (k15, .inl (cZ, 5, .inl (G 5))), (k16, .inl (cI, 200, .inl (N 0))), (k17, .inl (cI, 200, .inl (N 1))), (k18, .inl (cI, 200, .inl (N 2))), (k19, .inl (cI, 200, .inl (N 3))), (k20, .inl (cI, 200, .inl (N 4))), (k21, .inl (cI, 20, .inl (B 0))), (k22, .inl (cI, 20, .inl (B 1))), (k23, .inl (cI, 20, .inl (B 2))), (k24, .inl (cI, 20, .inl (B 3))), (k25, .inl (cI, 1200, .inl (fl 6 E)))]) ⟨hx, hb, hml, hown, hts⟩ (kX5_strikes l D cI cZ o5 k6 k7 k8 k9 k10 k11 k12 k13 k14 k15 k16 k17 k18 k19 k20 k21 k22 k23 k24 k25 np nh nn nb ne td P2 G N B E mc ja (by first | assumption | omega) (by rw [hP2]; exact hw.join hnp hja hjb (fun q => c_18 (by rw [q])) c_28 c_38) (by omega)) (cwV 1 hts gX5_one_X5_strikes rfl rfl rfl (by decide +kernel) ⟨Nat.le_of_ble_eq_true rfl, Nat.le_of_ble_eq_true rfl⟩) hK hP hD hS rfl rfl rfl rfl rfl hl.1 rfl (Nat.le_of_ble_eq_true rfl) ⟨Nat.zero_le _, Nat.zero_le _⟩ dX5_one_80 (fun H locs hP hD hS => ?_)
                refine W.eq (g2 := F0 mm 83 ls []) rfl ?_
                refine lv_iconst (v := 1) hx hb dX5_one_83 (by decide) ?_
                refine mu_zret hx hb hr hlocks hS dX5_one_84 ?_ ?_
                · simp [bI, okJ, ha, hb_, c_18]
                have q0 : (fl 4 (joinT np P (nI ja) (nI jb))) = (fl 4 (strk np P2 ja 24)) := by rw [joinT, if_pos (by simp [okJ, ha, hb_, c_18]), ub, if_pos (by simp [isSt_up4, sb]), nI_clamp (by omega), hP2]
                have q1 : ((joinT np P (nI ja) (nI jb)) 4) = ((strk np P2 ja 24) 4) := by rw [joinT, if_pos (by simp [okJ, ha, hb_, c_18]), ub, if_pos (by simp [isSt_up4, sb]), nI_clamp (by omega), hP2]
                have q2 : ((joinT np P (nI ja) (nI jb)) 5) = ((strk np P2 ja 24) 5) := by rw [joinT, if_pos (by simp [okJ, ha, hb_, c_18]), ub, if_pos (by simp [isSt_up4, sb]), nI_clamp (by omega), hP2]
                rw [q0, q1, q2]
                exact hP
          · skip
            have hb_ := isHd_no hnp hjb c_38
            refine lv_iconst (v := 0) hx hb dX5_one_41 (by decide) ?_
            refine mu_zret hx hb hr hlocks hS dX5_one_42 ?_ ?_
            · simp [bI, okJ, ha, hb_, c_18]
            have q0 : (fl 4 (joinT np P (nI ja) (nI jb))) = (fl 4 P) := by rw [joinT, if_neg (by simp [okJ, ha, hb_, c_18])]
            have q1 : ((joinT np P (nI ja) (nI jb)) 4) = (P 4) := by rw [joinT, if_neg (by simp [okJ, ha, hb_, c_18])]
            have q2 : ((joinT np P (nI ja) (nI jb)) 5) = (P 5) := by rw [joinT, if_neg (by simp [okJ, ha, hb_, c_18])]
            rw [q0, q1, q2]
            exact hP

set_option maxHeartbeats 4000000 in
set_option maxRecDepth 100000 in
theorem kX5_person (l : Launch) (D : va_G) (cI cZ : ClassId) (o5 k6 k7 k8 k9 k10 k11 k12 k13 k14 k15 k16 k17 k18 k19 k20 k21 k22 k23 k24 k25 np nh nn nb ne : Nat) (td : Int32) (P G N B E : Nat → Nat → Int32) (mc : Nat → Int32) (a : Int32) (b : Int32) (c : Int32) (d : Int32) (hnp : np ≤ 24) (hs0 : ∀ p, np ≤ p → P 5 p = 0) : Met l yX5_person wsX5_person ({ frames := 1, cells := 0, slots := 0, locals := 20 } : Room) (MuP D [(cI, .int), (cZ, .boolean)] [.ref o5, .int a, .int b, .int c, .int d] [(o5, .inr (5, [.int (nI np), .int (nI nh), .int td, .int (nI nn), .int (nI nb), .int (nI ne), .ref k6, .ref k7, .ref k8, .ref k9, .ref k10, .ref k11, .ref k12, .ref k13, .ref k14, .ref k15, .ref k16, .ref k17, .ref k18, .ref k19, .ref k20, .ref k21, .ref k22, .ref k23, .ref k24, .ref k25])), (k6, .inl (cI, 96, .inl (fl 4 P))), (k7, .inl (cI, 24, .inl (P 4))), (k8, .inl (cZ, 24, .inl (P 5))), (k9, .inl (cI, 5, .inl (G 0))), (k10, .inl (cI, 5, .inl (G 1))), (k11, .inl (cI, 5, .inl (G 2))), (k12, .inl (cI, 5, .inl (G 3))), (k13, .inl (cI, 5, .inl (G 4))), (k14, .inl (cI, 5, .inl (mc))), (k15, .inl (cZ, 5, .inl (G 5))), (k16, .inl (cI, 200, .inl (N 0))), (k17, .inl (cI, 200, .inl (N 1))), (k18, .inl (cI, 200, .inl (N 2))), (k19, .inl (cI, 200, .inl (N 3))), (k20, .inl (cI, 200, .inl (N 4))), (k21, .inl (cI, 20, .inl (B 0))), (k22, .inl (cI, 20, .inl (B 1))), (k23, .inl (cI, 20, .inl (B 2))), (k24, .inl (cI, 20, .inl (B 3))), (k25, .inl (cI, 1200, .inl (fl 6 E)))]) (QM D (some (.int (if okM a b c d = true then arow 24 np else -1))) [(o5, .inr (5, [.int (nI np), .int (nI nh), .int td, .int (nI nn), .int (nI nb), .int (nI ne), .ref k6, .ref k7, .ref k8, .ref k9, .ref k10, .ref k11, .ref k12, .ref k13, .ref k14, .ref k15, .ref k16, .ref k17, .ref k18, .ref k19, .ref k20, .ref k21, .ref k22, .ref k23, .ref k24, .ref k25])), (k6, .inl (cI, 96, .inl (fl 4 P))), (k7, .inl (cI, 24, .inl (P 4))), (k8, .inl (cZ, 24, .inl (P 5))), (k9, .inl (cI, 5, .inl (G 0))), (k10, .inl (cI, 5, .inl (G 1))), (k11, .inl (cI, 5, .inl (G 2))), (k12, .inl (cI, 5, .inl (G 3))), (k13, .inl (cI, 5, .inl (G 4))), (k14, .inl (cI, 5, .inl (mc))), (k15, .inl (cZ, 5, .inl (G 5))), (k16, .inl (cI, 200, .inl (N 0))), (k17, .inl (cI, 200, .inl (N 1))), (k18, .inl (cI, 200, .inl (N 2))), (k19, .inl (cI, 200, .inl (N 3))), (k20, .inl (cI, 200, .inl (N 4))), (k21, .inl (cI, 20, .inl (B 0))), (k22, .inl (cI, 20, .inl (B 1))), (k23, .inl (cI, 20, .inl (B 2))), (k24, .inl (cI, 20, .inl (B 3))), (k25, .inl (cI, 1200, .inl (fl 6 E)))] [(o5, .inr (5, [.int (nI (if okM a b c d = true then adn 24 np else np)), .int (nI nh), .int td, .int (nI nn), .int (nI nb), .int (nI ne), .ref k6, .ref k7, .ref k8, .ref k9, .ref k10, .ref k11, .ref k12, .ref k13, .ref k14, .ref k15, .ref k16, .ref k17, .ref k18, .ref k19, .ref k20, .ref k21, .ref k22, .ref k23, .ref k24, .ref k25])), (k6, .inl (cI, 96, .inl (fl 4 (if okM a b c d = true then paddT np P a b c d else P)))), (k7, .inl (cI, 24, .inl ((if okM a b c d = true then paddT np P a b c d else P) 4))), (k8, .inl (cZ, 24, .inl ((if okM a b c d = true then paddT np P a b c d else P) 5))), (k9, .inl (cI, 5, .inl (G 0))), (k10, .inl (cI, 5, .inl (G 1))), (k11, .inl (cI, 5, .inl (G 2))), (k12, .inl (cI, 5, .inl (G 3))), (k13, .inl (cI, 5, .inl (G 4))), (k14, .inl (cI, 5, .inl (mc))), (k15, .inl (cZ, 5, .inl (G 5))), (k16, .inl (cI, 200, .inl (N 0))), (k17, .inl (cI, 200, .inl (N 1))), (k18, .inl (cI, 200, .inl (N 2))), (k19, .inl (cI, 200, .inl (N 3))), (k20, .inl (cI, 200, .inl (N 4))), (k21, .inl (cI, 20, .inl (B 0))), (k22, .inl (cI, 20, .inl (B 1))), (k23, .inl (cI, 20, .inl (B 2))), (k24, .inl (cI, 20, .inl (B 3))), (k25, .inl (cI, 1200, .inl (fl 6 E)))]) 0 0 (adr [(o5, .inr (5, [.int (nI np), .int (nI nh), .int td, .int (nI nn), .int (nI nb), .int (nI ne), .ref k6, .ref k7, .ref k8, .ref k9, .ref k10, .ref k11, .ref k12, .ref k13, .ref k14, .ref k15, .ref k16, .ref k17, .ref k18, .ref k19, .ref k20, .ref k21, .ref k22, .ref k23, .ref k24, .ref k25])), (k6, .inl (cI, 96, .inl (fl 4 P))), (k7, .inl (cI, 24, .inl (P 4))), (k8, .inl (cZ, 24, .inl (P 5))), (k9, .inl (cI, 5, .inl (G 0))), (k10, .inl (cI, 5, .inl (G 1))), (k11, .inl (cI, 5, .inl (G 2))), (k12, .inl (cI, 5, .inl (G 3))), (k13, .inl (cI, 5, .inl (G 4))), (k14, .inl (cI, 5, .inl (mc))), (k15, .inl (cZ, 5, .inl (G 5))), (k16, .inl (cI, 200, .inl (N 0))), (k17, .inl (cI, 200, .inl (N 1))), (k18, .inl (cI, 200, .inl (N 2))), (k19, .inl (cI, 200, .inl (N 3))), (k20, .inl (cI, 200, .inl (N 4))), (k21, .inl (cI, 20, .inl (B 0))), (k22, .inl (cI, 20, .inl (B 1))), (k23, .inl (cI, 20, .inl (B 2))), (k24, .inl (cI, 20, .inl (B 3))), (k25, .inl (cI, 1200, .inl (fl 6 E)))]) := by
  refine mu_of (cc := cX5_person) (maxL := 5) (ret := (some .int)) (by decide) rfl (Nat.le_of_ble_eq_true rfl) ?_
  intro pp ee ss mm bw me cd ls hx hb hr hts hown hlocks hml hK hl H locs hP hD hS
  have hl : lv_has ls 5 [(0, .ref o5), (1, .int a), (2, .int b), (3, .int c), (4, .int d)] := hl
  have hf71 := hts (.fieldLink RX5 71 "OtherNamesModel" "people" "I") (by decide +kernel)
  have hin5 := (show ∀ w ∈ wsX50, w ∈ wsX5_person by decide +kernel)
  have hf7 := hts (.fieldLink RX5 7 "OtherNamesModel" "marks" "[I") (by decide +kernel)
  have hf13 := hts (.fieldLink RX5 13 "OtherNamesModel" "within" "[I") (by decide +kernel)
  refine lv_iload_n hx hb dX5_person_0 rfl (lv_at hl 1 rfl) ?_
  refine rcS (As := [.int a]) (rest := []) ⟨hx, hb, hml, hown, hts⟩ (kX5_isMark l D cI cZ a) (va_cwS 1 hts gX5_person_X5_isMark rfl rfl rfl (by decide +kernel) ⟨Nat.le_of_ble_eq_true rfl, Nat.le_of_ble_eq_true rfl⟩) hK hP [] rfl rfl hl.1 rfl (Nat.le_of_ble_eq_true rfl) ⟨Nat.zero_le _, Nat.zero_le _⟩ dX5_person_1 ?_
  refine lb_eq (tgt := 38) hx hb dX5_person_4 (by decide) (fun c_4 => ?_) (fun c_4 => ?_)
  · skip
    refine lv_iconst (v := (-1)) hx hb dX5_person_38 (by decide) ?_
    refine mu_iret hx hb hr hlocks hS dX5_person_39 ?_ ?_
    · rw [if_neg (by simp [okM, c_4])]
    have q0 : (nI (if okM a b c d = true then adn 24 np else np)) = (nI np) := by rw [if_neg (by simp [okM, c_4])]
    have q1 : (fl 4 (if okM a b c d = true then paddT np P a b c d else P)) = (fl 4 P) := by rw [if_neg (by simp [okM, c_4])]
    have q2 : ((if okM a b c d = true then paddT np P a b c d else P) 4) = (P 4) := by rw [if_neg (by simp [okM, c_4])]
    have q3 : ((if okM a b c d = true then paddT np P a b c d else P) 5) = (P 5) := by rw [if_neg (by simp [okM, c_4])]
    rw [q0, q1, q2, q3]
    exact hP
  · skip
    refine lv_iload_n hx hb dX5_person_7 rfl (lv_at hl 2 rfl) ?_
    refine rcS (As := [.int b]) (rest := []) ⟨hx, hb, hml, hown, hts⟩ (kX5_isMark l D cI cZ b) (va_cwS 1 hts gX5_person_X5_isMark rfl rfl rfl (by decide +kernel) ⟨Nat.le_of_ble_eq_true rfl, Nat.le_of_ble_eq_true rfl⟩) hK hP [] rfl rfl hl.1 rfl (Nat.le_of_ble_eq_true rfl) ⟨Nat.zero_le _, Nat.zero_le _⟩ dX5_person_8 ?_
    refine lb_eq (tgt := 38) hx hb dX5_person_11 (by decide) (fun c_11 => ?_) (fun c_11 => ?_)
    · skip
      refine lv_iconst (v := (-1)) hx hb dX5_person_38 (by decide) ?_
      refine mu_iret hx hb hr hlocks hS dX5_person_39 ?_ ?_
      · rw [if_neg (by simp [okM, c_4, c_11])]
      have q0 : (nI (if okM a b c d = true then adn 24 np else np)) = (nI np) := by rw [if_neg (by simp [okM, c_4, c_11])]
      have q1 : (fl 4 (if okM a b c d = true then paddT np P a b c d else P)) = (fl 4 P) := by rw [if_neg (by simp [okM, c_4, c_11])]
      have q2 : ((if okM a b c d = true then paddT np P a b c d else P) 4) = (P 4) := by rw [if_neg (by simp [okM, c_4, c_11])]
      have q3 : ((if okM a b c d = true then paddT np P a b c d else P) 5) = (P 5) := by rw [if_neg (by simp [okM, c_4, c_11])]
      rw [q0, q1, q2, q3]
      exact hP
    · skip
      refine lv_iload_n hx hb dX5_person_14 rfl (lv_at hl 3 rfl) ?_
      refine rcS (As := [.int c]) (rest := []) ⟨hx, hb, hml, hown, hts⟩ (kX5_isMark l D cI cZ c) (va_cwS 1 hts gX5_person_X5_isMark rfl rfl rfl (by decide +kernel) ⟨Nat.le_of_ble_eq_true rfl, Nat.le_of_ble_eq_true rfl⟩) hK hP [] rfl rfl hl.1 rfl (Nat.le_of_ble_eq_true rfl) ⟨Nat.zero_le _, Nat.zero_le _⟩ dX5_person_15 ?_
      refine lb_eq (tgt := 38) hx hb dX5_person_18 (by decide) (fun c_18 => ?_) (fun c_18 => ?_)
      · skip
        refine lv_iconst (v := (-1)) hx hb dX5_person_38 (by decide) ?_
        refine mu_iret hx hb hr hlocks hS dX5_person_39 ?_ ?_
        · rw [if_neg (by simp [okM, c_4, c_11, c_18])]
        have q0 : (nI (if okM a b c d = true then adn 24 np else np)) = (nI np) := by rw [if_neg (by simp [okM, c_4, c_11, c_18])]
        have q1 : (fl 4 (if okM a b c d = true then paddT np P a b c d else P)) = (fl 4 P) := by rw [if_neg (by simp [okM, c_4, c_11, c_18])]
        have q2 : ((if okM a b c d = true then paddT np P a b c d else P) 4) = (P 4) := by rw [if_neg (by simp [okM, c_4, c_11, c_18])]
        have q3 : ((if okM a b c d = true then paddT np P a b c d else P) 5) = (P 5) := by rw [if_neg (by simp [okM, c_4, c_11, c_18])]
        rw [q0, q1, q2, q3]
        exact hP
      · skip
        refine lv_iload hx hb dX5_person_21 (lv_at hl 4 rfl) ?_
        refine rcS (As := [.int d]) (rest := []) ⟨hx, hb, hml, hown, hts⟩ (kX5_isMark l D cI cZ d) (va_cwS 1 hts gX5_person_X5_isMark rfl rfl rfl (by decide +kernel) ⟨Nat.le_of_ble_eq_true rfl, Nat.le_of_ble_eq_true rfl⟩) hK hP [] rfl rfl hl.1 rfl (Nat.le_of_ble_eq_true rfl) ⟨Nat.zero_le _, Nat.zero_le _⟩ dX5_person_23 ?_
        refine lb_eq (tgt := 38) hx hb dX5_person_26 (by decide) (fun c_26 => ?_) (fun c_26 => ?_)
        · skip
          refine lv_iconst (v := (-1)) hx hb dX5_person_38 (by decide) ?_
          refine mu_iret hx hb hr hlocks hS dX5_person_39 ?_ ?_
          · rw [if_neg (by simp [okM, c_4, c_11, c_18, c_26])]
          have q0 : (nI (if okM a b c d = true then adn 24 np else np)) = (nI np) := by rw [if_neg (by simp [okM, c_4, c_11, c_18, c_26])]
          have q1 : (fl 4 (if okM a b c d = true then paddT np P a b c d else P)) = (fl 4 P) := by rw [if_neg (by simp [okM, c_4, c_11, c_18, c_26])]
          have q2 : ((if okM a b c d = true then paddT np P a b c d else P) 4) = (P 4) := by rw [if_neg (by simp [okM, c_4, c_11, c_18, c_26])]
          have q3 : ((if okM a b c d = true then paddT np P a b c d else P) 5) = (P 5) := by rw [if_neg (by simp [okM, c_4, c_11, c_18, c_26])]
          rw [q0, q1, q2, q3]
          exact hP
        · skip
          refine lv_aload_n hx hb dX5_person_29 rfl (lv_at hl 0 rfl) ?_
          refine va_get (D := D) (ci := 5) (v := .int (nI np)) (C := RX5) (T := TX5) (N := 26) hx hb hts hin5 hown hK hP 0 rfl rfl 0 (by decide) hf71 (fun _ h9 => h9) rfl dX5_person_30 ?_
          refine lv_bipush (v := 24) hx hb dX5_person_33 (by decide) ?_
          refine lv_icmp_ne (tgt := 40) hx hb dX5_person_35 (by decide) (fun c_35 => ?_) (fun c_35 => ?_)
          · skip
            have hlt : np < 24 := Nat.lt_of_le_of_ne hnp (nI_neq (N := 24) c_35 rfl)
            refine lv_aload_n hx hb dX5_person_40 rfl (lv_at hl 0 rfl) ?_
            refine va_get (D := D) (ci := 5) (v := .ref k6) (C := RX5) (T := TX5) (N := 26) hx hb hts hin5 hown hK hP 0 rfl rfl 6 (by decide) hf7 (fun _ h9 => h9) rfl dX5_person_41 ?_
            refine lv_iconst (v := 4) hx hb dX5_person_44 (by decide) ?_
            refine lv_aload_n hx hb dX5_person_45 rfl (lv_at hl 0 rfl) ?_
            refine va_get (D := D) (ci := 5) (v := .int (nI np)) (C := RX5) (T := TX5) (N := 26) hx hb hts hin5 hown hK hP 0 rfl rfl 0 (by decide) hf71 (fun _ h9 => h9) rfl dX5_person_46 ?_
            refine lv_imul hx hb dX5_person_49 ?_
            refine lv_iload_n hx hb dX5_person_50 rfl (lv_at hl 1 rfl) ?_
            refine va_iastN (D := D) (cl := vwCl) (cA := cI) (f := fl 4 P) (x := a) hx hb hK hP hD hS 1 0 rfl rfl (np * 4 + 0) (mulI 4 np) (by omega) (by first | decide | assumption) dX5_person_51 (fun H locs hP hD hS => ?_)
            have hP : va_P D vwCl [(o5, .inr (5, [.int (nI np), .int (nI nh), .int td, .int (nI nn), .int (nI nb), .int (nI ne), .ref k6, .ref k7, .ref k8, .ref k9, .ref k10, .ref k11, .ref k12, .ref k13, .ref k14, .ref k15, .ref k16, .ref k17, .ref k18, .ref k19, .ref k20, .ref k21, .ref k22, .ref k23, .ref k24, .ref k25])), (k6, .inl (cI, 96, .inl (upd (fl 4 P) (np * 4 + 0) a))), (k7, .inl (cI, 24, .inl (P 4))), (k8, .inl (cZ, 24, .inl (P 5))), (k9, .inl (cI, 5, .inl (G 0))), (k10, .inl (cI, 5, .inl (G 1))), (k11, .inl (cI, 5, .inl (G 2))), (k12, .inl (cI, 5, .inl (G 3))), (k13, .inl (cI, 5, .inl (G 4))), (k14, .inl (cI, 5, .inl (mc))), (k15, .inl (cZ, 5, .inl (G 5))), (k16, .inl (cI, 200, .inl (N 0))), (k17, .inl (cI, 200, .inl (N 1))), (k18, .inl (cI, 200, .inl (N 2))), (k19, .inl (cI, 200, .inl (N 3))), (k20, .inl (cI, 200, .inl (N 4))), (k21, .inl (cI, 20, .inl (B 0))), (k22, .inl (cI, 20, .inl (B 1))), (k23, .inl (cI, 20, .inl (B 2))), (k24, .inl (cI, 20, .inl (B 3))), (k25, .inl (cI, 1200, .inl (fl 6 E)))] H := hP
            have hD : va_D (adr _) [(o5, .inr (5, [.int (nI np), .int (nI nh), .int td, .int (nI nn), .int (nI nb), .int (nI ne), .ref k6, .ref k7, .ref k8, .ref k9, .ref k10, .ref k11, .ref k12, .ref k13, .ref k14, .ref k15, .ref k16, .ref k17, .ref k18, .ref k19, .ref k20, .ref k21, .ref k22, .ref k23, .ref k24, .ref k25])), (k6, .inl (cI, 96, .inl (upd (fl 4 P) (np * 4 + 0) a))), (k7, .inl (cI, 24, .inl (P 4))), (k8, .inl (cZ, 24, .inl (P 5))), (k9, .inl (cI, 5, .inl (G 0))), (k10, .inl (cI, 5, .inl (G 1))), (k11, .inl (cI, 5, .inl (G 2))), (k12, .inl (cI, 5, .inl (G 3))), (k13, .inl (cI, 5, .inl (G 4))), (k14, .inl (cI, 5, .inl (mc))), (k15, .inl (cZ, 5, .inl (G 5))), (k16, .inl (cI, 200, .inl (N 0))), (k17, .inl (cI, 200, .inl (N 1))), (k18, .inl (cI, 200, .inl (N 2))), (k19, .inl (cI, 200, .inl (N 3))), (k20, .inl (cI, 200, .inl (N 4))), (k21, .inl (cI, 20, .inl (B 0))), (k22, .inl (cI, 20, .inl (B 1))), (k23, .inl (cI, 20, .inl (B 2))), (k24, .inl (cI, 20, .inl (B 3))), (k25, .inl (cI, 1200, .inl (fl 6 E)))] := hD
            refine lv_aload_n hx hb dX5_person_52 rfl (lv_at hl 0 rfl) ?_
            refine va_get (D := D) (ci := 5) (v := .ref k6) (C := RX5) (T := TX5) (N := 26) hx hb hts hin5 hown hK hP 0 rfl rfl 6 (by decide) hf7 (fun _ h9 => h9) rfl dX5_person_53 ?_
            refine lv_iconst (v := 4) hx hb dX5_person_56 (by decide) ?_
            refine lv_aload_n hx hb dX5_person_57 rfl (lv_at hl 0 rfl) ?_
            refine va_get (D := D) (ci := 5) (v := .int (nI np)) (C := RX5) (T := TX5) (N := 26) hx hb hts hin5 hown hK hP 0 rfl rfl 0 (by decide) hf71 (fun _ h9 => h9) rfl dX5_person_58 ?_
            refine lv_imul hx hb dX5_person_61 ?_
            refine lv_iconst (v := 1) hx hb dX5_person_62 (by decide) ?_
            refine lv_iadd hx hb dX5_person_63 ?_
            refine lv_iload_n hx hb dX5_person_64 rfl (lv_at hl 2 rfl) ?_
            refine va_iastN (D := D) (cl := vwCl) (cA := cI) (f := upd (fl 4 P) (np * 4 + 0) a) (x := b) hx hb hK hP hD hS 1 0 rfl rfl (np * 4 + 1) (ixI 4 np 1) (by omega) (by first | decide | assumption) dX5_person_65 (fun H locs hP hD hS => ?_)
            have hP : va_P D vwCl [(o5, .inr (5, [.int (nI np), .int (nI nh), .int td, .int (nI nn), .int (nI nb), .int (nI ne), .ref k6, .ref k7, .ref k8, .ref k9, .ref k10, .ref k11, .ref k12, .ref k13, .ref k14, .ref k15, .ref k16, .ref k17, .ref k18, .ref k19, .ref k20, .ref k21, .ref k22, .ref k23, .ref k24, .ref k25])), (k6, .inl (cI, 96, .inl (upd (upd (fl 4 P) (np * 4 + 0) a) (np * 4 + 1) b))), (k7, .inl (cI, 24, .inl (P 4))), (k8, .inl (cZ, 24, .inl (P 5))), (k9, .inl (cI, 5, .inl (G 0))), (k10, .inl (cI, 5, .inl (G 1))), (k11, .inl (cI, 5, .inl (G 2))), (k12, .inl (cI, 5, .inl (G 3))), (k13, .inl (cI, 5, .inl (G 4))), (k14, .inl (cI, 5, .inl (mc))), (k15, .inl (cZ, 5, .inl (G 5))), (k16, .inl (cI, 200, .inl (N 0))), (k17, .inl (cI, 200, .inl (N 1))), (k18, .inl (cI, 200, .inl (N 2))), (k19, .inl (cI, 200, .inl (N 3))), (k20, .inl (cI, 200, .inl (N 4))), (k21, .inl (cI, 20, .inl (B 0))), (k22, .inl (cI, 20, .inl (B 1))), (k23, .inl (cI, 20, .inl (B 2))), (k24, .inl (cI, 20, .inl (B 3))), (k25, .inl (cI, 1200, .inl (fl 6 E)))] H := hP
            have hD : va_D (adr _) [(o5, .inr (5, [.int (nI np), .int (nI nh), .int td, .int (nI nn), .int (nI nb), .int (nI ne), .ref k6, .ref k7, .ref k8, .ref k9, .ref k10, .ref k11, .ref k12, .ref k13, .ref k14, .ref k15, .ref k16, .ref k17, .ref k18, .ref k19, .ref k20, .ref k21, .ref k22, .ref k23, .ref k24, .ref k25])), (k6, .inl (cI, 96, .inl (upd (upd (fl 4 P) (np * 4 + 0) a) (np * 4 + 1) b))), (k7, .inl (cI, 24, .inl (P 4))), (k8, .inl (cZ, 24, .inl (P 5))), (k9, .inl (cI, 5, .inl (G 0))), (k10, .inl (cI, 5, .inl (G 1))), (k11, .inl (cI, 5, .inl (G 2))), (k12, .inl (cI, 5, .inl (G 3))), (k13, .inl (cI, 5, .inl (G 4))), (k14, .inl (cI, 5, .inl (mc))), (k15, .inl (cZ, 5, .inl (G 5))), (k16, .inl (cI, 200, .inl (N 0))), (k17, .inl (cI, 200, .inl (N 1))), (k18, .inl (cI, 200, .inl (N 2))), (k19, .inl (cI, 200, .inl (N 3))), (k20, .inl (cI, 200, .inl (N 4))), (k21, .inl (cI, 20, .inl (B 0))), (k22, .inl (cI, 20, .inl (B 1))), (k23, .inl (cI, 20, .inl (B 2))), (k24, .inl (cI, 20, .inl (B 3))), (k25, .inl (cI, 1200, .inl (fl 6 E)))] := hD
            refine lv_aload_n hx hb dX5_person_66 rfl (lv_at hl 0 rfl) ?_
            refine va_get (D := D) (ci := 5) (v := .ref k6) (C := RX5) (T := TX5) (N := 26) hx hb hts hin5 hown hK hP 0 rfl rfl 6 (by decide) hf7 (fun _ h9 => h9) rfl dX5_person_67 ?_
            refine lv_iconst (v := 4) hx hb dX5_person_70 (by decide) ?_
            refine lv_aload_n hx hb dX5_person_71 rfl (lv_at hl 0 rfl) ?_
            refine va_get (D := D) (ci := 5) (v := .int (nI np)) (C := RX5) (T := TX5) (N := 26) hx hb hts hin5 hown hK hP 0 rfl rfl 0 (by decide) hf71 (fun _ h9 => h9) rfl dX5_person_72 ?_
            refine lv_imul hx hb dX5_person_75 ?_
            refine lv_iconst (v := 2) hx hb dX5_person_76 (by decide) ?_
            refine lv_iadd hx hb dX5_person_77 ?_
            refine lv_iload_n hx hb dX5_person_78 rfl (lv_at hl 3 rfl) ?_
            refine va_iastN (D := D) (cl := vwCl) (cA := cI) (f := upd (upd (fl 4 P) (np * 4 + 0) a) (np * 4 + 1) b) (x := c) hx hb hK hP hD hS 1 0 rfl rfl (np * 4 + 2) (ixI 4 np 2) (by omega) (by first | decide | assumption) dX5_person_79 (fun H locs hP hD hS => ?_)
            have hP : va_P D vwCl [(o5, .inr (5, [.int (nI np), .int (nI nh), .int td, .int (nI nn), .int (nI nb), .int (nI ne), .ref k6, .ref k7, .ref k8, .ref k9, .ref k10, .ref k11, .ref k12, .ref k13, .ref k14, .ref k15, .ref k16, .ref k17, .ref k18, .ref k19, .ref k20, .ref k21, .ref k22, .ref k23, .ref k24, .ref k25])), (k6, .inl (cI, 96, .inl (upd (upd (upd (fl 4 P) (np * 4 + 0) a) (np * 4 + 1) b) (np * 4 + 2) c))), (k7, .inl (cI, 24, .inl (P 4))), (k8, .inl (cZ, 24, .inl (P 5))), (k9, .inl (cI, 5, .inl (G 0))), (k10, .inl (cI, 5, .inl (G 1))), (k11, .inl (cI, 5, .inl (G 2))), (k12, .inl (cI, 5, .inl (G 3))), (k13, .inl (cI, 5, .inl (G 4))), (k14, .inl (cI, 5, .inl (mc))), (k15, .inl (cZ, 5, .inl (G 5))), (k16, .inl (cI, 200, .inl (N 0))), (k17, .inl (cI, 200, .inl (N 1))), (k18, .inl (cI, 200, .inl (N 2))), (k19, .inl (cI, 200, .inl (N 3))), (k20, .inl (cI, 200, .inl (N 4))), (k21, .inl (cI, 20, .inl (B 0))), (k22, .inl (cI, 20, .inl (B 1))), (k23, .inl (cI, 20, .inl (B 2))), (k24, .inl (cI, 20, .inl (B 3))), (k25, .inl (cI, 1200, .inl (fl 6 E)))] H := hP
            have hD : va_D (adr _) [(o5, .inr (5, [.int (nI np), .int (nI nh), .int td, .int (nI nn), .int (nI nb), .int (nI ne), .ref k6, .ref k7, .ref k8, .ref k9, .ref k10, .ref k11, .ref k12, .ref k13, .ref k14, .ref k15, .ref k16, .ref k17, .ref k18, .ref k19, .ref k20, .ref k21, .ref k22, .ref k23, .ref k24, .ref k25])), (k6, .inl (cI, 96, .inl (upd (upd (upd (fl 4 P) (np * 4 + 0) a) (np * 4 + 1) b) (np * 4 + 2) c))), (k7, .inl (cI, 24, .inl (P 4))), (k8, .inl (cZ, 24, .inl (P 5))), (k9, .inl (cI, 5, .inl (G 0))), (k10, .inl (cI, 5, .inl (G 1))), (k11, .inl (cI, 5, .inl (G 2))), (k12, .inl (cI, 5, .inl (G 3))), (k13, .inl (cI, 5, .inl (G 4))), (k14, .inl (cI, 5, .inl (mc))), (k15, .inl (cZ, 5, .inl (G 5))), (k16, .inl (cI, 200, .inl (N 0))), (k17, .inl (cI, 200, .inl (N 1))), (k18, .inl (cI, 200, .inl (N 2))), (k19, .inl (cI, 200, .inl (N 3))), (k20, .inl (cI, 200, .inl (N 4))), (k21, .inl (cI, 20, .inl (B 0))), (k22, .inl (cI, 20, .inl (B 1))), (k23, .inl (cI, 20, .inl (B 2))), (k24, .inl (cI, 20, .inl (B 3))), (k25, .inl (cI, 1200, .inl (fl 6 E)))] := hD
            refine lv_aload_n hx hb dX5_person_80 rfl (lv_at hl 0 rfl) ?_
            refine va_get (D := D) (ci := 5) (v := .ref k6) (C := RX5) (T := TX5) (N := 26) hx hb hts hin5 hown hK hP 0 rfl rfl 6 (by decide) hf7 (fun _ h9 => h9) rfl dX5_person_81 ?_
            refine lv_iconst (v := 4) hx hb dX5_person_84 (by decide) ?_
            refine lv_aload_n hx hb dX5_person_85 rfl (lv_at hl 0 rfl) ?_
            refine va_get (D := D) (ci := 5) (v := .int (nI np)) (C := RX5) (T := TX5) (N := 26) hx hb hts hin5 hown hK hP 0 rfl rfl 0 (by decide) hf71 (fun _ h9 => h9) rfl dX5_person_86 ?_
            refine lv_imul hx hb dX5_person_89 ?_
            refine lv_iconst (v := 3) hx hb dX5_person_90 (by decide) ?_
            refine lv_iadd hx hb dX5_person_91 ?_
            refine lv_iload hx hb dX5_person_92 (lv_at hl 4 rfl) ?_
            refine va_iastN (D := D) (cl := vwCl) (cA := cI) (f := upd (upd (upd (fl 4 P) (np * 4 + 0) a) (np * 4 + 1) b) (np * 4 + 2) c) (x := d) hx hb hK hP hD hS 1 0 rfl rfl (np * 4 + 3) (ixI 4 np 3) (by omega) (by first | decide | assumption) dX5_person_94 (fun H locs hP hD hS => ?_)
            have hP : va_P D vwCl [(o5, .inr (5, [.int (nI np), .int (nI nh), .int td, .int (nI nn), .int (nI nb), .int (nI ne), .ref k6, .ref k7, .ref k8, .ref k9, .ref k10, .ref k11, .ref k12, .ref k13, .ref k14, .ref k15, .ref k16, .ref k17, .ref k18, .ref k19, .ref k20, .ref k21, .ref k22, .ref k23, .ref k24, .ref k25])), (k6, .inl (cI, 96, .inl (upd (upd (upd (upd (fl 4 P) (np * 4 + 0) a) (np * 4 + 1) b) (np * 4 + 2) c) (np * 4 + 3) d))), (k7, .inl (cI, 24, .inl (P 4))), (k8, .inl (cZ, 24, .inl (P 5))), (k9, .inl (cI, 5, .inl (G 0))), (k10, .inl (cI, 5, .inl (G 1))), (k11, .inl (cI, 5, .inl (G 2))), (k12, .inl (cI, 5, .inl (G 3))), (k13, .inl (cI, 5, .inl (G 4))), (k14, .inl (cI, 5, .inl (mc))), (k15, .inl (cZ, 5, .inl (G 5))), (k16, .inl (cI, 200, .inl (N 0))), (k17, .inl (cI, 200, .inl (N 1))), (k18, .inl (cI, 200, .inl (N 2))), (k19, .inl (cI, 200, .inl (N 3))), (k20, .inl (cI, 200, .inl (N 4))), (k21, .inl (cI, 20, .inl (B 0))), (k22, .inl (cI, 20, .inl (B 1))), (k23, .inl (cI, 20, .inl (B 2))), (k24, .inl (cI, 20, .inl (B 3))), (k25, .inl (cI, 1200, .inl (fl 6 E)))] H := hP
            have hD : va_D (adr _) [(o5, .inr (5, [.int (nI np), .int (nI nh), .int td, .int (nI nn), .int (nI nb), .int (nI ne), .ref k6, .ref k7, .ref k8, .ref k9, .ref k10, .ref k11, .ref k12, .ref k13, .ref k14, .ref k15, .ref k16, .ref k17, .ref k18, .ref k19, .ref k20, .ref k21, .ref k22, .ref k23, .ref k24, .ref k25])), (k6, .inl (cI, 96, .inl (upd (upd (upd (upd (fl 4 P) (np * 4 + 0) a) (np * 4 + 1) b) (np * 4 + 2) c) (np * 4 + 3) d))), (k7, .inl (cI, 24, .inl (P 4))), (k8, .inl (cZ, 24, .inl (P 5))), (k9, .inl (cI, 5, .inl (G 0))), (k10, .inl (cI, 5, .inl (G 1))), (k11, .inl (cI, 5, .inl (G 2))), (k12, .inl (cI, 5, .inl (G 3))), (k13, .inl (cI, 5, .inl (G 4))), (k14, .inl (cI, 5, .inl (mc))), (k15, .inl (cZ, 5, .inl (G 5))), (k16, .inl (cI, 200, .inl (N 0))), (k17, .inl (cI, 200, .inl (N 1))), (k18, .inl (cI, 200, .inl (N 2))), (k19, .inl (cI, 200, .inl (N 3))), (k20, .inl (cI, 200, .inl (N 4))), (k21, .inl (cI, 20, .inl (B 0))), (k22, .inl (cI, 20, .inl (B 1))), (k23, .inl (cI, 20, .inl (B 2))), (k24, .inl (cI, 20, .inl (B 3))), (k25, .inl (cI, 1200, .inl (fl 6 E)))] := hD
            refine lv_aload_n hx hb dX5_person_95 rfl (lv_at hl 0 rfl) ?_
            refine va_get (D := D) (ci := 5) (v := .ref k7) (C := RX5) (T := TX5) (N := 26) hx hb hts hin5 hown hK hP 0 rfl rfl 7 (by decide) hf13 (fun _ h9 => h9) rfl dX5_person_96 ?_
            refine lv_aload_n hx hb dX5_person_99 rfl (lv_at hl 0 rfl) ?_
            refine va_get (D := D) (ci := 5) (v := .int (nI np)) (C := RX5) (T := TX5) (N := 26) hx hb hts hin5 hown hK hP 0 rfl rfl 0 (by decide) hf71 (fun _ h9 => h9) rfl dX5_person_100 ?_
            refine lv_iconst (v := (-1)) hx hb dX5_person_103 (by decide) ?_
            refine va_iastN (D := D) (cl := vwCl) (cA := cI) (f := P 4) (x := (-1)) hx hb hK hP hD hS 2 0 rfl rfl np (rfl) (by omega) (by first | decide | assumption) dX5_person_104 (fun H locs hP hD hS => ?_)
            have hP : va_P D vwCl [(o5, .inr (5, [.int (nI np), .int (nI nh), .int td, .int (nI nn), .int (nI nb), .int (nI ne), .ref k6, .ref k7, .ref k8, .ref k9, .ref k10, .ref k11, .ref k12, .ref k13, .ref k14, .ref k15, .ref k16, .ref k17, .ref k18, .ref k19, .ref k20, .ref k21, .ref k22, .ref k23, .ref k24, .ref k25])), (k6, .inl (cI, 96, .inl (upd (upd (upd (upd (fl 4 P) (np * 4 + 0) a) (np * 4 + 1) b) (np * 4 + 2) c) (np * 4 + 3) d))), (k7, .inl (cI, 24, .inl (upd (P 4) np (-1)))), (k8, .inl (cZ, 24, .inl (P 5))), (k9, .inl (cI, 5, .inl (G 0))), (k10, .inl (cI, 5, .inl (G 1))), (k11, .inl (cI, 5, .inl (G 2))), (k12, .inl (cI, 5, .inl (G 3))), (k13, .inl (cI, 5, .inl (G 4))), (k14, .inl (cI, 5, .inl (mc))), (k15, .inl (cZ, 5, .inl (G 5))), (k16, .inl (cI, 200, .inl (N 0))), (k17, .inl (cI, 200, .inl (N 1))), (k18, .inl (cI, 200, .inl (N 2))), (k19, .inl (cI, 200, .inl (N 3))), (k20, .inl (cI, 200, .inl (N 4))), (k21, .inl (cI, 20, .inl (B 0))), (k22, .inl (cI, 20, .inl (B 1))), (k23, .inl (cI, 20, .inl (B 2))), (k24, .inl (cI, 20, .inl (B 3))), (k25, .inl (cI, 1200, .inl (fl 6 E)))] H := hP
            have hD : va_D (adr _) [(o5, .inr (5, [.int (nI np), .int (nI nh), .int td, .int (nI nn), .int (nI nb), .int (nI ne), .ref k6, .ref k7, .ref k8, .ref k9, .ref k10, .ref k11, .ref k12, .ref k13, .ref k14, .ref k15, .ref k16, .ref k17, .ref k18, .ref k19, .ref k20, .ref k21, .ref k22, .ref k23, .ref k24, .ref k25])), (k6, .inl (cI, 96, .inl (upd (upd (upd (upd (fl 4 P) (np * 4 + 0) a) (np * 4 + 1) b) (np * 4 + 2) c) (np * 4 + 3) d))), (k7, .inl (cI, 24, .inl (upd (P 4) np (-1)))), (k8, .inl (cZ, 24, .inl (P 5))), (k9, .inl (cI, 5, .inl (G 0))), (k10, .inl (cI, 5, .inl (G 1))), (k11, .inl (cI, 5, .inl (G 2))), (k12, .inl (cI, 5, .inl (G 3))), (k13, .inl (cI, 5, .inl (G 4))), (k14, .inl (cI, 5, .inl (mc))), (k15, .inl (cZ, 5, .inl (G 5))), (k16, .inl (cI, 200, .inl (N 0))), (k17, .inl (cI, 200, .inl (N 1))), (k18, .inl (cI, 200, .inl (N 2))), (k19, .inl (cI, 200, .inl (N 3))), (k20, .inl (cI, 200, .inl (N 4))), (k21, .inl (cI, 20, .inl (B 0))), (k22, .inl (cI, 20, .inl (B 1))), (k23, .inl (cI, 20, .inl (B 2))), (k24, .inl (cI, 20, .inl (B 3))), (k25, .inl (cI, 1200, .inl (fl 6 E)))] := hD
            refine lv_aload_n hx hb dX5_person_105 rfl (lv_at hl 0 rfl) ?_
            refine lv_aload_n hx hb dX5_person_106 rfl (lv_at hl 0 rfl) ?_
            refine va_get (D := D) (ci := 5) (v := .int (nI np)) (C := RX5) (T := TX5) (N := 26) hx hb hts hin5 hown hK hP 0 rfl rfl 0 (by decide) hf71 (fun _ h9 => h9) rfl dX5_person_107 ?_
            refine lv_iconst (v := 1) hx hb dX5_person_110 (by decide) ?_
            refine lv_iadd hx hb dX5_person_111 ?_
            refine va_put (D := D) (ci := 5) (v := .int (((nI np) + 1))) (ty := .int) (C := RX5) (T := TX5) (N := 26) hx hb hts hin5 tyX5 tyX5_ok nmX5 hown hK hP hD hS 0 rfl rfl 0 (by decide) hf71 (fun _ h9 => h9) rfl (by decide +kernel) rfl rfl (Nat.le_of_ble_eq_true rfl) dX5_person_112 (fun H locs hP hD hS => ?_)
            have hP : va_P D vwCl [(o5, .inr (5, [.int (((nI np) + 1)), .int (nI nh), .int td, .int (nI nn), .int (nI nb), .int (nI ne), .ref k6, .ref k7, .ref k8, .ref k9, .ref k10, .ref k11, .ref k12, .ref k13, .ref k14, .ref k15, .ref k16, .ref k17, .ref k18, .ref k19, .ref k20, .ref k21, .ref k22, .ref k23, .ref k24, .ref k25])), (k6, .inl (cI, 96, .inl (upd (upd (upd (upd (fl 4 P) (np * 4 + 0) a) (np * 4 + 1) b) (np * 4 + 2) c) (np * 4 + 3) d))), (k7, .inl (cI, 24, .inl (upd (P 4) np (-1)))), (k8, .inl (cZ, 24, .inl (P 5))), (k9, .inl (cI, 5, .inl (G 0))), (k10, .inl (cI, 5, .inl (G 1))), (k11, .inl (cI, 5, .inl (G 2))), (k12, .inl (cI, 5, .inl (G 3))), (k13, .inl (cI, 5, .inl (G 4))), (k14, .inl (cI, 5, .inl (mc))), (k15, .inl (cZ, 5, .inl (G 5))), (k16, .inl (cI, 200, .inl (N 0))), (k17, .inl (cI, 200, .inl (N 1))), (k18, .inl (cI, 200, .inl (N 2))), (k19, .inl (cI, 200, .inl (N 3))), (k20, .inl (cI, 200, .inl (N 4))), (k21, .inl (cI, 20, .inl (B 0))), (k22, .inl (cI, 20, .inl (B 1))), (k23, .inl (cI, 20, .inl (B 2))), (k24, .inl (cI, 20, .inl (B 3))), (k25, .inl (cI, 1200, .inl (fl 6 E)))] H := hP
            have hD : va_D (adr _) [(o5, .inr (5, [.int (((nI np) + 1)), .int (nI nh), .int td, .int (nI nn), .int (nI nb), .int (nI ne), .ref k6, .ref k7, .ref k8, .ref k9, .ref k10, .ref k11, .ref k12, .ref k13, .ref k14, .ref k15, .ref k16, .ref k17, .ref k18, .ref k19, .ref k20, .ref k21, .ref k22, .ref k23, .ref k24, .ref k25])), (k6, .inl (cI, 96, .inl (upd (upd (upd (upd (fl 4 P) (np * 4 + 0) a) (np * 4 + 1) b) (np * 4 + 2) c) (np * 4 + 3) d))), (k7, .inl (cI, 24, .inl (upd (P 4) np (-1)))), (k8, .inl (cZ, 24, .inl (P 5))), (k9, .inl (cI, 5, .inl (G 0))), (k10, .inl (cI, 5, .inl (G 1))), (k11, .inl (cI, 5, .inl (G 2))), (k12, .inl (cI, 5, .inl (G 3))), (k13, .inl (cI, 5, .inl (G 4))), (k14, .inl (cI, 5, .inl (mc))), (k15, .inl (cZ, 5, .inl (G 5))), (k16, .inl (cI, 200, .inl (N 0))), (k17, .inl (cI, 200, .inl (N 1))), (k18, .inl (cI, 200, .inl (N 2))), (k19, .inl (cI, 200, .inl (N 3))), (k20, .inl (cI, 200, .inl (N 4))), (k21, .inl (cI, 20, .inl (B 0))), (k22, .inl (cI, 20, .inl (B 1))), (k23, .inl (cI, 20, .inl (B 2))), (k24, .inl (cI, 20, .inl (B 3))), (k25, .inl (cI, 1200, .inl (fl 6 E)))] := hD
            refine lv_aload_n hx hb dX5_person_115 rfl (lv_at hl 0 rfl) ?_
            refine va_get (D := D) (ci := 5) (v := .int (((nI np) + 1))) (C := RX5) (T := TX5) (N := 26) hx hb hts hin5 hown hK hP 0 rfl rfl 0 (by decide) hf71 (fun _ h9 => h9) rfl dX5_person_116 ?_
            refine lv_iconst (v := 1) hx hb dX5_person_119 (by decide) ?_
            refine lv_isub hx hb dX5_person_120 ?_
            refine mu_iret hx hb hr hlocks hS dX5_person_121 ?_ ?_
            · rw [if_pos (by simp [okM, c_4, c_11, c_18, c_26, c_35]), arow_more hlt, ← nI_succ, nI_pred]
            have q0 : (nI (if okM a b c d = true then adn 24 np else np)) = (((nI np) + 1)) := by rw [if_pos (by simp [okM, c_4, c_11, c_18, c_26, c_35]), adn_more hlt, nI_succ]
            have q1 : (fl 4 (if okM a b c d = true then paddT np P a b c d else P)) = (upd (upd (upd (upd (fl 4 P) (np * 4 + 0) a) (np * 4 + 1) b) (np * 4 + 2) c) (np * 4 + 3) d) := by rw [if_pos (by simp [okM, c_4, c_11, c_18, c_26, c_35]), padd_fl hlt]
            have q2 : ((if okM a b c d = true then paddT np P a b c d else P) 4) = (upd (P 4) np (-1)) := by rw [if_pos (by simp [okM, c_4, c_11, c_18, c_26, c_35]), padd_4 hlt]
            have q3 : ((if okM a b c d = true then paddT np P a b c d else P) 5) = (P 5) := by rw [if_pos (by simp [okM, c_4, c_11, c_18, c_26, c_35]), padd_5 hlt (hs0 np (Nat.le_refl np))]
            rw [q0, q1, q2, q3]
            exact hP
          · skip
            have hlt : np = 24 := nI_inj (b := 24) (by omega) (by omega) c_35
            refine lv_iconst (v := (-1)) hx hb dX5_person_38 (by decide) ?_
            refine mu_iret hx hb hr hlocks hS dX5_person_39 ?_ ?_
            · rw [if_pos (by simp [okM, c_4, c_11, c_18, c_26, c_35]), arow_full hlt]
            have q0 : (nI (if okM a b c d = true then adn 24 np else np)) = (nI np) := by rw [if_pos (by simp [okM, c_4, c_11, c_18, c_26, c_35]), adn_full hlt]
            have q1 : (fl 4 (if okM a b c d = true then paddT np P a b c d else P)) = (fl 4 P) := by rw [if_pos (by simp [okM, c_4, c_11, c_18, c_26, c_35]), padd_full hlt]
            have q2 : ((if okM a b c d = true then paddT np P a b c d else P) 4) = (P 4) := by rw [if_pos (by simp [okM, c_4, c_11, c_18, c_26, c_35]), padd_full hlt]
            have q3 : ((if okM a b c d = true then paddT np P a b c d else P) 5) = (P 5) := by rw [if_pos (by simp [okM, c_4, c_11, c_18, c_26, c_35]), padd_full hlt]
            rw [q0, q1, q2, q3]
            exact hP
set_option maxHeartbeats 4000000 in
set_option maxRecDepth 100000 in
theorem kX5_mark (l : Launch) (D : va_G) (cI cZ : ClassId) (o5 k6 k7 k8 k9 k10 k11 k12 k13 k14 k15 k16 k17 k18 k19 k20 k21 k22 k23 k24 k25 np nh nn nb ne : Nat) (td : Int32) (P G N B E : Nat → Nat → Int32) (mc : Nat → Int32) (p : Int32) (m : Int32) (n : Int32) (hnp : np ≤ 24) : Met l yX5_mark wsX5_mark ({ frames := 1, cells := 0, slots := 0, locals := 22 } : Room) (MuP D [(cI, .int), (cZ, .boolean)] [.ref o5, .int p, .int m, .int n] [(o5, .inr (5, [.int (nI np), .int (nI nh), .int td, .int (nI nn), .int (nI nb), .int (nI ne), .ref k6, .ref k7, .ref k8, .ref k9, .ref k10, .ref k11, .ref k12, .ref k13, .ref k14, .ref k15, .ref k16, .ref k17, .ref k18, .ref k19, .ref k20, .ref k21, .ref k22, .ref k23, .ref k24, .ref k25])), (k6, .inl (cI, 96, .inl (fl 4 P))), (k7, .inl (cI, 24, .inl (P 4))), (k8, .inl (cZ, 24, .inl (P 5))), (k9, .inl (cI, 5, .inl (G 0))), (k10, .inl (cI, 5, .inl (G 1))), (k11, .inl (cI, 5, .inl (G 2))), (k12, .inl (cI, 5, .inl (G 3))), (k13, .inl (cI, 5, .inl (G 4))), (k14, .inl (cI, 5, .inl (mc))), (k15, .inl (cZ, 5, .inl (G 5))), (k16, .inl (cI, 200, .inl (N 0))), (k17, .inl (cI, 200, .inl (N 1))), (k18, .inl (cI, 200, .inl (N 2))), (k19, .inl (cI, 200, .inl (N 3))), (k20, .inl (cI, 200, .inl (N 4))), (k21, .inl (cI, 20, .inl (B 0))), (k22, .inl (cI, 20, .inl (B 1))), (k23, .inl (cI, 20, .inl (B 2))), (k24, .inl (cI, 20, .inl (B 3))), (k25, .inl (cI, 1200, .inl (fl 6 E)))]) (QM D (some (.int (bI (inR np p && inB m 0 3 && inB n 0 7)))) [(o5, .inr (5, [.int (nI np), .int (nI nh), .int td, .int (nI nn), .int (nI nb), .int (nI ne), .ref k6, .ref k7, .ref k8, .ref k9, .ref k10, .ref k11, .ref k12, .ref k13, .ref k14, .ref k15, .ref k16, .ref k17, .ref k18, .ref k19, .ref k20, .ref k21, .ref k22, .ref k23, .ref k24, .ref k25])), (k6, .inl (cI, 96, .inl (fl 4 P))), (k7, .inl (cI, 24, .inl (P 4))), (k8, .inl (cZ, 24, .inl (P 5))), (k9, .inl (cI, 5, .inl (G 0))), (k10, .inl (cI, 5, .inl (G 1))), (k11, .inl (cI, 5, .inl (G 2))), (k12, .inl (cI, 5, .inl (G 3))), (k13, .inl (cI, 5, .inl (G 4))), (k14, .inl (cI, 5, .inl (mc))), (k15, .inl (cZ, 5, .inl (G 5))), (k16, .inl (cI, 200, .inl (N 0))), (k17, .inl (cI, 200, .inl (N 1))), (k18, .inl (cI, 200, .inl (N 2))), (k19, .inl (cI, 200, .inl (N 3))), (k20, .inl (cI, 200, .inl (N 4))), (k21, .inl (cI, 20, .inl (B 0))), (k22, .inl (cI, 20, .inl (B 1))), (k23, .inl (cI, 20, .inl (B 2))), (k24, .inl (cI, 20, .inl (B 3))), (k25, .inl (cI, 1200, .inl (fl 6 E)))] [(o5, .inr (5, [.int (nI np), .int (nI nh), .int td, .int (nI nn), .int (nI nb), .int (nI ne), .ref k6, .ref k7, .ref k8, .ref k9, .ref k10, .ref k11, .ref k12, .ref k13, .ref k14, .ref k15, .ref k16, .ref k17, .ref k18, .ref k19, .ref k20, .ref k21, .ref k22, .ref k23, .ref k24, .ref k25])), (k6, .inl (cI, 96, .inl (fl 4 (if (inR np p && inB m 0 3 && inB n 0 7) = true then tput np 6 P p m n else P)))), (k7, .inl (cI, 24, .inl ((if (inR np p && inB m 0 3 && inB n 0 7) = true then tput np 6 P p m n else P) 4))), (k8, .inl (cZ, 24, .inl ((if (inR np p && inB m 0 3 && inB n 0 7) = true then tput np 6 P p m n else P) 5))), (k9, .inl (cI, 5, .inl (G 0))), (k10, .inl (cI, 5, .inl (G 1))), (k11, .inl (cI, 5, .inl (G 2))), (k12, .inl (cI, 5, .inl (G 3))), (k13, .inl (cI, 5, .inl (G 4))), (k14, .inl (cI, 5, .inl (mc))), (k15, .inl (cZ, 5, .inl (G 5))), (k16, .inl (cI, 200, .inl (N 0))), (k17, .inl (cI, 200, .inl (N 1))), (k18, .inl (cI, 200, .inl (N 2))), (k19, .inl (cI, 200, .inl (N 3))), (k20, .inl (cI, 200, .inl (N 4))), (k21, .inl (cI, 20, .inl (B 0))), (k22, .inl (cI, 20, .inl (B 1))), (k23, .inl (cI, 20, .inl (B 2))), (k24, .inl (cI, 20, .inl (B 3))), (k25, .inl (cI, 1200, .inl (fl 6 E)))]) 0 0 (adr [(o5, .inr (5, [.int (nI np), .int (nI nh), .int td, .int (nI nn), .int (nI nb), .int (nI ne), .ref k6, .ref k7, .ref k8, .ref k9, .ref k10, .ref k11, .ref k12, .ref k13, .ref k14, .ref k15, .ref k16, .ref k17, .ref k18, .ref k19, .ref k20, .ref k21, .ref k22, .ref k23, .ref k24, .ref k25])), (k6, .inl (cI, 96, .inl (fl 4 P))), (k7, .inl (cI, 24, .inl (P 4))), (k8, .inl (cZ, 24, .inl (P 5))), (k9, .inl (cI, 5, .inl (G 0))), (k10, .inl (cI, 5, .inl (G 1))), (k11, .inl (cI, 5, .inl (G 2))), (k12, .inl (cI, 5, .inl (G 3))), (k13, .inl (cI, 5, .inl (G 4))), (k14, .inl (cI, 5, .inl (mc))), (k15, .inl (cZ, 5, .inl (G 5))), (k16, .inl (cI, 200, .inl (N 0))), (k17, .inl (cI, 200, .inl (N 1))), (k18, .inl (cI, 200, .inl (N 2))), (k19, .inl (cI, 200, .inl (N 3))), (k20, .inl (cI, 200, .inl (N 4))), (k21, .inl (cI, 20, .inl (B 0))), (k22, .inl (cI, 20, .inl (B 1))), (k23, .inl (cI, 20, .inl (B 2))), (k24, .inl (cI, 20, .inl (B 3))), (k25, .inl (cI, 1200, .inl (fl 6 E)))]) := by
  refine mu_of (cc := cX5_mark) (maxL := 4) (ret := (some .boolean)) (by decide) rfl (Nat.le_of_ble_eq_true rfl) ?_
  intro pp ee ss mm bw me cd ls hx hb hr hts hown hlocks hml hK hl H locs hP hD hS
  have hl : lv_has ls 4 [(0, .ref o5), (1, .int p), (2, .int m), (3, .int n)] := hl
  have hf7 := hts (.fieldLink RX5 7 "OtherNamesModel" "marks" "[I") (by decide +kernel)
  have hin5 := (show ∀ w ∈ wsX50, w ∈ wsX5_mark by decide +kernel)
  refine lv_aload_n hx hb dX5_mark_0 rfl (lv_at hl 0 rfl) ?_
  refine lv_iload_n hx hb dX5_mark_1 rfl (lv_at hl 1 rfl) ?_
  refine rcVw (As := [.int p]) (rest := []) (ci := 5) ⟨hx, hb, hml, hown, hts⟩ (kX5_isPerson l D cI cZ o5 k6 k7 k8 k9 k10 k11 k12 k13 k14 k15 k16 k17 k18 k19 k20 k21 k22 k23 k24 k25 np nh nn nb ne td P G N B E mc p) (cwV 1 hts gX5_mark_X5_isPerson rfl rfl rfl (by decide +kernel) ⟨Nat.le_of_ble_eq_true rfl, Nat.le_of_ble_eq_true rfl⟩) hK hP rfl rfl rfl rfl hl.1 rfl (Nat.le_of_ble_eq_true rfl) ⟨Nat.zero_le _, Nat.zero_le _⟩ dX5_mark_2 ?_
  refine lb_eq (tgt := 24) hx hb dX5_mark_5 (by decide) (fun c_5 => ?_) (fun c_5 => ?_)
  · skip
    refine lv_iconst (v := 0) hx hb dX5_mark_24 (by decide) ?_
    refine mu_zret hx hb hr hlocks hS dX5_mark_25 ?_ ?_
    · simp [bI, c_5]
    have q0 : (fl 4 (if (inR np p && inB m 0 3 && inB n 0 7) = true then tput np 6 P p m n else P)) = (fl 4 P) := by rw [if_neg (by simp [c_5])]
    have q1 : ((if (inR np p && inB m 0 3 && inB n 0 7) = true then tput np 6 P p m n else P) 4) = (P 4) := by rw [if_neg (by simp [c_5])]
    have q2 : ((if (inR np p && inB m 0 3 && inB n 0 7) = true then tput np 6 P p m n else P) 5) = (P 5) := by rw [if_neg (by simp [c_5])]
    rw [q0, q1, q2]
    exact hP
  · skip
    obtain ⟨j, hj, rfl⟩ := inR_ex c_5 (by omega)
    refine lv_iload_n hx hb dX5_mark_8 rfl (lv_at hl 2 rfl) ?_
    refine lv_iconst (v := 0) hx hb dX5_mark_9 (by decide) ?_
    refine lv_iconst (v := 3) hx hb dX5_mark_10 (by decide) ?_
    refine rcS (As := [.int m, .int 0, .int 3]) (rest := []) ⟨hx, hb, hml, hown, hts⟩ (kX5_in l D cI cZ m 0 3) (va_cwS 3 hts gX5_mark_X5_in rfl rfl rfl (by decide +kernel) ⟨Nat.le_of_ble_eq_true rfl, Nat.le_of_ble_eq_true rfl⟩) hK hP [] rfl rfl hl.1 rfl (Nat.le_of_ble_eq_true rfl) ⟨Nat.zero_le _, Nat.zero_le _⟩ dX5_mark_11 ?_
    refine lb_eq (tgt := 24) hx hb dX5_mark_14 (by decide) (fun c_14 => ?_) (fun c_14 => ?_)
    · skip
      refine lv_iconst (v := 0) hx hb dX5_mark_24 (by decide) ?_
      refine mu_zret hx hb hr hlocks hS dX5_mark_25 ?_ ?_
      · simp [bI, c_5, c_14]
      have q0 : (fl 4 (if (inR np (nI j) && inB m 0 3 && inB n 0 7) = true then tput np 6 P (nI j) m n else P)) = (fl 4 P) := by rw [if_neg (by simp [c_5, c_14])]
      have q1 : ((if (inR np (nI j) && inB m 0 3 && inB n 0 7) = true then tput np 6 P (nI j) m n else P) 4) = (P 4) := by rw [if_neg (by simp [c_5, c_14])]
      have q2 : ((if (inR np (nI j) && inB m 0 3 && inB n 0 7) = true then tput np 6 P (nI j) m n else P) 5) = (P 5) := by rw [if_neg (by simp [c_5, c_14])]
      rw [q0, q1, q2]
      exact hP
    · skip
      obtain ⟨mm_, hm_, rfl⟩ := inB_ex (hi := 3) c_14 rfl (by omega)
      refine lv_iload_n hx hb dX5_mark_17 rfl (lv_at hl 3 rfl) ?_
      refine rcS (As := [.int n]) (rest := []) ⟨hx, hb, hml, hown, hts⟩ (kX5_isMark l D cI cZ n) (va_cwS 1 hts gX5_mark_X5_isMark rfl rfl rfl (by decide +kernel) ⟨Nat.le_of_ble_eq_true rfl, Nat.le_of_ble_eq_true rfl⟩) hK hP [] rfl rfl hl.1 rfl (Nat.le_of_ble_eq_true rfl) ⟨Nat.zero_le _, Nat.zero_le _⟩ dX5_mark_18 ?_
      refine lb_ne (tgt := 26) hx hb dX5_mark_21 (by decide) (fun c_21 => ?_) (fun c_21 => ?_)
      · skip
        refine lv_aload_n hx hb dX5_mark_26 rfl (lv_at hl 0 rfl) ?_
        refine va_get (D := D) (ci := 5) (v := .ref k6) (C := RX5) (T := TX5) (N := 26) hx hb hts hin5 hown hK hP 0 rfl rfl 6 (by decide) hf7 (fun _ h9 => h9) rfl dX5_mark_27 ?_
        refine lv_iconst (v := 4) hx hb dX5_mark_30 (by decide) ?_
        refine lv_iload_n hx hb dX5_mark_31 rfl (lv_at hl 1 rfl) ?_
        refine lv_imul hx hb dX5_mark_32 ?_
        refine lv_iload_n hx hb dX5_mark_33 rfl (lv_at hl 2 rfl) ?_
        refine lv_iadd hx hb dX5_mark_34 ?_
        refine lv_iload_n hx hb dX5_mark_35 rfl (lv_at hl 3 rfl) ?_
        refine va_iastN (D := D) (cl := vwCl) (cA := cI) (f := fl 4 P) (x := n) hx hb hK hP hD hS 1 0 rfl rfl (j * 4 + mm_) (ixI 4 j mm_) (by omega) (by first | decide | assumption) dX5_mark_36 (fun H locs hP hD hS => ?_)
        have hP : va_P D vwCl [(o5, .inr (5, [.int (nI np), .int (nI nh), .int td, .int (nI nn), .int (nI nb), .int (nI ne), .ref k6, .ref k7, .ref k8, .ref k9, .ref k10, .ref k11, .ref k12, .ref k13, .ref k14, .ref k15, .ref k16, .ref k17, .ref k18, .ref k19, .ref k20, .ref k21, .ref k22, .ref k23, .ref k24, .ref k25])), (k6, .inl (cI, 96, .inl (upd (fl 4 P) (j * 4 + mm_) n))), (k7, .inl (cI, 24, .inl (P 4))), (k8, .inl (cZ, 24, .inl (P 5))), (k9, .inl (cI, 5, .inl (G 0))), (k10, .inl (cI, 5, .inl (G 1))), (k11, .inl (cI, 5, .inl (G 2))), (k12, .inl (cI, 5, .inl (G 3))), (k13, .inl (cI, 5, .inl (G 4))), (k14, .inl (cI, 5, .inl (mc))), (k15, .inl (cZ, 5, .inl (G 5))), (k16, .inl (cI, 200, .inl (N 0))), (k17, .inl (cI, 200, .inl (N 1))), (k18, .inl (cI, 200, .inl (N 2))), (k19, .inl (cI, 200, .inl (N 3))), (k20, .inl (cI, 200, .inl (N 4))), (k21, .inl (cI, 20, .inl (B 0))), (k22, .inl (cI, 20, .inl (B 1))), (k23, .inl (cI, 20, .inl (B 2))), (k24, .inl (cI, 20, .inl (B 3))), (k25, .inl (cI, 1200, .inl (fl 6 E)))] H := hP
        have hD : va_D (adr _) [(o5, .inr (5, [.int (nI np), .int (nI nh), .int td, .int (nI nn), .int (nI nb), .int (nI ne), .ref k6, .ref k7, .ref k8, .ref k9, .ref k10, .ref k11, .ref k12, .ref k13, .ref k14, .ref k15, .ref k16, .ref k17, .ref k18, .ref k19, .ref k20, .ref k21, .ref k22, .ref k23, .ref k24, .ref k25])), (k6, .inl (cI, 96, .inl (upd (fl 4 P) (j * 4 + mm_) n))), (k7, .inl (cI, 24, .inl (P 4))), (k8, .inl (cZ, 24, .inl (P 5))), (k9, .inl (cI, 5, .inl (G 0))), (k10, .inl (cI, 5, .inl (G 1))), (k11, .inl (cI, 5, .inl (G 2))), (k12, .inl (cI, 5, .inl (G 3))), (k13, .inl (cI, 5, .inl (G 4))), (k14, .inl (cI, 5, .inl (mc))), (k15, .inl (cZ, 5, .inl (G 5))), (k16, .inl (cI, 200, .inl (N 0))), (k17, .inl (cI, 200, .inl (N 1))), (k18, .inl (cI, 200, .inl (N 2))), (k19, .inl (cI, 200, .inl (N 3))), (k20, .inl (cI, 200, .inl (N 4))), (k21, .inl (cI, 20, .inl (B 0))), (k22, .inl (cI, 20, .inl (B 1))), (k23, .inl (cI, 20, .inl (B 2))), (k24, .inl (cI, 20, .inl (B 3))), (k25, .inl (cI, 1200, .inl (fl 6 E)))] := hD
        refine lv_iconst (v := 1) hx hb dX5_mark_37 (by decide) ?_
        refine mu_zret hx hb hr hlocks hS dX5_mark_38 ?_ ?_
        · simp [bI, c_5, c_14, c_21]
        have q0 : (fl 4 (if (inR np (nI j) && inB (nI mm_) 0 3 && inB n 0 7) = true then tput np 6 P (nI j) (nI mm_) n else P)) = (upd (fl 4 P) (j * 4 + mm_) n) := by rw [if_pos (by simp [c_5, c_14, c_21]), show tput np 6 P (nI j) (nI mm_) n = up2 P mm_ j n from tput_nI (by omega) (by omega) hj (by omega)]; first | exact fl_up (by omega) | exact if_neg (by omega)
        have q1 : ((if (inR np (nI j) && inB (nI mm_) 0 3 && inB n 0 7) = true then tput np 6 P (nI j) (nI mm_) n else P) 4) = (P 4) := by rw [if_pos (by simp [c_5, c_14, c_21]), show tput np 6 P (nI j) (nI mm_) n = up2 P mm_ j n from tput_nI (by omega) (by omega) hj (by omega)]; first | exact fl_up (by omega) | exact if_neg (by omega)
        have q2 : ((if (inR np (nI j) && inB (nI mm_) 0 3 && inB n 0 7) = true then tput np 6 P (nI j) (nI mm_) n else P) 5) = (P 5) := by rw [if_pos (by simp [c_5, c_14, c_21]), show tput np 6 P (nI j) (nI mm_) n = up2 P mm_ j n from tput_nI (by omega) (by omega) hj (by omega)]; first | exact fl_up (by omega) | exact if_neg (by omega)
        rw [q0, q1, q2]
        exact hP
      · skip
        refine lv_iconst (v := 0) hx hb dX5_mark_24 (by decide) ?_
        refine mu_zret hx hb hr hlocks hS dX5_mark_25 ?_ ?_
        · simp [bI, c_5, c_14, c_21]
        have q0 : (fl 4 (if (inR np (nI j) && inB (nI mm_) 0 3 && inB n 0 7) = true then tput np 6 P (nI j) (nI mm_) n else P)) = (fl 4 P) := by rw [if_neg (by simp [c_5, c_14, c_21])]
        have q1 : ((if (inR np (nI j) && inB (nI mm_) 0 3 && inB n 0 7) = true then tput np 6 P (nI j) (nI mm_) n else P) 4) = (P 4) := by rw [if_neg (by simp [c_5, c_14, c_21])]
        have q2 : ((if (inR np (nI j) && inB (nI mm_) 0 3 && inB n 0 7) = true then tput np 6 P (nI j) (nI mm_) n else P) 5) = (P 5) := by rw [if_neg (by simp [c_5, c_14, c_21])]
        rw [q0, q1, q2]
        exact hP

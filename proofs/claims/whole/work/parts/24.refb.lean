set_option maxHeartbeats 4000000 in
set_option maxRecDepth 100000 in
theorem kX5_name (l : Launch) (D : va_G) (cI cZ : ClassId) (o5 k6 k7 k8 k9 k10 k11 k12 k13 k14 k15 k16 k17 k18 k19 k20 k21 k22 k23 k24 k25 np nh nn nb ne : Nat) (td : Int32) (P G N B E : Nat → Nat → Int32) (mc : Nat → Int32) (h : Int32) (p : Int32) (hnp : np ≤ 24) (hnh : nh ≤ 5) (hnn : nn ≤ 200) (hw : HP np (P 4)) (ho : HO nn np N) (hs : ∀ p, P 5 p = 0 ∨ P 5 p = 1) (hg : ∀ h, h < nh → GH G h) (hmc : ∀ h, h < 5 → mc h = nI (ct (fun i => decide (N 0 i = nI h)) nn)) (hon : ∀ i h, i < nn → h < nh → N 0 i = nI h → G 0 h = 2 → N 4 i = nI (ct (fun j => decide (N 0 j = nI h)) (i + 1))) : Met l yX5_name wsX5_name ({ frames := 3, cells := 0, slots := 0, locals := 70 } : Room) (MuP D [(cI, .int), (cZ, .boolean)] [.ref o5, .int h, .int p] [(o5, .inr (5, [.int (nI np), .int (nI nh), .int td, .int (nI nn), .int (nI nb), .int (nI ne), .ref k6, .ref k7, .ref k8, .ref k9, .ref k10, .ref k11, .ref k12, .ref k13, .ref k14, .ref k15, .ref k16, .ref k17, .ref k18, .ref k19, .ref k20, .ref k21, .ref k22, .ref k23, .ref k24, .ref k25])), (k6, .inl (cI, 96, .inl (fl 4 P))), (k7, .inl (cI, 24, .inl (P 4))), (k8, .inl (cZ, 24, .inl (P 5))), (k9, .inl (cI, 5, .inl (G 0))), (k10, .inl (cI, 5, .inl (G 1))), (k11, .inl (cI, 5, .inl (G 2))), (k12, .inl (cI, 5, .inl (G 3))), (k13, .inl (cI, 5, .inl (G 4))), (k14, .inl (cI, 5, .inl (mc))), (k15, .inl (cZ, 5, .inl (G 5))), (k16, .inl (cI, 200, .inl (N 0))), (k17, .inl (cI, 200, .inl (N 1))), (k18, .inl (cI, 200, .inl (N 2))), (k19, .inl (cI, 200, .inl (N 3))), (k20, .inl (cI, 200, .inl (N 4))), (k21, .inl (cI, 20, .inl (B 0))), (k22, .inl (cI, 20, .inl (B 1))), (k23, .inl (cI, 20, .inl (B 2))), (k24, .inl (cI, 20, .inl (B 3))), (k25, .inl (cI, 1200, .inl (fl 6 E)))]) (QM D (some (.int (if (inR nh h && inR np p && !isSt np P p) = true then nmR nh nn P G N td h p.toNatClampNeg else -1))) [(o5, .inr (5, [.int (nI np), .int (nI nh), .int td, .int (nI nn), .int (nI nb), .int (nI ne), .ref k6, .ref k7, .ref k8, .ref k9, .ref k10, .ref k11, .ref k12, .ref k13, .ref k14, .ref k15, .ref k16, .ref k17, .ref k18, .ref k19, .ref k20, .ref k21, .ref k22, .ref k23, .ref k24, .ref k25])), (k6, .inl (cI, 96, .inl (fl 4 P))), (k7, .inl (cI, 24, .inl (P 4))), (k8, .inl (cZ, 24, .inl (P 5))), (k9, .inl (cI, 5, .inl (G 0))), (k10, .inl (cI, 5, .inl (G 1))), (k11, .inl (cI, 5, .inl (G 2))), (k12, .inl (cI, 5, .inl (G 3))), (k13, .inl (cI, 5, .inl (G 4))), (k14, .inl (cI, 5, .inl (mc))), (k15, .inl (cZ, 5, .inl (G 5))), (k16, .inl (cI, 200, .inl (N 0))), (k17, .inl (cI, 200, .inl (N 1))), (k18, .inl (cI, 200, .inl (N 2))), (k19, .inl (cI, 200, .inl (N 3))), (k20, .inl (cI, 200, .inl (N 4))), (k21, .inl (cI, 20, .inl (B 0))), (k22, .inl (cI, 20, .inl (B 1))), (k23, .inl (cI, 20, .inl (B 2))), (k24, .inl (cI, 20, .inl (B 3))), (k25, .inl (cI, 1200, .inl (fl 6 E)))] [(o5, .inr (5, [.int (nI np), .int (nI nh), .int td, .int (nI (if (inR nh h && inR np p && !isSt np P p) = true then nmNn nh nn P G N td h p.toNatClampNeg else nn)), .int (nI nb), .int (nI ne), .ref k6, .ref k7, .ref k8, .ref k9, .ref k10, .ref k11, .ref k12, .ref k13, .ref k14, .ref k15, .ref k16, .ref k17, .ref k18, .ref k19, .ref k20, .ref k21, .ref k22, .ref k23, .ref k24, .ref k25])), (k6, .inl (cI, 96, .inl (fl 4 P))), (k7, .inl (cI, 24, .inl (P 4))), (k8, .inl (cZ, 24, .inl (P 5))), (k9, .inl (cI, 5, .inl (G 0))), (k10, .inl (cI, 5, .inl (G 1))), (k11, .inl (cI, 5, .inl (G 2))), (k12, .inl (cI, 5, .inl (G 3))), (k13, .inl (cI, 5, .inl (G 4))), (k14, .inl (cI, 5, .inl ((if (inR nh h && inR np p && !isSt np P p) = true then nmMc nh nn P G N td mc h.toNatClampNeg p.toNatClampNeg else mc)))), (k15, .inl (cZ, 5, .inl (G 5))), (k16, .inl (cI, 200, .inl ((if (inR nh h && inR np p && !isSt np P p) = true then nmT nh nn P G N td h p.toNatClampNeg else N) 0))), (k17, .inl (cI, 200, .inl ((if (inR nh h && inR np p && !isSt np P p) = true then nmT nh nn P G N td h p.toNatClampNeg else N) 1))), (k18, .inl (cI, 200, .inl ((if (inR nh h && inR np p && !isSt np P p) = true then nmT nh nn P G N td h p.toNatClampNeg else N) 2))), (k19, .inl (cI, 200, .inl ((if (inR nh h && inR np p && !isSt np P p) = true then nmT nh nn P G N td h p.toNatClampNeg else N) 3))), (k20, .inl (cI, 200, .inl ((if (inR nh h && inR np p && !isSt np P p) = true then nmT nh nn P G N td h p.toNatClampNeg else N) 4))), (k21, .inl (cI, 20, .inl (B 0))), (k22, .inl (cI, 20, .inl (B 1))), (k23, .inl (cI, 20, .inl (B 2))), (k24, .inl (cI, 20, .inl (B 3))), (k25, .inl (cI, 1200, .inl (fl 6 E)))]) 0 0 (adr [(o5, .inr (5, [.int (nI np), .int (nI nh), .int td, .int (nI nn), .int (nI nb), .int (nI ne), .ref k6, .ref k7, .ref k8, .ref k9, .ref k10, .ref k11, .ref k12, .ref k13, .ref k14, .ref k15, .ref k16, .ref k17, .ref k18, .ref k19, .ref k20, .ref k21, .ref k22, .ref k23, .ref k24, .ref k25])), (k6, .inl (cI, 96, .inl (fl 4 P))), (k7, .inl (cI, 24, .inl (P 4))), (k8, .inl (cZ, 24, .inl (P 5))), (k9, .inl (cI, 5, .inl (G 0))), (k10, .inl (cI, 5, .inl (G 1))), (k11, .inl (cI, 5, .inl (G 2))), (k12, .inl (cI, 5, .inl (G 3))), (k13, .inl (cI, 5, .inl (G 4))), (k14, .inl (cI, 5, .inl (mc))), (k15, .inl (cZ, 5, .inl (G 5))), (k16, .inl (cI, 200, .inl (N 0))), (k17, .inl (cI, 200, .inl (N 1))), (k18, .inl (cI, 200, .inl (N 2))), (k19, .inl (cI, 200, .inl (N 3))), (k20, .inl (cI, 200, .inl (N 4))), (k21, .inl (cI, 20, .inl (B 0))), (k22, .inl (cI, 20, .inl (B 1))), (k23, .inl (cI, 20, .inl (B 2))), (k24, .inl (cI, 20, .inl (B 3))), (k25, .inl (cI, 1200, .inl (fl 6 E)))]) := by
  refine mu_of (cc := cX5_name) (maxL := 4) (ret := (some .int)) (by decide) rfl (Nat.le_of_ble_eq_true rfl) ?_
  intro pp ee ss mm bw me cd ls hx hb hr hts hown hlocks hml hK hl H locs hP hD hS
  have hl : lv_has ls 4 [(0, .ref o5), (1, .int h), (2, .int p)] := hl
  have hf16 := hts (.fieldLink RX5 16 "OtherNamesModel" "isStruck" "[Z") (by decide +kernel)
  have hin5 := (show ∀ w ∈ wsX50, w ∈ wsX5_name by decide +kernel)
  have hf44 := hts (.fieldLink RX5 44 "OtherNamesModel" "nameOf" "[I") (by decide +kernel)
  refine lv_aload_n hx hb dX5_name_0 rfl (lv_at hl 0 rfl) ?_
  refine lv_iload_n hx hb dX5_name_1 rfl (lv_at hl 1 rfl) ?_
  refine rcVw (As := [.int h]) (rest := []) (ci := 5) ⟨hx, hb, hml, hown, hts⟩ (kX5_isHouse l D cI cZ o5 k6 k7 k8 k9 k10 k11 k12 k13 k14 k15 k16 k17 k18 k19 k20 k21 k22 k23 k24 k25 np nh nn nb ne td P G N B E mc h) (cwV 1 hts gX5_name_X5_isHouse rfl rfl rfl (by decide +kernel) ⟨Nat.le_of_ble_eq_true rfl, Nat.le_of_ble_eq_true rfl⟩) hK hP rfl rfl rfl rfl hl.1 rfl (Nat.le_of_ble_eq_true rfl) ⟨Nat.zero_le _, Nat.zero_le _⟩ dX5_name_2 ?_
  refine lb_eq (tgt := 25) hx hb dX5_name_5 (by decide) (fun c_5 => ?_) (fun c_5 => ?_)
  · skip
    refine lv_iconst (v := (-1)) hx hb dX5_name_25 (by decide) ?_
    refine mu_iret hx hb hr hlocks hS dX5_name_26 ?_ ?_
    · rw [if_neg (by simp [c_5])]
    have q0 : (nI (if (inR nh h && inR np p && !isSt np P p) = true then nmNn nh nn P G N td h p.toNatClampNeg else nn)) = (nI nn) := by rw [if_neg (by simp [c_5])]
    have q1 : ((if (inR nh h && inR np p && !isSt np P p) = true then nmMc nh nn P G N td mc h.toNatClampNeg p.toNatClampNeg else mc)) = (mc) := by rw [if_neg (by simp [c_5])]
    have q2 : ((if (inR nh h && inR np p && !isSt np P p) = true then nmT nh nn P G N td h p.toNatClampNeg else N) 0) = (N 0) := by rw [if_neg (by simp [c_5])]
    have q3 : ((if (inR nh h && inR np p && !isSt np P p) = true then nmT nh nn P G N td h p.toNatClampNeg else N) 1) = (N 1) := by rw [if_neg (by simp [c_5])]
    have q4 : ((if (inR nh h && inR np p && !isSt np P p) = true then nmT nh nn P G N td h p.toNatClampNeg else N) 2) = (N 2) := by rw [if_neg (by simp [c_5])]
    have q5 : ((if (inR nh h && inR np p && !isSt np P p) = true then nmT nh nn P G N td h p.toNatClampNeg else N) 3) = (N 3) := by rw [if_neg (by simp [c_5])]
    have q6 : ((if (inR nh h && inR np p && !isSt np P p) = true then nmT nh nn P G N td h p.toNatClampNeg else N) 4) = (N 4) := by rw [if_neg (by simp [c_5])]
    rw [q0, q1, q2, q3, q4, q5, q6]
    exact hP
  · skip
    obtain ⟨a_, ha_, rfl⟩ := inR_ex c_5 (by omega)
    refine lv_aload_n hx hb dX5_name_8 rfl (lv_at hl 0 rfl) ?_
    refine lv_iload_n hx hb dX5_name_9 rfl (lv_at hl 2 rfl) ?_
    refine rcVw (As := [.int p]) (rest := []) (ci := 5) ⟨hx, hb, hml, hown, hts⟩ (kX5_isPerson l D cI cZ o5 k6 k7 k8 k9 k10 k11 k12 k13 k14 k15 k16 k17 k18 k19 k20 k21 k22 k23 k24 k25 np nh nn nb ne td P G N B E mc p) (cwV 1 hts gX5_name_X5_isPerson rfl rfl rfl (by decide +kernel) ⟨Nat.le_of_ble_eq_true rfl, Nat.le_of_ble_eq_true rfl⟩) hK hP rfl rfl rfl rfl hl.1 rfl (Nat.le_of_ble_eq_true rfl) ⟨Nat.zero_le _, Nat.zero_le _⟩ dX5_name_10 ?_
    refine lb_eq (tgt := 25) hx hb dX5_name_13 (by decide) (fun c_13 => ?_) (fun c_13 => ?_)
    · skip
      refine lv_iconst (v := (-1)) hx hb dX5_name_25 (by decide) ?_
      refine mu_iret hx hb hr hlocks hS dX5_name_26 ?_ ?_
      · rw [if_neg (by simp [c_13])]
      have q0 : (nI (if (inR nh (nI a_) && inR np p && !isSt np P p) = true then nmNn nh nn P G N td (nI a_) p.toNatClampNeg else nn)) = (nI nn) := by rw [if_neg (by simp [c_13])]
      have q1 : ((if (inR nh (nI a_) && inR np p && !isSt np P p) = true then nmMc nh nn P G N td mc (nI a_).toNatClampNeg p.toNatClampNeg else mc)) = (mc) := by rw [if_neg (by simp [c_13])]
      have q2 : ((if (inR nh (nI a_) && inR np p && !isSt np P p) = true then nmT nh nn P G N td (nI a_) p.toNatClampNeg else N) 0) = (N 0) := by rw [if_neg (by simp [c_13])]
      have q3 : ((if (inR nh (nI a_) && inR np p && !isSt np P p) = true then nmT nh nn P G N td (nI a_) p.toNatClampNeg else N) 1) = (N 1) := by rw [if_neg (by simp [c_13])]
      have q4 : ((if (inR nh (nI a_) && inR np p && !isSt np P p) = true then nmT nh nn P G N td (nI a_) p.toNatClampNeg else N) 2) = (N 2) := by rw [if_neg (by simp [c_13])]
      have q5 : ((if (inR nh (nI a_) && inR np p && !isSt np P p) = true then nmT nh nn P G N td (nI a_) p.toNatClampNeg else N) 3) = (N 3) := by rw [if_neg (by simp [c_13])]
      have q6 : ((if (inR nh (nI a_) && inR np p && !isSt np P p) = true then nmT nh nn P G N td (nI a_) p.toNatClampNeg else N) 4) = (N 4) := by rw [if_neg (by simp [c_13])]
      rw [q0, q1, q2, q3, q4, q5, q6]
      exact hP
    · skip
      obtain ⟨j, hj, rfl⟩ := inR_ex c_13 (by omega)
      refine lv_aload_n hx hb dX5_name_16 rfl (lv_at hl 0 rfl) ?_
      refine va_get (D := D) (ci := 5) (v := .ref k8) (C := RX5) (T := TX5) (N := 26) hx hb hts hin5 hown hK hP 0 rfl rfl 8 (by decide) hf16 (fun _ h9 => h9) rfl dX5_name_17 ?_
      refine lv_iload_n hx hb dX5_name_20 rfl (lv_at hl 2 rfl) ?_
      refine va_zaldN (D := D) (cl := vwCl) (cA := cZ) (f := P 5) hx hb hK hP 3 1 rfl rfl j (rfl) (by omega) (by first | decide | assumption) dX5_name_21 ?_
      refine lv_if_eq (tgt := 27) hx hb dX5_name_22 (by decide) (fun c_22 => ?_) (fun c_22 => ?_)
      · skip
        have hst := isSt_0 hnp hj c_22
        refine lv_aload_n hx hb dX5_name_27 rfl (lv_at hl 0 rfl) ?_
        refine lv_iload_n hx hb dX5_name_28 rfl (lv_at hl 1 rfl) ?_
        refine lv_iload_n hx hb dX5_name_29 rfl (lv_at hl 2 rfl) ?_
        refine mcVw (As := [.int ((nI a_)), .int ((nI j))]) (rest := []) (ci := 5) (wn := [(o5, .inr (5, [.int (nI np), .int (nI nh), .int td, .int (nI (nmNn nh nn P G N td (nI a_) j)), .int (nI nb), .int (nI ne), .ref k6, .ref k7, .ref k8, .ref k9, .ref k10, .ref k11, .ref k12, .ref k13, .ref k14, .ref k15, .ref k16, .ref k17, .ref k18, .ref k19, .ref k20, .ref k21, .ref k22, .ref k23, .ref k24, .ref k25])), (k6, .inl (cI, 96, .inl (fl 4 P))), (k7, .inl (cI, 24, .inl (P 4))), (k8, .inl (cZ, 24, .inl (P 5))), (k9, .inl (cI, 5, .inl (G 0))), (k10, .inl (cI, 5, .inl (G 1))), (k11, .inl (cI, 5, .inl (G 2))), (k12, .inl (cI, 5, .inl (G 3))), (k13, .inl (cI, 5, .inl (G 4))), (k14, .inl (cI, 5, .inl ((nmMc nh nn P G N td mc a_ j)))), (k15, .inl (cZ, 5, .inl (G 5))), (k16, .inl (cI, 200, .inl ((nmT nh nn P G N td (nI a_) j) 0))), (k17, .inl (cI, 200, .inl ((nmT nh nn P G N td (nI a_) j) 1))), (k18, .inl (cI, 200, .inl ((nmT nh nn P G N td (nI a_) j) 2))), (k19, .inl (cI, 200, .inl ((nmT nh nn P G N td (nI a_) j) 3))), (k20, .inl (cI, 200, .inl ((nmT nh nn P G N td (nI a_) j) 4))), (k21, .inl (cI, 20, .inl (B 0))), (k22, .inl (cI, 20, .inl (B 1))), (k23, .inl (cI, 20, .inl (B 2))), (k24, .inl (cI, 20, .inl (B 3))), (k25, .inl (cI, 1200, .inl (fl 6 E)))]) ⟨hx, hb, hml, hown, hts⟩ (kX5_namesOf l D cI cZ o5 k6 k7 k8 k9 k10 k11 k12 k13 k14 k15 k16 k17 k18 k19 k20 k21 k22 k23 k24 k25 np nh nn nb ne td P G N B E mc a_ j (by first | assumption | omega) (by first | assumption | omega) (by first | assumption | omega) (by first | assumption | omega) (by first | assumption | omega) (by first | assumption | omega) (by first | assumption | omega) (by first | assumption | omega) (ha_) (hj)) (cwV 2 hts gX5_name_X5_namesOf rfl rfl rfl (by decide +kernel) ⟨Nat.le_of_ble_eq_true rfl, Nat.le_of_ble_eq_true rfl⟩) hK hP hD hS rfl rfl rfl rfl rfl hl.1 rfl (Nat.le_of_ble_eq_true rfl) ⟨Nat.zero_le _, Nat.zero_le _⟩ dX5_name_30 (fun H locs hP hD hS => ?_)
        refine W.eq (g2 := F0 mm 33 ls (.int (nmI nh nn P G N td (nI a_) j) :: [])) rfl ?_
        refine lv_istore_n (lv' := [(3, .int (nmI nh nn P G N td (nI a_) j)), (0, .ref o5), (1, .int ((nI a_))), (2, .int ((nI j)))]) hx hb dX5_name_33 rfl hl (by decide) rfl (fun ls hl => ?_)
        refine lv_iload_n hx hb dX5_name_34 rfl (lv_at hl 0 rfl) ?_
        refine lv_iconst (v := (-1)) hx hb dX5_name_35 (by decide) ?_
        refine lv_icmp_ne (tgt := 43) hx hb dX5_name_36 (by decide) (fun c_36 => ?_) (fun c_36 => ?_)
        · skip
          obtain ⟨i, hi2, e⟩ := nmI_ex hnn c_36
          rw [e] at hl
          refine lv_aload_n hx hb dX5_name_43 rfl (lv_at hl 1 rfl) ?_
          refine va_get (D := D) (ci := 5) (v := .ref k17) (C := RX5) (T := TX5) (N := 26) hx hb hts hin5 hown hK hP 0 rfl rfl 17 (by decide) hf44 (fun _ h9 => h9) rfl dX5_name_44 ?_
          refine lv_iload_n hx hb dX5_name_47 rfl (lv_at hl 0 rfl) ?_
          refine va_ialdN (D := D) (cl := vwCl) (cA := cI) (f := (nmT nh nn P G N td (nI a_) j) 1) hx hb hK hP 12 0 rfl rfl i (rfl) (Nat.lt_of_lt_of_le hi2 (nmNn_le hnn)) (by first | decide | assumption) dX5_name_48 ?_
          refine mu_iret hx hb hr hlocks hS dX5_name_49 ?_ ?_
          · rw [if_pos (by simp [c_5, c_13, hst]), nI_clamp (by omega), nmR_at hnn hi2 e]
          have q0 : (nI (if (inR nh (nI a_) && inR np (nI j) && !isSt np P (nI j)) = true then nmNn nh nn P G N td (nI a_) (nI j).toNatClampNeg else nn)) = (nI (nmNn nh nn P G N td (nI a_) j)) := by rw [if_pos (by simp [c_5, c_13, hst]), nI_clamp (show j < 2 ^ 31 by omega)]
          have q1 : ((if (inR nh (nI a_) && inR np (nI j) && !isSt np P (nI j)) = true then nmMc nh nn P G N td mc (nI a_).toNatClampNeg (nI j).toNatClampNeg else mc)) = ((nmMc nh nn P G N td mc a_ j)) := by rw [if_pos (by simp [c_5, c_13, hst]), nI_clamp (show j < 2 ^ 31 by omega), nI_clamp (show a_ < 2 ^ 31 by omega)]
          have q2 : ((if (inR nh (nI a_) && inR np (nI j) && !isSt np P (nI j)) = true then nmT nh nn P G N td (nI a_) (nI j).toNatClampNeg else N) 0) = ((nmT nh nn P G N td (nI a_) j) 0) := by rw [if_pos (by simp [c_5, c_13, hst]), nI_clamp (show j < 2 ^ 31 by omega)]
          have q3 : ((if (inR nh (nI a_) && inR np (nI j) && !isSt np P (nI j)) = true then nmT nh nn P G N td (nI a_) (nI j).toNatClampNeg else N) 1) = ((nmT nh nn P G N td (nI a_) j) 1) := by rw [if_pos (by simp [c_5, c_13, hst]), nI_clamp (show j < 2 ^ 31 by omega)]
          have q4 : ((if (inR nh (nI a_) && inR np (nI j) && !isSt np P (nI j)) = true then nmT nh nn P G N td (nI a_) (nI j).toNatClampNeg else N) 2) = ((nmT nh nn P G N td (nI a_) j) 2) := by rw [if_pos (by simp [c_5, c_13, hst]), nI_clamp (show j < 2 ^ 31 by omega)]
          have q5 : ((if (inR nh (nI a_) && inR np (nI j) && !isSt np P (nI j)) = true then nmT nh nn P G N td (nI a_) (nI j).toNatClampNeg else N) 3) = ((nmT nh nn P G N td (nI a_) j) 3) := by rw [if_pos (by simp [c_5, c_13, hst]), nI_clamp (show j < 2 ^ 31 by omega)]
          have q6 : ((if (inR nh (nI a_) && inR np (nI j) && !isSt np P (nI j)) = true then nmT nh nn P G N td (nI a_) (nI j).toNatClampNeg else N) 4) = ((nmT nh nn P G N td (nI a_) j) 4) := by rw [if_pos (by simp [c_5, c_13, hst]), nI_clamp (show j < 2 ^ 31 by omega)]
          rw [q0, q1, q2, q3, q4, q5, q6]
          exact hP
        · skip
          refine lv_iconst (v := (-1)) hx hb dX5_name_39 (by decide) ?_
          refine lv_goto (tgt := 49) hx hb dX5_name_40 (by decide) ?_
          refine mu_iret hx hb hr hlocks hS dX5_name_49 ?_ ?_
          · rw [if_pos (by simp [c_5, c_13, hst]), nI_clamp (by omega), nmR_no c_36]
          have q0 : (nI (if (inR nh (nI a_) && inR np (nI j) && !isSt np P (nI j)) = true then nmNn nh nn P G N td (nI a_) (nI j).toNatClampNeg else nn)) = (nI (nmNn nh nn P G N td (nI a_) j)) := by rw [if_pos (by simp [c_5, c_13, hst]), nI_clamp (show j < 2 ^ 31 by omega)]
          have q1 : ((if (inR nh (nI a_) && inR np (nI j) && !isSt np P (nI j)) = true then nmMc nh nn P G N td mc (nI a_).toNatClampNeg (nI j).toNatClampNeg else mc)) = ((nmMc nh nn P G N td mc a_ j)) := by rw [if_pos (by simp [c_5, c_13, hst]), nI_clamp (show j < 2 ^ 31 by omega), nI_clamp (show a_ < 2 ^ 31 by omega)]
          have q2 : ((if (inR nh (nI a_) && inR np (nI j) && !isSt np P (nI j)) = true then nmT nh nn P G N td (nI a_) (nI j).toNatClampNeg else N) 0) = ((nmT nh nn P G N td (nI a_) j) 0) := by rw [if_pos (by simp [c_5, c_13, hst]), nI_clamp (show j < 2 ^ 31 by omega)]
          have q3 : ((if (inR nh (nI a_) && inR np (nI j) && !isSt np P (nI j)) = true then nmT nh nn P G N td (nI a_) (nI j).toNatClampNeg else N) 1) = ((nmT nh nn P G N td (nI a_) j) 1) := by rw [if_pos (by simp [c_5, c_13, hst]), nI_clamp (show j < 2 ^ 31 by omega)]
          have q4 : ((if (inR nh (nI a_) && inR np (nI j) && !isSt np P (nI j)) = true then nmT nh nn P G N td (nI a_) (nI j).toNatClampNeg else N) 2) = ((nmT nh nn P G N td (nI a_) j) 2) := by rw [if_pos (by simp [c_5, c_13, hst]), nI_clamp (show j < 2 ^ 31 by omega)]
          have q5 : ((if (inR nh (nI a_) && inR np (nI j) && !isSt np P (nI j)) = true then nmT nh nn P G N td (nI a_) (nI j).toNatClampNeg else N) 3) = ((nmT nh nn P G N td (nI a_) j) 3) := by rw [if_pos (by simp [c_5, c_13, hst]), nI_clamp (show j < 2 ^ 31 by omega)]
          have q6 : ((if (inR nh (nI a_) && inR np (nI j) && !isSt np P (nI j)) = true then nmT nh nn P G N td (nI a_) (nI j).toNatClampNeg else N) 4) = ((nmT nh nn P G N td (nI a_) j) 4) := by rw [if_pos (by simp [c_5, c_13, hst]), nI_clamp (show j < 2 ^ 31 by omega)]
          rw [q0, q1, q2, q3, q4, q5, q6]
          exact hP
      · skip
        have hst := isSt_1 hnp hj hs c_22
        refine lv_iconst (v := (-1)) hx hb dX5_name_25 (by decide) ?_
        refine mu_iret hx hb hr hlocks hS dX5_name_26 ?_ ?_
        · rw [if_neg (by simp [hst])]
        have q0 : (nI (if (inR nh (nI a_) && inR np (nI j) && !isSt np P (nI j)) = true then nmNn nh nn P G N td (nI a_) (nI j).toNatClampNeg else nn)) = (nI nn) := by rw [if_neg (by simp [hst])]
        have q1 : ((if (inR nh (nI a_) && inR np (nI j) && !isSt np P (nI j)) = true then nmMc nh nn P G N td mc (nI a_).toNatClampNeg (nI j).toNatClampNeg else mc)) = (mc) := by rw [if_neg (by simp [hst])]
        have q2 : ((if (inR nh (nI a_) && inR np (nI j) && !isSt np P (nI j)) = true then nmT nh nn P G N td (nI a_) (nI j).toNatClampNeg else N) 0) = (N 0) := by rw [if_neg (by simp [hst])]
        have q3 : ((if (inR nh (nI a_) && inR np (nI j) && !isSt np P (nI j)) = true then nmT nh nn P G N td (nI a_) (nI j).toNatClampNeg else N) 1) = (N 1) := by rw [if_neg (by simp [hst])]
        have q4 : ((if (inR nh (nI a_) && inR np (nI j) && !isSt np P (nI j)) = true then nmT nh nn P G N td (nI a_) (nI j).toNatClampNeg else N) 2) = (N 2) := by rw [if_neg (by simp [hst])]
        have q5 : ((if (inR nh (nI a_) && inR np (nI j) && !isSt np P (nI j)) = true then nmT nh nn P G N td (nI a_) (nI j).toNatClampNeg else N) 3) = (N 3) := by rw [if_neg (by simp [hst])]
        have q6 : ((if (inR nh (nI a_) && inR np (nI j) && !isSt np P (nI j)) = true then nmT nh nn P G N td (nI a_) (nI j).toNatClampNeg else N) 4) = (N 4) := by rw [if_neg (by simp [hst])]
        rw [q0, q1, q2, q3, q4, q5, q6]
        exact hP

set_option maxHeartbeats 4000000 in
set_option maxRecDepth 100000 in
theorem kX5_leads (l : Launch) (D : va_G) (cI cZ : ClassId) (o5 k6 k7 k8 k9 k10 k11 k12 k13 k14 k15 k16 k17 k18 k19 k20 k21 k22 k23 k24 k25 np nh nn nb ne : Nat) (td : Int32) (P G N B E : Nat → Nat → Int32) (mc : Nat → Int32) (h : Int32) (nm : Int32) (hnp : np ≤ 24) (hnh : nh ≤ 5) (hnn : nn ≤ 200) (hw : HP np (P 4)) (ho : HO nn np N) (hN0 : ∀ i, i < nn → ∃ h, h < nh ∧ N 0 i = nI h) (hon : ∀ i h, i < nn → h < nh → N 0 i = nI h → G 0 h = 2 → N 4 i = nI (ct (fun j => decide (N 0 j = nI h)) (i + 1))) : Met l yX5_leads wsX5_leads ({ frames := 2, cells := 0, slots := 0, locals := 46 } : Room) (RdP D [(cI, .int), (cZ, .boolean)] [.ref o5, .int h, .int nm] [(o5, .inr (5, [.int (nI np), .int (nI nh), .int td, .int (nI nn), .int (nI nb), .int (nI ne), .ref k6, .ref k7, .ref k8, .ref k9, .ref k10, .ref k11, .ref k12, .ref k13, .ref k14, .ref k15, .ref k16, .ref k17, .ref k18, .ref k19, .ref k20, .ref k21, .ref k22, .ref k23, .ref k24, .ref k25])), (k6, .inl (cI, 96, .inl (fl 4 P))), (k7, .inl (cI, 24, .inl (P 4))), (k8, .inl (cZ, 24, .inl (P 5))), (k9, .inl (cI, 5, .inl (G 0))), (k10, .inl (cI, 5, .inl (G 1))), (k11, .inl (cI, 5, .inl (G 2))), (k12, .inl (cI, 5, .inl (G 3))), (k13, .inl (cI, 5, .inl (G 4))), (k14, .inl (cI, 5, .inl (mc))), (k15, .inl (cZ, 5, .inl (G 5))), (k16, .inl (cI, 200, .inl (N 0))), (k17, .inl (cI, 200, .inl (N 1))), (k18, .inl (cI, 200, .inl (N 2))), (k19, .inl (cI, 200, .inl (N 3))), (k20, .inl (cI, 200, .inl (N 4))), (k21, .inl (cI, 20, .inl (B 0))), (k22, .inl (cI, 20, .inl (B 1))), (k23, .inl (cI, 20, .inl (B 2))), (k24, .inl (cI, 20, .inl (B 3))), (k25, .inl (cI, 1200, .inl (fl 6 E)))]) (QcRead (ldR nn P N h nm)) 0 0 (fun _ => False) := by
  refine rd_of (cc := cX5_leads) (maxL := 4) (ret := (some .int)) (by decide) rfl (Nat.le_of_ble_eq_true rfl) ?_
  intro pp ee ss mm bw me cd ls hx hb hr hts hown hlocks hml hP hK hl
  have hl : lv_has ls 4 [(0, .ref o5), (1, .int h), (2, .int nm)] := hl
  have hf20 := hts (.fieldLink RX5 20 "OtherNamesModel" "kind" "[I") (by decide +kernel)
  have hin5 := (show ∀ w ∈ wsX50, w ∈ wsX5_leads by decide +kernel)
  have hf44 := hts (.fieldLink RX5 44 "OtherNamesModel" "nameOf" "[I") (by decide +kernel)
  have hf53 := hts (.fieldLink RX5 53 "OtherNamesModel" "nameSpan" "[I") (by decide +kernel)
  have hf47 := hts (.fieldLink RX5 47 "OtherNamesModel" "owner" "[I") (by decide +kernel)
  refine lv_aload_n hx hb dX5_leads_0 rfl (lv_at hl 0 rfl) ?_
  refine lv_iload_n hx hb dX5_leads_1 rfl (lv_at hl 1 rfl) ?_
  refine rcVw (As := [.int h]) (rest := []) (ci := 5) ⟨hx, hb, hml, hown, hts⟩ (kX5_isHouse l D cI cZ o5 k6 k7 k8 k9 k10 k11 k12 k13 k14 k15 k16 k17 k18 k19 k20 k21 k22 k23 k24 k25 np nh nn nb ne td P G N B E mc h) (cwV 1 hts gX5_leads_X5_isHouse rfl rfl rfl (by decide +kernel) ⟨Nat.le_of_ble_eq_true rfl, Nat.le_of_ble_eq_true rfl⟩) hK hP rfl rfl rfl rfl hl.1 rfl (Nat.le_of_ble_eq_true rfl) ⟨Nat.zero_le _, Nat.zero_le _⟩ dX5_leads_2 ?_
  refine lb_ne (tgt := 10) hx hb dX5_leads_5 (by decide) (fun c_5 => ?_) (fun c_5 => ?_)
  · skip
    obtain ⟨a_, ha_, rfl⟩ := inR_ex c_5 (by omega)
    refine lv_aload_n hx hb dX5_leads_10 rfl (lv_at hl 0 rfl) ?_
    refine lv_iload_n hx hb dX5_leads_11 rfl (lv_at hl 1 rfl) ?_
    refine lv_iload_n hx hb dX5_leads_12 rfl (lv_at hl 2 rfl) ?_
    refine rcVw (As := [.int ((nI a_)), .int nm]) (rest := []) (ci := 5) ⟨hx, hb, hml, hown, hts⟩ (kX5_find l D cI cZ o5 k6 k7 k8 k9 k10 k11 k12 k13 k14 k15 k16 k17 k18 k19 k20 k21 k22 k23 k24 k25 np nh nn nb ne td P G N B E mc (nI a_) nm (by first | assumption | omega)) (cwV 2 hts gX5_leads_X5_find rfl rfl rfl (by decide +kernel) ⟨Nat.le_of_ble_eq_true rfl, Nat.le_of_ble_eq_true rfl⟩) hK hP rfl rfl rfl rfl hl.1 rfl (Nat.le_of_ble_eq_true rfl) ⟨Nat.zero_le _, Nat.zero_le _⟩ dX5_leads_13 ?_
    refine lv_istore_n (lv' := [(3, .int (fsI (fdB N (nI a_) nm) nn)), (0, .ref o5), (1, .int ((nI a_))), (2, .int nm)]) hx hb dX5_leads_16 rfl hl (by decide) rfl (fun ls hl => ?_)
    refine lv_iload_n hx hb dX5_leads_17 rfl (lv_at hl 0 rfl) ?_
    refine lv_iconst (v := (-1)) hx hb dX5_leads_18 (by decide) ?_
    refine lv_icmp_ne (tgt := 24) hx hb dX5_leads_19 (by decide) (fun c_19 => ?_) (fun c_19 => ?_)
    · skip
      obtain ⟨i, hi2, e, hf, hmin⟩ := fsI_ex (by omega) c_19
      rw [e] at hl
      obtain ⟨e0, e1⟩ := fd_0 hf
      refine lv_aload_n hx hb dX5_leads_24 rfl (lv_at hl 1 rfl) ?_
      refine va_get (D := D) (ci := 5) (v := .ref k9) (C := RX5) (T := TX5) (N := 26) hx hb hts hin5 hown hK hP 0 rfl rfl 9 (by decide) hf20 (fun _ h9 => h9) rfl dX5_leads_25 ?_
      refine lv_iload_n hx hb dX5_leads_28 rfl (lv_at hl 2 rfl) ?_
      refine va_ialdN (D := D) (cl := vwCl) (cA := cI) (f := G 0) hx hb hK hP 4 0 rfl rfl a_ (rfl) (by omega) (by first | decide | assumption) dX5_leads_29 ?_
      refine lv_iconst (v := 2) hx hb dX5_leads_30 (by decide) ?_
      refine lv_icmp_ne (tgt := 38) hx hb dX5_leads_31 (by decide) (fun c_31 => ?_) (fun c_31 => ?_)
      · skip
        refine lv_aload_n hx hb dX5_leads_38 rfl (lv_at hl 1 rfl) ?_
        refine va_get (D := D) (ci := 5) (v := .ref k17) (C := RX5) (T := TX5) (N := 26) hx hb hts hin5 hown hK hP 0 rfl rfl 17 (by decide) hf44 (fun _ h9 => h9) rfl dX5_leads_39 ?_
        refine lv_aload_n hx hb dX5_leads_42 rfl (lv_at hl 1 rfl) ?_
        refine lv_iload_n hx hb dX5_leads_43 rfl (lv_at hl 2 rfl) ?_
        refine lv_aload_n hx hb dX5_leads_44 rfl (lv_at hl 1 rfl) ?_
        refine va_get (D := D) (ci := 5) (v := .ref k20) (C := RX5) (T := TX5) (N := 26) hx hb hts hin5 hown hK hP 0 rfl rfl 20 (by decide) hf53 (fun _ h9 => h9) rfl dX5_leads_45 ?_
        refine lv_iload_n hx hb dX5_leads_48 rfl (lv_at hl 0 rfl) ?_
        refine va_ialdN (D := D) (cl := vwCl) (cA := cI) (f := N 4) hx hb hK hP 15 0 rfl rfl i (rfl) (by omega) (by first | decide | assumption) dX5_leads_49 ?_
        refine lv_aload_n hx hb dX5_leads_50 rfl (lv_at hl 1 rfl) ?_
        refine lv_aload_n hx hb dX5_leads_51 rfl (lv_at hl 1 rfl) ?_
        refine va_get (D := D) (ci := 5) (v := .ref k18) (C := RX5) (T := TX5) (N := 26) hx hb hts hin5 hown hK hP 0 rfl rfl 18 (by decide) hf47 (fun _ h9 => h9) rfl dX5_leads_52 ?_
        refine lv_iload_n hx hb dX5_leads_55 rfl (lv_at hl 0 rfl) ?_
        refine va_ialdN (D := D) (cl := vwCl) (cA := cI) (f := N 2) hx hb hK hP 13 0 rfl rfl i (rfl) (by omega) (by first | decide | assumption) dX5_leads_56 ?_
        rw [show ((N 2) i) = nI (ow N i) from (ho i hi2).1]
        refine rcVw (As := [.int (nI (ow N i))]) (rest := [.int (((N 4) i)), .int ((nI a_)), .ref o5, .ref k17]) (ci := 5) ⟨hx, hb, hml, hown, hts⟩ (kX5_head l D cI cZ o5 k6 k7 k8 k9 k10 k11 k12 k13 k14 k15 k16 k17 k18 k19 k20 k21 k22 k23 k24 k25 np nh nn nb ne td P G N B E mc (ow N i) (by first | assumption | omega) (by first | assumption | omega) (ho i hi2).2) (cwV 1 hts gX5_leads_X5_head rfl rfl rfl (by decide +kernel) ⟨Nat.le_of_ble_eq_true rfl, Nat.le_of_ble_eq_true rfl⟩) hK hP rfl rfl rfl rfl hl.1 rfl (Nat.le_of_ble_eq_true rfl) ⟨Nat.zero_le _, Nat.zero_le _⟩ dX5_leads_57 ?_
        refine rcVw (As := [.int ((nI a_)), .int (((N 4) i)), .int (nI (hd (P 4) (ow N i)))]) (rest := [.ref k17]) (ci := 5) ⟨hx, hb, hml, hown, hts⟩ (kX5_firstOf l D cI cZ o5 k6 k7 k8 k9 k10 k11 k12 k13 k14 k15 k16 k17 k18 k19 k20 k21 k22 k23 k24 k25 np nh nn nb ne td P G N B E mc (nI a_) ((N 4) i) (nI (hd (P 4) (ow N i))) (by first | assumption | omega) (by first | assumption | omega) (by first | assumption | omega) (by first | assumption | omega)) (cwV 3 hts gX5_leads_X5_firstOf rfl rfl rfl (by decide +kernel) ⟨Nat.le_of_ble_eq_true rfl, Nat.le_of_ble_eq_true rfl⟩) hK hP rfl rfl rfl rfl hl.1 rfl (Nat.le_of_ble_eq_true rfl) ⟨Nat.zero_le _, Nat.zero_le _⟩ dX5_leads_60 ?_
        obtain ⟨i2, hi3, e2, -⟩ := fsI_ex (by omega) (ff_self (w := P 4) hi2 hnn e0)
        rw [show fsI (ffB N (P 4) (nI a_) ((N 4) i) (nI (hd (P 4) (ow N i)))) nn = (nI i2) from e2]
        refine va_ialdN (D := D) (cl := vwCl) (cA := cI) (f := N 1) hx hb hK hP 12 0 rfl rfl i2 (rfl) (by omega) (by first | decide | assumption) dX5_leads_63 ?_
        exact rd_iret hx hb hr hlocks dX5_leads_64 (by rw [ldR_at hnn hi2 e e0 hi3 e2])
      · skip
        refine lv_iload_n hx hb dX5_leads_34 rfl (lv_at hl 3 rfl) ?_
        refine lv_goto (tgt := 64) hx hb dX5_leads_35 (by decide) ?_
        exact rd_iret hx hb hr hlocks dX5_leads_64 (by rw [ldR_once hnn hi2 ha_ hon c_31 e hf])
    · skip
      refine lv_iconst (v := (-1)) hx hb dX5_leads_22 (by decide) ?_
      exact rd_iret hx hb hr hlocks dX5_leads_23 (by rw [ldR, if_pos c_19])
  · skip
    refine lv_iconst (v := (-1)) hx hb dX5_leads_8 (by decide) ?_
    exact rd_iret hx hb hr hlocks dX5_leads_9 (by rw [ldR_out hnh hN0 c_5])

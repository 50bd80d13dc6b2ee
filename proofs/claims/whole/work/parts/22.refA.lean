set_option maxHeartbeats 4000000 in
set_option maxRecDepth 100000 in
theorem kX5_in (l : Launch) (D : va_G) (cI cZ : ClassId)  (v : Int32) (lo : Int32) (hi : Int32) : Met l yX5_in wsX5_in ({ frames := 0, cells := 0, slots := 0, locals := 0 } : Room) (RdP D [(cI, .int), (cZ, .boolean)] [.int v, .int lo, .int hi] []) (QcRead (bI (inB v lo hi))) 0 0 (fun _ => False) := by
  refine rd_of (cc := cX5_in) (maxL := 3) (ret := (some .boolean)) (by decide) rfl (Nat.le_of_ble_eq_true rfl) ?_
  intro pp ee ss mm bw me cd ls hx hb hr hts hown hlocks hml hP hK hl
  have hl : lv_has ls 3 [(0, .int v), (1, .int lo), (2, .int hi)] := hl
  refine lv_iload_n hx hb dX5_in_0 rfl (lv_at hl 0 rfl) ?_
  refine lv_iload_n hx hb dX5_in_1 rfl (lv_at hl 1 rfl) ?_
  refine lv_icmp_lt (tgt := 14) hx hb dX5_in_2 (by decide) (fun c_2 => ?_) (fun c_2 => ?_)
  · skip
    refine lv_iconst (v := 0) hx hb dX5_in_14 (by decide) ?_
    exact rd_zret hx hb hr hlocks dX5_in_15 (by simp [bI, inB, c_2])
  · skip
    refine lv_iload_n hx hb dX5_in_5 rfl (lv_at hl 0 rfl) ?_
    refine lv_iload_n hx hb dX5_in_6 rfl (lv_at hl 2 rfl) ?_
    refine lv_icmp_gt (tgt := 14) hx hb dX5_in_7 (by decide) (fun c_7 => ?_) (fun c_7 => ?_)
    · skip
      refine lv_iconst (v := 0) hx hb dX5_in_14 (by decide) ?_
      exact rd_zret hx hb hr hlocks dX5_in_15 (by simp [bI, inB, c_2, c_7])
    · skip
      refine lv_iconst (v := 1) hx hb dX5_in_10 (by decide) ?_
      refine lv_goto (tgt := 15) hx hb dX5_in_11 (by decide) ?_
      exact rd_zret hx hb hr hlocks dX5_in_15 (by simp [bI, inB, c_2, c_7])
set_option maxHeartbeats 4000000 in
set_option maxRecDepth 100000 in
theorem kX5_isMark (l : Launch) (D : va_G) (cI cZ : ClassId)  (n : Int32) : Met l yX5_isMark wsX5_isMark ({ frames := 0, cells := 0, slots := 0, locals := 0 } : Room) (RdP D [(cI, .int), (cZ, .boolean)] [.int n] []) (QcRead (bI (inB n 0 7))) 0 0 (fun _ => False) := by
  refine rd_of (cc := cX5_isMark) (maxL := 1) (ret := (some .boolean)) (by decide) rfl (Nat.le_of_ble_eq_true rfl) ?_
  intro pp ee ss mm bw me cd ls hx hb hr hts hown hlocks hml hP hK hl
  have hl : lv_has ls 1 [(0, .int n)] := hl
  refine lv_iload_n hx hb dX5_isMark_0 rfl (lv_at hl 0 rfl) ?_
  refine lv_if_lt (tgt := 14) hx hb dX5_isMark_1 (by decide) (fun c_1 => ?_) (fun c_1 => ?_)
  · skip
    refine lv_iconst (v := 0) hx hb dX5_isMark_14 (by decide) ?_
    exact rd_zret hx hb hr hlocks dX5_isMark_15 (by simp [bI, inB, c_1])
  · skip
    refine lv_iload_n hx hb dX5_isMark_4 rfl (lv_at hl 0 rfl) ?_
    refine lv_bipush (v := 7) hx hb dX5_isMark_5 (by decide) ?_
    refine lv_icmp_gt (tgt := 14) hx hb dX5_isMark_7 (by decide) (fun c_7 => ?_) (fun c_7 => ?_)
    · skip
      refine lv_iconst (v := 0) hx hb dX5_isMark_14 (by decide) ?_
      exact rd_zret hx hb hr hlocks dX5_isMark_15 (by simp [bI, inB, c_1, c_7])
    · skip
      refine lv_iconst (v := 1) hx hb dX5_isMark_10 (by decide) ?_
      refine lv_goto (tgt := 15) hx hb dX5_isMark_11 (by decide) ?_
      exact rd_zret hx hb hr hlocks dX5_isMark_15 (by simp [bI, inB, c_1, c_7])
set_option maxHeartbeats 4000000 in
set_option maxRecDepth 100000 in
theorem kX5_isPerson (l : Launch) (D : va_G) (cI cZ : ClassId) (o5 k6 k7 k8 k9 k10 k11 k12 k13 k14 k15 k16 k17 k18 k19 k20 k21 k22 k23 k24 k25 np nh nn nb ne : Nat) (td : Int32) (P G N B E : Nat → Nat → Int32) (mc : Nat → Int32) (p : Int32) : Met l yX5_isPerson wsX5_isPerson ({ frames := 0, cells := 0, slots := 0, locals := 0 } : Room) (RdP D [(cI, .int), (cZ, .boolean)] [.ref o5, .int p] [(o5, .inr (5, [.int (nI np), .int (nI nh), .int td, .int (nI nn), .int (nI nb), .int (nI ne), .ref k6, .ref k7, .ref k8, .ref k9, .ref k10, .ref k11, .ref k12, .ref k13, .ref k14, .ref k15, .ref k16, .ref k17, .ref k18, .ref k19, .ref k20, .ref k21, .ref k22, .ref k23, .ref k24, .ref k25])), (k6, .inl (cI, 96, .inl (fl 4 P))), (k7, .inl (cI, 24, .inl (P 4))), (k8, .inl (cZ, 24, .inl (P 5))), (k9, .inl (cI, 5, .inl (G 0))), (k10, .inl (cI, 5, .inl (G 1))), (k11, .inl (cI, 5, .inl (G 2))), (k12, .inl (cI, 5, .inl (G 3))), (k13, .inl (cI, 5, .inl (G 4))), (k14, .inl (cI, 5, .inl (mc))), (k15, .inl (cZ, 5, .inl (G 5))), (k16, .inl (cI, 200, .inl (N 0))), (k17, .inl (cI, 200, .inl (N 1))), (k18, .inl (cI, 200, .inl (N 2))), (k19, .inl (cI, 200, .inl (N 3))), (k20, .inl (cI, 200, .inl (N 4))), (k21, .inl (cI, 20, .inl (B 0))), (k22, .inl (cI, 20, .inl (B 1))), (k23, .inl (cI, 20, .inl (B 2))), (k24, .inl (cI, 20, .inl (B 3))), (k25, .inl (cI, 1200, .inl (fl 6 E)))]) (QcRead (bI (inR np p))) 0 0 (fun _ => False) := by
  refine rd_of (cc := cX5_isPerson) (maxL := 2) (ret := (some .boolean)) (by decide) rfl (Nat.le_of_ble_eq_true rfl) ?_
  intro pp ee ss mm bw me cd ls hx hb hr hts hown hlocks hml hP hK hl
  have hl : lv_has ls 2 [(0, .ref o5), (1, .int p)] := hl
  have hf71 := hts (.fieldLink RX5 71 "OtherNamesModel" "people" "I") (by decide +kernel)
  have hin5 := (show ∀ w ∈ wsX50, w ∈ wsX5_isPerson by decide +kernel)
  refine lv_iload_n hx hb dX5_isPerson_0 rfl (lv_at hl 1 rfl) ?_
  refine lv_if_lt (tgt := 16) hx hb dX5_isPerson_1 (by decide) (fun c_1 => ?_) (fun c_1 => ?_)
  · skip
    refine lv_iconst (v := 0) hx hb dX5_isPerson_16 (by decide) ?_
    exact rd_zret hx hb hr hlocks dX5_isPerson_17 (by simp [bI, inR, c_1])
  · skip
    refine lv_iload_n hx hb dX5_isPerson_4 rfl (lv_at hl 1 rfl) ?_
    refine lv_aload_n hx hb dX5_isPerson_5 rfl (lv_at hl 0 rfl) ?_
    refine va_get (D := D) (ci := 5) (v := .int (nI np)) (C := RX5) (T := TX5) (N := 26) hx hb hts hin5 hown hK hP 0 rfl rfl 0 (by decide) hf71 (fun _ h9 => h9) rfl dX5_isPerson_6 ?_
    refine lv_icmp_ge (tgt := 16) hx hb dX5_isPerson_9 (by decide) (fun c_9 => ?_) (fun c_9 => ?_)
    · skip
      refine lv_iconst (v := 0) hx hb dX5_isPerson_16 (by decide) ?_
      exact rd_zret hx hb hr hlocks dX5_isPerson_17 (by simp [bI, inR, c_1, c_9])
    · skip
      refine lv_iconst (v := 1) hx hb dX5_isPerson_12 (by decide) ?_
      refine lv_goto (tgt := 17) hx hb dX5_isPerson_13 (by decide) ?_
      exact rd_zret hx hb hr hlocks dX5_isPerson_17 (by simp [bI, inR, c_1, c_9])
set_option maxHeartbeats 4000000 in
set_option maxRecDepth 100000 in
theorem kX5_isHouse (l : Launch) (D : va_G) (cI cZ : ClassId) (o5 k6 k7 k8 k9 k10 k11 k12 k13 k14 k15 k16 k17 k18 k19 k20 k21 k22 k23 k24 k25 np nh nn nb ne : Nat) (td : Int32) (P G N B E : Nat → Nat → Int32) (mc : Nat → Int32) (h : Int32) : Met l yX5_isHouse wsX5_isHouse ({ frames := 0, cells := 0, slots := 0, locals := 0 } : Room) (RdP D [(cI, .int), (cZ, .boolean)] [.ref o5, .int h] [(o5, .inr (5, [.int (nI np), .int (nI nh), .int td, .int (nI nn), .int (nI nb), .int (nI ne), .ref k6, .ref k7, .ref k8, .ref k9, .ref k10, .ref k11, .ref k12, .ref k13, .ref k14, .ref k15, .ref k16, .ref k17, .ref k18, .ref k19, .ref k20, .ref k21, .ref k22, .ref k23, .ref k24, .ref k25])), (k6, .inl (cI, 96, .inl (fl 4 P))), (k7, .inl (cI, 24, .inl (P 4))), (k8, .inl (cZ, 24, .inl (P 5))), (k9, .inl (cI, 5, .inl (G 0))), (k10, .inl (cI, 5, .inl (G 1))), (k11, .inl (cI, 5, .inl (G 2))), (k12, .inl (cI, 5, .inl (G 3))), (k13, .inl (cI, 5, .inl (G 4))), (k14, .inl (cI, 5, .inl (mc))), (k15, .inl (cZ, 5, .inl (G 5))), (k16, .inl (cI, 200, .inl (N 0))), (k17, .inl (cI, 200, .inl (N 1))), (k18, .inl (cI, 200, .inl (N 2))), (k19, .inl (cI, 200, .inl (N 3))), (k20, .inl (cI, 200, .inl (N 4))), (k21, .inl (cI, 20, .inl (B 0))), (k22, .inl (cI, 20, .inl (B 1))), (k23, .inl (cI, 20, .inl (B 2))), (k24, .inl (cI, 20, .inl (B 3))), (k25, .inl (cI, 1200, .inl (fl 6 E)))]) (QcRead (bI (inR nh h))) 0 0 (fun _ => False) := by
  refine rd_of (cc := cX5_isHouse) (maxL := 2) (ret := (some .boolean)) (by decide) rfl (Nat.le_of_ble_eq_true rfl) ?_
  intro pp ee ss mm bw me cd ls hx hb hr hts hown hlocks hml hP hK hl
  have hl : lv_has ls 2 [(0, .ref o5), (1, .int h)] := hl
  have hf97 := hts (.fieldLink RX5 97 "OtherNamesModel" "houses" "I") (by decide +kernel)
  have hin5 := (show ∀ w ∈ wsX50, w ∈ wsX5_isHouse by decide +kernel)
  refine lv_iload_n hx hb dX5_isHouse_0 rfl (lv_at hl 1 rfl) ?_
  refine lv_if_lt (tgt := 16) hx hb dX5_isHouse_1 (by decide) (fun c_1 => ?_) (fun c_1 => ?_)
  · skip
    refine lv_iconst (v := 0) hx hb dX5_isHouse_16 (by decide) ?_
    exact rd_zret hx hb hr hlocks dX5_isHouse_17 (by simp [bI, inR, c_1])
  · skip
    refine lv_iload_n hx hb dX5_isHouse_4 rfl (lv_at hl 1 rfl) ?_
    refine lv_aload_n hx hb dX5_isHouse_5 rfl (lv_at hl 0 rfl) ?_
    refine va_get (D := D) (ci := 5) (v := .int (nI nh)) (C := RX5) (T := TX5) (N := 26) hx hb hts hin5 hown hK hP 0 rfl rfl 1 (by decide) hf97 (fun _ h9 => h9) rfl dX5_isHouse_6 ?_
    refine lv_icmp_ge (tgt := 16) hx hb dX5_isHouse_9 (by decide) (fun c_9 => ?_) (fun c_9 => ?_)
    · skip
      refine lv_iconst (v := 0) hx hb dX5_isHouse_16 (by decide) ?_
      exact rd_zret hx hb hr hlocks dX5_isHouse_17 (by simp [bI, inR, c_1, c_9])
    · skip
      refine lv_iconst (v := 1) hx hb dX5_isHouse_12 (by decide) ?_
      refine lv_goto (tgt := 17) hx hb dX5_isHouse_13 (by decide) ?_
      exact rd_zret hx hb hr hlocks dX5_isHouse_17 (by simp [bI, inR, c_1, c_9])
set_option maxHeartbeats 4000000 in
set_option maxRecDepth 100000 in
theorem kX5_head (l : Launch) (D : va_G) (cI cZ : ClassId) (o5 k6 k7 k8 k9 k10 k11 k12 k13 k14 k15 k16 k17 k18 k19 k20 k21 k22 k23 k24 k25 np nh nn nb ne : Nat) (td : Int32) (P G N B E : Nat → Nat → Int32) (mc : Nat → Int32) (p : Nat) (hnp : np ≤ 24) (hw : HP np (P 4)) (hp : p < np) : Met l yX5_head wsX5_head ({ frames := 0, cells := 0, slots := 0, locals := 0 } : Room) (RdP D [(cI, .int), (cZ, .boolean)] [.ref o5, .int (nI p)] [(o5, .inr (5, [.int (nI np), .int (nI nh), .int td, .int (nI nn), .int (nI nb), .int (nI ne), .ref k6, .ref k7, .ref k8, .ref k9, .ref k10, .ref k11, .ref k12, .ref k13, .ref k14, .ref k15, .ref k16, .ref k17, .ref k18, .ref k19, .ref k20, .ref k21, .ref k22, .ref k23, .ref k24, .ref k25])), (k6, .inl (cI, 96, .inl (fl 4 P))), (k7, .inl (cI, 24, .inl (P 4))), (k8, .inl (cZ, 24, .inl (P 5))), (k9, .inl (cI, 5, .inl (G 0))), (k10, .inl (cI, 5, .inl (G 1))), (k11, .inl (cI, 5, .inl (G 2))), (k12, .inl (cI, 5, .inl (G 3))), (k13, .inl (cI, 5, .inl (G 4))), (k14, .inl (cI, 5, .inl (mc))), (k15, .inl (cZ, 5, .inl (G 5))), (k16, .inl (cI, 200, .inl (N 0))), (k17, .inl (cI, 200, .inl (N 1))), (k18, .inl (cI, 200, .inl (N 2))), (k19, .inl (cI, 200, .inl (N 3))), (k20, .inl (cI, 200, .inl (N 4))), (k21, .inl (cI, 20, .inl (B 0))), (k22, .inl (cI, 20, .inl (B 1))), (k23, .inl (cI, 20, .inl (B 2))), (k24, .inl (cI, 20, .inl (B 3))), (k25, .inl (cI, 1200, .inl (fl 6 E)))]) (QcRead (nI (hd (P 4) p))) 0 0 (fun _ => False) := by
  refine rd_of (cc := cX5_head) (maxL := 3) (ret := (some .int)) (by decide) rfl (Nat.le_of_ble_eq_true rfl) ?_
  intro pp ee ss mm bw me cd ls hx hb hr hts hown hlocks hml hP hK hl
  have hl : lv_has ls 3 [(0, .ref o5), (1, .int ((nI p)))] := hl
  have hf13 := hts (.fieldLink RX5 13 "OtherNamesModel" "within" "[I") (by decide +kernel)
  have hin5 := (show ∀ w ∈ wsX50, w ∈ wsX5_head by decide +kernel)
  refine lv_iload_n hx hb dX5_head_0 rfl (lv_at hl 1 rfl) ?_
  refine lv_istore_n (lv' := [(2, .int ((nI p))), (0, .ref o5), (1, .int ((nI p)))]) hx hb dX5_head_1 rfl hl (by decide) rfl (fun ls hl => ?_)
  have loop : ∀ (k : Nat) (i q : Nat) (ls : Array Slot), i ≤ 24 → q < np → hdF (24 - i) (P 4) q = hd (P 4) p → 24 < i + k → lv_has ls 3 [(0, .ref o5), (1, .int ((nI p))), (2, .int (nI q))] → W pp l ee ({ frames := 0, cells := 0, slots := 0, locals := 0 } : Room) ss mm ([.ref o5, .int (nI p)] : List Value).toArray bw me cd ss.heap [] 0 0 (MQ bw (QcRead (nI (hd (P 4) p))) ([.ref o5, .int (nI p)] : List Value).toArray ss 0 0 (fun _ => False)) (F0 mm 2 ls []) := by
    intro k
    induction k with
    | zero => intro i q ls hi hq he hk; exact absurd hk (by omega)
    | succ k ih =>
      intro i q ls hi hq he hk hl
      refine lv_aload_n hx hb dX5_head_2 rfl (lv_at hl 0 rfl) ?_
      refine va_get (D := D) (ci := 5) (v := .ref k7) (C := RX5) (T := TX5) (N := 26) hx hb hts hin5 hown hK hP 0 rfl rfl 7 (by decide) hf13 (fun _ h9 => h9) rfl dX5_head_3 ?_
      refine lv_iload_n hx hb dX5_head_6 rfl (lv_at hl 2 rfl) ?_
      refine va_ialdN (D := D) (cl := vwCl) (cA := cI) (f := P 4) hx hb hK hP 2 0 rfl rfl q (rfl) (by omega) (by first | decide | assumption) dX5_head_7 ?_
      refine lv_iconst (v := (-1)) hx hb dX5_head_8 (by decide) ?_
      refine lv_icmp_eq (tgt := 22) hx hb dX5_head_9 (by decide) (fun c_9 => ?_) (fun c_9 => ?_)
      · skip
        refine lv_iload_n hx hb dX5_head_22 rfl (lv_at hl 2 rfl) ?_
        exact rd_iret hx hb hr hlocks dX5_head_23 (by rw [← he, hdF_root c_9])
      · skip
        have hi2 : i < 24 := by
          rcases Nat.lt_or_ge i 24 with z | z
          · exact z
          · have e0 : i = 24 := by omega
            rw [e0] at he
            have e1 : q = hd (P 4) p := he
            exact absurd (by rw [e1]; exact hw.root hnp hp) c_9
        obtain ⟨q2, hq2, e2⟩ := (hw.1 q hq).resolve_left c_9
        refine lv_aload_n hx hb dX5_head_12 rfl (lv_at hl 0 rfl) ?_
        refine va_get (D := D) (ci := 5) (v := .ref k7) (C := RX5) (T := TX5) (N := 26) hx hb hts hin5 hown hK hP 0 rfl rfl 7 (by decide) hf13 (fun _ h9 => h9) rfl dX5_head_13 ?_
        refine lv_iload_n hx hb dX5_head_16 rfl (lv_at hl 2 rfl) ?_
        refine va_ialdN (D := D) (cl := vwCl) (cA := cI) (f := P 4) hx hb hK hP 2 0 rfl rfl q (rfl) (by omega) (by first | decide | assumption) dX5_head_17 ?_
        rw [show ((P 4) q) = nI q2 from e2]
        refine lv_istore_n (lv' := [(2, .int (nI q2)), (0, .ref o5), (1, .int ((nI p)))]) hx hb dX5_head_18 rfl hl (by decide) rfl (fun ls hl => ?_)
        refine lv_goto (tgt := 2) hx hb dX5_head_19 (by decide) ?_
        exact ih (i + 1) q2 ls (by omega) hq2 (by rw [← he, show 24 - i = (24 - (i + 1)) + 1 by omega, hdF_step e2 c_9 (by omega)]) (by omega) (lv_sub hl [1, 2, 0] rfl)
  exact loop 25 0 p ls (by omega) hp rfl (by omega) (lv_sub hl [1, 2, 0] rfl)
set_option maxHeartbeats 4000000 in
set_option maxRecDepth 100000 in
theorem kX5_strikes (l : Launch) (D : va_G) (cI cZ : ClassId) (o5 k6 k7 k8 k9 k10 k11 k12 k13 k14 k15 k16 k17 k18 k19 k20 k21 k22 k23 k24 k25 np nh nn nb ne : Nat) (td : Int32) (P G N B E : Nat → Nat → Int32) (mc : Nat → Int32) (h : Nat) (hnp : np ≤ 24) (hw : HP np (P 4)) (hh : h < 2 ^ 31) : Met l yX5_strikes wsX5_strikes ({ frames := 1, cells := 0, slots := 0, locals := 22 } : Room) (MuP D [(cI, .int), (cZ, .boolean)] [.ref o5, .int (nI h)] [(o5, .inr (5, [.int (nI np), .int (nI nh), .int td, .int (nI nn), .int (nI nb), .int (nI ne), .ref k6, .ref k7, .ref k8, .ref k9, .ref k10, .ref k11, .ref k12, .ref k13, .ref k14, .ref k15, .ref k16, .ref k17, .ref k18, .ref k19, .ref k20, .ref k21, .ref k22, .ref k23, .ref k24, .ref k25])), (k6, .inl (cI, 96, .inl (fl 4 P))), (k7, .inl (cI, 24, .inl (P 4))), (k8, .inl (cZ, 24, .inl (P 5))), (k9, .inl (cI, 5, .inl (G 0))), (k10, .inl (cI, 5, .inl (G 1))), (k11, .inl (cI, 5, .inl (G 2))), (k12, .inl (cI, 5, .inl (G 3))), (k13, .inl (cI, 5, .inl (G 4))), (k14, .inl (cI, 5, .inl (mc))), (k15, .inl (cZ, 5, .inl (G 5))), (k16, .inl (cI, 200, .inl (N 0))), (k17, .inl (cI, 200, .inl (N 1))), (k18, .inl (cI, 200, .inl (N 2))), (k19, .inl (cI, 200, .inl (N 3))), (k20, .inl (cI, 200, .inl (N 4))), (k21, .inl (cI, 20, .inl (B 0))), (k22, .inl (cI, 20, .inl (B 1))), (k23, .inl (cI, 20, .inl (B 2))), (k24, .inl (cI, 20, .inl (B 3))), (k25, .inl (cI, 1200, .inl (fl 6 E)))]) (QM D none [(o5, .inr (5, [.int (nI np), .int (nI nh), .int td, .int (nI nn), .int (nI nb), .int (nI ne), .ref k6, .ref k7, .ref k8, .ref k9, .ref k10, .ref k11, .ref k12, .ref k13, .ref k14, .ref k15, .ref k16, .ref k17, .ref k18, .ref k19, .ref k20, .ref k21, .ref k22, .ref k23, .ref k24, .ref k25])), (k6, .inl (cI, 96, .inl (fl 4 P))), (k7, .inl (cI, 24, .inl (P 4))), (k8, .inl (cZ, 24, .inl (P 5))), (k9, .inl (cI, 5, .inl (G 0))), (k10, .inl (cI, 5, .inl (G 1))), (k11, .inl (cI, 5, .inl (G 2))), (k12, .inl (cI, 5, .inl (G 3))), (k13, .inl (cI, 5, .inl (G 4))), (k14, .inl (cI, 5, .inl (mc))), (k15, .inl (cZ, 5, .inl (G 5))), (k16, .inl (cI, 200, .inl (N 0))), (k17, .inl (cI, 200, .inl (N 1))), (k18, .inl (cI, 200, .inl (N 2))), (k19, .inl (cI, 200, .inl (N 3))), (k20, .inl (cI, 200, .inl (N 4))), (k21, .inl (cI, 20, .inl (B 0))), (k22, .inl (cI, 20, .inl (B 1))), (k23, .inl (cI, 20, .inl (B 2))), (k24, .inl (cI, 20, .inl (B 3))), (k25, .inl (cI, 1200, .inl (fl 6 E)))] [(o5, .inr (5, [.int (nI np), .int (nI nh), .int td, .int (nI nn), .int (nI nb), .int (nI ne), .ref k6, .ref k7, .ref k8, .ref k9, .ref k10, .ref k11, .ref k12, .ref k13, .ref k14, .ref k15, .ref k16, .ref k17, .ref k18, .ref k19, .ref k20, .ref k21, .ref k22, .ref k23, .ref k24, .ref k25])), (k6, .inl (cI, 96, .inl (fl 4 (strk np P h 24)))), (k7, .inl (cI, 24, .inl ((strk np P h 24) 4))), (k8, .inl (cZ, 24, .inl ((strk np P h 24) 5))), (k9, .inl (cI, 5, .inl (G 0))), (k10, .inl (cI, 5, .inl (G 1))), (k11, .inl (cI, 5, .inl (G 2))), (k12, .inl (cI, 5, .inl (G 3))), (k13, .inl (cI, 5, .inl (G 4))), (k14, .inl (cI, 5, .inl (mc))), (k15, .inl (cZ, 5, .inl (G 5))), (k16, .inl (cI, 200, .inl (N 0))), (k17, .inl (cI, 200, .inl (N 1))), (k18, .inl (cI, 200, .inl (N 2))), (k19, .inl (cI, 200, .inl (N 3))), (k20, .inl (cI, 200, .inl (N 4))), (k21, .inl (cI, 20, .inl (B 0))), (k22, .inl (cI, 20, .inl (B 1))), (k23, .inl (cI, 20, .inl (B 2))), (k24, .inl (cI, 20, .inl (B 3))), (k25, .inl (cI, 1200, .inl (fl 6 E)))]) 0 0 (adr [(o5, .inr (5, [.int (nI np), .int (nI nh), .int td, .int (nI nn), .int (nI nb), .int (nI ne), .ref k6, .ref k7, .ref k8, .ref k9, .ref k10, .ref k11, .ref k12, .ref k13, .ref k14, .ref k15, .ref k16, .ref k17, .ref k18, .ref k19, .ref k20, .ref k21, .ref k22, .ref k23, .ref k24, .ref k25])), (k6, .inl (cI, 96, .inl (fl 4 P))), (k7, .inl (cI, 24, .inl (P 4))), (k8, .inl (cZ, 24, .inl (P 5))), (k9, .inl (cI, 5, .inl (G 0))), (k10, .inl (cI, 5, .inl (G 1))), (k11, .inl (cI, 5, .inl (G 2))), (k12, .inl (cI, 5, .inl (G 3))), (k13, .inl (cI, 5, .inl (G 4))), (k14, .inl (cI, 5, .inl (mc))), (k15, .inl (cZ, 5, .inl (G 5))), (k16, .inl (cI, 200, .inl (N 0))), (k17, .inl (cI, 200, .inl (N 1))), (k18, .inl (cI, 200, .inl (N 2))), (k19, .inl (cI, 200, .inl (N 3))), (k20, .inl (cI, 200, .inl (N 4))), (k21, .inl (cI, 20, .inl (B 0))), (k22, .inl (cI, 20, .inl (B 1))), (k23, .inl (cI, 20, .inl (B 2))), (k24, .inl (cI, 20, .inl (B 3))), (k25, .inl (cI, 1200, .inl (fl 6 E)))]) := by
  refine mu_of (cc := cX5_strikes) (maxL := 3) (ret := none) (by decide) rfl (Nat.le_of_ble_eq_true rfl) ?_
  intro pp ee ss mm bw me cd ls hx hb hr hts hown hlocks hml hK hl H locs hP hD hS
  have hl : lv_has ls 3 [(0, .ref o5), (1, .int ((nI h)))] := hl
  have hf71 := hts (.fieldLink RX5 71 "OtherNamesModel" "people" "I") (by decide +kernel)
  have hin5 := (show ∀ w ∈ wsX50, w ∈ wsX5_strikes by decide +kernel)
  have hf16 := hts (.fieldLink RX5 16 "OtherNamesModel" "isStruck" "[Z") (by decide +kernel)
  refine lv_iconst (v := 0) hx hb dX5_strikes_0 (by decide) ?_
  refine lv_istore_n (lv' := [(2, .int 0), (0, .ref o5), (1, .int ((nI h)))]) hx hb dX5_strikes_1 rfl hl (by decide) rfl (fun ls hl => ?_)
  have loop : ∀ (k : Nat) (i : Nat) (H : Heap) (locs : List Loc) (ls : Array Slot), i ≤ np → np < i + k → lv_has ls 3 [(0, .ref o5), (1, .int ((nI h))), (2, .int (nI i))] → va_P D vwCl [(o5, .inr (5, [.int (nI np), .int (nI nh), .int td, .int (nI nn), .int (nI nb), .int (nI ne), .ref k6, .ref k7, .ref k8, .ref k9, .ref k10, .ref k11, .ref k12, .ref k13, .ref k14, .ref k15, .ref k16, .ref k17, .ref k18, .ref k19, .ref k20, .ref k21, .ref k22, .ref k23, .ref k24, .ref k25])), (k6, .inl (cI, 96, .inl (fl 4 (strk np P h i)))), (k7, .inl (cI, 24, .inl ((strk np P h i) 4))), (k8, .inl (cZ, 24, .inl ((strk np P h i) 5))), (k9, .inl (cI, 5, .inl (G 0))), (k10, .inl (cI, 5, .inl (G 1))), (k11, .inl (cI, 5, .inl (G 2))), (k12, .inl (cI, 5, .inl (G 3))), (k13, .inl (cI, 5, .inl (G 4))), (k14, .inl (cI, 5, .inl (mc))), (k15, .inl (cZ, 5, .inl (G 5))), (k16, .inl (cI, 200, .inl (N 0))), (k17, .inl (cI, 200, .inl (N 1))), (k18, .inl (cI, 200, .inl (N 2))), (k19, .inl (cI, 200, .inl (N 3))), (k20, .inl (cI, 200, .inl (N 4))), (k21, .inl (cI, 20, .inl (B 0))), (k22, .inl (cI, 20, .inl (B 1))), (k23, .inl (cI, 20, .inl (B 2))), (k24, .inl (cI, 20, .inl (B 3))), (k25, .inl (cI, 1200, .inl (fl 6 E)))] H → va_D (adr [(o5, .inr (5, [.int (nI np), .int (nI nh), .int td, .int (nI nn), .int (nI nb), .int (nI ne), .ref k6, .ref k7, .ref k8, .ref k9, .ref k10, .ref k11, .ref k12, .ref k13, .ref k14, .ref k15, .ref k16, .ref k17, .ref k18, .ref k19, .ref k20, .ref k21, .ref k22, .ref k23, .ref k24, .ref k25])), (k6, .inl (cI, 96, .inl (fl 4 P))), (k7, .inl (cI, 24, .inl (P 4))), (k8, .inl (cZ, 24, .inl (P 5))), (k9, .inl (cI, 5, .inl (G 0))), (k10, .inl (cI, 5, .inl (G 1))), (k11, .inl (cI, 5, .inl (G 2))), (k12, .inl (cI, 5, .inl (G 3))), (k13, .inl (cI, 5, .inl (G 4))), (k14, .inl (cI, 5, .inl (mc))), (k15, .inl (cZ, 5, .inl (G 5))), (k16, .inl (cI, 200, .inl (N 0))), (k17, .inl (cI, 200, .inl (N 1))), (k18, .inl (cI, 200, .inl (N 2))), (k19, .inl (cI, 200, .inl (N 3))), (k20, .inl (cI, 200, .inl (N 4))), (k21, .inl (cI, 20, .inl (B 0))), (k22, .inl (cI, 20, .inl (B 1))), (k23, .inl (cI, 20, .inl (B 2))), (k24, .inl (cI, 20, .inl (B 3))), (k25, .inl (cI, 1200, .inl (fl 6 E)))]) [(o5, .inr (5, [.int (nI np), .int (nI nh), .int td, .int (nI nn), .int (nI nb), .int (nI ne), .ref k6, .ref k7, .ref k8, .ref k9, .ref k10, .ref k11, .ref k12, .ref k13, .ref k14, .ref k15, .ref k16, .ref k17, .ref k18, .ref k19, .ref k20, .ref k21, .ref k22, .ref k23, .ref k24, .ref k25])), (k6, .inl (cI, 96, .inl (fl 4 (strk np P h i)))), (k7, .inl (cI, 24, .inl ((strk np P h i) 4))), (k8, .inl (cZ, 24, .inl ((strk np P h i) 5))), (k9, .inl (cI, 5, .inl (G 0))), (k10, .inl (cI, 5, .inl (G 1))), (k11, .inl (cI, 5, .inl (G 2))), (k12, .inl (cI, 5, .inl (G 3))), (k13, .inl (cI, 5, .inl (G 4))), (k14, .inl (cI, 5, .inl (mc))), (k15, .inl (cZ, 5, .inl (G 5))), (k16, .inl (cI, 200, .inl (N 0))), (k17, .inl (cI, 200, .inl (N 1))), (k18, .inl (cI, 200, .inl (N 2))), (k19, .inl (cI, 200, .inl (N 3))), (k20, .inl (cI, 200, .inl (N 4))), (k21, .inl (cI, 20, .inl (B 0))), (k22, .inl (cI, 20, .inl (B 1))), (k23, .inl (cI, 20, .inl (B 2))), (k24, .inl (cI, 20, .inl (B 3))), (k25, .inl (cI, 1200, .inl (fl 6 E)))] → va_S (adr [(o5, .inr (5, [.int (nI np), .int (nI nh), .int td, .int (nI nn), .int (nI nb), .int (nI ne), .ref k6, .ref k7, .ref k8, .ref k9, .ref k10, .ref k11, .ref k12, .ref k13, .ref k14, .ref k15, .ref k16, .ref k17, .ref k18, .ref k19, .ref k20, .ref k21, .ref k22, .ref k23, .ref k24, .ref k25])), (k6, .inl (cI, 96, .inl (fl 4 P))), (k7, .inl (cI, 24, .inl (P 4))), (k8, .inl (cZ, 24, .inl (P 5))), (k9, .inl (cI, 5, .inl (G 0))), (k10, .inl (cI, 5, .inl (G 1))), (k11, .inl (cI, 5, .inl (G 2))), (k12, .inl (cI, 5, .inl (G 3))), (k13, .inl (cI, 5, .inl (G 4))), (k14, .inl (cI, 5, .inl (mc))), (k15, .inl (cZ, 5, .inl (G 5))), (k16, .inl (cI, 200, .inl (N 0))), (k17, .inl (cI, 200, .inl (N 1))), (k18, .inl (cI, 200, .inl (N 2))), (k19, .inl (cI, 200, .inl (N 3))), (k20, .inl (cI, 200, .inl (N 4))), (k21, .inl (cI, 20, .inl (B 0))), (k22, .inl (cI, 20, .inl (B 1))), (k23, .inl (cI, 20, .inl (B 2))), (k24, .inl (cI, 20, .inl (B 3))), (k25, .inl (cI, 1200, .inl (fl 6 E)))]) ss.heap H locs → W pp l ee ({ frames := 1, cells := 0, slots := 0, locals := 22 } : Room) ss mm ([.ref o5, .int (nI h)] : List Value).toArray bw me cd H locs 0 0 (MQ bw (QM D none [(o5, .inr (5, [.int (nI np), .int (nI nh), .int td, .int (nI nn), .int (nI nb), .int (nI ne), .ref k6, .ref k7, .ref k8, .ref k9, .ref k10, .ref k11, .ref k12, .ref k13, .ref k14, .ref k15, .ref k16, .ref k17, .ref k18, .ref k19, .ref k20, .ref k21, .ref k22, .ref k23, .ref k24, .ref k25])), (k6, .inl (cI, 96, .inl (fl 4 P))), (k7, .inl (cI, 24, .inl (P 4))), (k8, .inl (cZ, 24, .inl (P 5))), (k9, .inl (cI, 5, .inl (G 0))), (k10, .inl (cI, 5, .inl (G 1))), (k11, .inl (cI, 5, .inl (G 2))), (k12, .inl (cI, 5, .inl (G 3))), (k13, .inl (cI, 5, .inl (G 4))), (k14, .inl (cI, 5, .inl (mc))), (k15, .inl (cZ, 5, .inl (G 5))), (k16, .inl (cI, 200, .inl (N 0))), (k17, .inl (cI, 200, .inl (N 1))), (k18, .inl (cI, 200, .inl (N 2))), (k19, .inl (cI, 200, .inl (N 3))), (k20, .inl (cI, 200, .inl (N 4))), (k21, .inl (cI, 20, .inl (B 0))), (k22, .inl (cI, 20, .inl (B 1))), (k23, .inl (cI, 20, .inl (B 2))), (k24, .inl (cI, 20, .inl (B 3))), (k25, .inl (cI, 1200, .inl (fl 6 E)))] [(o5, .inr (5, [.int (nI np), .int (nI nh), .int td, .int (nI nn), .int (nI nb), .int (nI ne), .ref k6, .ref k7, .ref k8, .ref k9, .ref k10, .ref k11, .ref k12, .ref k13, .ref k14, .ref k15, .ref k16, .ref k17, .ref k18, .ref k19, .ref k20, .ref k21, .ref k22, .ref k23, .ref k24, .ref k25])), (k6, .inl (cI, 96, .inl (fl 4 (strk np P h 24)))), (k7, .inl (cI, 24, .inl ((strk np P h 24) 4))), (k8, .inl (cZ, 24, .inl ((strk np P h 24) 5))), (k9, .inl (cI, 5, .inl (G 0))), (k10, .inl (cI, 5, .inl (G 1))), (k11, .inl (cI, 5, .inl (G 2))), (k12, .inl (cI, 5, .inl (G 3))), (k13, .inl (cI, 5, .inl (G 4))), (k14, .inl (cI, 5, .inl (mc))), (k15, .inl (cZ, 5, .inl (G 5))), (k16, .inl (cI, 200, .inl (N 0))), (k17, .inl (cI, 200, .inl (N 1))), (k18, .inl (cI, 200, .inl (N 2))), (k19, .inl (cI, 200, .inl (N 3))), (k20, .inl (cI, 200, .inl (N 4))), (k21, .inl (cI, 20, .inl (B 0))), (k22, .inl (cI, 20, .inl (B 1))), (k23, .inl (cI, 20, .inl (B 2))), (k24, .inl (cI, 20, .inl (B 3))), (k25, .inl (cI, 1200, .inl (fl 6 E)))]) ([.ref o5, .int (nI h)] : List Value).toArray ss 0 0 (adr [(o5, .inr (5, [.int (nI np), .int (nI nh), .int td, .int (nI nn), .int (nI nb), .int (nI ne), .ref k6, .ref k7, .ref k8, .ref k9, .ref k10, .ref k11, .ref k12, .ref k13, .ref k14, .ref k15, .ref k16, .ref k17, .ref k18, .ref k19, .ref k20, .ref k21, .ref k22, .ref k23, .ref k24, .ref k25])), (k6, .inl (cI, 96, .inl (fl 4 P))), (k7, .inl (cI, 24, .inl (P 4))), (k8, .inl (cZ, 24, .inl (P 5))), (k9, .inl (cI, 5, .inl (G 0))), (k10, .inl (cI, 5, .inl (G 1))), (k11, .inl (cI, 5, .inl (G 2))), (k12, .inl (cI, 5, .inl (G 3))), (k13, .inl (cI, 5, .inl (G 4))), (k14, .inl (cI, 5, .inl (mc))), (k15, .inl (cZ, 5, .inl (G 5))), (k16, .inl (cI, 200, .inl (N 0))), (k17, .inl (cI, 200, .inl (N 1))), (k18, .inl (cI, 200, .inl (N 2))), (k19, .inl (cI, 200, .inl (N 3))), (k20, .inl (cI, 200, .inl (N 4))), (k21, .inl (cI, 20, .inl (B 0))), (k22, .inl (cI, 20, .inl (B 1))), (k23, .inl (cI, 20, .inl (B 2))), (k24, .inl (cI, 20, .inl (B 3))), (k25, .inl (cI, 1200, .inl (fl 6 E)))])) (F0 mm 2 ls []) := by
    intro k
    induction k with
    | zero => intro i H locs ls hi hk; exact absurd hk (by omega)
    | succ k ih =>
      intro i H locs ls hi hk hl hP hD hS
      refine lv_iload_n hx hb dX5_strikes_2 rfl (lv_at hl 2 rfl) ?_
      refine lv_aload_n hx hb dX5_strikes_3 rfl (lv_at hl 0 rfl) ?_
      refine va_get (D := D) (ci := 5) (v := .int (nI np)) (C := RX5) (T := TX5) (N := 26) hx hb hts hin5 hown hK hP 0 rfl rfl 0 (by decide) hf71 (fun _ h9 => h9) rfl dX5_strikes_4 ?_
      refine lv_icmp_ge (tgt := 32) hx hb dX5_strikes_7 (by decide) (fun c_7 => ?_) (fun c_7 => ?_)
      · skip
        have hi2 : i = np := Nat.le_antisymm hi (lit_T c_7 np rfl (by omega) (by omega))
        refine mu_vret hx hb hr hlocks hS dX5_strikes_32 ?_
        have q0 : (fl 4 (strk np P h 24)) = (fl 4 (strk np P h i)) := by rw [hi2, strk_big (Nat.le_refl np) hnp]
        have q1 : ((strk np P h 24) 4) = ((strk np P h i) 4) := by rw [hi2, strk_big (Nat.le_refl np) hnp]
        have q2 : ((strk np P h 24) 5) = ((strk np P h i) 5) := by rw [hi2, strk_big (Nat.le_refl np) hnp]
        rw [q0, q1, q2]
        exact hP
      · skip
        have hi2 : i < np := lit_F c_7 np rfl (by omega) (by omega)
        refine lv_aload_n hx hb dX5_strikes_10 rfl (lv_at hl 0 rfl) ?_
        refine lv_iload_n hx hb dX5_strikes_11 rfl (lv_at hl 2 rfl) ?_
        refine rcV (As := [.int (nI i)]) (rest := []) (ci := 5) ⟨hx, hb, hml, hown, hts⟩ (kX5_head l D cI cZ o5 k6 k7 k8 k9 k10 k11 k12 k13 k14 k15 k16 k17 k18 k19 k20 k21 k22 k23 k24 k25 np nh nn nb ne td (strk np P h i) G N B E mc i (by first | assumption | omega) (by rw [strk_4]; exact hw) (by first | assumption | omega)) (cwV 1 hts gX5_strikes_X5_head rfl rfl rfl (by decide +kernel) ⟨Nat.le_of_ble_eq_true rfl, Nat.le_of_ble_eq_true rfl⟩) hK hP [0, 1, 2, 3, 4, 5, 6, 7, 8, 9, 10, 11, 12, 13, 14, 15, 16, 17, 18, 19, 20] rfl rfl rfl rfl rfl hl.1 rfl (Nat.le_of_ble_eq_true rfl) ⟨Nat.zero_le _, Nat.zero_le _⟩ dX5_strikes_12 ?_
        rw [show nI (hd ((strk np P h i) 4) i) = nI (hd (P 4) i) from by rw [strk_4]]
        refine lv_iload_n hx hb dX5_strikes_15 rfl (lv_at hl 1 rfl) ?_
        refine lv_icmp_ne (tgt := 26) hx hb dX5_strikes_16 (by decide) (fun c_16 => ?_) (fun c_16 => ?_)
        · skip
          have hno : ¬ (i < np ∧ hd (P 4) i = h) := fun q => c_16 (by rw [q.2])
          refine lv_iinc (v := (nI i) + 1) (lv' := [(2, .int (((nI i) + 1))), (0, .ref o5), (1, .int ((nI h)))]) hx hb dX5_strikes_26 hl (k := 2) rfl rfl (by decide) rfl (fun ls hl => ?_)
          refine lv_goto (tgt := 2) hx hb dX5_strikes_29 (by decide) ?_
          rw [nI_1 i] at hl
          have q0 : (fl 4 (strk np P h (i + 1))) = (fl 4 (strk np P h i)) := by first | (rw [strk_fl, strk_fl]; done) | (rw [strk_4, strk_4]; done) | (rw [← strk_no hno])
          have q1 : ((strk np P h (i + 1)) 4) = ((strk np P h i) 4) := by first | (rw [strk_fl, strk_fl]; done) | (rw [strk_4, strk_4]; done) | (rw [← strk_no hno])
          have q2 : ((strk np P h (i + 1)) 5) = ((strk np P h i) 5) := by first | (rw [strk_fl, strk_fl]; done) | (rw [strk_4, strk_4]; done) | (rw [← strk_no hno])
          have hP : va_P D vwCl [(o5, .inr (5, [.int (nI np), .int (nI nh), .int td, .int (nI nn), .int (nI nb), .int (nI ne), .ref k6, .ref k7, .ref k8, .ref k9, .ref k10, .ref k11, .ref k12, .ref k13, .ref k14, .ref k15, .ref k16, .ref k17, .ref k18, .ref k19, .ref k20, .ref k21, .ref k22, .ref k23, .ref k24, .ref k25])), (k6, .inl (cI, 96, .inl (fl 4 (strk np P h (i + 1))))), (k7, .inl (cI, 24, .inl ((strk np P h (i + 1)) 4))), (k8, .inl (cZ, 24, .inl ((strk np P h (i + 1)) 5))), (k9, .inl (cI, 5, .inl (G 0))), (k10, .inl (cI, 5, .inl (G 1))), (k11, .inl (cI, 5, .inl (G 2))), (k12, .inl (cI, 5, .inl (G 3))), (k13, .inl (cI, 5, .inl (G 4))), (k14, .inl (cI, 5, .inl (mc))), (k15, .inl (cZ, 5, .inl (G 5))), (k16, .inl (cI, 200, .inl (N 0))), (k17, .inl (cI, 200, .inl (N 1))), (k18, .inl (cI, 200, .inl (N 2))), (k19, .inl (cI, 200, .inl (N 3))), (k20, .inl (cI, 200, .inl (N 4))), (k21, .inl (cI, 20, .inl (B 0))), (k22, .inl (cI, 20, .inl (B 1))), (k23, .inl (cI, 20, .inl (B 2))), (k24, .inl (cI, 20, .inl (B 3))), (k25, .inl (cI, 1200, .inl (fl 6 E)))] H := by rw [q0, q1, q2]; exact hP
          have hD : va_D (adr [(o5, .inr (5, [.int (nI np), .int (nI nh), .int td, .int (nI nn), .int (nI nb), .int (nI ne), .ref k6, .ref k7, .ref k8, .ref k9, .ref k10, .ref k11, .ref k12, .ref k13, .ref k14, .ref k15, .ref k16, .ref k17, .ref k18, .ref k19, .ref k20, .ref k21, .ref k22, .ref k23, .ref k24, .ref k25])), (k6, .inl (cI, 96, .inl (fl 4 P))), (k7, .inl (cI, 24, .inl (P 4))), (k8, .inl (cZ, 24, .inl (P 5))), (k9, .inl (cI, 5, .inl (G 0))), (k10, .inl (cI, 5, .inl (G 1))), (k11, .inl (cI, 5, .inl (G 2))), (k12, .inl (cI, 5, .inl (G 3))), (k13, .inl (cI, 5, .inl (G 4))), (k14, .inl (cI, 5, .inl (mc))), (k15, .inl (cZ, 5, .inl (G 5))), (k16, .inl (cI, 200, .inl (N 0))), (k17, .inl (cI, 200, .inl (N 1))), (k18, .inl (cI, 200, .inl (N 2))), (k19, .inl (cI, 200, .inl (N 3))), (k20, .inl (cI, 200, .inl (N 4))), (k21, .inl (cI, 20, .inl (B 0))), (k22, .inl (cI, 20, .inl (B 1))), (k23, .inl (cI, 20, .inl (B 2))), (k24, .inl (cI, 20, .inl (B 3))), (k25, .inl (cI, 1200, .inl (fl 6 E)))]) [(o5, .inr (5, [.int (nI np), .int (nI nh), .int td, .int (nI nn), .int (nI nb), .int (nI ne), .ref k6, .ref k7, .ref k8, .ref k9, .ref k10, .ref k11, .ref k12, .ref k13, .ref k14, .ref k15, .ref k16, .ref k17, .ref k18, .ref k19, .ref k20, .ref k21, .ref k22, .ref k23, .ref k24, .ref k25])), (k6, .inl (cI, 96, .inl (fl 4 (strk np P h (i + 1))))), (k7, .inl (cI, 24, .inl ((strk np P h (i + 1)) 4))), (k8, .inl (cZ, 24, .inl ((strk np P h (i + 1)) 5))), (k9, .inl (cI, 5, .inl (G 0))), (k10, .inl (cI, 5, .inl (G 1))), (k11, .inl (cI, 5, .inl (G 2))), (k12, .inl (cI, 5, .inl (G 3))), (k13, .inl (cI, 5, .inl (G 4))), (k14, .inl (cI, 5, .inl (mc))), (k15, .inl (cZ, 5, .inl (G 5))), (k16, .inl (cI, 200, .inl (N 0))), (k17, .inl (cI, 200, .inl (N 1))), (k18, .inl (cI, 200, .inl (N 2))), (k19, .inl (cI, 200, .inl (N 3))), (k20, .inl (cI, 200, .inl (N 4))), (k21, .inl (cI, 20, .inl (B 0))), (k22, .inl (cI, 20, .inl (B 1))), (k23, .inl (cI, 20, .inl (B 2))), (k24, .inl (cI, 20, .inl (B 3))), (k25, .inl (cI, 1200, .inl (fl 6 E)))] := hD.fst rfl
          exact ih (i + 1) H locs ls (by omega) (by omega) (lv_sub hl [1, 2, 0] rfl) hP hD hS
        · skip
          have he : hd (P 4) i = h := nI_inj (by have := hd_lt hw hnp hi2; omega) hh c_16
          refine lv_aload_n hx hb dX5_strikes_19 rfl (lv_at hl 0 rfl) ?_
          refine va_get (D := D) (ci := 5) (v := .ref k8) (C := RX5) (T := TX5) (N := 26) hx hb hts hin5 hown hK hP 0 rfl rfl 8 (by decide) hf16 (fun _ h9 => h9) rfl dX5_strikes_20 ?_
          refine lv_iload_n hx hb dX5_strikes_23 rfl (lv_at hl 2 rfl) ?_
          refine lv_iconst (v := 1) hx hb dX5_strikes_24 (by decide) ?_
          refine va_zastN (D := D) (cl := vwCl) (cA := cZ) (f := (strk np P h i) 5) (x := 1) hx hb hK hP hD hS 3 1 rfl rfl i (rfl) (by omega) (by first | decide | assumption) (by decide) dX5_strikes_25 (fun H locs hP hD hS => ?_)
          have hP : va_P D vwCl [(o5, .inr (5, [.int (nI np), .int (nI nh), .int td, .int (nI nn), .int (nI nb), .int (nI ne), .ref k6, .ref k7, .ref k8, .ref k9, .ref k10, .ref k11, .ref k12, .ref k13, .ref k14, .ref k15, .ref k16, .ref k17, .ref k18, .ref k19, .ref k20, .ref k21, .ref k22, .ref k23, .ref k24, .ref k25])), (k6, .inl (cI, 96, .inl (fl 4 (strk np P h i)))), (k7, .inl (cI, 24, .inl ((strk np P h i) 4))), (k8, .inl (cZ, 24, .inl (upd ((strk np P h i) 5) i 1))), (k9, .inl (cI, 5, .inl (G 0))), (k10, .inl (cI, 5, .inl (G 1))), (k11, .inl (cI, 5, .inl (G 2))), (k12, .inl (cI, 5, .inl (G 3))), (k13, .inl (cI, 5, .inl (G 4))), (k14, .inl (cI, 5, .inl (mc))), (k15, .inl (cZ, 5, .inl (G 5))), (k16, .inl (cI, 200, .inl (N 0))), (k17, .inl (cI, 200, .inl (N 1))), (k18, .inl (cI, 200, .inl (N 2))), (k19, .inl (cI, 200, .inl (N 3))), (k20, .inl (cI, 200, .inl (N 4))), (k21, .inl (cI, 20, .inl (B 0))), (k22, .inl (cI, 20, .inl (B 1))), (k23, .inl (cI, 20, .inl (B 2))), (k24, .inl (cI, 20, .inl (B 3))), (k25, .inl (cI, 1200, .inl (fl 6 E)))] H := hP
          have hD : va_D (adr _) [(o5, .inr (5, [.int (nI np), .int (nI nh), .int td, .int (nI nn), .int (nI nb), .int (nI ne), .ref k6, .ref k7, .ref k8, .ref k9, .ref k10, .ref k11, .ref k12, .ref k13, .ref k14, .ref k15, .ref k16, .ref k17, .ref k18, .ref k19, .ref k20, .ref k21, .ref k22, .ref k23, .ref k24, .ref k25])), (k6, .inl (cI, 96, .inl (fl 4 (strk np P h i)))), (k7, .inl (cI, 24, .inl ((strk np P h i) 4))), (k8, .inl (cZ, 24, .inl (upd ((strk np P h i) 5) i 1))), (k9, .inl (cI, 5, .inl (G 0))), (k10, .inl (cI, 5, .inl (G 1))), (k11, .inl (cI, 5, .inl (G 2))), (k12, .inl (cI, 5, .inl (G 3))), (k13, .inl (cI, 5, .inl (G 4))), (k14, .inl (cI, 5, .inl (mc))), (k15, .inl (cZ, 5, .inl (G 5))), (k16, .inl (cI, 200, .inl (N 0))), (k17, .inl (cI, 200, .inl (N 1))), (k18, .inl (cI, 200, .inl (N 2))), (k19, .inl (cI, 200, .inl (N 3))), (k20, .inl (cI, 200, .inl (N 4))), (k21, .inl (cI, 20, .inl (B 0))), (k22, .inl (cI, 20, .inl (B 1))), (k23, .inl (cI, 20, .inl (B 2))), (k24, .inl (cI, 20, .inl (B 3))), (k25, .inl (cI, 1200, .inl (fl 6 E)))] := hD
          refine lv_iinc (v := (nI i) + 1) (lv' := [(2, .int (((nI i) + 1))), (0, .ref o5), (1, .int ((nI h)))]) hx hb dX5_strikes_26 hl (k := 2) rfl rfl (by decide) rfl (fun ls hl => ?_)
          refine lv_goto (tgt := 2) hx hb dX5_strikes_29 (by decide) ?_
          rw [nI_1 i] at hl
          have q0 : (fl 4 (strk np P h (i + 1))) = (fl 4 (strk np P h i)) := by first | (rw [strk_fl, strk_fl]; done) | (rw [strk_4, strk_4]; done) | (rw [← strk_yes hi2 he]; rfl)
          have q1 : ((strk np P h (i + 1)) 4) = ((strk np P h i) 4) := by first | (rw [strk_fl, strk_fl]; done) | (rw [strk_4, strk_4]; done) | (rw [← strk_yes hi2 he]; rfl)
          have q2 : ((strk np P h (i + 1)) 5) = (upd ((strk np P h i) 5) i 1) := by first | (rw [strk_fl, strk_fl]; done) | (rw [strk_4, strk_4]; done) | (rw [← strk_yes hi2 he]; rfl)
          have hP : va_P D vwCl [(o5, .inr (5, [.int (nI np), .int (nI nh), .int td, .int (nI nn), .int (nI nb), .int (nI ne), .ref k6, .ref k7, .ref k8, .ref k9, .ref k10, .ref k11, .ref k12, .ref k13, .ref k14, .ref k15, .ref k16, .ref k17, .ref k18, .ref k19, .ref k20, .ref k21, .ref k22, .ref k23, .ref k24, .ref k25])), (k6, .inl (cI, 96, .inl (fl 4 (strk np P h (i + 1))))), (k7, .inl (cI, 24, .inl ((strk np P h (i + 1)) 4))), (k8, .inl (cZ, 24, .inl ((strk np P h (i + 1)) 5))), (k9, .inl (cI, 5, .inl (G 0))), (k10, .inl (cI, 5, .inl (G 1))), (k11, .inl (cI, 5, .inl (G 2))), (k12, .inl (cI, 5, .inl (G 3))), (k13, .inl (cI, 5, .inl (G 4))), (k14, .inl (cI, 5, .inl (mc))), (k15, .inl (cZ, 5, .inl (G 5))), (k16, .inl (cI, 200, .inl (N 0))), (k17, .inl (cI, 200, .inl (N 1))), (k18, .inl (cI, 200, .inl (N 2))), (k19, .inl (cI, 200, .inl (N 3))), (k20, .inl (cI, 200, .inl (N 4))), (k21, .inl (cI, 20, .inl (B 0))), (k22, .inl (cI, 20, .inl (B 1))), (k23, .inl (cI, 20, .inl (B 2))), (k24, .inl (cI, 20, .inl (B 3))), (k25, .inl (cI, 1200, .inl (fl 6 E)))] H := by rw [q0, q1, q2]; exact hP
          have hD : va_D (adr [(o5, .inr (5, [.int (nI np), .int (nI nh), .int td, .int (nI nn), .int (nI nb), .int (nI ne), .ref k6, .ref k7, .ref k8, .ref k9, .ref k10, .ref k11, .ref k12, .ref k13, .ref k14, .ref k15, .ref k16, .ref k17, .ref k18, .ref k19, .ref k20, .ref k21, .ref k22, .ref k23, .ref k24, .ref k25])), (k6, .inl (cI, 96, .inl (fl 4 P))), (k7, .inl (cI, 24, .inl (P 4))), (k8, .inl (cZ, 24, .inl (P 5))), (k9, .inl (cI, 5, .inl (G 0))), (k10, .inl (cI, 5, .inl (G 1))), (k11, .inl (cI, 5, .inl (G 2))), (k12, .inl (cI, 5, .inl (G 3))), (k13, .inl (cI, 5, .inl (G 4))), (k14, .inl (cI, 5, .inl (mc))), (k15, .inl (cZ, 5, .inl (G 5))), (k16, .inl (cI, 200, .inl (N 0))), (k17, .inl (cI, 200, .inl (N 1))), (k18, .inl (cI, 200, .inl (N 2))), (k19, .inl (cI, 200, .inl (N 3))), (k20, .inl (cI, 200, .inl (N 4))), (k21, .inl (cI, 20, .inl (B 0))), (k22, .inl (cI, 20, .inl (B 1))), (k23, .inl (cI, 20, .inl (B 2))), (k24, .inl (cI, 20, .inl (B 3))), (k25, .inl (cI, 1200, .inl (fl 6 E)))]) [(o5, .inr (5, [.int (nI np), .int (nI nh), .int td, .int (nI nn), .int (nI nb), .int (nI ne), .ref k6, .ref k7, .ref k8, .ref k9, .ref k10, .ref k11, .ref k12, .ref k13, .ref k14, .ref k15, .ref k16, .ref k17, .ref k18, .ref k19, .ref k20, .ref k21, .ref k22, .ref k23, .ref k24, .ref k25])), (k6, .inl (cI, 96, .inl (fl 4 (strk np P h (i + 1))))), (k7, .inl (cI, 24, .inl ((strk np P h (i + 1)) 4))), (k8, .inl (cZ, 24, .inl ((strk np P h (i + 1)) 5))), (k9, .inl (cI, 5, .inl (G 0))), (k10, .inl (cI, 5, .inl (G 1))), (k11, .inl (cI, 5, .inl (G 2))), (k12, .inl (cI, 5, .inl (G 3))), (k13, .inl (cI, 5, .inl (G 4))), (k14, .inl (cI, 5, .inl (mc))), (k15, .inl (cZ, 5, .inl (G 5))), (k16, .inl (cI, 200, .inl (N 0))), (k17, .inl (cI, 200, .inl (N 1))), (k18, .inl (cI, 200, .inl (N 2))), (k19, .inl (cI, 200, .inl (N 3))), (k20, .inl (cI, 200, .inl (N 4))), (k21, .inl (cI, 20, .inl (B 0))), (k22, .inl (cI, 20, .inl (B 1))), (k23, .inl (cI, 20, .inl (B 2))), (k24, .inl (cI, 20, .inl (B 3))), (k25, .inl (cI, 1200, .inl (fl 6 E)))] := hD.fst rfl
          exact ih (i + 1) H locs ls (by omega) (by omega) (lv_sub hl [1, 2, 0] rfl) hP hD hS
  have q0 : (fl 4 (strk np P h 0)) = (fl 4 P) := by rw [strk_0]
  have q1 : ((strk np P h 0) 4) = (P 4) := by rw [strk_0]
  have q2 : ((strk np P h 0) 5) = (P 5) := by rw [strk_0]
  have hP : va_P D vwCl [(o5, .inr (5, [.int (nI np), .int (nI nh), .int td, .int (nI nn), .int (nI nb), .int (nI ne), .ref k6, .ref k7, .ref k8, .ref k9, .ref k10, .ref k11, .ref k12, .ref k13, .ref k14, .ref k15, .ref k16, .ref k17, .ref k18, .ref k19, .ref k20, .ref k21, .ref k22, .ref k23, .ref k24, .ref k25])), (k6, .inl (cI, 96, .inl (fl 4 (strk np P h 0)))), (k7, .inl (cI, 24, .inl ((strk np P h 0) 4))), (k8, .inl (cZ, 24, .inl ((strk np P h 0) 5))), (k9, .inl (cI, 5, .inl (G 0))), (k10, .inl (cI, 5, .inl (G 1))), (k11, .inl (cI, 5, .inl (G 2))), (k12, .inl (cI, 5, .inl (G 3))), (k13, .inl (cI, 5, .inl (G 4))), (k14, .inl (cI, 5, .inl (mc))), (k15, .inl (cZ, 5, .inl (G 5))), (k16, .inl (cI, 200, .inl (N 0))), (k17, .inl (cI, 200, .inl (N 1))), (k18, .inl (cI, 200, .inl (N 2))), (k19, .inl (cI, 200, .inl (N 3))), (k20, .inl (cI, 200, .inl (N 4))), (k21, .inl (cI, 20, .inl (B 0))), (k22, .inl (cI, 20, .inl (B 1))), (k23, .inl (cI, 20, .inl (B 2))), (k24, .inl (cI, 20, .inl (B 3))), (k25, .inl (cI, 1200, .inl (fl 6 E)))] H := by rw [q0, q1, q2]; exact hP
  have hD : va_D (adr [(o5, .inr (5, [.int (nI np), .int (nI nh), .int td, .int (nI nn), .int (nI nb), .int (nI ne), .ref k6, .ref k7, .ref k8, .ref k9, .ref k10, .ref k11, .ref k12, .ref k13, .ref k14, .ref k15, .ref k16, .ref k17, .ref k18, .ref k19, .ref k20, .ref k21, .ref k22, .ref k23, .ref k24, .ref k25])), (k6, .inl (cI, 96, .inl (fl 4 P))), (k7, .inl (cI, 24, .inl (P 4))), (k8, .inl (cZ, 24, .inl (P 5))), (k9, .inl (cI, 5, .inl (G 0))), (k10, .inl (cI, 5, .inl (G 1))), (k11, .inl (cI, 5, .inl (G 2))), (k12, .inl (cI, 5, .inl (G 3))), (k13, .inl (cI, 5, .inl (G 4))), (k14, .inl (cI, 5, .inl (mc))), (k15, .inl (cZ, 5, .inl (G 5))), (k16, .inl (cI, 200, .inl (N 0))), (k17, .inl (cI, 200, .inl (N 1))), (k18, .inl (cI, 200, .inl (N 2))), (k19, .inl (cI, 200, .inl (N 3))), (k20, .inl (cI, 200, .inl (N 4))), (k21, .inl (cI, 20, .inl (B 0))), (k22, .inl (cI, 20, .inl (B 1))), (k23, .inl (cI, 20, .inl (B 2))), (k24, .inl (cI, 20, .inl (B 3))), (k25, .inl (cI, 1200, .inl (fl 6 E)))]) [(o5, .inr (5, [.int (nI np), .int (nI nh), .int td, .int (nI nn), .int (nI nb), .int (nI ne), .ref k6, .ref k7, .ref k8, .ref k9, .ref k10, .ref k11, .ref k12, .ref k13, .ref k14, .ref k15, .ref k16, .ref k17, .ref k18, .ref k19, .ref k20, .ref k21, .ref k22, .ref k23, .ref k24, .ref k25])), (k6, .inl (cI, 96, .inl (fl 4 (strk np P h 0)))), (k7, .inl (cI, 24, .inl ((strk np P h 0) 4))), (k8, .inl (cZ, 24, .inl ((strk np P h 0) 5))), (k9, .inl (cI, 5, .inl (G 0))), (k10, .inl (cI, 5, .inl (G 1))), (k11, .inl (cI, 5, .inl (G 2))), (k12, .inl (cI, 5, .inl (G 3))), (k13, .inl (cI, 5, .inl (G 4))), (k14, .inl (cI, 5, .inl (mc))), (k15, .inl (cZ, 5, .inl (G 5))), (k16, .inl (cI, 200, .inl (N 0))), (k17, .inl (cI, 200, .inl (N 1))), (k18, .inl (cI, 200, .inl (N 2))), (k19, .inl (cI, 200, .inl (N 3))), (k20, .inl (cI, 200, .inl (N 4))), (k21, .inl (cI, 20, .inl (B 0))), (k22, .inl (cI, 20, .inl (B 1))), (k23, .inl (cI, 20, .inl (B 2))), (k24, .inl (cI, 20, .inl (B 3))), (k25, .inl (cI, 1200, .inl (fl 6 E)))] := hD.fst rfl
  exact loop (np + 1) 0 H locs ls (by omega) (by omega) (lv_sub hl [1, 2, 0] rfl) hP hD hS
set_option maxHeartbeats 4000000 in
set_option maxRecDepth 100000 in
theorem kX5_person (l : Launch) (D : va_G) (cI cZ : ClassId) (o5 k6 k7 k8 k9 k10 k11 k12 k13 k14 k15 k16 k17 k18 k19 k20 k21 k22 k23 k24 k25 np nh nn nb ne : Nat) (td : Int32) (P G N B E : Nat → Nat → Int32) (mc : Nat → Int32) (a : Int32) (b : Int32) (c : Int32) (d : Int32) (hnp : np ≤ 24) (hs0 : ∀ p, np ≤ p → P 5 p = 0) : Met l yX5_person wsX5_person ({ frames := 1, cells := 0, slots := 0, locals := 20 } : Room) (MuP D [(cI, .int), (cZ, .boolean)] [.ref o5, .int a, .int b, .int c, .int d] [(o5, .inr (5, [.int (nI np), .int (nI nh), .int td, .int (nI nn), .int (nI nb), .int (nI ne), .ref k6, .ref k7, .ref k8, .ref k9, .ref k10, .ref k11, .ref k12, .ref k13, .ref k14, .ref k15, .ref k16, .ref k17, .ref k18, .ref k19, .ref k20, .ref k21, .ref k22, .ref k23, .ref k24, .ref k25])), (k6, .inl (cI, 96, .inl (fl 4 P))), (k7, .inl (cI, 24, .inl (P 4))), (k8, .inl (cZ, 24, .inl (P 5))), (k9, .inl (cI, 5, .inl (G 0))), (k10, .inl (cI, 5, .inl (G 1))), (k11, .inl (cI, 5, .inl (G 2))), (k12, .inl (cI, 5, .inl (G 3))), (k13, .inl (cI, 5, .inl (G 4))), (k14, .inl (cI, 5, .inl (mc))), (k15, .inl (cZ, 5, .inl (G 5))), (k16, .inl (cI, 200, .inl (N 0))), (k17, .inl (cI, 200, .inl (N 1))), (k18, .inl (cI, 200, .inl (N 2))), (k19, .inl (cI, 200, .inl (N 3))), (k20, .inl (cI, 200, .inl (N 4))), (k21, .inl (cI, 20, .inl (B 0))), (k22, .inl (cI, 20, .inl (B 1))), (k23, .inl (cI, 20, .inl (B 2))), (k24, .inl (cI, 20, .inl (B 3))), (k25, .inl (cI, 1200, .inl (fl 6 E)))]) (QM D (some (.int (if okM a b c d = true then arow 24 np else -1))) [(o5, .inr (5, [.int (nI np), .int (nI nh), .int td, .int (nI nn), .int (nI nb), .int (nI ne), .ref k6, .ref k7, .ref k8, .ref k9, .ref k10, .ref k11, .ref k12, .ref k13, .ref k14, .ref k15, .ref k16, .ref k17, .ref k18, .ref k19, .ref k20, .ref k21, .ref k22, .ref k23, .ref k24, .ref k25])), (k6, .inl (cI, 96, .inl (fl 4 P))), (k7, .inl (cI, 24, .inl (P 4))), (k8, .inl (cZ, 24, .inl (P 5))), (k9, .inl (cI, 5, .inl (G 0))), (k10, .inl (cI, 5, .inl (G 1))), (k11, .inl (cI, 5, .inl (G 2))), (k12, .inl (cI, 5, .inl (G 3))), (k13, .inl (cI, 5, .inl (G 4))), (k14, .inl (cI, 5, .inl (mc))), (k15, .inl (cZ, 5, .inl (G 5))), (k16, .inl (cI, 200, .inl (N 0))), (k17, .inl (cI, 200, .inl (N 1))), (k18, .inl (cI, 200, .inl (N 2))), (k19, .inl (cI, 200, .inl (N 3))), (k20, .inl (cI, 200, .inl (N 4))), (k21, .inl (cI, 20, .inl (B 0))), (k22, .inl (cI, 20, .inl (B 1))), (k23, .inl (cI, 20, .inl (B 2))), (k24, .inl (cI, 20, .inl (B 3))), (k25, .inl (cI, 1200, .inl (fl 6 E)))] [(o5, .inr (5, [.int (nI (if okM a b c d = true then adn 24 np else np)), .int (nI nh), .int td, .int (nI nn), .int (nI nb), .int (nI ne), .ref k6, .ref k7, .ref k8, .ref k9, .ref k10, .ref k11, .ref k12, .ref k13, .ref k14, .ref k15, .ref k16, .ref k17, .ref k18, .ref k19, .ref k20, .ref k21, .ref k22, .ref k23, .ref k24, .ref k25])), (k6, .inl (cI, 96, .inl (fl 4 (if okM a b c d = true then paddT np P a b c d else P)))), (k7, .inl (cI, 24, .inl ((if okM a b c d = true then paddT np P a b c d else P) 4))), (k8, .inl (cZ, 24, .inl ((if okM a b c d = true then paddT np P a b c d else P) 5))), (k9, .inl (cI, 5, .inl (G 0))), (k10, .inl (cI, 5, .inl (G 1))), (k11, .inl (cI, 5, .inl (G 2))), (k12, .inl (cI, 5, .inl (G 3))), (k13, .inl (cI, 5, .inl (G 4))), (k14, .inl (cI, 5, .inl (mc))), (k15, .inl (cZ, 5, .inl (G 5))), (k16, .inl (cI, 200, .inl (N 0))), (k17, .inl (cI, 200, .inl (N 1))), (k18, .inl (cI, 200, .inl (N 2))), (k19, .inl (cI, 200, .inl (N 3))), (k20, .inl (cI, 200, .inl (N 4))), (k21, .inl (cI, 20, .inl (B 0))), (k22, .inl (cI, 20, .inl (B 1))), (k23, .inl (cI, 20, .inl (B 2))), (k24, .inl (cI, 20, .inl (B 3))), (k25, .inl (cI, 1200, .inl (fl 6 E)))]) 0 0 (adr [(o5, .inr (5, [.int (nI np), .int (nI nh), .int td, .int (nI nn), .int (nI nb), .int (nI ne), .ref k6, .ref k7, .ref k8, .ref k9, .ref k10, .ref k11, .ref k12, .ref k13, .ref k14, .ref k15, .ref k16, .ref k17, .ref k18, .ref k19, .ref k20, .ref k21, .ref k22, .ref k23, .ref k24, .ref k25])), (k6, .inl (cI, 96, .inl (fl 4 P))), (k7, .inl (cI, 24, .inl (P 4))), (k8, .inl (cZ, 24, .inl (P 5))), (k9, .inl (cI, 5, .inl (G 0))), (k10, .inl (cI, 5, .inl (G 1))), (k11, .inl (cI, 5, .inl (G 2))), (k12, .inl (cI, 5, .inl (G 3))), (k13, .inl (cI, 5, .inl (G 4))), (k14, .inl (cI, 5, .inl (mc))), (k15, .inl (cZ, 5, .inl (G 5))), (k16, .inl (cI, 200, .inl (N 0))), (k17, .inl (cI, 200, .inl (N 1))), (k18, .inl (cI, 200, .inl (N 2))), (k19, .inl (cI, 200, .inl (N 3))), (k20, .inl (cI, 200, .inl (N 4))), (k21, .inl (cI, 20, .inl (B 0))), (k22, .inl (cI, 20, .inl (B 1))), (k23, .inl (cI, 20, .inl (B 2))), (k24, .inl (cI, 20, .inl (B 3))), (k25, .inl (cI, 1200, .inl (fl 6 E)))]) := by
  refine mu_of (cc := cX5_person) (maxL := 5) (ret := (some .int)) (by decide) rfl (Nat.le_of_ble_eq_true rfl) ?_
  intro pp ee ss mm bw me cd ls hx hb hr hts hown hlocks hml hK hl H locs hP hD hS
  have hl : lv_has ls 5 [(0, .ref o5), (1, .int a), (2, .int b), (3, .int c), (4, .int d)] := hl
  have hf71 := hts (.fieldLink RX5 71 "OtherNamesModel" "people" "I") (by decide +kernel)
  have hin5 := (show ∀ w ∈ wsX50, w ∈ wsX5_person by decide +kernel)
  have hf7 := hts (.fieldLink RX5 7 "OtherNamesModel" "marks" "[I") (by decide +kernel)
  have hf13 := hts (.fieldLink RX5 13 "OtherNamesModel" "within" "[I") (by decide +kernel)
  refine lv_iload_n hx hb dX5_person_0 rfl (lv_at hl 1 rfl) ?_
  refine rcS (As := [.int a]) (rest := []) ⟨hx, hb, hml, hown, hts⟩ (kX5_isMark l D cI cZ a) (va_cwS 1 hts gX5_person_X5_isMark rfl rfl rfl (by decide +kernel) ⟨Nat.le_of_ble_eq_true rfl, Nat.le_of_ble_eq_true rfl⟩) hK hP [] rfl rfl hl.1 rfl (Nat.le_of_ble_eq_true rfl) ⟨Nat.zero_le _, Nat.zero_le _⟩ dX5_person_1 ?_
  refine lb_eq (tgt := 38) hx hb dX5_person_4 (by decide) (fun c_4 => ?_) (fun c_4 => ?_)
  · skip
    refine lv_iconst (v := (-1)) hx hb dX5_person_38 (by decide) ?_
    refine mu_iret hx hb hr hlocks hS dX5_person_39 ?_ ?_
    · rw [if_neg (by simp [okM, c_4])]
    have q0 : (nI (if okM a b c d = true then adn 24 np else np)) = (nI np) := by rw [if_neg (by simp [okM, c_4])]
    have q1 : (fl 4 (if okM a b c d = true then paddT np P a b c d else P)) = (fl 4 P) := by rw [if_neg (by simp [okM, c_4])]
    have q2 : ((if okM a b c d = true then paddT np P a b c d else P) 4) = (P 4) := by rw [if_neg (by simp [okM, c_4])]
    have q3 : ((if okM a b c d = true then paddT np P a b c d else P) 5) = (P 5) := by rw [if_neg (by simp [okM, c_4])]
    rw [q0, q1, q2, q3]
    exact hP
  · skip
    refine lv_iload_n hx hb dX5_person_7 rfl (lv_at hl 2 rfl) ?_
    refine rcS (As := [.int b]) (rest := []) ⟨hx, hb, hml, hown, hts⟩ (kX5_isMark l D cI cZ b) (va_cwS 1 hts gX5_person_X5_isMark rfl rfl rfl (by decide +kernel) ⟨Nat.le_of_ble_eq_true rfl, Nat.le_of_ble_eq_true rfl⟩) hK hP [] rfl rfl hl.1 rfl (Nat.le_of_ble_eq_true rfl) ⟨Nat.zero_le _, Nat.zero_le _⟩ dX5_person_8 ?_
    refine lb_eq (tgt := 38) hx hb dX5_person_11 (by decide) (fun c_11 => ?_) (fun c_11 => ?_)
    · skip
      refine lv_iconst (v := (-1)) hx hb dX5_person_38 (by decide) ?_
      refine mu_iret hx hb hr hlocks hS dX5_person_39 ?_ ?_
      · rw [if_neg (by simp [okM, c_4, c_11])]
      have q0 : (nI (if okM a b c d = true then adn 24 np else np)) = (nI np) := by rw [if_neg (by simp [okM, c_4, c_11])]
      have q1 : (fl 4 (if okM a b c d = true then paddT np P a b c d else P)) = (fl 4 P) := by rw [if_neg (by simp [okM, c_4, c_11])]
      have q2 : ((if okM a b c d = true then paddT np P a b c d else P) 4) = (P 4) := by rw [if_neg (by simp [okM, c_4, c_11])]
      have q3 : ((if okM a b c d = true then paddT np P a b c d else P) 5) = (P 5) := by rw [if_neg (by simp [okM, c_4, c_11])]
      rw [q0, q1, q2, q3]
      exact hP
    · skip
      refine lv_iload_n hx hb dX5_person_14 rfl (lv_at hl 3 rfl) ?_
      refine rcS (As := [.int c]) (rest := []) ⟨hx, hb, hml, hown, hts⟩ (kX5_isMark l D cI cZ c) (va_cwS 1 hts gX5_person_X5_isMark rfl rfl rfl (by decide +kernel) ⟨Nat.le_of_ble_eq_true rfl, Nat.le_of_ble_eq_true rfl⟩) hK hP [] rfl rfl hl.1 rfl (Nat.le_of_ble_eq_true rfl) ⟨Nat.zero_le _, Nat.zero_le _⟩ dX5_person_15 ?_
      refine lb_eq (tgt := 38) hx hb dX5_person_18 (by decide) (fun c_18 => ?_) (fun c_18 => ?_)
      · skip
        refine lv_iconst (v := (-1)) hx hb dX5_person_38 (by decide) ?_
        refine mu_iret hx hb hr hlocks hS dX5_person_39 ?_ ?_
        · rw [if_neg (by simp [okM, c_4, c_11, c_18])]
        have q0 : (nI (if okM a b c d = true then adn 24 np else np)) = (nI np) := by rw [if_neg (by simp [okM, c_4, c_11, c_18])]
        have q1 : (fl 4 (if okM a b c d = true then paddT np P a b c d else P)) = (fl 4 P) := by rw [if_neg (by simp [okM, c_4, c_11, c_18])]
        have q2 : ((if okM a b c d = true then paddT np P a b c d else P) 4) = (P 4) := by rw [if_neg (by simp [okM, c_4, c_11, c_18])]
        have q3 : ((if okM a b c d = true then paddT np P a b c d else P) 5) = (P 5) := by rw [if_neg (by simp [okM, c_4, c_11, c_18])]
        rw [q0, q1, q2, q3]
        exact hP
      · skip
        refine lv_iload hx hb dX5_person_21 (lv_at hl 4 rfl) ?_
        refine rcS (As := [.int d]) (rest := []) ⟨hx, hb, hml, hown, hts⟩ (kX5_isMark l D cI cZ d) (va_cwS 1 hts gX5_person_X5_isMark rfl rfl rfl (by decide +kernel) ⟨Nat.le_of_ble_eq_true rfl, Nat.le_of_ble_eq_true rfl⟩) hK hP [] rfl rfl hl.1 rfl (Nat.le_of_ble_eq_true rfl) ⟨Nat.zero_le _, Nat.zero_le _⟩ dX5_person_23 ?_
        refine lb_eq (tgt := 38) hx hb dX5_person_26 (by decide) (fun c_26 => ?_) (fun c_26 => ?_)
        · skip
          refine lv_iconst (v := (-1)) hx hb dX5_person_38 (by decide) ?_
          refine mu_iret hx hb hr hlocks hS dX5_person_39 ?_ ?_
          · rw [if_neg (by simp [okM, c_4, c_11, c_18, c_26])]
          have q0 : (nI (if okM a b c d = true then adn 24 np else np)) = (nI np) := by rw [if_neg (by simp [okM, c_4, c_11, c_18, c_26])]
          have q1 : (fl 4 (if okM a b c d = true then paddT np P a b c d else P)) = (fl 4 P) := by rw [if_neg (by simp [okM, c_4, c_11, c_18, c_26])]
          have q2 : ((if okM a b c d = true then paddT np P a b c d else P) 4) = (P 4) := by rw [if_neg (by simp [okM, c_4, c_11, c_18, c_26])]
          have q3 : ((if okM a b c d = true then paddT np P a b c d else P) 5) = (P 5) := by rw [if_neg (by simp [okM, c_4, c_11, c_18, c_26])]
          rw [q0, q1, q2, q3]
          exact hP
        · skip
          refine lv_aload_n hx hb dX5_person_29 rfl (lv_at hl 0 rfl) ?_
          refine va_get (D := D) (ci := 5) (v := .int (nI np)) (C := RX5) (T := TX5) (N := 26) hx hb hts hin5 hown hK hP 0 rfl rfl 0 (by decide) hf71 (fun _ h9 => h9) rfl dX5_person_30 ?_
          refine lv_bipush (v := 24) hx hb dX5_person_33 (by decide) ?_
          refine lv_icmp_ne (tgt := 40) hx hb dX5_person_35 (by decide) (fun c_35 => ?_) (fun c_35 => ?_)
          · skip
            have hlt : np < 24 := Nat.lt_of_le_of_ne hnp (nI_neq (N := 24) c_35 rfl)
            refine lv_aload_n hx hb dX5_person_40 rfl (lv_at hl 0 rfl) ?_
            refine va_get (D := D) (ci := 5) (v := .ref k6) (C := RX5) (T := TX5) (N := 26) hx hb hts hin5 hown hK hP 0 rfl rfl 6 (by decide) hf7 (fun _ h9 => h9) rfl dX5_person_41 ?_
            refine lv_iconst (v := 4) hx hb dX5_person_44 (by decide) ?_
            refine lv_aload_n hx hb dX5_person_45 rfl (lv_at hl 0 rfl) ?_
            refine va_get (D := D) (ci := 5) (v := .int (nI np)) (C := RX5) (T := TX5) (N := 26) hx hb hts hin5 hown hK hP 0 rfl rfl 0 (by decide) hf71 (fun _ h9 => h9) rfl dX5_person_46 ?_
            refine lv_imul hx hb dX5_person_49 ?_
            refine lv_iload_n hx hb dX5_person_50 rfl (lv_at hl 1 rfl) ?_
            refine va_iastN (D := D) (cl := vwCl) (cA := cI) (f := fl 4 P) (x := a) hx hb hK hP hD hS 1 0 rfl rfl (np * 4 + 0) (mulI 4 np) (by omega) (by first | decide | assumption) dX5_person_51 (fun H locs hP hD hS => ?_)
            have hP : va_P D vwCl [(o5, .inr (5, [.int (nI np), .int (nI nh), .int td, .int (nI nn), .int (nI nb), .int (nI ne), .ref k6, .ref k7, .ref k8, .ref k9, .ref k10, .ref k11, .ref k12, .ref k13, .ref k14, .ref k15, .ref k16, .ref k17, .ref k18, .ref k19, .ref k20, .ref k21, .ref k22, .ref k23, .ref k24, .ref k25])), (k6, .inl (cI, 96, .inl (upd (fl 4 P) (np * 4 + 0) a))), (k7, .inl (cI, 24, .inl (P 4))), (k8, .inl (cZ, 24, .inl (P 5))), (k9, .inl (cI, 5, .inl (G 0))), (k10, .inl (cI, 5, .inl (G 1))), (k11, .inl (cI, 5, .inl (G 2))), (k12, .inl (cI, 5, .inl (G 3))), (k13, .inl (cI, 5, .inl (G 4))), (k14, .inl (cI, 5, .inl (mc))), (k15, .inl (cZ, 5, .inl (G 5))), (k16, .inl (cI, 200, .inl (N 0))), (k17, .inl (cI, 200, .inl (N 1))), (k18, .inl (cI, 200, .inl (N 2))), (k19, .inl (cI, 200, .inl (N 3))), (k20, .inl (cI, 200, .inl (N 4))), (k21, .inl (cI, 20, .inl (B 0))), (k22, .inl (cI, 20, .inl (B 1))), (k23, .inl (cI, 20, .inl (B 2))), (k24, .inl (cI, 20, .inl (B 3))), (k25, .inl (cI, 1200, .inl (fl 6 E)))] H := hP
            have hD : va_D (adr _) [(o5, .inr (5, [.int (nI np), .int (nI nh), .int td, .int (nI nn), .int (nI nb), .int (nI ne), .ref k6, .ref k7, .ref k8, .ref k9, .ref k10, .ref k11, .ref k12, .ref k13, .ref k14, .ref k15, .ref k16, .ref k17, .ref k18, .ref k19, .ref k20, .ref k21, .ref k22, .ref k23, .ref k24, .ref k25])), (k6, .inl (cI, 96, .inl (upd (fl 4 P) (np * 4 + 0) a))), (k7, .inl (cI, 24, .inl (P 4))), (k8, .inl (cZ, 24, .inl (P 5))), (k9, .inl (cI, 5, .inl (G 0))), (k10, .inl (cI, 5, .inl (G 1))), (k11, .inl (cI, 5, .inl (G 2))), (k12, .inl (cI, 5, .inl (G 3))), (k13, .inl (cI, 5, .inl (G 4))), (k14, .inl (cI, 5, .inl (mc))), (k15, .inl (cZ, 5, .inl (G 5))), (k16, .inl (cI, 200, .inl (N 0))), (k17, .inl (cI, 200, .inl (N 1))), (k18, .inl (cI, 200, .inl (N 2))), (k19, .inl (cI, 200, .inl (N 3))), (k20, .inl (cI, 200, .inl (N 4))), (k21, .inl (cI, 20, .inl (B 0))), (k22, .inl (cI, 20, .inl (B 1))), (k23, .inl (cI, 20, .inl (B 2))), (k24, .inl (cI, 20, .inl (B 3))), (k25, .inl (cI, 1200, .inl (fl 6 E)))] := hD
            refine lv_aload_n hx hb dX5_person_52 rfl (lv_at hl 0 rfl) ?_
            refine va_get (D := D) (ci := 5) (v := .ref k6) (C := RX5) (T := TX5) (N := 26) hx hb hts hin5 hown hK hP 0 rfl rfl 6 (by decide) hf7 (fun _ h9 => h9) rfl dX5_person_53 ?_
            refine lv_iconst (v := 4) hx hb dX5_person_56 (by decide) ?_
            refine lv_aload_n hx hb dX5_person_57 rfl (lv_at hl 0 rfl) ?_
            refine va_get (D := D) (ci := 5) (v := .int (nI np)) (C := RX5) (T := TX5) (N := 26) hx hb hts hin5 hown hK hP 0 rfl rfl 0 (by decide) hf71 (fun _ h9 => h9) rfl dX5_person_58 ?_
            refine lv_imul hx hb dX5_person_61 ?_
            refine lv_iconst (v := 1) hx hb dX5_person_62 (by decide) ?_
            refine lv_iadd hx hb dX5_person_63 ?_
            refine lv_iload_n hx hb dX5_person_64 rfl (lv_at hl 2 rfl) ?_
            refine va_iastN (D := D) (cl := vwCl) (cA := cI) (f := upd (fl 4 P) (np * 4 + 0) a) (x := b) hx hb hK hP hD hS 1 0 rfl rfl (np * 4 + 1) (ixI 4 np 1) (by omega) (by first | decide | assumption) dX5_person_65 (fun H locs hP hD hS => ?_)
            have hP : va_P D vwCl [(o5, .inr (5, [.int (nI np), .int (nI nh), .int td, .int (nI nn), .int (nI nb), .int (nI ne), .ref k6, .ref k7, .ref k8, .ref k9, .ref k10, .ref k11, .ref k12, .ref k13, .ref k14, .ref k15, .ref k16, .ref k17, .ref k18, .ref k19, .ref k20, .ref k21, .ref k22, .ref k23, .ref k24, .ref k25])), (k6, .inl (cI, 96, .inl (upd (upd (fl 4 P) (np * 4 + 0) a) (np * 4 + 1) b))), (k7, .inl (cI, 24, .inl (P 4))), (k8, .inl (cZ, 24, .inl (P 5))), (k9, .inl (cI, 5, .inl (G 0))), (k10, .inl (cI, 5, .inl (G 1))), (k11, .inl (cI, 5, .inl (G 2))), (k12, .inl (cI, 5, .inl (G 3))), (k13, .inl (cI, 5, .inl (G 4))), (k14, .inl (cI, 5, .inl (mc))), (k15, .inl (cZ, 5, .inl (G 5))), (k16, .inl (cI, 200, .inl (N 0))), (k17, .inl (cI, 200, .inl (N 1))), (k18, .inl (cI, 200, .inl (N 2))), (k19, .inl (cI, 200, .inl (N 3))), (k20, .inl (cI, 200, .inl (N 4))), (k21, .inl (cI, 20, .inl (B 0))), (k22, .inl (cI, 20, .inl (B 1))), (k23, .inl (cI, 20, .inl (B 2))), (k24, .inl (cI, 20, .inl (B 3))), (k25, .inl (cI, 1200, .inl (fl 6 E)))] H := hP
            have hD : va_D (adr _) [(o5, .inr (5, [.int (nI np), .int (nI nh), .int td, .int (nI nn), .int (nI nb), .int (nI ne), .ref k6, .ref k7, .ref k8, .ref k9, .ref k10, .ref k11, .ref k12, .ref k13, .ref k14, .ref k15, .ref k16, .ref k17, .ref k18, .ref k19, .ref k20, .ref k21, .ref k22, .ref k23, .ref k24, .ref k25])), (k6, .inl (cI, 96, .inl (upd (upd (fl 4 P) (np * 4 + 0) a) (np * 4 + 1) b))), (k7, .inl (cI, 24, .inl (P 4))), (k8, .inl (cZ, 24, .inl (P 5))), (k9, .inl (cI, 5, .inl (G 0))), (k10, .inl (cI, 5, .inl (G 1))), (k11, .inl (cI, 5, .inl (G 2))), (k12, .inl (cI, 5, .inl (G 3))), (k13, .inl (cI, 5, .inl (G 4))), (k14, .inl (cI, 5, .inl (mc))), (k15, .inl (cZ, 5, .inl (G 5))), (k16, .inl (cI, 200, .inl (N 0))), (k17, .inl (cI, 200, .inl (N 1))), (k18, .inl (cI, 200, .inl (N 2))), (k19, .inl (cI, 200, .inl (N 3))), (k20, .inl (cI, 200, .inl (N 4))), (k21, .inl (cI, 20, .inl (B 0))), (k22, .inl (cI, 20, .inl (B 1))), (k23, .inl (cI, 20, .inl (B 2))), (k24, .inl (cI, 20, .inl (B 3))), (k25, .inl (cI, 1200, .inl (fl 6 E)))] := hD
            refine lv_aload_n hx hb dX5_person_66 rfl (lv_at hl 0 rfl) ?_
            refine va_get (D := D) (ci := 5) (v := .ref k6) (C := RX5) (T := TX5) (N := 26) hx hb hts hin5 hown hK hP 0 rfl rfl 6 (by decide) hf7 (fun _ h9 => h9) rfl dX5_person_67 ?_
            refine lv_iconst (v := 4) hx hb dX5_person_70 (by decide) ?_
            refine lv_aload_n hx hb dX5_person_71 rfl (lv_at hl 0 rfl) ?_
            refine va_get (D := D) (ci := 5) (v := .int (nI np)) (C := RX5) (T := TX5) (N := 26) hx hb hts hin5 hown hK hP 0 rfl rfl 0 (by decide) hf71 (fun _ h9 => h9) rfl dX5_person_72 ?_
            refine lv_imul hx hb dX5_person_75 ?_
            refine lv_iconst (v := 2) hx hb dX5_person_76 (by decide) ?_
            refine lv_iadd hx hb dX5_person_77 ?_
            refine lv_iload_n hx hb dX5_person_78 rfl (lv_at hl 3 rfl) ?_
            refine va_iastN (D := D) (cl := vwCl) (cA := cI) (f := upd (upd (fl 4 P) (np * 4 + 0) a) (np * 4 + 1) b) (x := c) hx hb hK hP hD hS 1 0 rfl rfl (np * 4 + 2) (ixI 4 np 2) (by omega) (by first | decide | assumption) dX5_person_79 (fun H locs hP hD hS => ?_)
            have hP : va_P D vwCl [(o5, .inr (5, [.int (nI np), .int (nI nh), .int td, .int (nI nn), .int (nI nb), .int (nI ne), .ref k6, .ref k7, .ref k8, .ref k9, .ref k10, .ref k11, .ref k12, .ref k13, .ref k14, .ref k15, .ref k16, .ref k17, .ref k18, .ref k19, .ref k20, .ref k21, .ref k22, .ref k23, .ref k24, .ref k25])), (k6, .inl (cI, 96, .inl (upd (upd (upd (fl 4 P) (np * 4 + 0) a) (np * 4 + 1) b) (np * 4 + 2) c))), (k7, .inl (cI, 24, .inl (P 4))), (k8, .inl (cZ, 24, .inl (P 5))), (k9, .inl (cI, 5, .inl (G 0))), (k10, .inl (cI, 5, .inl (G 1))), (k11, .inl (cI, 5, .inl (G 2))), (k12, .inl (cI, 5, .inl (G 3))), (k13, .inl (cI, 5, .inl (G 4))), (k14, .inl (cI, 5, .inl (mc))), (k15, .inl (cZ, 5, .inl (G 5))), (k16, .inl (cI, 200, .inl (N 0))), (k17, .inl (cI, 200, .inl (N 1))), (k18, .inl (cI, 200, .inl (N 2))), (k19, .inl (cI, 200, .inl (N 3))), (k20, .inl (cI, 200, .inl (N 4))), (k21, .inl (cI, 20, .inl (B 0))), (k22, .inl (cI, 20, .inl (B 1))), (k23, .inl (cI, 20, .inl (B 2))), (k24, .inl (cI, 20, .inl (B 3))), (k25, .inl (cI, 1200, .inl (fl 6 E)))] H := hP
            have hD : va_D (adr _) [(o5, .inr (5, [.int (nI np), .int (nI nh), .int td, .int (nI nn), .int (nI nb), .int (nI ne), .ref k6, .ref k7, .ref k8, .ref k9, .ref k10, .ref k11, .ref k12, .ref k13, .ref k14, .ref k15, .ref k16, .ref k17, .ref k18, .ref k19, .ref k20, .ref k21, .ref k22, .ref k23, .ref k24, .ref k25])), (k6, .inl (cI, 96, .inl (upd (upd (upd (fl 4 P) (np * 4 + 0) a) (np * 4 + 1) b) (np * 4 + 2) c))), (k7, .inl (cI, 24, .inl (P 4))), (k8, .inl (cZ, 24, .inl (P 5))), (k9, .inl (cI, 5, .inl (G 0))), (k10, .inl (cI, 5, .inl (G 1))), (k11, .inl (cI, 5, .inl (G 2))), (k12, .inl (cI, 5, .inl (G 3))), (k13, .inl (cI, 5, .inl (G 4))), (k14, .inl (cI, 5, .inl (mc))), (k15, .inl (cZ, 5, .inl (G 5))), (k16, .inl (cI, 200, .inl (N 0))), (k17, .inl (cI, 200, .inl (N 1))), (k18, .inl (cI, 200, .inl (N 2))), (k19, .inl (cI, 200, .inl (N 3))), (k20, .inl (cI, 200, .inl (N 4))), (k21, .inl (cI, 20, .inl (B 0))), (k22, .inl (cI, 20, .inl (B 1))), (k23, .inl (cI, 20, .inl (B 2))), (k24, .inl (cI, 20, .inl (B 3))), (k25, .inl (cI, 1200, .inl (fl 6 E)))] := hD
            refine lv_aload_n hx hb dX5_person_80 rfl (lv_at hl 0 rfl) ?_
            refine va_get (D := D) (ci := 5) (v := .ref k6) (C := RX5) (T := TX5) (N := 26) hx hb hts hin5 hown hK hP 0 rfl rfl 6 (by decide) hf7 (fun _ h9 => h9) rfl dX5_person_81 ?_
            refine lv_iconst (v := 4) hx hb dX5_person_84 (by decide) ?_
            refine lv_aload_n hx hb dX5_person_85 rfl (lv_at hl 0 rfl) ?_
            refine va_get (D := D) (ci := 5) (v := .int (nI np)) (C := RX5) (T := TX5) (N := 26) hx hb hts hin5 hown hK hP 0 rfl rfl 0 (by decide) hf71 (fun _ h9 => h9) rfl dX5_person_86 ?_
            refine lv_imul hx hb dX5_person_89 ?_
            refine lv_iconst (v := 3) hx hb dX5_person_90 (by decide) ?_
            refine lv_iadd hx hb dX5_person_91 ?_
            refine lv_iload hx hb dX5_person_92 (lv_at hl 4 rfl) ?_
            refine va_iastN (D := D) (cl := vwCl) (cA := cI) (f := upd (upd (upd (fl 4 P) (np * 4 + 0) a) (np * 4 + 1) b) (np * 4 + 2) c) (x := d) hx hb hK hP hD hS 1 0 rfl rfl (np * 4 + 3) (ixI 4 np 3) (by omega) (by first | decide | assumption) dX5_person_94 (fun H locs hP hD hS => ?_)
            have hP : va_P D vwCl [(o5, .inr (5, [.int (nI np), .int (nI nh), .int td, .int (nI nn), .int (nI nb), .int (nI ne), .ref k6, .ref k7, .ref k8, .ref k9, .ref k10, .ref k11, .ref k12, .ref k13, .ref k14, .ref k15, .ref k16, .ref k17, .ref k18, .ref k19, .ref k20, .ref k21, .ref k22, .ref k23, .ref k24, .ref k25])), (k6, .inl (cI, 96, .inl (upd (upd (upd (upd (fl 4 P) (np * 4 + 0) a) (np * 4 + 1) b) (np * 4 + 2) c) (np * 4 + 3) d))), (k7, .inl (cI, 24, .inl (P 4))), (k8, .inl (cZ, 24, .inl (P 5))), (k9, .inl (cI, 5, .inl (G 0))), (k10, .inl (cI, 5, .inl (G 1))), (k11, .inl (cI, 5, .inl (G 2))), (k12, .inl (cI, 5, .inl (G 3))), (k13, .inl (cI, 5, .inl (G 4))), (k14, .inl (cI, 5, .inl (mc))), (k15, .inl (cZ, 5, .inl (G 5))), (k16, .inl (cI, 200, .inl (N 0))), (k17, .inl (cI, 200, .inl (N 1))), (k18, .inl (cI, 200, .inl (N 2))), (k19, .inl (cI, 200, .inl (N 3))), (k20, .inl (cI, 200, .inl (N 4))), (k21, .inl (cI, 20, .inl (B 0))), (k22, .inl (cI, 20, .inl (B 1))), (k23, .inl (cI, 20, .inl (B 2))), (k24, .inl (cI, 20, .inl (B 3))), (k25, .inl (cI, 1200, .inl (fl 6 E)))] H := hP
            have hD : va_D (adr _) [(o5, .inr (5, [.int (nI np), .int (nI nh), .int td, .int (nI nn), .int (nI nb), .int (nI ne), .ref k6, .ref k7, .ref k8, .ref k9, .ref k10, .ref k11, .ref k12, .ref k13, .ref k14, .ref k15, .ref k16, .ref k17, .ref k18, .ref k19, .ref k20, .ref k21, .ref k22, .ref k23, .ref k24, .ref k25])), (k6, .inl (cI, 96, .inl (upd (upd (upd (upd (fl 4 P) (np * 4 + 0) a) (np * 4 + 1) b) (np * 4 + 2) c) (np * 4 + 3) d))), (k7, .inl (cI, 24, .inl (P 4))), (k8, .inl (cZ, 24, .inl (P 5))), (k9, .inl (cI, 5, .inl (G 0))), (k10, .inl (cI, 5, .inl (G 1))), (k11, .inl (cI, 5, .inl (G 2))), (k12, .inl (cI, 5, .inl (G 3))), (k13, .inl (cI, 5, .inl (G 4))), (k14, .inl (cI, 5, .inl (mc))), (k15, .inl (cZ, 5, .inl (G 5))), (k16, .inl (cI, 200, .inl (N 0))), (k17, .inl (cI, 200, .inl (N 1))), (k18, .inl (cI, 200, .inl (N 2))), (k19, .inl (cI, 200, .inl (N 3))), (k20, .inl (cI, 200, .inl (N 4))), (k21, .inl (cI, 20, .inl (B 0))), (k22, .inl (cI, 20, .inl (B 1))), (k23, .inl (cI, 20, .inl (B 2))), (k24, .inl (cI, 20, .inl (B 3))), (k25, .inl (cI, 1200, .inl (fl 6 E)))] := hD
            refine lv_aload_n hx hb dX5_person_95 rfl (lv_at hl 0 rfl) ?_
            refine va_get (D := D) (ci := 5) (v := .ref k7) (C := RX5) (T := TX5) (N := 26) hx hb hts hin5 hown hK hP 0 rfl rfl 7 (by decide) hf13 (fun _ h9 => h9) rfl dX5_person_96 ?_
            refine lv_aload_n hx hb dX5_person_99 rfl (lv_at hl 0 rfl) ?_
            refine va_get (D := D) (ci := 5) (v := .int (nI np)) (C := RX5) (T := TX5) (N := 26) hx hb hts hin5 hown hK hP 0 rfl rfl 0 (by decide) hf71 (fun _ h9 => h9) rfl dX5_person_100 ?_
            refine lv_iconst (v := (-1)) hx hb dX5_person_103 (by decide) ?_
            refine va_iastN (D := D) (cl := vwCl) (cA := cI) (f := P 4) (x := (-1)) hx hb hK hP hD hS 2 0 rfl rfl np (rfl) (by omega) (by first | decide | assumption) dX5_person_104 (fun H locs hP hD hS => ?_)
            have hP : va_P D vwCl [(o5, .inr (5, [.int (nI np), .int (nI nh), .int td, .int (nI nn), .int (nI nb), .int (nI ne), .ref k6, .ref k7, .ref k8, .ref k9, .ref k10, .ref k11, .ref k12, .ref k13, .ref k14, .ref k15, .ref k16, .ref k17, .ref k18, .ref k19, .ref k20, .ref k21, .ref k22, .ref k23, .ref k24, .ref k25])), (k6, .inl (cI, 96, .inl (upd (upd (upd (upd (fl 4 P) (np * 4 + 0) a) (np * 4 + 1) b) (np * 4 + 2) c) (np * 4 + 3) d))), (k7, .inl (cI, 24, .inl (upd (P 4) np (-1)))), (k8, .inl (cZ, 24, .inl (P 5))), (k9, .inl (cI, 5, .inl (G 0))), (k10, .inl (cI, 5, .inl (G 1))), (k11, .inl (cI, 5, .inl (G 2))), (k12, .inl (cI, 5, .inl (G 3))), (k13, .inl (cI, 5, .inl (G 4))), (k14, .inl (cI, 5, .inl (mc))), (k15, .inl (cZ, 5, .inl (G 5))), (k16, .inl (cI, 200, .inl (N 0))), (k17, .inl (cI, 200, .inl (N 1))), (k18, .inl (cI, 200, .inl (N 2))), (k19, .inl (cI, 200, .inl (N 3))), (k20, .inl (cI, 200, .inl (N 4))), (k21, .inl (cI, 20, .inl (B 0))), (k22, .inl (cI, 20, .inl (B 1))), (k23, .inl (cI, 20, .inl (B 2))), (k24, .inl (cI, 20, .inl (B 3))), (k25, .inl (cI, 1200, .inl (fl 6 E)))] H := hP
            have hD : va_D (adr _) [(o5, .inr (5, [.int (nI np), .int (nI nh), .int td, .int (nI nn), .int (nI nb), .int (nI ne), .ref k6, .ref k7, .ref k8, .ref k9, .ref k10, .ref k11, .ref k12, .ref k13, .ref k14, .ref k15, .ref k16, .ref k17, .ref k18, .ref k19, .ref k20, .ref k21, .ref k22, .ref k23, .ref k24, .ref k25])), (k6, .inl (cI, 96, .inl (upd (upd (upd (upd (fl 4 P) (np * 4 + 0) a) (np * 4 + 1) b) (np * 4 + 2) c) (np * 4 + 3) d))), (k7, .inl (cI, 24, .inl (upd (P 4) np (-1)))), (k8, .inl (cZ, 24, .inl (P 5))), (k9, .inl (cI, 5, .inl (G 0))), (k10, .inl (cI, 5, .inl (G 1))), (k11, .inl (cI, 5, .inl (G 2))), (k12, .inl (cI, 5, .inl (G 3))), (k13, .inl (cI, 5, .inl (G 4))), (k14, .inl (cI, 5, .inl (mc))), (k15, .inl (cZ, 5, .inl (G 5))), (k16, .inl (cI, 200, .inl (N 0))), (k17, .inl (cI, 200, .inl (N 1))), (k18, .inl (cI, 200, .inl (N 2))), (k19, .inl (cI, 200, .inl (N 3))), (k20, .inl (cI, 200, .inl (N 4))), (k21, .inl (cI, 20, .inl (B 0))), (k22, .inl (cI, 20, .inl (B 1))), (k23, .inl (cI, 20, .inl (B 2))), (k24, .inl (cI, 20, .inl (B 3))), (k25, .inl (cI, 1200, .inl (fl 6 E)))] := hD
            refine lv_aload_n hx hb dX5_person_105 rfl (lv_at hl 0 rfl) ?_
            refine lv_aload_n hx hb dX5_person_106 rfl (lv_at hl 0 rfl) ?_
            refine va_get (D := D) (ci := 5) (v := .int (nI np)) (C := RX5) (T := TX5) (N := 26) hx hb hts hin5 hown hK hP 0 rfl rfl 0 (by decide) hf71 (fun _ h9 => h9) rfl dX5_person_107 ?_
            refine lv_iconst (v := 1) hx hb dX5_person_110 (by decide) ?_
            refine lv_iadd hx hb dX5_person_111 ?_
            refine va_put (D := D) (ci := 5) (v := .int (((nI np) + 1))) (ty := .int) (C := RX5) (T := TX5) (N := 26) hx hb hts hin5 tyX5 tyX5_ok nmX5 hown hK hP hD hS 0 rfl rfl 0 (by decide) hf71 (fun _ h9 => h9) rfl (by decide +kernel) rfl rfl (Nat.le_of_ble_eq_true rfl) dX5_person_112 (fun H locs hP hD hS => ?_)
            have hP : va_P D vwCl [(o5, .inr (5, [.int (((nI np) + 1)), .int (nI nh), .int td, .int (nI nn), .int (nI nb), .int (nI ne), .ref k6, .ref k7, .ref k8, .ref k9, .ref k10, .ref k11, .ref k12, .ref k13, .ref k14, .ref k15, .ref k16, .ref k17, .ref k18, .ref k19, .ref k20, .ref k21, .ref k22, .ref k23, .ref k24, .ref k25])), (k6, .inl (cI, 96, .inl (upd (upd (upd (upd (fl 4 P) (np * 4 + 0) a) (np * 4 + 1) b) (np * 4 + 2) c) (np * 4 + 3) d))), (k7, .inl (cI, 24, .inl (upd (P 4) np (-1)))), (k8, .inl (cZ, 24, .inl (P 5))), (k9, .inl (cI, 5, .inl (G 0))), (k10, .inl (cI, 5, .inl (G 1))), (k11, .inl (cI, 5, .inl (G 2))), (k12, .inl (cI, 5, .inl (G 3))), (k13, .inl (cI, 5, .inl (G 4))), (k14, .inl (cI, 5, .inl (mc))), (k15, .inl (cZ, 5, .inl (G 5))), (k16, .inl (cI, 200, .inl (N 0))), (k17, .inl (cI, 200, .inl (N 1))), (k18, .inl (cI, 200, .inl (N 2))), (k19, .inl (cI, 200, .inl (N 3))), (k20, .inl (cI, 200, .inl (N 4))), (k21, .inl (cI, 20, .inl (B 0))), (k22, .inl (cI, 20, .inl (B 1))), (k23, .inl (cI, 20, .inl (B 2))), (k24, .inl (cI, 20, .inl (B 3))), (k25, .inl (cI, 1200, .inl (fl 6 E)))] H := hP
            have hD : va_D (adr _) [(o5, .inr (5, [.int (((nI np) + 1)), .int (nI nh), .int td, .int (nI nn), .int (nI nb), .int (nI ne), .ref k6, .ref k7, .ref k8, .ref k9, .ref k10, .ref k11, .ref k12, .ref k13, .ref k14, .ref k15, .ref k16, .ref k17, .ref k18, .ref k19, .ref k20, .ref k21, .ref k22, .ref k23, .ref k24, .ref k25])), (k6, .inl (cI, 96, .inl (upd (upd (upd (upd (fl 4 P) (np * 4 + 0) a) (np * 4 + 1) b) (np * 4 + 2) c) (np * 4 + 3) d))), (k7, .inl (cI, 24, .inl (upd (P 4) np (-1)))), (k8, .inl (cZ, 24, .inl (P 5))), (k9, .inl (cI, 5, .inl (G 0))), (k10, .inl (cI, 5, .inl (G 1))), (k11, .inl (cI, 5, .inl (G 2))), (k12, .inl (cI, 5, .inl (G 3))), (k13, .inl (cI, 5, .inl (G 4))), (k14, .inl (cI, 5, .inl (mc))), (k15, .inl (cZ, 5, .inl (G 5))), (k16, .inl (cI, 200, .inl (N 0))), (k17, .inl (cI, 200, .inl (N 1))), (k18, .inl (cI, 200, .inl (N 2))), (k19, .inl (cI, 200, .inl (N 3))), (k20, .inl (cI, 200, .inl (N 4))), (k21, .inl (cI, 20, .inl (B 0))), (k22, .inl (cI, 20, .inl (B 1))), (k23, .inl (cI, 20, .inl (B 2))), (k24, .inl (cI, 20, .inl (B 3))), (k25, .inl (cI, 1200, .inl (fl 6 E)))] := hD
            refine lv_aload_n hx hb dX5_person_115 rfl (lv_at hl 0 rfl) ?_
            refine va_get (D := D) (ci := 5) (v := .int (((nI np) + 1))) (C := RX5) (T := TX5) (N := 26) hx hb hts hin5 hown hK hP 0 rfl rfl 0 (by decide) hf71 (fun _ h9 => h9) rfl dX5_person_116 ?_
            refine lv_iconst (v := 1) hx hb dX5_person_119 (by decide) ?_
            refine lv_isub hx hb dX5_person_120 ?_
            refine mu_iret hx hb hr hlocks hS dX5_person_121 ?_ ?_
            · rw [if_pos (by simp [okM, c_4, c_11, c_18, c_26, c_35]), arow_more hlt, ← nI_succ, nI_pred]
            have q0 : (nI (if okM a b c d = true then adn 24 np else np)) = (((nI np) + 1)) := by rw [if_pos (by simp [okM, c_4, c_11, c_18, c_26, c_35]), adn_more hlt, nI_succ]
            have q1 : (fl 4 (if okM a b c d = true then paddT np P a b c d else P)) = (upd (upd (upd (upd (fl 4 P) (np * 4 + 0) a) (np * 4 + 1) b) (np * 4 + 2) c) (np * 4 + 3) d) := by rw [if_pos (by simp [okM, c_4, c_11, c_18, c_26, c_35]), padd_fl hlt]
            have q2 : ((if okM a b c d = true then paddT np P a b c d else P) 4) = (upd (P 4) np (-1)) := by rw [if_pos (by simp [okM, c_4, c_11, c_18, c_26, c_35]), padd_4 hlt]
            have q3 : ((if okM a b c d = true then paddT np P a b c d else P) 5) = (P 5) := by rw [if_pos (by simp [okM, c_4, c_11, c_18, c_26, c_35]), padd_5 hlt (hs0 np (Nat.le_refl np))]
            rw [q0, q1, q2, q3]
            exact hP
          · skip
            have hlt : np = 24 := nI_inj (b := 24) (by omega) (by omega) c_35
            refine lv_iconst (v := (-1)) hx hb dX5_person_38 (by decide) ?_
            refine mu_iret hx hb hr hlocks hS dX5_person_39 ?_ ?_
            · rw [if_pos (by simp [okM, c_4, c_11, c_18, c_26, c_35]), arow_full hlt]
            have q0 : (nI (if okM a b c d = true then adn 24 np else np)) = (nI np) := by rw [if_pos (by simp [okM, c_4, c_11, c_18, c_26, c_35]), adn_full hlt]
            have q1 : (fl 4 (if okM a b c d = true then paddT np P a b c d else P)) = (fl 4 P) := by rw [if_pos (by simp [okM, c_4, c_11, c_18, c_26, c_35]), padd_full hlt]
            have q2 : ((if okM a b c d = true then paddT np P a b c d else P) 4) = (P 4) := by rw [if_pos (by simp [okM, c_4, c_11, c_18, c_26, c_35]), padd_full hlt]
            have q3 : ((if okM a b c d = true then paddT np P a b c d else P) 5) = (P 5) := by rw [if_pos (by simp [okM, c_4, c_11, c_18, c_26, c_35]), padd_full hlt]
            rw [q0, q1, q2, q3]
            exact hP
set_option maxHeartbeats 4000000 in
set_option maxRecDepth 100000 in
theorem kX5_mark (l : Launch) (D : va_G) (cI cZ : ClassId) (o5 k6 k7 k8 k9 k10 k11 k12 k13 k14 k15 k16 k17 k18 k19 k20 k21 k22 k23 k24 k25 np nh nn nb ne : Nat) (td : Int32) (P G N B E : Nat → Nat → Int32) (mc : Nat → Int32) (p : Int32) (m : Int32) (n : Int32) (hnp : np ≤ 24) : Met l yX5_mark wsX5_mark ({ frames := 1, cells := 0, slots := 0, locals := 22 } : Room) (MuP D [(cI, .int), (cZ, .boolean)] [.ref o5, .int p, .int m, .int n] [(o5, .inr (5, [.int (nI np), .int (nI nh), .int td, .int (nI nn), .int (nI nb), .int (nI ne), .ref k6, .ref k7, .ref k8, .ref k9, .ref k10, .ref k11, .ref k12, .ref k13, .ref k14, .ref k15, .ref k16, .ref k17, .ref k18, .ref k19, .ref k20, .ref k21, .ref k22, .ref k23, .ref k24, .ref k25])), (k6, .inl (cI, 96, .inl (fl 4 P))), (k7, .inl (cI, 24, .inl (P 4))), (k8, .inl (cZ, 24, .inl (P 5))), (k9, .inl (cI, 5, .inl (G 0))), (k10, .inl (cI, 5, .inl (G 1))), (k11, .inl (cI, 5, .inl (G 2))), (k12, .inl (cI, 5, .inl (G 3))), (k13, .inl (cI, 5, .inl (G 4))), (k14, .inl (cI, 5, .inl (mc))), (k15, .inl (cZ, 5, .inl (G 5))), (k16, .inl (cI, 200, .inl (N 0))), (k17, .inl (cI, 200, .inl (N 1))), (k18, .inl (cI, 200, .inl (N 2))), (k19, .inl (cI, 200, .inl (N 3))), (k20, .inl (cI, 200, .inl (N 4))), (k21, .inl (cI, 20, .inl (B 0))), (k22, .inl (cI, 20, .inl (B 1))), (k23, .inl (cI, 20, .inl (B 2))), (k24, .inl (cI, 20, .inl (B 3))), (k25, .inl (cI, 1200, .inl (fl 6 E)))]) (QM D (some (.int (bI (inR np p && inB m 0 3 && inB n 0 7)))) [(o5, .inr (5, [.int (nI np), .int (nI nh), .int td, .int (nI nn), .int (nI nb), .int (nI ne), .ref k6, .ref k7, .ref k8, .ref k9, .ref k10, .ref k11, .ref k12, .ref k13, .ref k14, .ref k15, .ref k16, .ref k17, .ref k18, .ref k19, .ref k20, .ref k21, .ref k22, .ref k23, .ref k24, .ref k25])), (k6, .inl (cI, 96, .inl (fl 4 P))), (k7, .inl (cI, 24, .inl (P 4))), (k8, .inl (cZ, 24, .inl (P 5))), (k9, .inl (cI, 5, .inl (G 0))), (k10, .inl (cI, 5, .inl (G 1))), (k11, .inl (cI, 5, .inl (G 2))), (k12, .inl (cI, 5, .inl (G 3))), (k13, .inl (cI, 5, .inl (G 4))), (k14, .inl (cI, 5, .inl (mc))), (k15, .inl (cZ, 5, .inl (G 5))), (k16, .inl (cI, 200, .inl (N 0))), (k17, .inl (cI, 200, .inl (N 1))), (k18, .inl (cI, 200, .inl (N 2))), (k19, .inl (cI, 200, .inl (N 3))), (k20, .inl (cI, 200, .inl (N 4))), (k21, .inl (cI, 20, .inl (B 0))), (k22, .inl (cI, 20, .inl (B 1))), (k23, .inl (cI, 20, .inl (B 2))), (k24, .inl (cI, 20, .inl (B 3))), (k25, .inl (cI, 1200, .inl (fl 6 E)))] [(o5, .inr (5, [.int (nI np), .int (nI nh), .int td, .int (nI nn), .int (nI nb), .int (nI ne), .ref k6, .ref k7, .ref k8, .ref k9, .ref k10, .ref k11, .ref k12, .ref k13, .ref k14, .ref k15, .ref k16, .ref k17, .ref k18, .ref k19, .ref k20, .ref k21, .ref k22, .ref k23, .ref k24, .ref k25])), (k6, .inl (cI, 96, .inl (fl 4 (if (inR np p && inB m 0 3 && inB n 0 7) = true then tput np 6 P p m n else P)))), (k7, .inl (cI, 24, .inl ((if (inR np p && inB m 0 3 && inB n 0 7) = true then tput np 6 P p m n else P) 4))), (k8, .inl (cZ, 24, .inl ((if (inR np p && inB m 0 3 && inB n 0 7) = true then tput np 6 P p m n else P) 5))), (k9, .inl (cI, 5, .inl (G 0))), (k10, .inl (cI, 5, .inl (G 1))), (k11, .inl (cI, 5, .inl (G 2))), (k12, .inl (cI, 5, .inl (G 3))), (k13, .inl (cI, 5, .inl (G 4))), (k14, .inl (cI, 5, .inl (mc))), (k15, .inl (cZ, 5, .inl (G 5))), (k16, .inl (cI, 200, .inl (N 0))), (k17, .inl (cI, 200, .inl (N 1))), (k18, .inl (cI, 200, .inl (N 2))), (k19, .inl (cI, 200, .inl (N 3))), (k20, .inl (cI, 200, .inl (N 4))), (k21, .inl (cI, 20, .inl (B 0))), (k22, .inl (cI, 20, .inl (B 1))), (k23, .inl (cI, 20, .inl (B 2))), (k24, .inl (cI, 20, .inl (B 3))), (k25, .inl (cI, 1200, .inl (fl 6 E)))]) 0 0 (adr [(o5, .inr (5, [.int (nI np), .int (nI nh), .int td, .int (nI nn), .int (nI nb), .int (nI ne), .ref k6, .ref k7, .ref k8, .ref k9, .ref k10, .ref k11, .ref k12, .ref k13, .ref k14, .ref k15, .ref k16, .ref k17, .ref k18, .ref k19, .ref k20, .ref k21, .ref k22, .ref k23, .ref k24, .ref k25])), (k6, .inl (cI, 96, .inl (fl 4 P))), (k7, .inl (cI, 24, .inl (P 4))), (k8, .inl (cZ, 24, .inl (P 5))), (k9, .inl (cI, 5, .inl (G 0))), (k10, .inl (cI, 5, .inl (G 1))), (k11, .inl (cI, 5, .inl (G 2))), (k12, .inl (cI, 5, .inl (G 3))), (k13, .inl (cI, 5, .inl (G 4))), (k14, .inl (cI, 5, .inl (mc))), (k15, .inl (cZ, 5, .inl (G 5))), (k16, .inl (cI, 200, .inl (N 0))), (k17, .inl (cI, 200, .inl (N 1))), (k18, .inl (cI, 200, .inl (N 2))), (k19, .inl (cI, 200, .inl (N 3))), (k20, .inl (cI, 200, .inl (N 4))), (k21, .inl (cI, 20, .inl (B 0))), (k22, .inl (cI, 20, .inl (B 1))), (k23, .inl (cI, 20, .inl (B 2))), (k24, .inl (cI, 20, .inl (B 3))), (k25, .inl (cI, 1200, .inl (fl 6 E)))]) := by
  refine mu_of (cc := cX5_mark) (maxL := 4) (ret := (some .boolean)) (by decide) rfl (Nat.le_of_ble_eq_true rfl) ?_
  intro pp ee ss mm bw me cd ls hx hb hr hts hown hlocks hml hK hl H locs hP hD hS
  have hl : lv_has ls 4 [(0, .ref o5), (1, .int p), (2, .int m), (3, .int n)] := hl
  have hf7 := hts (.fieldLink RX5 7 "OtherNamesModel" "marks" "[I") (by decide +kernel)
  have hin5 := (show ∀ w ∈ wsX50, w ∈ wsX5_mark by decide +kernel)
  refine lv_aload_n hx hb dX5_mark_0 rfl (lv_at hl 0 rfl) ?_
  refine lv_iload_n hx hb dX5_mark_1 rfl (lv_at hl 1 rfl) ?_
  refine rcV (As := [.int p]) (rest := []) (ci := 5) ⟨hx, hb, hml, hown, hts⟩ (kX5_isPerson l D cI cZ o5 k6 k7 k8 k9 k10 k11 k12 k13 k14 k15 k16 k17 k18 k19 k20 k21 k22 k23 k24 k25 np nh nn nb ne td P G N B E mc p) (cwV 1 hts gX5_mark_X5_isPerson rfl rfl rfl (by decide +kernel) ⟨Nat.le_of_ble_eq_true rfl, Nat.le_of_ble_eq_true rfl⟩) hK hP [0, 1, 2, 3, 4, 5, 6, 7, 8, 9, 10, 11, 12, 13, 14, 15, 16, 17, 18, 19, 20] rfl rfl rfl rfl rfl hl.1 rfl (Nat.le_of_ble_eq_true rfl) ⟨Nat.zero_le _, Nat.zero_le _⟩ dX5_mark_2 ?_
  refine lb_eq (tgt := 24) hx hb dX5_mark_5 (by decide) (fun c_5 => ?_) (fun c_5 => ?_)
  · skip
    refine lv_iconst (v := 0) hx hb dX5_mark_24 (by decide) ?_
    refine mu_zret hx hb hr hlocks hS dX5_mark_25 ?_ ?_
    · simp [bI, c_5]
    have q0 : (fl 4 (if (inR np p && inB m 0 3 && inB n 0 7) = true then tput np 6 P p m n else P)) = (fl 4 P) := by rw [if_neg (by simp [c_5])]
    have q1 : ((if (inR np p && inB m 0 3 && inB n 0 7) = true then tput np 6 P p m n else P) 4) = (P 4) := by rw [if_neg (by simp [c_5])]
    have q2 : ((if (inR np p && inB m 0 3 && inB n 0 7) = true then tput np 6 P p m n else P) 5) = (P 5) := by rw [if_neg (by simp [c_5])]
    rw [q0, q1, q2]
    exact hP
  · skip
    obtain ⟨j, hj, rfl⟩ := inR_ex c_5 (by omega)
    refine lv_iload_n hx hb dX5_mark_8 rfl (lv_at hl 2 rfl) ?_
    refine lv_iconst (v := 0) hx hb dX5_mark_9 (by decide) ?_
    refine lv_iconst (v := 3) hx hb dX5_mark_10 (by decide) ?_
    refine rcS (As := [.int m, .int 0, .int 3]) (rest := []) ⟨hx, hb, hml, hown, hts⟩ (kX5_in l D cI cZ m 0 3) (va_cwS 3 hts gX5_mark_X5_in rfl rfl rfl (by decide +kernel) ⟨Nat.le_of_ble_eq_true rfl, Nat.le_of_ble_eq_true rfl⟩) hK hP [] rfl rfl hl.1 rfl (Nat.le_of_ble_eq_true rfl) ⟨Nat.zero_le _, Nat.zero_le _⟩ dX5_mark_11 ?_
    refine lb_eq (tgt := 24) hx hb dX5_mark_14 (by decide) (fun c_14 => ?_) (fun c_14 => ?_)
    · skip
      refine lv_iconst (v := 0) hx hb dX5_mark_24 (by decide) ?_
      refine mu_zret hx hb hr hlocks hS dX5_mark_25 ?_ ?_
      · simp [bI, c_5, c_14]
      have q0 : (fl 4 (if (inR np (nI j) && inB m 0 3 && inB n 0 7) = true then tput np 6 P (nI j) m n else P)) = (fl 4 P) := by rw [if_neg (by simp [c_5, c_14])]
      have q1 : ((if (inR np (nI j) && inB m 0 3 && inB n 0 7) = true then tput np 6 P (nI j) m n else P) 4) = (P 4) := by rw [if_neg (by simp [c_5, c_14])]
      have q2 : ((if (inR np (nI j) && inB m 0 3 && inB n 0 7) = true then tput np 6 P (nI j) m n else P) 5) = (P 5) := by rw [if_neg (by simp [c_5, c_14])]
      rw [q0, q1, q2]
      exact hP
    · skip
      obtain ⟨mm_, hm_, rfl⟩ := inB_ex (hi := 3) c_14 rfl (by omega)
      refine lv_iload_n hx hb dX5_mark_17 rfl (lv_at hl 3 rfl) ?_
      refine rcS (As := [.int n]) (rest := []) ⟨hx, hb, hml, hown, hts⟩ (kX5_isMark l D cI cZ n) (va_cwS 1 hts gX5_mark_X5_isMark rfl rfl rfl (by decide +kernel) ⟨Nat.le_of_ble_eq_true rfl, Nat.le_of_ble_eq_true rfl⟩) hK hP [] rfl rfl hl.1 rfl (Nat.le_of_ble_eq_true rfl) ⟨Nat.zero_le _, Nat.zero_le _⟩ dX5_mark_18 ?_
      refine lb_ne (tgt := 26) hx hb dX5_mark_21 (by decide) (fun c_21 => ?_) (fun c_21 => ?_)
      · skip
        refine lv_aload_n hx hb dX5_mark_26 rfl (lv_at hl 0 rfl) ?_
        refine va_get (D := D) (ci := 5) (v := .ref k6) (C := RX5) (T := TX5) (N := 26) hx hb hts hin5 hown hK hP 0 rfl rfl 6 (by decide) hf7 (fun _ h9 => h9) rfl dX5_mark_27 ?_
        refine lv_iconst (v := 4) hx hb dX5_mark_30 (by decide) ?_
        refine lv_iload_n hx hb dX5_mark_31 rfl (lv_at hl 1 rfl) ?_
        refine lv_imul hx hb dX5_mark_32 ?_
        refine lv_iload_n hx hb dX5_mark_33 rfl (lv_at hl 2 rfl) ?_
        refine lv_iadd hx hb dX5_mark_34 ?_
        refine lv_iload_n hx hb dX5_mark_35 rfl (lv_at hl 3 rfl) ?_
        refine va_iastN (D := D) (cl := vwCl) (cA := cI) (f := fl 4 P) (x := n) hx hb hK hP hD hS 1 0 rfl rfl (j * 4 + mm_) (ixI 4 j mm_) (by omega) (by first | decide | assumption) dX5_mark_36 (fun H locs hP hD hS => ?_)
        have hP : va_P D vwCl [(o5, .inr (5, [.int (nI np), .int (nI nh), .int td, .int (nI nn), .int (nI nb), .int (nI ne), .ref k6, .ref k7, .ref k8, .ref k9, .ref k10, .ref k11, .ref k12, .ref k13, .ref k14, .ref k15, .ref k16, .ref k17, .ref k18, .ref k19, .ref k20, .ref k21, .ref k22, .ref k23, .ref k24, .ref k25])), (k6, .inl (cI, 96, .inl (upd (fl 4 P) (j * 4 + mm_) n))), (k7, .inl (cI, 24, .inl (P 4))), (k8, .inl (cZ, 24, .inl (P 5))), (k9, .inl (cI, 5, .inl (G 0))), (k10, .inl (cI, 5, .inl (G 1))), (k11, .inl (cI, 5, .inl (G 2))), (k12, .inl (cI, 5, .inl (G 3))), (k13, .inl (cI, 5, .inl (G 4))), (k14, .inl (cI, 5, .inl (mc))), (k15, .inl (cZ, 5, .inl (G 5))), (k16, .inl (cI, 200, .inl (N 0))), (k17, .inl (cI, 200, .inl (N 1))), (k18, .inl (cI, 200, .inl (N 2))), (k19, .inl (cI, 200, .inl (N 3))), (k20, .inl (cI, 200, .inl (N 4))), (k21, .inl (cI, 20, .inl (B 0))), (k22, .inl (cI, 20, .inl (B 1))), (k23, .inl (cI, 20, .inl (B 2))), (k24, .inl (cI, 20, .inl (B 3))), (k25, .inl (cI, 1200, .inl (fl 6 E)))] H := hP
        have hD : va_D (adr _) [(o5, .inr (5, [.int (nI np), .int (nI nh), .int td, .int (nI nn), .int (nI nb), .int (nI ne), .ref k6, .ref k7, .ref k8, .ref k9, .ref k10, .ref k11, .ref k12, .ref k13, .ref k14, .ref k15, .ref k16, .ref k17, .ref k18, .ref k19, .ref k20, .ref k21, .ref k22, .ref k23, .ref k24, .ref k25])), (k6, .inl (cI, 96, .inl (upd (fl 4 P) (j * 4 + mm_) n))), (k7, .inl (cI, 24, .inl (P 4))), (k8, .inl (cZ, 24, .inl (P 5))), (k9, .inl (cI, 5, .inl (G 0))), (k10, .inl (cI, 5, .inl (G 1))), (k11, .inl (cI, 5, .inl (G 2))), (k12, .inl (cI, 5, .inl (G 3))), (k13, .inl (cI, 5, .inl (G 4))), (k14, .inl (cI, 5, .inl (mc))), (k15, .inl (cZ, 5, .inl (G 5))), (k16, .inl (cI, 200, .inl (N 0))), (k17, .inl (cI, 200, .inl (N 1))), (k18, .inl (cI, 200, .inl (N 2))), (k19, .inl (cI, 200, .inl (N 3))), (k20, .inl (cI, 200, .inl (N 4))), (k21, .inl (cI, 20, .inl (B 0))), (k22, .inl (cI, 20, .inl (B 1))), (k23, .inl (cI, 20, .inl (B 2))), (k24, .inl (cI, 20, .inl (B 3))), (k25, .inl (cI, 1200, .inl (fl 6 E)))] := hD
        refine lv_iconst (v := 1) hx hb dX5_mark_37 (by decide) ?_
        refine mu_zret hx hb hr hlocks hS dX5_mark_38 ?_ ?_
        · simp [bI, c_5, c_14, c_21]
        have q0 : (fl 4 (if (inR np (nI j) && inB (nI mm_) 0 3 && inB n 0 7) = true then tput np 6 P (nI j) (nI mm_) n else P)) = (upd (fl 4 P) (j * 4 + mm_) n) := by rw [if_pos (by simp [c_5, c_14, c_21]), show tput np 6 P (nI j) (nI mm_) n = up2 P mm_ j n from tput_nI (by omega) (by omega) hj (by omega)]; first | exact fl_up (by omega) | (funext r; simp [up2]; omega)
        have q1 : ((if (inR np (nI j) && inB (nI mm_) 0 3 && inB n 0 7) = true then tput np 6 P (nI j) (nI mm_) n else P) 4) = (P 4) := by rw [if_pos (by simp [c_5, c_14, c_21]), show tput np 6 P (nI j) (nI mm_) n = up2 P mm_ j n from tput_nI (by omega) (by omega) hj (by omega)]; first | exact fl_up (by omega) | (funext r; simp [up2]; omega)
        have q2 : ((if (inR np (nI j) && inB (nI mm_) 0 3 && inB n 0 7) = true then tput np 6 P (nI j) (nI mm_) n else P) 5) = (P 5) := by rw [if_pos (by simp [c_5, c_14, c_21]), show tput np 6 P (nI j) (nI mm_) n = up2 P mm_ j n from tput_nI (by omega) (by omega) hj (by omega)]; first | exact fl_up (by omega) | (funext r; simp [up2]; omega)
        rw [q0, q1, q2]
        exact hP
      · skip
        refine lv_iconst (v := 0) hx hb dX5_mark_24 (by decide) ?_
        refine mu_zret hx hb hr hlocks hS dX5_mark_25 ?_ ?_
        · simp [bI, c_5, c_14, c_21]
        have q0 : (fl 4 (if (inR np (nI j) && inB (nI mm_) 0 3 && inB n 0 7) = true then tput np 6 P (nI j) (nI mm_) n else P)) = (fl 4 P) := by rw [if_neg (by simp [c_5, c_14, c_21])]
        have q1 : ((if (inR np (nI j) && inB (nI mm_) 0 3 && inB n 0 7) = true then tput np 6 P (nI j) (nI mm_) n else P) 4) = (P 4) := by rw [if_neg (by simp [c_5, c_14, c_21])]
        have q2 : ((if (inR np (nI j) && inB (nI mm_) 0 3 && inB n 0 7) = true then tput np 6 P (nI j) (nI mm_) n else P) 5) = (P 5) := by rw [if_neg (by simp [c_5, c_14, c_21])]
        rw [q0, q1, q2]
        exact hP
set_option maxHeartbeats 4000000 in
set_option maxRecDepth 100000 in
theorem kX5_part (l : Launch) (D : va_G) (cI cZ : ClassId) (o5 k6 k7 k8 k9 k10 k11 k12 k13 k14 k15 k16 k17 k18 k19 k20 k21 k22 k23 k24 k25 np nh nn nb ne : Nat) (td : Int32) (P G N B E : Nat → Nat → Int32) (mc : Nat → Int32) (p : Int32) (hnp : np ≤ 24) : Met l yX5_part wsX5_part ({ frames := 1, cells := 0, slots := 0, locals := 21 } : Room) (MuP D [(cI, .int), (cZ, .boolean)] [.ref o5, .int p] [(o5, .inr (5, [.int (nI np), .int (nI nh), .int td, .int (nI nn), .int (nI nb), .int (nI ne), .ref k6, .ref k7, .ref k8, .ref k9, .ref k10, .ref k11, .ref k12, .ref k13, .ref k14, .ref k15, .ref k16, .ref k17, .ref k18, .ref k19, .ref k20, .ref k21, .ref k22, .ref k23, .ref k24, .ref k25])), (k6, .inl (cI, 96, .inl (fl 4 P))), (k7, .inl (cI, 24, .inl (P 4))), (k8, .inl (cZ, 24, .inl (P 5))), (k9, .inl (cI, 5, .inl (G 0))), (k10, .inl (cI, 5, .inl (G 1))), (k11, .inl (cI, 5, .inl (G 2))), (k12, .inl (cI, 5, .inl (G 3))), (k13, .inl (cI, 5, .inl (G 4))), (k14, .inl (cI, 5, .inl (mc))), (k15, .inl (cZ, 5, .inl (G 5))), (k16, .inl (cI, 200, .inl (N 0))), (k17, .inl (cI, 200, .inl (N 1))), (k18, .inl (cI, 200, .inl (N 2))), (k19, .inl (cI, 200, .inl (N 3))), (k20, .inl (cI, 200, .inl (N 4))), (k21, .inl (cI, 20, .inl (B 0))), (k22, .inl (cI, 20, .inl (B 1))), (k23, .inl (cI, 20, .inl (B 2))), (k24, .inl (cI, 20, .inl (B 3))), (k25, .inl (cI, 1200, .inl (fl 6 E)))]) (QM D (some (.int (bI (!decide (tat np 6 P p 4 = -1))))) [(o5, .inr (5, [.int (nI np), .int (nI nh), .int td, .int (nI nn), .int (nI nb), .int (nI ne), .ref k6, .ref k7, .ref k8, .ref k9, .ref k10, .ref k11, .ref k12, .ref k13, .ref k14, .ref k15, .ref k16, .ref k17, .ref k18, .ref k19, .ref k20, .ref k21, .ref k22, .ref k23, .ref k24, .ref k25])), (k6, .inl (cI, 96, .inl (fl 4 P))), (k7, .inl (cI, 24, .inl (P 4))), (k8, .inl (cZ, 24, .inl (P 5))), (k9, .inl (cI, 5, .inl (G 0))), (k10, .inl (cI, 5, .inl (G 1))), (k11, .inl (cI, 5, .inl (G 2))), (k12, .inl (cI, 5, .inl (G 3))), (k13, .inl (cI, 5, .inl (G 4))), (k14, .inl (cI, 5, .inl (mc))), (k15, .inl (cZ, 5, .inl (G 5))), (k16, .inl (cI, 200, .inl (N 0))), (k17, .inl (cI, 200, .inl (N 1))), (k18, .inl (cI, 200, .inl (N 2))), (k19, .inl (cI, 200, .inl (N 3))), (k20, .inl (cI, 200, .inl (N 4))), (k21, .inl (cI, 20, .inl (B 0))), (k22, .inl (cI, 20, .inl (B 1))), (k23, .inl (cI, 20, .inl (B 2))), (k24, .inl (cI, 20, .inl (B 3))), (k25, .inl (cI, 1200, .inl (fl 6 E)))] [(o5, .inr (5, [.int (nI np), .int (nI nh), .int td, .int (nI nn), .int (nI nb), .int (nI ne), .ref k6, .ref k7, .ref k8, .ref k9, .ref k10, .ref k11, .ref k12, .ref k13, .ref k14, .ref k15, .ref k16, .ref k17, .ref k18, .ref k19, .ref k20, .ref k21, .ref k22, .ref k23, .ref k24, .ref k25])), (k6, .inl (cI, 96, .inl (fl 4 (if tat np 6 P p 4 = -1 then P else tput np 6 P p 4 (-1))))), (k7, .inl (cI, 24, .inl ((if tat np 6 P p 4 = -1 then P else tput np 6 P p 4 (-1)) 4))), (k8, .inl (cZ, 24, .inl ((if tat np 6 P p 4 = -1 then P else tput np 6 P p 4 (-1)) 5))), (k9, .inl (cI, 5, .inl (G 0))), (k10, .inl (cI, 5, .inl (G 1))), (k11, .inl (cI, 5, .inl (G 2))), (k12, .inl (cI, 5, .inl (G 3))), (k13, .inl (cI, 5, .inl (G 4))), (k14, .inl (cI, 5, .inl (mc))), (k15, .inl (cZ, 5, .inl (G 5))), (k16, .inl (cI, 200, .inl (N 0))), (k17, .inl (cI, 200, .inl (N 1))), (k18, .inl (cI, 200, .inl (N 2))), (k19, .inl (cI, 200, .inl (N 3))), (k20, .inl (cI, 200, .inl (N 4))), (k21, .inl (cI, 20, .inl (B 0))), (k22, .inl (cI, 20, .inl (B 1))), (k23, .inl (cI, 20, .inl (B 2))), (k24, .inl (cI, 20, .inl (B 3))), (k25, .inl (cI, 1200, .inl (fl 6 E)))]) 0 0 (adr [(o5, .inr (5, [.int (nI np), .int (nI nh), .int td, .int (nI nn), .int (nI nb), .int (nI ne), .ref k6, .ref k7, .ref k8, .ref k9, .ref k10, .ref k11, .ref k12, .ref k13, .ref k14, .ref k15, .ref k16, .ref k17, .ref k18, .ref k19, .ref k20, .ref k21, .ref k22, .ref k23, .ref k24, .ref k25])), (k6, .inl (cI, 96, .inl (fl 4 P))), (k7, .inl (cI, 24, .inl (P 4))), (k8, .inl (cZ, 24, .inl (P 5))), (k9, .inl (cI, 5, .inl (G 0))), (k10, .inl (cI, 5, .inl (G 1))), (k11, .inl (cI, 5, .inl (G 2))), (k12, .inl (cI, 5, .inl (G 3))), (k13, .inl (cI, 5, .inl (G 4))), (k14, .inl (cI, 5, .inl (mc))), (k15, .inl (cZ, 5, .inl (G 5))), (k16, .inl (cI, 200, .inl (N 0))), (k17, .inl (cI, 200, .inl (N 1))), (k18, .inl (cI, 200, .inl (N 2))), (k19, .inl (cI, 200, .inl (N 3))), (k20, .inl (cI, 200, .inl (N 4))), (k21, .inl (cI, 20, .inl (B 0))), (k22, .inl (cI, 20, .inl (B 1))), (k23, .inl (cI, 20, .inl (B 2))), (k24, .inl (cI, 20, .inl (B 3))), (k25, .inl (cI, 1200, .inl (fl 6 E)))]) := by
  refine mu_of (cc := cX5_part) (maxL := 2) (ret := (some .boolean)) (by decide) rfl (Nat.le_of_ble_eq_true rfl) ?_
  intro pp ee ss mm bw me cd ls hx hb hr hts hown hlocks hml hK hl H locs hP hD hS
  have hl : lv_has ls 2 [(0, .ref o5), (1, .int p)] := hl
  have hf13 := hts (.fieldLink RX5 13 "OtherNamesModel" "within" "[I") (by decide +kernel)
  have hin5 := (show ∀ w ∈ wsX50, w ∈ wsX5_part by decide +kernel)
  refine lv_aload_n hx hb dX5_part_0 rfl (lv_at hl 0 rfl) ?_
  refine lv_iload_n hx hb dX5_part_1 rfl (lv_at hl 1 rfl) ?_
  refine rcV (As := [.int p]) (rest := []) (ci := 5) ⟨hx, hb, hml, hown, hts⟩ (kX5_isPerson l D cI cZ o5 k6 k7 k8 k9 k10 k11 k12 k13 k14 k15 k16 k17 k18 k19 k20 k21 k22 k23 k24 k25 np nh nn nb ne td P G N B E mc p) (cwV 1 hts gX5_part_X5_isPerson rfl rfl rfl (by decide +kernel) ⟨Nat.le_of_ble_eq_true rfl, Nat.le_of_ble_eq_true rfl⟩) hK hP [0, 1, 2, 3, 4, 5, 6, 7, 8, 9, 10, 11, 12, 13, 14, 15, 16, 17, 18, 19, 20] rfl rfl rfl rfl rfl hl.1 rfl (Nat.le_of_ble_eq_true rfl) ⟨Nat.zero_le _, Nat.zero_le _⟩ dX5_part_2 ?_
  refine lb_eq (tgt := 18) hx hb dX5_part_5 (by decide) (fun c_5 => ?_) (fun c_5 => ?_)
  · skip
    refine lv_iconst (v := 0) hx hb dX5_part_18 (by decide) ?_
    refine mu_zret hx hb hr hlocks hS dX5_part_19 ?_ ?_
    · rw [tat_no c_5]; rfl
    have q0 : (fl 4 (if tat np 6 P p 4 = -1 then P else tput np 6 P p 4 (-1))) = (fl 4 P) := by rw [if_pos (tat_no c_5)]
    have q1 : ((if tat np 6 P p 4 = -1 then P else tput np 6 P p 4 (-1)) 4) = (P 4) := by rw [if_pos (tat_no c_5)]
    have q2 : ((if tat np 6 P p 4 = -1 then P else tput np 6 P p 4 (-1)) 5) = (P 5) := by rw [if_pos (tat_no c_5)]
    rw [q0, q1, q2]
    exact hP
  · skip
    obtain ⟨j, hj, rfl⟩ := inR_ex c_5 (by omega)
    refine lv_aload_n hx hb dX5_part_8 rfl (lv_at hl 0 rfl) ?_
    refine va_get (D := D) (ci := 5) (v := .ref k7) (C := RX5) (T := TX5) (N := 26) hx hb hts hin5 hown hK hP 0 rfl rfl 7 (by decide) hf13 (fun _ h9 => h9) rfl dX5_part_9 ?_
    refine lv_iload_n hx hb dX5_part_12 rfl (lv_at hl 1 rfl) ?_
    refine va_ialdN (D := D) (cl := vwCl) (cA := cI) (f := P 4) hx hb hK hP 2 0 rfl rfl j (rfl) (by omega) (by first | decide | assumption) dX5_part_13 ?_
    refine lv_iconst (v := (-1)) hx hb dX5_part_14 (by decide) ?_
    refine lv_icmp_ne (tgt := 20) hx hb dX5_part_15 (by decide) (fun c_15 => ?_) (fun c_15 => ?_)
    · skip
      refine lv_aload_n hx hb dX5_part_20 rfl (lv_at hl 0 rfl) ?_
      refine va_get (D := D) (ci := 5) (v := .ref k7) (C := RX5) (T := TX5) (N := 26) hx hb hts hin5 hown hK hP 0 rfl rfl 7 (by decide) hf13 (fun _ h9 => h9) rfl dX5_part_21 ?_
      refine lv_iload_n hx hb dX5_part_24 rfl (lv_at hl 1 rfl) ?_
      refine lv_iconst (v := (-1)) hx hb dX5_part_25 (by decide) ?_
      refine va_iastN (D := D) (cl := vwCl) (cA := cI) (f := P 4) (x := (-1)) hx hb hK hP hD hS 2 0 rfl rfl j (rfl) (by omega) (by first | decide | assumption) dX5_part_26 (fun H locs hP hD hS => ?_)
      have hP : va_P D vwCl [(o5, .inr (5, [.int (nI np), .int (nI nh), .int td, .int (nI nn), .int (nI nb), .int (nI ne), .ref k6, .ref k7, .ref k8, .ref k9, .ref k10, .ref k11, .ref k12, .ref k13, .ref k14, .ref k15, .ref k16, .ref k17, .ref k18, .ref k19, .ref k20, .ref k21, .ref k22, .ref k23, .ref k24, .ref k25])), (k6, .inl (cI, 96, .inl (fl 4 P))), (k7, .inl (cI, 24, .inl (upd (P 4) j (-1)))), (k8, .inl (cZ, 24, .inl (P 5))), (k9, .inl (cI, 5, .inl (G 0))), (k10, .inl (cI, 5, .inl (G 1))), (k11, .inl (cI, 5, .inl (G 2))), (k12, .inl (cI, 5, .inl (G 3))), (k13, .inl (cI, 5, .inl (G 4))), (k14, .inl (cI, 5, .inl (mc))), (k15, .inl (cZ, 5, .inl (G 5))), (k16, .inl (cI, 200, .inl (N 0))), (k17, .inl (cI, 200, .inl (N 1))), (k18, .inl (cI, 200, .inl (N 2))), (k19, .inl (cI, 200, .inl (N 3))), (k20, .inl (cI, 200, .inl (N 4))), (k21, .inl (cI, 20, .inl (B 0))), (k22, .inl (cI, 20, .inl (B 1))), (k23, .inl (cI, 20, .inl (B 2))), (k24, .inl (cI, 20, .inl (B 3))), (k25, .inl (cI, 1200, .inl (fl 6 E)))] H := hP
      have hD : va_D (adr _) [(o5, .inr (5, [.int (nI np), .int (nI nh), .int td, .int (nI nn), .int (nI nb), .int (nI ne), .ref k6, .ref k7, .ref k8, .ref k9, .ref k10, .ref k11, .ref k12, .ref k13, .ref k14, .ref k15, .ref k16, .ref k17, .ref k18, .ref k19, .ref k20, .ref k21, .ref k22, .ref k23, .ref k24, .ref k25])), (k6, .inl (cI, 96, .inl (fl 4 P))), (k7, .inl (cI, 24, .inl (upd (P 4) j (-1)))), (k8, .inl (cZ, 24, .inl (P 5))), (k9, .inl (cI, 5, .inl (G 0))), (k10, .inl (cI, 5, .inl (G 1))), (k11, .inl (cI, 5, .inl (G 2))), (k12, .inl (cI, 5, .inl (G 3))), (k13, .inl (cI, 5, .inl (G 4))), (k14, .inl (cI, 5, .inl (mc))), (k15, .inl (cZ, 5, .inl (G 5))), (k16, .inl (cI, 200, .inl (N 0))), (k17, .inl (cI, 200, .inl (N 1))), (k18, .inl (cI, 200, .inl (N 2))), (k19, .inl (cI, 200, .inl (N 3))), (k20, .inl (cI, 200, .inl (N 4))), (k21, .inl (cI, 20, .inl (B 0))), (k22, .inl (cI, 20, .inl (B 1))), (k23, .inl (cI, 20, .inl (B 2))), (k24, .inl (cI, 20, .inl (B 3))), (k25, .inl (cI, 1200, .inl (fl 6 E)))] := hD
      refine lv_iconst (v := 1) hx hb dX5_part_27 (by decide) ?_
      refine mu_zret hx hb hr hlocks hS dX5_part_28 ?_ ?_
      · rw [show tat np 6 P (nI j) 4 = P 4 j from tat_nI (c := 4) (by omega) (by omega) hj (by omega)]; simp [bI, c_15]
      have q0 : (fl 4 (if tat np 6 P (nI j) 4 = -1 then P else tput np 6 P (nI j) 4 (-1))) = (fl 4 P) := by rw [show tat np 6 P (nI j) 4 = P 4 j from tat_nI (c := 4) (by omega) (by omega) hj (by omega), if_neg c_15, show tput np 6 P (nI j) 4 (-1) = up2 P 4 j (-1) from tput_nI (c := 4) (by omega) (by omega) hj (by omega)]; first | exact fl_up_out (by omega) (by omega) | rfl
      have q1 : ((if tat np 6 P (nI j) 4 = -1 then P else tput np 6 P (nI j) 4 (-1)) 4) = (upd (P 4) j (-1)) := by rw [show tat np 6 P (nI j) 4 = P 4 j from tat_nI (c := 4) (by omega) (by omega) hj (by omega), if_neg c_15, show tput np 6 P (nI j) 4 (-1) = up2 P 4 j (-1) from tput_nI (c := 4) (by omega) (by omega) hj (by omega)]; first | exact fl_up_out (by omega) (by omega) | rfl
      have q2 : ((if tat np 6 P (nI j) 4 = -1 then P else tput np 6 P (nI j) 4 (-1)) 5) = (P 5) := by rw [show tat np 6 P (nI j) 4 = P 4 j from tat_nI (c := 4) (by omega) (by omega) hj (by omega), if_neg c_15, show tput np 6 P (nI j) 4 (-1) = up2 P 4 j (-1) from tput_nI (c := 4) (by omega) (by omega) hj (by omega)]; first | exact fl_up_out (by omega) (by omega) | rfl
      rw [q0, q1, q2]
      exact hP
    · skip
      refine lv_iconst (v := 0) hx hb dX5_part_18 (by decide) ?_
      refine mu_zret hx hb hr hlocks hS dX5_part_19 ?_ ?_
      · rw [show tat np 6 P (nI j) 4 = P 4 j from tat_nI (c := 4) (by omega) (by omega) hj (by omega)]; simp [bI, c_15]
      have q0 : (fl 4 (if tat np 6 P (nI j) 4 = -1 then P else tput np 6 P (nI j) 4 (-1))) = (fl 4 P) := by rw [show tat np 6 P (nI j) 4 = P 4 j from tat_nI (c := 4) (by omega) (by omega) hj (by omega), if_pos c_15]
      have q1 : ((if tat np 6 P (nI j) 4 = -1 then P else tput np 6 P (nI j) 4 (-1)) 4) = (P 4) := by rw [show tat np 6 P (nI j) 4 = P 4 j from tat_nI (c := 4) (by omega) (by omega) hj (by omega), if_pos c_15]
      have q2 : ((if tat np 6 P (nI j) 4 = -1 then P else tput np 6 P (nI j) 4 (-1)) 5) = (P 5) := by rw [show tat np 6 P (nI j) 4 = P 4 j from tat_nI (c := 4) (by omega) (by omega) hj (by omega), if_pos c_15]
      rw [q0, q1, q2]
      exact hP
set_option maxHeartbeats 4000000 in
set_option maxRecDepth 100000 in
theorem kX5_strike (l : Launch) (D : va_G) (cI cZ : ClassId) (o5 k6 k7 k8 k9 k10 k11 k12 k13 k14 k15 k16 k17 k18 k19 k20 k21 k22 k23 k24 k25 np nh nn nb ne : Nat) (td : Int32) (P G N B E : Nat → Nat → Int32) (mc : Nat → Int32) (p : Int32) (hnp : np ≤ 24) (hw : HP np (P 4)) (hs : ∀ p, P 5 p = 0 ∨ P 5 p = 1) : Met l yX5_strike wsX5_strike ({ frames := 2, cells := 0, slots := 0, locals := 44 } : Room) (MuP D [(cI, .int), (cZ, .boolean)] [.ref o5, .int p] [(o5, .inr (5, [.int (nI np), .int (nI nh), .int td, .int (nI nn), .int (nI nb), .int (nI ne), .ref k6, .ref k7, .ref k8, .ref k9, .ref k10, .ref k11, .ref k12, .ref k13, .ref k14, .ref k15, .ref k16, .ref k17, .ref k18, .ref k19, .ref k20, .ref k21, .ref k22, .ref k23, .ref k24, .ref k25])), (k6, .inl (cI, 96, .inl (fl 4 P))), (k7, .inl (cI, 24, .inl (P 4))), (k8, .inl (cZ, 24, .inl (P 5))), (k9, .inl (cI, 5, .inl (G 0))), (k10, .inl (cI, 5, .inl (G 1))), (k11, .inl (cI, 5, .inl (G 2))), (k12, .inl (cI, 5, .inl (G 3))), (k13, .inl (cI, 5, .inl (G 4))), (k14, .inl (cI, 5, .inl (mc))), (k15, .inl (cZ, 5, .inl (G 5))), (k16, .inl (cI, 200, .inl (N 0))), (k17, .inl (cI, 200, .inl (N 1))), (k18, .inl (cI, 200, .inl (N 2))), (k19, .inl (cI, 200, .inl (N 3))), (k20, .inl (cI, 200, .inl (N 4))), (k21, .inl (cI, 20, .inl (B 0))), (k22, .inl (cI, 20, .inl (B 1))), (k23, .inl (cI, 20, .inl (B 2))), (k24, .inl (cI, 20, .inl (B 3))), (k25, .inl (cI, 1200, .inl (fl 6 E)))]) (QM D (some (.int (bI (inR np p && !isSt np P p)))) [(o5, .inr (5, [.int (nI np), .int (nI nh), .int td, .int (nI nn), .int (nI nb), .int (nI ne), .ref k6, .ref k7, .ref k8, .ref k9, .ref k10, .ref k11, .ref k12, .ref k13, .ref k14, .ref k15, .ref k16, .ref k17, .ref k18, .ref k19, .ref k20, .ref k21, .ref k22, .ref k23, .ref k24, .ref k25])), (k6, .inl (cI, 96, .inl (fl 4 P))), (k7, .inl (cI, 24, .inl (P 4))), (k8, .inl (cZ, 24, .inl (P 5))), (k9, .inl (cI, 5, .inl (G 0))), (k10, .inl (cI, 5, .inl (G 1))), (k11, .inl (cI, 5, .inl (G 2))), (k12, .inl (cI, 5, .inl (G 3))), (k13, .inl (cI, 5, .inl (G 4))), (k14, .inl (cI, 5, .inl (mc))), (k15, .inl (cZ, 5, .inl (G 5))), (k16, .inl (cI, 200, .inl (N 0))), (k17, .inl (cI, 200, .inl (N 1))), (k18, .inl (cI, 200, .inl (N 2))), (k19, .inl (cI, 200, .inl (N 3))), (k20, .inl (cI, 200, .inl (N 4))), (k21, .inl (cI, 20, .inl (B 0))), (k22, .inl (cI, 20, .inl (B 1))), (k23, .inl (cI, 20, .inl (B 2))), (k24, .inl (cI, 20, .inl (B 3))), (k25, .inl (cI, 1200, .inl (fl 6 E)))] [(o5, .inr (5, [.int (nI np), .int (nI nh), .int td, .int (nI nn), .int (nI nb), .int (nI ne), .ref k6, .ref k7, .ref k8, .ref k9, .ref k10, .ref k11, .ref k12, .ref k13, .ref k14, .ref k15, .ref k16, .ref k17, .ref k18, .ref k19, .ref k20, .ref k21, .ref k22, .ref k23, .ref k24, .ref k25])), (k6, .inl (cI, 96, .inl (fl 4 (if (inR np p && !isSt np P p) = true then strk np P (hd (P 4) p.toNatClampNeg) 24 else P)))), (k7, .inl (cI, 24, .inl ((if (inR np p && !isSt np P p) = true then strk np P (hd (P 4) p.toNatClampNeg) 24 else P) 4))), (k8, .inl (cZ, 24, .inl ((if (inR np p && !isSt np P p) = true then strk np P (hd (P 4) p.toNatClampNeg) 24 else P) 5))), (k9, .inl (cI, 5, .inl (G 0))), (k10, .inl (cI, 5, .inl (G 1))), (k11, .inl (cI, 5, .inl (G 2))), (k12, .inl (cI, 5, .inl (G 3))), (k13, .inl (cI, 5, .inl (G 4))), (k14, .inl (cI, 5, .inl (mc))), (k15, .inl (cZ, 5, .inl (G 5))), (k16, .inl (cI, 200, .inl (N 0))), (k17, .inl (cI, 200, .inl (N 1))), (k18, .inl (cI, 200, .inl (N 2))), (k19, .inl (cI, 200, .inl (N 3))), (k20, .inl (cI, 200, .inl (N 4))), (k21, .inl (cI, 20, .inl (B 0))), (k22, .inl (cI, 20, .inl (B 1))), (k23, .inl (cI, 20, .inl (B 2))), (k24, .inl (cI, 20, .inl (B 3))), (k25, .inl (cI, 1200, .inl (fl 6 E)))]) 0 0 (adr [(o5, .inr (5, [.int (nI np), .int (nI nh), .int td, .int (nI nn), .int (nI nb), .int (nI ne), .ref k6, .ref k7, .ref k8, .ref k9, .ref k10, .ref k11, .ref k12, .ref k13, .ref k14, .ref k15, .ref k16, .ref k17, .ref k18, .ref k19, .ref k20, .ref k21, .ref k22, .ref k23, .ref k24, .ref k25])), (k6, .inl (cI, 96, .inl (fl 4 P))), (k7, .inl (cI, 24, .inl (P 4))), (k8, .inl (cZ, 24, .inl (P 5))), (k9, .inl (cI, 5, .inl (G 0))), (k10, .inl (cI, 5, .inl (G 1))), (k11, .inl (cI, 5, .inl (G 2))), (k12, .inl (cI, 5, .inl (G 3))), (k13, .inl (cI, 5, .inl (G 4))), (k14, .inl (cI, 5, .inl (mc))), (k15, .inl (cZ, 5, .inl (G 5))), (k16, .inl (cI, 200, .inl (N 0))), (k17, .inl (cI, 200, .inl (N 1))), (k18, .inl (cI, 200, .inl (N 2))), (k19, .inl (cI, 200, .inl (N 3))), (k20, .inl (cI, 200, .inl (N 4))), (k21, .inl (cI, 20, .inl (B 0))), (k22, .inl (cI, 20, .inl (B 1))), (k23, .inl (cI, 20, .inl (B 2))), (k24, .inl (cI, 20, .inl (B 3))), (k25, .inl (cI, 1200, .inl (fl 6 E)))]) := by
  refine mu_of (cc := cX5_strike) (maxL := 2) (ret := (some .boolean)) (by decide) rfl (Nat.le_of_ble_eq_true rfl) ?_
  intro pp ee ss mm bw me cd ls hx hb hr hts hown hlocks hml hK hl H locs hP hD hS
  have hl : lv_has ls 2 [(0, .ref o5), (1, .int p)] := hl
  have hf16 := hts (.fieldLink RX5 16 "OtherNamesModel" "isStruck" "[Z") (by decide +kernel)
  have hin5 := (show ∀ w ∈ wsX50, w ∈ wsX5_strike by decide +kernel)
  refine lv_aload_n hx hb dX5_strike_0 rfl (lv_at hl 0 rfl) ?_
  refine lv_iload_n hx hb dX5_strike_1 rfl (lv_at hl 1 rfl) ?_
  refine rcV (As := [.int p]) (rest := []) (ci := 5) ⟨hx, hb, hml, hown, hts⟩ (kX5_isPerson l D cI cZ o5 k6 k7 k8 k9 k10 k11 k12 k13 k14 k15 k16 k17 k18 k19 k20 k21 k22 k23 k24 k25 np nh nn nb ne td P G N B E mc p) (cwV 1 hts gX5_strike_X5_isPerson rfl rfl rfl (by decide +kernel) ⟨Nat.le_of_ble_eq_true rfl, Nat.le_of_ble_eq_true rfl⟩) hK hP [0, 1, 2, 3, 4, 5, 6, 7, 8, 9, 10, 11, 12, 13, 14, 15, 16, 17, 18, 19, 20] rfl rfl rfl rfl rfl hl.1 rfl (Nat.le_of_ble_eq_true rfl) ⟨Nat.zero_le _, Nat.zero_le _⟩ dX5_strike_2 ?_
  refine lb_eq (tgt := 17) hx hb dX5_strike_5 (by decide) (fun c_5 => ?_) (fun c_5 => ?_)
  · skip
    refine lv_iconst (v := 0) hx hb dX5_strike_17 (by decide) ?_
    refine mu_zret hx hb hr hlocks hS dX5_strike_18 ?_ ?_
    · simp [bI, c_5]
    have q0 : (fl 4 (if (inR np p && !isSt np P p) = true then strk np P (hd (P 4) p.toNatClampNeg) 24 else P)) = (fl 4 P) := by rw [if_neg (by simp [c_5])]
    have q1 : ((if (inR np p && !isSt np P p) = true then strk np P (hd (P 4) p.toNatClampNeg) 24 else P) 4) = (P 4) := by rw [if_neg (by simp [c_5])]
    have q2 : ((if (inR np p && !isSt np P p) = true then strk np P (hd (P 4) p.toNatClampNeg) 24 else P) 5) = (P 5) := by rw [if_neg (by simp [c_5])]
    rw [q0, q1, q2]
    exact hP
  · skip
    obtain ⟨j, hj, rfl⟩ := inR_ex c_5 (by omega)
    refine lv_aload_n hx hb dX5_strike_8 rfl (lv_at hl 0 rfl) ?_
    refine va_get (D := D) (ci := 5) (v := .ref k8) (C := RX5) (T := TX5) (N := 26) hx hb hts hin5 hown hK hP 0 rfl rfl 8 (by decide) hf16 (fun _ h9 => h9) rfl dX5_strike_9 ?_
    refine lv_iload_n hx hb dX5_strike_12 rfl (lv_at hl 1 rfl) ?_
    refine va_zaldN (D := D) (cl := vwCl) (cA := cZ) (f := P 5) hx hb hK hP 3 1 rfl rfl j (rfl) (by omega) (by first | decide | assumption) dX5_strike_13 ?_
    refine lv_if_eq (tgt := 19) hx hb dX5_strike_14 (by decide) (fun c_14 => ?_) (fun c_14 => ?_)
    · skip
      have hst := isSt_0 hnp hj c_14
      refine lv_aload_n hx hb dX5_strike_19 rfl (lv_at hl 0 rfl) ?_
      refine lv_aload_n hx hb dX5_strike_20 rfl (lv_at hl 0 rfl) ?_
      refine lv_iload_n hx hb dX5_strike_21 rfl (lv_at hl 1 rfl) ?_
      refine rcV (As := [.int ((nI j))]) (rest := [.ref o5]) (ci := 5) ⟨hx, hb, hml, hown, hts⟩ (kX5_head l D cI cZ o5 k6 k7 k8 k9 k10 k11 k12 k13 k14 k15 k16 k17 k18 k19 k20 k21 k22 k23 k24 k25 np nh nn nb ne td P G N B E mc j (by first | assumption | omega) (by first | assumption | omega) (hj)) (cwV 1 hts gX5_strike_X5_head rfl rfl rfl (by decide +kernel) ⟨Nat.le_of_ble_eq_true rfl, Nat.le_of_ble_eq_true rfl⟩) hK hP [0, 1, 2, 3, 4, 5, 6, 7, 8, 9, 10, 11, 12, 13, 14, 15, 16, 17, 18, 19, 20] rfl rfl rfl rfl rfl hl.1 rfl (Nat.le_of_ble_eq_true rfl) ⟨Nat.zero_le _, Nat.zero_le _⟩ dX5_strike_22 ?_
      refine mcV (As := [.int (nI (hd (P 4) j))]) (rest := []) (ci := 5) (wn := [(o5, .inr (5, [.int (nI np), .int (nI nh), .int td, .int (nI nn), .int (nI nb), .int (nI ne), .ref k6, .ref k7, .ref k8, .ref k9, .ref k10, .ref k11, .ref k12, .ref k13, .ref k14, .ref k15, .ref k16, .ref k17, .ref k18, .ref k19, .ref k20, .ref k21, .ref k22, .ref k23, .ref k24, .ref k25])), (k6, .inl (cI, 96, .inl (fl 4 (strk np P (hd (P 4) j) 24)))), (k7, .inl (cI, 24, .inl ((strk np P (hd (P 4) j) 24) 4))), (k8, .inl (cZ, 24, .inl ((strk np P (hd (P 4) j) 24) 5))), (k9, .inl (cI, 5, .inl (G 0))), (k10, .inl (cI, 5, .inl (G 1))), (k11, .inl (cI, 5, .inl (G 2))), (k12, .inl (cI, 5, .inl (G 3))), (k13, .inl (cI, 5, .inl (G 4))), (k14, .inl (cI, 5, .inl (mc))), (k15, .inl (cZ, 5, .inl (G 5))), (k16, .inl (cI, 200, .inl (N 0))), (k17, .inl (cI, 200, .inl (N 1))), (k18, .inl (cI, 200, .inl (N 2))), (k19, .inl (cI, 200, .inl (N 3))), (k20, .inl (cI, 200, .inl (N 4))), (k21, .inl (cI, 20, .inl (B 0))), (k22, .inl (cI, 20, .inl (B 1))), (k23, .inl (cI, 20, .inl (B 2))), (k24, .inl (cI, 20, .inl (B 3))), (k25, .inl (cI, 1200, .inl (fl 6 E)))]) ⟨hx, hb, hml, hown, hts⟩ (kX5_strikes l D cI cZ o5 k6 k7 k8 k9 k10 k11 k12 k13 k14 k15 k16 k17 k18 k19 k20 k21 k22 k23 k24 k25 np nh nn nb ne td P G N B E mc (hd (P 4) j) (by first | assumption | omega) (by first | assumption | omega) (by have := hd_lt hw hnp hj; omega)) (cwV 1 hts gX5_strike_X5_strikes rfl rfl rfl (by decide +kernel) ⟨Nat.le_of_ble_eq_true rfl, Nat.le_of_ble_eq_true rfl⟩) hK hP hD hS [0, 1, 2, 3, 4, 5, 6, 7, 8, 9, 10, 11, 12, 13, 14, 15, 16, 17, 18, 19, 20] rfl rfl rfl rfl rfl rfl rfl rfl rfl hl.1 rfl (Nat.le_of_ble_eq_true rfl) ⟨Nat.zero_le _, Nat.zero_le _⟩ dX5_strike_25 (fun H locs hP hD hS => ?_)
      refine W.eq (g2 := F0 mm 28 ls []) rfl ?_
      refine lv_iconst (v := 1) hx hb dX5_strike_28 (by decide) ?_
      refine mu_zret hx hb hr hlocks hS dX5_strike_29 ?_ ?_
      · simp [bI, c_5, hst]
      have q0 : (fl 4 (if (inR np (nI j) && !isSt np P (nI j)) = true then strk np P (hd (P 4) (nI j).toNatClampNeg) 24 else P)) = (fl 4 (strk np P (hd (P 4) j) 24)) := by rw [if_pos (by simp [c_5, hst]), nI_clamp (by omega)]
      have q1 : ((if (inR np (nI j) && !isSt np P (nI j)) = true then strk np P (hd (P 4) (nI j).toNatClampNeg) 24 else P) 4) = ((strk np P (hd (P 4) j) 24) 4) := by rw [if_pos (by simp [c_5, hst]), nI_clamp (by omega)]
      have q2 : ((if (inR np (nI j) && !isSt np P (nI j)) = true then strk np P (hd (P 4) (nI j).toNatClampNeg) 24 else P) 5) = ((strk np P (hd (P 4) j) 24) 5) := by rw [if_pos (by simp [c_5, hst]), nI_clamp (by omega)]
      rw [q0, q1, q2]
      exact hP
    · skip
      have hst := isSt_1 hnp hj hs c_14
      refine lv_iconst (v := 0) hx hb dX5_strike_17 (by decide) ?_
      refine mu_zret hx hb hr hlocks hS dX5_strike_18 ?_ ?_
      · simp [bI, c_5, hst]
      have q0 : (fl 4 (if (inR np (nI j) && !isSt np P (nI j)) = true then strk np P (hd (P 4) (nI j).toNatClampNeg) 24 else P)) = (fl 4 P) := by rw [if_neg (by simp [c_5, hst])]
      have q1 : ((if (inR np (nI j) && !isSt np P (nI j)) = true then strk np P (hd (P 4) (nI j).toNatClampNeg) 24 else P) 4) = (P 4) := by rw [if_neg (by simp [c_5, hst])]
      have q2 : ((if (inR np (nI j) && !isSt np P (nI j)) = true then strk np P (hd (P 4) (nI j).toNatClampNeg) 24 else P) 5) = (P 5) := by rw [if_neg (by simp [c_5, hst])]
      rw [q0, q1, q2]
      exact hP
set_option maxHeartbeats 4000000 in
set_option maxRecDepth 100000 in
theorem kX5_day (l : Launch) (D : va_G) (cI cZ : ClassId) (o5 k6 k7 k8 k9 k10 k11 k12 k13 k14 k15 k16 k17 k18 k19 k20 k21 k22 k23 k24 k25 np nh nn nb ne : Nat) (td : Int32) (P G N B E : Nat → Nat → Int32) (mc : Nat → Int32) (n : Int32) (htd : ∃ d : Nat, d ≤ 3000 ∧ td = nI d) : Met l yX5_day wsX5_day ({ frames := 0, cells := 0, slots := 0, locals := 0 } : Room) (MuP D [(cI, .int), (cZ, .boolean)] [.ref o5, .int n] [(o5, .inr (5, [.int (nI np), .int (nI nh), .int td, .int (nI nn), .int (nI nb), .int (nI ne), .ref k6, .ref k7, .ref k8, .ref k9, .ref k10, .ref k11, .ref k12, .ref k13, .ref k14, .ref k15, .ref k16, .ref k17, .ref k18, .ref k19, .ref k20, .ref k21, .ref k22, .ref k23, .ref k24, .ref k25])), (k6, .inl (cI, 96, .inl (fl 4 P))), (k7, .inl (cI, 24, .inl (P 4))), (k8, .inl (cZ, 24, .inl (P 5))), (k9, .inl (cI, 5, .inl (G 0))), (k10, .inl (cI, 5, .inl (G 1))), (k11, .inl (cI, 5, .inl (G 2))), (k12, .inl (cI, 5, .inl (G 3))), (k13, .inl (cI, 5, .inl (G 4))), (k14, .inl (cI, 5, .inl (mc))), (k15, .inl (cZ, 5, .inl (G 5))), (k16, .inl (cI, 200, .inl (N 0))), (k17, .inl (cI, 200, .inl (N 1))), (k18, .inl (cI, 200, .inl (N 2))), (k19, .inl (cI, 200, .inl (N 3))), (k20, .inl (cI, 200, .inl (N 4))), (k21, .inl (cI, 20, .inl (B 0))), (k22, .inl (cI, 20, .inl (B 1))), (k23, .inl (cI, 20, .inl (B 2))), (k24, .inl (cI, 20, .inl (B 3))), (k25, .inl (cI, 1200, .inl (fl 6 E)))]) (QM D (some (.int (bI (inB n 0 3000 && decide (td ≤ n))))) [(o5, .inr (5, [.int (nI np), .int (nI nh), .int td, .int (nI nn), .int (nI nb), .int (nI ne), .ref k6, .ref k7, .ref k8, .ref k9, .ref k10, .ref k11, .ref k12, .ref k13, .ref k14, .ref k15, .ref k16, .ref k17, .ref k18, .ref k19, .ref k20, .ref k21, .ref k22, .ref k23, .ref k24, .ref k25])), (k6, .inl (cI, 96, .inl (fl 4 P))), (k7, .inl (cI, 24, .inl (P 4))), (k8, .inl (cZ, 24, .inl (P 5))), (k9, .inl (cI, 5, .inl (G 0))), (k10, .inl (cI, 5, .inl (G 1))), (k11, .inl (cI, 5, .inl (G 2))), (k12, .inl (cI, 5, .inl (G 3))), (k13, .inl (cI, 5, .inl (G 4))), (k14, .inl (cI, 5, .inl (mc))), (k15, .inl (cZ, 5, .inl (G 5))), (k16, .inl (cI, 200, .inl (N 0))), (k17, .inl (cI, 200, .inl (N 1))), (k18, .inl (cI, 200, .inl (N 2))), (k19, .inl (cI, 200, .inl (N 3))), (k20, .inl (cI, 200, .inl (N 4))), (k21, .inl (cI, 20, .inl (B 0))), (k22, .inl (cI, 20, .inl (B 1))), (k23, .inl (cI, 20, .inl (B 2))), (k24, .inl (cI, 20, .inl (B 3))), (k25, .inl (cI, 1200, .inl (fl 6 E)))] [(o5, .inr (5, [.int (nI np), .int (nI nh), .int (if (inB n 0 3000 && decide (td ≤ n)) = true then n else td), .int (nI nn), .int (nI nb), .int (nI ne), .ref k6, .ref k7, .ref k8, .ref k9, .ref k10, .ref k11, .ref k12, .ref k13, .ref k14, .ref k15, .ref k16, .ref k17, .ref k18, .ref k19, .ref k20, .ref k21, .ref k22, .ref k23, .ref k24, .ref k25])), (k6, .inl (cI, 96, .inl (fl 4 P))), (k7, .inl (cI, 24, .inl (P 4))), (k8, .inl (cZ, 24, .inl (P 5))), (k9, .inl (cI, 5, .inl (G 0))), (k10, .inl (cI, 5, .inl (G 1))), (k11, .inl (cI, 5, .inl (G 2))), (k12, .inl (cI, 5, .inl (G 3))), (k13, .inl (cI, 5, .inl (G 4))), (k14, .inl (cI, 5, .inl (mc))), (k15, .inl (cZ, 5, .inl (G 5))), (k16, .inl (cI, 200, .inl (N 0))), (k17, .inl (cI, 200, .inl (N 1))), (k18, .inl (cI, 200, .inl (N 2))), (k19, .inl (cI, 200, .inl (N 3))), (k20, .inl (cI, 200, .inl (N 4))), (k21, .inl (cI, 20, .inl (B 0))), (k22, .inl (cI, 20, .inl (B 1))), (k23, .inl (cI, 20, .inl (B 2))), (k24, .inl (cI, 20, .inl (B 3))), (k25, .inl (cI, 1200, .inl (fl 6 E)))]) 0 0 (adr [(o5, .inr (5, [.int (nI np), .int (nI nh), .int td, .int (nI nn), .int (nI nb), .int (nI ne), .ref k6, .ref k7, .ref k8, .ref k9, .ref k10, .ref k11, .ref k12, .ref k13, .ref k14, .ref k15, .ref k16, .ref k17, .ref k18, .ref k19, .ref k20, .ref k21, .ref k22, .ref k23, .ref k24, .ref k25])), (k6, .inl (cI, 96, .inl (fl 4 P))), (k7, .inl (cI, 24, .inl (P 4))), (k8, .inl (cZ, 24, .inl (P 5))), (k9, .inl (cI, 5, .inl (G 0))), (k10, .inl (cI, 5, .inl (G 1))), (k11, .inl (cI, 5, .inl (G 2))), (k12, .inl (cI, 5, .inl (G 3))), (k13, .inl (cI, 5, .inl (G 4))), (k14, .inl (cI, 5, .inl (mc))), (k15, .inl (cZ, 5, .inl (G 5))), (k16, .inl (cI, 200, .inl (N 0))), (k17, .inl (cI, 200, .inl (N 1))), (k18, .inl (cI, 200, .inl (N 2))), (k19, .inl (cI, 200, .inl (N 3))), (k20, .inl (cI, 200, .inl (N 4))), (k21, .inl (cI, 20, .inl (B 0))), (k22, .inl (cI, 20, .inl (B 1))), (k23, .inl (cI, 20, .inl (B 2))), (k24, .inl (cI, 20, .inl (B 3))), (k25, .inl (cI, 1200, .inl (fl 6 E)))]) := by
  refine mu_of (cc := cX5_day) (maxL := 2) (ret := (some .boolean)) (by decide) rfl (Nat.le_of_ble_eq_true rfl) ?_
  intro pp ee ss mm bw me cd ls hx hb hr hts hown hlocks hml hK hl H locs hP hD hS
  have hl : lv_has ls 2 [(0, .ref o5), (1, .int n)] := hl
  have hf94 := hts (.fieldLink RX5 94 "OtherNamesModel" "now" "I") (by decide +kernel)
  have hin5 := (show ∀ w ∈ wsX50, w ∈ wsX5_day by decide +kernel)
  obtain ⟨d0, hd0, etd⟩ := htd
  have h0 : (0 : Int32).toInt = 0 := by decide
  have h3 : (3000 : Int32).toInt = 3000 := by decide
  have ht := nI_toInt (n := d0) (by omega)
  rw [← etd] at ht
  refine lv_iload_n hx hb dX5_day_0 rfl (lv_at hl 1 rfl) ?_
  refine lv_aload_n hx hb dX5_day_1 rfl (lv_at hl 0 rfl) ?_
  refine va_get (D := D) (ci := 5) (v := .int td) (C := RX5) (T := TX5) (N := 26) hx hb hts hin5 hown hK hP 0 rfl rfl 2 (by decide) hf94 (fun _ h9 => h9) rfl dX5_day_2 ?_
  refine lv_icmp_lt (tgt := 15) hx hb dX5_day_5 (by decide) (fun c_5 => ?_) (fun c_5 => ?_)
  · skip
    refine lv_iconst (v := 0) hx hb dX5_day_15 (by decide) ?_
    refine mu_zret hx hb hr hlocks hS dX5_day_16 ?_ ?_
    · simp only [fa_lt, fa_le, h0, h3, ht] at c_5; simp [bI, inB, fa_lt, fa_le, h0, h3, ht]; omega
    have q0 : (if (inB n 0 3000 && decide (td ≤ n)) = true then n else td) = (td) := by rw [if_neg (by simp only [fa_lt, fa_le, h0, h3, ht] at c_5; simp [inB, fa_lt, fa_le, h0, h3, ht]; omega)]
    rw [q0]
    exact hP
  · skip
    refine lv_iload_n hx hb dX5_day_8 rfl (lv_at hl 1 rfl) ?_
    refine lv_sipush (v := 3000) hx hb dX5_day_9 (by decide) ?_
    refine lv_icmp_le (tgt := 17) hx hb dX5_day_12 (by decide) (fun c_12 => ?_) (fun c_12 => ?_)
    · skip
      refine lv_aload_n hx hb dX5_day_17 rfl (lv_at hl 0 rfl) ?_
      refine lv_iload_n hx hb dX5_day_18 rfl (lv_at hl 1 rfl) ?_
      refine va_put (D := D) (ci := 5) (v := .int n) (ty := .int) (C := RX5) (T := TX5) (N := 26) hx hb hts hin5 tyX5 tyX5_ok nmX5 hown hK hP hD hS 0 rfl rfl 2 (by decide) hf94 (fun _ h9 => h9) rfl (by decide +kernel) rfl rfl (Nat.le_of_ble_eq_true rfl) dX5_day_19 (fun H locs hP hD hS => ?_)
      have hP : va_P D vwCl [(o5, .inr (5, [.int (nI np), .int (nI nh), .int n, .int (nI nn), .int (nI nb), .int (nI ne), .ref k6, .ref k7, .ref k8, .ref k9, .ref k10, .ref k11, .ref k12, .ref k13, .ref k14, .ref k15, .ref k16, .ref k17, .ref k18, .ref k19, .ref k20, .ref k21, .ref k22, .ref k23, .ref k24, .ref k25])), (k6, .inl (cI, 96, .inl (fl 4 P))), (k7, .inl (cI, 24, .inl (P 4))), (k8, .inl (cZ, 24, .inl (P 5))), (k9, .inl (cI, 5, .inl (G 0))), (k10, .inl (cI, 5, .inl (G 1))), (k11, .inl (cI, 5, .inl (G 2))), (k12, .inl (cI, 5, .inl (G 3))), (k13, .inl (cI, 5, .inl (G 4))), (k14, .inl (cI, 5, .inl (mc))), (k15, .inl (cZ, 5, .inl (G 5))), (k16, .inl (cI, 200, .inl (N 0))), (k17, .inl (cI, 200, .inl (N 1))), (k18, .inl (cI, 200, .inl (N 2))), (k19, .inl (cI, 200, .inl (N 3))), (k20, .inl (cI, 200, .inl (N 4))), (k21, .inl (cI, 20, .inl (B 0))), (k22, .inl (cI, 20, .inl (B 1))), (k23, .inl (cI, 20, .inl (B 2))), (k24, .inl (cI, 20, .inl (B 3))), (k25, .inl (cI, 1200, .inl (fl 6 E)))] H := hP
      have hD : va_D (adr _) [(o5, .inr (5, [.int (nI np), .int (nI nh), .int n, .int (nI nn), .int (nI nb), .int (nI ne), .ref k6, .ref k7, .ref k8, .ref k9, .ref k10, .ref k11, .ref k12, .ref k13, .ref k14, .ref k15, .ref k16, .ref k17, .ref k18, .ref k19, .ref k20, .ref k21, .ref k22, .ref k23, .ref k24, .ref k25])), (k6, .inl (cI, 96, .inl (fl 4 P))), (k7, .inl (cI, 24, .inl (P 4))), (k8, .inl (cZ, 24, .inl (P 5))), (k9, .inl (cI, 5, .inl (G 0))), (k10, .inl (cI, 5, .inl (G 1))), (k11, .inl (cI, 5, .inl (G 2))), (k12, .inl (cI, 5, .inl (G 3))), (k13, .inl (cI, 5, .inl (G 4))), (k14, .inl (cI, 5, .inl (mc))), (k15, .inl (cZ, 5, .inl (G 5))), (k16, .inl (cI, 200, .inl (N 0))), (k17, .inl (cI, 200, .inl (N 1))), (k18, .inl (cI, 200, .inl (N 2))), (k19, .inl (cI, 200, .inl (N 3))), (k20, .inl (cI, 200, .inl (N 4))), (k21, .inl (cI, 20, .inl (B 0))), (k22, .inl (cI, 20, .inl (B 1))), (k23, .inl (cI, 20, .inl (B 2))), (k24, .inl (cI, 20, .inl (B 3))), (k25, .inl (cI, 1200, .inl (fl 6 E)))] := hD
      refine lv_iconst (v := 1) hx hb dX5_day_22 (by decide) ?_
      refine mu_zret hx hb hr hlocks hS dX5_day_23 ?_ ?_
      · simp only [fa_lt, fa_le, h0, h3, ht] at c_5 c_12; simp [bI, inB, fa_lt, fa_le, h0, h3, ht]; omega
      have q0 : (if (inB n 0 3000 && decide (td ≤ n)) = true then n else td) = (n) := by rw [if_pos (by simp only [fa_lt, fa_le, h0, h3, ht] at c_5 c_12; simp [inB, fa_lt, fa_le, h0, h3, ht]; omega)]
      rw [q0]
      exact hP
    · skip
      refine lv_iconst (v := 0) hx hb dX5_day_15 (by decide) ?_
      refine mu_zret hx hb hr hlocks hS dX5_day_16 ?_ ?_
      · simp only [fa_lt, fa_le, h0, h3, ht] at c_5 c_12; simp [bI, inB, fa_lt, fa_le, h0, h3, ht]; omega
      have q0 : (if (inB n 0 3000 && decide (td ≤ n)) = true then n else td) = (td) := by rw [if_neg (by simp only [fa_lt, fa_le, h0, h3, ht] at c_5 c_12; simp [inB, fa_lt, fa_le, h0, h3, ht]; omega)]
      rw [q0]
      exact hP
set_option maxHeartbeats 4000000 in
set_option maxRecDepth 100000 in
theorem kX5_one (l : Launch) (D : va_G) (cI cZ : ClassId) (o5 k6 k7 k8 k9 k10 k11 k12 k13 k14 k15 k16 k17 k18 k19 k20 k21 k22 k23 k24 k25 np nh nn nb ne : Nat) (td : Int32) (P G N B E : Nat → Nat → Int32) (mc : Nat → Int32) (a : Int32) (b : Int32) (hnp : np ≤ 24) (hw : HP np (P 4)) (hs : ∀ p, P 5 p = 0 ∨ P 5 p = 1) : Met l yX5_one wsX5_one ({ frames := 2, cells := 0, slots := 0, locals := 44 } : Room) (MuP D [(cI, .int), (cZ, .boolean)] [.ref o5, .int a, .int b] [(o5, .inr (5, [.int (nI np), .int (nI nh), .int td, .int (nI nn), .int (nI nb), .int (nI ne), .ref k6, .ref k7, .ref k8, .ref k9, .ref k10, .ref k11, .ref k12, .ref k13, .ref k14, .ref k15, .ref k16, .ref k17, .ref k18, .ref k19, .ref k20, .ref k21, .ref k22, .ref k23, .ref k24, .ref k25])), (k6, .inl (cI, 96, .inl (fl 4 P))), (k7, .inl (cI, 24, .inl (P 4))), (k8, .inl (cZ, 24, .inl (P 5))), (k9, .inl (cI, 5, .inl (G 0))), (k10, .inl (cI, 5, .inl (G 1))), (k11, .inl (cI, 5, .inl (G 2))), (k12, .inl (cI, 5, .inl (G 3))), (k13, .inl (cI, 5, .inl (G 4))), (k14, .inl (cI, 5, .inl (mc))), (k15, .inl (cZ, 5, .inl (G 5))), (k16, .inl (cI, 200, .inl (N 0))), (k17, .inl (cI, 200, .inl (N 1))), (k18, .inl (cI, 200, .inl (N 2))), (k19, .inl (cI, 200, .inl (N 3))), (k20, .inl (cI, 200, .inl (N 4))), (k21, .inl (cI, 20, .inl (B 0))), (k22, .inl (cI, 20, .inl (B 1))), (k23, .inl (cI, 20, .inl (B 2))), (k24, .inl (cI, 20, .inl (B 3))), (k25, .inl (cI, 1200, .inl (fl 6 E)))]) (QM D (some (.int (bI (okJ np P a b)))) [(o5, .inr (5, [.int (nI np), .int (nI nh), .int td, .int (nI nn), .int (nI nb), .int (nI ne), .ref k6, .ref k7, .ref k8, .ref k9, .ref k10, .ref k11, .ref k12, .ref k13, .ref k14, .ref k15, .ref k16, .ref k17, .ref k18, .ref k19, .ref k20, .ref k21, .ref k22, .ref k23, .ref k24, .ref k25])), (k6, .inl (cI, 96, .inl (fl 4 P))), (k7, .inl (cI, 24, .inl (P 4))), (k8, .inl (cZ, 24, .inl (P 5))), (k9, .inl (cI, 5, .inl (G 0))), (k10, .inl (cI, 5, .inl (G 1))), (k11, .inl (cI, 5, .inl (G 2))), (k12, .inl (cI, 5, .inl (G 3))), (k13, .inl (cI, 5, .inl (G 4))), (k14, .inl (cI, 5, .inl (mc))), (k15, .inl (cZ, 5, .inl (G 5))), (k16, .inl (cI, 200, .inl (N 0))), (k17, .inl (cI, 200, .inl (N 1))), (k18, .inl (cI, 200, .inl (N 2))), (k19, .inl (cI, 200, .inl (N 3))), (k20, .inl (cI, 200, .inl (N 4))), (k21, .inl (cI, 20, .inl (B 0))), (k22, .inl (cI, 20, .inl (B 1))), (k23, .inl (cI, 20, .inl (B 2))), (k24, .inl (cI, 20, .inl (B 3))), (k25, .inl (cI, 1200, .inl (fl 6 E)))] [(o5, .inr (5, [.int (nI np), .int (nI nh), .int td, .int (nI nn), .int (nI nb), .int (nI ne), .ref k6, .ref k7, .ref k8, .ref k9, .ref k10, .ref k11, .ref k12, .ref k13, .ref k14, .ref k15, .ref k16, .ref k17, .ref k18, .ref k19, .ref k20, .ref k21, .ref k22, .ref k23, .ref k24, .ref k25])), (k6, .inl (cI, 96, .inl (fl 4 (joinT np P a b)))), (k7, .inl (cI, 24, .inl ((joinT np P a b) 4))), (k8, .inl (cZ, 24, .inl ((joinT np P a b) 5))), (k9, .inl (cI, 5, .inl (G 0))), (k10, .inl (cI, 5, .inl (G 1))), (k11, .inl (cI, 5, .inl (G 2))), (k12, .inl (cI, 5, .inl (G 3))), (k13, .inl (cI, 5, .inl (G 4))), (k14, .inl (cI, 5, .inl (mc))), (k15, .inl (cZ, 5, .inl (G 5))), (k16, .inl (cI, 200, .inl (N 0))), (k17, .inl (cI, 200, .inl (N 1))), (k18, .inl (cI, 200, .inl (N 2))), (k19, .inl (cI, 200, .inl (N 3))), (k20, .inl (cI, 200, .inl (N 4))), (k21, .inl (cI, 20, .inl (B 0))), (k22, .inl (cI, 20, .inl (B 1))), (k23, .inl (cI, 20, .inl (B 2))), (k24, .inl (cI, 20, .inl (B 3))), (k25, .inl (cI, 1200, .inl (fl 6 E)))]) 0 0 (adr [(o5, .inr (5, [.int (nI np), .int (nI nh), .int td, .int (nI nn), .int (nI nb), .int (nI ne), .ref k6, .ref k7, .ref k8, .ref k9, .ref k10, .ref k11, .ref k12, .ref k13, .ref k14, .ref k15, .ref k16, .ref k17, .ref k18, .ref k19, .ref k20, .ref k21, .ref k22, .ref k23, .ref k24, .ref k25])), (k6, .inl (cI, 96, .inl (fl 4 P))), (k7, .inl (cI, 24, .inl (P 4))), (k8, .inl (cZ, 24, .inl (P 5))), (k9, .inl (cI, 5, .inl (G 0))), (k10, .inl (cI, 5, .inl (G 1))), (k11, .inl (cI, 5, .inl (G 2))), (k12, .inl (cI, 5, .inl (G 3))), (k13, .inl (cI, 5, .inl (G 4))), (k14, .inl (cI, 5, .inl (mc))), (k15, .inl (cZ, 5, .inl (G 5))), (k16, .inl (cI, 200, .inl (N 0))), (k17, .inl (cI, 200, .inl (N 1))), (k18, .inl (cI, 200, .inl (N 2))), (k19, .inl (cI, 200, .inl (N 3))), (k20, .inl (cI, 200, .inl (N 4))), (k21, .inl (cI, 20, .inl (B 0))), (k22, .inl (cI, 20, .inl (B 1))), (k23, .inl (cI, 20, .inl (B 2))), (k24, .inl (cI, 20, .inl (B 3))), (k25, .inl (cI, 1200, .inl (fl 6 E)))]) := by
  refine mu_of (cc := cX5_one) (maxL := 4) (ret := (some .boolean)) (by decide) rfl (Nat.le_of_ble_eq_true rfl) ?_
  intro pp ee ss mm bw me cd ls hx hb hr hts hown hlocks hml hK hl H locs hP hD hS
  have hl : lv_has ls 4 [(0, .ref o5), (1, .int a), (2, .int b)] := hl
  have hf13 := hts (.fieldLink RX5 13 "OtherNamesModel" "within" "[I") (by decide +kernel)
  have hin5 := (show ∀ w ∈ wsX50, w ∈ wsX5_one by decide +kernel)
  have hf16 := hts (.fieldLink RX5 16 "OtherNamesModel" "isStruck" "[Z") (by decide +kernel)
  refine lv_aload_n hx hb dX5_one_0 rfl (lv_at hl 0 rfl) ?_
  refine lv_iload_n hx hb dX5_one_1 rfl (lv_at hl 1 rfl) ?_
  refine rcV (As := [.int a]) (rest := []) (ci := 5) ⟨hx, hb, hml, hown, hts⟩ (kX5_isPerson l D cI cZ o5 k6 k7 k8 k9 k10 k11 k12 k13 k14 k15 k16 k17 k18 k19 k20 k21 k22 k23 k24 k25 np nh nn nb ne td P G N B E mc a) (cwV 1 hts gX5_one_X5_isPerson rfl rfl rfl (by decide +kernel) ⟨Nat.le_of_ble_eq_true rfl, Nat.le_of_ble_eq_true rfl⟩) hK hP [0, 1, 2, 3, 4, 5, 6, 7, 8, 9, 10, 11, 12, 13, 14, 15, 16, 17, 18, 19, 20] rfl rfl rfl rfl rfl hl.1 rfl (Nat.le_of_ble_eq_true rfl) ⟨Nat.zero_le _, Nat.zero_le _⟩ dX5_one_2 ?_
  refine lb_eq (tgt := 41) hx hb dX5_one_5 (by decide) (fun c_5 => ?_) (fun c_5 => ?_)
  · skip
    have ha := isHd_out (P := P) c_5
    refine lv_iconst (v := 0) hx hb dX5_one_41 (by decide) ?_
    refine mu_zret hx hb hr hlocks hS dX5_one_42 ?_ ?_
    · simp [bI, okJ, ha]
    have q0 : (fl 4 (joinT np P a b)) = (fl 4 P) := by rw [joinT, if_neg (by simp [okJ, ha])]
    have q1 : ((joinT np P a b) 4) = (P 4) := by rw [joinT, if_neg (by simp [okJ, ha])]
    have q2 : ((joinT np P a b) 5) = (P 5) := by rw [joinT, if_neg (by simp [okJ, ha])]
    rw [q0, q1, q2]
    exact hP
  · skip
    obtain ⟨ja, hja, rfl⟩ := inR_ex c_5 (by omega)
    refine lv_aload_n hx hb dX5_one_8 rfl (lv_at hl 0 rfl) ?_
    refine lv_iload_n hx hb dX5_one_9 rfl (lv_at hl 2 rfl) ?_
    refine rcV (As := [.int b]) (rest := []) (ci := 5) ⟨hx, hb, hml, hown, hts⟩ (kX5_isPerson l D cI cZ o5 k6 k7 k8 k9 k10 k11 k12 k13 k14 k15 k16 k17 k18 k19 k20 k21 k22 k23 k24 k25 np nh nn nb ne td P G N B E mc b) (cwV 1 hts gX5_one_X5_isPerson rfl rfl rfl (by decide +kernel) ⟨Nat.le_of_ble_eq_true rfl, Nat.le_of_ble_eq_true rfl⟩) hK hP [0, 1, 2, 3, 4, 5, 6, 7, 8, 9, 10, 11, 12, 13, 14, 15, 16, 17, 18, 19, 20] rfl rfl rfl rfl rfl hl.1 rfl (Nat.le_of_ble_eq_true rfl) ⟨Nat.zero_le _, Nat.zero_le _⟩ dX5_one_10 ?_
    refine lb_eq (tgt := 41) hx hb dX5_one_13 (by decide) (fun c_13 => ?_) (fun c_13 => ?_)
    · skip
      have hb_ := isHd_out (P := P) c_13
      refine lv_iconst (v := 0) hx hb dX5_one_41 (by decide) ?_
      refine mu_zret hx hb hr hlocks hS dX5_one_42 ?_ ?_
      · simp [bI, okJ, hb_]
      have q0 : (fl 4 (joinT np P (nI ja) b)) = (fl 4 P) := by rw [joinT, if_neg (by simp [okJ, hb_])]
      have q1 : ((joinT np P (nI ja) b) 4) = (P 4) := by rw [joinT, if_neg (by simp [okJ, hb_])]
      have q2 : ((joinT np P (nI ja) b) 5) = (P 5) := by rw [joinT, if_neg (by simp [okJ, hb_])]
      rw [q0, q1, q2]
      exact hP
    · skip
      obtain ⟨jb, hjb, rfl⟩ := inR_ex c_13 (by omega)
      refine lv_iload_n hx hb dX5_one_16 rfl (lv_at hl 1 rfl) ?_
      refine lv_iload_n hx hb dX5_one_17 rfl (lv_at hl 2 rfl) ?_
      refine lv_icmp_eq (tgt := 41) hx hb dX5_one_18 (by decide) (fun c_18 => ?_) (fun c_18 => ?_)
      · skip
        refine lv_iconst (v := 0) hx hb dX5_one_41 (by decide) ?_
        refine mu_zret hx hb hr hlocks hS dX5_one_42 ?_ ?_
        · simp [bI, okJ, c_18]
        have q0 : (fl 4 (joinT np P (nI ja) (nI jb))) = (fl 4 P) := by rw [joinT, if_neg (by simp [okJ, c_18])]
        have q1 : ((joinT np P (nI ja) (nI jb)) 4) = (P 4) := by rw [joinT, if_neg (by simp [okJ, c_18])]
        have q2 : ((joinT np P (nI ja) (nI jb)) 5) = (P 5) := by rw [joinT, if_neg (by simp [okJ, c_18])]
        rw [q0, q1, q2]
        exact hP
      · skip
        refine lv_aload_n hx hb dX5_one_21 rfl (lv_at hl 0 rfl) ?_
        refine va_get (D := D) (ci := 5) (v := .ref k7) (C := RX5) (T := TX5) (N := 26) hx hb hts hin5 hown hK hP 0 rfl rfl 7 (by decide) hf13 (fun _ h9 => h9) rfl dX5_one_22 ?_
        refine lv_iload_n hx hb dX5_one_25 rfl (lv_at hl 1 rfl) ?_
        refine va_ialdN (D := D) (cl := vwCl) (cA := cI) (f := P 4) hx hb hK hP 2 0 rfl rfl ja (rfl) (by omega) (by first | decide | assumption) dX5_one_26 ?_
        refine lv_iconst (v := (-1)) hx hb dX5_one_27 (by decide) ?_
        refine lv_icmp_ne (tgt := 41) hx hb dX5_one_28 (by decide) (fun c_28 => ?_) (fun c_28 => ?_)
        · skip
          have ha := isHd_no hnp hja c_28
          refine lv_iconst (v := 0) hx hb dX5_one_41 (by decide) ?_
          refine mu_zret hx hb hr hlocks hS dX5_one_42 ?_ ?_
          · simp [bI, okJ, ha, c_18]
          have q0 : (fl 4 (joinT np P (nI ja) (nI jb))) = (fl 4 P) := by rw [joinT, if_neg (by simp [okJ, ha, c_18])]
          have q1 : ((joinT np P (nI ja) (nI jb)) 4) = (P 4) := by rw [joinT, if_neg (by simp [okJ, ha, c_18])]
          have q2 : ((joinT np P (nI ja) (nI jb)) 5) = (P 5) := by rw [joinT, if_neg (by simp [okJ, ha, c_18])]
          rw [q0, q1, q2]
          exact hP
        · skip
          have ha := isHd_yes hnp hja c_28
          refine lv_aload_n hx hb dX5_one_31 rfl (lv_at hl 0 rfl) ?_
          refine va_get (D := D) (ci := 5) (v := .ref k7) (C := RX5) (T := TX5) (N := 26) hx hb hts hin5 hown hK hP 0 rfl rfl 7 (by decide) hf13 (fun _ h9 => h9) rfl dX5_one_32 ?_
          refine lv_iload_n hx hb dX5_one_35 rfl (lv_at hl 2 rfl) ?_
          refine va_ialdN (D := D) (cl := vwCl) (cA := cI) (f := P 4) hx hb hK hP 2 0 rfl rfl jb (rfl) (by omega) (by first | decide | assumption) dX5_one_36 ?_
          refine lv_iconst (v := (-1)) hx hb dX5_one_37 (by decide) ?_
          refine lv_icmp_eq (tgt := 43) hx hb dX5_one_38 (by decide) (fun c_38 => ?_) (fun c_38 => ?_)
          · skip
            have hb_ := isHd_yes hnp hjb c_38
            refine lv_aload_n hx hb dX5_one_43 rfl (lv_at hl 0 rfl) ?_
            refine va_get (D := D) (ci := 5) (v := .ref k8) (C := RX5) (T := TX5) (N := 26) hx hb hts hin5 hown hK hP 0 rfl rfl 8 (by decide) hf16 (fun _ h9 => h9) rfl dX5_one_44 ?_
            refine lv_iload_n hx hb dX5_one_47 rfl (lv_at hl 1 rfl) ?_
            refine va_zaldN (D := D) (cl := vwCl) (cA := cZ) (f := P 5) hx hb hK hP 3 1 rfl rfl ja (rfl) (by omega) (by first | decide | assumption) dX5_one_48 ?_
            refine lv_if_ne (tgt := 61) hx hb dX5_one_49 (by decide) (fun c_49 => ?_) (fun c_49 => ?_)
            · skip
              have sa := isSt_1 hnp hja hs c_49
              refine lv_iconst (v := 1) hx hb dX5_one_61 (by decide) ?_
              refine lv_goto (tgt := 66) hx hb dX5_one_62 (by decide) ?_
              refine lv_istore_n (lv' := [(3, .int 1), (0, .ref o5), (1, .int ((nI ja))), (2, .int ((nI jb)))]) hx hb dX5_one_66 rfl hl (by decide) rfl (fun ls hl => ?_)
              have ub : tput np 6 P (nI jb) 4 (nI ja) = up2 P 4 jb (nI ja) := tput_nI (c := 4) (by omega) (by omega) hjb (by omega)
              refine lv_aload_n hx hb dX5_one_67 rfl (lv_at hl 1 rfl) ?_
              refine va_get (D := D) (ci := 5) (v := .ref k7) (C := RX5) (T := TX5) (N := 26) hx hb hts hin5 hown hK hP 0 rfl rfl 7 (by decide) hf13 (fun _ h9 => h9) rfl dX5_one_68 ?_
              refine lv_iload_n hx hb dX5_one_71 rfl (lv_at hl 3 rfl) ?_
              refine lv_iload_n hx hb dX5_one_72 rfl (lv_at hl 2 rfl) ?_
              refine va_iastN (D := D) (cl := vwCl) (cA := cI) (f := P 4) (x := (nI ja)) hx hb hK hP hD hS 2 0 rfl rfl jb (rfl) (by omega) (by first | decide | assumption) dX5_one_73 (fun H locs hP hD hS => ?_)
              have hP : va_P D vwCl [(o5, .inr (5, [.int (nI np), .int (nI nh), .int td, .int (nI nn), .int (nI nb), .int (nI ne), .ref k6, .ref k7, .ref k8, .ref k9, .ref k10, .ref k11, .ref k12, .ref k13, .ref k14, .ref k15, .ref k16, .ref k17, .ref k18, .ref k19, .ref k20, .ref k21, .ref k22, .ref k23, .ref k24, .ref k25])), (k6, .inl (cI, 96, .inl (fl 4 P))), (k7, .inl (cI, 24, .inl (upd (P 4) jb (nI ja)))), (k8, .inl (cZ, 24, .inl (P 5))), (k9, .inl (cI, 5, .inl (G 0))), (k10, .inl (cI, 5, .inl (G 1))), (k11, .inl (cI, 5, .inl (G 2))), (k12, .inl (cI, 5, .inl (G 3))), (k13, .inl (cI, 5, .inl (G 4))), (k14, .inl (cI, 5, .inl (mc))), (k15, .inl (cZ, 5, .inl (G 5))), (k16, .inl (cI, 200, .inl (N 0))), (k17, .inl (cI, 200, .inl (N 1))), (k18, .inl (cI, 200, .inl (N 2))), (k19, .inl (cI, 200, .inl (N 3))), (k20, .inl (cI, 200, .inl (N 4))), (k21, .inl (cI, 20, .inl (B 0))), (k22, .inl (cI, 20, .inl (B 1))), (k23, .inl (cI, 20, .inl (B 2))), (k24, .inl (cI, 20, .inl (B 3))), (k25, .inl (cI, 1200, .inl (fl 6 E)))] H := hP
              have hD : va_D (adr _) [(o5, .inr (5, [.int (nI np), .int (nI nh), .int td, .int (nI nn), .int (nI nb), .int (nI ne), .ref k6, .ref k7, .ref k8, .ref k9, .ref k10, .ref k11, .ref k12, .ref k13, .ref k14, .ref k15, .ref k16, .ref k17, .ref k18, .ref k19, .ref k20, .ref k21, .ref k22, .ref k23, .ref k24, .ref k25])), (k6, .inl (cI, 96, .inl (fl 4 P))), (k7, .inl (cI, 24, .inl (upd (P 4) jb (nI ja)))), (k8, .inl (cZ, 24, .inl (P 5))), (k9, .inl (cI, 5, .inl (G 0))), (k10, .inl (cI, 5, .inl (G 1))), (k11, .inl (cI, 5, .inl (G 2))), (k12, .inl (cI, 5, .inl (G 3))), (k13, .inl (cI, 5, .inl (G 4))), (k14, .inl (cI, 5, .inl (mc))), (k15, .inl (cZ, 5, .inl (G 5))), (k16, .inl (cI, 200, .inl (N 0))), (k17, .inl (cI, 200, .inl (N 1))), (k18, .inl (cI, 200, .inl (N 2))), (k19, .inl (cI, 200, .inl (N 3))), (k20, .inl (cI, 200, .inl (N 4))), (k21, .inl (cI, 20, .inl (B 0))), (k22, .inl (cI, 20, .inl (B 1))), (k23, .inl (cI, 20, .inl (B 2))), (k24, .inl (cI, 20, .inl (B 3))), (k25, .inl (cI, 1200, .inl (fl 6 E)))] := hD
              refine lv_iload_n hx hb dX5_one_74 rfl (lv_at hl 0 rfl) ?_
              refine lv_if_eq (tgt := 83) hx hb dX5_one_75 (by decide) (fun c9 => absurd c9 (by decide)) (fun _ => ?_)
              have q0 : (fl 4 (up2 P 4 jb (nI ja))) = (fl 4 P) := by first | rfl | exact fl_up_out (by omega) (by omega)
              have q1 : ((up2 P 4 jb (nI ja)) 4) = (upd (P 4) jb (nI ja)) := by first | rfl | exact fl_up_out (by omega) (by omega)
              have q2 : ((up2 P 4 jb (nI ja)) 5) = (P 5) := by first | rfl | exact fl_up_out (by omega) (by omega)
              have hP : va_P D vwCl [(o5, .inr (5, [.int (nI np), .int (nI nh), .int td, .int (nI nn), .int (nI nb), .int (nI ne), .ref k6, .ref k7, .ref k8, .ref k9, .ref k10, .ref k11, .ref k12, .ref k13, .ref k14, .ref k15, .ref k16, .ref k17, .ref k18, .ref k19, .ref k20, .ref k21, .ref k22, .ref k23, .ref k24, .ref k25])), (k6, .inl (cI, 96, .inl (fl 4 (up2 P 4 jb (nI ja))))), (k7, .inl (cI, 24, .inl ((up2 P 4 jb (nI ja)) 4))), (k8, .inl (cZ, 24, .inl ((up2 P 4 jb (nI ja)) 5))), (k9, .inl (cI, 5, .inl (G 0))), (k10, .inl (cI, 5, .inl (G 1))), (k11, .inl (cI, 5, .inl (G 2))), (k12, .inl (cI, 5, .inl (G 3))), (k13, .inl (cI, 5, .inl (G 4))), (k14, .inl (cI, 5, .inl (mc))), (k15, .inl (cZ, 5, .inl (G 5))), (k16, .inl (cI, 200, .inl (N 0))), (k17, .inl (cI, 200, .inl (N 1))), (k18, .inl (cI, 200, .inl (N 2))), (k19, .inl (cI, 200, .inl (N 3))), (k20, .inl (cI, 200, .inl (N 4))), (k21, .inl (cI, 20, .inl (B 0))), (k22, .inl (cI, 20, .inl (B 1))), (k23, .inl (cI, 20, .inl (B 2))), (k24, .inl (cI, 20, .inl (B 3))), (k25, .inl (cI, 1200, .inl (fl 6 E)))] H := by rw [q0, q1, q2]; exact hP
              have hD : va_D (adr [(o5, .inr (5, [.int (nI np), .int (nI nh), .int td, .int (nI nn), .int (nI nb), .int (nI ne), .ref k6, .ref k7, .ref k8, .ref k9, .ref k10, .ref k11, .ref k12, .ref k13, .ref k14, .ref k15, .ref k16, .ref k17, .ref k18, .ref k19, .ref k20, .ref k21, .ref k22, .ref k23, .ref k24, .ref k25])), (k6, .inl (cI, 96, .inl (fl 4 P))), (k7, .inl (cI, 24, .inl (P 4))), (k8, .inl (cZ, 24, .inl (P 5))), (k9, .inl (cI, 5, .inl (G 0))), (k10, .inl (cI, 5, .inl (G 1))), (k11, .inl (cI, 5, .inl (G 2))), (k12, .inl (cI, 5, .inl (G 3))), (k13, .inl (cI, 5, .inl (G 4))), (k14, .inl (cI, 5, .inl (mc))), (k15, .inl (cZ, 5, .inl (G 5))), (k16, .inl (cI, 200, .inl (N 0))), (k17, .inl (cI, 200, .inl (N 1))), (k18, .inl (cI, 200, .inl (N 2))), (k19, .inl (cI, 200, .inl (N 3))), (k20, .inl (cI, 200, .inl (N 4))), (k21, .inl (cI, 20, .inl (B 0))), (k22, .inl (cI, 20, .inl (B 1))), (k23, .inl (cI, 20, .inl (B 2))), (k24, .inl (cI, 20, .inl (B 3))), (k25, .inl (cI, 1200, .inl (fl 6 E)))]) [(o5, .inr (5, [.int (nI np), .int (nI nh), .int td, .int (nI nn), .int (nI nb), .int (nI ne), .ref k6, .ref k7, .ref k8, .ref k9, .ref k10, .ref k11, .ref k12, .ref k13, .ref k14, .ref k15, .ref k16, .ref k17, .ref k18, .ref k19, .ref k20, .ref k21, .ref k22, .ref k23, .ref k24, .ref k25])), (k6, .inl (cI, 96, .inl (fl 4 (up2 P 4 jb (nI ja))))), (k7, .inl (cI, 24, .inl ((up2 P 4 jb (nI ja)) 4))), (k8, .inl (cZ, 24, .inl ((up2 P 4 jb (nI ja)) 5))), (k9, .inl (cI, 5, .inl (G 0))), (k10, .inl (cI, 5, .inl (G 1))), (k11, .inl (cI, 5, .inl (G 2))), (k12, .inl (cI, 5, .inl (G 3))), (k13, .inl (cI, 5, .inl (G 4))), (k14, .inl (cI, 5, .inl (mc))), (k15, .inl (cZ, 5, .inl (G 5))), (k16, .inl (cI, 200, .inl (N 0))), (k17, .inl (cI, 200, .inl (N 1))), (k18, .inl (cI, 200, .inl (N 2))), (k19, .inl (cI, 200, .inl (N 3))), (k20, .inl (cI, 200, .inl (N 4))), (k21, .inl (cI, 20, .inl (B 0))), (k22, .inl (cI, 20, .inl (B 1))), (k23, .inl (cI, 20, .inl (B 2))), (k24, .inl (cI, 20, .inl (B 3))), (k25, .inl (cI, 1200, .inl (fl 6 E)))] := hD.fst rfl
              refine lv_aload_n hx hb dX5_one_78 rfl (lv_at hl 1 rfl) ?_
              refine lv_iload_n hx hb dX5_one_79 rfl (lv_at hl 2 rfl) ?_
              refine mcV (As := [.int ((nI ja))]) (rest := []) (ci := 5) (wn := [(o5, .inr (5, [.int (nI np), .int (nI nh), .int td, .int (nI nn), .int (nI nb), .int (nI ne), .ref k6, .ref k7, .ref k8, .ref k9, .ref k10, .ref k11, .ref k12, .ref k13, .ref k14, .ref k15, .ref k16, .ref k17, .ref k18, .ref k19, .ref k20, .ref k21, .ref k22, .ref k23, .ref k24, .ref k25])), (k6, .inl (cI, 96, .inl (fl 4 (strk np (up2 P 4 jb (nI ja)) ja 24)))), (k7, .inl (cI, 24, .inl ((strk np (up2 P 4 jb (nI ja)) ja 24) 4))), (k8, .inl (cZ, 24, .inl ((strk np (up2 P 4 jb (nI ja)) ja 24) 5))), (k9, .inl (cI, 5, .inl (G 0))), (k10, .inl (cI, 5, .inl (G 1))), (k11, .inl (cI, 5, .inl (G 2))), (k12, .inl (cI, 5, .inl (G 3))), (k13, .inl (cI, 5, .inl (G 4))), (k14, .inl (cI, 5, .inl (mc))), (k15, .inl (cZ, 5, .inl (G 5))), (k16, .inl (cI, 200, .inl (N 0))), (k17, .inl (cI, 200, .inl (N 1))), (k18, .inl (cI, 200, .inl (N 2))), (k19, .inl (cI, 200, .inl (N 3))), (k20, .inl (cI, 200, .inl (N 4))), (k21, .inl (cI, 20, .inl (B 0))), (k22, .inl (cI, 20, .inl (B 1))), (k23, .inl (cI, 20, .inl (B 2))), (k24, .inl (cI, 20, .inl (B 3))), (k25, .inl (cI, 1200, .inl (fl 6 E)))]) ⟨hx, hb, hml, hown, hts⟩ (kX5_strikes l D cI cZ o5 k6 k7 k8 k9 k10 k11 k12 k13 k14 k15 k16 k17 k18 k19 k20 k21 k22 k23 k24 k25 np nh nn nb ne td (up2 P 4 jb (nI ja)) G N B E mc ja (by first | assumption | omega) (hw.join hnp hja hjb (fun q => c_18 (by rw [q])) c_28 c_38) (by omega)) (cwV 1 hts gX5_one_X5_strikes rfl rfl rfl (by decide +kernel) ⟨Nat.le_of_ble_eq_true rfl, Nat.le_of_ble_eq_true rfl⟩) hK hP hD hS [0, 1, 2, 3, 4, 5, 6, 7, 8, 9, 10, 11, 12, 13, 14, 15, 16, 17, 18, 19, 20] rfl rfl rfl rfl rfl rfl rfl rfl rfl hl.1 rfl (Nat.le_of_ble_eq_true rfl) ⟨Nat.zero_le _, Nat.zero_le _⟩ dX5_one_80 (fun H locs hP hD hS => ?_)
              refine W.eq (g2 := F0 mm 83 ls []) rfl ?_
              refine lv_iconst (v := 1) hx hb dX5_one_83 (by decide) ?_
              refine mu_zret hx hb hr hlocks hS dX5_one_84 ?_ ?_
              · simp [bI, okJ, ha, hb_, c_18]
              have q0 : (fl 4 (joinT np P (nI ja) (nI jb))) = (fl 4 (strk np (up2 P 4 jb (nI ja)) ja 24)) := by rw [joinT, if_pos (by simp [okJ, ha, hb_, c_18]), ub, if_pos (by simp [isSt_up4, sa]), nI_clamp (by omega)]
              have q1 : ((joinT np P (nI ja) (nI jb)) 4) = ((strk np (up2 P 4 jb (nI ja)) ja 24) 4) := by rw [joinT, if_pos (by simp [okJ, ha, hb_, c_18]), ub, if_pos (by simp [isSt_up4, sa]), nI_clamp (by omega)]
              have q2 : ((joinT np P (nI ja) (nI jb)) 5) = ((strk np (up2 P 4 jb (nI ja)) ja 24) 5) := by rw [joinT, if_pos (by simp [okJ, ha, hb_, c_18]), ub, if_pos (by simp [isSt_up4, sa]), nI_clamp (by omega)]
              rw [q0, q1, q2]
              exact hP
            · skip
              have sa := isSt_0 hnp hja c_49
              refine lv_aload_n hx hb dX5_one_52 rfl (lv_at hl 0 rfl) ?_
              refine va_get (D := D) (ci := 5) (v := .ref k8) (C := RX5) (T := TX5) (N := 26) hx hb hts hin5 hown hK hP 0 rfl rfl 8 (by decide) hf16 (fun _ h9 => h9) rfl dX5_one_53 ?_
              refine lv_iload_n hx hb dX5_one_56 rfl (lv_at hl 2 rfl) ?_
              refine va_zaldN (D := D) (cl := vwCl) (cA := cZ) (f := P 5) hx hb hK hP 3 1 rfl rfl jb (rfl) (by omega) (by first | decide | assumption) dX5_one_57 ?_
              refine lv_if_eq (tgt := 65) hx hb dX5_one_58 (by decide) (fun c_58 => ?_) (fun c_58 => ?_)
              · skip
                have sb := isSt_0 hnp hjb c_58
                refine lv_iconst (v := 0) hx hb dX5_one_65 (by decide) ?_
                refine lv_istore_n (lv' := [(3, .int 0), (0, .ref o5), (1, .int ((nI ja))), (2, .int ((nI jb)))]) hx hb dX5_one_66 rfl hl (by decide) rfl (fun ls hl => ?_)
                have ub : tput np 6 P (nI jb) 4 (nI ja) = up2 P 4 jb (nI ja) := tput_nI (c := 4) (by omega) (by omega) hjb (by omega)
                refine lv_aload_n hx hb dX5_one_67 rfl (lv_at hl 1 rfl) ?_
                refine va_get (D := D) (ci := 5) (v := .ref k7) (C := RX5) (T := TX5) (N := 26) hx hb hts hin5 hown hK hP 0 rfl rfl 7 (by decide) hf13 (fun _ h9 => h9) rfl dX5_one_68 ?_
                refine lv_iload_n hx hb dX5_one_71 rfl (lv_at hl 3 rfl) ?_
                refine lv_iload_n hx hb dX5_one_72 rfl (lv_at hl 2 rfl) ?_
                refine va_iastN (D := D) (cl := vwCl) (cA := cI) (f := P 4) (x := (nI ja)) hx hb hK hP hD hS 2 0 rfl rfl jb (rfl) (by omega) (by first | decide | assumption) dX5_one_73 (fun H locs hP hD hS => ?_)
                have hP : va_P D vwCl [(o5, .inr (5, [.int (nI np), .int (nI nh), .int td, .int (nI nn), .int (nI nb), .int (nI ne), .ref k6, .ref k7, .ref k8, .ref k9, .ref k10, .ref k11, .ref k12, .ref k13, .ref k14, .ref k15, .ref k16, .ref k17, .ref k18, .ref k19, .ref k20, .ref k21, .ref k22, .ref k23, .ref k24, .ref k25])), (k6, .inl (cI, 96, .inl (fl 4 P))), (k7, .inl (cI, 24, .inl (upd (P 4) jb (nI ja)))), (k8, .inl (cZ, 24, .inl (P 5))), (k9, .inl (cI, 5, .inl (G 0))), (k10, .inl (cI, 5, .inl (G 1))), (k11, .inl (cI, 5, .inl (G 2))), (k12, .inl (cI, 5, .inl (G 3))), (k13, .inl (cI, 5, .inl (G 4))), (k14, .inl (cI, 5, .inl (mc))), (k15, .inl (cZ, 5, .inl (G 5))), (k16, .inl (cI, 200, .inl (N 0))), (k17, .inl (cI, 200, .inl (N 1))), (k18, .inl (cI, 200, .inl (N 2))), (k19, .inl (cI, 200, .inl (N 3))), (k20, .inl (cI, 200, .inl (N 4))), (k21, .inl (cI, 20, .inl (B 0))), (k22, .inl (cI, 20, .inl (B 1))), (k23, .inl (cI, 20, .inl (B 2))), (k24, .inl (cI, 20, .inl (B 3))), (k25, .inl (cI, 1200, .inl (fl 6 E)))] H := hP
                have hD : va_D (adr _) [(o5, .inr (5, [.int (nI np), .int (nI nh), .int td, .int (nI nn), .int (nI nb), .int (nI ne), .ref k6, .ref k7, .ref k8, .ref k9, .ref k10, .ref k11, .ref k12, .ref k13, .ref k14, .ref k15, .ref k16, .ref k17, .ref k18, .ref k19, .ref k20, .ref k21, .ref k22, .ref k23, .ref k24, .ref k25])), (k6, .inl (cI, 96, .inl (fl 4 P))), (k7, .inl (cI, 24, .inl (upd (P 4) jb (nI ja)))), (k8, .inl (cZ, 24, .inl (P 5))), (k9, .inl (cI, 5, .inl (G 0))), (k10, .inl (cI, 5, .inl (G 1))), (k11, .inl (cI, 5, .inl (G 2))), (k12, .inl (cI, 5, .inl (G 3))), (k13, .inl (cI, 5, .inl (G 4))), (k14, .inl (cI, 5, .inl (mc))), (k15, .inl (cZ, 5, .inl (G 5))), (k16, .inl (cI, 200, .inl (N 0))), (k17, .inl (cI, 200, .inl (N 1))), (k18, .inl (cI, 200, .inl (N 2))), (k19, .inl (cI, 200, .inl (N 3))), (k20, .inl (cI, 200, .inl (N 4))), (k21, .inl (cI, 20, .inl (B 0))), (k22, .inl (cI, 20, .inl (B 1))), (k23, .inl (cI, 20, .inl (B 2))), (k24, .inl (cI, 20, .inl (B 3))), (k25, .inl (cI, 1200, .inl (fl 6 E)))] := hD
                refine lv_iload_n hx hb dX5_one_74 rfl (lv_at hl 0 rfl) ?_
                refine lv_if_eq (tgt := 83) hx hb dX5_one_75 (by decide) (fun _ => ?_) (fun c9 => absurd c9 (by decide))
                refine lv_iconst (v := 1) hx hb dX5_one_83 (by decide) ?_
                refine mu_zret hx hb hr hlocks hS dX5_one_84 ?_ ?_
                · simp [bI, okJ, ha, hb_, c_18]
                have q0 : (fl 4 (joinT np P (nI ja) (nI jb))) = (fl 4 P) := by rw [joinT, if_pos (by simp [okJ, ha, hb_, c_18]), ub, if_neg (by simp [isSt_up4, sa, sb])]; first | rfl | exact fl_up_out (by omega) (by omega)
                have q1 : ((joinT np P (nI ja) (nI jb)) 4) = (upd (P 4) jb (nI ja)) := by rw [joinT, if_pos (by simp [okJ, ha, hb_, c_18]), ub, if_neg (by simp [isSt_up4, sa, sb])]; first | rfl | exact fl_up_out (by omega) (by omega)
                have q2 : ((joinT np P (nI ja) (nI jb)) 5) = (P 5) := by rw [joinT, if_pos (by simp [okJ, ha, hb_, c_18]), ub, if_neg (by simp [isSt_up4, sa, sb])]; first | rfl | exact fl_up_out (by omega) (by omega)
                rw [q0, q1, q2]
                exact hP
              · skip
                have sb := isSt_1 hnp hjb hs c_58
                refine lv_iconst (v := 1) hx hb dX5_one_61 (by decide) ?_
                refine lv_goto (tgt := 66) hx hb dX5_one_62 (by decide) ?_
                refine lv_istore_n (lv' := [(3, .int 1), (0, .ref o5), (1, .int ((nI ja))), (2, .int ((nI jb)))]) hx hb dX5_one_66 rfl hl (by decide) rfl (fun ls hl => ?_)
                have ub : tput np 6 P (nI jb) 4 (nI ja) = up2 P 4 jb (nI ja) := tput_nI (c := 4) (by omega) (by omega) hjb (by omega)
                refine lv_aload_n hx hb dX5_one_67 rfl (lv_at hl 1 rfl) ?_
                refine va_get (D := D) (ci := 5) (v := .ref k7) (C := RX5) (T := TX5) (N := 26) hx hb hts hin5 hown hK hP 0 rfl rfl 7 (by decide) hf13 (fun _ h9 => h9) rfl dX5_one_68 ?_
                refine lv_iload_n hx hb dX5_one_71 rfl (lv_at hl 3 rfl) ?_
                refine lv_iload_n hx hb dX5_one_72 rfl (lv_at hl 2 rfl) ?_
                refine va_iastN (D := D) (cl := vwCl) (cA := cI) (f := P 4) (x := (nI ja)) hx hb hK hP hD hS 2 0 rfl rfl jb (rfl) (by omega) (by first | decide | assumption) dX5_one_73 (fun H locs hP hD hS => ?_)
                have hP : va_P D vwCl [(o5, .inr (5, [.int (nI np), .int (nI nh), .int td, .int (nI nn), .int (nI nb), .int (nI ne), .ref k6, .ref k7, .ref k8, .ref k9, .ref k10, .ref k11, .ref k12, .ref k13, .ref k14, .ref k15, .ref k16, .ref k17, .ref k18, .ref k19, .ref k20, .ref k21, .ref k22, .ref k23, .ref k24, .ref k25])), (k6, .inl (cI, 96, .inl (fl 4 P))), (k7, .inl (cI, 24, .inl (upd (P 4) jb (nI ja)))), (k8, .inl (cZ, 24, .inl (P 5))), (k9, .inl (cI, 5, .inl (G 0))), (k10, .inl (cI, 5, .inl (G 1))), (k11, .inl (cI, 5, .inl (G 2))), (k12, .inl (cI, 5, .inl (G 3))), (k13, .inl (cI, 5, .inl (G 4))), (k14, .inl (cI, 5, .inl (mc))), (k15, .inl (cZ, 5, .inl (G 5))), (k16, .inl (cI, 200, .inl (N 0))), (k17, .inl (cI, 200, .inl (N 1))), (k18, .inl (cI, 200, .inl (N 2))), (k19, .inl (cI, 200, .inl (N 3))), (k20, .inl (cI, 200, .inl (N 4))), (k21, .inl (cI, 20, .inl (B 0))), (k22, .inl (cI, 20, .inl (B 1))), (k23, .inl (cI, 20, .inl (B 2))), (k24, .inl (cI, 20, .inl (B 3))), (k25, .inl (cI, 1200, .inl (fl 6 E)))] H := hP
                have hD : va_D (adr _) [(o5, .inr (5, [.int (nI np), .int (nI nh), .int td, .int (nI nn), .int (nI nb), .int (nI ne), .ref k6, .ref k7, .ref k8, .ref k9, .ref k10, .ref k11, .ref k12, .ref k13, .ref k14, .ref k15, .ref k16, .ref k17, .ref k18, .ref k19, .ref k20, .ref k21, .ref k22, .ref k23, .ref k24, .ref k25])), (k6, .inl (cI, 96, .inl (fl 4 P))), (k7, .inl (cI, 24, .inl (upd (P 4) jb (nI ja)))), (k8, .inl (cZ, 24, .inl (P 5))), (k9, .inl (cI, 5, .inl (G 0))), (k10, .inl (cI, 5, .inl (G 1))), (k11, .inl (cI, 5, .inl (G 2))), (k12, .inl (cI, 5, .inl (G 3))), (k13, .inl (cI, 5, .inl (G 4))), (k14, .inl (cI, 5, .inl (mc))), (k15, .inl (cZ, 5, .inl (G 5))), (k16, .inl (cI, 200, .inl (N 0))), (k17, .inl (cI, 200, .inl (N 1))), (k18, .inl (cI, 200, .inl (N 2))), (k19, .inl (cI, 200, .inl (N 3))), (k20, .inl (cI, 200, .inl (N 4))), (k21, .inl (cI, 20, .inl (B 0))), (k22, .inl (cI, 20, .inl (B 1))), (k23, .inl (cI, 20, .inl (B 2))), (k24, .inl (cI, 20, .inl (B 3))), (k25, .inl (cI, 1200, .inl (fl 6 E)))] := hD
                refine lv_iload_n hx hb dX5_one_74 rfl (lv_at hl 0 rfl) ?_
                refine lv_if_eq (tgt := 83) hx hb dX5_one_75 (by decide) (fun c9 => absurd c9 (by decide)) (fun _ => ?_)
                have q0 : (fl 4 (up2 P 4 jb (nI ja))) = (fl 4 P) := by first | rfl | exact fl_up_out (by omega) (by omega)
                have q1 : ((up2 P 4 jb (nI ja)) 4) = (upd (P 4) jb (nI ja)) := by first | rfl | exact fl_up_out (by omega) (by omega)
                have q2 : ((up2 P 4 jb (nI ja)) 5) = (P 5) := by first | rfl | exact fl_up_out (by omega) (by omega)
                have hP : va_P D vwCl [(o5, .inr (5, [.int (nI np), .int (nI nh), .int td, .int (nI nn), .int (nI nb), .int (nI ne), .ref k6, .ref k7, .ref k8, .ref k9, .ref k10, .ref k11, .ref k12, .ref k13, .ref k14, .ref k15, .ref k16, .ref k17, .ref k18, .ref k19, .ref k20, .ref k21, .ref k22, .ref k23, .ref k24, .ref k25])), (k6, .inl (cI, 96, .inl (fl 4 (up2 P 4 jb (nI ja))))), (k7, .inl (cI, 24, .inl ((up2 P 4 jb (nI ja)) 4))), (k8, .inl (cZ, 24, .inl ((up2 P 4 jb (nI ja)) 5))), (k9, .inl (cI, 5, .inl (G 0))), (k10, .inl (cI, 5, .inl (G 1))), (k11, .inl (cI, 5, .inl (G 2))), (k12, .inl (cI, 5, .inl (G 3))), (k13, .inl (cI, 5, .inl (G 4))), (k14, .inl (cI, 5, .inl (mc))), (k15, .inl (cZ, 5, .inl (G 5))), (k16, .inl (cI, 200, .inl (N 0))), (k17, .inl (cI, 200, .inl (N 1))), (k18, .inl (cI, 200, .inl (N 2))), (k19, .inl (cI, 200, .inl (N 3))), (k20, .inl (cI, 200, .inl (N 4))), (k21, .inl (cI, 20, .inl (B 0))), (k22, .inl (cI, 20, .inl (B 1))), (k23, .inl (cI, 20, .inl (B 2))), (k24, .inl (cI, 20, .inl (B 3))), (k25, .inl (cI, 1200, .inl (fl 6 E)))] H := by rw [q0, q1, q2]; exact hP
                have hD : va_D (adr [(o5, .inr (5, [.int (nI np), .int (nI nh), .int td, .int (nI nn), .int (nI nb), .int (nI ne), .ref k6, .ref k7, .ref k8, .ref k9, .ref k10, .ref k11, .ref k12, .ref k13, .ref k14, .ref k15, .ref k16, .ref k17, .ref k18, .ref k19, .ref k20, .ref k21, .ref k22, .ref k23, .ref k24, .ref k25])), (k6, .inl (cI, 96, .inl (fl 4 P))), (k7, .inl (cI, 24, .inl (P 4))), (k8, .inl (cZ, 24, .inl (P 5))), (k9, .inl (cI, 5, .inl (G 0))), (k10, .inl (cI, 5, .inl (G 1))), (k11, .inl (cI, 5, .inl (G 2))), (k12, .inl (cI, 5, .inl (G 3))), (k13, .inl (cI, 5, .inl (G 4))), (k14, .inl (cI, 5, .inl (mc))), (k15, .inl (cZ, 5, .inl (G 5))), (k16, .inl (cI, 200, .inl (N 0))), (k17, .inl (cI, 200, .inl (N 1))), (k18, .inl (cI, 200, .inl (N 2))), (k19, .inl (cI, 200, .inl (N 3))), (k20, .inl (cI, 200, .inl (N 4))), (k21, .inl (cI, 20, .inl (B 0))), (k22, .inl (cI, 20, .inl (B 1))), (k23, .inl (cI, 20, .inl (B 2))), (k24, .inl (cI, 20, .inl (B 3))), (k25, .inl (cI, 1200, .inl (fl 6 E)))]) [(o5, .inr (5, [.int (nI np), .int (nI nh), .int td, .int (nI nn), .int (nI nb), .int (nI ne), .ref k6, .ref k7, .ref k8, .ref k9, .ref k10, .ref k11, .ref k12, .ref k13, .ref k14, .ref k15, .ref k16, .ref k17, .ref k18, .ref k19, .ref k20, .ref k21, .ref k22, .ref k23, .ref k24, .ref k25])), (k6, .inl (cI, 96, .inl (fl 4 (up2 P 4 jb (nI ja))))), (k7, .inl (cI, 24, .inl ((up2 P 4 jb (nI ja)) 4))), (k8, .inl (cZ, 24, .inl ((up2 P 4 jb (nI ja)) 5))), (k9, .inl (cI, 5, .inl (G 0))), (k10, .inl (cI, 5, .inl (G 1))), (k11, .inl (cI, 5, .inl (G 2))), (k12, .inl (cI, 5, .inl (G 3))), (k13, .inl (cI, 5, .inl (G 4))), (k14, .inl (cI, 5, .inl (mc))), (k15, .inl (cZ, 5, .inl (G 5))), (k16, .inl (cI, 200, .inl (N 0))), (k17, .inl (cI, 200, .inl (N 1))), (k18, .inl (cI, 200, .inl (N 2))), (k19, .inl (cI, 200, .inl (N 3))), (k20, .inl (cI, 200, .inl (N 4))), (k21, .inl (cI, 20, .inl (B 0))), (k22, .inl (cI, 20, .inl (B 1))), (k23, .inl (cI, 20, .inl (B 2))), (k24, .inl (cI, 20, .inl (B 3))), (k25, .inl (cI, 1200, .inl (fl 6 E)))] := hD.fst rfl
                refine lv_aload_n hx hb dX5_one_78 rfl (lv_at hl 1 rfl) ?_
                refine lv_iload_n hx hb dX5_one_79 rfl (lv_at hl 2 rfl) ?_
                refine mcV (As := [.int ((nI ja))]) (rest := []) (ci := 5) (wn := [(o5, .inr (5, [.int (nI np), .int (nI nh), .int td, .int (nI nn), .int (nI nb), .int (nI ne), .ref k6, .ref k7, .ref k8, .ref k9, .ref k10, .ref k11, .ref k12, .ref k13, .ref k14, .ref k15, .ref k16, .ref k17, .ref k18, .ref k19, .ref k20, .ref k21, .ref k22, .ref k23, .ref k24, .ref k25])), (k6, .inl (cI, 96, .inl (fl 4 (strk np (up2 P 4 jb (nI ja)) ja 24)))), (k7, .inl (cI, 24, .inl ((strk np (up2 P 4 jb (nI ja)) ja 24) 4))), (k8, .inl (cZ, 24, .inl ((strk np (up2 P 4 jb (nI ja)) ja 24) 5))), (k9, .inl (cI, 5, .inl (G 0))), (k10, .inl (cI, 5, .inl (G 1))), (k11, .inl (cI, 5, .inl (G 2))), (k12, .inl (cI, 5, .inl (G 3))), (k13, .inl (cI, 5, .inl (G 4))), (k14, .inl (cI, 5, .inl (mc))), (k15, .inl (cZ, 5, .inl (G 5))), (k16, .inl (cI, 200, .inl (N 0))), (k17, .inl (cI, 200, .inl (N 1))), (k18, .inl (cI, 200, .inl (N 2))), (k19, .inl (cI, 200, .inl (N 3))), (k20, .inl (cI, 200, .inl (N 4))), (k21, .inl (cI, 20, .inl (B 0))), (k22, .inl (cI, 20, .inl (B 1))), (k23, .inl (cI, 20, .inl (B 2))), (k24, .inl (cI, 20, .inl (B 3))), (k25, .inl (cI, 1200, .inl (fl 6 E)))]) ⟨hx, hb, hml, hown, hts⟩ (kX5_strikes l D cI cZ o5 k6 k7 k8 k9 k10 k11 k12 k13 k14 k15 k16 k17 k18 k19 k20 k21 k22 k23 k24 k25 np nh nn nb ne td (up2 P 4 jb (nI ja)) G N B E mc ja (by first | assumption | omega) (hw.join hnp hja hjb (fun q => c_18 (by rw [q])) c_28 c_38) (by omega)) (cwV 1 hts gX5_one_X5_strikes rfl rfl rfl (by decide +kernel) ⟨Nat.le_of_ble_eq_true rfl, Nat.le_of_ble_eq_true rfl⟩) hK hP hD hS [0, 1, 2, 3, 4, 5, 6, 7, 8, 9, 10, 11, 12, 13, 14, 15, 16, 17, 18, 19, 20] rfl rfl rfl rfl rfl rfl rfl rfl rfl hl.1 rfl (Nat.le_of_ble_eq_true rfl) ⟨Nat.zero_le _, Nat.zero_le _⟩ dX5_one_80 (fun H locs hP hD hS => ?_)
                refine W.eq (g2 := F0 mm 83 ls []) rfl ?_
                refine lv_iconst (v := 1) hx hb dX5_one_83 (by decide) ?_
                refine mu_zret hx hb hr hlocks hS dX5_one_84 ?_ ?_
                · simp [bI, okJ, ha, hb_, c_18]
                have q0 : (fl 4 (joinT np P (nI ja) (nI jb))) = (fl 4 (strk np (up2 P 4 jb (nI ja)) ja 24)) := by rw [joinT, if_pos (by simp [okJ, ha, hb_, c_18]), ub, if_pos (by simp [isSt_up4, sb]), nI_clamp (by omega)]
                have q1 : ((joinT np P (nI ja) (nI jb)) 4) = ((strk np (up2 P 4 jb (nI ja)) ja 24) 4) := by rw [joinT, if_pos (by simp [okJ, ha, hb_, c_18]), ub, if_pos (by simp [isSt_up4, sb]), nI_clamp (by omega)]
                have q2 : ((joinT np P (nI ja) (nI jb)) 5) = ((strk np (up2 P 4 jb (nI ja)) ja 24) 5) := by rw [joinT, if_pos (by simp [okJ, ha, hb_, c_18]), ub, if_pos (by simp [isSt_up4, sb]), nI_clamp (by omega)]
                rw [q0, q1, q2]
                exact hP
          · skip
            have hb_ := isHd_no hnp hjb c_38
            refine lv_iconst (v := 0) hx hb dX5_one_41 (by decide) ?_
            refine mu_zret hx hb hr hlocks hS dX5_one_42 ?_ ?_
            · simp [bI, okJ, ha, hb_, c_18]
            have q0 : (fl 4 (joinT np P (nI ja) (nI jb))) = (fl 4 P) := by rw [joinT, if_neg (by simp [okJ, ha, hb_, c_18])]
            have q1 : ((joinT np P (nI ja) (nI jb)) 4) = (P 4) := by rw [joinT, if_neg (by simp [okJ, ha, hb_, c_18])]
            have q2 : ((joinT np P (nI ja) (nI jb)) 5) = (P 5) := by rw [joinT, if_neg (by simp [okJ, ha, hb_, c_18])]
            rw [q0, q1, q2]
            exact hP
set_option maxHeartbeats 4000000 in
set_option maxRecDepth 100000 in
theorem kX5_house (l : Launch) (D : va_G) (cI cZ : ClassId) (o5 k6 k7 k8 k9 k10 k11 k12 k13 k14 k15 k16 k17 k18 k19 k20 k21 k22 k23 k24 k25 np nh nn nb ne : Nat) (td : Int32) (P G N B E : Nat → Nat → Int32) (mc : Nat → Int32) (kd : Int32) (sn : Int32) (sd : Int32) (rs : Int32) (lt : Int32) (hnh : nh ≤ 5) (hg0 : ∀ h, nh ≤ h → G 5 h = 0) : Met l yX5_house wsX5_house ({ frames := 1, cells := 0, slots := 0, locals := 22 } : Room) (MuP D [(cI, .int), (cZ, .boolean)] [.ref o5, .int kd, .int sn, .int sd, .int rs, .int lt] [(o5, .inr (5, [.int (nI np), .int (nI nh), .int td, .int (nI nn), .int (nI nb), .int (nI ne), .ref k6, .ref k7, .ref k8, .ref k9, .ref k10, .ref k11, .ref k12, .ref k13, .ref k14, .ref k15, .ref k16, .ref k17, .ref k18, .ref k19, .ref k20, .ref k21, .ref k22, .ref k23, .ref k24, .ref k25])), (k6, .inl (cI, 96, .inl (fl 4 P))), (k7, .inl (cI, 24, .inl (P 4))), (k8, .inl (cZ, 24, .inl (P 5))), (k9, .inl (cI, 5, .inl (G 0))), (k10, .inl (cI, 5, .inl (G 1))), (k11, .inl (cI, 5, .inl (G 2))), (k12, .inl (cI, 5, .inl (G 3))), (k13, .inl (cI, 5, .inl (G 4))), (k14, .inl (cI, 5, .inl (mc))), (k15, .inl (cZ, 5, .inl (G 5))), (k16, .inl (cI, 200, .inl (N 0))), (k17, .inl (cI, 200, .inl (N 1))), (k18, .inl (cI, 200, .inl (N 2))), (k19, .inl (cI, 200, .inl (N 3))), (k20, .inl (cI, 200, .inl (N 4))), (k21, .inl (cI, 20, .inl (B 0))), (k22, .inl (cI, 20, .inl (B 1))), (k23, .inl (cI, 20, .inl (B 2))), (k24, .inl (cI, 20, .inl (B 3))), (k25, .inl (cI, 1200, .inl (fl 6 E)))]) (QM D (some (.int (if okH kd sn sd rs lt = true then arow 5 nh else -1))) [(o5, .inr (5, [.int (nI np), .int (nI nh), .int td, .int (nI nn), .int (nI nb), .int (nI ne), .ref k6, .ref k7, .ref k8, .ref k9, .ref k10, .ref k11, .ref k12, .ref k13, .ref k14, .ref k15, .ref k16, .ref k17, .ref k18, .ref k19, .ref k20, .ref k21, .ref k22, .ref k23, .ref k24, .ref k25])), (k6, .inl (cI, 96, .inl (fl 4 P))), (k7, .inl (cI, 24, .inl (P 4))), (k8, .inl (cZ, 24, .inl (P 5))), (k9, .inl (cI, 5, .inl (G 0))), (k10, .inl (cI, 5, .inl (G 1))), (k11, .inl (cI, 5, .inl (G 2))), (k12, .inl (cI, 5, .inl (G 3))), (k13, .inl (cI, 5, .inl (G 4))), (k14, .inl (cI, 5, .inl (mc))), (k15, .inl (cZ, 5, .inl (G 5))), (k16, .inl (cI, 200, .inl (N 0))), (k17, .inl (cI, 200, .inl (N 1))), (k18, .inl (cI, 200, .inl (N 2))), (k19, .inl (cI, 200, .inl (N 3))), (k20, .inl (cI, 200, .inl (N 4))), (k21, .inl (cI, 20, .inl (B 0))), (k22, .inl (cI, 20, .inl (B 1))), (k23, .inl (cI, 20, .inl (B 2))), (k24, .inl (cI, 20, .inl (B 3))), (k25, .inl (cI, 1200, .inl (fl 6 E)))] [(o5, .inr (5, [.int (nI np), .int (nI (if okH kd sn sd rs lt = true then adn 5 nh else nh)), .int td, .int (nI nn), .int (nI nb), .int (nI ne), .ref k6, .ref k7, .ref k8, .ref k9, .ref k10, .ref k11, .ref k12, .ref k13, .ref k14, .ref k15, .ref k16, .ref k17, .ref k18, .ref k19, .ref k20, .ref k21, .ref k22, .ref k23, .ref k24, .ref k25])), (k6, .inl (cI, 96, .inl (fl 4 P))), (k7, .inl (cI, 24, .inl (P 4))), (k8, .inl (cZ, 24, .inl (P 5))), (k9, .inl (cI, 5, .inl ((if okH kd sn sd rs lt = true then haddT nh G kd sn sd rs lt else G) 0))), (k10, .inl (cI, 5, .inl ((if okH kd sn sd rs lt = true then haddT nh G kd sn sd rs lt else G) 1))), (k11, .inl (cI, 5, .inl ((if okH kd sn sd rs lt = true then haddT nh G kd sn sd rs lt else G) 2))), (k12, .inl (cI, 5, .inl ((if okH kd sn sd rs lt = true then haddT nh G kd sn sd rs lt else G) 3))), (k13, .inl (cI, 5, .inl ((if okH kd sn sd rs lt = true then haddT nh G kd sn sd rs lt else G) 4))), (k14, .inl (cI, 5, .inl (mc))), (k15, .inl (cZ, 5, .inl ((if okH kd sn sd rs lt = true then haddT nh G kd sn sd rs lt else G) 5))), (k16, .inl (cI, 200, .inl (N 0))), (k17, .inl (cI, 200, .inl (N 1))), (k18, .inl (cI, 200, .inl (N 2))), (k19, .inl (cI, 200, .inl (N 3))), (k20, .inl (cI, 200, .inl (N 4))), (k21, .inl (cI, 20, .inl (B 0))), (k22, .inl (cI, 20, .inl (B 1))), (k23, .inl (cI, 20, .inl (B 2))), (k24, .inl (cI, 20, .inl (B 3))), (k25, .inl (cI, 1200, .inl (fl 6 E)))]) 0 0 (adr [(o5, .inr (5, [.int (nI np), .int (nI nh), .int td, .int (nI nn), .int (nI nb), .int (nI ne), .ref k6, .ref k7, .ref k8, .ref k9, .ref k10, .ref k11, .ref k12, .ref k13, .ref k14, .ref k15, .ref k16, .ref k17, .ref k18, .ref k19, .ref k20, .ref k21, .ref k22, .ref k23, .ref k24, .ref k25])), (k6, .inl (cI, 96, .inl (fl 4 P))), (k7, .inl (cI, 24, .inl (P 4))), (k8, .inl (cZ, 24, .inl (P 5))), (k9, .inl (cI, 5, .inl (G 0))), (k10, .inl (cI, 5, .inl (G 1))), (k11, .inl (cI, 5, .inl (G 2))), (k12, .inl (cI, 5, .inl (G 3))), (k13, .inl (cI, 5, .inl (G 4))), (k14, .inl (cI, 5, .inl (mc))), (k15, .inl (cZ, 5, .inl (G 5))), (k16, .inl (cI, 200, .inl (N 0))), (k17, .inl (cI, 200, .inl (N 1))), (k18, .inl (cI, 200, .inl (N 2))), (k19, .inl (cI, 200, .inl (N 3))), (k20, .inl (cI, 200, .inl (N 4))), (k21, .inl (cI, 20, .inl (B 0))), (k22, .inl (cI, 20, .inl (B 1))), (k23, .inl (cI, 20, .inl (B 2))), (k24, .inl (cI, 20, .inl (B 3))), (k25, .inl (cI, 1200, .inl (fl 6 E)))]) := by
  refine mu_of (cc := cX5_house) (maxL := 6) (ret := (some .int)) (by decide) rfl (Nat.le_of_ble_eq_true rfl) ?_
  intro pp ee ss mm bw me cd ls hx hb hr hts hown hlocks hml hK hl H locs hP hD hS
  have hl : lv_has ls 6 [(0, .ref o5), (1, .int kd), (2, .int sn), (3, .int sd), (4, .int rs), (5, .int lt)] := hl
  have hf97 := hts (.fieldLink RX5 97 "OtherNamesModel" "houses" "I") (by decide +kernel)
  have hin5 := (show ∀ w ∈ wsX50, w ∈ wsX5_house by decide +kernel)
  have hf20 := hts (.fieldLink RX5 20 "OtherNamesModel" "kind" "[I") (by decide +kernel)
  have hf23 := hts (.fieldLink RX5 23 "OtherNamesModel" "span" "[I") (by decide +kernel)
  have hf26 := hts (.fieldLink RX5 26 "OtherNamesModel" "seed" "[I") (by decide +kernel)
  have hf29 := hts (.fieldLink RX5 29 "OtherNamesModel" "reasons" "[I") (by decide +kernel)
  have hf32 := hts (.fieldLink RX5 32 "OtherNamesModel" "leastOf" "[I") (by decide +kernel)
  refine lv_iload_n hx hb dX5_house_0 rfl (lv_at hl 1 rfl) ?_
  refine lv_iconst (v := 0) hx hb dX5_house_1 (by decide) ?_
  refine lv_iconst (v := 2) hx hb dX5_house_2 (by decide) ?_
  refine rcS (As := [.int kd, .int 0, .int 2]) (rest := []) ⟨hx, hb, hml, hown, hts⟩ (kX5_in l D cI cZ kd 0 2) (va_cwS 3 hts gX5_house_X5_in rfl rfl rfl (by decide +kernel) ⟨Nat.le_of_ble_eq_true rfl, Nat.le_of_ble_eq_true rfl⟩) hK hP [] rfl rfl hl.1 rfl (Nat.le_of_ble_eq_true rfl) ⟨Nat.zero_le _, Nat.zero_le _⟩ dX5_house_3 ?_
  refine lb_eq (tgt := 62) hx hb dX5_house_6 (by decide) (fun c_6 => ?_) (fun c_6 => ?_)
  · skip
    refine lv_iconst (v := (-1)) hx hb dX5_house_62 (by decide) ?_
    refine mu_iret hx hb hr hlocks hS dX5_house_63 ?_ ?_
    · rw [if_neg (by simp [okH, c_6])]
    have q0 : (nI (if okH kd sn sd rs lt = true then adn 5 nh else nh)) = (nI nh) := by rw [if_neg (by simp [okH, c_6])]
    have q1 : ((if okH kd sn sd rs lt = true then haddT nh G kd sn sd rs lt else G) 0) = (G 0) := by rw [if_neg (by simp [okH, c_6])]
    have q2 : ((if okH kd sn sd rs lt = true then haddT nh G kd sn sd rs lt else G) 1) = (G 1) := by rw [if_neg (by simp [okH, c_6])]
    have q3 : ((if okH kd sn sd rs lt = true then haddT nh G kd sn sd rs lt else G) 2) = (G 2) := by rw [if_neg (by simp [okH, c_6])]
    have q4 : ((if okH kd sn sd rs lt = true then haddT nh G kd sn sd rs lt else G) 3) = (G 3) := by rw [if_neg (by simp [okH, c_6])]
    have q5 : ((if okH kd sn sd rs lt = true then haddT nh G kd sn sd rs lt else G) 4) = (G 4) := by rw [if_neg (by simp [okH, c_6])]
    have q6 : ((if okH kd sn sd rs lt = true then haddT nh G kd sn sd rs lt else G) 5) = (G 5) := by rw [if_neg (by simp [okH, c_6])]
    rw [q0, q1, q2, q3, q4, q5, q6]
    exact hP
  · skip
    refine lv_iload_n hx hb dX5_house_9 rfl (lv_at hl 2 rfl) ?_
    refine lv_iconst (v := 1) hx hb dX5_house_10 (by decide) ?_
    refine lv_sipush (v := 365) hx hb dX5_house_11 (by decide) ?_
    refine rcS (As := [.int sn, .int 1, .int 365]) (rest := []) ⟨hx, hb, hml, hown, hts⟩ (kX5_in l D cI cZ sn 1 365) (va_cwS 3 hts gX5_house_X5_in rfl rfl rfl (by decide +kernel) ⟨Nat.le_of_ble_eq_true rfl, Nat.le_of_ble_eq_true rfl⟩) hK hP [] rfl rfl hl.1 rfl (Nat.le_of_ble_eq_true rfl) ⟨Nat.zero_le _, Nat.zero_le _⟩ dX5_house_14 ?_
    refine lb_eq (tgt := 62) hx hb dX5_house_17 (by decide) (fun c_17 => ?_) (fun c_17 => ?_)
    · skip
      refine lv_iconst (v := (-1)) hx hb dX5_house_62 (by decide) ?_
      refine mu_iret hx hb hr hlocks hS dX5_house_63 ?_ ?_
      · rw [if_neg (by simp [okH, c_6, c_17])]
      have q0 : (nI (if okH kd sn sd rs lt = true then adn 5 nh else nh)) = (nI nh) := by rw [if_neg (by simp [okH, c_6, c_17])]
      have q1 : ((if okH kd sn sd rs lt = true then haddT nh G kd sn sd rs lt else G) 0) = (G 0) := by rw [if_neg (by simp [okH, c_6, c_17])]
      have q2 : ((if okH kd sn sd rs lt = true then haddT nh G kd sn sd rs lt else G) 1) = (G 1) := by rw [if_neg (by simp [okH, c_6, c_17])]
      have q3 : ((if okH kd sn sd rs lt = true then haddT nh G kd sn sd rs lt else G) 2) = (G 2) := by rw [if_neg (by simp [okH, c_6, c_17])]
      have q4 : ((if okH kd sn sd rs lt = true then haddT nh G kd sn sd rs lt else G) 3) = (G 3) := by rw [if_neg (by simp [okH, c_6, c_17])]
      have q5 : ((if okH kd sn sd rs lt = true then haddT nh G kd sn sd rs lt else G) 4) = (G 4) := by rw [if_neg (by simp [okH, c_6, c_17])]
      have q6 : ((if okH kd sn sd rs lt = true then haddT nh G kd sn sd rs lt else G) 5) = (G 5) := by rw [if_neg (by simp [okH, c_6, c_17])]
      rw [q0, q1, q2, q3, q4, q5, q6]
      exact hP
    · skip
      refine lv_iload_n hx hb dX5_house_20 rfl (lv_at hl 3 rfl) ?_
      refine lv_iconst (v := 1) hx hb dX5_house_21 (by decide) ?_
      refine lv_sipush (v := 9972) hx hb dX5_house_22 (by decide) ?_
      refine rcS (As := [.int sd, .int 1, .int 9972]) (rest := []) ⟨hx, hb, hml, hown, hts⟩ (kX5_in l D cI cZ sd 1 9972) (va_cwS 3 hts gX5_house_X5_in rfl rfl rfl (by decide +kernel) ⟨Nat.le_of_ble_eq_true rfl, Nat.le_of_ble_eq_true rfl⟩) hK hP [] rfl rfl hl.1 rfl (Nat.le_of_ble_eq_true rfl) ⟨Nat.zero_le _, Nat.zero_le _⟩ dX5_house_25 ?_
      refine lb_eq (tgt := 62) hx hb dX5_house_28 (by decide) (fun c_28 => ?_) (fun c_28 => ?_)
      · skip
        refine lv_iconst (v := (-1)) hx hb dX5_house_62 (by decide) ?_
        refine mu_iret hx hb hr hlocks hS dX5_house_63 ?_ ?_
        · rw [if_neg (by simp [okH, c_6, c_17, c_28])]
        have q0 : (nI (if okH kd sn sd rs lt = true then adn 5 nh else nh)) = (nI nh) := by rw [if_neg (by simp [okH, c_6, c_17, c_28])]
        have q1 : ((if okH kd sn sd rs lt = true then haddT nh G kd sn sd rs lt else G) 0) = (G 0) := by rw [if_neg (by simp [okH, c_6, c_17, c_28])]
        have q2 : ((if okH kd sn sd rs lt = true then haddT nh G kd sn sd rs lt else G) 1) = (G 1) := by rw [if_neg (by simp [okH, c_6, c_17, c_28])]
        have q3 : ((if okH kd sn sd rs lt = true then haddT nh G kd sn sd rs lt else G) 2) = (G 2) := by rw [if_neg (by simp [okH, c_6, c_17, c_28])]
        have q4 : ((if okH kd sn sd rs lt = true then haddT nh G kd sn sd rs lt else G) 3) = (G 3) := by rw [if_neg (by simp [okH, c_6, c_17, c_28])]
        have q5 : ((if okH kd sn sd rs lt = true then haddT nh G kd sn sd rs lt else G) 4) = (G 4) := by rw [if_neg (by simp [okH, c_6, c_17, c_28])]
        have q6 : ((if okH kd sn sd rs lt = true then haddT nh G kd sn sd rs lt else G) 5) = (G 5) := by rw [if_neg (by simp [okH, c_6, c_17, c_28])]
        rw [q0, q1, q2, q3, q4, q5, q6]
        exact hP
      · skip
        refine lv_iload hx hb dX5_house_31 (lv_at hl 4 rfl) ?_
        refine lv_iconst (v := 0) hx hb dX5_house_33 (by decide) ?_
        refine lv_sipush (v := 255) hx hb dX5_house_34 (by decide) ?_
        refine rcS (As := [.int rs, .int 0, .int 255]) (rest := []) ⟨hx, hb, hml, hown, hts⟩ (kX5_in l D cI cZ rs 0 255) (va_cwS 3 hts gX5_house_X5_in rfl rfl rfl (by decide +kernel) ⟨Nat.le_of_ble_eq_true rfl, Nat.le_of_ble_eq_true rfl⟩) hK hP [] rfl rfl hl.1 rfl (Nat.le_of_ble_eq_true rfl) ⟨Nat.zero_le _, Nat.zero_le _⟩ dX5_house_37 ?_
        refine lb_eq (tgt := 62) hx hb dX5_house_40 (by decide) (fun c_40 => ?_) (fun c_40 => ?_)
        · skip
          refine lv_iconst (v := (-1)) hx hb dX5_house_62 (by decide) ?_
          refine mu_iret hx hb hr hlocks hS dX5_house_63 ?_ ?_
          · rw [if_neg (by simp [okH, c_6, c_17, c_28, c_40])]
          have q0 : (nI (if okH kd sn sd rs lt = true then adn 5 nh else nh)) = (nI nh) := by rw [if_neg (by simp [okH, c_6, c_17, c_28, c_40])]
          have q1 : ((if okH kd sn sd rs lt = true then haddT nh G kd sn sd rs lt else G) 0) = (G 0) := by rw [if_neg (by simp [okH, c_6, c_17, c_28, c_40])]
          have q2 : ((if okH kd sn sd rs lt = true then haddT nh G kd sn sd rs lt else G) 1) = (G 1) := by rw [if_neg (by simp [okH, c_6, c_17, c_28, c_40])]
          have q3 : ((if okH kd sn sd rs lt = true then haddT nh G kd sn sd rs lt else G) 2) = (G 2) := by rw [if_neg (by simp [okH, c_6, c_17, c_28, c_40])]
          have q4 : ((if okH kd sn sd rs lt = true then haddT nh G kd sn sd rs lt else G) 3) = (G 3) := by rw [if_neg (by simp [okH, c_6, c_17, c_28, c_40])]
          have q5 : ((if okH kd sn sd rs lt = true then haddT nh G kd sn sd rs lt else G) 4) = (G 4) := by rw [if_neg (by simp [okH, c_6, c_17, c_28, c_40])]
          have q6 : ((if okH kd sn sd rs lt = true then haddT nh G kd sn sd rs lt else G) 5) = (G 5) := by rw [if_neg (by simp [okH, c_6, c_17, c_28, c_40])]
          rw [q0, q1, q2, q3, q4, q5, q6]
          exact hP
        · skip
          refine lv_iload hx hb dX5_house_43 (lv_at hl 5 rfl) ?_
          refine lv_iconst (v := 0) hx hb dX5_house_45 (by decide) ?_
          refine lv_bipush (v := 24) hx hb dX5_house_46 (by decide) ?_
          refine rcS (As := [.int lt, .int 0, .int 24]) (rest := []) ⟨hx, hb, hml, hown, hts⟩ (kX5_in l D cI cZ lt 0 24) (va_cwS 3 hts gX5_house_X5_in rfl rfl rfl (by decide +kernel) ⟨Nat.le_of_ble_eq_true rfl, Nat.le_of_ble_eq_true rfl⟩) hK hP [] rfl rfl hl.1 rfl (Nat.le_of_ble_eq_true rfl) ⟨Nat.zero_le _, Nat.zero_le _⟩ dX5_house_48 ?_
          refine lb_eq (tgt := 62) hx hb dX5_house_51 (by decide) (fun c_51 => ?_) (fun c_51 => ?_)
          · skip
            refine lv_iconst (v := (-1)) hx hb dX5_house_62 (by decide) ?_
            refine mu_iret hx hb hr hlocks hS dX5_house_63 ?_ ?_
            · rw [if_neg (by simp [okH, c_6, c_17, c_28, c_40, c_51])]
            have q0 : (nI (if okH kd sn sd rs lt = true then adn 5 nh else nh)) = (nI nh) := by rw [if_neg (by simp [okH, c_6, c_17, c_28, c_40, c_51])]
            have q1 : ((if okH kd sn sd rs lt = true then haddT nh G kd sn sd rs lt else G) 0) = (G 0) := by rw [if_neg (by simp [okH, c_6, c_17, c_28, c_40, c_51])]
            have q2 : ((if okH kd sn sd rs lt = true then haddT nh G kd sn sd rs lt else G) 1) = (G 1) := by rw [if_neg (by simp [okH, c_6, c_17, c_28, c_40, c_51])]
            have q3 : ((if okH kd sn sd rs lt = true then haddT nh G kd sn sd rs lt else G) 2) = (G 2) := by rw [if_neg (by simp [okH, c_6, c_17, c_28, c_40, c_51])]
            have q4 : ((if okH kd sn sd rs lt = true then haddT nh G kd sn sd rs lt else G) 3) = (G 3) := by rw [if_neg (by simp [okH, c_6, c_17, c_28, c_40, c_51])]
            have q5 : ((if okH kd sn sd rs lt = true then haddT nh G kd sn sd rs lt else G) 4) = (G 4) := by rw [if_neg (by simp [okH, c_6, c_17, c_28, c_40, c_51])]
            have q6 : ((if okH kd sn sd rs lt = true then haddT nh G kd sn sd rs lt else G) 5) = (G 5) := by rw [if_neg (by simp [okH, c_6, c_17, c_28, c_40, c_51])]
            rw [q0, q1, q2, q3, q4, q5, q6]
            exact hP
          · skip
            refine lv_aload_n hx hb dX5_house_54 rfl (lv_at hl 0 rfl) ?_
            refine va_get (D := D) (ci := 5) (v := .int (nI nh)) (C := RX5) (T := TX5) (N := 26) hx hb hts hin5 hown hK hP 0 rfl rfl 1 (by decide) hf97 (fun _ h9 => h9) rfl dX5_house_55 ?_
            refine lv_iconst (v := 5) hx hb dX5_house_58 (by decide) ?_
            refine lv_icmp_ne (tgt := 64) hx hb dX5_house_59 (by decide) (fun c_59 => ?_) (fun c_59 => ?_)
            · skip
              have hlt : nh < 5 := Nat.lt_of_le_of_ne hnh (nI_neq (N := 5) c_59 rfl)
              refine lv_aload_n hx hb dX5_house_64 rfl (lv_at hl 0 rfl) ?_
              refine va_get (D := D) (ci := 5) (v := .ref k9) (C := RX5) (T := TX5) (N := 26) hx hb hts hin5 hown hK hP 0 rfl rfl 9 (by decide) hf20 (fun _ h9 => h9) rfl dX5_house_65 ?_
              refine lv_aload_n hx hb dX5_house_68 rfl (lv_at hl 0 rfl) ?_
              refine va_get (D := D) (ci := 5) (v := .int (nI nh)) (C := RX5) (T := TX5) (N := 26) hx hb hts hin5 hown hK hP 0 rfl rfl 1 (by decide) hf97 (fun _ h9 => h9) rfl dX5_house_69 ?_
              refine lv_iload_n hx hb dX5_house_72 rfl (lv_at hl 1 rfl) ?_
              refine va_iastN (D := D) (cl := vwCl) (cA := cI) (f := G 0) (x := kd) hx hb hK hP hD hS 4 0 rfl rfl nh (rfl) (by omega) (by first | decide | assumption) dX5_house_73 (fun H locs hP hD hS => ?_)
              have hP : va_P D vwCl [(o5, .inr (5, [.int (nI np), .int (nI nh), .int td, .int (nI nn), .int (nI nb), .int (nI ne), .ref k6, .ref k7, .ref k8, .ref k9, .ref k10, .ref k11, .ref k12, .ref k13, .ref k14, .ref k15, .ref k16, .ref k17, .ref k18, .ref k19, .ref k20, .ref k21, .ref k22, .ref k23, .ref k24, .ref k25])), (k6, .inl (cI, 96, .inl (fl 4 P))), (k7, .inl (cI, 24, .inl (P 4))), (k8, .inl (cZ, 24, .inl (P 5))), (k9, .inl (cI, 5, .inl (upd (G 0) nh kd))), (k10, .inl (cI, 5, .inl (G 1))), (k11, .inl (cI, 5, .inl (G 2))), (k12, .inl (cI, 5, .inl (G 3))), (k13, .inl (cI, 5, .inl (G 4))), (k14, .inl (cI, 5, .inl (mc))), (k15, .inl (cZ, 5, .inl (G 5))), (k16, .inl (cI, 200, .inl (N 0))), (k17, .inl (cI, 200, .inl (N 1))), (k18, .inl (cI, 200, .inl (N 2))), (k19, .inl (cI, 200, .inl (N 3))), (k20, .inl (cI, 200, .inl (N 4))), (k21, .inl (cI, 20, .inl (B 0))), (k22, .inl (cI, 20, .inl (B 1))), (k23, .inl (cI, 20, .inl (B 2))), (k24, .inl (cI, 20, .inl (B 3))), (k25, .inl (cI, 1200, .inl (fl 6 E)))] H := hP
              have hD : va_D (adr _) [(o5, .inr (5, [.int (nI np), .int (nI nh), .int td, .int (nI nn), .int (nI nb), .int (nI ne), .ref k6, .ref k7, .ref k8, .ref k9, .ref k10, .ref k11, .ref k12, .ref k13, .ref k14, .ref k15, .ref k16, .ref k17, .ref k18, .ref k19, .ref k20, .ref k21, .ref k22, .ref k23, .ref k24, .ref k25])), (k6, .inl (cI, 96, .inl (fl 4 P))), (k7, .inl (cI, 24, .inl (P 4))), (k8, .inl (cZ, 24, .inl (P 5))), (k9, .inl (cI, 5, .inl (upd (G 0) nh kd))), (k10, .inl (cI, 5, .inl (G 1))), (k11, .inl (cI, 5, .inl (G 2))), (k12, .inl (cI, 5, .inl (G 3))), (k13, .inl (cI, 5, .inl (G 4))), (k14, .inl (cI, 5, .inl (mc))), (k15, .inl (cZ, 5, .inl (G 5))), (k16, .inl (cI, 200, .inl (N 0))), (k17, .inl (cI, 200, .inl (N 1))), (k18, .inl (cI, 200, .inl (N 2))), (k19, .inl (cI, 200, .inl (N 3))), (k20, .inl (cI, 200, .inl (N 4))), (k21, .inl (cI, 20, .inl (B 0))), (k22, .inl (cI, 20, .inl (B 1))), (k23, .inl (cI, 20, .inl (B 2))), (k24, .inl (cI, 20, .inl (B 3))), (k25, .inl (cI, 1200, .inl (fl 6 E)))] := hD
              refine lv_aload_n hx hb dX5_house_74 rfl (lv_at hl 0 rfl) ?_
              refine va_get (D := D) (ci := 5) (v := .ref k10) (C := RX5) (T := TX5) (N := 26) hx hb hts hin5 hown hK hP 0 rfl rfl 10 (by decide) hf23 (fun _ h9 => h9) rfl dX5_house_75 ?_
              refine lv_aload_n hx hb dX5_house_78 rfl (lv_at hl 0 rfl) ?_
              refine va_get (D := D) (ci := 5) (v := .int (nI nh)) (C := RX5) (T := TX5) (N := 26) hx hb hts hin5 hown hK hP 0 rfl rfl 1 (by decide) hf97 (fun _ h9 => h9) rfl dX5_house_79 ?_
              refine lv_iload_n hx hb dX5_house_82 rfl (lv_at hl 2 rfl) ?_
              refine va_iastN (D := D) (cl := vwCl) (cA := cI) (f := G 1) (x := sn) hx hb hK hP hD hS 5 0 rfl rfl nh (rfl) (by omega) (by first | decide | assumption) dX5_house_83 (fun H locs hP hD hS => ?_)
              have hP : va_P D vwCl [(o5, .inr (5, [.int (nI np), .int (nI nh), .int td, .int (nI nn), .int (nI nb), .int (nI ne), .ref k6, .ref k7, .ref k8, .ref k9, .ref k10, .ref k11, .ref k12, .ref k13, .ref k14, .ref k15, .ref k16, .ref k17, .ref k18, .ref k19, .ref k20, .ref k21, .ref k22, .ref k23, .ref k24, .ref k25])), (k6, .inl (cI, 96, .inl (fl 4 P))), (k7, .inl (cI, 24, .inl (P 4))), (k8, .inl (cZ, 24, .inl (P 5))), (k9, .inl (cI, 5, .inl (upd (G 0) nh kd))), (k10, .inl (cI, 5, .inl (upd (G 1) nh sn))), (k11, .inl (cI, 5, .inl (G 2))), (k12, .inl (cI, 5, .inl (G 3))), (k13, .inl (cI, 5, .inl (G 4))), (k14, .inl (cI, 5, .inl (mc))), (k15, .inl (cZ, 5, .inl (G 5))), (k16, .inl (cI, 200, .inl (N 0))), (k17, .inl (cI, 200, .inl (N 1))), (k18, .inl (cI, 200, .inl (N 2))), (k19, .inl (cI, 200, .inl (N 3))), (k20, .inl (cI, 200, .inl (N 4))), (k21, .inl (cI, 20, .inl (B 0))), (k22, .inl (cI, 20, .inl (B 1))), (k23, .inl (cI, 20, .inl (B 2))), (k24, .inl (cI, 20, .inl (B 3))), (k25, .inl (cI, 1200, .inl (fl 6 E)))] H := hP
              have hD : va_D (adr _) [(o5, .inr (5, [.int (nI np), .int (nI nh), .int td, .int (nI nn), .int (nI nb), .int (nI ne), .ref k6, .ref k7, .ref k8, .ref k9, .ref k10, .ref k11, .ref k12, .ref k13, .ref k14, .ref k15, .ref k16, .ref k17, .ref k18, .ref k19, .ref k20, .ref k21, .ref k22, .ref k23, .ref k24, .ref k25])), (k6, .inl (cI, 96, .inl (fl 4 P))), (k7, .inl (cI, 24, .inl (P 4))), (k8, .inl (cZ, 24, .inl (P 5))), (k9, .inl (cI, 5, .inl (upd (G 0) nh kd))), (k10, .inl (cI, 5, .inl (upd (G 1) nh sn))), (k11, .inl (cI, 5, .inl (G 2))), (k12, .inl (cI, 5, .inl (G 3))), (k13, .inl (cI, 5, .inl (G 4))), (k14, .inl (cI, 5, .inl (mc))), (k15, .inl (cZ, 5, .inl (G 5))), (k16, .inl (cI, 200, .inl (N 0))), (k17, .inl (cI, 200, .inl (N 1))), (k18, .inl (cI, 200, .inl (N 2))), (k19, .inl (cI, 200, .inl (N 3))), (k20, .inl (cI, 200, .inl (N 4))), (k21, .inl (cI, 20, .inl (B 0))), (k22, .inl (cI, 20, .inl (B 1))), (k23, .inl (cI, 20, .inl (B 2))), (k24, .inl (cI, 20, .inl (B 3))), (k25, .inl (cI, 1200, .inl (fl 6 E)))] := hD
              refine lv_aload_n hx hb dX5_house_84 rfl (lv_at hl 0 rfl) ?_
              refine va_get (D := D) (ci := 5) (v := .ref k11) (C := RX5) (T := TX5) (N := 26) hx hb hts hin5 hown hK hP 0 rfl rfl 11 (by decide) hf26 (fun _ h9 => h9) rfl dX5_house_85 ?_
              refine lv_aload_n hx hb dX5_house_88 rfl (lv_at hl 0 rfl) ?_
              refine va_get (D := D) (ci := 5) (v := .int (nI nh)) (C := RX5) (T := TX5) (N := 26) hx hb hts hin5 hown hK hP 0 rfl rfl 1 (by decide) hf97 (fun _ h9 => h9) rfl dX5_house_89 ?_
              refine lv_iload_n hx hb dX5_house_92 rfl (lv_at hl 3 rfl) ?_
              refine va_iastN (D := D) (cl := vwCl) (cA := cI) (f := G 2) (x := sd) hx hb hK hP hD hS 6 0 rfl rfl nh (rfl) (by omega) (by first | decide | assumption) dX5_house_93 (fun H locs hP hD hS => ?_)
              have hP : va_P D vwCl [(o5, .inr (5, [.int (nI np), .int (nI nh), .int td, .int (nI nn), .int (nI nb), .int (nI ne), .ref k6, .ref k7, .ref k8, .ref k9, .ref k10, .ref k11, .ref k12, .ref k13, .ref k14, .ref k15, .ref k16, .ref k17, .ref k18, .ref k19, .ref k20, .ref k21, .ref k22, .ref k23, .ref k24, .ref k25])), (k6, .inl (cI, 96, .inl (fl 4 P))), (k7, .inl (cI, 24, .inl (P 4))), (k8, .inl (cZ, 24, .inl (P 5))), (k9, .inl (cI, 5, .inl (upd (G 0) nh kd))), (k10, .inl (cI, 5, .inl (upd (G 1) nh sn))), (k11, .inl (cI, 5, .inl (upd (G 2) nh sd))), (k12, .inl (cI, 5, .inl (G 3))), (k13, .inl (cI, 5, .inl (G 4))), (k14, .inl (cI, 5, .inl (mc))), (k15, .inl (cZ, 5, .inl (G 5))), (k16, .inl (cI, 200, .inl (N 0))), (k17, .inl (cI, 200, .inl (N 1))), (k18, .inl (cI, 200, .inl (N 2))), (k19, .inl (cI, 200, .inl (N 3))), (k20, .inl (cI, 200, .inl (N 4))), (k21, .inl (cI, 20, .inl (B 0))), (k22, .inl (cI, 20, .inl (B 1))), (k23, .inl (cI, 20, .inl (B 2))), (k24, .inl (cI, 20, .inl (B 3))), (k25, .inl (cI, 1200, .inl (fl 6 E)))] H := hP
              have hD : va_D (adr _) [(o5, .inr (5, [.int (nI np), .int (nI nh), .int td, .int (nI nn), .int (nI nb), .int (nI ne), .ref k6, .ref k7, .ref k8, .ref k9, .ref k10, .ref k11, .ref k12, .ref k13, .ref k14, .ref k15, .ref k16, .ref k17, .ref k18, .ref k19, .ref k20, .ref k21, .ref k22, .ref k23, .ref k24, .ref k25])), (k6, .inl (cI, 96, .inl (fl 4 P))), (k7, .inl (cI, 24, .inl (P 4))), (k8, .inl (cZ, 24, .inl (P 5))), (k9, .inl (cI, 5, .inl (upd (G 0) nh kd))), (k10, .inl (cI, 5, .inl (upd (G 1) nh sn))), (k11, .inl (cI, 5, .inl (upd (G 2) nh sd))), (k12, .inl (cI, 5, .inl (G 3))), (k13, .inl (cI, 5, .inl (G 4))), (k14, .inl (cI, 5, .inl (mc))), (k15, .inl (cZ, 5, .inl (G 5))), (k16, .inl (cI, 200, .inl (N 0))), (k17, .inl (cI, 200, .inl (N 1))), (k18, .inl (cI, 200, .inl (N 2))), (k19, .inl (cI, 200, .inl (N 3))), (k20, .inl (cI, 200, .inl (N 4))), (k21, .inl (cI, 20, .inl (B 0))), (k22, .inl (cI, 20, .inl (B 1))), (k23, .inl (cI, 20, .inl (B 2))), (k24, .inl (cI, 20, .inl (B 3))), (k25, .inl (cI, 1200, .inl (fl 6 E)))] := hD
              refine lv_aload_n hx hb dX5_house_94 rfl (lv_at hl 0 rfl) ?_
              refine va_get (D := D) (ci := 5) (v := .ref k12) (C := RX5) (T := TX5) (N := 26) hx hb hts hin5 hown hK hP 0 rfl rfl 12 (by decide) hf29 (fun _ h9 => h9) rfl dX5_house_95 ?_
              refine lv_aload_n hx hb dX5_house_98 rfl (lv_at hl 0 rfl) ?_
              refine va_get (D := D) (ci := 5) (v := .int (nI nh)) (C := RX5) (T := TX5) (N := 26) hx hb hts hin5 hown hK hP 0 rfl rfl 1 (by decide) hf97 (fun _ h9 => h9) rfl dX5_house_99 ?_
              refine lv_iload hx hb dX5_house_102 (lv_at hl 4 rfl) ?_
              refine va_iastN (D := D) (cl := vwCl) (cA := cI) (f := G 3) (x := rs) hx hb hK hP hD hS 7 0 rfl rfl nh (rfl) (by omega) (by first | decide | assumption) dX5_house_104 (fun H locs hP hD hS => ?_)
              have hP : va_P D vwCl [(o5, .inr (5, [.int (nI np), .int (nI nh), .int td, .int (nI nn), .int (nI nb), .int (nI ne), .ref k6, .ref k7, .ref k8, .ref k9, .ref k10, .ref k11, .ref k12, .ref k13, .ref k14, .ref k15, .ref k16, .ref k17, .ref k18, .ref k19, .ref k20, .ref k21, .ref k22, .ref k23, .ref k24, .ref k25])), (k6, .inl (cI, 96, .inl (fl 4 P))), (k7, .inl (cI, 24, .inl (P 4))), (k8, .inl (cZ, 24, .inl (P 5))), (k9, .inl (cI, 5, .inl (upd (G 0) nh kd))), (k10, .inl (cI, 5, .inl (upd (G 1) nh sn))), (k11, .inl (cI, 5, .inl (upd (G 2) nh sd))), (k12, .inl (cI, 5, .inl (upd (G 3) nh rs))), (k13, .inl (cI, 5, .inl (G 4))), (k14, .inl (cI, 5, .inl (mc))), (k15, .inl (cZ, 5, .inl (G 5))), (k16, .inl (cI, 200, .inl (N 0))), (k17, .inl (cI, 200, .inl (N 1))), (k18, .inl (cI, 200, .inl (N 2))), (k19, .inl (cI, 200, .inl (N 3))), (k20, .inl (cI, 200, .inl (N 4))), (k21, .inl (cI, 20, .inl (B 0))), (k22, .inl (cI, 20, .inl (B 1))), (k23, .inl (cI, 20, .inl (B 2))), (k24, .inl (cI, 20, .inl (B 3))), (k25, .inl (cI, 1200, .inl (fl 6 E)))] H := hP
              have hD : va_D (adr _) [(o5, .inr (5, [.int (nI np), .int (nI nh), .int td, .int (nI nn), .int (nI nb), .int (nI ne), .ref k6, .ref k7, .ref k8, .ref k9, .ref k10, .ref k11, .ref k12, .ref k13, .ref k14, .ref k15, .ref k16, .ref k17, .ref k18, .ref k19, .ref k20, .ref k21, .ref k22, .ref k23, .ref k24, .ref k25])), (k6, .inl (cI, 96, .inl (fl 4 P))), (k7, .inl (cI, 24, .inl (P 4))), (k8, .inl (cZ, 24, .inl (P 5))), (k9, .inl (cI, 5, .inl (upd (G 0) nh kd))), (k10, .inl (cI, 5, .inl (upd (G 1) nh sn))), (k11, .inl (cI, 5, .inl (upd (G 2) nh sd))), (k12, .inl (cI, 5, .inl (upd (G 3) nh rs))), (k13, .inl (cI, 5, .inl (G 4))), (k14, .inl (cI, 5, .inl (mc))), (k15, .inl (cZ, 5, .inl (G 5))), (k16, .inl (cI, 200, .inl (N 0))), (k17, .inl (cI, 200, .inl (N 1))), (k18, .inl (cI, 200, .inl (N 2))), (k19, .inl (cI, 200, .inl (N 3))), (k20, .inl (cI, 200, .inl (N 4))), (k21, .inl (cI, 20, .inl (B 0))), (k22, .inl (cI, 20, .inl (B 1))), (k23, .inl (cI, 20, .inl (B 2))), (k24, .inl (cI, 20, .inl (B 3))), (k25, .inl (cI, 1200, .inl (fl 6 E)))] := hD
              refine lv_aload_n hx hb dX5_house_105 rfl (lv_at hl 0 rfl) ?_
              refine va_get (D := D) (ci := 5) (v := .ref k13) (C := RX5) (T := TX5) (N := 26) hx hb hts hin5 hown hK hP 0 rfl rfl 13 (by decide) hf32 (fun _ h9 => h9) rfl dX5_house_106 ?_
              refine lv_aload_n hx hb dX5_house_109 rfl (lv_at hl 0 rfl) ?_
              refine va_get (D := D) (ci := 5) (v := .int (nI nh)) (C := RX5) (T := TX5) (N := 26) hx hb hts hin5 hown hK hP 0 rfl rfl 1 (by decide) hf97 (fun _ h9 => h9) rfl dX5_house_110 ?_
              refine lv_iload hx hb dX5_house_113 (lv_at hl 5 rfl) ?_
              refine va_iastN (D := D) (cl := vwCl) (cA := cI) (f := G 4) (x := lt) hx hb hK hP hD hS 8 0 rfl rfl nh (rfl) (by omega) (by first | decide | assumption) dX5_house_115 (fun H locs hP hD hS => ?_)
              have hP : va_P D vwCl [(o5, .inr (5, [.int (nI np), .int (nI nh), .int td, .int (nI nn), .int (nI nb), .int (nI ne), .ref k6, .ref k7, .ref k8, .ref k9, .ref k10, .ref k11, .ref k12, .ref k13, .ref k14, .ref k15, .ref k16, .ref k17, .ref k18, .ref k19, .ref k20, .ref k21, .ref k22, .ref k23, .ref k24, .ref k25])), (k6, .inl (cI, 96, .inl (fl 4 P))), (k7, .inl (cI, 24, .inl (P 4))), (k8, .inl (cZ, 24, .inl (P 5))), (k9, .inl (cI, 5, .inl (upd (G 0) nh kd))), (k10, .inl (cI, 5, .inl (upd (G 1) nh sn))), (k11, .inl (cI, 5, .inl (upd (G 2) nh sd))), (k12, .inl (cI, 5, .inl (upd (G 3) nh rs))), (k13, .inl (cI, 5, .inl (upd (G 4) nh lt))), (k14, .inl (cI, 5, .inl (mc))), (k15, .inl (cZ, 5, .inl (G 5))), (k16, .inl (cI, 200, .inl (N 0))), (k17, .inl (cI, 200, .inl (N 1))), (k18, .inl (cI, 200, .inl (N 2))), (k19, .inl (cI, 200, .inl (N 3))), (k20, .inl (cI, 200, .inl (N 4))), (k21, .inl (cI, 20, .inl (B 0))), (k22, .inl (cI, 20, .inl (B 1))), (k23, .inl (cI, 20, .inl (B 2))), (k24, .inl (cI, 20, .inl (B 3))), (k25, .inl (cI, 1200, .inl (fl 6 E)))] H := hP
              have hD : va_D (adr _) [(o5, .inr (5, [.int (nI np), .int (nI nh), .int td, .int (nI nn), .int (nI nb), .int (nI ne), .ref k6, .ref k7, .ref k8, .ref k9, .ref k10, .ref k11, .ref k12, .ref k13, .ref k14, .ref k15, .ref k16, .ref k17, .ref k18, .ref k19, .ref k20, .ref k21, .ref k22, .ref k23, .ref k24, .ref k25])), (k6, .inl (cI, 96, .inl (fl 4 P))), (k7, .inl (cI, 24, .inl (P 4))), (k8, .inl (cZ, 24, .inl (P 5))), (k9, .inl (cI, 5, .inl (upd (G 0) nh kd))), (k10, .inl (cI, 5, .inl (upd (G 1) nh sn))), (k11, .inl (cI, 5, .inl (upd (G 2) nh sd))), (k12, .inl (cI, 5, .inl (upd (G 3) nh rs))), (k13, .inl (cI, 5, .inl (upd (G 4) nh lt))), (k14, .inl (cI, 5, .inl (mc))), (k15, .inl (cZ, 5, .inl (G 5))), (k16, .inl (cI, 200, .inl (N 0))), (k17, .inl (cI, 200, .inl (N 1))), (k18, .inl (cI, 200, .inl (N 2))), (k19, .inl (cI, 200, .inl (N 3))), (k20, .inl (cI, 200, .inl (N 4))), (k21, .inl (cI, 20, .inl (B 0))), (k22, .inl (cI, 20, .inl (B 1))), (k23, .inl (cI, 20, .inl (B 2))), (k24, .inl (cI, 20, .inl (B 3))), (k25, .inl (cI, 1200, .inl (fl 6 E)))] := hD
              refine lv_aload_n hx hb dX5_house_116 rfl (lv_at hl 0 rfl) ?_
              refine lv_aload_n hx hb dX5_house_117 rfl (lv_at hl 0 rfl) ?_
              refine va_get (D := D) (ci := 5) (v := .int (nI nh)) (C := RX5) (T := TX5) (N := 26) hx hb hts hin5 hown hK hP 0 rfl rfl 1 (by decide) hf97 (fun _ h9 => h9) rfl dX5_house_118 ?_
              refine lv_iconst (v := 1) hx hb dX5_house_121 (by decide) ?_
              refine lv_iadd hx hb dX5_house_122 ?_
              refine va_put (D := D) (ci := 5) (v := .int (((nI nh) + 1))) (ty := .int) (C := RX5) (T := TX5) (N := 26) hx hb hts hin5 tyX5 tyX5_ok nmX5 hown hK hP hD hS 0 rfl rfl 1 (by decide) hf97 (fun _ h9 => h9) rfl (by decide +kernel) rfl rfl (Nat.le_of_ble_eq_true rfl) dX5_house_123 (fun H locs hP hD hS => ?_)
              have hP : va_P D vwCl [(o5, .inr (5, [.int (nI np), .int (((nI nh) + 1)), .int td, .int (nI nn), .int (nI nb), .int (nI ne), .ref k6, .ref k7, .ref k8, .ref k9, .ref k10, .ref k11, .ref k12, .ref k13, .ref k14, .ref k15, .ref k16, .ref k17, .ref k18, .ref k19, .ref k20, .ref k21, .ref k22, .ref k23, .ref k24, .ref k25])), (k6, .inl (cI, 96, .inl (fl 4 P))), (k7, .inl (cI, 24, .inl (P 4))), (k8, .inl (cZ, 24, .inl (P 5))), (k9, .inl (cI, 5, .inl (upd (G 0) nh kd))), (k10, .inl (cI, 5, .inl (upd (G 1) nh sn))), (k11, .inl (cI, 5, .inl (upd (G 2) nh sd))), (k12, .inl (cI, 5, .inl (upd (G 3) nh rs))), (k13, .inl (cI, 5, .inl (upd (G 4) nh lt))), (k14, .inl (cI, 5, .inl (mc))), (k15, .inl (cZ, 5, .inl (G 5))), (k16, .inl (cI, 200, .inl (N 0))), (k17, .inl (cI, 200, .inl (N 1))), (k18, .inl (cI, 200, .inl (N 2))), (k19, .inl (cI, 200, .inl (N 3))), (k20, .inl (cI, 200, .inl (N 4))), (k21, .inl (cI, 20, .inl (B 0))), (k22, .inl (cI, 20, .inl (B 1))), (k23, .inl (cI, 20, .inl (B 2))), (k24, .inl (cI, 20, .inl (B 3))), (k25, .inl (cI, 1200, .inl (fl 6 E)))] H := hP
              have hD : va_D (adr _) [(o5, .inr (5, [.int (nI np), .int (((nI nh) + 1)), .int td, .int (nI nn), .int (nI nb), .int (nI ne), .ref k6, .ref k7, .ref k8, .ref k9, .ref k10, .ref k11, .ref k12, .ref k13, .ref k14, .ref k15, .ref k16, .ref k17, .ref k18, .ref k19, .ref k20, .ref k21, .ref k22, .ref k23, .ref k24, .ref k25])), (k6, .inl (cI, 96, .inl (fl 4 P))), (k7, .inl (cI, 24, .inl (P 4))), (k8, .inl (cZ, 24, .inl (P 5))), (k9, .inl (cI, 5, .inl (upd (G 0) nh kd))), (k10, .inl (cI, 5, .inl (upd (G 1) nh sn))), (k11, .inl (cI, 5, .inl (upd (G 2) nh sd))), (k12, .inl (cI, 5, .inl (upd (G 3) nh rs))), (k13, .inl (cI, 5, .inl (upd (G 4) nh lt))), (k14, .inl (cI, 5, .inl (mc))), (k15, .inl (cZ, 5, .inl (G 5))), (k16, .inl (cI, 200, .inl (N 0))), (k17, .inl (cI, 200, .inl (N 1))), (k18, .inl (cI, 200, .inl (N 2))), (k19, .inl (cI, 200, .inl (N 3))), (k20, .inl (cI, 200, .inl (N 4))), (k21, .inl (cI, 20, .inl (B 0))), (k22, .inl (cI, 20, .inl (B 1))), (k23, .inl (cI, 20, .inl (B 2))), (k24, .inl (cI, 20, .inl (B 3))), (k25, .inl (cI, 1200, .inl (fl 6 E)))] := hD
              refine lv_aload_n hx hb dX5_house_126 rfl (lv_at hl 0 rfl) ?_
              refine va_get (D := D) (ci := 5) (v := .int (((nI nh) + 1))) (C := RX5) (T := TX5) (N := 26) hx hb hts hin5 hown hK hP 0 rfl rfl 1 (by decide) hf97 (fun _ h9 => h9) rfl dX5_house_127 ?_
              refine lv_iconst (v := 1) hx hb dX5_house_130 (by decide) ?_
              refine lv_isub hx hb dX5_house_131 ?_
              refine mu_iret hx hb hr hlocks hS dX5_house_132 ?_ ?_
              · rw [if_pos (by simp [okH, c_6, c_17, c_28, c_40, c_51, c_59]), arow_more hlt, ← nI_succ, nI_pred]
              have q0 : (nI (if okH kd sn sd rs lt = true then adn 5 nh else nh)) = (((nI nh) + 1)) := by rw [if_pos (by simp [okH, c_6, c_17, c_28, c_40, c_51, c_59]), adn_more hlt, nI_succ]
              have q1 : ((if okH kd sn sd rs lt = true then haddT nh G kd sn sd rs lt else G) 0) = (upd (G 0) nh kd) := by rw [if_pos (by simp [okH, c_6, c_17, c_28, c_40, c_51, c_59]), hadd_more hlt]; rfl
              have q2 : ((if okH kd sn sd rs lt = true then haddT nh G kd sn sd rs lt else G) 1) = (upd (G 1) nh sn) := by rw [if_pos (by simp [okH, c_6, c_17, c_28, c_40, c_51, c_59]), hadd_more hlt]; rfl
              have q3 : ((if okH kd sn sd rs lt = true then haddT nh G kd sn sd rs lt else G) 2) = (upd (G 2) nh sd) := by rw [if_pos (by simp [okH, c_6, c_17, c_28, c_40, c_51, c_59]), hadd_more hlt]; rfl
              have q4 : ((if okH kd sn sd rs lt = true then haddT nh G kd sn sd rs lt else G) 3) = (upd (G 3) nh rs) := by rw [if_pos (by simp [okH, c_6, c_17, c_28, c_40, c_51, c_59]), hadd_more hlt]; rfl
              have q5 : ((if okH kd sn sd rs lt = true then haddT nh G kd sn sd rs lt else G) 4) = (upd (G 4) nh lt) := by rw [if_pos (by simp [okH, c_6, c_17, c_28, c_40, c_51, c_59]), hadd_more hlt]; rfl
              have q6 : ((if okH kd sn sd rs lt = true then haddT nh G kd sn sd rs lt else G) 5) = (G 5) := by rw [if_pos (by simp [okH, c_6, c_17, c_28, c_40, c_51, c_59]), hadd_5 hlt (hg0 nh (Nat.le_refl nh))]
              rw [q0, q1, q2, q3, q4, q5, q6]
              exact hP
            · skip
              have hlt : nh = 5 := nI_inj (b := 5) (by omega) (by omega) c_59
              refine lv_iconst (v := (-1)) hx hb dX5_house_62 (by decide) ?_
              refine mu_iret hx hb hr hlocks hS dX5_house_63 ?_ ?_
              · rw [if_pos (by simp [okH, c_6, c_17, c_28, c_40, c_51, c_59]), arow_full hlt]
              have q0 : (nI (if okH kd sn sd rs lt = true then adn 5 nh else nh)) = (nI nh) := by rw [if_pos (by simp [okH, c_6, c_17, c_28, c_40, c_51, c_59]), adn_full hlt]
              have q1 : ((if okH kd sn sd rs lt = true then haddT nh G kd sn sd rs lt else G) 0) = (G 0) := by rw [if_pos (by simp [okH, c_6, c_17, c_28, c_40, c_51, c_59]), hadd_full hlt]
              have q2 : ((if okH kd sn sd rs lt = true then haddT nh G kd sn sd rs lt else G) 1) = (G 1) := by rw [if_pos (by simp [okH, c_6, c_17, c_28, c_40, c_51, c_59]), hadd_full hlt]
              have q3 : ((if okH kd sn sd rs lt = true then haddT nh G kd sn sd rs lt else G) 2) = (G 2) := by rw [if_pos (by simp [okH, c_6, c_17, c_28, c_40, c_51, c_59]), hadd_full hlt]
              have q4 : ((if okH kd sn sd rs lt = true then haddT nh G kd sn sd rs lt else G) 3) = (G 3) := by rw [if_pos (by simp [okH, c_6, c_17, c_28, c_40, c_51, c_59]), hadd_full hlt]
              have q5 : ((if okH kd sn sd rs lt = true then haddT nh G kd sn sd rs lt else G) 4) = (G 4) := by rw [if_pos (by simp [okH, c_6, c_17, c_28, c_40, c_51, c_59]), hadd_full hlt]
              have q6 : ((if okH kd sn sd rs lt = true then haddT nh G kd sn sd rs lt else G) 5) = (G 5) := by rw [if_pos (by simp [okH, c_6, c_17, c_28, c_40, c_51, c_59]), hadd_full hlt]
              rw [q0, q1, q2, q3, q4, q5, q6]
              exact hP
set_option maxHeartbeats 4000000 in
set_option maxRecDepth 100000 in
theorem kX5_spanNow (l : Launch) (D : va_G) (cI cZ : ClassId) (o5 k6 k7 k8 k9 k10 k11 k12 k13 k14 k15 k16 k17 k18 k19 k20 k21 k22 k23 k24 k25 np nh nn nb ne : Nat) (td : Int32) (P G N B E : Nat → Nat → Int32) (mc : Nat → Int32) (h : Nat) (hnh : nh ≤ 5) (hg : ∀ h, h < nh → GH G h) (hh : h < nh) : Met l yX5_spanNow wsX5_spanNow ({ frames := 0, cells := 0, slots := 0, locals := 0 } : Room) (RdP D [(cI, .int), (cZ, .boolean)] [.ref o5, .int (nI h)] [(o5, .inr (5, [.int (nI np), .int (nI nh), .int td, .int (nI nn), .int (nI nb), .int (nI ne), .ref k6, .ref k7, .ref k8, .ref k9, .ref k10, .ref k11, .ref k12, .ref k13, .ref k14, .ref k15, .ref k16, .ref k17, .ref k18, .ref k19, .ref k20, .ref k21, .ref k22, .ref k23, .ref k24, .ref k25])), (k6, .inl (cI, 96, .inl (fl 4 P))), (k7, .inl (cI, 24, .inl (P 4))), (k8, .inl (cZ, 24, .inl (P 5))), (k9, .inl (cI, 5, .inl (G 0))), (k10, .inl (cI, 5, .inl (G 1))), (k11, .inl (cI, 5, .inl (G 2))), (k12, .inl (cI, 5, .inl (G 3))), (k13, .inl (cI, 5, .inl (G 4))), (k14, .inl (cI, 5, .inl (mc))), (k15, .inl (cZ, 5, .inl (G 5))), (k16, .inl (cI, 200, .inl (N 0))), (k17, .inl (cI, 200, .inl (N 1))), (k18, .inl (cI, 200, .inl (N 2))), (k19, .inl (cI, 200, .inl (N 3))), (k20, .inl (cI, 200, .inl (N 4))), (k21, .inl (cI, 20, .inl (B 0))), (k22, .inl (cI, 20, .inl (B 1))), (k23, .inl (cI, 20, .inl (B 2))), (k24, .inl (cI, 20, .inl (B 3))), (k25, .inl (cI, 1200, .inl (fl 6 E)))]) (QcRead (spW G td h)) 0 0 (fun _ => False) := by
  refine rd_of (cc := cX5_spanNow) (maxL := 2) (ret := (some .int)) (by decide) rfl (Nat.le_of_ble_eq_true rfl) ?_
  intro pp ee ss mm bw me cd ls hx hb hr hts hown hlocks hml hP hK hl
  have hl : lv_has ls 2 [(0, .ref o5), (1, .int ((nI h)))] := hl
  have hf20 := hts (.fieldLink RX5 20 "OtherNamesModel" "kind" "[I") (by decide +kernel)
  have hin5 := (show ∀ w ∈ wsX50, w ∈ wsX5_spanNow by decide +kernel)
  have hf94 := hts (.fieldLink RX5 94 "OtherNamesModel" "now" "I") (by decide +kernel)
  have hf23 := hts (.fieldLink RX5 23 "OtherNamesModel" "span" "[I") (by decide +kernel)
  refine lv_aload_n hx hb dX5_spanNow_0 rfl (lv_at hl 0 rfl) ?_
  refine va_get (D := D) (ci := 5) (v := .ref k9) (C := RX5) (T := TX5) (N := 26) hx hb hts hin5 hown hK hP 0 rfl rfl 9 (by decide) hf20 (fun _ h9 => h9) rfl dX5_spanNow_1 ?_
  refine lv_iload_n hx hb dX5_spanNow_4 rfl (lv_at hl 1 rfl) ?_
  refine va_ialdN (D := D) (cl := vwCl) (cA := cI) (f := G 0) hx hb hK hP 4 0 rfl rfl h (rfl) (by omega) (by first | decide | assumption) dX5_spanNow_5 ?_
  refine lv_iconst (v := 1) hx hb dX5_spanNow_6 (by decide) ?_
  refine lv_icmp_ne (tgt := 24) hx hb dX5_spanNow_7 (by decide) (fun c_7 => ?_) (fun c_7 => ?_)
  · skip
    refine lv_iconst (v := 0) hx hb dX5_spanNow_24 (by decide) ?_
    exact rd_iret hx hb hr hlocks dX5_spanNow_25 (by simp [spW, c_7])
  · skip
    refine lv_aload_n hx hb dX5_spanNow_10 rfl (lv_at hl 0 rfl) ?_
    refine va_get (D := D) (ci := 5) (v := .int td) (C := RX5) (T := TX5) (N := 26) hx hb hts hin5 hown hK hP 0 rfl rfl 2 (by decide) hf94 (fun _ h9 => h9) rfl dX5_spanNow_11 ?_
    refine lv_aload_n hx hb dX5_spanNow_14 rfl (lv_at hl 0 rfl) ?_
    refine va_get (D := D) (ci := 5) (v := .ref k10) (C := RX5) (T := TX5) (N := 26) hx hb hts hin5 hown hK hP 0 rfl rfl 10 (by decide) hf23 (fun _ h9 => h9) rfl dX5_spanNow_15 ?_
    refine lv_iload_n hx hb dX5_spanNow_18 rfl (lv_at hl 1 rfl) ?_
    refine va_ialdN (D := D) (cl := vwCl) (cA := cI) (f := G 1) hx hb hK hP 5 0 rfl rfl h (rfl) (by omega) (by first | decide | assumption) dX5_spanNow_19 ?_
    refine lv_idiv hx hb dX5_spanNow_20 ((hg h hh).span0) ?_
    refine lv_goto (tgt := 25) hx hb dX5_spanNow_21 (by decide) ?_
    exact rd_iret hx hb hr hlocks dX5_spanNow_25 (by simp [spW, c_7])
set_option maxHeartbeats 4000000 in
set_option maxRecDepth 100000 in
theorem kX5_firstOf (l : Launch) (D : va_G) (cI cZ : ClassId) (o5 k6 k7 k8 k9 k10 k11 k12 k13 k14 k15 k16 k17 k18 k19 k20 k21 k22 k23 k24 k25 np nh nn nb ne : Nat) (td : Int32) (P G N B E : Nat → Nat → Int32) (mc : Nat → Int32) (h : Int32) (sp : Int32) (hh : Int32) (hnp : np ≤ 24) (hnn : nn ≤ 200) (hw : HP np (P 4)) (ho : HO nn np N) : Met l yX5_firstOf wsX5_firstOf ({ frames := 1, cells := 0, slots := 0, locals := 22 } : Room) (RdP D [(cI, .int), (cZ, .boolean)] [.ref o5, .int h, .int sp, .int hh] [(o5, .inr (5, [.int (nI np), .int (nI nh), .int td, .int (nI nn), .int (nI nb), .int (nI ne), .ref k6, .ref k7, .ref k8, .ref k9, .ref k10, .ref k11, .ref k12, .ref k13, .ref k14, .ref k15, .ref k16, .ref k17, .ref k18, .ref k19, .ref k20, .ref k21, .ref k22, .ref k23, .ref k24, .ref k25])), (k6, .inl (cI, 96, .inl (fl 4 P))), (k7, .inl (cI, 24, .inl (P 4))), (k8, .inl (cZ, 24, .inl (P 5))), (k9, .inl (cI, 5, .inl (G 0))), (k10, .inl (cI, 5, .inl (G 1))), (k11, .inl (cI, 5, .inl (G 2))), (k12, .inl (cI, 5, .inl (G 3))), (k13, .inl (cI, 5, .inl (G 4))), (k14, .inl (cI, 5, .inl (mc))), (k15, .inl (cZ, 5, .inl (G 5))), (k16, .inl (cI, 200, .inl (N 0))), (k17, .inl (cI, 200, .inl (N 1))), (k18, .inl (cI, 200, .inl (N 2))), (k19, .inl (cI, 200, .inl (N 3))), (k20, .inl (cI, 200, .inl (N 4))), (k21, .inl (cI, 20, .inl (B 0))), (k22, .inl (cI, 20, .inl (B 1))), (k23, .inl (cI, 20, .inl (B 2))), (k24, .inl (cI, 20, .inl (B 3))), (k25, .inl (cI, 1200, .inl (fl 6 E)))]) (QcRead (fsI (ffB N (P 4) h sp hh) nn)) 0 0 (fun _ => False) := by
  refine rd_of (cc := cX5_firstOf) (maxL := 5) (ret := (some .int)) (by decide) rfl (Nat.le_of_ble_eq_true rfl) ?_
  intro pp ee ss mm bw me cd ls hx hb hr hts hown hlocks hml hP hK hl
  have hl : lv_has ls 5 [(0, .ref o5), (1, .int h), (2, .int sp), (3, .int hh)] := hl
  have hf100 := hts (.fieldLink RX5 100 "OtherNamesModel" "names" "I") (by decide +kernel)
  have hin5 := (show ∀ w ∈ wsX50, w ∈ wsX5_firstOf by decide +kernel)
  have hf41 := hts (.fieldLink RX5 41 "OtherNamesModel" "nameHouse" "[I") (by decide +kernel)
  have hf53 := hts (.fieldLink RX5 53 "OtherNamesModel" "nameSpan" "[I") (by decide +kernel)
  have hf47 := hts (.fieldLink RX5 47 "OtherNamesModel" "owner" "[I") (by decide +kernel)
  refine lv_iconst (v := 0) hx hb dX5_firstOf_0 (by decide) ?_
  refine lv_istore (lv' := [(4, .int 0), (0, .ref o5), (1, .int h), (2, .int sp), (3, .int hh)]) hx hb dX5_firstOf_1 hl (by decide) rfl (fun ls hl => ?_)
  have loop : ∀ (k : Nat) (i : Nat) (ls : Array Slot), i ≤ nn → (∀ j, j < i → ffB N (P 4) h sp hh j = false) → nn < i + k → lv_has ls 5 [(0, .ref o5), (1, .int h), (2, .int sp), (3, .int hh), (4, .int (nI i))] → W pp l ee ({ frames := 1, cells := 0, slots := 0, locals := 22 } : Room) ss mm ([.ref o5, .int h, .int sp, .int hh] : List Value).toArray bw me cd ss.heap [] 0 0 (MQ bw (QcRead (fsI (ffB N (P 4) h sp hh) nn)) ([.ref o5, .int h, .int sp, .int hh] : List Value).toArray ss 0 0 (fun _ => False)) (F0 mm 3 ls []) := by
    intro k
    induction k with
    | zero => intro i ls hi hno hk; exact absurd hk (by omega)
    | succ k ih =>
      intro i ls hi hno hk hl
      refine lv_iload hx hb dX5_firstOf_3 (lv_at hl 4 rfl) ?_
      refine lv_aload_n hx hb dX5_firstOf_5 rfl (lv_at hl 0 rfl) ?_
      refine va_get (D := D) (ci := 5) (v := .int (nI nn)) (C := RX5) (T := TX5) (N := 26) hx hb hts hin5 hown hK hP 0 rfl rfl 3 (by decide) hf100 (fun _ h9 => h9) rfl dX5_firstOf_6 ?_
      refine lv_icmp_ge (tgt := 58) hx hb dX5_firstOf_9 (by decide) (fun c_9 => ?_) (fun c_9 => ?_)
      · skip
        have hi2 : i = nn := Nat.le_antisymm hi (lit_T c_9 nn rfl (by omega) (by omega))
        refine lv_iconst (v := (-1)) hx hb dX5_firstOf_58 (by decide) ?_
        exact rd_iret hx hb hr hlocks dX5_firstOf_59 (by rw [hi2] at hno; rw [fsI_none hno])
      · skip
        have hi2 : i < nn := lit_F c_9 nn rfl (by omega) (by omega)
        refine lv_aload_n hx hb dX5_firstOf_12 rfl (lv_at hl 0 rfl) ?_
        refine va_get (D := D) (ci := 5) (v := .ref k16) (C := RX5) (T := TX5) (N := 26) hx hb hts hin5 hown hK hP 0 rfl rfl 16 (by decide) hf41 (fun _ h9 => h9) rfl dX5_firstOf_13 ?_
        refine lv_iload hx hb dX5_firstOf_16 (lv_at hl 4 rfl) ?_
        refine va_ialdN (D := D) (cl := vwCl) (cA := cI) (f := N 0) hx hb hK hP 11 0 rfl rfl i (rfl) (by omega) (by first | decide | assumption) dX5_firstOf_18 ?_
        refine lv_iload_n hx hb dX5_firstOf_19 rfl (lv_at hl 1 rfl) ?_
        refine lv_icmp_ne (tgt := 52) hx hb dX5_firstOf_20 (by decide) (fun c_20 => ?_) (fun c_20 => ?_)
        · skip
          refine lv_iinc (v := (nI i) + 1) (lv' := [(4, .int (((nI i) + 1))), (0, .ref o5), (1, .int h), (2, .int sp), (3, .int hh)]) hx hb dX5_firstOf_52 hl (k := 4) rfl rfl (by decide) rfl (fun ls hl => ?_)
          refine lv_goto (tgt := 3) hx hb dX5_firstOf_55 (by decide) ?_
          rw [nI_1 i] at hl
          exact ih (i + 1) ls (by omega) (noS hno (by simp [ffB, c_9, c_20])) (by omega) (lv_sub hl [1, 2, 3, 4, 0] rfl)
        · skip
          refine lv_aload_n hx hb dX5_firstOf_23 rfl (lv_at hl 0 rfl) ?_
          refine va_get (D := D) (ci := 5) (v := .ref k20) (C := RX5) (T := TX5) (N := 26) hx hb hts hin5 hown hK hP 0 rfl rfl 20 (by decide) hf53 (fun _ h9 => h9) rfl dX5_firstOf_24 ?_
          refine lv_iload hx hb dX5_firstOf_27 (lv_at hl 4 rfl) ?_
          refine va_ialdN (D := D) (cl := vwCl) (cA := cI) (f := N 4) hx hb hK hP 15 0 rfl rfl i (rfl) (by omega) (by first | decide | assumption) dX5_firstOf_29 ?_
          refine lv_iload_n hx hb dX5_firstOf_30 rfl (lv_at hl 2 rfl) ?_
          refine lv_icmp_ne (tgt := 52) hx hb dX5_firstOf_31 (by decide) (fun c_31 => ?_) (fun c_31 => ?_)
          · skip
            refine lv_iinc (v := (nI i) + 1) (lv' := [(4, .int (((nI i) + 1))), (0, .ref o5), (1, .int h), (2, .int sp), (3, .int hh)]) hx hb dX5_firstOf_52 hl (k := 4) rfl rfl (by decide) rfl (fun ls hl => ?_)
            refine lv_goto (tgt := 3) hx hb dX5_firstOf_55 (by decide) ?_
            rw [nI_1 i] at hl
            exact ih (i + 1) ls (by omega) (noS hno (by simp [ffB, c_9, c_20, c_31])) (by omega) (lv_sub hl [1, 2, 3, 4, 0] rfl)
          · skip
            refine lv_aload_n hx hb dX5_firstOf_34 rfl (lv_at hl 0 rfl) ?_
            refine lv_aload_n hx hb dX5_firstOf_35 rfl (lv_at hl 0 rfl) ?_
            refine va_get (D := D) (ci := 5) (v := .ref k18) (C := RX5) (T := TX5) (N := 26) hx hb hts hin5 hown hK hP 0 rfl rfl 18 (by decide) hf47 (fun _ h9 => h9) rfl dX5_firstOf_36 ?_
            refine lv_iload hx hb dX5_firstOf_39 (lv_at hl 4 rfl) ?_
            refine va_ialdN (D := D) (cl := vwCl) (cA := cI) (f := N 2) hx hb hK hP 13 0 rfl rfl i (rfl) (by omega) (by first | decide | assumption) dX5_firstOf_41 ?_
            rw [show ((N 2) i) = nI (ow N i) from (ho i hi2).1]
            refine rcV (As := [.int (nI (ow N i))]) (rest := []) (ci := 5) ⟨hx, hb, hml, hown, hts⟩ (kX5_head l D cI cZ o5 k6 k7 k8 k9 k10 k11 k12 k13 k14 k15 k16 k17 k18 k19 k20 k21 k22 k23 k24 k25 np nh nn nb ne td P G N B E mc (ow N i) (by first | assumption | omega) (by first | assumption | omega) (ho i hi2).2) (cwV 1 hts gX5_firstOf_X5_head rfl rfl rfl (by decide +kernel) ⟨Nat.le_of_ble_eq_true rfl, Nat.le_of_ble_eq_true rfl⟩) hK hP [0, 1, 2, 3, 4, 5, 6, 7, 8, 9, 10, 11, 12, 13, 14, 15, 16, 17, 18, 19, 20] rfl rfl rfl rfl rfl hl.1 rfl (Nat.le_of_ble_eq_true rfl) ⟨Nat.zero_le _, Nat.zero_le _⟩ dX5_firstOf_42 ?_
            refine lv_iload_n hx hb dX5_firstOf_45 rfl (lv_at hl 3 rfl) ?_
            refine lv_icmp_ne (tgt := 52) hx hb dX5_firstOf_46 (by decide) (fun c_46 => ?_) (fun c_46 => ?_)
            · skip
              refine lv_iinc (v := (nI i) + 1) (lv' := [(4, .int (((nI i) + 1))), (0, .ref o5), (1, .int h), (2, .int sp), (3, .int hh)]) hx hb dX5_firstOf_52 hl (k := 4) rfl rfl (by decide) rfl (fun ls hl => ?_)
              refine lv_goto (tgt := 3) hx hb dX5_firstOf_55 (by decide) ?_
              rw [nI_1 i] at hl
              exact ih (i + 1) ls (by omega) (noS hno (by simp [ffB, c_9, c_20, c_31, c_46])) (by omega) (lv_sub hl [1, 2, 3, 4, 0] rfl)
            · skip
              refine lv_iload hx hb dX5_firstOf_49 (lv_at hl 4 rfl) ?_
              exact rd_iret hx hb hr hlocks dX5_firstOf_51 (by rw [fsI_some hno (by simp [ffB, c_9, c_20, c_31, c_46]) (by omega) hi2])
  exact loop (nn + 1) 0 ls (by omega) (fun j hj => absurd hj (Nat.not_lt_zero j)) (by omega) (lv_sub hl [1, 2, 3, 4, 0] rfl)
set_option maxHeartbeats 4000000 in
set_option maxRecDepth 100000 in
theorem kX5_find (l : Launch) (D : va_G) (cI cZ : ClassId) (o5 k6 k7 k8 k9 k10 k11 k12 k13 k14 k15 k16 k17 k18 k19 k20 k21 k22 k23 k24 k25 np nh nn nb ne : Nat) (td : Int32) (P G N B E : Nat → Nat → Int32) (mc : Nat → Int32) (h : Int32) (nm : Int32) (hnn : nn ≤ 200) : Met l yX5_find wsX5_find ({ frames := 0, cells := 0, slots := 0, locals := 0 } : Room) (RdP D [(cI, .int), (cZ, .boolean)] [.ref o5, .int h, .int nm] [(o5, .inr (5, [.int (nI np), .int (nI nh), .int td, .int (nI nn), .int (nI nb), .int (nI ne), .ref k6, .ref k7, .ref k8, .ref k9, .ref k10, .ref k11, .ref k12, .ref k13, .ref k14, .ref k15, .ref k16, .ref k17, .ref k18, .ref k19, .ref k20, .ref k21, .ref k22, .ref k23, .ref k24, .ref k25])), (k6, .inl (cI, 96, .inl (fl 4 P))), (k7, .inl (cI, 24, .inl (P 4))), (k8, .inl (cZ, 24, .inl (P 5))), (k9, .inl (cI, 5, .inl (G 0))), (k10, .inl (cI, 5, .inl (G 1))), (k11, .inl (cI, 5, .inl (G 2))), (k12, .inl (cI, 5, .inl (G 3))), (k13, .inl (cI, 5, .inl (G 4))), (k14, .inl (cI, 5, .inl (mc))), (k15, .inl (cZ, 5, .inl (G 5))), (k16, .inl (cI, 200, .inl (N 0))), (k17, .inl (cI, 200, .inl (N 1))), (k18, .inl (cI, 200, .inl (N 2))), (k19, .inl (cI, 200, .inl (N 3))), (k20, .inl (cI, 200, .inl (N 4))), (k21, .inl (cI, 20, .inl (B 0))), (k22, .inl (cI, 20, .inl (B 1))), (k23, .inl (cI, 20, .inl (B 2))), (k24, .inl (cI, 20, .inl (B 3))), (k25, .inl (cI, 1200, .inl (fl 6 E)))]) (QcRead (fsI (fdB N h nm) nn)) 0 0 (fun _ => False) := by
  refine rd_of (cc := cX5_find) (maxL := 4) (ret := (some .int)) (by decide) rfl (Nat.le_of_ble_eq_true rfl) ?_
  intro pp ee ss mm bw me cd ls hx hb hr hts hown hlocks hml hP hK hl
  have hl : lv_has ls 4 [(0, .ref o5), (1, .int h), (2, .int nm)] := hl
  have hf100 := hts (.fieldLink RX5 100 "OtherNamesModel" "names" "I") (by decide +kernel)
  have hin5 := (show ∀ w ∈ wsX50, w ∈ wsX5_find by decide +kernel)
  have hf41 := hts (.fieldLink RX5 41 "OtherNamesModel" "nameHouse" "[I") (by decide +kernel)
  have hf44 := hts (.fieldLink RX5 44 "OtherNamesModel" "nameOf" "[I") (by decide +kernel)
  refine lv_iconst (v := 0) hx hb dX5_find_0 (by decide) ?_
  refine lv_istore_n (lv' := [(3, .int 0), (0, .ref o5), (1, .int h), (2, .int nm)]) hx hb dX5_find_1 rfl hl (by decide) rfl (fun ls hl => ?_)
  have loop : ∀ (k : Nat) (i : Nat) (ls : Array Slot), i ≤ nn → (∀ j, j < i → fdB N h nm j = false) → nn < i + k → lv_has ls 4 [(0, .ref o5), (1, .int h), (2, .int nm), (3, .int (nI i))] → W pp l ee ({ frames := 0, cells := 0, slots := 0, locals := 0 } : Room) ss mm ([.ref o5, .int h, .int nm] : List Value).toArray bw me cd ss.heap [] 0 0 (MQ bw (QcRead (fsI (fdB N h nm) nn)) ([.ref o5, .int h, .int nm] : List Value).toArray ss 0 0 (fun _ => False)) (F0 mm 2 ls []) := by
    intro k
    induction k with
    | zero => intro i ls hi hno hk; exact absurd hk (by omega)
    | succ k ih =>
      intro i ls hi hno hk hl
      refine lv_iload_n hx hb dX5_find_2 rfl (lv_at hl 3 rfl) ?_
      refine lv_aload_n hx hb dX5_find_3 rfl (lv_at hl 0 rfl) ?_
      refine va_get (D := D) (ci := 5) (v := .int (nI nn)) (C := RX5) (T := TX5) (N := 26) hx hb hts hin5 hown hK hP 0 rfl rfl 3 (by decide) hf100 (fun _ h9 => h9) rfl dX5_find_4 ?_
      refine lv_icmp_ge (tgt := 38) hx hb dX5_find_7 (by decide) (fun c_7 => ?_) (fun c_7 => ?_)
      · skip
        have hi2 : i = nn := Nat.le_antisymm hi (lit_T c_7 nn rfl (by omega) (by omega))
        refine lv_iconst (v := (-1)) hx hb dX5_find_38 (by decide) ?_
        exact rd_iret hx hb hr hlocks dX5_find_39 (by rw [hi2] at hno; rw [fsI_none hno])
      · skip
        have hi2 : i < nn := lit_F c_7 nn rfl (by omega) (by omega)
        refine lv_aload_n hx hb dX5_find_10 rfl (lv_at hl 0 rfl) ?_
        refine va_get (D := D) (ci := 5) (v := .ref k16) (C := RX5) (T := TX5) (N := 26) hx hb hts hin5 hown hK hP 0 rfl rfl 16 (by decide) hf41 (fun _ h9 => h9) rfl dX5_find_11 ?_
        refine lv_iload_n hx hb dX5_find_14 rfl (lv_at hl 3 rfl) ?_
        refine va_ialdN (D := D) (cl := vwCl) (cA := cI) (f := N 0) hx hb hK hP 11 0 rfl rfl i (rfl) (by omega) (by first | decide | assumption) dX5_find_15 ?_
        refine lv_iload_n hx hb dX5_find_16 rfl (lv_at hl 1 rfl) ?_
        refine lv_icmp_ne (tgt := 32) hx hb dX5_find_17 (by decide) (fun c_17 => ?_) (fun c_17 => ?_)
        · skip
          refine lv_iinc (v := (nI i) + 1) (lv' := [(3, .int (((nI i) + 1))), (0, .ref o5), (1, .int h), (2, .int nm)]) hx hb dX5_find_32 hl (k := 3) rfl rfl (by decide) rfl (fun ls hl => ?_)
          refine lv_goto (tgt := 2) hx hb dX5_find_35 (by decide) ?_
          rw [nI_1 i] at hl
          exact ih (i + 1) ls (by omega) (noS hno (by simp [fdB, c_7, c_17])) (by omega) (lv_sub hl [1, 2, 3, 0] rfl)
        · skip
          refine lv_aload_n hx hb dX5_find_20 rfl (lv_at hl 0 rfl) ?_
          refine va_get (D := D) (ci := 5) (v := .ref k17) (C := RX5) (T := TX5) (N := 26) hx hb hts hin5 hown hK hP 0 rfl rfl 17 (by decide) hf44 (fun _ h9 => h9) rfl dX5_find_21 ?_
          refine lv_iload_n hx hb dX5_find_24 rfl (lv_at hl 3 rfl) ?_
          refine va_ialdN (D := D) (cl := vwCl) (cA := cI) (f := N 1) hx hb hK hP 12 0 rfl rfl i (rfl) (by omega) (by first | decide | assumption) dX5_find_25 ?_
          refine lv_iload_n hx hb dX5_find_26 rfl (lv_at hl 2 rfl) ?_
          refine lv_icmp_ne (tgt := 32) hx hb dX5_find_27 (by decide) (fun c_27 => ?_) (fun c_27 => ?_)
          · skip
            refine lv_iinc (v := (nI i) + 1) (lv' := [(3, .int (((nI i) + 1))), (0, .ref o5), (1, .int h), (2, .int nm)]) hx hb dX5_find_32 hl (k := 3) rfl rfl (by decide) rfl (fun ls hl => ?_)
            refine lv_goto (tgt := 2) hx hb dX5_find_35 (by decide) ?_
            rw [nI_1 i] at hl
            exact ih (i + 1) ls (by omega) (noS hno (by simp [fdB, c_7, c_17, c_27])) (by omega) (lv_sub hl [1, 2, 3, 0] rfl)
          · skip
            refine lv_iload_n hx hb dX5_find_30 rfl (lv_at hl 3 rfl) ?_
            exact rd_iret hx hb hr hlocks dX5_find_31 (by rw [fsI_some hno (by simp [fdB, c_7, c_17, c_27]) (by omega) hi2])
  exact loop (nn + 1) 0 ls (by omega) (fun j hj => absurd hj (Nat.not_lt_zero j)) (by omega) (lv_sub hl [1, 2, 3, 0] rfl)
set_option maxHeartbeats 4000000 in
set_option maxRecDepth 100000 in
theorem kX5_isHeld (l : Launch) (D : va_G) (cI cZ : ClassId) (o5 k6 k7 k8 k9 k10 k11 k12 k13 k14 k15 k16 k17 k18 k19 k20 k21 k22 k23 k24 k25 np nh nn nb ne : Nat) (td : Int32) (P G N B E : Nat → Nat → Int32) (mc : Nat → Int32) (h : Int32) (g : Int32) (dy : Int32) (hnb : nb ≤ 20) : Met l yX5_isHeld wsX5_isHeld ({ frames := 0, cells := 0, slots := 0, locals := 0 } : Room) (RdP D [(cI, .int), (cZ, .boolean)] [.ref o5, .int h, .int g, .int dy] [(o5, .inr (5, [.int (nI np), .int (nI nh), .int td, .int (nI nn), .int (nI nb), .int (nI ne), .ref k6, .ref k7, .ref k8, .ref k9, .ref k10, .ref k11, .ref k12, .ref k13, .ref k14, .ref k15, .ref k16, .ref k17, .ref k18, .ref k19, .ref k20, .ref k21, .ref k22, .ref k23, .ref k24, .ref k25])), (k6, .inl (cI, 96, .inl (fl 4 P))), (k7, .inl (cI, 24, .inl (P 4))), (k8, .inl (cZ, 24, .inl (P 5))), (k9, .inl (cI, 5, .inl (G 0))), (k10, .inl (cI, 5, .inl (G 1))), (k11, .inl (cI, 5, .inl (G 2))), (k12, .inl (cI, 5, .inl (G 3))), (k13, .inl (cI, 5, .inl (G 4))), (k14, .inl (cI, 5, .inl (mc))), (k15, .inl (cZ, 5, .inl (G 5))), (k16, .inl (cI, 200, .inl (N 0))), (k17, .inl (cI, 200, .inl (N 1))), (k18, .inl (cI, 200, .inl (N 2))), (k19, .inl (cI, 200, .inl (N 3))), (k20, .inl (cI, 200, .inl (N 4))), (k21, .inl (cI, 20, .inl (B 0))), (k22, .inl (cI, 20, .inl (B 1))), (k23, .inl (cI, 20, .inl (B 2))), (k24, .inl (cI, 20, .inl (B 3))), (k25, .inl (cI, 1200, .inl (fl 6 E)))]) (QcRead (bI (anys (brB B h g dy) nb))) 0 0 (fun _ => False) := by
  refine rd_of (cc := cX5_isHeld) (maxL := 5) (ret := (some .boolean)) (by decide) rfl (Nat.le_of_ble_eq_true rfl) ?_
  intro pp ee ss mm bw me cd ls hx hb hr hts hown hlocks hml hP hK hl
  have hl : lv_has ls 5 [(0, .ref o5), (1, .int h), (2, .int g), (3, .int dy)] := hl
  have hf120 := hts (.fieldLink RX5 120 "OtherNamesModel" "bridges" "I") (by decide +kernel)
  have hin5 := (show ∀ w ∈ wsX50, w ∈ wsX5_isHeld by decide +kernel)
  have hf56 := hts (.fieldLink RX5 56 "OtherNamesModel" "bridgeFrom" "[I") (by decide +kernel)
  have hf59 := hts (.fieldLink RX5 59 "OtherNamesModel" "bridgeTo" "[I") (by decide +kernel)
  have hf62 := hts (.fieldLink RX5 62 "OtherNamesModel" "bridgeFirst" "[I") (by decide +kernel)
  have hf65 := hts (.fieldLink RX5 65 "OtherNamesModel" "bridgeLast" "[I") (by decide +kernel)
  refine lv_iconst (v := 0) hx hb dX5_isHeld_0 (by decide) ?_
  refine lv_istore (lv' := [(4, .int 0), (0, .ref o5), (1, .int h), (2, .int g), (3, .int dy)]) hx hb dX5_isHeld_1 hl (by decide) rfl (fun ls hl => ?_)
  have loop : ∀ (k : Nat) (i : Nat) (ls : Array Slot), i ≤ nb → (∀ j, j < i → brB B h g dy j = false) → nb < i + k → lv_has ls 5 [(0, .ref o5), (1, .int h), (2, .int g), (3, .int dy), (4, .int (nI i))] → W pp l ee ({ frames := 0, cells := 0, slots := 0, locals := 0 } : Room) ss mm ([.ref o5, .int h, .int g, .int dy] : List Value).toArray bw me cd ss.heap [] 0 0 (MQ bw (QcRead (bI (anys (brB B h g dy) nb))) ([.ref o5, .int h, .int g, .int dy] : List Value).toArray ss 0 0 (fun _ => False)) (F0 mm 3 ls []) := by
    intro k
    induction k with
    | zero => intro i ls hi hno hk; exact absurd hk (by omega)
    | succ k ih =>
      intro i ls hi hno hk hl
      refine lv_iload hx hb dX5_isHeld_3 (lv_at hl 4 rfl) ?_
      refine lv_aload_n hx hb dX5_isHeld_5 rfl (lv_at hl 0 rfl) ?_
      refine va_get (D := D) (ci := 5) (v := .int (nI nb)) (C := RX5) (T := TX5) (N := 26) hx hb hts hin5 hown hK hP 0 rfl rfl 4 (by decide) hf120 (fun _ h9 => h9) rfl dX5_isHeld_6 ?_
      refine lv_icmp_ge (tgt := 64) hx hb dX5_isHeld_9 (by decide) (fun c_9 => ?_) (fun c_9 => ?_)
      · skip
        have hi2 : i = nb := Nat.le_antisymm hi (lit_T c_9 nb rfl (by omega) (by omega))
        refine lv_iconst (v := 0) hx hb dX5_isHeld_64 (by decide) ?_
        exact rd_zret hx hb hr hlocks dX5_isHeld_65 (by rw [hi2] at hno; rw [anys_no hno]; rfl)
      · skip
        have hi2 : i < nb := lit_F c_9 nb rfl (by omega) (by omega)
        refine lv_aload_n hx hb dX5_isHeld_12 rfl (lv_at hl 0 rfl) ?_
        refine va_get (D := D) (ci := 5) (v := .ref k21) (C := RX5) (T := TX5) (N := 26) hx hb hts hin5 hown hK hP 0 rfl rfl 21 (by decide) hf56 (fun _ h9 => h9) rfl dX5_isHeld_13 ?_
        refine lv_iload hx hb dX5_isHeld_16 (lv_at hl 4 rfl) ?_
        refine va_ialdN (D := D) (cl := vwCl) (cA := cI) (f := B 0) hx hb hK hP 16 0 rfl rfl i (rfl) (by omega) (by first | decide | assumption) dX5_isHeld_18 ?_
        refine lv_iload_n hx hb dX5_isHeld_19 rfl (lv_at hl 1 rfl) ?_
        refine lv_icmp_ne (tgt := 58) hx hb dX5_isHeld_20 (by decide) (fun c_20 => ?_) (fun c_20 => ?_)
        · skip
          refine lv_iinc (v := (nI i) + 1) (lv' := [(4, .int (((nI i) + 1))), (0, .ref o5), (1, .int h), (2, .int g), (3, .int dy)]) hx hb dX5_isHeld_58 hl (k := 4) rfl rfl (by decide) rfl (fun ls hl => ?_)
          refine lv_goto (tgt := 3) hx hb dX5_isHeld_61 (by decide) ?_
          rw [nI_1 i] at hl
          exact ih (i + 1) ls (by omega) (noS hno (by simp [brB, c_9, c_20])) (by omega) (lv_sub hl [1, 2, 3, 4, 0] rfl)
        · skip
          refine lv_aload_n hx hb dX5_isHeld_23 rfl (lv_at hl 0 rfl) ?_
          refine va_get (D := D) (ci := 5) (v := .ref k22) (C := RX5) (T := TX5) (N := 26) hx hb hts hin5 hown hK hP 0 rfl rfl 22 (by decide) hf59 (fun _ h9 => h9) rfl dX5_isHeld_24 ?_
          refine lv_iload hx hb dX5_isHeld_27 (lv_at hl 4 rfl) ?_
          refine va_ialdN (D := D) (cl := vwCl) (cA := cI) (f := B 1) hx hb hK hP 17 0 rfl rfl i (rfl) (by omega) (by first | decide | assumption) dX5_isHeld_29 ?_
          refine lv_iload_n hx hb dX5_isHeld_30 rfl (lv_at hl 2 rfl) ?_
          refine lv_icmp_ne (tgt := 58) hx hb dX5_isHeld_31 (by decide) (fun c_31 => ?_) (fun c_31 => ?_)
          · skip
            refine lv_iinc (v := (nI i) + 1) (lv' := [(4, .int (((nI i) + 1))), (0, .ref o5), (1, .int h), (2, .int g), (3, .int dy)]) hx hb dX5_isHeld_58 hl (k := 4) rfl rfl (by decide) rfl (fun ls hl => ?_)
            refine lv_goto (tgt := 3) hx hb dX5_isHeld_61 (by decide) ?_
            rw [nI_1 i] at hl
            exact ih (i + 1) ls (by omega) (noS hno (by simp [brB, c_9, c_20, c_31])) (by omega) (lv_sub hl [1, 2, 3, 4, 0] rfl)
          · skip
            refine lv_iload_n hx hb dX5_isHeld_34 rfl (lv_at hl 3 rfl) ?_
            refine lv_aload_n hx hb dX5_isHeld_35 rfl (lv_at hl 0 rfl) ?_
            refine va_get (D := D) (ci := 5) (v := .ref k23) (C := RX5) (T := TX5) (N := 26) hx hb hts hin5 hown hK hP 0 rfl rfl 23 (by decide) hf62 (fun _ h9 => h9) rfl dX5_isHeld_36 ?_
            refine lv_iload hx hb dX5_isHeld_39 (lv_at hl 4 rfl) ?_
            refine va_ialdN (D := D) (cl := vwCl) (cA := cI) (f := B 2) hx hb hK hP 18 0 rfl rfl i (rfl) (by omega) (by first | decide | assumption) dX5_isHeld_41 ?_
            refine lv_icmp_lt (tgt := 58) hx hb dX5_isHeld_42 (by decide) (fun c_42 => ?_) (fun c_42 => ?_)
            · skip
              refine lv_iinc (v := (nI i) + 1) (lv' := [(4, .int (((nI i) + 1))), (0, .ref o5), (1, .int h), (2, .int g), (3, .int dy)]) hx hb dX5_isHeld_58 hl (k := 4) rfl rfl (by decide) rfl (fun ls hl => ?_)
              refine lv_goto (tgt := 3) hx hb dX5_isHeld_61 (by decide) ?_
              rw [nI_1 i] at hl
              exact ih (i + 1) ls (by omega) (noS hno (by simp [brB, c_9, c_20, c_31, c_42])) (by omega) (lv_sub hl [1, 2, 3, 4, 0] rfl)
            · skip
              refine lv_iload_n hx hb dX5_isHeld_45 rfl (lv_at hl 3 rfl) ?_
              refine lv_aload_n hx hb dX5_isHeld_46 rfl (lv_at hl 0 rfl) ?_
              refine va_get (D := D) (ci := 5) (v := .ref k24) (C := RX5) (T := TX5) (N := 26) hx hb hts hin5 hown hK hP 0 rfl rfl 24 (by decide) hf65 (fun _ h9 => h9) rfl dX5_isHeld_47 ?_
              refine lv_iload hx hb dX5_isHeld_50 (lv_at hl 4 rfl) ?_
              refine va_ialdN (D := D) (cl := vwCl) (cA := cI) (f := B 3) hx hb hK hP 19 0 rfl rfl i (rfl) (by omega) (by first | decide | assumption) dX5_isHeld_52 ?_
              refine lv_icmp_gt (tgt := 58) hx hb dX5_isHeld_53 (by decide) (fun c_53 => ?_) (fun c_53 => ?_)
              · skip
                refine lv_iinc (v := (nI i) + 1) (lv' := [(4, .int (((nI i) + 1))), (0, .ref o5), (1, .int h), (2, .int g), (3, .int dy)]) hx hb dX5_isHeld_58 hl (k := 4) rfl rfl (by decide) rfl (fun ls hl => ?_)
                refine lv_goto (tgt := 3) hx hb dX5_isHeld_61 (by decide) ?_
                rw [nI_1 i] at hl
                exact ih (i + 1) ls (by omega) (noS hno (by simp [brB, c_9, c_20, c_31, c_42, c_53])) (by omega) (lv_sub hl [1, 2, 3, 4, 0] rfl)
              · skip
                refine lv_iconst (v := 1) hx hb dX5_isHeld_56 (by decide) ?_
                exact rd_zret hx hb hr hlocks dX5_isHeld_57 (by rw [anys_yes (i := i) (by simp [brB, c_9, c_20, c_31, c_42, c_53]) hi2]; rfl)
  exact loop (nb + 1) 0 ls (by omega) (fun j hj => absurd hj (Nat.not_lt_zero j)) (by omega) (lv_sub hl [1, 2, 3, 4, 0] rfl)
set_option maxHeartbeats 4000000 in
set_option maxRecDepth 100000 in
theorem kX5_holds (l : Launch) (D : va_G) (cI cZ : ClassId) (o5 k6 k7 k8 k9 k10 k11 k12 k13 k14 k15 k16 k17 k18 k19 k20 k21 k22 k23 k24 k25 np nh nn nb ne : Nat) (td : Int32) (P G N B E : Nat → Nat → Int32) (mc : Nat → Int32) (h : Int32) (g : Int32) (dy : Int32) (hnb : nb ≤ 20) : Met l yX5_holds wsX5_holds ({ frames := 1, cells := 0, slots := 0, locals := 24 } : Room) (RdP D [(cI, .int), (cZ, .boolean)] [.ref o5, .int h, .int g, .int dy] [(o5, .inr (5, [.int (nI np), .int (nI nh), .int td, .int (nI nn), .int (nI nb), .int (nI ne), .ref k6, .ref k7, .ref k8, .ref k9, .ref k10, .ref k11, .ref k12, .ref k13, .ref k14, .ref k15, .ref k16, .ref k17, .ref k18, .ref k19, .ref k20, .ref k21, .ref k22, .ref k23, .ref k24, .ref k25])), (k6, .inl (cI, 96, .inl (fl 4 P))), (k7, .inl (cI, 24, .inl (P 4))), (k8, .inl (cZ, 24, .inl (P 5))), (k9, .inl (cI, 5, .inl (G 0))), (k10, .inl (cI, 5, .inl (G 1))), (k11, .inl (cI, 5, .inl (G 2))), (k12, .inl (cI, 5, .inl (G 3))), (k13, .inl (cI, 5, .inl (G 4))), (k14, .inl (cI, 5, .inl (mc))), (k15, .inl (cZ, 5, .inl (G 5))), (k16, .inl (cI, 200, .inl (N 0))), (k17, .inl (cI, 200, .inl (N 1))), (k18, .inl (cI, 200, .inl (N 2))), (k19, .inl (cI, 200, .inl (N 3))), (k20, .inl (cI, 200, .inl (N 4))), (k21, .inl (cI, 20, .inl (B 0))), (k22, .inl (cI, 20, .inl (B 1))), (k23, .inl (cI, 20, .inl (B 2))), (k24, .inl (cI, 20, .inl (B 3))), (k25, .inl (cI, 1200, .inl (fl 6 E)))]) (QcRead (if (twoH nh h g && inB dy 0 3000) = true then bI (anys (brB B h g dy) nb) else -1)) 0 0 (fun _ => False) := by
  refine rd_of (cc := cX5_holds) (maxL := 4) (ret := (some .int)) (by decide) rfl (Nat.le_of_ble_eq_true rfl) ?_
  intro pp ee ss mm bw me cd ls hx hb hr hts hown hlocks hml hP hK hl
  have hl : lv_has ls 4 [(0, .ref o5), (1, .int h), (2, .int g), (3, .int dy)] := hl
  refine lv_aload_n hx hb dX5_holds_0 rfl (lv_at hl 0 rfl) ?_
  refine lv_iload_n hx hb dX5_holds_1 rfl (lv_at hl 1 rfl) ?_
  refine rcV (As := [.int h]) (rest := []) (ci := 5) ⟨hx, hb, hml, hown, hts⟩ (kX5_isHouse l D cI cZ o5 k6 k7 k8 k9 k10 k11 k12 k13 k14 k15 k16 k17 k18 k19 k20 k21 k22 k23 k24 k25 np nh nn nb ne td P G N B E mc h) (cwV 1 hts gX5_holds_X5_isHouse rfl rfl rfl (by decide +kernel) ⟨Nat.le_of_ble_eq_true rfl, Nat.le_of_ble_eq_true rfl⟩) hK hP [0, 1, 2, 3, 4, 5, 6, 7, 8, 9, 10, 11, 12, 13, 14, 15, 16, 17, 18, 19, 20] rfl rfl rfl rfl rfl hl.1 rfl (Nat.le_of_ble_eq_true rfl) ⟨Nat.zero_le _, Nat.zero_le _⟩ dX5_holds_2 ?_
  refine lb_eq (tgt := 32) hx hb dX5_holds_5 (by decide) (fun c_5 => ?_) (fun c_5 => ?_)
  · skip
    refine lv_iconst (v := (-1)) hx hb dX5_holds_32 (by decide) ?_
    exact rd_iret hx hb hr hlocks dX5_holds_33 (by simp [twoH, bI, c_5])
  · skip
    refine lv_aload_n hx hb dX5_holds_8 rfl (lv_at hl 0 rfl) ?_
    refine lv_iload_n hx hb dX5_holds_9 rfl (lv_at hl 2 rfl) ?_
    refine rcV (As := [.int g]) (rest := []) (ci := 5) ⟨hx, hb, hml, hown, hts⟩ (kX5_isHouse l D cI cZ o5 k6 k7 k8 k9 k10 k11 k12 k13 k14 k15 k16 k17 k18 k19 k20 k21 k22 k23 k24 k25 np nh nn nb ne td P G N B E mc g) (cwV 1 hts gX5_holds_X5_isHouse rfl rfl rfl (by decide +kernel) ⟨Nat.le_of_ble_eq_true rfl, Nat.le_of_ble_eq_true rfl⟩) hK hP [0, 1, 2, 3, 4, 5, 6, 7, 8, 9, 10, 11, 12, 13, 14, 15, 16, 17, 18, 19, 20] rfl rfl rfl rfl rfl hl.1 rfl (Nat.le_of_ble_eq_true rfl) ⟨Nat.zero_le _, Nat.zero_le _⟩ dX5_holds_10 ?_
    refine lb_eq (tgt := 32) hx hb dX5_holds_13 (by decide) (fun c_13 => ?_) (fun c_13 => ?_)
    · skip
      refine lv_iconst (v := (-1)) hx hb dX5_holds_32 (by decide) ?_
      exact rd_iret hx hb hr hlocks dX5_holds_33 (by simp [twoH, bI, c_5, c_13])
    · skip
      refine lv_iload_n hx hb dX5_holds_16 rfl (lv_at hl 1 rfl) ?_
      refine lv_iload_n hx hb dX5_holds_17 rfl (lv_at hl 2 rfl) ?_
      refine lv_icmp_eq (tgt := 32) hx hb dX5_holds_18 (by decide) (fun c_18 => ?_) (fun c_18 => ?_)
      · skip
        refine lv_iconst (v := (-1)) hx hb dX5_holds_32 (by decide) ?_
        exact rd_iret hx hb hr hlocks dX5_holds_33 (by simp [twoH, bI, c_5, c_13, c_18])
      · skip
        refine lv_iload_n hx hb dX5_holds_21 rfl (lv_at hl 3 rfl) ?_
        refine lv_iconst (v := 0) hx hb dX5_holds_22 (by decide) ?_
        refine lv_sipush (v := 3000) hx hb dX5_holds_23 (by decide) ?_
        refine rcS (As := [.int dy, .int 0, .int 3000]) (rest := []) ⟨hx, hb, hml, hown, hts⟩ (kX5_in l D cI cZ dy 0 3000) (va_cwS 3 hts gX5_holds_X5_in rfl rfl rfl (by decide +kernel) ⟨Nat.le_of_ble_eq_true rfl, Nat.le_of_ble_eq_true rfl⟩) hK hP [] rfl rfl hl.1 rfl (Nat.le_of_ble_eq_true rfl) ⟨Nat.zero_le _, Nat.zero_le _⟩ dX5_holds_26 ?_
        refine lb_ne (tgt := 34) hx hb dX5_holds_29 (by decide) (fun c_29 => ?_) (fun c_29 => ?_)
        · skip
          refine lv_aload_n hx hb dX5_holds_34 rfl (lv_at hl 0 rfl) ?_
          refine lv_iload_n hx hb dX5_holds_35 rfl (lv_at hl 1 rfl) ?_
          refine lv_iload_n hx hb dX5_holds_36 rfl (lv_at hl 2 rfl) ?_
          refine lv_iload_n hx hb dX5_holds_37 rfl (lv_at hl 3 rfl) ?_
          refine rcV (As := [.int h, .int g, .int dy]) (rest := []) (ci := 5) ⟨hx, hb, hml, hown, hts⟩ (kX5_isHeld l D cI cZ o5 k6 k7 k8 k9 k10 k11 k12 k13 k14 k15 k16 k17 k18 k19 k20 k21 k22 k23 k24 k25 np nh nn nb ne td P G N B E mc h g dy (by first | assumption | omega)) (cwV 3 hts gX5_holds_X5_isHeld rfl rfl rfl (by decide +kernel) ⟨Nat.le_of_ble_eq_true rfl, Nat.le_of_ble_eq_true rfl⟩) hK hP [0, 1, 2, 3, 4, 5, 6, 7, 8, 9, 10, 11, 12, 13, 14, 15, 16, 17, 18, 19, 20] rfl rfl rfl rfl rfl hl.1 rfl (Nat.le_of_ble_eq_true rfl) ⟨Nat.zero_le _, Nat.zero_le _⟩ dX5_holds_38 ?_
          refine lb_eq (tgt := 48) hx hb dX5_holds_41 (by decide) (fun c_41 => ?_) (fun c_41 => ?_)
          · skip
            refine lv_iconst (v := 0) hx hb dX5_holds_48 (by decide) ?_
            exact rd_iret hx hb hr hlocks dX5_holds_49 (by simp [twoH, bI, c_5, c_13, c_18, c_29, c_41])
          · skip
            refine lv_iconst (v := 1) hx hb dX5_holds_44 (by decide) ?_
            refine lv_goto (tgt := 49) hx hb dX5_holds_45 (by decide) ?_
            exact rd_iret hx hb hr hlocks dX5_holds_49 (by simp [twoH, bI, c_5, c_13, c_18, c_29, c_41])
        · skip
          refine lv_iconst (v := (-1)) hx hb dX5_holds_32 (by decide) ?_
          exact rd_iret hx hb hr hlocks dX5_holds_33 (by simp [twoH, bI, c_5, c_13, c_18, c_29])
set_option maxHeartbeats 4000000 in
set_option maxRecDepth 100000 in
theorem kX5_writes (l : Launch) (D : va_G) (cI cZ : ClassId) (o5 k6 k7 k8 k9 k10 k11 k12 k13 k14 k15 k16 k17 k18 k19 k20 k21 k22 k23 k24 k25 np nh nn nb ne : Nat) (td : Int32) (P G N B E : Nat → Nat → Int32) (mc : Nat → Int32) (w : Int32) (h : Int32) (nm : Int32) (a : Int32) (b : Int32) (hne : ne < 200) : Met l yX5_writes wsX5_writes ({ frames := 0, cells := 0, slots := 0, locals := 0 } : Room) (MuP D [(cI, .int), (cZ, .boolean)] [.ref o5, .int w, .int h, .int nm, .int a, .int b] [(o5, .inr (5, [.int (nI np), .int (nI nh), .int td, .int (nI nn), .int (nI nb), .int (nI ne), .ref k6, .ref k7, .ref k8, .ref k9, .ref k10, .ref k11, .ref k12, .ref k13, .ref k14, .ref k15, .ref k16, .ref k17, .ref k18, .ref k19, .ref k20, .ref k21, .ref k22, .ref k23, .ref k24, .ref k25])), (k6, .inl (cI, 96, .inl (fl 4 P))), (k7, .inl (cI, 24, .inl (P 4))), (k8, .inl (cZ, 24, .inl (P 5))), (k9, .inl (cI, 5, .inl (G 0))), (k10, .inl (cI, 5, .inl (G 1))), (k11, .inl (cI, 5, .inl (G 2))), (k12, .inl (cI, 5, .inl (G 3))), (k13, .inl (cI, 5, .inl (G 4))), (k14, .inl (cI, 5, .inl (mc))), (k15, .inl (cZ, 5, .inl (G 5))), (k16, .inl (cI, 200, .inl (N 0))), (k17, .inl (cI, 200, .inl (N 1))), (k18, .inl (cI, 200, .inl (N 2))), (k19, .inl (cI, 200, .inl (N 3))), (k20, .inl (cI, 200, .inl (N 4))), (k21, .inl (cI, 20, .inl (B 0))), (k22, .inl (cI, 20, .inl (B 1))), (k23, .inl (cI, 20, .inl (B 2))), (k24, .inl (cI, 20, .inl (B 3))), (k25, .inl (cI, 1200, .inl (fl 6 E)))]) (QM D none [(o5, .inr (5, [.int (nI np), .int (nI nh), .int td, .int (nI nn), .int (nI nb), .int (nI ne), .ref k6, .ref k7, .ref k8, .ref k9, .ref k10, .ref k11, .ref k12, .ref k13, .ref k14, .ref k15, .ref k16, .ref k17, .ref k18, .ref k19, .ref k20, .ref k21, .ref k22, .ref k23, .ref k24, .ref k25])), (k6, .inl (cI, 96, .inl (fl 4 P))), (k7, .inl (cI, 24, .inl (P 4))), (k8, .inl (cZ, 24, .inl (P 5))), (k9, .inl (cI, 5, .inl (G 0))), (k10, .inl (cI, 5, .inl (G 1))), (k11, .inl (cI, 5, .inl (G 2))), (k12, .inl (cI, 5, .inl (G 3))), (k13, .inl (cI, 5, .inl (G 4))), (k14, .inl (cI, 5, .inl (mc))), (k15, .inl (cZ, 5, .inl (G 5))), (k16, .inl (cI, 200, .inl (N 0))), (k17, .inl (cI, 200, .inl (N 1))), (k18, .inl (cI, 200, .inl (N 2))), (k19, .inl (cI, 200, .inl (N 3))), (k20, .inl (cI, 200, .inl (N 4))), (k21, .inl (cI, 20, .inl (B 0))), (k22, .inl (cI, 20, .inl (B 1))), (k23, .inl (cI, 20, .inl (B 2))), (k24, .inl (cI, 20, .inl (B 3))), (k25, .inl (cI, 1200, .inl (fl 6 E)))] [(o5, .inr (5, [.int (nI np), .int (nI nh), .int td, .int (nI nn), .int (nI nb), .int (nI (adn 200 ne)), .ref k6, .ref k7, .ref k8, .ref k9, .ref k10, .ref k11, .ref k12, .ref k13, .ref k14, .ref k15, .ref k16, .ref k17, .ref k18, .ref k19, .ref k20, .ref k21, .ref k22, .ref k23, .ref k24, .ref k25])), (k6, .inl (cI, 96, .inl (fl 4 P))), (k7, .inl (cI, 24, .inl (P 4))), (k8, .inl (cZ, 24, .inl (P 5))), (k9, .inl (cI, 5, .inl (G 0))), (k10, .inl (cI, 5, .inl (G 1))), (k11, .inl (cI, 5, .inl (G 2))), (k12, .inl (cI, 5, .inl (G 3))), (k13, .inl (cI, 5, .inl (G 4))), (k14, .inl (cI, 5, .inl (mc))), (k15, .inl (cZ, 5, .inl (G 5))), (k16, .inl (cI, 200, .inl (N 0))), (k17, .inl (cI, 200, .inl (N 1))), (k18, .inl (cI, 200, .inl (N 2))), (k19, .inl (cI, 200, .inl (N 3))), (k20, .inl (cI, 200, .inl (N 4))), (k21, .inl (cI, 20, .inl (B 0))), (k22, .inl (cI, 20, .inl (B 1))), (k23, .inl (cI, 20, .inl (B 2))), (k24, .inl (cI, 20, .inl (B 3))), (k25, .inl (cI, 1200, .inl (fl 6 (eaddT ne E w h nm a b td))))]) 0 0 (adr [(o5, .inr (5, [.int (nI np), .int (nI nh), .int td, .int (nI nn), .int (nI nb), .int (nI ne), .ref k6, .ref k7, .ref k8, .ref k9, .ref k10, .ref k11, .ref k12, .ref k13, .ref k14, .ref k15, .ref k16, .ref k17, .ref k18, .ref k19, .ref k20, .ref k21, .ref k22, .ref k23, .ref k24, .ref k25])), (k6, .inl (cI, 96, .inl (fl 4 P))), (k7, .inl (cI, 24, .inl (P 4))), (k8, .inl (cZ, 24, .inl (P 5))), (k9, .inl (cI, 5, .inl (G 0))), (k10, .inl (cI, 5, .inl (G 1))), (k11, .inl (cI, 5, .inl (G 2))), (k12, .inl (cI, 5, .inl (G 3))), (k13, .inl (cI, 5, .inl (G 4))), (k14, .inl (cI, 5, .inl (mc))), (k15, .inl (cZ, 5, .inl (G 5))), (k16, .inl (cI, 200, .inl (N 0))), (k17, .inl (cI, 200, .inl (N 1))), (k18, .inl (cI, 200, .inl (N 2))), (k19, .inl (cI, 200, .inl (N 3))), (k20, .inl (cI, 200, .inl (N 4))), (k21, .inl (cI, 20, .inl (B 0))), (k22, .inl (cI, 20, .inl (B 1))), (k23, .inl (cI, 20, .inl (B 2))), (k24, .inl (cI, 20, .inl (B 3))), (k25, .inl (cI, 1200, .inl (fl 6 E)))]) := by
  refine mu_of (cc := cX5_writes) (maxL := 7) (ret := none) (by decide) rfl (Nat.le_of_ble_eq_true rfl) ?_
  intro pp ee ss mm bw me cd ls hx hb hr hts hown hlocks hml hK hl H locs hP hD hS
  have hl : lv_has ls 7 [(0, .ref o5), (1, .int w), (2, .int h), (3, .int nm), (4, .int a), (5, .int b)] := hl
  have hf126 := hts (.fieldLink RX5 126 "OtherNamesModel" "entries" "I") (by decide +kernel)
  have hin5 := (show ∀ w ∈ wsX50, w ∈ wsX5_writes by decide +kernel)
  have hf68 := hts (.fieldLink RX5 68 "OtherNamesModel" "entry" "[I") (by decide +kernel)
  have hf94 := hts (.fieldLink RX5 94 "OtherNamesModel" "now" "I") (by decide +kernel)
  refine lv_bipush (v := 6) hx hb dX5_writes_0 (by decide) ?_
  refine lv_aload_n hx hb dX5_writes_2 rfl (lv_at hl 0 rfl) ?_
  refine va_get (D := D) (ci := 5) (v := .int (nI ne)) (C := RX5) (T := TX5) (N := 26) hx hb hts hin5 hown hK hP 0 rfl rfl 5 (by decide) hf126 (fun _ h9 => h9) rfl dX5_writes_3 ?_
  refine lv_imul hx hb dX5_writes_6 ?_
  refine lv_istore (lv' := [(6, .int ((6 * (nI ne)))), (0, .ref o5), (1, .int w), (2, .int h), (3, .int nm), (4, .int a), (5, .int b)]) hx hb dX5_writes_7 hl (by decide) rfl (fun ls hl => ?_)
  refine lv_aload_n hx hb dX5_writes_9 rfl (lv_at hl 1 rfl) ?_
  refine va_get (D := D) (ci := 5) (v := .ref k25) (C := RX5) (T := TX5) (N := 26) hx hb hts hin5 hown hK hP 0 rfl rfl 25 (by decide) hf68 (fun _ h9 => h9) rfl dX5_writes_10 ?_
  refine lv_iload hx hb dX5_writes_13 (lv_at hl 0 rfl) ?_
  refine lv_iload_n hx hb dX5_writes_15 rfl (lv_at hl 2 rfl) ?_
  refine va_iastN (D := D) (cl := vwCl) (cA := cI) (f := fl 6 E) (x := w) hx hb hK hP hD hS 20 0 rfl rfl (ne * 6 + 0) (mulI 6 ne) (by omega) (by first | decide | assumption) dX5_writes_16 (fun H locs hP hD hS => ?_)
  have hP : va_P D vwCl [(o5, .inr (5, [.int (nI np), .int (nI nh), .int td, .int (nI nn), .int (nI nb), .int (nI ne), .ref k6, .ref k7, .ref k8, .ref k9, .ref k10, .ref k11, .ref k12, .ref k13, .ref k14, .ref k15, .ref k16, .ref k17, .ref k18, .ref k19, .ref k20, .ref k21, .ref k22, .ref k23, .ref k24, .ref k25])), (k6, .inl (cI, 96, .inl (fl 4 P))), (k7, .inl (cI, 24, .inl (P 4))), (k8, .inl (cZ, 24, .inl (P 5))), (k9, .inl (cI, 5, .inl (G 0))), (k10, .inl (cI, 5, .inl (G 1))), (k11, .inl (cI, 5, .inl (G 2))), (k12, .inl (cI, 5, .inl (G 3))), (k13, .inl (cI, 5, .inl (G 4))), (k14, .inl (cI, 5, .inl (mc))), (k15, .inl (cZ, 5, .inl (G 5))), (k16, .inl (cI, 200, .inl (N 0))), (k17, .inl (cI, 200, .inl (N 1))), (k18, .inl (cI, 200, .inl (N 2))), (k19, .inl (cI, 200, .inl (N 3))), (k20, .inl (cI, 200, .inl (N 4))), (k21, .inl (cI, 20, .inl (B 0))), (k22, .inl (cI, 20, .inl (B 1))), (k23, .inl (cI, 20, .inl (B 2))), (k24, .inl (cI, 20, .inl (B 3))), (k25, .inl (cI, 1200, .inl (upd (fl 6 E) (ne * 6 + 0) w)))] H := hP
  have hD : va_D (adr _) [(o5, .inr (5, [.int (nI np), .int (nI nh), .int td, .int (nI nn), .int (nI nb), .int (nI ne), .ref k6, .ref k7, .ref k8, .ref k9, .ref k10, .ref k11, .ref k12, .ref k13, .ref k14, .ref k15, .ref k16, .ref k17, .ref k18, .ref k19, .ref k20, .ref k21, .ref k22, .ref k23, .ref k24, .ref k25])), (k6, .inl (cI, 96, .inl (fl 4 P))), (k7, .inl (cI, 24, .inl (P 4))), (k8, .inl (cZ, 24, .inl (P 5))), (k9, .inl (cI, 5, .inl (G 0))), (k10, .inl (cI, 5, .inl (G 1))), (k11, .inl (cI, 5, .inl (G 2))), (k12, .inl (cI, 5, .inl (G 3))), (k13, .inl (cI, 5, .inl (G 4))), (k14, .inl (cI, 5, .inl (mc))), (k15, .inl (cZ, 5, .inl (G 5))), (k16, .inl (cI, 200, .inl (N 0))), (k17, .inl (cI, 200, .inl (N 1))), (k18, .inl (cI, 200, .inl (N 2))), (k19, .inl (cI, 200, .inl (N 3))), (k20, .inl (cI, 200, .inl (N 4))), (k21, .inl (cI, 20, .inl (B 0))), (k22, .inl (cI, 20, .inl (B 1))), (k23, .inl (cI, 20, .inl (B 2))), (k24, .inl (cI, 20, .inl (B 3))), (k25, .inl (cI, 1200, .inl (upd (fl 6 E) (ne * 6 + 0) w)))] := hD
  refine lv_aload_n hx hb dX5_writes_17 rfl (lv_at hl 1 rfl) ?_
  refine va_get (D := D) (ci := 5) (v := .ref k25) (C := RX5) (T := TX5) (N := 26) hx hb hts hin5 hown hK hP 0 rfl rfl 25 (by decide) hf68 (fun _ h9 => h9) rfl dX5_writes_18 ?_
  refine lv_iload hx hb dX5_writes_21 (lv_at hl 0 rfl) ?_
  refine lv_iconst (v := 1) hx hb dX5_writes_23 (by decide) ?_
  refine lv_iadd hx hb dX5_writes_24 ?_
  refine lv_iload_n hx hb dX5_writes_25 rfl (lv_at hl 3 rfl) ?_
  refine va_iastN (D := D) (cl := vwCl) (cA := cI) (f := upd (fl 6 E) (ne * 6 + 0) w) (x := h) hx hb hK hP hD hS 20 0 rfl rfl (ne * 6 + 1) (ixI 6 ne 1) (by omega) (by first | decide | assumption) dX5_writes_26 (fun H locs hP hD hS => ?_)
  have hP : va_P D vwCl [(o5, .inr (5, [.int (nI np), .int (nI nh), .int td, .int (nI nn), .int (nI nb), .int (nI ne), .ref k6, .ref k7, .ref k8, .ref k9, .ref k10, .ref k11, .ref k12, .ref k13, .ref k14, .ref k15, .ref k16, .ref k17, .ref k18, .ref k19, .ref k20, .ref k21, .ref k22, .ref k23, .ref k24, .ref k25])), (k6, .inl (cI, 96, .inl (fl 4 P))), (k7, .inl (cI, 24, .inl (P 4))), (k8, .inl (cZ, 24, .inl (P 5))), (k9, .inl (cI, 5, .inl (G 0))), (k10, .inl (cI, 5, .inl (G 1))), (k11, .inl (cI, 5, .inl (G 2))), (k12, .inl (cI, 5, .inl (G 3))), (k13, .inl (cI, 5, .inl (G 4))), (k14, .inl (cI, 5, .inl (mc))), (k15, .inl (cZ, 5, .inl (G 5))), (k16, .inl (cI, 200, .inl (N 0))), (k17, .inl (cI, 200, .inl (N 1))), (k18, .inl (cI, 200, .inl (N 2))), (k19, .inl (cI, 200, .inl (N 3))), (k20, .inl (cI, 200, .inl (N 4))), (k21, .inl (cI, 20, .inl (B 0))), (k22, .inl (cI, 20, .inl (B 1))), (k23, .inl (cI, 20, .inl (B 2))), (k24, .inl (cI, 20, .inl (B 3))), (k25, .inl (cI, 1200, .inl (upd (upd (fl 6 E) (ne * 6 + 0) w) (ne * 6 + 1) h)))] H := hP
  have hD : va_D (adr _) [(o5, .inr (5, [.int (nI np), .int (nI nh), .int td, .int (nI nn), .int (nI nb), .int (nI ne), .ref k6, .ref k7, .ref k8, .ref k9, .ref k10, .ref k11, .ref k12, .ref k13, .ref k14, .ref k15, .ref k16, .ref k17, .ref k18, .ref k19, .ref k20, .ref k21, .ref k22, .ref k23, .ref k24, .ref k25])), (k6, .inl (cI, 96, .inl (fl 4 P))), (k7, .inl (cI, 24, .inl (P 4))), (k8, .inl (cZ, 24, .inl (P 5))), (k9, .inl (cI, 5, .inl (G 0))), (k10, .inl (cI, 5, .inl (G 1))), (k11, .inl (cI, 5, .inl (G 2))), (k12, .inl (cI, 5, .inl (G 3))), (k13, .inl (cI, 5, .inl (G 4))), (k14, .inl (cI, 5, .inl (mc))), (k15, .inl (cZ, 5, .inl (G 5))), (k16, .inl (cI, 200, .inl (N 0))), (k17, .inl (cI, 200, .inl (N 1))), (k18, .inl (cI, 200, .inl (N 2))), (k19, .inl (cI, 200, .inl (N 3))), (k20, .inl (cI, 200, .inl (N 4))), (k21, .inl (cI, 20, .inl (B 0))), (k22, .inl (cI, 20, .inl (B 1))), (k23, .inl (cI, 20, .inl (B 2))), (k24, .inl (cI, 20, .inl (B 3))), (k25, .inl (cI, 1200, .inl (upd (upd (fl 6 E) (ne * 6 + 0) w) (ne * 6 + 1) h)))] := hD
  refine lv_aload_n hx hb dX5_writes_27 rfl (lv_at hl 1 rfl) ?_
  refine va_get (D := D) (ci := 5) (v := .ref k25) (C := RX5) (T := TX5) (N := 26) hx hb hts hin5 hown hK hP 0 rfl rfl 25 (by decide) hf68 (fun _ h9 => h9) rfl dX5_writes_28 ?_
  refine lv_iload hx hb dX5_writes_31 (lv_at hl 0 rfl) ?_
  refine lv_iconst (v := 2) hx hb dX5_writes_33 (by decide) ?_
  refine lv_iadd hx hb dX5_writes_34 ?_
  refine lv_iload_n hx hb dX5_writes_35 rfl (lv_at hl 4 rfl) ?_
  refine va_iastN (D := D) (cl := vwCl) (cA := cI) (f := upd (upd (fl 6 E) (ne * 6 + 0) w) (ne * 6 + 1) h) (x := nm) hx hb hK hP hD hS 20 0 rfl rfl (ne * 6 + 2) (ixI 6 ne 2) (by omega) (by first | decide | assumption) dX5_writes_36 (fun H locs hP hD hS => ?_)
  have hP : va_P D vwCl [(o5, .inr (5, [.int (nI np), .int (nI nh), .int td, .int (nI nn), .int (nI nb), .int (nI ne), .ref k6, .ref k7, .ref k8, .ref k9, .ref k10, .ref k11, .ref k12, .ref k13, .ref k14, .ref k15, .ref k16, .ref k17, .ref k18, .ref k19, .ref k20, .ref k21, .ref k22, .ref k23, .ref k24, .ref k25])), (k6, .inl (cI, 96, .inl (fl 4 P))), (k7, .inl (cI, 24, .inl (P 4))), (k8, .inl (cZ, 24, .inl (P 5))), (k9, .inl (cI, 5, .inl (G 0))), (k10, .inl (cI, 5, .inl (G 1))), (k11, .inl (cI, 5, .inl (G 2))), (k12, .inl (cI, 5, .inl (G 3))), (k13, .inl (cI, 5, .inl (G 4))), (k14, .inl (cI, 5, .inl (mc))), (k15, .inl (cZ, 5, .inl (G 5))), (k16, .inl (cI, 200, .inl (N 0))), (k17, .inl (cI, 200, .inl (N 1))), (k18, .inl (cI, 200, .inl (N 2))), (k19, .inl (cI, 200, .inl (N 3))), (k20, .inl (cI, 200, .inl (N 4))), (k21, .inl (cI, 20, .inl (B 0))), (k22, .inl (cI, 20, .inl (B 1))), (k23, .inl (cI, 20, .inl (B 2))), (k24, .inl (cI, 20, .inl (B 3))), (k25, .inl (cI, 1200, .inl (upd (upd (upd (fl 6 E) (ne * 6 + 0) w) (ne * 6 + 1) h) (ne * 6 + 2) nm)))] H := hP
  have hD : va_D (adr _) [(o5, .inr (5, [.int (nI np), .int (nI nh), .int td, .int (nI nn), .int (nI nb), .int (nI ne), .ref k6, .ref k7, .ref k8, .ref k9, .ref k10, .ref k11, .ref k12, .ref k13, .ref k14, .ref k15, .ref k16, .ref k17, .ref k18, .ref k19, .ref k20, .ref k21, .ref k22, .ref k23, .ref k24, .ref k25])), (k6, .inl (cI, 96, .inl (fl 4 P))), (k7, .inl (cI, 24, .inl (P 4))), (k8, .inl (cZ, 24, .inl (P 5))), (k9, .inl (cI, 5, .inl (G 0))), (k10, .inl (cI, 5, .inl (G 1))), (k11, .inl (cI, 5, .inl (G 2))), (k12, .inl (cI, 5, .inl (G 3))), (k13, .inl (cI, 5, .inl (G 4))), (k14, .inl (cI, 5, .inl (mc))), (k15, .inl (cZ, 5, .inl (G 5))), (k16, .inl (cI, 200, .inl (N 0))), (k17, .inl (cI, 200, .inl (N 1))), (k18, .inl (cI, 200, .inl (N 2))), (k19, .inl (cI, 200, .inl (N 3))), (k20, .inl (cI, 200, .inl (N 4))), (k21, .inl (cI, 20, .inl (B 0))), (k22, .inl (cI, 20, .inl (B 1))), (k23, .inl (cI, 20, .inl (B 2))), (k24, .inl (cI, 20, .inl (B 3))), (k25, .inl (cI, 1200, .inl (upd (upd (upd (fl 6 E) (ne * 6 + 0) w) (ne * 6 + 1) h) (ne * 6 + 2) nm)))] := hD
  refine lv_aload_n hx hb dX5_writes_37 rfl (lv_at hl 1 rfl) ?_
  refine va_get (D := D) (ci := 5) (v := .ref k25) (C := RX5) (T := TX5) (N := 26) hx hb hts hin5 hown hK hP 0 rfl rfl 25 (by decide) hf68 (fun _ h9 => h9) rfl dX5_writes_38 ?_
  refine lv_iload hx hb dX5_writes_41 (lv_at hl 0 rfl) ?_
  refine lv_iconst (v := 3) hx hb dX5_writes_43 (by decide) ?_
  refine lv_iadd hx hb dX5_writes_44 ?_
  refine lv_iload hx hb dX5_writes_45 (lv_at hl 5 rfl) ?_
  refine va_iastN (D := D) (cl := vwCl) (cA := cI) (f := upd (upd (upd (fl 6 E) (ne * 6 + 0) w) (ne * 6 + 1) h) (ne * 6 + 2) nm) (x := a) hx hb hK hP hD hS 20 0 rfl rfl (ne * 6 + 3) (ixI 6 ne 3) (by omega) (by first | decide | assumption) dX5_writes_47 (fun H locs hP hD hS => ?_)
  have hP : va_P D vwCl [(o5, .inr (5, [.int (nI np), .int (nI nh), .int td, .int (nI nn), .int (nI nb), .int (nI ne), .ref k6, .ref k7, .ref k8, .ref k9, .ref k10, .ref k11, .ref k12, .ref k13, .ref k14, .ref k15, .ref k16, .ref k17, .ref k18, .ref k19, .ref k20, .ref k21, .ref k22, .ref k23, .ref k24, .ref k25])), (k6, .inl (cI, 96, .inl (fl 4 P))), (k7, .inl (cI, 24, .inl (P 4))), (k8, .inl (cZ, 24, .inl (P 5))), (k9, .inl (cI, 5, .inl (G 0))), (k10, .inl (cI, 5, .inl (G 1))), (k11, .inl (cI, 5, .inl (G 2))), (k12, .inl (cI, 5, .inl (G 3))), (k13, .inl (cI, 5, .inl (G 4))), (k14, .inl (cI, 5, .inl (mc))), (k15, .inl (cZ, 5, .inl (G 5))), (k16, .inl (cI, 200, .inl (N 0))), (k17, .inl (cI, 200, .inl (N 1))), (k18, .inl (cI, 200, .inl (N 2))), (k19, .inl (cI, 200, .inl (N 3))), (k20, .inl (cI, 200, .inl (N 4))), (k21, .inl (cI, 20, .inl (B 0))), (k22, .inl (cI, 20, .inl (B 1))), (k23, .inl (cI, 20, .inl (B 2))), (k24, .inl (cI, 20, .inl (B 3))), (k25, .inl (cI, 1200, .inl (upd (upd (upd (upd (fl 6 E) (ne * 6 + 0) w) (ne * 6 + 1) h) (ne * 6 + 2) nm) (ne * 6 + 3) a)))] H := hP
  have hD : va_D (adr _) [(o5, .inr (5, [.int (nI np), .int (nI nh), .int td, .int (nI nn), .int (nI nb), .int (nI ne), .ref k6, .ref k7, .ref k8, .ref k9, .ref k10, .ref k11, .ref k12, .ref k13, .ref k14, .ref k15, .ref k16, .ref k17, .ref k18, .ref k19, .ref k20, .ref k21, .ref k22, .ref k23, .ref k24, .ref k25])), (k6, .inl (cI, 96, .inl (fl 4 P))), (k7, .inl (cI, 24, .inl (P 4))), (k8, .inl (cZ, 24, .inl (P 5))), (k9, .inl (cI, 5, .inl (G 0))), (k10, .inl (cI, 5, .inl (G 1))), (k11, .inl (cI, 5, .inl (G 2))), (k12, .inl (cI, 5, .inl (G 3))), (k13, .inl (cI, 5, .inl (G 4))), (k14, .inl (cI, 5, .inl (mc))), (k15, .inl (cZ, 5, .inl (G 5))), (k16, .inl (cI, 200, .inl (N 0))), (k17, .inl (cI, 200, .inl (N 1))), (k18, .inl (cI, 200, .inl (N 2))), (k19, .inl (cI, 200, .inl (N 3))), (k20, .inl (cI, 200, .inl (N 4))), (k21, .inl (cI, 20, .inl (B 0))), (k22, .inl (cI, 20, .inl (B 1))), (k23, .inl (cI, 20, .inl (B 2))), (k24, .inl (cI, 20, .inl (B 3))), (k25, .inl (cI, 1200, .inl (upd (upd (upd (upd (fl 6 E) (ne * 6 + 0) w) (ne * 6 + 1) h) (ne * 6 + 2) nm) (ne * 6 + 3) a)))] := hD
  refine lv_aload_n hx hb dX5_writes_48 rfl (lv_at hl 1 rfl) ?_
  refine va_get (D := D) (ci := 5) (v := .ref k25) (C := RX5) (T := TX5) (N := 26) hx hb hts hin5 hown hK hP 0 rfl rfl 25 (by decide) hf68 (fun _ h9 => h9) rfl dX5_writes_49 ?_
  refine lv_iload hx hb dX5_writes_52 (lv_at hl 0 rfl) ?_
  refine lv_iconst (v := 4) hx hb dX5_writes_54 (by decide) ?_
  refine lv_iadd hx hb dX5_writes_55 ?_
  refine lv_iload hx hb dX5_writes_56 (lv_at hl 6 rfl) ?_
  refine va_iastN (D := D) (cl := vwCl) (cA := cI) (f := upd (upd (upd (upd (fl 6 E) (ne * 6 + 0) w) (ne * 6 + 1) h) (ne * 6 + 2) nm) (ne * 6 + 3) a) (x := b) hx hb hK hP hD hS 20 0 rfl rfl (ne * 6 + 4) (ixI 6 ne 4) (by omega) (by first | decide | assumption) dX5_writes_58 (fun H locs hP hD hS => ?_)
  have hP : va_P D vwCl [(o5, .inr (5, [.int (nI np), .int (nI nh), .int td, .int (nI nn), .int (nI nb), .int (nI ne), .ref k6, .ref k7, .ref k8, .ref k9, .ref k10, .ref k11, .ref k12, .ref k13, .ref k14, .ref k15, .ref k16, .ref k17, .ref k18, .ref k19, .ref k20, .ref k21, .ref k22, .ref k23, .ref k24, .ref k25])), (k6, .inl (cI, 96, .inl (fl 4 P))), (k7, .inl (cI, 24, .inl (P 4))), (k8, .inl (cZ, 24, .inl (P 5))), (k9, .inl (cI, 5, .inl (G 0))), (k10, .inl (cI, 5, .inl (G 1))), (k11, .inl (cI, 5, .inl (G 2))), (k12, .inl (cI, 5, .inl (G 3))), (k13, .inl (cI, 5, .inl (G 4))), (k14, .inl (cI, 5, .inl (mc))), (k15, .inl (cZ, 5, .inl (G 5))), (k16, .inl (cI, 200, .inl (N 0))), (k17, .inl (cI, 200, .inl (N 1))), (k18, .inl (cI, 200, .inl (N 2))), (k19, .inl (cI, 200, .inl (N 3))), (k20, .inl (cI, 200, .inl (N 4))), (k21, .inl (cI, 20, .inl (B 0))), (k22, .inl (cI, 20, .inl (B 1))), (k23, .inl (cI, 20, .inl (B 2))), (k24, .inl (cI, 20, .inl (B 3))), (k25, .inl (cI, 1200, .inl (upd (upd (upd (upd (upd (fl 6 E) (ne * 6 + 0) w) (ne * 6 + 1) h) (ne * 6 + 2) nm) (ne * 6 + 3) a) (ne * 6 + 4) b)))] H := hP
  have hD : va_D (adr _) [(o5, .inr (5, [.int (nI np), .int (nI nh), .int td, .int (nI nn), .int (nI nb), .int (nI ne), .ref k6, .ref k7, .ref k8, .ref k9, .ref k10, .ref k11, .ref k12, .ref k13, .ref k14, .ref k15, .ref k16, .ref k17, .ref k18, .ref k19, .ref k20, .ref k21, .ref k22, .ref k23, .ref k24, .ref k25])), (k6, .inl (cI, 96, .inl (fl 4 P))), (k7, .inl (cI, 24, .inl (P 4))), (k8, .inl (cZ, 24, .inl (P 5))), (k9, .inl (cI, 5, .inl (G 0))), (k10, .inl (cI, 5, .inl (G 1))), (k11, .inl (cI, 5, .inl (G 2))), (k12, .inl (cI, 5, .inl (G 3))), (k13, .inl (cI, 5, .inl (G 4))), (k14, .inl (cI, 5, .inl (mc))), (k15, .inl (cZ, 5, .inl (G 5))), (k16, .inl (cI, 200, .inl (N 0))), (k17, .inl (cI, 200, .inl (N 1))), (k18, .inl (cI, 200, .inl (N 2))), (k19, .inl (cI, 200, .inl (N 3))), (k20, .inl (cI, 200, .inl (N 4))), (k21, .inl (cI, 20, .inl (B 0))), (k22, .inl (cI, 20, .inl (B 1))), (k23, .inl (cI, 20, .inl (B 2))), (k24, .inl (cI, 20, .inl (B 3))), (k25, .inl (cI, 1200, .inl (upd (upd (upd (upd (upd (fl 6 E) (ne * 6 + 0) w) (ne * 6 + 1) h) (ne * 6 + 2) nm) (ne * 6 + 3) a) (ne * 6 + 4) b)))] := hD
  refine lv_aload_n hx hb dX5_writes_59 rfl (lv_at hl 1 rfl) ?_
  refine va_get (D := D) (ci := 5) (v := .ref k25) (C := RX5) (T := TX5) (N := 26) hx hb hts hin5 hown hK hP 0 rfl rfl 25 (by decide) hf68 (fun _ h9 => h9) rfl dX5_writes_60 ?_
  refine lv_iload hx hb dX5_writes_63 (lv_at hl 0 rfl) ?_
  refine lv_iconst (v := 5) hx hb dX5_writes_65 (by decide) ?_
  refine lv_iadd hx hb dX5_writes_66 ?_
  refine lv_aload_n hx hb dX5_writes_67 rfl (lv_at hl 1 rfl) ?_
  refine va_get (D := D) (ci := 5) (v := .int td) (C := RX5) (T := TX5) (N := 26) hx hb hts hin5 hown hK hP 0 rfl rfl 2 (by decide) hf94 (fun _ h9 => h9) rfl dX5_writes_68 ?_
  refine va_iastN (D := D) (cl := vwCl) (cA := cI) (f := upd (upd (upd (upd (upd (fl 6 E) (ne * 6 + 0) w) (ne * 6 + 1) h) (ne * 6 + 2) nm) (ne * 6 + 3) a) (ne * 6 + 4) b) (x := td) hx hb hK hP hD hS 20 0 rfl rfl (ne * 6 + 5) (ixI 6 ne 5) (by omega) (by first | decide | assumption) dX5_writes_71 (fun H locs hP hD hS => ?_)
  have hP : va_P D vwCl [(o5, .inr (5, [.int (nI np), .int (nI nh), .int td, .int (nI nn), .int (nI nb), .int (nI ne), .ref k6, .ref k7, .ref k8, .ref k9, .ref k10, .ref k11, .ref k12, .ref k13, .ref k14, .ref k15, .ref k16, .ref k17, .ref k18, .ref k19, .ref k20, .ref k21, .ref k22, .ref k23, .ref k24, .ref k25])), (k6, .inl (cI, 96, .inl (fl 4 P))), (k7, .inl (cI, 24, .inl (P 4))), (k8, .inl (cZ, 24, .inl (P 5))), (k9, .inl (cI, 5, .inl (G 0))), (k10, .inl (cI, 5, .inl (G 1))), (k11, .inl (cI, 5, .inl (G 2))), (k12, .inl (cI, 5, .inl (G 3))), (k13, .inl (cI, 5, .inl (G 4))), (k14, .inl (cI, 5, .inl (mc))), (k15, .inl (cZ, 5, .inl (G 5))), (k16, .inl (cI, 200, .inl (N 0))), (k17, .inl (cI, 200, .inl (N 1))), (k18, .inl (cI, 200, .inl (N 2))), (k19, .inl (cI, 200, .inl (N 3))), (k20, .inl (cI, 200, .inl (N 4))), (k21, .inl (cI, 20, .inl (B 0))), (k22, .inl (cI, 20, .inl (B 1))), (k23, .inl (cI, 20, .inl (B 2))), (k24, .inl (cI, 20, .inl (B 3))), (k25, .inl (cI, 1200, .inl (upd (upd (upd (upd (upd (upd (fl 6 E) (ne * 6 + 0) w) (ne * 6 + 1) h) (ne * 6 + 2) nm) (ne * 6 + 3) a) (ne * 6 + 4) b) (ne * 6 + 5) td)))] H := hP
  have hD : va_D (adr _) [(o5, .inr (5, [.int (nI np), .int (nI nh), .int td, .int (nI nn), .int (nI nb), .int (nI ne), .ref k6, .ref k7, .ref k8, .ref k9, .ref k10, .ref k11, .ref k12, .ref k13, .ref k14, .ref k15, .ref k16, .ref k17, .ref k18, .ref k19, .ref k20, .ref k21, .ref k22, .ref k23, .ref k24, .ref k25])), (k6, .inl (cI, 96, .inl (fl 4 P))), (k7, .inl (cI, 24, .inl (P 4))), (k8, .inl (cZ, 24, .inl (P 5))), (k9, .inl (cI, 5, .inl (G 0))), (k10, .inl (cI, 5, .inl (G 1))), (k11, .inl (cI, 5, .inl (G 2))), (k12, .inl (cI, 5, .inl (G 3))), (k13, .inl (cI, 5, .inl (G 4))), (k14, .inl (cI, 5, .inl (mc))), (k15, .inl (cZ, 5, .inl (G 5))), (k16, .inl (cI, 200, .inl (N 0))), (k17, .inl (cI, 200, .inl (N 1))), (k18, .inl (cI, 200, .inl (N 2))), (k19, .inl (cI, 200, .inl (N 3))), (k20, .inl (cI, 200, .inl (N 4))), (k21, .inl (cI, 20, .inl (B 0))), (k22, .inl (cI, 20, .inl (B 1))), (k23, .inl (cI, 20, .inl (B 2))), (k24, .inl (cI, 20, .inl (B 3))), (k25, .inl (cI, 1200, .inl (upd (upd (upd (upd (upd (upd (fl 6 E) (ne * 6 + 0) w) (ne * 6 + 1) h) (ne * 6 + 2) nm) (ne * 6 + 3) a) (ne * 6 + 4) b) (ne * 6 + 5) td)))] := hD
  refine lv_aload_n hx hb dX5_writes_72 rfl (lv_at hl 1 rfl) ?_
  refine lv_aload_n hx hb dX5_writes_73 rfl (lv_at hl 1 rfl) ?_
  refine va_get (D := D) (ci := 5) (v := .int (nI ne)) (C := RX5) (T := TX5) (N := 26) hx hb hts hin5 hown hK hP 0 rfl rfl 5 (by decide) hf126 (fun _ h9 => h9) rfl dX5_writes_74 ?_
  refine lv_iconst (v := 1) hx hb dX5_writes_77 (by decide) ?_
  refine lv_iadd hx hb dX5_writes_78 ?_
  refine va_put (D := D) (ci := 5) (v := .int (((nI ne) + 1))) (ty := .int) (C := RX5) (T := TX5) (N := 26) hx hb hts hin5 tyX5 tyX5_ok nmX5 hown hK hP hD hS 0 rfl rfl 5 (by decide) hf126 (fun _ h9 => h9) rfl (by decide +kernel) rfl rfl (Nat.le_of_ble_eq_true rfl) dX5_writes_79 (fun H locs hP hD hS => ?_)
  have hP : va_P D vwCl [(o5, .inr (5, [.int (nI np), .int (nI nh), .int td, .int (nI nn), .int (nI nb), .int (((nI ne) + 1)), .ref k6, .ref k7, .ref k8, .ref k9, .ref k10, .ref k11, .ref k12, .ref k13, .ref k14, .ref k15, .ref k16, .ref k17, .ref k18, .ref k19, .ref k20, .ref k21, .ref k22, .ref k23, .ref k24, .ref k25])), (k6, .inl (cI, 96, .inl (fl 4 P))), (k7, .inl (cI, 24, .inl (P 4))), (k8, .inl (cZ, 24, .inl (P 5))), (k9, .inl (cI, 5, .inl (G 0))), (k10, .inl (cI, 5, .inl (G 1))), (k11, .inl (cI, 5, .inl (G 2))), (k12, .inl (cI, 5, .inl (G 3))), (k13, .inl (cI, 5, .inl (G 4))), (k14, .inl (cI, 5, .inl (mc))), (k15, .inl (cZ, 5, .inl (G 5))), (k16, .inl (cI, 200, .inl (N 0))), (k17, .inl (cI, 200, .inl (N 1))), (k18, .inl (cI, 200, .inl (N 2))), (k19, .inl (cI, 200, .inl (N 3))), (k20, .inl (cI, 200, .inl (N 4))), (k21, .inl (cI, 20, .inl (B 0))), (k22, .inl (cI, 20, .inl (B 1))), (k23, .inl (cI, 20, .inl (B 2))), (k24, .inl (cI, 20, .inl (B 3))), (k25, .inl (cI, 1200, .inl (upd (upd (upd (upd (upd (upd (fl 6 E) (ne * 6 + 0) w) (ne * 6 + 1) h) (ne * 6 + 2) nm) (ne * 6 + 3) a) (ne * 6 + 4) b) (ne * 6 + 5) td)))] H := hP
  have hD : va_D (adr _) [(o5, .inr (5, [.int (nI np), .int (nI nh), .int td, .int (nI nn), .int (nI nb), .int (((nI ne) + 1)), .ref k6, .ref k7, .ref k8, .ref k9, .ref k10, .ref k11, .ref k12, .ref k13, .ref k14, .ref k15, .ref k16, .ref k17, .ref k18, .ref k19, .ref k20, .ref k21, .ref k22, .ref k23, .ref k24, .ref k25])), (k6, .inl (cI, 96, .inl (fl 4 P))), (k7, .inl (cI, 24, .inl (P 4))), (k8, .inl (cZ, 24, .inl (P 5))), (k9, .inl (cI, 5, .inl (G 0))), (k10, .inl (cI, 5, .inl (G 1))), (k11, .inl (cI, 5, .inl (G 2))), (k12, .inl (cI, 5, .inl (G 3))), (k13, .inl (cI, 5, .inl (G 4))), (k14, .inl (cI, 5, .inl (mc))), (k15, .inl (cZ, 5, .inl (G 5))), (k16, .inl (cI, 200, .inl (N 0))), (k17, .inl (cI, 200, .inl (N 1))), (k18, .inl (cI, 200, .inl (N 2))), (k19, .inl (cI, 200, .inl (N 3))), (k20, .inl (cI, 200, .inl (N 4))), (k21, .inl (cI, 20, .inl (B 0))), (k22, .inl (cI, 20, .inl (B 1))), (k23, .inl (cI, 20, .inl (B 2))), (k24, .inl (cI, 20, .inl (B 3))), (k25, .inl (cI, 1200, .inl (upd (upd (upd (upd (upd (upd (fl 6 E) (ne * 6 + 0) w) (ne * 6 + 1) h) (ne * 6 + 2) nm) (ne * 6 + 3) a) (ne * 6 + 4) b) (ne * 6 + 5) td)))] := hD
  refine mu_vret hx hb hr hlocks hS dX5_writes_82 ?_
  have q0 : (nI (adn 200 ne)) = (((nI ne) + 1)) := by rw [adn_more hne, nI_succ]
  have q1 : (fl 6 (eaddT ne E w h nm a b td)) = (upd (upd (upd (upd (upd (upd (fl 6 E) (ne * 6 + 0) w) (ne * 6 + 1) h) (ne * 6 + 2) nm) (ne * 6 + 3) a) (ne * 6 + 4) b) (ne * 6 + 5) td) := by rw [eadd_fl hne]
  rw [q0, q1]
  exact hP
set_option maxHeartbeats 4000000 in
set_option maxRecDepth 100000 in
theorem kX5_bridge (l : Launch) (D : va_G) (cI cZ : ClassId) (o5 k6 k7 k8 k9 k10 k11 k12 k13 k14 k15 k16 k17 k18 k19 k20 k21 k22 k23 k24 k25 np nh nn nb ne : Nat) (td : Int32) (P G N B E : Nat → Nat → Int32) (mc : Nat → Int32) (h : Int32) (g : Int32) (a : Int32) (b : Int32) (hnb : nb ≤ 20) : Met l yX5_bridge wsX5_bridge ({ frames := 1, cells := 0, slots := 0, locals := 21 } : Room) (MuP D [(cI, .int), (cZ, .boolean)] [.ref o5, .int h, .int g, .int a, .int b] [(o5, .inr (5, [.int (nI np), .int (nI nh), .int td, .int (nI nn), .int (nI nb), .int (nI ne), .ref k6, .ref k7, .ref k8, .ref k9, .ref k10, .ref k11, .ref k12, .ref k13, .ref k14, .ref k15, .ref k16, .ref k17, .ref k18, .ref k19, .ref k20, .ref k21, .ref k22, .ref k23, .ref k24, .ref k25])), (k6, .inl (cI, 96, .inl (fl 4 P))), (k7, .inl (cI, 24, .inl (P 4))), (k8, .inl (cZ, 24, .inl (P 5))), (k9, .inl (cI, 5, .inl (G 0))), (k10, .inl (cI, 5, .inl (G 1))), (k11, .inl (cI, 5, .inl (G 2))), (k12, .inl (cI, 5, .inl (G 3))), (k13, .inl (cI, 5, .inl (G 4))), (k14, .inl (cI, 5, .inl (mc))), (k15, .inl (cZ, 5, .inl (G 5))), (k16, .inl (cI, 200, .inl (N 0))), (k17, .inl (cI, 200, .inl (N 1))), (k18, .inl (cI, 200, .inl (N 2))), (k19, .inl (cI, 200, .inl (N 3))), (k20, .inl (cI, 200, .inl (N 4))), (k21, .inl (cI, 20, .inl (B 0))), (k22, .inl (cI, 20, .inl (B 1))), (k23, .inl (cI, 20, .inl (B 2))), (k24, .inl (cI, 20, .inl (B 3))), (k25, .inl (cI, 1200, .inl (fl 6 E)))]) (QM D (some (.int (bI (okBr nh nb h g a b)))) [(o5, .inr (5, [.int (nI np), .int (nI nh), .int td, .int (nI nn), .int (nI nb), .int (nI ne), .ref k6, .ref k7, .ref k8, .ref k9, .ref k10, .ref k11, .ref k12, .ref k13, .ref k14, .ref k15, .ref k16, .ref k17, .ref k18, .ref k19, .ref k20, .ref k21, .ref k22, .ref k23, .ref k24, .ref k25])), (k6, .inl (cI, 96, .inl (fl 4 P))), (k7, .inl (cI, 24, .inl (P 4))), (k8, .inl (cZ, 24, .inl (P 5))), (k9, .inl (cI, 5, .inl (G 0))), (k10, .inl (cI, 5, .inl (G 1))), (k11, .inl (cI, 5, .inl (G 2))), (k12, .inl (cI, 5, .inl (G 3))), (k13, .inl (cI, 5, .inl (G 4))), (k14, .inl (cI, 5, .inl (mc))), (k15, .inl (cZ, 5, .inl (G 5))), (k16, .inl (cI, 200, .inl (N 0))), (k17, .inl (cI, 200, .inl (N 1))), (k18, .inl (cI, 200, .inl (N 2))), (k19, .inl (cI, 200, .inl (N 3))), (k20, .inl (cI, 200, .inl (N 4))), (k21, .inl (cI, 20, .inl (B 0))), (k22, .inl (cI, 20, .inl (B 1))), (k23, .inl (cI, 20, .inl (B 2))), (k24, .inl (cI, 20, .inl (B 3))), (k25, .inl (cI, 1200, .inl (fl 6 E)))] [(o5, .inr (5, [.int (nI np), .int (nI nh), .int td, .int (nI nn), .int (nI (if okBr nh nb h g a b = true then adn 20 nb else nb)), .int (nI ne), .ref k6, .ref k7, .ref k8, .ref k9, .ref k10, .ref k11, .ref k12, .ref k13, .ref k14, .ref k15, .ref k16, .ref k17, .ref k18, .ref k19, .ref k20, .ref k21, .ref k22, .ref k23, .ref k24, .ref k25])), (k6, .inl (cI, 96, .inl (fl 4 P))), (k7, .inl (cI, 24, .inl (P 4))), (k8, .inl (cZ, 24, .inl (P 5))), (k9, .inl (cI, 5, .inl (G 0))), (k10, .inl (cI, 5, .inl (G 1))), (k11, .inl (cI, 5, .inl (G 2))), (k12, .inl (cI, 5, .inl (G 3))), (k13, .inl (cI, 5, .inl (G 4))), (k14, .inl (cI, 5, .inl (mc))), (k15, .inl (cZ, 5, .inl (G 5))), (k16, .inl (cI, 200, .inl (N 0))), (k17, .inl (cI, 200, .inl (N 1))), (k18, .inl (cI, 200, .inl (N 2))), (k19, .inl (cI, 200, .inl (N 3))), (k20, .inl (cI, 200, .inl (N 4))), (k21, .inl (cI, 20, .inl ((if okBr nh nb h g a b = true then baddT nb B h g a b else B) 0))), (k22, .inl (cI, 20, .inl ((if okBr nh nb h g a b = true then baddT nb B h g a b else B) 1))), (k23, .inl (cI, 20, .inl ((if okBr nh nb h g a b = true then baddT nb B h g a b else B) 2))), (k24, .inl (cI, 20, .inl ((if okBr nh nb h g a b = true then baddT nb B h g a b else B) 3))), (k25, .inl (cI, 1200, .inl (fl 6 E)))]) 0 0 (adr [(o5, .inr (5, [.int (nI np), .int (nI nh), .int td, .int (nI nn), .int (nI nb), .int (nI ne), .ref k6, .ref k7, .ref k8, .ref k9, .ref k10, .ref k11, .ref k12, .ref k13, .ref k14, .ref k15, .ref k16, .ref k17, .ref k18, .ref k19, .ref k20, .ref k21, .ref k22, .ref k23, .ref k24, .ref k25])), (k6, .inl (cI, 96, .inl (fl 4 P))), (k7, .inl (cI, 24, .inl (P 4))), (k8, .inl (cZ, 24, .inl (P 5))), (k9, .inl (cI, 5, .inl (G 0))), (k10, .inl (cI, 5, .inl (G 1))), (k11, .inl (cI, 5, .inl (G 2))), (k12, .inl (cI, 5, .inl (G 3))), (k13, .inl (cI, 5, .inl (G 4))), (k14, .inl (cI, 5, .inl (mc))), (k15, .inl (cZ, 5, .inl (G 5))), (k16, .inl (cI, 200, .inl (N 0))), (k17, .inl (cI, 200, .inl (N 1))), (k18, .inl (cI, 200, .inl (N 2))), (k19, .inl (cI, 200, .inl (N 3))), (k20, .inl (cI, 200, .inl (N 4))), (k21, .inl (cI, 20, .inl (B 0))), (k22, .inl (cI, 20, .inl (B 1))), (k23, .inl (cI, 20, .inl (B 2))), (k24, .inl (cI, 20, .inl (B 3))), (k25, .inl (cI, 1200, .inl (fl 6 E)))]) := by
  refine mu_of (cc := cX5_bridge) (maxL := 5) (ret := (some .boolean)) (by decide) rfl (Nat.le_of_ble_eq_true rfl) ?_
  intro pp ee ss mm bw me cd ls hx hb hr hts hown hlocks hml hK hl H locs hP hD hS
  have hl : lv_has ls 5 [(0, .ref o5), (1, .int h), (2, .int g), (3, .int a), (4, .int b)] := hl
  have hf120 := hts (.fieldLink RX5 120 "OtherNamesModel" "bridges" "I") (by decide +kernel)
  have hin5 := (show ∀ w ∈ wsX50, w ∈ wsX5_bridge by decide +kernel)
  have hf56 := hts (.fieldLink RX5 56 "OtherNamesModel" "bridgeFrom" "[I") (by decide +kernel)
  have hf59 := hts (.fieldLink RX5 59 "OtherNamesModel" "bridgeTo" "[I") (by decide +kernel)
  have hf62 := hts (.fieldLink RX5 62 "OtherNamesModel" "bridgeFirst" "[I") (by decide +kernel)
  have hf65 := hts (.fieldLink RX5 65 "OtherNamesModel" "bridgeLast" "[I") (by decide +kernel)
  have h0 : (0 : Int32).toInt = 0 := by decide
  have h3 : (3000 : Int32).toInt = 3000 := by decide
  refine lv_aload_n hx hb dX5_bridge_0 rfl (lv_at hl 0 rfl) ?_
  refine lv_iload_n hx hb dX5_bridge_1 rfl (lv_at hl 1 rfl) ?_
  refine rcV (As := [.int h]) (rest := []) (ci := 5) ⟨hx, hb, hml, hown, hts⟩ (kX5_isHouse l D cI cZ o5 k6 k7 k8 k9 k10 k11 k12 k13 k14 k15 k16 k17 k18 k19 k20 k21 k22 k23 k24 k25 np nh nn nb ne td P G N B E mc h) (cwV 1 hts gX5_bridge_X5_isHouse rfl rfl rfl (by decide +kernel) ⟨Nat.le_of_ble_eq_true rfl, Nat.le_of_ble_eq_true rfl⟩) hK hP [0, 1, 2, 3, 4, 5, 6, 7, 8, 9, 10, 11, 12, 13, 14, 15, 16, 17, 18, 19, 20] rfl rfl rfl rfl rfl hl.1 rfl (Nat.le_of_ble_eq_true rfl) ⟨Nat.zero_le _, Nat.zero_le _⟩ dX5_bridge_2 ?_
  refine lb_eq (tgt := 48) hx hb dX5_bridge_5 (by decide) (fun c_5 => ?_) (fun c_5 => ?_)
  · skip
    refine lv_iconst (v := 0) hx hb dX5_bridge_48 (by decide) ?_
    refine mu_zret hx hb hr hlocks hS dX5_bridge_49 ?_ ?_
    · rw [show okBr nh nb h g a b = false by rw [← Bool.not_eq_true]; simp [okBr, twoH, c_5]]; rfl
    have q0 : (nI (if okBr nh nb h g a b = true then adn 20 nb else nb)) = (nI nb) := by rw [if_neg (by simp [okBr, twoH, c_5])]
    have q1 : ((if okBr nh nb h g a b = true then baddT nb B h g a b else B) 0) = (B 0) := by rw [if_neg (by simp [okBr, twoH, c_5])]
    have q2 : ((if okBr nh nb h g a b = true then baddT nb B h g a b else B) 1) = (B 1) := by rw [if_neg (by simp [okBr, twoH, c_5])]
    have q3 : ((if okBr nh nb h g a b = true then baddT nb B h g a b else B) 2) = (B 2) := by rw [if_neg (by simp [okBr, twoH, c_5])]
    have q4 : ((if okBr nh nb h g a b = true then baddT nb B h g a b else B) 3) = (B 3) := by rw [if_neg (by simp [okBr, twoH, c_5])]
    rw [q0, q1, q2, q3, q4]
    exact hP
  · skip
    refine lv_aload_n hx hb dX5_bridge_8 rfl (lv_at hl 0 rfl) ?_
    refine lv_iload_n hx hb dX5_bridge_9 rfl (lv_at hl 2 rfl) ?_
    refine rcV (As := [.int g]) (rest := []) (ci := 5) ⟨hx, hb, hml, hown, hts⟩ (kX5_isHouse l D cI cZ o5 k6 k7 k8 k9 k10 k11 k12 k13 k14 k15 k16 k17 k18 k19 k20 k21 k22 k23 k24 k25 np nh nn nb ne td P G N B E mc g) (cwV 1 hts gX5_bridge_X5_isHouse rfl rfl rfl (by decide +kernel) ⟨Nat.le_of_ble_eq_true rfl, Nat.le_of_ble_eq_true rfl⟩) hK hP [0, 1, 2, 3, 4, 5, 6, 7, 8, 9, 10, 11, 12, 13, 14, 15, 16, 17, 18, 19, 20] rfl rfl rfl rfl rfl hl.1 rfl (Nat.le_of_ble_eq_true rfl) ⟨Nat.zero_le _, Nat.zero_le _⟩ dX5_bridge_10 ?_
    refine lb_eq (tgt := 48) hx hb dX5_bridge_13 (by decide) (fun c_13 => ?_) (fun c_13 => ?_)
    · skip
      refine lv_iconst (v := 0) hx hb dX5_bridge_48 (by decide) ?_
      refine mu_zret hx hb hr hlocks hS dX5_bridge_49 ?_ ?_
      · rw [show okBr nh nb h g a b = false by rw [← Bool.not_eq_true]; simp [okBr, twoH, c_5, c_13]]; rfl
      have q0 : (nI (if okBr nh nb h g a b = true then adn 20 nb else nb)) = (nI nb) := by rw [if_neg (by simp [okBr, twoH, c_5, c_13])]
      have q1 : ((if okBr nh nb h g a b = true then baddT nb B h g a b else B) 0) = (B 0) := by rw [if_neg (by simp [okBr, twoH, c_5, c_13])]
      have q2 : ((if okBr nh nb h g a b = true then baddT nb B h g a b else B) 1) = (B 1) := by rw [if_neg (by simp [okBr, twoH, c_5, c_13])]
      have q3 : ((if okBr nh nb h g a b = true then baddT nb B h g a b else B) 2) = (B 2) := by rw [if_neg (by simp [okBr, twoH, c_5, c_13])]
      have q4 : ((if okBr nh nb h g a b = true then baddT nb B h g a b else B) 3) = (B 3) := by rw [if_neg (by simp [okBr, twoH, c_5, c_13])]
      rw [q0, q1, q2, q3, q4]
      exact hP
    · skip
      refine lv_iload_n hx hb dX5_bridge_16 rfl (lv_at hl 1 rfl) ?_
      refine lv_iload_n hx hb dX5_bridge_17 rfl (lv_at hl 2 rfl) ?_
      refine lv_icmp_eq (tgt := 48) hx hb dX5_bridge_18 (by decide) (fun c_18 => ?_) (fun c_18 => ?_)
      · skip
        refine lv_iconst (v := 0) hx hb dX5_bridge_48 (by decide) ?_
        refine mu_zret hx hb hr hlocks hS dX5_bridge_49 ?_ ?_
        · rw [show okBr nh nb h g a b = false by rw [← Bool.not_eq_true]; simp [okBr, twoH, c_5, c_13, c_18]]; rfl
        have q0 : (nI (if okBr nh nb h g a b = true then adn 20 nb else nb)) = (nI nb) := by rw [if_neg (by simp [okBr, twoH, c_5, c_13, c_18])]
        have q1 : ((if okBr nh nb h g a b = true then baddT nb B h g a b else B) 0) = (B 0) := by rw [if_neg (by simp [okBr, twoH, c_5, c_13, c_18])]
        have q2 : ((if okBr nh nb h g a b = true then baddT nb B h g a b else B) 1) = (B 1) := by rw [if_neg (by simp [okBr, twoH, c_5, c_13, c_18])]
        have q3 : ((if okBr nh nb h g a b = true then baddT nb B h g a b else B) 2) = (B 2) := by rw [if_neg (by simp [okBr, twoH, c_5, c_13, c_18])]
        have q4 : ((if okBr nh nb h g a b = true then baddT nb B h g a b else B) 3) = (B 3) := by rw [if_neg (by simp [okBr, twoH, c_5, c_13, c_18])]
        rw [q0, q1, q2, q3, q4]
        exact hP
      · skip
        refine lv_iload_n hx hb dX5_bridge_21 rfl (lv_at hl 3 rfl) ?_
        refine lv_if_lt (tgt := 48) hx hb dX5_bridge_22 (by decide) (fun c_22 => ?_) (fun c_22 => ?_)
        · skip
          refine lv_iconst (v := 0) hx hb dX5_bridge_48 (by decide) ?_
          refine mu_zret hx hb hr hlocks hS dX5_bridge_49 ?_ ?_
          · rw [show okBr nh nb h g a b = false by rw [← Bool.not_eq_true]; have hbr := okBr_iff (nh := nh) (nb := nb) (h := h) (g := g) (a := a) (b := b); rw [hbr]; simp only [fa_lt, h0, h3] at c_22; simp [twoH, c_5, c_13, c_18]; omega]; rfl
          have q0 : (nI (if okBr nh nb h g a b = true then adn 20 nb else nb)) = (nI nb) := by rw [if_neg (by have hbr := okBr_iff (nh := nh) (nb := nb) (h := h) (g := g) (a := a) (b := b); rw [hbr]; simp only [fa_lt, h0, h3] at c_22; simp [twoH, c_5, c_13, c_18]; omega)]
          have q1 : ((if okBr nh nb h g a b = true then baddT nb B h g a b else B) 0) = (B 0) := by rw [if_neg (by have hbr := okBr_iff (nh := nh) (nb := nb) (h := h) (g := g) (a := a) (b := b); rw [hbr]; simp only [fa_lt, h0, h3] at c_22; simp [twoH, c_5, c_13, c_18]; omega)]
          have q2 : ((if okBr nh nb h g a b = true then baddT nb B h g a b else B) 1) = (B 1) := by rw [if_neg (by have hbr := okBr_iff (nh := nh) (nb := nb) (h := h) (g := g) (a := a) (b := b); rw [hbr]; simp only [fa_lt, h0, h3] at c_22; simp [twoH, c_5, c_13, c_18]; omega)]
          have q3 : ((if okBr nh nb h g a b = true then baddT nb B h g a b else B) 2) = (B 2) := by rw [if_neg (by have hbr := okBr_iff (nh := nh) (nb := nb) (h := h) (g := g) (a := a) (b := b); rw [hbr]; simp only [fa_lt, h0, h3] at c_22; simp [twoH, c_5, c_13, c_18]; omega)]
          have q4 : ((if okBr nh nb h g a b = true then baddT nb B h g a b else B) 3) = (B 3) := by rw [if_neg (by have hbr := okBr_iff (nh := nh) (nb := nb) (h := h) (g := g) (a := a) (b := b); rw [hbr]; simp only [fa_lt, h0, h3] at c_22; simp [twoH, c_5, c_13, c_18]; omega)]
          rw [q0, q1, q2, q3, q4]
          exact hP
        · skip
          refine lv_iload_n hx hb dX5_bridge_25 rfl (lv_at hl 3 rfl) ?_
          refine lv_iload hx hb dX5_bridge_26 (lv_at hl 4 rfl) ?_
          refine lv_icmp_gt (tgt := 48) hx hb dX5_bridge_28 (by decide) (fun c_28 => ?_) (fun c_28 => ?_)
          · skip
            refine lv_iconst (v := 0) hx hb dX5_bridge_48 (by decide) ?_
            refine mu_zret hx hb hr hlocks hS dX5_bridge_49 ?_ ?_
            · rw [show okBr nh nb h g a b = false by rw [← Bool.not_eq_true]; have hbr := okBr_iff (nh := nh) (nb := nb) (h := h) (g := g) (a := a) (b := b); rw [hbr]; simp only [fa_lt, h0, h3] at c_22 c_28; simp [twoH, c_5, c_13, c_18]; omega]; rfl
            have q0 : (nI (if okBr nh nb h g a b = true then adn 20 nb else nb)) = (nI nb) := by rw [if_neg (by have hbr := okBr_iff (nh := nh) (nb := nb) (h := h) (g := g) (a := a) (b := b); rw [hbr]; simp only [fa_lt, h0, h3] at c_22 c_28; simp [twoH, c_5, c_13, c_18]; omega)]
            have q1 : ((if okBr nh nb h g a b = true then baddT nb B h g a b else B) 0) = (B 0) := by rw [if_neg (by have hbr := okBr_iff (nh := nh) (nb := nb) (h := h) (g := g) (a := a) (b := b); rw [hbr]; simp only [fa_lt, h0, h3] at c_22 c_28; simp [twoH, c_5, c_13, c_18]; omega)]
            have q2 : ((if okBr nh nb h g a b = true then baddT nb B h g a b else B) 1) = (B 1) := by rw [if_neg (by have hbr := okBr_iff (nh := nh) (nb := nb) (h := h) (g := g) (a := a) (b := b); rw [hbr]; simp only [fa_lt, h0, h3] at c_22 c_28; simp [twoH, c_5, c_13, c_18]; omega)]
            have q3 : ((if okBr nh nb h g a b = true then baddT nb B h g a b else B) 2) = (B 2) := by rw [if_neg (by have hbr := okBr_iff (nh := nh) (nb := nb) (h := h) (g := g) (a := a) (b := b); rw [hbr]; simp only [fa_lt, h0, h3] at c_22 c_28; simp [twoH, c_5, c_13, c_18]; omega)]
            have q4 : ((if okBr nh nb h g a b = true then baddT nb B h g a b else B) 3) = (B 3) := by rw [if_neg (by have hbr := okBr_iff (nh := nh) (nb := nb) (h := h) (g := g) (a := a) (b := b); rw [hbr]; simp only [fa_lt, h0, h3] at c_22 c_28; simp [twoH, c_5, c_13, c_18]; omega)]
            rw [q0, q1, q2, q3, q4]
            exact hP
          · skip
            refine lv_iload hx hb dX5_bridge_31 (lv_at hl 4 rfl) ?_
            refine lv_sipush (v := 3000) hx hb dX5_bridge_33 (by decide) ?_
            refine lv_icmp_gt (tgt := 48) hx hb dX5_bridge_36 (by decide) (fun c_36 => ?_) (fun c_36 => ?_)
            · skip
              refine lv_iconst (v := 0) hx hb dX5_bridge_48 (by decide) ?_
              refine mu_zret hx hb hr hlocks hS dX5_bridge_49 ?_ ?_
              · rw [show okBr nh nb h g a b = false by rw [← Bool.not_eq_true]; have hbr := okBr_iff (nh := nh) (nb := nb) (h := h) (g := g) (a := a) (b := b); rw [hbr]; simp only [fa_lt, h0, h3] at c_22 c_28 c_36; simp [twoH, c_5, c_13, c_18]; omega]; rfl
              have q0 : (nI (if okBr nh nb h g a b = true then adn 20 nb else nb)) = (nI nb) := by rw [if_neg (by have hbr := okBr_iff (nh := nh) (nb := nb) (h := h) (g := g) (a := a) (b := b); rw [hbr]; simp only [fa_lt, h0, h3] at c_22 c_28 c_36; simp [twoH, c_5, c_13, c_18]; omega)]
              have q1 : ((if okBr nh nb h g a b = true then baddT nb B h g a b else B) 0) = (B 0) := by rw [if_neg (by have hbr := okBr_iff (nh := nh) (nb := nb) (h := h) (g := g) (a := a) (b := b); rw [hbr]; simp only [fa_lt, h0, h3] at c_22 c_28 c_36; simp [twoH, c_5, c_13, c_18]; omega)]
              have q2 : ((if okBr nh nb h g a b = true then baddT nb B h g a b else B) 1) = (B 1) := by rw [if_neg (by have hbr := okBr_iff (nh := nh) (nb := nb) (h := h) (g := g) (a := a) (b := b); rw [hbr]; simp only [fa_lt, h0, h3] at c_22 c_28 c_36; simp [twoH, c_5, c_13, c_18]; omega)]
              have q3 : ((if okBr nh nb h g a b = true then baddT nb B h g a b else B) 2) = (B 2) := by rw [if_neg (by have hbr := okBr_iff (nh := nh) (nb := nb) (h := h) (g := g) (a := a) (b := b); rw [hbr]; simp only [fa_lt, h0, h3] at c_22 c_28 c_36; simp [twoH, c_5, c_13, c_18]; omega)]
              have q4 : ((if okBr nh nb h g a b = true then baddT nb B h g a b else B) 3) = (B 3) := by rw [if_neg (by have hbr := okBr_iff (nh := nh) (nb := nb) (h := h) (g := g) (a := a) (b := b); rw [hbr]; simp only [fa_lt, h0, h3] at c_22 c_28 c_36; simp [twoH, c_5, c_13, c_18]; omega)]
              rw [q0, q1, q2, q3, q4]
              exact hP
            · skip
              refine lv_aload_n hx hb dX5_bridge_39 rfl (lv_at hl 0 rfl) ?_
              refine va_get (D := D) (ci := 5) (v := .int (nI nb)) (C := RX5) (T := TX5) (N := 26) hx hb hts hin5 hown hK hP 0 rfl rfl 4 (by decide) hf120 (fun _ h9 => h9) rfl dX5_bridge_40 ?_
              refine lv_bipush (v := 20) hx hb dX5_bridge_43 (by decide) ?_
              refine lv_icmp_ne (tgt := 50) hx hb dX5_bridge_45 (by decide) (fun c_45 => ?_) (fun c_45 => ?_)
              · skip
                have hlt : nb < 20 := Nat.lt_of_le_of_ne hnb (nI_neq (N := 20) c_45 rfl)
                refine lv_aload_n hx hb dX5_bridge_50 rfl (lv_at hl 0 rfl) ?_
                refine va_get (D := D) (ci := 5) (v := .ref k21) (C := RX5) (T := TX5) (N := 26) hx hb hts hin5 hown hK hP 0 rfl rfl 21 (by decide) hf56 (fun _ h9 => h9) rfl dX5_bridge_51 ?_
                refine lv_aload_n hx hb dX5_bridge_54 rfl (lv_at hl 0 rfl) ?_
                refine va_get (D := D) (ci := 5) (v := .int (nI nb)) (C := RX5) (T := TX5) (N := 26) hx hb hts hin5 hown hK hP 0 rfl rfl 4 (by decide) hf120 (fun _ h9 => h9) rfl dX5_bridge_55 ?_
                refine lv_iload_n hx hb dX5_bridge_58 rfl (lv_at hl 1 rfl) ?_
                refine va_iastN (D := D) (cl := vwCl) (cA := cI) (f := B 0) (x := h) hx hb hK hP hD hS 16 0 rfl rfl nb (rfl) (by omega) (by first | decide | assumption) dX5_bridge_59 (fun H locs hP hD hS => ?_)
                have hP : va_P D vwCl [(o5, .inr (5, [.int (nI np), .int (nI nh), .int td, .int (nI nn), .int (nI nb), .int (nI ne), .ref k6, .ref k7, .ref k8, .ref k9, .ref k10, .ref k11, .ref k12, .ref k13, .ref k14, .ref k15, .ref k16, .ref k17, .ref k18, .ref k19, .ref k20, .ref k21, .ref k22, .ref k23, .ref k24, .ref k25])), (k6, .inl (cI, 96, .inl (fl 4 P))), (k7, .inl (cI, 24, .inl (P 4))), (k8, .inl (cZ, 24, .inl (P 5))), (k9, .inl (cI, 5, .inl (G 0))), (k10, .inl (cI, 5, .inl (G 1))), (k11, .inl (cI, 5, .inl (G 2))), (k12, .inl (cI, 5, .inl (G 3))), (k13, .inl (cI, 5, .inl (G 4))), (k14, .inl (cI, 5, .inl (mc))), (k15, .inl (cZ, 5, .inl (G 5))), (k16, .inl (cI, 200, .inl (N 0))), (k17, .inl (cI, 200, .inl (N 1))), (k18, .inl (cI, 200, .inl (N 2))), (k19, .inl (cI, 200, .inl (N 3))), (k20, .inl (cI, 200, .inl (N 4))), (k21, .inl (cI, 20, .inl (upd (B 0) nb h))), (k22, .inl (cI, 20, .inl (B 1))), (k23, .inl (cI, 20, .inl (B 2))), (k24, .inl (cI, 20, .inl (B 3))), (k25, .inl (cI, 1200, .inl (fl 6 E)))] H := hP
                have hD : va_D (adr _) [(o5, .inr (5, [.int (nI np), .int (nI nh), .int td, .int (nI nn), .int (nI nb), .int (nI ne), .ref k6, .ref k7, .ref k8, .ref k9, .ref k10, .ref k11, .ref k12, .ref k13, .ref k14, .ref k15, .ref k16, .ref k17, .ref k18, .ref k19, .ref k20, .ref k21, .ref k22, .ref k23, .ref k24, .ref k25])), (k6, .inl (cI, 96, .inl (fl 4 P))), (k7, .inl (cI, 24, .inl (P 4))), (k8, .inl (cZ, 24, .inl (P 5))), (k9, .inl (cI, 5, .inl (G 0))), (k10, .inl (cI, 5, .inl (G 1))), (k11, .inl (cI, 5, .inl (G 2))), (k12, .inl (cI, 5, .inl (G 3))), (k13, .inl (cI, 5, .inl (G 4))), (k14, .inl (cI, 5, .inl (mc))), (k15, .inl (cZ, 5, .inl (G 5))), (k16, .inl (cI, 200, .inl (N 0))), (k17, .inl (cI, 200, .inl (N 1))), (k18, .inl (cI, 200, .inl (N 2))), (k19, .inl (cI, 200, .inl (N 3))), (k20, .inl (cI, 200, .inl (N 4))), (k21, .inl (cI, 20, .inl (upd (B 0) nb h))), (k22, .inl (cI, 20, .inl (B 1))), (k23, .inl (cI, 20, .inl (B 2))), (k24, .inl (cI, 20, .inl (B 3))), (k25, .inl (cI, 1200, .inl (fl 6 E)))] := hD
                refine lv_aload_n hx hb dX5_bridge_60 rfl (lv_at hl 0 rfl) ?_
                refine va_get (D := D) (ci := 5) (v := .ref k22) (C := RX5) (T := TX5) (N := 26) hx hb hts hin5 hown hK hP 0 rfl rfl 22 (by decide) hf59 (fun _ h9 => h9) rfl dX5_bridge_61 ?_
                refine lv_aload_n hx hb dX5_bridge_64 rfl (lv_at hl 0 rfl) ?_
                refine va_get (D := D) (ci := 5) (v := .int (nI nb)) (C := RX5) (T := TX5) (N := 26) hx hb hts hin5 hown hK hP 0 rfl rfl 4 (by decide) hf120 (fun _ h9 => h9) rfl dX5_bridge_65 ?_
                refine lv_iload_n hx hb dX5_bridge_68 rfl (lv_at hl 2 rfl) ?_
                refine va_iastN (D := D) (cl := vwCl) (cA := cI) (f := B 1) (x := g) hx hb hK hP hD hS 17 0 rfl rfl nb (rfl) (by omega) (by first | decide | assumption) dX5_bridge_69 (fun H locs hP hD hS => ?_)
                have hP : va_P D vwCl [(o5, .inr (5, [.int (nI np), .int (nI nh), .int td, .int (nI nn), .int (nI nb), .int (nI ne), .ref k6, .ref k7, .ref k8, .ref k9, .ref k10, .ref k11, .ref k12, .ref k13, .ref k14, .ref k15, .ref k16, .ref k17, .ref k18, .ref k19, .ref k20, .ref k21, .ref k22, .ref k23, .ref k24, .ref k25])), (k6, .inl (cI, 96, .inl (fl 4 P))), (k7, .inl (cI, 24, .inl (P 4))), (k8, .inl (cZ, 24, .inl (P 5))), (k9, .inl (cI, 5, .inl (G 0))), (k10, .inl (cI, 5, .inl (G 1))), (k11, .inl (cI, 5, .inl (G 2))), (k12, .inl (cI, 5, .inl (G 3))), (k13, .inl (cI, 5, .inl (G 4))), (k14, .inl (cI, 5, .inl (mc))), (k15, .inl (cZ, 5, .inl (G 5))), (k16, .inl (cI, 200, .inl (N 0))), (k17, .inl (cI, 200, .inl (N 1))), (k18, .inl (cI, 200, .inl (N 2))), (k19, .inl (cI, 200, .inl (N 3))), (k20, .inl (cI, 200, .inl (N 4))), (k21, .inl (cI, 20, .inl (upd (B 0) nb h))), (k22, .inl (cI, 20, .inl (upd (B 1) nb g))), (k23, .inl (cI, 20, .inl (B 2))), (k24, .inl (cI, 20, .inl (B 3))), (k25, .inl (cI, 1200, .inl (fl 6 E)))] H := hP
                have hD : va_D (adr _) [(o5, .inr (5, [.int (nI np), .int (nI nh), .int td, .int (nI nn), .int (nI nb), .int (nI ne), .ref k6, .ref k7, .ref k8, .ref k9, .ref k10, .ref k11, .ref k12, .ref k13, .ref k14, .ref k15, .ref k16, .ref k17, .ref k18, .ref k19, .ref k20, .ref k21, .ref k22, .ref k23, .ref k24, .ref k25])), (k6, .inl (cI, 96, .inl (fl 4 P))), (k7, .inl (cI, 24, .inl (P 4))), (k8, .inl (cZ, 24, .inl (P 5))), (k9, .inl (cI, 5, .inl (G 0))), (k10, .inl (cI, 5, .inl (G 1))), (k11, .inl (cI, 5, .inl (G 2))), (k12, .inl (cI, 5, .inl (G 3))), (k13, .inl (cI, 5, .inl (G 4))), (k14, .inl (cI, 5, .inl (mc))), (k15, .inl (cZ, 5, .inl (G 5))), (k16, .inl (cI, 200, .inl (N 0))), (k17, .inl (cI, 200, .inl (N 1))), (k18, .inl (cI, 200, .inl (N 2))), (k19, .inl (cI, 200, .inl (N 3))), (k20, .inl (cI, 200, .inl (N 4))), (k21, .inl (cI, 20, .inl (upd (B 0) nb h))), (k22, .inl (cI, 20, .inl (upd (B 1) nb g))), (k23, .inl (cI, 20, .inl (B 2))), (k24, .inl (cI, 20, .inl (B 3))), (k25, .inl (cI, 1200, .inl (fl 6 E)))] := hD
                refine lv_aload_n hx hb dX5_bridge_70 rfl (lv_at hl 0 rfl) ?_
                refine va_get (D := D) (ci := 5) (v := .ref k23) (C := RX5) (T := TX5) (N := 26) hx hb hts hin5 hown hK hP 0 rfl rfl 23 (by decide) hf62 (fun _ h9 => h9) rfl dX5_bridge_71 ?_
                refine lv_aload_n hx hb dX5_bridge_74 rfl (lv_at hl 0 rfl) ?_
                refine va_get (D := D) (ci := 5) (v := .int (nI nb)) (C := RX5) (T := TX5) (N := 26) hx hb hts hin5 hown hK hP 0 rfl rfl 4 (by decide) hf120 (fun _ h9 => h9) rfl dX5_bridge_75 ?_
                refine lv_iload_n hx hb dX5_bridge_78 rfl (lv_at hl 3 rfl) ?_
                refine va_iastN (D := D) (cl := vwCl) (cA := cI) (f := B 2) (x := a) hx hb hK hP hD hS 18 0 rfl rfl nb (rfl) (by omega) (by first | decide | assumption) dX5_bridge_79 (fun H locs hP hD hS => ?_)
                have hP : va_P D vwCl [(o5, .inr (5, [.int (nI np), .int (nI nh), .int td, .int (nI nn), .int (nI nb), .int (nI ne), .ref k6, .ref k7, .ref k8, .ref k9, .ref k10, .ref k11, .ref k12, .ref k13, .ref k14, .ref k15, .ref k16, .ref k17, .ref k18, .ref k19, .ref k20, .ref k21, .ref k22, .ref k23, .ref k24, .ref k25])), (k6, .inl (cI, 96, .inl (fl 4 P))), (k7, .inl (cI, 24, .inl (P 4))), (k8, .inl (cZ, 24, .inl (P 5))), (k9, .inl (cI, 5, .inl (G 0))), (k10, .inl (cI, 5, .inl (G 1))), (k11, .inl (cI, 5, .inl (G 2))), (k12, .inl (cI, 5, .inl (G 3))), (k13, .inl (cI, 5, .inl (G 4))), (k14, .inl (cI, 5, .inl (mc))), (k15, .inl (cZ, 5, .inl (G 5))), (k16, .inl (cI, 200, .inl (N 0))), (k17, .inl (cI, 200, .inl (N 1))), (k18, .inl (cI, 200, .inl (N 2))), (k19, .inl (cI, 200, .inl (N 3))), (k20, .inl (cI, 200, .inl (N 4))), (k21, .inl (cI, 20, .inl (upd (B 0) nb h))), (k22, .inl (cI, 20, .inl (upd (B 1) nb g))), (k23, .inl (cI, 20, .inl (upd (B 2) nb a))), (k24, .inl (cI, 20, .inl (B 3))), (k25, .inl (cI, 1200, .inl (fl 6 E)))] H := hP
                have hD : va_D (adr _) [(o5, .inr (5, [.int (nI np), .int (nI nh), .int td, .int (nI nn), .int (nI nb), .int (nI ne), .ref k6, .ref k7, .ref k8, .ref k9, .ref k10, .ref k11, .ref k12, .ref k13, .ref k14, .ref k15, .ref k16, .ref k17, .ref k18, .ref k19, .ref k20, .ref k21, .ref k22, .ref k23, .ref k24, .ref k25])), (k6, .inl (cI, 96, .inl (fl 4 P))), (k7, .inl (cI, 24, .inl (P 4))), (k8, .inl (cZ, 24, .inl (P 5))), (k9, .inl (cI, 5, .inl (G 0))), (k10, .inl (cI, 5, .inl (G 1))), (k11, .inl (cI, 5, .inl (G 2))), (k12, .inl (cI, 5, .inl (G 3))), (k13, .inl (cI, 5, .inl (G 4))), (k14, .inl (cI, 5, .inl (mc))), (k15, .inl (cZ, 5, .inl (G 5))), (k16, .inl (cI, 200, .inl (N 0))), (k17, .inl (cI, 200, .inl (N 1))), (k18, .inl (cI, 200, .inl (N 2))), (k19, .inl (cI, 200, .inl (N 3))), (k20, .inl (cI, 200, .inl (N 4))), (k21, .inl (cI, 20, .inl (upd (B 0) nb h))), (k22, .inl (cI, 20, .inl (upd (B 1) nb g))), (k23, .inl (cI, 20, .inl (upd (B 2) nb a))), (k24, .inl (cI, 20, .inl (B 3))), (k25, .inl (cI, 1200, .inl (fl 6 E)))] := hD
                refine lv_aload_n hx hb dX5_bridge_80 rfl (lv_at hl 0 rfl) ?_
                refine va_get (D := D) (ci := 5) (v := .ref k24) (C := RX5) (T := TX5) (N := 26) hx hb hts hin5 hown hK hP 0 rfl rfl 24 (by decide) hf65 (fun _ h9 => h9) rfl dX5_bridge_81 ?_
                refine lv_aload_n hx hb dX5_bridge_84 rfl (lv_at hl 0 rfl) ?_
                refine va_get (D := D) (ci := 5) (v := .int (nI nb)) (C := RX5) (T := TX5) (N := 26) hx hb hts hin5 hown hK hP 0 rfl rfl 4 (by decide) hf120 (fun _ h9 => h9) rfl dX5_bridge_85 ?_
                refine lv_iload hx hb dX5_bridge_88 (lv_at hl 4 rfl) ?_
                refine va_iastN (D := D) (cl := vwCl) (cA := cI) (f := B 3) (x := b) hx hb hK hP hD hS 19 0 rfl rfl nb (rfl) (by omega) (by first | decide | assumption) dX5_bridge_90 (fun H locs hP hD hS => ?_)
                have hP : va_P D vwCl [(o5, .inr (5, [.int (nI np), .int (nI nh), .int td, .int (nI nn), .int (nI nb), .int (nI ne), .ref k6, .ref k7, .ref k8, .ref k9, .ref k10, .ref k11, .ref k12, .ref k13, .ref k14, .ref k15, .ref k16, .ref k17, .ref k18, .ref k19, .ref k20, .ref k21, .ref k22, .ref k23, .ref k24, .ref k25])), (k6, .inl (cI, 96, .inl (fl 4 P))), (k7, .inl (cI, 24, .inl (P 4))), (k8, .inl (cZ, 24, .inl (P 5))), (k9, .inl (cI, 5, .inl (G 0))), (k10, .inl (cI, 5, .inl (G 1))), (k11, .inl (cI, 5, .inl (G 2))), (k12, .inl (cI, 5, .inl (G 3))), (k13, .inl (cI, 5, .inl (G 4))), (k14, .inl (cI, 5, .inl (mc))), (k15, .inl (cZ, 5, .inl (G 5))), (k16, .inl (cI, 200, .inl (N 0))), (k17, .inl (cI, 200, .inl (N 1))), (k18, .inl (cI, 200, .inl (N 2))), (k19, .inl (cI, 200, .inl (N 3))), (k20, .inl (cI, 200, .inl (N 4))), (k21, .inl (cI, 20, .inl (upd (B 0) nb h))), (k22, .inl (cI, 20, .inl (upd (B 1) nb g))), (k23, .inl (cI, 20, .inl (upd (B 2) nb a))), (k24, .inl (cI, 20, .inl (upd (B 3) nb b))), (k25, .inl (cI, 1200, .inl (fl 6 E)))] H := hP
                have hD : va_D (adr _) [(o5, .inr (5, [.int (nI np), .int (nI nh), .int td, .int (nI nn), .int (nI nb), .int (nI ne), .ref k6, .ref k7, .ref k8, .ref k9, .ref k10, .ref k11, .ref k12, .ref k13, .ref k14, .ref k15, .ref k16, .ref k17, .ref k18, .ref k19, .ref k20, .ref k21, .ref k22, .ref k23, .ref k24, .ref k25])), (k6, .inl (cI, 96, .inl (fl 4 P))), (k7, .inl (cI, 24, .inl (P 4))), (k8, .inl (cZ, 24, .inl (P 5))), (k9, .inl (cI, 5, .inl (G 0))), (k10, .inl (cI, 5, .inl (G 1))), (k11, .inl (cI, 5, .inl (G 2))), (k12, .inl (cI, 5, .inl (G 3))), (k13, .inl (cI, 5, .inl (G 4))), (k14, .inl (cI, 5, .inl (mc))), (k15, .inl (cZ, 5, .inl (G 5))), (k16, .inl (cI, 200, .inl (N 0))), (k17, .inl (cI, 200, .inl (N 1))), (k18, .inl (cI, 200, .inl (N 2))), (k19, .inl (cI, 200, .inl (N 3))), (k20, .inl (cI, 200, .inl (N 4))), (k21, .inl (cI, 20, .inl (upd (B 0) nb h))), (k22, .inl (cI, 20, .inl (upd (B 1) nb g))), (k23, .inl (cI, 20, .inl (upd (B 2) nb a))), (k24, .inl (cI, 20, .inl (upd (B 3) nb b))), (k25, .inl (cI, 1200, .inl (fl 6 E)))] := hD
                refine lv_aload_n hx hb dX5_bridge_91 rfl (lv_at hl 0 rfl) ?_
                refine lv_aload_n hx hb dX5_bridge_92 rfl (lv_at hl 0 rfl) ?_
                refine va_get (D := D) (ci := 5) (v := .int (nI nb)) (C := RX5) (T := TX5) (N := 26) hx hb hts hin5 hown hK hP 0 rfl rfl 4 (by decide) hf120 (fun _ h9 => h9) rfl dX5_bridge_93 ?_
                refine lv_iconst (v := 1) hx hb dX5_bridge_96 (by decide) ?_
                refine lv_iadd hx hb dX5_bridge_97 ?_
                refine va_put (D := D) (ci := 5) (v := .int (((nI nb) + 1))) (ty := .int) (C := RX5) (T := TX5) (N := 26) hx hb hts hin5 tyX5 tyX5_ok nmX5 hown hK hP hD hS 0 rfl rfl 4 (by decide) hf120 (fun _ h9 => h9) rfl (by decide +kernel) rfl rfl (Nat.le_of_ble_eq_true rfl) dX5_bridge_98 (fun H locs hP hD hS => ?_)
                have hP : va_P D vwCl [(o5, .inr (5, [.int (nI np), .int (nI nh), .int td, .int (nI nn), .int (((nI nb) + 1)), .int (nI ne), .ref k6, .ref k7, .ref k8, .ref k9, .ref k10, .ref k11, .ref k12, .ref k13, .ref k14, .ref k15, .ref k16, .ref k17, .ref k18, .ref k19, .ref k20, .ref k21, .ref k22, .ref k23, .ref k24, .ref k25])), (k6, .inl (cI, 96, .inl (fl 4 P))), (k7, .inl (cI, 24, .inl (P 4))), (k8, .inl (cZ, 24, .inl (P 5))), (k9, .inl (cI, 5, .inl (G 0))), (k10, .inl (cI, 5, .inl (G 1))), (k11, .inl (cI, 5, .inl (G 2))), (k12, .inl (cI, 5, .inl (G 3))), (k13, .inl (cI, 5, .inl (G 4))), (k14, .inl (cI, 5, .inl (mc))), (k15, .inl (cZ, 5, .inl (G 5))), (k16, .inl (cI, 200, .inl (N 0))), (k17, .inl (cI, 200, .inl (N 1))), (k18, .inl (cI, 200, .inl (N 2))), (k19, .inl (cI, 200, .inl (N 3))), (k20, .inl (cI, 200, .inl (N 4))), (k21, .inl (cI, 20, .inl (upd (B 0) nb h))), (k22, .inl (cI, 20, .inl (upd (B 1) nb g))), (k23, .inl (cI, 20, .inl (upd (B 2) nb a))), (k24, .inl (cI, 20, .inl (upd (B 3) nb b))), (k25, .inl (cI, 1200, .inl (fl 6 E)))] H := hP
                have hD : va_D (adr _) [(o5, .inr (5, [.int (nI np), .int (nI nh), .int td, .int (nI nn), .int (((nI nb) + 1)), .int (nI ne), .ref k6, .ref k7, .ref k8, .ref k9, .ref k10, .ref k11, .ref k12, .ref k13, .ref k14, .ref k15, .ref k16, .ref k17, .ref k18, .ref k19, .ref k20, .ref k21, .ref k22, .ref k23, .ref k24, .ref k25])), (k6, .inl (cI, 96, .inl (fl 4 P))), (k7, .inl (cI, 24, .inl (P 4))), (k8, .inl (cZ, 24, .inl (P 5))), (k9, .inl (cI, 5, .inl (G 0))), (k10, .inl (cI, 5, .inl (G 1))), (k11, .inl (cI, 5, .inl (G 2))), (k12, .inl (cI, 5, .inl (G 3))), (k13, .inl (cI, 5, .inl (G 4))), (k14, .inl (cI, 5, .inl (mc))), (k15, .inl (cZ, 5, .inl (G 5))), (k16, .inl (cI, 200, .inl (N 0))), (k17, .inl (cI, 200, .inl (N 1))), (k18, .inl (cI, 200, .inl (N 2))), (k19, .inl (cI, 200, .inl (N 3))), (k20, .inl (cI, 200, .inl (N 4))), (k21, .inl (cI, 20, .inl (upd (B 0) nb h))), (k22, .inl (cI, 20, .inl (upd (B 1) nb g))), (k23, .inl (cI, 20, .inl (upd (B 2) nb a))), (k24, .inl (cI, 20, .inl (upd (B 3) nb b))), (k25, .inl (cI, 1200, .inl (fl 6 E)))] := hD
                refine lv_iconst (v := 1) hx hb dX5_bridge_101 (by decide) ?_
                refine mu_zret hx hb hr hlocks hS dX5_bridge_102 ?_ ?_
                · rw [show okBr nh nb h g a b = true by have hbr := okBr_iff (nh := nh) (nb := nb) (h := h) (g := g) (a := a) (b := b); rw [hbr]; simp only [fa_lt, h0, h3] at c_22 c_28 c_36 c_45; simp [twoH, c_5, c_13, c_18]; omega]; rfl
                have q0 : (nI (if okBr nh nb h g a b = true then adn 20 nb else nb)) = (((nI nb) + 1)) := by rw [if_pos (by have hbr := okBr_iff (nh := nh) (nb := nb) (h := h) (g := g) (a := a) (b := b); rw [hbr]; simp only [fa_lt, h0, h3] at c_22 c_28 c_36 c_45; simp [twoH, c_5, c_13, c_18]; omega), adn_more hlt, nI_succ]
                have q1 : ((if okBr nh nb h g a b = true then baddT nb B h g a b else B) 0) = (upd (B 0) nb h) := by rw [if_pos (by have hbr := okBr_iff (nh := nh) (nb := nb) (h := h) (g := g) (a := a) (b := b); rw [hbr]; simp only [fa_lt, h0, h3] at c_22 c_28 c_36 c_45; simp [twoH, c_5, c_13, c_18]; omega), badd_more hlt]; rfl
                have q2 : ((if okBr nh nb h g a b = true then baddT nb B h g a b else B) 1) = (upd (B 1) nb g) := by rw [if_pos (by have hbr := okBr_iff (nh := nh) (nb := nb) (h := h) (g := g) (a := a) (b := b); rw [hbr]; simp only [fa_lt, h0, h3] at c_22 c_28 c_36 c_45; simp [twoH, c_5, c_13, c_18]; omega), badd_more hlt]; rfl
                have q3 : ((if okBr nh nb h g a b = true then baddT nb B h g a b else B) 2) = (upd (B 2) nb a) := by rw [if_pos (by have hbr := okBr_iff (nh := nh) (nb := nb) (h := h) (g := g) (a := a) (b := b); rw [hbr]; simp only [fa_lt, h0, h3] at c_22 c_28 c_36 c_45; simp [twoH, c_5, c_13, c_18]; omega), badd_more hlt]; rfl
                have q4 : ((if okBr nh nb h g a b = true then baddT nb B h g a b else B) 3) = (upd (B 3) nb b) := by rw [if_pos (by have hbr := okBr_iff (nh := nh) (nb := nb) (h := h) (g := g) (a := a) (b := b); rw [hbr]; simp only [fa_lt, h0, h3] at c_22 c_28 c_36 c_45; simp [twoH, c_5, c_13, c_18]; omega), badd_more hlt]; rfl
                rw [q0, q1, q2, q3, q4]
                exact hP
              · skip
                have hlt : nb = 20 := nI_inj (b := 20) (by omega) (by omega) c_45
                refine lv_iconst (v := 0) hx hb dX5_bridge_48 (by decide) ?_
                refine mu_zret hx hb hr hlocks hS dX5_bridge_49 ?_ ?_
                · rw [show okBr nh nb h g a b = false by rw [← Bool.not_eq_true]; have hbr := okBr_iff (nh := nh) (nb := nb) (h := h) (g := g) (a := a) (b := b); rw [hbr]; simp only [fa_lt, h0, h3] at c_22 c_28 c_36 c_45; simp [twoH, c_5, c_13, c_18]; omega]; rfl
                have q0 : (nI (if okBr nh nb h g a b = true then adn 20 nb else nb)) = (nI nb) := by rw [if_neg (by have hbr := okBr_iff (nh := nh) (nb := nb) (h := h) (g := g) (a := a) (b := b); rw [hbr]; simp only [fa_lt, h0, h3] at c_22 c_28 c_36 c_45; simp [twoH, c_5, c_13, c_18]; omega)]
                have q1 : ((if okBr nh nb h g a b = true then baddT nb B h g a b else B) 0) = (B 0) := by rw [if_neg (by have hbr := okBr_iff (nh := nh) (nb := nb) (h := h) (g := g) (a := a) (b := b); rw [hbr]; simp only [fa_lt, h0, h3] at c_22 c_28 c_36 c_45; simp [twoH, c_5, c_13, c_18]; omega)]
                have q2 : ((if okBr nh nb h g a b = true then baddT nb B h g a b else B) 1) = (B 1) := by rw [if_neg (by have hbr := okBr_iff (nh := nh) (nb := nb) (h := h) (g := g) (a := a) (b := b); rw [hbr]; simp only [fa_lt, h0, h3] at c_22 c_28 c_36 c_45; simp [twoH, c_5, c_13, c_18]; omega)]
                have q3 : ((if okBr nh nb h g a b = true then baddT nb B h g a b else B) 2) = (B 2) := by rw [if_neg (by have hbr := okBr_iff (nh := nh) (nb := nb) (h := h) (g := g) (a := a) (b := b); rw [hbr]; simp only [fa_lt, h0, h3] at c_22 c_28 c_36 c_45; simp [twoH, c_5, c_13, c_18]; omega)]
                have q4 : ((if okBr nh nb h g a b = true then baddT nb B h g a b else B) 3) = (B 3) := by rw [if_neg (by have hbr := okBr_iff (nh := nh) (nb := nb) (h := h) (g := g) (a := a) (b := b); rw [hbr]; simp only [fa_lt, h0, h3] at c_22 c_28 c_36 c_45; simp [twoH, c_5, c_13, c_18]; omega)]
                rw [q0, q1, q2, q3, q4]
                exact hP
set_option maxHeartbeats 4000000 in
set_option maxRecDepth 100000 in
theorem kX5_lose (l : Launch) (D : va_G) (cI cZ : ClassId) (o5 k6 k7 k8 k9 k10 k11 k12 k13 k14 k15 k16 k17 k18 k19 k20 k21 k22 k23 k24 k25 np nh nn nb ne : Nat) (td : Int32) (P G N B E : Nat → Nat → Int32) (mc : Nat → Int32) (h : Int32) (hnh : nh ≤ 5) (hg : ∀ h, h < nh → GH G h) : Met l yX5_lose wsX5_lose ({ frames := 1, cells := 0, slots := 0, locals := 21 } : Room) (MuP D [(cI, .int), (cZ, .boolean)] [.ref o5, .int h] [(o5, .inr (5, [.int (nI np), .int (nI nh), .int td, .int (nI nn), .int (nI nb), .int (nI ne), .ref k6, .ref k7, .ref k8, .ref k9, .ref k10, .ref k11, .ref k12, .ref k13, .ref k14, .ref k15, .ref k16, .ref k17, .ref k18, .ref k19, .ref k20, .ref k21, .ref k22, .ref k23, .ref k24, .ref k25])), (k6, .inl (cI, 96, .inl (fl 4 P))), (k7, .inl (cI, 24, .inl (P 4))), (k8, .inl (cZ, 24, .inl (P 5))), (k9, .inl (cI, 5, .inl (G 0))), (k10, .inl (cI, 5, .inl (G 1))), (k11, .inl (cI, 5, .inl (G 2))), (k12, .inl (cI, 5, .inl (G 3))), (k13, .inl (cI, 5, .inl (G 4))), (k14, .inl (cI, 5, .inl (mc))), (k15, .inl (cZ, 5, .inl (G 5))), (k16, .inl (cI, 200, .inl (N 0))), (k17, .inl (cI, 200, .inl (N 1))), (k18, .inl (cI, 200, .inl (N 2))), (k19, .inl (cI, 200, .inl (N 3))), (k20, .inl (cI, 200, .inl (N 4))), (k21, .inl (cI, 20, .inl (B 0))), (k22, .inl (cI, 20, .inl (B 1))), (k23, .inl (cI, 20, .inl (B 2))), (k24, .inl (cI, 20, .inl (B 3))), (k25, .inl (cI, 1200, .inl (fl 6 E)))]) (QM D (some (.int (bI (inR nh h && !decide (tat nh 6 G h 5 = 1))))) [(o5, .inr (5, [.int (nI np), .int (nI nh), .int td, .int (nI nn), .int (nI nb), .int (nI ne), .ref k6, .ref k7, .ref k8, .ref k9, .ref k10, .ref k11, .ref k12, .ref k13, .ref k14, .ref k15, .ref k16, .ref k17, .ref k18, .ref k19, .ref k20, .ref k21, .ref k22, .ref k23, .ref k24, .ref k25])), (k6, .inl (cI, 96, .inl (fl 4 P))), (k7, .inl (cI, 24, .inl (P 4))), (k8, .inl (cZ, 24, .inl (P 5))), (k9, .inl (cI, 5, .inl (G 0))), (k10, .inl (cI, 5, .inl (G 1))), (k11, .inl (cI, 5, .inl (G 2))), (k12, .inl (cI, 5, .inl (G 3))), (k13, .inl (cI, 5, .inl (G 4))), (k14, .inl (cI, 5, .inl (mc))), (k15, .inl (cZ, 5, .inl (G 5))), (k16, .inl (cI, 200, .inl (N 0))), (k17, .inl (cI, 200, .inl (N 1))), (k18, .inl (cI, 200, .inl (N 2))), (k19, .inl (cI, 200, .inl (N 3))), (k20, .inl (cI, 200, .inl (N 4))), (k21, .inl (cI, 20, .inl (B 0))), (k22, .inl (cI, 20, .inl (B 1))), (k23, .inl (cI, 20, .inl (B 2))), (k24, .inl (cI, 20, .inl (B 3))), (k25, .inl (cI, 1200, .inl (fl 6 E)))] [(o5, .inr (5, [.int (nI np), .int (nI nh), .int td, .int (nI nn), .int (nI nb), .int (nI ne), .ref k6, .ref k7, .ref k8, .ref k9, .ref k10, .ref k11, .ref k12, .ref k13, .ref k14, .ref k15, .ref k16, .ref k17, .ref k18, .ref k19, .ref k20, .ref k21, .ref k22, .ref k23, .ref k24, .ref k25])), (k6, .inl (cI, 96, .inl (fl 4 P))), (k7, .inl (cI, 24, .inl (P 4))), (k8, .inl (cZ, 24, .inl (P 5))), (k9, .inl (cI, 5, .inl ((if (inR nh h && !decide (tat nh 6 G h 5 = 1)) = true then tput nh 6 G h 5 1 else G) 0))), (k10, .inl (cI, 5, .inl ((if (inR nh h && !decide (tat nh 6 G h 5 = 1)) = true then tput nh 6 G h 5 1 else G) 1))), (k11, .inl (cI, 5, .inl ((if (inR nh h && !decide (tat nh 6 G h 5 = 1)) = true then tput nh 6 G h 5 1 else G) 2))), (k12, .inl (cI, 5, .inl ((if (inR nh h && !decide (tat nh 6 G h 5 = 1)) = true then tput nh 6 G h 5 1 else G) 3))), (k13, .inl (cI, 5, .inl ((if (inR nh h && !decide (tat nh 6 G h 5 = 1)) = true then tput nh 6 G h 5 1 else G) 4))), (k14, .inl (cI, 5, .inl (mc))), (k15, .inl (cZ, 5, .inl ((if (inR nh h && !decide (tat nh 6 G h 5 = 1)) = true then tput nh 6 G h 5 1 else G) 5))), (k16, .inl (cI, 200, .inl (N 0))), (k17, .inl (cI, 200, .inl (N 1))), (k18, .inl (cI, 200, .inl (N 2))), (k19, .inl (cI, 200, .inl (N 3))), (k20, .inl (cI, 200, .inl (N 4))), (k21, .inl (cI, 20, .inl (B 0))), (k22, .inl (cI, 20, .inl (B 1))), (k23, .inl (cI, 20, .inl (B 2))), (k24, .inl (cI, 20, .inl (B 3))), (k25, .inl (cI, 1200, .inl (fl 6 E)))]) 0 0 (adr [(o5, .inr (5, [.int (nI np), .int (nI nh), .int td, .int (nI nn), .int (nI nb), .int (nI ne), .ref k6, .ref k7, .ref k8, .ref k9, .ref k10, .ref k11, .ref k12, .ref k13, .ref k14, .ref k15, .ref k16, .ref k17, .ref k18, .ref k19, .ref k20, .ref k21, .ref k22, .ref k23, .ref k24, .ref k25])), (k6, .inl (cI, 96, .inl (fl 4 P))), (k7, .inl (cI, 24, .inl (P 4))), (k8, .inl (cZ, 24, .inl (P 5))), (k9, .inl (cI, 5, .inl (G 0))), (k10, .inl (cI, 5, .inl (G 1))), (k11, .inl (cI, 5, .inl (G 2))), (k12, .inl (cI, 5, .inl (G 3))), (k13, .inl (cI, 5, .inl (G 4))), (k14, .inl (cI, 5, .inl (mc))), (k15, .inl (cZ, 5, .inl (G 5))), (k16, .inl (cI, 200, .inl (N 0))), (k17, .inl (cI, 200, .inl (N 1))), (k18, .inl (cI, 200, .inl (N 2))), (k19, .inl (cI, 200, .inl (N 3))), (k20, .inl (cI, 200, .inl (N 4))), (k21, .inl (cI, 20, .inl (B 0))), (k22, .inl (cI, 20, .inl (B 1))), (k23, .inl (cI, 20, .inl (B 2))), (k24, .inl (cI, 20, .inl (B 3))), (k25, .inl (cI, 1200, .inl (fl 6 E)))]) := by
  refine mu_of (cc := cX5_lose) (maxL := 2) (ret := (some .boolean)) (by decide) rfl (Nat.le_of_ble_eq_true rfl) ?_
  intro pp ee ss mm bw me cd ls hx hb hr hts hown hlocks hml hK hl H locs hP hD hS
  have hl : lv_has ls 2 [(0, .ref o5), (1, .int h)] := hl
  have hf38 := hts (.fieldLink RX5 38 "OtherNamesModel" "isLost" "[Z") (by decide +kernel)
  have hin5 := (show ∀ w ∈ wsX50, w ∈ wsX5_lose by decide +kernel)
  refine lv_aload_n hx hb dX5_lose_0 rfl (lv_at hl 0 rfl) ?_
  refine lv_iload_n hx hb dX5_lose_1 rfl (lv_at hl 1 rfl) ?_
  refine rcV (As := [.int h]) (rest := []) (ci := 5) ⟨hx, hb, hml, hown, hts⟩ (kX5_isHouse l D cI cZ o5 k6 k7 k8 k9 k10 k11 k12 k13 k14 k15 k16 k17 k18 k19 k20 k21 k22 k23 k24 k25 np nh nn nb ne td P G N B E mc h) (cwV 1 hts gX5_lose_X5_isHouse rfl rfl rfl (by decide +kernel) ⟨Nat.le_of_ble_eq_true rfl, Nat.le_of_ble_eq_true rfl⟩) hK hP [0, 1, 2, 3, 4, 5, 6, 7, 8, 9, 10, 11, 12, 13, 14, 15, 16, 17, 18, 19, 20] rfl rfl rfl rfl rfl hl.1 rfl (Nat.le_of_ble_eq_true rfl) ⟨Nat.zero_le _, Nat.zero_le _⟩ dX5_lose_2 ?_
  refine lb_eq (tgt := 17) hx hb dX5_lose_5 (by decide) (fun c_5 => ?_) (fun c_5 => ?_)
  · skip
    refine lv_iconst (v := 0) hx hb dX5_lose_17 (by decide) ?_
    refine mu_zret hx hb hr hlocks hS dX5_lose_18 ?_ ?_
    · simp [bI, c_5]
    have q0 : ((if (inR nh h && !decide (tat nh 6 G h 5 = 1)) = true then tput nh 6 G h 5 1 else G) 0) = (G 0) := by rw [if_neg (by simp [c_5])]
    have q1 : ((if (inR nh h && !decide (tat nh 6 G h 5 = 1)) = true then tput nh 6 G h 5 1 else G) 1) = (G 1) := by rw [if_neg (by simp [c_5])]
    have q2 : ((if (inR nh h && !decide (tat nh 6 G h 5 = 1)) = true then tput nh 6 G h 5 1 else G) 2) = (G 2) := by rw [if_neg (by simp [c_5])]
    have q3 : ((if (inR nh h && !decide (tat nh 6 G h 5 = 1)) = true then tput nh 6 G h 5 1 else G) 3) = (G 3) := by rw [if_neg (by simp [c_5])]
    have q4 : ((if (inR nh h && !decide (tat nh 6 G h 5 = 1)) = true then tput nh 6 G h 5 1 else G) 4) = (G 4) := by rw [if_neg (by simp [c_5])]
    have q5 : ((if (inR nh h && !decide (tat nh 6 G h 5 = 1)) = true then tput nh 6 G h 5 1 else G) 5) = (G 5) := by rw [if_neg (by simp [c_5])]
    rw [q0, q1, q2, q3, q4, q5]
    exact hP
  · skip
    obtain ⟨j, hj, rfl⟩ := inR_ex c_5 (by omega)
    have t5 : tat nh 6 G (nI j) 5 = G 5 j := tatG (c := 5) hnh hj (by omega)
    have u5 : ∀ v, tput nh 6 G (nI j) 5 v = up2 G 5 j v := fun v => tput_nI (c := 5) (by omega) (by omega) hj (by omega)
    refine lv_aload_n hx hb dX5_lose_8 rfl (lv_at hl 0 rfl) ?_
    refine va_get (D := D) (ci := 5) (v := .ref k15) (C := RX5) (T := TX5) (N := 26) hx hb hts hin5 hown hK hP 0 rfl rfl 15 (by decide) hf38 (fun _ h9 => h9) rfl dX5_lose_9 ?_
    refine lv_iload_n hx hb dX5_lose_12 rfl (lv_at hl 1 rfl) ?_
    refine va_zaldN (D := D) (cl := vwCl) (cA := cZ) (f := G 5) hx hb hK hP 10 1 rfl rfl j (rfl) (by omega) (by first | decide | assumption) dX5_lose_13 ?_
    refine lv_if_eq (tgt := 19) hx hb dX5_lose_14 (by decide) (fun c_14 => ?_) (fun c_14 => ?_)
    · skip
      refine lv_aload_n hx hb dX5_lose_19 rfl (lv_at hl 0 rfl) ?_
      refine va_get (D := D) (ci := 5) (v := .ref k15) (C := RX5) (T := TX5) (N := 26) hx hb hts hin5 hown hK hP 0 rfl rfl 15 (by decide) hf38 (fun _ h9 => h9) rfl dX5_lose_20 ?_
      refine lv_iload_n hx hb dX5_lose_23 rfl (lv_at hl 1 rfl) ?_
      refine lv_iconst (v := 1) hx hb dX5_lose_24 (by decide) ?_
      refine va_zastN (D := D) (cl := vwCl) (cA := cZ) (f := G 5) (x := 1) hx hb hK hP hD hS 10 1 rfl rfl j (rfl) (by omega) (by first | decide | assumption) (by decide) dX5_lose_25 (fun H locs hP hD hS => ?_)
      have hP : va_P D vwCl [(o5, .inr (5, [.int (nI np), .int (nI nh), .int td, .int (nI nn), .int (nI nb), .int (nI ne), .ref k6, .ref k7, .ref k8, .ref k9, .ref k10, .ref k11, .ref k12, .ref k13, .ref k14, .ref k15, .ref k16, .ref k17, .ref k18, .ref k19, .ref k20, .ref k21, .ref k22, .ref k23, .ref k24, .ref k25])), (k6, .inl (cI, 96, .inl (fl 4 P))), (k7, .inl (cI, 24, .inl (P 4))), (k8, .inl (cZ, 24, .inl (P 5))), (k9, .inl (cI, 5, .inl (G 0))), (k10, .inl (cI, 5, .inl (G 1))), (k11, .inl (cI, 5, .inl (G 2))), (k12, .inl (cI, 5, .inl (G 3))), (k13, .inl (cI, 5, .inl (G 4))), (k14, .inl (cI, 5, .inl (mc))), (k15, .inl (cZ, 5, .inl (upd (G 5) j 1))), (k16, .inl (cI, 200, .inl (N 0))), (k17, .inl (cI, 200, .inl (N 1))), (k18, .inl (cI, 200, .inl (N 2))), (k19, .inl (cI, 200, .inl (N 3))), (k20, .inl (cI, 200, .inl (N 4))), (k21, .inl (cI, 20, .inl (B 0))), (k22, .inl (cI, 20, .inl (B 1))), (k23, .inl (cI, 20, .inl (B 2))), (k24, .inl (cI, 20, .inl (B 3))), (k25, .inl (cI, 1200, .inl (fl 6 E)))] H := hP
      have hD : va_D (adr _) [(o5, .inr (5, [.int (nI np), .int (nI nh), .int td, .int (nI nn), .int (nI nb), .int (nI ne), .ref k6, .ref k7, .ref k8, .ref k9, .ref k10, .ref k11, .ref k12, .ref k13, .ref k14, .ref k15, .ref k16, .ref k17, .ref k18, .ref k19, .ref k20, .ref k21, .ref k22, .ref k23, .ref k24, .ref k25])), (k6, .inl (cI, 96, .inl (fl 4 P))), (k7, .inl (cI, 24, .inl (P 4))), (k8, .inl (cZ, 24, .inl (P 5))), (k9, .inl (cI, 5, .inl (G 0))), (k10, .inl (cI, 5, .inl (G 1))), (k11, .inl (cI, 5, .inl (G 2))), (k12, .inl (cI, 5, .inl (G 3))), (k13, .inl (cI, 5, .inl (G 4))), (k14, .inl (cI, 5, .inl (mc))), (k15, .inl (cZ, 5, .inl (upd (G 5) j 1))), (k16, .inl (cI, 200, .inl (N 0))), (k17, .inl (cI, 200, .inl (N 1))), (k18, .inl (cI, 200, .inl (N 2))), (k19, .inl (cI, 200, .inl (N 3))), (k20, .inl (cI, 200, .inl (N 4))), (k21, .inl (cI, 20, .inl (B 0))), (k22, .inl (cI, 20, .inl (B 1))), (k23, .inl (cI, 20, .inl (B 2))), (k24, .inl (cI, 20, .inl (B 3))), (k25, .inl (cI, 1200, .inl (fl 6 E)))] := hD
      refine lv_iconst (v := 1) hx hb dX5_lose_26 (by decide) ?_
      refine mu_zret hx hb hr hlocks hS dX5_lose_27 ?_ ?_
      · simp [bI, c_5, t5, c_14]
      have q0 : ((if (inR nh (nI j) && !decide (tat nh 6 G (nI j) 5 = 1)) = true then tput nh 6 G (nI j) 5 1 else G) 0) = (G 0) := by rw [if_pos (by simp [c_5, t5, c_14]), u5]; rfl
      have q1 : ((if (inR nh (nI j) && !decide (tat nh 6 G (nI j) 5 = 1)) = true then tput nh 6 G (nI j) 5 1 else G) 1) = (G 1) := by rw [if_pos (by simp [c_5, t5, c_14]), u5]; rfl
      have q2 : ((if (inR nh (nI j) && !decide (tat nh 6 G (nI j) 5 = 1)) = true then tput nh 6 G (nI j) 5 1 else G) 2) = (G 2) := by rw [if_pos (by simp [c_5, t5, c_14]), u5]; rfl
      have q3 : ((if (inR nh (nI j) && !decide (tat nh 6 G (nI j) 5 = 1)) = true then tput nh 6 G (nI j) 5 1 else G) 3) = (G 3) := by rw [if_pos (by simp [c_5, t5, c_14]), u5]; rfl
      have q4 : ((if (inR nh (nI j) && !decide (tat nh 6 G (nI j) 5 = 1)) = true then tput nh 6 G (nI j) 5 1 else G) 4) = (G 4) := by rw [if_pos (by simp [c_5, t5, c_14]), u5]; rfl
      have q5 : ((if (inR nh (nI j) && !decide (tat nh 6 G (nI j) 5 = 1)) = true then tput nh 6 G (nI j) 5 1 else G) 5) = (upd (G 5) j 1) := by rw [if_pos (by simp [c_5, t5, c_14]), u5]; rfl
      rw [q0, q1, q2, q3, q4, q5]
      exact hP
    · skip
      have c_14 : G 5 j = 1 := (hg j hj).2.2.resolve_left c_14
      refine lv_iconst (v := 0) hx hb dX5_lose_17 (by decide) ?_
      refine mu_zret hx hb hr hlocks hS dX5_lose_18 ?_ ?_
      · simp [bI, c_5, t5, c_14]
      have q0 : ((if (inR nh (nI j) && !decide (tat nh 6 G (nI j) 5 = 1)) = true then tput nh 6 G (nI j) 5 1 else G) 0) = (G 0) := by rw [if_neg (by simp [c_5, t5, c_14])]
      have q1 : ((if (inR nh (nI j) && !decide (tat nh 6 G (nI j) 5 = 1)) = true then tput nh 6 G (nI j) 5 1 else G) 1) = (G 1) := by rw [if_neg (by simp [c_5, t5, c_14])]
      have q2 : ((if (inR nh (nI j) && !decide (tat nh 6 G (nI j) 5 = 1)) = true then tput nh 6 G (nI j) 5 1 else G) 2) = (G 2) := by rw [if_neg (by simp [c_5, t5, c_14])]
      have q3 : ((if (inR nh (nI j) && !decide (tat nh 6 G (nI j) 5 = 1)) = true then tput nh 6 G (nI j) 5 1 else G) 3) = (G 3) := by rw [if_neg (by simp [c_5, t5, c_14])]
      have q4 : ((if (inR nh (nI j) && !decide (tat nh 6 G (nI j) 5 = 1)) = true then tput nh 6 G (nI j) 5 1 else G) 4) = (G 4) := by rw [if_neg (by simp [c_5, t5, c_14])]
      have q5 : ((if (inR nh (nI j) && !decide (tat nh 6 G (nI j) 5 = 1)) = true then tput nh 6 G (nI j) 5 1 else G) 5) = (G 5) := by rw [if_neg (by simp [c_5, t5, c_14])]
      rw [q0, q1, q2, q3, q4, q5]
      exact hP
set_option maxHeartbeats 4000000 in
set_option maxRecDepth 100000 in
theorem kX5_anew (l : Launch) (D : va_G) (cI cZ : ClassId) (o5 k6 k7 k8 k9 k10 k11 k12 k13 k14 k15 k16 k17 k18 k19 k20 k21 k22 k23 k24 k25 np nh nn nb ne : Nat) (td : Int32) (P G N B E : Nat → Nat → Int32) (mc : Nat → Int32) (h : Int32) (sd : Int32) (hnh : nh ≤ 5) (hg : ∀ h, h < nh → GH G h) : Met l yX5_anew wsX5_anew ({ frames := 1, cells := 0, slots := 0, locals := 21 } : Room) (MuP D [(cI, .int), (cZ, .boolean)] [.ref o5, .int h, .int sd] [(o5, .inr (5, [.int (nI np), .int (nI nh), .int td, .int (nI nn), .int (nI nb), .int (nI ne), .ref k6, .ref k7, .ref k8, .ref k9, .ref k10, .ref k11, .ref k12, .ref k13, .ref k14, .ref k15, .ref k16, .ref k17, .ref k18, .ref k19, .ref k20, .ref k21, .ref k22, .ref k23, .ref k24, .ref k25])), (k6, .inl (cI, 96, .inl (fl 4 P))), (k7, .inl (cI, 24, .inl (P 4))), (k8, .inl (cZ, 24, .inl (P 5))), (k9, .inl (cI, 5, .inl (G 0))), (k10, .inl (cI, 5, .inl (G 1))), (k11, .inl (cI, 5, .inl (G 2))), (k12, .inl (cI, 5, .inl (G 3))), (k13, .inl (cI, 5, .inl (G 4))), (k14, .inl (cI, 5, .inl (mc))), (k15, .inl (cZ, 5, .inl (G 5))), (k16, .inl (cI, 200, .inl (N 0))), (k17, .inl (cI, 200, .inl (N 1))), (k18, .inl (cI, 200, .inl (N 2))), (k19, .inl (cI, 200, .inl (N 3))), (k20, .inl (cI, 200, .inl (N 4))), (k21, .inl (cI, 20, .inl (B 0))), (k22, .inl (cI, 20, .inl (B 1))), (k23, .inl (cI, 20, .inl (B 2))), (k24, .inl (cI, 20, .inl (B 3))), (k25, .inl (cI, 1200, .inl (fl 6 E)))]) (QM D (some (.int (bI (inR nh h && decide (tat nh 6 G h 5 = 1) && decide (tat nh 6 G h 2 = sd))))) [(o5, .inr (5, [.int (nI np), .int (nI nh), .int td, .int (nI nn), .int (nI nb), .int (nI ne), .ref k6, .ref k7, .ref k8, .ref k9, .ref k10, .ref k11, .ref k12, .ref k13, .ref k14, .ref k15, .ref k16, .ref k17, .ref k18, .ref k19, .ref k20, .ref k21, .ref k22, .ref k23, .ref k24, .ref k25])), (k6, .inl (cI, 96, .inl (fl 4 P))), (k7, .inl (cI, 24, .inl (P 4))), (k8, .inl (cZ, 24, .inl (P 5))), (k9, .inl (cI, 5, .inl (G 0))), (k10, .inl (cI, 5, .inl (G 1))), (k11, .inl (cI, 5, .inl (G 2))), (k12, .inl (cI, 5, .inl (G 3))), (k13, .inl (cI, 5, .inl (G 4))), (k14, .inl (cI, 5, .inl (mc))), (k15, .inl (cZ, 5, .inl (G 5))), (k16, .inl (cI, 200, .inl (N 0))), (k17, .inl (cI, 200, .inl (N 1))), (k18, .inl (cI, 200, .inl (N 2))), (k19, .inl (cI, 200, .inl (N 3))), (k20, .inl (cI, 200, .inl (N 4))), (k21, .inl (cI, 20, .inl (B 0))), (k22, .inl (cI, 20, .inl (B 1))), (k23, .inl (cI, 20, .inl (B 2))), (k24, .inl (cI, 20, .inl (B 3))), (k25, .inl (cI, 1200, .inl (fl 6 E)))] [(o5, .inr (5, [.int (nI np), .int (nI nh), .int td, .int (nI nn), .int (nI nb), .int (nI ne), .ref k6, .ref k7, .ref k8, .ref k9, .ref k10, .ref k11, .ref k12, .ref k13, .ref k14, .ref k15, .ref k16, .ref k17, .ref k18, .ref k19, .ref k20, .ref k21, .ref k22, .ref k23, .ref k24, .ref k25])), (k6, .inl (cI, 96, .inl (fl 4 P))), (k7, .inl (cI, 24, .inl (P 4))), (k8, .inl (cZ, 24, .inl (P 5))), (k9, .inl (cI, 5, .inl ((if (inR nh h && decide (tat nh 6 G h 5 = 1) && decide (tat nh 6 G h 2 = sd)) = true then tput nh 6 G h 5 0 else G) 0))), (k10, .inl (cI, 5, .inl ((if (inR nh h && decide (tat nh 6 G h 5 = 1) && decide (tat nh 6 G h 2 = sd)) = true then tput nh 6 G h 5 0 else G) 1))), (k11, .inl (cI, 5, .inl ((if (inR nh h && decide (tat nh 6 G h 5 = 1) && decide (tat nh 6 G h 2 = sd)) = true then tput nh 6 G h 5 0 else G) 2))), (k12, .inl (cI, 5, .inl ((if (inR nh h && decide (tat nh 6 G h 5 = 1) && decide (tat nh 6 G h 2 = sd)) = true then tput nh 6 G h 5 0 else G) 3))), (k13, .inl (cI, 5, .inl ((if (inR nh h && decide (tat nh 6 G h 5 = 1) && decide (tat nh 6 G h 2 = sd)) = true then tput nh 6 G h 5 0 else G) 4))), (k14, .inl (cI, 5, .inl (mc))), (k15, .inl (cZ, 5, .inl ((if (inR nh h && decide (tat nh 6 G h 5 = 1) && decide (tat nh 6 G h 2 = sd)) = true then tput nh 6 G h 5 0 else G) 5))), (k16, .inl (cI, 200, .inl (N 0))), (k17, .inl (cI, 200, .inl (N 1))), (k18, .inl (cI, 200, .inl (N 2))), (k19, .inl (cI, 200, .inl (N 3))), (k20, .inl (cI, 200, .inl (N 4))), (k21, .inl (cI, 20, .inl (B 0))), (k22, .inl (cI, 20, .inl (B 1))), (k23, .inl (cI, 20, .inl (B 2))), (k24, .inl (cI, 20, .inl (B 3))), (k25, .inl (cI, 1200, .inl (fl 6 E)))]) 0 0 (adr [(o5, .inr (5, [.int (nI np), .int (nI nh), .int td, .int (nI nn), .int (nI nb), .int (nI ne), .ref k6, .ref k7, .ref k8, .ref k9, .ref k10, .ref k11, .ref k12, .ref k13, .ref k14, .ref k15, .ref k16, .ref k17, .ref k18, .ref k19, .ref k20, .ref k21, .ref k22, .ref k23, .ref k24, .ref k25])), (k6, .inl (cI, 96, .inl (fl 4 P))), (k7, .inl (cI, 24, .inl (P 4))), (k8, .inl (cZ, 24, .inl (P 5))), (k9, .inl (cI, 5, .inl (G 0))), (k10, .inl (cI, 5, .inl (G 1))), (k11, .inl (cI, 5, .inl (G 2))), (k12, .inl (cI, 5, .inl (G 3))), (k13, .inl (cI, 5, .inl (G 4))), (k14, .inl (cI, 5, .inl (mc))), (k15, .inl (cZ, 5, .inl (G 5))), (k16, .inl (cI, 200, .inl (N 0))), (k17, .inl (cI, 200, .inl (N 1))), (k18, .inl (cI, 200, .inl (N 2))), (k19, .inl (cI, 200, .inl (N 3))), (k20, .inl (cI, 200, .inl (N 4))), (k21, .inl (cI, 20, .inl (B 0))), (k22, .inl (cI, 20, .inl (B 1))), (k23, .inl (cI, 20, .inl (B 2))), (k24, .inl (cI, 20, .inl (B 3))), (k25, .inl (cI, 1200, .inl (fl 6 E)))]) := by
  refine mu_of (cc := cX5_anew) (maxL := 3) (ret := (some .boolean)) (by decide) rfl (Nat.le_of_ble_eq_true rfl) ?_
  intro pp ee ss mm bw me cd ls hx hb hr hts hown hlocks hml hK hl H locs hP hD hS
  have hl : lv_has ls 3 [(0, .ref o5), (1, .int h), (2, .int sd)] := hl
  have hf38 := hts (.fieldLink RX5 38 "OtherNamesModel" "isLost" "[Z") (by decide +kernel)
  have hin5 := (show ∀ w ∈ wsX50, w ∈ wsX5_anew by decide +kernel)
  have hf26 := hts (.fieldLink RX5 26 "OtherNamesModel" "seed" "[I") (by decide +kernel)
  refine lv_aload_n hx hb dX5_anew_0 rfl (lv_at hl 0 rfl) ?_
  refine lv_iload_n hx hb dX5_anew_1 rfl (lv_at hl 1 rfl) ?_
  refine rcV (As := [.int h]) (rest := []) (ci := 5) ⟨hx, hb, hml, hown, hts⟩ (kX5_isHouse l D cI cZ o5 k6 k7 k8 k9 k10 k11 k12 k13 k14 k15 k16 k17 k18 k19 k20 k21 k22 k23 k24 k25 np nh nn nb ne td P G N B E mc h) (cwV 1 hts gX5_anew_X5_isHouse rfl rfl rfl (by decide +kernel) ⟨Nat.le_of_ble_eq_true rfl, Nat.le_of_ble_eq_true rfl⟩) hK hP [0, 1, 2, 3, 4, 5, 6, 7, 8, 9, 10, 11, 12, 13, 14, 15, 16, 17, 18, 19, 20] rfl rfl rfl rfl rfl hl.1 rfl (Nat.le_of_ble_eq_true rfl) ⟨Nat.zero_le _, Nat.zero_le _⟩ dX5_anew_2 ?_
  refine lb_eq (tgt := 27) hx hb dX5_anew_5 (by decide) (fun c_5 => ?_) (fun c_5 => ?_)
  · skip
    refine lv_iconst (v := 0) hx hb dX5_anew_27 (by decide) ?_
    refine mu_zret hx hb hr hlocks hS dX5_anew_28 ?_ ?_
    · simp [bI, c_5]
    have q0 : ((if (inR nh h && decide (tat nh 6 G h 5 = 1) && decide (tat nh 6 G h 2 = sd)) = true then tput nh 6 G h 5 0 else G) 0) = (G 0) := by rw [if_neg (by simp [c_5])]
    have q1 : ((if (inR nh h && decide (tat nh 6 G h 5 = 1) && decide (tat nh 6 G h 2 = sd)) = true then tput nh 6 G h 5 0 else G) 1) = (G 1) := by rw [if_neg (by simp [c_5])]
    have q2 : ((if (inR nh h && decide (tat nh 6 G h 5 = 1) && decide (tat nh 6 G h 2 = sd)) = true then tput nh 6 G h 5 0 else G) 2) = (G 2) := by rw [if_neg (by simp [c_5])]
    have q3 : ((if (inR nh h && decide (tat nh 6 G h 5 = 1) && decide (tat nh 6 G h 2 = sd)) = true then tput nh 6 G h 5 0 else G) 3) = (G 3) := by rw [if_neg (by simp [c_5])]
    have q4 : ((if (inR nh h && decide (tat nh 6 G h 5 = 1) && decide (tat nh 6 G h 2 = sd)) = true then tput nh 6 G h 5 0 else G) 4) = (G 4) := by rw [if_neg (by simp [c_5])]
    have q5 : ((if (inR nh h && decide (tat nh 6 G h 5 = 1) && decide (tat nh 6 G h 2 = sd)) = true then tput nh 6 G h 5 0 else G) 5) = (G 5) := by rw [if_neg (by simp [c_5])]
    rw [q0, q1, q2, q3, q4, q5]
    exact hP
  · skip
    obtain ⟨j, hj, rfl⟩ := inR_ex c_5 (by omega)
    have t5 : tat nh 6 G (nI j) 5 = G 5 j := tatG (c := 5) hnh hj (by omega)
    have t2 : tat nh 6 G (nI j) 2 = G 2 j := tatG (c := 2) hnh hj (by omega)
    have u5 : ∀ v, tput nh 6 G (nI j) 5 v = up2 G 5 j v := fun v => tput_nI (c := 5) (by omega) (by omega) hj (by omega)
    refine lv_aload_n hx hb dX5_anew_8 rfl (lv_at hl 0 rfl) ?_
    refine va_get (D := D) (ci := 5) (v := .ref k15) (C := RX5) (T := TX5) (N := 26) hx hb hts hin5 hown hK hP 0 rfl rfl 15 (by decide) hf38 (fun _ h9 => h9) rfl dX5_anew_9 ?_
    refine lv_iload_n hx hb dX5_anew_12 rfl (lv_at hl 1 rfl) ?_
    refine va_zaldN (D := D) (cl := vwCl) (cA := cZ) (f := G 5) hx hb hK hP 10 1 rfl rfl j (rfl) (by omega) (by first | decide | assumption) dX5_anew_13 ?_
    refine lv_if_eq (tgt := 27) hx hb dX5_anew_14 (by decide) (fun c_14 => ?_) (fun c_14 => ?_)
    · skip
      refine lv_iconst (v := 0) hx hb dX5_anew_27 (by decide) ?_
      refine mu_zret hx hb hr hlocks hS dX5_anew_28 ?_ ?_
      · simp [bI, t5, t2, c_5, c_14]
      have q0 : ((if (inR nh (nI j) && decide (tat nh 6 G (nI j) 5 = 1) && decide (tat nh 6 G (nI j) 2 = sd)) = true then tput nh 6 G (nI j) 5 0 else G) 0) = (G 0) := by rw [if_neg (by simp [t5, t2, c_5, c_14])]
      have q1 : ((if (inR nh (nI j) && decide (tat nh 6 G (nI j) 5 = 1) && decide (tat nh 6 G (nI j) 2 = sd)) = true then tput nh 6 G (nI j) 5 0 else G) 1) = (G 1) := by rw [if_neg (by simp [t5, t2, c_5, c_14])]
      have q2 : ((if (inR nh (nI j) && decide (tat nh 6 G (nI j) 5 = 1) && decide (tat nh 6 G (nI j) 2 = sd)) = true then tput nh 6 G (nI j) 5 0 else G) 2) = (G 2) := by rw [if_neg (by simp [t5, t2, c_5, c_14])]
      have q3 : ((if (inR nh (nI j) && decide (tat nh 6 G (nI j) 5 = 1) && decide (tat nh 6 G (nI j) 2 = sd)) = true then tput nh 6 G (nI j) 5 0 else G) 3) = (G 3) := by rw [if_neg (by simp [t5, t2, c_5, c_14])]
      have q4 : ((if (inR nh (nI j) && decide (tat nh 6 G (nI j) 5 = 1) && decide (tat nh 6 G (nI j) 2 = sd)) = true then tput nh 6 G (nI j) 5 0 else G) 4) = (G 4) := by rw [if_neg (by simp [t5, t2, c_5, c_14])]
      have q5 : ((if (inR nh (nI j) && decide (tat nh 6 G (nI j) 5 = 1) && decide (tat nh 6 G (nI j) 2 = sd)) = true then tput nh 6 G (nI j) 5 0 else G) 5) = (G 5) := by rw [if_neg (by simp [t5, t2, c_5, c_14])]
      rw [q0, q1, q2, q3, q4, q5]
      exact hP
    · skip
      have c_14 : G 5 j = 1 := (hg j hj).2.2.resolve_left c_14
      refine lv_aload_n hx hb dX5_anew_17 rfl (lv_at hl 0 rfl) ?_
      refine va_get (D := D) (ci := 5) (v := .ref k11) (C := RX5) (T := TX5) (N := 26) hx hb hts hin5 hown hK hP 0 rfl rfl 11 (by decide) hf26 (fun _ h9 => h9) rfl dX5_anew_18 ?_
      refine lv_iload_n hx hb dX5_anew_21 rfl (lv_at hl 1 rfl) ?_
      refine va_ialdN (D := D) (cl := vwCl) (cA := cI) (f := G 2) hx hb hK hP 6 0 rfl rfl j (rfl) (by omega) (by first | decide | assumption) dX5_anew_22 ?_
      refine lv_iload_n hx hb dX5_anew_23 rfl (lv_at hl 2 rfl) ?_
      refine lv_icmp_eq (tgt := 29) hx hb dX5_anew_24 (by decide) (fun c_24 => ?_) (fun c_24 => ?_)
      · skip
        refine lv_aload_n hx hb dX5_anew_29 rfl (lv_at hl 0 rfl) ?_
        refine va_get (D := D) (ci := 5) (v := .ref k15) (C := RX5) (T := TX5) (N := 26) hx hb hts hin5 hown hK hP 0 rfl rfl 15 (by decide) hf38 (fun _ h9 => h9) rfl dX5_anew_30 ?_
        refine lv_iload_n hx hb dX5_anew_33 rfl (lv_at hl 1 rfl) ?_
        refine lv_iconst (v := 0) hx hb dX5_anew_34 (by decide) ?_
        refine va_zastN (D := D) (cl := vwCl) (cA := cZ) (f := G 5) (x := 0) hx hb hK hP hD hS 10 1 rfl rfl j (rfl) (by omega) (by first | decide | assumption) (by decide) dX5_anew_35 (fun H locs hP hD hS => ?_)
        have hP : va_P D vwCl [(o5, .inr (5, [.int (nI np), .int (nI nh), .int td, .int (nI nn), .int (nI nb), .int (nI ne), .ref k6, .ref k7, .ref k8, .ref k9, .ref k10, .ref k11, .ref k12, .ref k13, .ref k14, .ref k15, .ref k16, .ref k17, .ref k18, .ref k19, .ref k20, .ref k21, .ref k22, .ref k23, .ref k24, .ref k25])), (k6, .inl (cI, 96, .inl (fl 4 P))), (k7, .inl (cI, 24, .inl (P 4))), (k8, .inl (cZ, 24, .inl (P 5))), (k9, .inl (cI, 5, .inl (G 0))), (k10, .inl (cI, 5, .inl (G 1))), (k11, .inl (cI, 5, .inl (G 2))), (k12, .inl (cI, 5, .inl (G 3))), (k13, .inl (cI, 5, .inl (G 4))), (k14, .inl (cI, 5, .inl (mc))), (k15, .inl (cZ, 5, .inl (upd (G 5) j 0))), (k16, .inl (cI, 200, .inl (N 0))), (k17, .inl (cI, 200, .inl (N 1))), (k18, .inl (cI, 200, .inl (N 2))), (k19, .inl (cI, 200, .inl (N 3))), (k20, .inl (cI, 200, .inl (N 4))), (k21, .inl (cI, 20, .inl (B 0))), (k22, .inl (cI, 20, .inl (B 1))), (k23, .inl (cI, 20, .inl (B 2))), (k24, .inl (cI, 20, .inl (B 3))), (k25, .inl (cI, 1200, .inl (fl 6 E)))] H := hP
        have hD : va_D (adr _) [(o5, .inr (5, [.int (nI np), .int (nI nh), .int td, .int (nI nn), .int (nI nb), .int (nI ne), .ref k6, .ref k7, .ref k8, .ref k9, .ref k10, .ref k11, .ref k12, .ref k13, .ref k14, .ref k15, .ref k16, .ref k17, .ref k18, .ref k19, .ref k20, .ref k21, .ref k22, .ref k23, .ref k24, .ref k25])), (k6, .inl (cI, 96, .inl (fl 4 P))), (k7, .inl (cI, 24, .inl (P 4))), (k8, .inl (cZ, 24, .inl (P 5))), (k9, .inl (cI, 5, .inl (G 0))), (k10, .inl (cI, 5, .inl (G 1))), (k11, .inl (cI, 5, .inl (G 2))), (k12, .inl (cI, 5, .inl (G 3))), (k13, .inl (cI, 5, .inl (G 4))), (k14, .inl (cI, 5, .inl (mc))), (k15, .inl (cZ, 5, .inl (upd (G 5) j 0))), (k16, .inl (cI, 200, .inl (N 0))), (k17, .inl (cI, 200, .inl (N 1))), (k18, .inl (cI, 200, .inl (N 2))), (k19, .inl (cI, 200, .inl (N 3))), (k20, .inl (cI, 200, .inl (N 4))), (k21, .inl (cI, 20, .inl (B 0))), (k22, .inl (cI, 20, .inl (B 1))), (k23, .inl (cI, 20, .inl (B 2))), (k24, .inl (cI, 20, .inl (B 3))), (k25, .inl (cI, 1200, .inl (fl 6 E)))] := hD
        refine lv_iconst (v := 1) hx hb dX5_anew_36 (by decide) ?_
        refine mu_zret hx hb hr hlocks hS dX5_anew_37 ?_ ?_
        · simp [bI, t5, t2, c_5, c_14, c_24]
        have q0 : ((if (inR nh (nI j) && decide (tat nh 6 G (nI j) 5 = 1) && decide (tat nh 6 G (nI j) 2 = sd)) = true then tput nh 6 G (nI j) 5 0 else G) 0) = (G 0) := by rw [if_pos (by simp [t5, t2, c_5, c_14, c_24]), u5]; rfl
        have q1 : ((if (inR nh (nI j) && decide (tat nh 6 G (nI j) 5 = 1) && decide (tat nh 6 G (nI j) 2 = sd)) = true then tput nh 6 G (nI j) 5 0 else G) 1) = (G 1) := by rw [if_pos (by simp [t5, t2, c_5, c_14, c_24]), u5]; rfl
        have q2 : ((if (inR nh (nI j) && decide (tat nh 6 G (nI j) 5 = 1) && decide (tat nh 6 G (nI j) 2 = sd)) = true then tput nh 6 G (nI j) 5 0 else G) 2) = (G 2) := by rw [if_pos (by simp [t5, t2, c_5, c_14, c_24]), u5]; rfl
        have q3 : ((if (inR nh (nI j) && decide (tat nh 6 G (nI j) 5 = 1) && decide (tat nh 6 G (nI j) 2 = sd)) = true then tput nh 6 G (nI j) 5 0 else G) 3) = (G 3) := by rw [if_pos (by simp [t5, t2, c_5, c_14, c_24]), u5]; rfl
        have q4 : ((if (inR nh (nI j) && decide (tat nh 6 G (nI j) 5 = 1) && decide (tat nh 6 G (nI j) 2 = sd)) = true then tput nh 6 G (nI j) 5 0 else G) 4) = (G 4) := by rw [if_pos (by simp [t5, t2, c_5, c_14, c_24]), u5]; rfl
        have q5 : ((if (inR nh (nI j) && decide (tat nh 6 G (nI j) 5 = 1) && decide (tat nh 6 G (nI j) 2 = sd)) = true then tput nh 6 G (nI j) 5 0 else G) 5) = (upd (G 5) j 0) := by rw [if_pos (by simp [t5, t2, c_5, c_14, c_24]), u5]; rfl
        rw [q0, q1, q2, q3, q4, q5]
        exact hP
      · skip
        refine lv_iconst (v := 0) hx hb dX5_anew_27 (by decide) ?_
        refine mu_zret hx hb hr hlocks hS dX5_anew_28 ?_ ?_
        · simp [bI, t5, t2, c_5, c_14, c_24]
        have q0 : ((if (inR nh (nI j) && decide (tat nh 6 G (nI j) 5 = 1) && decide (tat nh 6 G (nI j) 2 = sd)) = true then tput nh 6 G (nI j) 5 0 else G) 0) = (G 0) := by rw [if_neg (by simp [t5, t2, c_5, c_14, c_24])]
        have q1 : ((if (inR nh (nI j) && decide (tat nh 6 G (nI j) 5 = 1) && decide (tat nh 6 G (nI j) 2 = sd)) = true then tput nh 6 G (nI j) 5 0 else G) 1) = (G 1) := by rw [if_neg (by simp [t5, t2, c_5, c_14, c_24])]
        have q2 : ((if (inR nh (nI j) && decide (tat nh 6 G (nI j) 5 = 1) && decide (tat nh 6 G (nI j) 2 = sd)) = true then tput nh 6 G (nI j) 5 0 else G) 2) = (G 2) := by rw [if_neg (by simp [t5, t2, c_5, c_14, c_24])]
        have q3 : ((if (inR nh (nI j) && decide (tat nh 6 G (nI j) 5 = 1) && decide (tat nh 6 G (nI j) 2 = sd)) = true then tput nh 6 G (nI j) 5 0 else G) 3) = (G 3) := by rw [if_neg (by simp [t5, t2, c_5, c_14, c_24])]
        have q4 : ((if (inR nh (nI j) && decide (tat nh 6 G (nI j) 5 = 1) && decide (tat nh 6 G (nI j) 2 = sd)) = true then tput nh 6 G (nI j) 5 0 else G) 4) = (G 4) := by rw [if_neg (by simp [t5, t2, c_5, c_14, c_24])]
        have q5 : ((if (inR nh (nI j) && decide (tat nh 6 G (nI j) 5 = 1) && decide (tat nh 6 G (nI j) 2 = sd)) = true then tput nh 6 G (nI j) 5 0 else G) 5) = (G 5) := by rw [if_neg (by simp [t5, t2, c_5, c_14, c_24])]
        rw [q0, q1, q2, q3, q4, q5]
        exact hP
set_option maxHeartbeats 4000000 in
set_option maxRecDepth 100000 in
theorem kX5_record (l : Launch) (D : va_G) (cI cZ : ClassId) (o5 k6 k7 k8 k9 k10 k11 k12 k13 k14 k15 k16 k17 k18 k19 k20 k21 k22 k23 k24 k25 np nh nn nb ne : Nat) (td : Int32) (P G N B E : Nat → Nat → Int32) (mc : Nat → Int32) (i : Int32) (w : Int32) (hne : ne ≤ 200) : Met l yX5_record wsX5_record ({ frames := 1, cells := 0, slots := 0, locals := 22 } : Room) (RdP D [(cI, .int), (cZ, .boolean)] [.ref o5, .int i, .int w] [(o5, .inr (5, [.int (nI np), .int (nI nh), .int td, .int (nI nn), .int (nI nb), .int (nI ne), .ref k6, .ref k7, .ref k8, .ref k9, .ref k10, .ref k11, .ref k12, .ref k13, .ref k14, .ref k15, .ref k16, .ref k17, .ref k18, .ref k19, .ref k20, .ref k21, .ref k22, .ref k23, .ref k24, .ref k25])), (k6, .inl (cI, 96, .inl (fl 4 P))), (k7, .inl (cI, 24, .inl (P 4))), (k8, .inl (cZ, 24, .inl (P 5))), (k9, .inl (cI, 5, .inl (G 0))), (k10, .inl (cI, 5, .inl (G 1))), (k11, .inl (cI, 5, .inl (G 2))), (k12, .inl (cI, 5, .inl (G 3))), (k13, .inl (cI, 5, .inl (G 4))), (k14, .inl (cI, 5, .inl (mc))), (k15, .inl (cZ, 5, .inl (G 5))), (k16, .inl (cI, 200, .inl (N 0))), (k17, .inl (cI, 200, .inl (N 1))), (k18, .inl (cI, 200, .inl (N 2))), (k19, .inl (cI, 200, .inl (N 3))), (k20, .inl (cI, 200, .inl (N 4))), (k21, .inl (cI, 20, .inl (B 0))), (k22, .inl (cI, 20, .inl (B 1))), (k23, .inl (cI, 20, .inl (B 2))), (k24, .inl (cI, 20, .inl (B 3))), (k25, .inl (cI, 1200, .inl (fl 6 E)))]) (QcRead (tat ne 6 E i w)) 0 0 (fun _ => False) := by
  refine rd_of (cc := cX5_record) (maxL := 3) (ret := (some .int)) (by decide) rfl (Nat.le_of_ble_eq_true rfl) ?_
  intro pp ee ss mm bw me cd ls hx hb hr hts hown hlocks hml hP hK hl
  have hl : lv_has ls 3 [(0, .ref o5), (1, .int i), (2, .int w)] := hl
  have hf126 := hts (.fieldLink RX5 126 "OtherNamesModel" "entries" "I") (by decide +kernel)
  have hin5 := (show ∀ w ∈ wsX50, w ∈ wsX5_record by decide +kernel)
  have hf68 := hts (.fieldLink RX5 68 "OtherNamesModel" "entry" "[I") (by decide +kernel)
  refine lv_iload_n hx hb dX5_record_0 rfl (lv_at hl 1 rfl) ?_
  refine lv_if_lt (tgt := 35) hx hb dX5_record_1 (by decide) (fun c_1 => ?_) (fun c_1 => ?_)
  · skip
    refine lv_iconst (v := (-1)) hx hb dX5_record_35 (by decide) ?_
    exact rd_iret hx hb hr hlocks dX5_record_36 (by rw [tat_no (by simp [inR, c_1])])
  · skip
    refine lv_iload_n hx hb dX5_record_4 rfl (lv_at hl 1 rfl) ?_
    refine lv_aload_n hx hb dX5_record_5 rfl (lv_at hl 0 rfl) ?_
    refine va_get (D := D) (ci := 5) (v := .int (nI ne)) (C := RX5) (T := TX5) (N := 26) hx hb hts hin5 hown hK hP 0 rfl rfl 5 (by decide) hf126 (fun _ h9 => h9) rfl dX5_record_6 ?_
    refine lv_icmp_ge (tgt := 35) hx hb dX5_record_9 (by decide) (fun c_9 => ?_) (fun c_9 => ?_)
    · skip
      refine lv_iconst (v := (-1)) hx hb dX5_record_35 (by decide) ?_
      exact rd_iret hx hb hr hlocks dX5_record_36 (by rw [tat_no (by simp [inR, c_1, c_9])])
    · skip
      obtain ⟨j, hj, rfl⟩ : ∃ j, j < ne ∧ i = nI j := inR_ex (by simp [inR, c_1, c_9]) (by omega)
      refine lv_iload_n hx hb dX5_record_12 rfl (lv_at hl 2 rfl) ?_
      refine lv_iconst (v := 0) hx hb dX5_record_13 (by decide) ?_
      refine lv_iconst (v := 5) hx hb dX5_record_14 (by decide) ?_
      refine rcS (As := [.int w, .int 0, .int 5]) (rest := []) ⟨hx, hb, hml, hown, hts⟩ (kX5_in l D cI cZ w 0 5) (va_cwS 3 hts gX5_record_X5_in rfl rfl rfl (by decide +kernel) ⟨Nat.le_of_ble_eq_true rfl, Nat.le_of_ble_eq_true rfl⟩) hK hP [] rfl rfl hl.1 rfl (Nat.le_of_ble_eq_true rfl) ⟨Nat.zero_le _, Nat.zero_le _⟩ dX5_record_15 ?_
      refine lb_eq (tgt := 35) hx hb dX5_record_18 (by decide) (fun c_18 => ?_) (fun c_18 => ?_)
      · skip
        refine lv_iconst (v := (-1)) hx hb dX5_record_35 (by decide) ?_
        exact rd_iret hx hb hr hlocks dX5_record_36 (by rw [tat_noc (hi := 5) c_18 rfl (by omega)])
      · skip
        obtain ⟨k_, hk_, rfl⟩ := inB_ex (hi := 5) c_18 rfl (by omega)
        refine lv_aload_n hx hb dX5_record_21 rfl (lv_at hl 0 rfl) ?_
        refine va_get (D := D) (ci := 5) (v := .ref k25) (C := RX5) (T := TX5) (N := 26) hx hb hts hin5 hown hK hP 0 rfl rfl 25 (by decide) hf68 (fun _ h9 => h9) rfl dX5_record_22 ?_
        refine lv_bipush (v := 6) hx hb dX5_record_25 (by decide) ?_
        refine lv_iload_n hx hb dX5_record_27 rfl (lv_at hl 1 rfl) ?_
        refine lv_imul hx hb dX5_record_28 ?_
        refine lv_iload_n hx hb dX5_record_29 rfl (lv_at hl 2 rfl) ?_
        refine lv_iadd hx hb dX5_record_30 ?_
        refine va_ialdN (D := D) (cl := vwCl) (cA := cI) (f := fl 6 E) hx hb hK hP 20 0 rfl rfl (j * 6 + k_) (ixI 6 j k_) (by omega) (by first | decide | assumption) dX5_record_31 ?_
        refine lv_goto (tgt := 36) hx hb dX5_record_32 (by decide) ?_
        exact rd_iret hx hb hr hlocks dX5_record_36 (by rw [fl_at (by omega), tat_nI (by omega) (by omega) hj (by omega)])
set_option maxHeartbeats 4000000 in
set_option maxRecDepth 100000 in
theorem kX5_given (l : Launch) (D : va_G) (cI cZ : ClassId) (o5 k6 k7 k8 k9 k10 k11 k12 k13 k14 k15 k16 k17 k18 k19 k20 k21 k22 k23 k24 k25 np nh nn nb ne : Nat) (td : Int32) (P G N B E : Nat → Nat → Int32) (mc : Nat → Int32) (i : Int32) (w : Int32) (hnn : nn ≤ 200) : Met l yX5_given wsX5_given ({ frames := 0, cells := 0, slots := 0, locals := 0 } : Room) (RdP D [(cI, .int), (cZ, .boolean)] [.ref o5, .int i, .int w] [(o5, .inr (5, [.int (nI np), .int (nI nh), .int td, .int (nI nn), .int (nI nb), .int (nI ne), .ref k6, .ref k7, .ref k8, .ref k9, .ref k10, .ref k11, .ref k12, .ref k13, .ref k14, .ref k15, .ref k16, .ref k17, .ref k18, .ref k19, .ref k20, .ref k21, .ref k22, .ref k23, .ref k24, .ref k25])), (k6, .inl (cI, 96, .inl (fl 4 P))), (k7, .inl (cI, 24, .inl (P 4))), (k8, .inl (cZ, 24, .inl (P 5))), (k9, .inl (cI, 5, .inl (G 0))), (k10, .inl (cI, 5, .inl (G 1))), (k11, .inl (cI, 5, .inl (G 2))), (k12, .inl (cI, 5, .inl (G 3))), (k13, .inl (cI, 5, .inl (G 4))), (k14, .inl (cI, 5, .inl (mc))), (k15, .inl (cZ, 5, .inl (G 5))), (k16, .inl (cI, 200, .inl (N 0))), (k17, .inl (cI, 200, .inl (N 1))), (k18, .inl (cI, 200, .inl (N 2))), (k19, .inl (cI, 200, .inl (N 3))), (k20, .inl (cI, 200, .inl (N 4))), (k21, .inl (cI, 20, .inl (B 0))), (k22, .inl (cI, 20, .inl (B 1))), (k23, .inl (cI, 20, .inl (B 2))), (k24, .inl (cI, 20, .inl (B 3))), (k25, .inl (cI, 1200, .inl (fl 6 E)))]) (QcRead (tat nn 5 N i w)) 0 0 (fun _ => False) := by
  refine rd_of (cc := cX5_given) (maxL := 3) (ret := (some .int)) (by decide) rfl (Nat.le_of_ble_eq_true rfl) ?_
  intro pp ee ss mm bw me cd ls hx hb hr hts hown hlocks hml hP hK hl
  have hl : lv_has ls 3 [(0, .ref o5), (1, .int i), (2, .int w)] := hl
  have hf100 := hts (.fieldLink RX5 100 "OtherNamesModel" "names" "I") (by decide +kernel)
  have hin5 := (show ∀ w ∈ wsX50, w ∈ wsX5_given by decide +kernel)
  have hf41 := hts (.fieldLink RX5 41 "OtherNamesModel" "nameHouse" "[I") (by decide +kernel)
  have hf44 := hts (.fieldLink RX5 44 "OtherNamesModel" "nameOf" "[I") (by decide +kernel)
  have hf47 := hts (.fieldLink RX5 47 "OtherNamesModel" "owner" "[I") (by decide +kernel)
  have hf50 := hts (.fieldLink RX5 50 "OtherNamesModel" "nameDay" "[I") (by decide +kernel)
  have hf53 := hts (.fieldLink RX5 53 "OtherNamesModel" "nameSpan" "[I") (by decide +kernel)
  refine lv_iload_n hx hb dX5_given_0 rfl (lv_at hl 1 rfl) ?_
  refine lv_if_lt (tgt := 12) hx hb dX5_given_1 (by decide) (fun c_1 => ?_) (fun c_1 => ?_)
  · skip
    refine lv_iconst (v := (-1)) hx hb dX5_given_12 (by decide) ?_
    exact rd_iret hx hb hr hlocks dX5_given_13 (by rw [tat_no (by simp [inR, c_1])])
  · skip
    refine lv_iload_n hx hb dX5_given_4 rfl (lv_at hl 1 rfl) ?_
    refine lv_aload_n hx hb dX5_given_5 rfl (lv_at hl 0 rfl) ?_
    refine va_get (D := D) (ci := 5) (v := .int (nI nn)) (C := RX5) (T := TX5) (N := 26) hx hb hts hin5 hown hK hP 0 rfl rfl 3 (by decide) hf100 (fun _ h9 => h9) rfl dX5_given_6 ?_
    refine lv_icmp_lt (tgt := 14) hx hb dX5_given_9 (by decide) (fun c_9 => ?_) (fun c_9 => ?_)
    · skip
      obtain ⟨j, hj, rfl⟩ : ∃ j, j < nn ∧ i = nI j := inR_ex (inR_ylt c_1 c_9) (by omega)
      refine lv_iload_n hx hb dX5_given_14 rfl (lv_at hl 2 rfl) ?_
      rcases Classical.em (w = 0) with c_15 | c_15_0
      · skip
        refine lv_tableIn (tgt := 48) hx hb dX5_given_15 (by rw [c_15]; decide) (by rw [c_15]; decide) (by rw [c_15]; rfl) (by decide) ?_
        refine lv_aload_n hx hb dX5_given_48 rfl (lv_at hl 0 rfl) ?_
        refine va_get (D := D) (ci := 5) (v := .ref k16) (C := RX5) (T := TX5) (N := 26) hx hb hts hin5 hown hK hP 0 rfl rfl 16 (by decide) hf41 (fun _ h9 => h9) rfl dX5_given_49 ?_
        refine lv_iload_n hx hb dX5_given_52 rfl (lv_at hl 1 rfl) ?_
        refine va_ialdN (D := D) (cl := vwCl) (cA := cI) (f := N 0) hx hb hK hP 11 0 rfl rfl j (rfl) (by omega) (by first | decide | assumption) dX5_given_53 ?_
        exact rd_iret hx hb hr hlocks dX5_given_54 (by rw [c_15]; exact (tat_nI (c := 0) (by omega) (by omega) hj (by omega)).symm)
      rcases Classical.em (w = 1) with c_15 | c_15_1
      · skip
        refine lv_tableIn (tgt := 55) hx hb dX5_given_15 (by rw [c_15]; decide) (by rw [c_15]; decide) (by rw [c_15]; rfl) (by decide) ?_
        refine lv_aload_n hx hb dX5_given_55 rfl (lv_at hl 0 rfl) ?_
        refine va_get (D := D) (ci := 5) (v := .ref k17) (C := RX5) (T := TX5) (N := 26) hx hb hts hin5 hown hK hP 0 rfl rfl 17 (by decide) hf44 (fun _ h9 => h9) rfl dX5_given_56 ?_
        refine lv_iload_n hx hb dX5_given_59 rfl (lv_at hl 1 rfl) ?_
        refine va_ialdN (D := D) (cl := vwCl) (cA := cI) (f := N 1) hx hb hK hP 12 0 rfl rfl j (rfl) (by omega) (by first | decide | assumption) dX5_given_60 ?_
        exact rd_iret hx hb hr hlocks dX5_given_61 (by rw [c_15]; exact (tat_nI (c := 1) (by omega) (by omega) hj (by omega)).symm)
      rcases Classical.em (w = 2) with c_15 | c_15_2
      · skip
        refine lv_tableIn (tgt := 62) hx hb dX5_given_15 (by rw [c_15]; decide) (by rw [c_15]; decide) (by rw [c_15]; rfl) (by decide) ?_
        refine lv_aload_n hx hb dX5_given_62 rfl (lv_at hl 0 rfl) ?_
        refine va_get (D := D) (ci := 5) (v := .ref k18) (C := RX5) (T := TX5) (N := 26) hx hb hts hin5 hown hK hP 0 rfl rfl 18 (by decide) hf47 (fun _ h9 => h9) rfl dX5_given_63 ?_
        refine lv_iload_n hx hb dX5_given_66 rfl (lv_at hl 1 rfl) ?_
        refine va_ialdN (D := D) (cl := vwCl) (cA := cI) (f := N 2) hx hb hK hP 13 0 rfl rfl j (rfl) (by omega) (by first | decide | assumption) dX5_given_67 ?_
        exact rd_iret hx hb hr hlocks dX5_given_68 (by rw [c_15]; exact (tat_nI (c := 2) (by omega) (by omega) hj (by omega)).symm)
      rcases Classical.em (w = 3) with c_15 | c_15_3
      · skip
        refine lv_tableIn (tgt := 69) hx hb dX5_given_15 (by rw [c_15]; decide) (by rw [c_15]; decide) (by rw [c_15]; rfl) (by decide) ?_
        refine lv_aload_n hx hb dX5_given_69 rfl (lv_at hl 0 rfl) ?_
        refine va_get (D := D) (ci := 5) (v := .ref k19) (C := RX5) (T := TX5) (N := 26) hx hb hts hin5 hown hK hP 0 rfl rfl 19 (by decide) hf50 (fun _ h9 => h9) rfl dX5_given_70 ?_
        refine lv_iload_n hx hb dX5_given_73 rfl (lv_at hl 1 rfl) ?_
        refine va_ialdN (D := D) (cl := vwCl) (cA := cI) (f := N 3) hx hb hK hP 14 0 rfl rfl j (rfl) (by omega) (by first | decide | assumption) dX5_given_74 ?_
        exact rd_iret hx hb hr hlocks dX5_given_75 (by rw [c_15]; exact (tat_nI (c := 3) (by omega) (by omega) hj (by omega)).symm)
      rcases Classical.em (w = 4) with c_15 | c_15_4
      · skip
        refine lv_tableIn (tgt := 76) hx hb dX5_given_15 (by rw [c_15]; decide) (by rw [c_15]; decide) (by rw [c_15]; rfl) (by decide) ?_
        refine lv_aload_n hx hb dX5_given_76 rfl (lv_at hl 0 rfl) ?_
        refine va_get (D := D) (ci := 5) (v := .ref k20) (C := RX5) (T := TX5) (N := 26) hx hb hts hin5 hown hK hP 0 rfl rfl 20 (by decide) hf53 (fun _ h9 => h9) rfl dX5_given_77 ?_
        refine lv_iload_n hx hb dX5_given_80 rfl (lv_at hl 1 rfl) ?_
        refine va_ialdN (D := D) (cl := vwCl) (cA := cI) (f := N 4) hx hb hK hP 15 0 rfl rfl j (rfl) (by omega) (by first | decide | assumption) dX5_given_81 ?_
        exact rd_iret hx hb hr hlocks dX5_given_82 (by rw [c_15]; exact (tat_nI (c := 4) (by omega) (by omega) hj (by omega)).symm)
      refine lv_tableOut (tgt := 83) hx hb dX5_given_15 (by have g0 := lv_neT (a := 0) c_15_0 (by decide); have g1 := lv_neT (a := 1) c_15_1 (by decide); have g2 := lv_neT (a := 2) c_15_2 (by decide); have g3 := lv_neT (a := 3) c_15_3 (by decide); have g4 := lv_neT (a := 4) c_15_4 (by decide); omega) (by decide) ?_
      refine lv_iconst (v := (-1)) hx hb dX5_given_83 (by decide) ?_
      exact rd_iret hx hb hr hlocks dX5_given_84 (by rw [tat_nocs c_15_0 c_15_1 c_15_2 c_15_3 c_15_4])
    · skip
      refine lv_iconst (v := (-1)) hx hb dX5_given_12 (by decide) ?_
      exact rd_iret hx hb hr hlocks dX5_given_13 (by rw [tat_no (inR_nlt c_9)])

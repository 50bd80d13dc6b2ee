set_option maxHeartbeats 4000000 in
set_option maxRecDepth 100000 in
theorem kX5_in (l : Launch) (D : va_G) (cI cZ : ClassId)  (v : Int32) (lo : Int32) (hi : Int32) : Met l yX5_in wsX5_in ({ frames := 0, cells := 0, slots := 0, locals := 0 } : Room) (RdP D [(cI, .int), (cZ, .boolean)] [.int v, .int lo, .int hi] []) (QcRead (bI (inB v lo hi))) 0 0 (fun _ => False) := by
  refine rd_of (cc := cX5_in) (maxL := 3) (ret := (some .boolean)) (by decide) rfl (Nat.le_of_ble_eq_true rfl) ?_
  intro pp ee ss mm bw me cd ls hx hb hr hts hown hlocks hml hP hK hl
  have hl : lv_has ls 3 [(0, .int v), (1, .int lo), (2, .int hi)] := hl
  refine lv_iload_n hx hb dX5_in_0 rfl (lv_at hl 0 rfl) ?_
  refine lv_iload_n hx hb dX5_in_1 rfl (lv_at hl 1 rfl) ?_
  refine lv_icmp_lt (tgt := 14) hx hb dX5_in_2 (by decide) (fun c_2 => ?_) (fun c_2 => ?_)
  · skip
    refine lv_iconst (v := 0) hx hb dX5_in_14 (by decide) ?_
    exact rd_zret hx hb hr hlocks dX5_in_15 (by simp [bI, inB, c_2])
  · skip
    refine lv_iload_n hx hb dX5_in_5 rfl (lv_at hl 0 rfl) ?_
    refine lv_iload_n hx hb dX5_in_6 rfl (lv_at hl 2 rfl) ?_
    refine lv_icmp_gt (tgt := 14) hx hb dX5_in_7 (by decide) (fun c_7 => ?_) (fun c_7 => ?_)
    · skip
      refine lv_iconst (v := 0) hx hb dX5_in_14 (by decide) ?_
      exact rd_zret hx hb hr hlocks dX5_in_15 (by simp [bI, inB, c_2, c_7])
    · skip
      refine lv_iconst (v := 1) hx hb dX5_in_10 (by decide) ?_
      refine lv_goto (tgt := 15) hx hb dX5_in_11 (by decide) ?_
      exact rd_zret hx hb hr hlocks dX5_in_15 (by simp [bI, inB, c_2, c_7])
set_option maxHeartbeats 4000000 in
set_option maxRecDepth 100000 in
theorem kX5_isMark (l : Launch) (D : va_G) (cI cZ : ClassId)  (n : Int32) : Met l yX5_isMark wsX5_isMark ({ frames := 0, cells := 0, slots := 0, locals := 0 } : Room) (RdP D [(cI, .int), (cZ, .boolean)] [.int n] []) (QcRead (bI (inB n 0 7))) 0 0 (fun _ => False) := by
  refine rd_of (cc := cX5_isMark) (maxL := 1) (ret := (some .boolean)) (by decide) rfl (Nat.le_of_ble_eq_true rfl) ?_
  intro pp ee ss mm bw me cd ls hx hb hr hts hown hlocks hml hP hK hl
  have hl : lv_has ls 1 [(0, .int n)] := hl
  refine lv_iload_n hx hb dX5_isMark_0 rfl (lv_at hl 0 rfl) ?_
  refine lv_if_lt (tgt := 14) hx hb dX5_isMark_1 (by decide) (fun c_1 => ?_) (fun c_1 => ?_)
  · skip
    refine lv_iconst (v := 0) hx hb dX5_isMark_14 (by decide) ?_
    exact rd_zret hx hb hr hlocks dX5_isMark_15 (by simp [bI, inB, c_1])
  · skip
    refine lv_iload_n hx hb dX5_isMark_4 rfl (lv_at hl 0 rfl) ?_
    refine lv_bipush (v := 7) hx hb dX5_isMark_5 (by decide) ?_
    refine lv_icmp_gt (tgt := 14) hx hb dX5_isMark_7 (by decide) (fun c_7 => ?_) (fun c_7 => ?_)
    · skip
      refine lv_iconst (v := 0) hx hb dX5_isMark_14 (by decide) ?_
      exact rd_zret hx hb hr hlocks dX5_isMark_15 (by simp [bI, inB, c_1, c_7])
    · skip
      refine lv_iconst (v := 1) hx hb dX5_isMark_10 (by decide) ?_
      refine lv_goto (tgt := 15) hx hb dX5_isMark_11 (by decide) ?_
      exact rd_zret hx hb hr hlocks dX5_isMark_15 (by simp [bI, inB, c_1, c_7])
set_option maxHeartbeats 4000000 in
set_option maxRecDepth 100000 in
theorem kX5_isPerson (l : Launch) (D : va_G) (cI cZ : ClassId) (o5 k6 k7 k8 k9 k10 k11 k12 k13 k14 k15 k16 k17 k18 k19 k20 k21 k22 k23 k24 k25 np nh nn nb ne : Nat) (td : Int32) (P G N B E : Nat → Nat → Int32) (mc : Nat → Int32) (p : Int32) : Met l yX5_isPerson wsX5_isPerson ({ frames := 0, cells := 0, slots := 0, locals := 0 } : Room) (RdP D [(cI, .int), (cZ, .boolean)] [.ref o5, .int p] [(o5, .inr (5, [.int (nI np), .int (nI nh), .int td, .int (nI nn), .int (nI nb), .int (nI ne), .ref k6, .ref k7, .ref k8, .ref k9, .ref k10, .ref k11, .ref k12, .ref k13, .ref k14, .ref k15, .ref k16, .ref k17, .ref k18, .ref k19, .ref k20, .ref k21, .ref k22, .ref k23, .ref k24, .ref k25])), (k6, .inl (cI, 96, .inl (fl 4 P))), (k7, .inl (cI, 24, .inl (P 4))), (k8, .inl (cZ, 24, .inl (P 5))), (k9, .inl (cI, 5, .inl (G 0))), (k10, .inl (cI, 5, .inl (G 1))), (k11, .inl (cI, 5, .inl (G 2))), (k12, .inl (cI, 5, .inl (G 3))), (k13, .inl (cI, 5, .inl (G 4))), (k14, .inl (cI, 5, .inl (mc))), (k15, .inl (cZ, 5, .inl (G 5))), (k16, .inl (cI, 200, .inl (N 0))), (k17, .inl (cI, 200, .inl (N 1))), (k18, .inl (cI, 200, .inl (N 2))), (k19, .inl (cI, 200, .inl (N 3))), (k20, .inl (cI, 200, .inl (N 4))), (k21, .inl (cI, 20, .inl (B 0))), (k22, .inl (cI, 20, .inl (B 1))), (k23, .inl (cI, 20, .inl (B 2))), (k24, .inl (cI, 20, .inl (B 3))), (k25, .inl (cI, 1200, .inl (fl 6 E)))]) (QcRead (bI (inR np p))) 0 0 (fun _ => False) := by
  refine rd_of (cc := cX5_isPerson) (maxL := 2) (ret := (some .boolean)) (by decide) rfl (Nat.le_of_ble_eq_true rfl) ?_
  intro pp ee ss mm bw me cd ls hx hb hr hts hown hlocks hml hP hK hl
  have hl : lv_has ls 2 [(0, .ref o5), (1, .int p)] := hl
  have hf71 := hts (.fieldLink RX5 71 "OtherNamesModel" "people" "I") (by decide +kernel)
  have hin5 := (show ∀ w ∈ wsX50, w ∈ wsX5_isPerson by decide +kernel)
  refine lv_iload_n hx hb dX5_isPerson_0 rfl (lv_at hl 1 rfl) ?_
  refine lv_if_lt (tgt := 16) hx hb dX5_isPerson_1 (by decide) (fun c_1 => ?_) (fun c_1 => ?_)
  · skip
    refine lv_iconst (v := 0) hx hb dX5_isPerson_16 (by decide) ?_
    exact rd_zret hx hb hr hlocks dX5_isPerson_17 (by simp [bI, inR, c_1])
  · skip
    refine lv_iload_n hx hb dX5_isPerson_4 rfl (lv_at hl 1 rfl) ?_
    refine lv_aload_n hx hb dX5_isPerson_5 rfl (lv_at hl 0 rfl) ?_
    refine va_get (D := D) (ci := 5) (v := .int (nI np)) (C := RX5) (T := TX5) (N := 26) hx hb hts hin5 hown hK hP 0 rfl rfl 0 (by decide) hf71 (fun _ h9 => h9) rfl dX5_isPerson_6 ?_
    refine lv_icmp_ge (tgt := 16) hx hb dX5_isPerson_9 (by decide) (fun c_9 => ?_) (fun c_9 => ?_)
    · skip
      refine lv_iconst (v := 0) hx hb dX5_isPerson_16 (by decide) ?_
      exact rd_zret hx hb hr hlocks dX5_isPerson_17 (by simp [bI, inR, c_1, c_9])
    · skip
      refine lv_iconst (v := 1) hx hb dX5_isPerson_12 (by decide) ?_
      refine lv_goto (tgt := 17) hx hb dX5_isPerson_13 (by decide) ?_
      exact rd_zret hx hb hr hlocks dX5_isPerson_17 (by simp [bI, inR, c_1, c_9])
set_option maxHeartbeats 4000000 in
set_option maxRecDepth 100000 in
theorem kX5_isHouse (l : Launch) (D : va_G) (cI cZ : ClassId) (o5 k6 k7 k8 k9 k10 k11 k12 k13 k14 k15 k16 k17 k18 k19 k20 k21 k22 k23 k24 k25 np nh nn nb ne : Nat) (td : Int32) (P G N B E : Nat → Nat → Int32) (mc : Nat → Int32) (h : Int32) : Met l yX5_isHouse wsX5_isHouse ({ frames := 0, cells := 0, slots := 0, locals := 0 } : Room) (RdP D [(cI, .int), (cZ, .boolean)] [.ref o5, .int h] [(o5, .inr (5, [.int (nI np), .int (nI nh), .int td, .int (nI nn), .int (nI nb), .int (nI ne), .ref k6, .ref k7, .ref k8, .ref k9, .ref k10, .ref k11, .ref k12, .ref k13, .ref k14, .ref k15, .ref k16, .ref k17, .ref k18, .ref k19, .ref k20, .ref k21, .ref k22, .ref k23, .ref k24, .ref k25])), (k6, .inl (cI, 96, .inl (fl 4 P))), (k7, .inl (cI, 24, .inl (P 4))), (k8, .inl (cZ, 24, .inl (P 5))), (k9, .inl (cI, 5, .inl (G 0))), (k10, .inl (cI, 5, .inl (G 1))), (k11, .inl (cI, 5, .inl (G 2))), (k12, .inl (cI, 5, .inl (G 3))), (k13, .inl (cI, 5, .inl (G 4))), (k14, .inl (cI, 5, .inl (mc))), (k15, .inl (cZ, 5, .inl (G 5))), (k16, .inl (cI, 200, .inl (N 0))), (k17, .inl (cI, 200, .inl (N 1))), (k18, .inl (cI, 200, .inl (N 2))), (k19, .inl (cI, 200, .inl (N 3))), (k20, .inl (cI, 200, .inl (N 4))), (k21, .inl (cI, 20, .inl (B 0))), (k22, .inl (cI, 20, .inl (B 1))), (k23, .inl (cI, 20, .inl (B 2))), (k24, .inl (cI, 20, .inl (B 3))), (k25, .inl (cI, 1200, .inl (fl 6 E)))]) (QcRead (bI (inR nh h))) 0 0 (fun _ => False) := by
  refine rd_of (cc := cX5_isHouse) (maxL := 2) (ret := (some .boolean)) (by decide) rfl (Nat.le_of_ble_eq_true rfl) ?_
  intro pp ee ss mm bw me cd ls hx hb hr hts hown hlocks hml hP hK hl
  have hl : lv_has ls 2 [(0, .ref o5), (1, .int h)] := hl
  have hf97 := hts (.fieldLink RX5 97 "OtherNamesModel" "houses" "I") (by decide +kernel)
  have hin5 := (show ∀ w ∈ wsX50, w ∈ wsX5_isHouse by decide +kernel)
  refine lv_iload_n hx hb dX5_isHouse_0 rfl (lv_at hl 1 rfl) ?_
  refine lv_if_lt (tgt := 16) hx hb dX5_isHouse_1 (by decide) (fun c_1 => ?_) (fun c_1 => ?_)
  · skip
    refine lv_iconst (v := 0) hx hb dX5_isHouse_16 (by decide) ?_
    exact rd_zret hx hb hr hlocks dX5_isHouse_17 (by simp [bI, inR, c_1])
  · skip
    refine lv_iload_n hx hb dX5_isHouse_4 rfl (lv_at hl 1 rfl) ?_
    refine lv_aload_n hx hb dX5_isHouse_5 rfl (lv_at hl 0 rfl) ?_
    refine va_get (D := D) (ci := 5) (v := .int (nI nh)) (C := RX5) (T := TX5) (N := 26) hx hb hts hin5 hown hK hP 0 rfl rfl 1 (by decide) hf97 (fun _ h9 => h9) rfl dX5_isHouse_6 ?_
    refine lv_icmp_ge (tgt := 16) hx hb dX5_isHouse_9 (by decide) (fun c_9 => ?_) (fun c_9 => ?_)
    · skip
      refine lv_iconst (v := 0) hx hb dX5_isHouse_16 (by decide) ?_
      exact rd_zret hx hb hr hlocks dX5_isHouse_17 (by simp [bI, inR, c_1, c_9])
    · skip
      refine lv_iconst (v := 1) hx hb dX5_isHouse_12 (by decide) ?_
      refine lv_goto (tgt := 17) hx hb dX5_isHouse_13 (by decide) ?_
      exact rd_zret hx hb hr hlocks dX5_isHouse_17 (by simp [bI, inR, c_1, c_9])
set_option maxHeartbeats 4000000 in
set_option maxRecDepth 100000 in
theorem kX5_head (l : Launch) (D : va_G) (cI cZ : ClassId) (o5 k6 k7 k8 k9 k10 k11 k12 k13 k14 k15 k16 k17 k18 k19 k20 k21 k22 k23 k24 k25 np nh nn nb ne : Nat) (td : Int32) (P G N B E : Nat → Nat → Int32) (mc : Nat → Int32) (p : Nat) (hnp : np ≤ 24) (hw : HP np (P 4)) (hp : p < np) : Met l yX5_head wsX5_head ({ frames := 0, cells := 0, slots := 0, locals := 0 } : Room) (RdP D [(cI, .int), (cZ, .boolean)] [.ref o5, .int (nI p)] [(o5, .inr (5, [.int (nI np), .int (nI nh), .int td, .int (nI nn), .int (nI nb), .int (nI ne), .ref k6, .ref k7, .ref k8, .ref k9, .ref k10, .ref k11, .ref k12, .ref k13, .ref k14, .ref k15, .ref k16, .ref k17, .ref k18, .ref k19, .ref k20, .ref k21, .ref k22, .ref k23, .ref k24, .ref k25])), (k6, .inl (cI, 96, .inl (fl 4 P))), (k7, .inl (cI, 24, .inl (P 4))), (k8, .inl (cZ, 24, .inl (P 5))), (k9, .inl (cI, 5, .inl (G 0))), (k10, .inl (cI, 5, .inl (G 1))), (k11, .inl (cI, 5, .inl (G 2))), (k12, .inl (cI, 5, .inl (G 3))), (k13, .inl (cI, 5, .inl (G 4))), (k14, .inl (cI, 5, .inl (mc))), (k15, .inl (cZ, 5, .inl (G 5))), (k16, .inl (cI, 200, .inl (N 0))), (k17, .inl (cI, 200, .inl (N 1))), (k18, .inl (cI, 200, .inl (N 2))), (k19, .inl (cI, 200, .inl (N 3))), (k20, .inl (cI, 200, .inl (N 4))), (k21, .inl (cI, 20, .inl (B 0))), (k22, .inl (cI, 20, .inl (B 1))), (k23, .inl (cI, 20, .inl (B 2))), (k24, .inl (cI, 20, .inl (B 3))), (k25, .inl (cI, 1200, .inl (fl 6 E)))]) (QcRead (nI (hd (P 4) p))) 0 0 (fun _ => False) := by
  refine rd_of (cc := cX5_head) (maxL := 3) (ret := (some .int)) (by decide) rfl (Nat.le_of_ble_eq_true rfl) ?_
  intro pp ee ss mm bw me cd ls hx hb hr hts hown hlocks hml hP hK hl
  have hl : lv_has ls 3 [(0, .ref o5), (1, .int ((nI p)))] := hl
  have hf13 := hts (.fieldLink RX5 13 "OtherNamesModel" "within" "[I") (by decide +kernel)
  have hin5 := (show ∀ w ∈ wsX50, w ∈ wsX5_head by decide +kernel)
  refine lv_iload_n hx hb dX5_head_0 rfl (lv_at hl 1 rfl) ?_
  refine lv_istore_n (lv' := [(2, .int ((nI p))), (0, .ref o5), (1, .int ((nI p)))]) hx hb dX5_head_1 rfl hl (by decide) rfl (fun ls hl => ?_)
  have loop : ∀ (k : Nat) (i q : Nat) (ls : Array Slot), i ≤ 24 → q < np → hdF (24 - i) (P 4) q = hd (P 4) p → 24 < i + k → lv_has ls 3 [(0, .ref o5), (1, .int ((nI p))), (2, .int (nI q))] → W pp l ee ({ frames := 0, cells := 0, slots := 0, locals := 0 } : Room) ss mm ([.ref o5, .int (nI p)] : List Value).toArray bw me cd ss.heap [] 0 0 (MQ bw (QcRead (nI (hd (P 4) p))) ([.ref o5, .int (nI p)] : List Value).toArray ss 0 0 (fun _ => False)) (F0 mm 2 ls []) := by
    intro k
    induction k with
    | zero => intro i q ls hi hq he hk; exact absurd hk (by omega)
    | succ k ih =>
      intro i q ls hi hq he hk hl
      refine lv_aload_n hx hb dX5_head_2 rfl (lv_at hl 0 rfl) ?_
      refine va_get (D := D) (ci := 5) (v := .ref k7) (C := RX5) (T := TX5) (N := 26) hx hb hts hin5 hown hK hP 0 rfl rfl 7 (by decide) hf13 (fun _ h9 => h9) rfl dX5_head_3 ?_
      refine lv_iload_n hx hb dX5_head_6 rfl (lv_at hl 2 rfl) ?_
      refine va_ialdN (D := D) (cl := vwCl) (cA := cI) (f := P 4) hx hb hK hP 2 0 rfl rfl q (rfl) (by omega) (by first | decide | assumption) dX5_head_7 ?_
      refine lv_iconst (v := (-1)) hx hb dX5_head_8 (by decide) ?_
      refine lv_icmp_eq (tgt := 22) hx hb dX5_head_9 (by decide) (fun c_9 => ?_) (fun c_9 => ?_)
      · skip
        refine lv_iload_n hx hb dX5_head_22 rfl (lv_at hl 2 rfl) ?_
        exact rd_iret hx hb hr hlocks dX5_head_23 (by rw [← he, hdF_root c_9])
      · skip
        have hi2 : i < 24 := by
          rcases Nat.lt_or_ge i 24 with z | z
          · exact z
          · have e0 : i = 24 := by omega
            rw [e0] at he
            have e1 : q = hd (P 4) p := he
            exact absurd (by rw [e1]; exact hw.root hnp hp) c_9
        obtain ⟨q2, hq2, e2⟩ := (hw.1 q hq).resolve_left c_9
        refine lv_aload_n hx hb dX5_head_12 rfl (lv_at hl 0 rfl) ?_
        refine va_get (D := D) (ci := 5) (v := .ref k7) (C := RX5) (T := TX5) (N := 26) hx hb hts hin5 hown hK hP 0 rfl rfl 7 (by decide) hf13 (fun _ h9 => h9) rfl dX5_head_13 ?_
        refine lv_iload_n hx hb dX5_head_16 rfl (lv_at hl 2 rfl) ?_
        refine va_ialdN (D := D) (cl := vwCl) (cA := cI) (f := P 4) hx hb hK hP 2 0 rfl rfl q (rfl) (by omega) (by first | decide | assumption) dX5_head_17 ?_
        rw [show ((P 4) q) = nI q2 from e2]
        refine lv_istore_n (lv' := [(2, .int (nI q2)), (0, .ref o5), (1, .int ((nI p)))]) hx hb dX5_head_18 rfl hl (by decide) rfl (fun ls hl => ?_)
        refine lv_goto (tgt := 2) hx hb dX5_head_19 (by decide) ?_
        exact ih (i + 1) q2 ls (by omega) hq2 (by rw [← he, show 24 - i = (24 - (i + 1)) + 1 by omega, hdF_step e2 c_9 (by omega)]) (by omega) (lv_sub hl [1, 2, 0] rfl)
  exact loop 25 0 p ls (by omega) hp rfl (by omega) (lv_sub hl [1, 2, 0] rfl)

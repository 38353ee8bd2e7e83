theorem tk_le {k c : Int32} : k ≤ c ↔ ¬ c < k := by
  rw [Int32.le_iff_toInt_le, Int32.lt_iff_toInt_lt]
  omega
theorem tk_gt {k c : Int32} : ¬ k ≤ c ↔ c < k := by
  rw [Int32.le_iff_toInt_le, Int32.lt_iff_toInt_lt]
  omega

theorem in_X6_delay_X6 : ∀ w ∈ u_ws RX6 TX6 34, w ∈ wsX6_delay := fun w h => List.mem_cons_of_mem _ (List.mem_append_right _ h)
set_option maxHeartbeats 4000000 in
set_option maxRecDepth 100000 in
theorem c_X6_delay {l : Launch} {D : va_G} {A : Nat → Prop} {cI cS cB cZ : ClassId} {M : Nat → Option va_E} {sz : Nat} {mo dk it tq qq qg r1 r2 r3 sc hd : Nat} {k : Int32} (h_mo : M mo = some (Sum.inr (6, [.ref dk, .ref it, .int 1, .int (-1), .int 0, .int 10, .int 0, .int 0, .ref tq, .int 0, .ref qq, .int 0, .ref qg, .int 0, .int 0, .int 0, .int 1, .int 1, .int 1, .int 2, .int 2, .int 1, .int 0, .ref r1, .ref r2, .ref r3, .ref sc, .int 0, .ref hd, .int 0, .int 0, .int 0, .int 0, .int 0]) : va_E)) : Met l yX6_delay wsX6_delay ({ frames := 0, cells := 0, slots := 0, locals := 0 }) (mm_Pc D A (mm_T cI cS cB cZ) M sz [.ref mo, .int k]) (mm_Qi D A (fun r M1 => r = tk_f k)) 0 0 A := by
  refine mm_met (cc := cX6_delay) (maxL := 2) (ret := (some .boolean)) (by decide) rfl (Nat.le_of_ble_eq_true rfl) ?_
  intro p e s m args below meth c hx hb hr hts hown hlk hin hml hsz hK hM hS ls hl
  subst hsz
  have hl : lv_has ls 2 [(0, .ref mo), (1, .int k)] := hl
  refine lv_aload_n hx hb dX6_delay_0 rfl (lv_at hl 0 rfl) ?_
  refine mm_get (v := .int 1) (ci := 6) (C := RX6) (T := TX6) (N := 34) hx hb hts (in_X6_delay_X6) hown hK hM h_mo rfl 2 (by decide) (hts (.fieldLink RX6 17 "GroupLogModel" "isOn" "Z") (List.mem_of_getElem? (i := 1) rfl)) rfl dX6_delay_1 ?_
  refine lv_if_eq (tgt := 19) hx hb dX6_delay_4 (by decide) (fun c_1 => ?_) (fun c_1 => ?_)
  · exact absurd c_1 (by decide)
  refine lv_iload_n hx hb dX6_delay_7 rfl (lv_at hl 1 rfl) ?_
  refine lv_iconst (v := 1) hx hb dX6_delay_8 (by decide) ?_
  refine lv_icmp_lt (tgt := 19) hx hb dX6_delay_9 (by decide) (fun c_2 => ?_) (fun c_2 => ?_)
  · skip
    refine lv_iconst (v := 0) hx hb dX6_delay_19 (by decide) ?_
    exact mm_zret hx hb hr hlk (rfl) hM hS (by unfold tk_f; rw [if_pos c_2]) dX6_delay_20
  · skip
    refine lv_iload_n hx hb dX6_delay_12 rfl (lv_at hl 1 rfl) ?_
    refine lv_sipush (v := 1000) hx hb dX6_delay_13 (by decide) ?_
    refine lv_icmp_le (tgt := 21) hx hb dX6_delay_16 (by decide) (fun c_3 => ?_) (fun c_3 => ?_)
    · skip
      refine lv_aload_n hx hb dX6_delay_21 rfl (lv_at hl 0 rfl) ?_
      refine lv_iload_n hx hb dX6_delay_22 rfl (lv_at hl 1 rfl) ?_
      refine mm_put (v := .int k) (ci := 6) (C := RX6) (T := TX6) (N := 34) hx hb hts (in_X6_delay_X6) tyX6 tyX6_ok nmX6 hown hK hM hS h_mo rfl 5 (by decide) (hts (.fieldLink RX6 25 "GroupLogModel" "delay" "I") (List.mem_of_getElem? (i := 2) rfl)) rfl rfl rfl (Nat.le_of_ble_eq_true rfl) dX6_delay_23 (fun H locs M hM ha ho hS => ?_)
      have h_mo : _ = some (Sum.inr (6, [.ref dk, .ref it, .int 1, .int (-1), .int 0, .int k, .int 0, .int 0, .ref tq, .int 0, .ref qq, .int 0, .ref qg, .int 0, .int 0, .int 0, .int 1, .int 1, .int 1, .int 2, .int 2, .int 1, .int 0, .ref r1, .ref r2, .ref r3, .ref sc, .int 0, .ref hd, .int 0, .int 0, .int 0, .int 0, .int 0]) : va_E) := ha
      refine lv_iconst (v := 1) hx hb dX6_delay_26 (by decide) ?_
      exact mm_zret hx hb hr hlk (rfl) hM hS (by unfold tk_f; rw [if_neg c_2, if_neg (tk_le.mp c_3)]) dX6_delay_27
    · skip
      refine lv_iconst (v := 0) hx hb dX6_delay_19 (by decide) ?_
      exact mm_zret hx hb hr hlk (rfl) hM hS (by unfold tk_f; rw [if_neg c_2, if_pos (tk_gt.mp c_3)]) dX6_delay_20

theorem in_X6_feed_X6 : ∀ w ∈ u_ws RX6 TX6 34, w ∈ wsX6_feed := fun w h => List.mem_cons_of_mem _ (List.mem_append_right _ h)
set_option maxHeartbeats 4000000 in
set_option maxRecDepth 100000 in
theorem c_X6_feed {l : Launch} {D : va_G} {A : Nat → Prop} {cI cS cB cZ : ClassId} {M : Nat → Option va_E} {sz : Nat} {mo dk it tq qq qg r1 r2 r3 sc hd : Nat} {k : Int32} (h_mo : M mo = some (Sum.inr (6, [.ref dk, .ref it, .int 1, .int (-1), .int 0, .int 10, .int 0, .int 0, .ref tq, .int 0, .ref qq, .int 0, .ref qg, .int 0, .int 0, .int 0, .int 1, .int 1, .int 1, .int 2, .int 2, .int 1, .int 0, .ref r1, .ref r2, .ref r3, .ref sc, .int 0, .ref hd, .int 0, .int 0, .int 0, .int 0, .int 0]) : va_E)) (h_tq : M tq = some (Sum.inl (cB, 200, .inl (fun _ => 0)) : va_E)) : Met l yX6_feed wsX6_feed ({ frames := 0, cells := 0, slots := 0, locals := 0 }) (mm_Pc D A (mm_T cI cS cB cZ) M sz [.ref mo, .int k]) (mm_Qi D A (fun r M1 => r = fd_f k)) 0 0 A := by
  refine mm_met (cc := cX6_feed) (maxL := 2) (ret := (some .boolean)) (by decide) rfl (Nat.le_of_ble_eq_true rfl) ?_
  intro p e s m args below meth c hx hb hr hts hown hlk hin hml hsz hK hM hS ls hl
  subst hsz
  have hl : lv_has ls 2 [(0, .ref mo), (1, .int k)] := hl
  refine lv_iload_n hx hb dX6_feed_0 rfl (lv_at hl 1 rfl) ?_
  refine lv_if_lt (tgt := 21) hx hb dX6_feed_1 (by decide) (fun c_1 => ?_) (fun c_1 => ?_)
  · skip
    refine lv_iconst (v := 0) hx hb dX6_feed_21 (by decide) ?_
    exact mm_zret hx hb hr hlk (rfl) hM hS (by unfold fd_f; rw [if_pos c_1]) dX6_feed_22
  · skip
    refine lv_iload_n hx hb dX6_feed_4 rfl (lv_at hl 1 rfl) ?_
    refine lv_sipush (v := 255) hx hb dX6_feed_5 (by decide) ?_
    refine lv_icmp_gt (tgt := 21) hx hb dX6_feed_8 (by decide) (fun c_2 => ?_) (fun c_2 => ?_)
    · skip
      refine lv_iconst (v := 0) hx hb dX6_feed_21 (by decide) ?_
      exact mm_zret hx hb hr hlk (rfl) hM hS (by unfold fd_f; rw [if_neg c_1, if_pos c_2]) dX6_feed_22
    · skip
      refine lv_aload_n hx hb dX6_feed_11 rfl (lv_at hl 0 rfl) ?_
      refine mm_get (v := .int 0) (ci := 6) (C := RX6) (T := TX6) (N := 34) hx hb hts (in_X6_feed_X6) hown hK hM h_mo rfl 9 (by decide) (hts (.fieldLink RX6 108 "GroupLogModel" "tapeSize" "I") (List.mem_of_getElem? (i := 1) rfl)) rfl dX6_feed_12 ?_
      refine lv_sipush (v := 200) hx hb dX6_feed_15 (by decide) ?_
      refine lv_icmp_ne (tgt := 23) hx hb dX6_feed_18 (by decide) (fun c_3 => ?_) (fun c_3 => ?_)
      rotate_left
      · exact absurd c_3 (by decide)
      refine lv_aload_n hx hb dX6_feed_23 rfl (lv_at hl 0 rfl) ?_
      refine mm_get (v := .ref tq) (ci := 6) (C := RX6) (T := TX6) (N := 34) hx hb hts (in_X6_feed_X6) hown hK hM h_mo rfl 8 (by decide) (hts (.fieldLink RX6 28 "GroupLogModel" "tape" "[B") (List.mem_of_getElem? (i := 2) rfl)) rfl dX6_feed_24 ?_
      refine lv_aload_n hx hb dX6_feed_27 rfl (lv_at hl 0 rfl) ?_
      refine mm_get (v := .int 0) (ci := 6) (C := RX6) (T := TX6) (N := 34) hx hb hts (in_X6_feed_X6) hown hK hM h_mo rfl 9 (by decide) (hts (.fieldLink RX6 108 "GroupLogModel" "tapeSize" "I") (List.mem_of_getElem? (i := 1) rfl)) rfl dX6_feed_28 ?_
      refine lv_iload_n hx hb dX6_feed_31 rfl (lv_at hl 1 rfl) ?_
      refine lv_i2b (v := (k : Int32).toInt8.toInt32) hx hb dX6_feed_32 rfl ?_
      refine mm_bast hx hb hK hM hS 2 h_tq rfl (j := 0) (rfl) (by decide) (by decide) dX6_feed_33 (fun H locs M hM ha ho hS => ?_)
      have h_mo := (ho mo (mm_ne h_mo h_tq mm_oa)).trans h_mo
      have h_tq : _ = some (Sum.inl (cB, 200, .inl (upd (fun _ => 0) (0) ((vp_nar .byte ((k : Int32).toInt8.toInt32))))) : va_E) := ha
      refine lv_aload_n hx hb dX6_feed_34 rfl (lv_at hl 0 rfl) ?_
      refine lv_dup hx hb dX6_feed_35 rfl ?_
      refine mm_get (v := .int 0) (ci := 6) (C := RX6) (T := TX6) (N := 34) hx hb hts (in_X6_feed_X6) hown hK hM h_mo rfl 9 (by decide) (hts (.fieldLink RX6 108 "GroupLogModel" "tapeSize" "I") (List.mem_of_getElem? (i := 1) rfl)) rfl dX6_feed_36 ?_
      refine lv_iconst (v := 1) hx hb dX6_feed_39 (by decide) ?_
      refine lv_iadd hx hb dX6_feed_40 ?_
      refine lv_topi (fun z4 ez4 => ?_)
      have ez4 : z4 = 1 := ez4.trans (by decide)
      subst ez4
      refine mm_put (v := .int 1) (ci := 6) (C := RX6) (T := TX6) (N := 34) hx hb hts (in_X6_feed_X6) tyX6 tyX6_ok nmX6 hown hK hM hS h_mo rfl 9 (by decide) (hts (.fieldLink RX6 108 "GroupLogModel" "tapeSize" "I") (List.mem_of_getElem? (i := 1) rfl)) rfl rfl rfl (Nat.le_of_ble_eq_true rfl) dX6_feed_41 (fun H locs M hM ha ho hS => ?_)
      have h_tq := (ho tq (mm_ne h_tq h_mo mm_ao)).trans h_tq
      have h_mo : _ = some (Sum.inr (6, [.ref dk, .ref it, .int 1, .int (-1), .int 0, .int 10, .int 0, .int 0, .ref tq, .int 1, .ref qq, .int 0, .ref qg, .int 0, .int 0, .int 0, .int 1, .int 1, .int 1, .int 2, .int 2, .int 1, .int 0, .ref r1, .ref r2, .ref r3, .ref sc, .int 0, .ref hd, .int 0, .int 0, .int 0, .int 0, .int 0]) : va_E) := ha
      refine lv_iconst (v := 1) hx hb dX6_feed_44 (by decide) ?_
      exact mm_zret hx hb hr hlk (rfl) hM hS (by unfold fd_f; rw [if_neg c_1, if_neg c_2]) dX6_feed_45

theorem in_X6_append_X6 : ∀ w ∈ u_ws RX6 TX6 34, w ∈ wsX6_append := fun w h => List.mem_cons_of_mem _ (List.mem_append_right _ h)
set_option maxHeartbeats 4000000 in
set_option maxRecDepth 100000 in
theorem c_X6_append {l : Launch} {D : va_G} {A : Nat → Prop} {cI cS cB cZ : ClassId} {M : Nat → Option va_E} {sz : Nat} {mo dk it tq qq qg r1 r2 r3 sc hd : Nat} (h_mo : M mo = some (Sum.inr (6, [.ref dk, .ref it, .int 1, .int (-1), .int 0, .int 10, .int 0, .int 0, .ref tq, .int 0, .ref qq, .int 0, .ref qg, .int 0, .int 0, .int 0, .int 1, .int 1, .int 1, .int 2, .int 2, .int 1, .int 0, .ref r1, .ref r2, .ref r3, .ref sc, .int 0, .ref hd, .int 0, .int 0, .int 0, .int 0, .int 0]) : va_E)) : Met l yX6_append wsX6_append ({ frames := 0, cells := 0, slots := 0, locals := 0 }) (mm_Pc D A (mm_T cI cS cB cZ) M sz [.ref mo]) (mm_Qi D A (fun r M1 => r = (-1))) 0 0 A := by
  refine mm_met (cc := cX6_append) (maxL := 3) (ret := (some .int)) (by decide) rfl (Nat.le_of_ble_eq_true rfl) ?_
  intro p e s m args below meth c hx hb hr hts hown hlk hin hml hsz hK hM hS ls hl
  subst hsz
  have hl : lv_has ls 3 [(0, .ref mo)] := hl
  refine lv_aload_n hx hb dX6_append_0 rfl (lv_at hl 0 rfl) ?_
  refine mm_get (v := .int 1) (ci := 6) (C := RX6) (T := TX6) (N := 34) hx hb hts (in_X6_append_X6) hown hK hM h_mo rfl 2 (by decide) (hts (.fieldLink RX6 17 "GroupLogModel" "isOn" "Z") (List.mem_of_getElem? (i := 1) rfl)) rfl dX6_append_1 ?_
  refine lv_if_ne (tgt := 10) hx hb dX6_append_4 (by decide) (fun c_1 => ?_) (fun c_1 => ?_)
  rotate_left
  · exact absurd c_1 (by decide)
  refine lv_aload_n hx hb dX6_append_10 rfl (lv_at hl 0 rfl) ?_
  refine mm_get (v := .int 0) (ci := 6) (C := RX6) (T := TX6) (N := 34) hx hb hts (in_X6_append_X6) hown hK hM h_mo rfl 9 (by decide) (hts (.fieldLink RX6 108 "GroupLogModel" "tapeSize" "I") (List.mem_of_getElem? (i := 2) rfl)) rfl dX6_append_11 ?_
  refine lv_if_eq (tgt := 47) hx hb dX6_append_14 (by decide) (fun c_2 => ?_) (fun c_2 => ?_)
  rotate_left
  · exact absurd c_2 (by decide)
  refine lv_iconst (v := (-1)) hx hb dX6_append_47 (by decide) ?_
  exact mm_iret hx hb hr hlk hM hS (rfl) dX6_append_48

theorem in_X6_start_X6 : ∀ w ∈ u_ws RX6 TX6 34, w ∈ wsX6_start := fun w h => List.mem_cons_of_mem _ (List.mem_append_right _ h)
set_option maxHeartbeats 4000000 in
set_option maxRecDepth 100000 in
theorem c_X6_start {l : Launch} {D : va_G} {A : Nat → Prop} {cI cS cB cZ : ClassId} {M : Nat → Option va_E} {sz : Nat} {mo dk it tq qq qg r1 r2 r3 sc hd : Nat} (h_mo : M mo = some (Sum.inr (6, [.ref dk, .ref it, .int 1, .int (-1), .int 0, .int 10, .int 0, .int 0, .ref tq, .int 0, .ref qq, .int 0, .ref qg, .int 0, .int 0, .int 0, .int 1, .int 1, .int 1, .int 2, .int 2, .int 1, .int 0, .ref r1, .ref r2, .ref r3, .ref sc, .int 0, .ref hd, .int 0, .int 0, .int 0, .int 0, .int 0]) : va_E)) : Met l yX6_start wsX6_start ({ frames := 0, cells := 0, slots := 0, locals := 0 }) (mm_Pc D A (mm_T cI cS cB cZ) M sz [.ref mo]) (mm_Qi D A (fun r M1 => r = (-1))) 0 0 A := by
  refine mm_met (cc := cX6_start) (maxL := 12) (ret := (some .int)) (by decide) rfl (Nat.le_of_ble_eq_true rfl) ?_
  intro p e s m args below meth c hx hb hr hts hown hlk hin hml hsz hK hM hS ls hl
  subst hsz
  have hl : lv_has ls 12 [(0, .ref mo)] := hl
  refine lv_aload_n hx hb dX6_start_0 rfl (lv_at hl 0 rfl) ?_
  refine mm_get (v := .int 1) (ci := 6) (C := RX6) (T := TX6) (N := 34) hx hb hts (in_X6_start_X6) hown hK hM h_mo rfl 2 (by decide) (hts (.fieldLink RX6 17 "GroupLogModel" "isOn" "Z") (List.mem_of_getElem? (i := 1) rfl)) rfl dX6_start_1 ?_
  refine lv_if_eq (tgt := 9) hx hb dX6_start_4 (by decide) (fun c_1 => ?_) (fun c_1 => ?_)
  · exact absurd c_1 (by decide)
  refine lv_iconst (v := (-1)) hx hb dX6_start_7 (by decide) ?_
  exact mm_iret hx hb hr hlk hM hS (rfl) dX6_start_8

theorem in_X6_first_X6 : ∀ w ∈ u_ws RX6 TX6 34, w ∈ wsX6_first := fun w h => List.mem_cons_of_mem _ (List.mem_append_right _ h)
set_option maxHeartbeats 4000000 in
set_option maxRecDepth 100000 in
theorem c_X6_first {l : Launch} {D : va_G} {A : Nat → Prop} {cI cS cB cZ : ClassId} {M : Nat → Option va_E} {sz : Nat} {mo dk it tq qq qg r1 r2 r3 sc hd : Nat} (h_mo : M mo = some (Sum.inr (6, [.ref dk, .ref it, .int 1, .int (-1), .int 0, .int 10, .int 0, .int 0, .ref tq, .int 0, .ref qq, .int 0, .ref qg, .int 0, .int 0, .int 0, .int 1, .int 1, .int 1, .int 2, .int 2, .int 1, .int 0, .ref r1, .ref r2, .ref r3, .ref sc, .int 0, .ref hd, .int 0, .int 0, .int 0, .int 0, .int 0]) : va_E)) : Met l yX6_first wsX6_first ({ frames := 0, cells := 0, slots := 0, locals := 0 }) (mm_Pc D A (mm_T cI cS cB cZ) M sz [.ref mo]) (mm_Qi D A (fun r M1 => r = 1)) 0 0 A := by
  refine mm_met (cc := cX6_first) (maxL := 1) (ret := (some .int)) (by decide) rfl (Nat.le_of_ble_eq_true rfl) ?_
  intro p e s m args below meth c hx hb hr hts hown hlk hin hml hsz hK hM hS ls hl
  subst hsz
  have hl : lv_has ls 1 [(0, .ref mo)] := hl
  refine lv_aload_n hx hb dX6_first_0 rfl (lv_at hl 0 rfl) ?_
  refine mm_get (v := .int 1) (ci := 6) (C := RX6) (T := TX6) (N := 34) hx hb hts (in_X6_first_X6) hown hK hM h_mo rfl 2 (by decide) (hts (.fieldLink RX6 17 "GroupLogModel" "isOn" "Z") (List.mem_of_getElem? (i := 1) rfl)) rfl dX6_first_1 ?_
  refine lv_if_eq (tgt := 14) hx hb dX6_first_4 (by decide) (fun c_1 => ?_) (fun c_1 => ?_)
  · exact absurd c_1 (by decide)
  refine lv_aload_n hx hb dX6_first_7 rfl (lv_at hl 0 rfl) ?_
  refine mm_get (v := .int 1) (ci := 6) (C := RX6) (T := TX6) (N := 34) hx hb hts (in_X6_first_X6) hown hK hM h_mo rfl 18 (by decide) (hts (.fieldLink RX6 44 "GroupLogModel" "firstRecord" "I") (List.mem_of_getElem? (i := 2) rfl)) rfl dX6_first_8 ?_
  refine lv_goto (tgt := 16) hx hb dX6_first_11 (by decide) ?_
  exact mm_iret hx hb hr hlk hM hS (rfl) dX6_first_16

theorem in_X6_safe_X6 : ∀ w ∈ u_ws RX6 TX6 34, w ∈ wsX6_safe := fun w h => List.mem_cons_of_mem _ (List.mem_append_right _ h)
set_option maxHeartbeats 4000000 in
set_option maxRecDepth 100000 in
theorem c_X6_safe {l : Launch} {D : va_G} {A : Nat → Prop} {cI cS cB cZ : ClassId} {M : Nat → Option va_E} {sz : Nat} {mo dk it tq qq qg r1 r2 r3 sc hd : Nat} (h_mo : M mo = some (Sum.inr (6, [.ref dk, .ref it, .int 1, .int (-1), .int 0, .int 10, .int 0, .int 0, .ref tq, .int 0, .ref qq, .int 0, .ref qg, .int 0, .int 0, .int 0, .int 1, .int 1, .int 1, .int 2, .int 2, .int 1, .int 0, .ref r1, .ref r2, .ref r3, .ref sc, .int 0, .ref hd, .int 0, .int 0, .int 0, .int 0, .int 0]) : va_E)) : Met l yX6_safe wsX6_safe ({ frames := 0, cells := 0, slots := 0, locals := 0 }) (mm_Pc D A (mm_T cI cS cB cZ) M sz [.ref mo]) (mm_Qi D A (fun r M1 => r = 0)) 0 0 A := by
  refine mm_met (cc := cX6_safe) (maxL := 1) (ret := (some .int)) (by decide) rfl (Nat.le_of_ble_eq_true rfl) ?_
  intro p e s m args below meth c hx hb hr hts hown hlk hin hml hsz hK hM hS ls hl
  subst hsz
  have hl : lv_has ls 1 [(0, .ref mo)] := hl
  refine lv_aload_n hx hb dX6_safe_0 rfl (lv_at hl 0 rfl) ?_
  refine mm_get (v := .int 1) (ci := 6) (C := RX6) (T := TX6) (N := 34) hx hb hts (in_X6_safe_X6) hown hK hM h_mo rfl 2 (by decide) (hts (.fieldLink RX6 17 "GroupLogModel" "isOn" "Z") (List.mem_of_getElem? (i := 1) rfl)) rfl dX6_safe_1 ?_
  refine lv_if_eq (tgt := 14) hx hb dX6_safe_4 (by decide) (fun c_1 => ?_) (fun c_1 => ?_)
  · exact absurd c_1 (by decide)
  refine lv_aload_n hx hb dX6_safe_7 rfl (lv_at hl 0 rfl) ?_
  refine mm_get (v := .int 0) (ci := 6) (C := RX6) (T := TX6) (N := 34) hx hb hts (in_X6_safe_X6) hown hK hM h_mo rfl 22 (by decide) (hts (.fieldLink RX6 115 "GroupLogModel" "lastSafe" "I") (List.mem_of_getElem? (i := 2) rfl)) rfl dX6_safe_8 ?_
  refine lv_goto (tgt := 16) hx hb dX6_safe_11 (by decide) ?_
  exact mm_iret hx hb hr hlk hM hS (rfl) dX6_safe_16

theorem in_X6_poke_X6 : ∀ w ∈ u_ws RX6 TX6 34, w ∈ wsX6_poke := fun w h => List.mem_cons_of_mem _ (List.mem_append_right _ h)
set_option maxHeartbeats 4000000 in
set_option maxRecDepth 100000 in
theorem c_X6_poke {l : Launch} {D : va_G} {A : Nat → Prop} {cI cS cB cZ : ClassId} {M : Nat → Option va_E} {sz : Nat} {mo dk it tq qq qg r1 r2 r3 sc hd : Nat} {k1 k2 k3 : Int32} (h_mo : M mo = some (Sum.inr (6, [.ref dk, .ref it, .int 1, .int (-1), .int 0, .int 10, .int 0, .int 0, .ref tq, .int 0, .ref qq, .int 0, .ref qg, .int 0, .int 0, .int 0, .int 1, .int 1, .int 1, .int 2, .int 2, .int 1, .int 0, .ref r1, .ref r2, .ref r3, .ref sc, .int 0, .ref hd, .int 0, .int 0, .int 0, .int 0, .int 0]) : va_E)) : Met l yX6_poke wsX6_poke ({ frames := 0, cells := 0, slots := 0, locals := 0 }) (mm_Pc D A (mm_T cI cS cB cZ) M sz [.ref mo, .int k1, .int k2, .int k3]) (mm_Qi D A (fun r M1 => r = 0)) 0 0 A := by
  refine mm_met (cc := cX6_poke) (maxL := 4) (ret := (some .boolean)) (by decide) rfl (Nat.le_of_ble_eq_true rfl) ?_
  intro p e s m args below meth c hx hb hr hts hown hlk hin hml hsz hK hM hS ls hl
  subst hsz
  have hl : lv_has ls 4 [(0, .ref mo), (1, .int k1), (2, .int k2), (3, .int k3)] := hl
  refine lv_aload_n hx hb dX6_poke_0 rfl (lv_at hl 0 rfl) ?_
  refine mm_get (v := .int 1) (ci := 6) (C := RX6) (T := TX6) (N := 34) hx hb hts (in_X6_poke_X6) hown hK hM h_mo rfl 2 (by decide) (hts (.fieldLink RX6 17 "GroupLogModel" "isOn" "Z") (List.mem_of_getElem? (i := 1) rfl)) rfl dX6_poke_1 ?_
  refine lv_if_ne (tgt := 27) hx hb dX6_poke_4 (by decide) (fun c_1 => ?_) (fun c_1 => ?_)
  rotate_left
  · exact absurd c_1 (by decide)
  refine lv_iconst (v := 0) hx hb dX6_poke_27 (by decide) ?_
  exact mm_zret hx hb hr hlk (rfl) hM hS (rfl) dX6_poke_28

theorem in_X6_size_X6 : ∀ w ∈ u_ws RX6 TX6 34, w ∈ wsX6_size := fun w h => List.mem_cons_of_mem _ (List.mem_append_right _ h)
set_option maxHeartbeats 4000000 in
set_option maxRecDepth 100000 in
theorem c_X6_size {l : Launch} {D : va_G} {A : Nat → Prop} {cI cS cB cZ : ClassId} {M : Nat → Option va_E} {sz : Nat} {mo dk it tq qq qg r1 r2 r3 sc hd : Nat} {k : Int32} (h_mo : M mo = some (Sum.inr (6, [.ref dk, .ref it, .int 1, .int (-1), .int 0, .int 10, .int 0, .int 0, .ref tq, .int 0, .ref qq, .int 0, .ref qg, .int 0, .int 0, .int 0, .int 1, .int 1, .int 1, .int 2, .int 2, .int 1, .int 0, .ref r1, .ref r2, .ref r3, .ref sc, .int 0, .ref hd, .int 0, .int 0, .int 0, .int 0, .int 0]) : va_E)) : Met l yX6_size wsX6_size ({ frames := 0, cells := 0, slots := 0, locals := 0 }) (mm_Pc D A (mm_T cI cS cB cZ) M sz [.ref mo, .int k]) (mm_Qi D A (fun r M1 => r = -1 ∧ M1 = M)) 0 0 A := by
  refine mm_met (cc := cX6_size) (maxL := 2) (ret := (some .int)) (by decide) rfl (Nat.le_of_ble_eq_true rfl) ?_
  intro p e s m args below meth c hx hb hr hts hown hlk hin hml hsz hK hM hS ls hl
  subst hsz
  have hl : lv_has ls 2 [(0, .ref mo), (1, .int k)] := hl
  refine lv_aload_n hx hb dX6_size_0 rfl (lv_at hl 0 rfl) ?_
  refine mm_get (v := .int 1) (ci := 6) (C := RX6) (T := TX6) (N := 34) hx hb hts (in_X6_size_X6) hown hK hM h_mo rfl 2 (by decide) (hts (.fieldLink RX6 17 "GroupLogModel" "isOn" "Z") (List.mem_of_getElem? (i := 1) rfl)) rfl dX6_size_1 ?_
  refine lv_if_ne (tgt := 10) hx hb dX6_size_4 (by decide) (fun c_1 => ?_) (fun c_1 => ?_)
  rotate_left
  · exact absurd c_1 (by decide)
  refine lv_iload_n hx hb dX6_size_10 rfl (lv_at hl 1 rfl) ?_
  refine lv_aload_n hx hb dX6_size_11 rfl (lv_at hl 0 rfl) ?_
  refine mm_get (v := .int 1) (ci := 6) (C := RX6) (T := TX6) (N := 34) hx hb hts (in_X6_size_X6) hown hK hM h_mo rfl 18 (by decide) (hts (.fieldLink RX6 44 "GroupLogModel" "firstRecord" "I") (List.mem_of_getElem? (i := 2) rfl)) rfl dX6_size_12 ?_
  refine lv_icmp_lt (tgt := 40) hx hb dX6_size_15 (by decide) (fun c_2 => ?_) (fun c_2 => ?_)
  · skip
    refine lv_iconst (v := (-1)) hx hb dX6_size_40 (by decide) ?_
    exact mm_iret hx hb hr hlk hM hS (⟨rfl, rfl⟩) dX6_size_41
  · skip
    refine lv_iload_n hx hb dX6_size_18 rfl (lv_at hl 1 rfl) ?_
    refine lv_aload_n hx hb dX6_size_19 rfl (lv_at hl 0 rfl) ?_
    refine mm_get (v := .int 0) (ci := 6) (C := RX6) (T := TX6) (N := 34) hx hb hts (in_X6_size_X6) hown hK hM h_mo rfl 22 (by decide) (hts (.fieldLink RX6 115 "GroupLogModel" "lastSafe" "I") (List.mem_of_getElem? (i := 3) rfl)) rfl dX6_size_20 ?_
    refine lv_icmp_gt (tgt := 40) hx hb dX6_size_23 (by decide) (fun c_3 => ?_) (fun c_3 => ?_)
    rotate_left
    · exact absurd c_3 (fun h => h (hs_no c_2))
    refine lv_iconst (v := (-1)) hx hb dX6_size_40 (by decide) ?_
    exact mm_iret hx hb hr hlk hM hS (⟨rfl, rfl⟩) dX6_size_41

theorem at_no {i : Int32} (h : ¬ i < 0) : ¬ i < -1 := by
  rw [Int32.lt_iff_toInt_lt] at h ⊢
  have e1 : (-1 : Int32).toInt = -1 := by decide
  have e0 : (0 : Int32).toInt = 0 := by decide
  omega

theorem in_X6_at_X6 : ∀ w ∈ u_ws RX6 TX6 34, w ∈ wsX6_at := fun w h => List.mem_cons_of_mem _ (List.mem_append_right _ h)
set_option maxHeartbeats 4000000 in
set_option maxRecDepth 100000 in
theorem c_X6_at {l : Launch} {D : va_G} {A : Nat → Prop} {cI cS cB cZ : ClassId} {M : Nat → Option va_E} {sz : Nat} {mo dk it tq qq qg r1 r2 r3 sc hd : Nat} {k i : Int32} (h_mo : M mo = some (Sum.inr (6, [.ref dk, .ref it, .int 1, .int (-1), .int 0, .int 10, .int 0, .int 0, .ref tq, .int 0, .ref qq, .int 0, .ref qg, .int 0, .int 0, .int 0, .int 1, .int 1, .int 1, .int 2, .int 2, .int 1, .int 0, .ref r1, .ref r2, .ref r3, .ref sc, .int 0, .ref hd, .int 0, .int 0, .int 0, .int 0, .int 0]) : va_E)) : Met l yX6_at wsX6_at ({ frames := 1, cells := 0, slots := 0, locals := 21 }) (mm_Pc D A (mm_T cI cS cB cZ) M sz [.ref mo, .int k, .int i]) (mm_Qi D A (fun r M1 => r = -1)) 0 0 A := by
  refine mm_met (cc := cX6_at) (maxL := 6) (ret := (some .int)) (by decide) rfl (Nat.le_of_ble_eq_true rfl) ?_
  intro p e s m args below meth c hx hb hr hts hown hlk hin hml hsz hK hM hS ls hl
  subst hsz
  have hl : lv_has ls 6 [(0, .ref mo), (1, .int k), (2, .int i)] := hl
  refine lv_aload_n hx hb dX6_at_0 rfl (lv_at hl 0 rfl) ?_
  refine mm_get (v := .int 1) (ci := 6) (C := RX6) (T := TX6) (N := 34) hx hb hts (in_X6_at_X6) hown hK hM h_mo rfl 2 (by decide) (hts (.fieldLink RX6 17 "GroupLogModel" "isOn" "Z") (List.mem_of_getElem? (i := 1) rfl)) rfl dX6_at_1 ?_
  refine lv_if_ne (tgt := 10) hx hb dX6_at_4 (by decide) (fun c_1 => ?_) (fun c_1 => ?_)
  rotate_left
  · exact absurd c_1 (by decide)
  refine lv_iload_n hx hb dX6_at_10 rfl (lv_at hl 2 rfl) ?_
  refine lv_if_lt (tgt := 23) hx hb dX6_at_11 (by decide) (fun c_2 => ?_) (fun c_2 => ?_)
  · skip
    refine lv_iconst (v := (-1)) hx hb dX6_at_23 (by decide) ?_
    exact mm_iret hx hb hr hlk hM hS (rfl) dX6_at_24
  · skip
    refine lv_iload_n hx hb dX6_at_14 rfl (lv_at hl 2 rfl) ?_
    refine lv_aload_n hx hb dX6_at_15 rfl (lv_at hl 0 rfl) ?_
    refine lv_iload_n hx hb dX6_at_16 rfl (lv_at hl 1 rfl) ?_
    refine mm_calli (mm_runV (As := [.int k]) (rest := [.int i]) ⟨hx, hb, hml, hown, hts⟩ (c_X6_size h_mo) (cwV 1 hts gX6_at_X6_size rfl rfl rfl (by decide +kernel) ⟨Nat.le_of_ble_eq_true rfl, Nat.le_of_ble_eq_true rfl⟩) hK hM h_mo rfl rfl hl.1 rfl (Nat.le_of_ble_eq_true rfl) dX6_at_17 ⟨Nat.le_of_ble_eq_true rfl, Nat.le_of_ble_eq_true rfl⟩) hS (fun _ h => h) (fun r3 M H locs hp hM hS hz _ => ?_)
    obtain ⟨rfl, hme⟩ := hp
    rw [hme] at hM
    refine lv_icmp_lt (tgt := 25) hx hb dX6_at_20 (by decide) (fun c_4 => ?_) (fun c_4 => ?_)
    · exact absurd c_4 (at_no c_2)
    refine lv_iconst (v := (-1)) hx hb dX6_at_23 (by decide) ?_
    exact mm_iret hx hb hr hlk hM hS (rfl) dX6_at_24

theorem in_X6_flushAll_X6 : ∀ w ∈ u_ws RX6 TX6 34, w ∈ wsX6_flushAll := fun w h => List.mem_cons_of_mem _ (List.mem_append_right _ h)
set_option maxHeartbeats 4000000 in
set_option maxRecDepth 100000 in
theorem c_X6_flushAll {l : Launch} {D : va_G} {A : Nat → Prop} {cI cS cB cZ : ClassId} {M : Nat → Option va_E} {sz : Nat} {mo dk it tq qq qg r1 r2 r3 sc hd : Nat} (h_mo : M mo = some (Sum.inr (6, [.ref dk, .ref it, .int 1, .int (-1), .int 0, .int 10, .int 0, .int 0, .ref tq, .int 0, .ref qq, .int 0, .ref qg, .int 0, .int 0, .int 0, .int 1, .int 1, .int 1, .int 2, .int 2, .int 1, .int 0, .ref r1, .ref r2, .ref r3, .ref sc, .int 0, .ref hd, .int 0, .int 0, .int 0, .int 0, .int 0]) : va_E)) : Met l yX6_flushAll wsX6_flushAll ({ frames := 0, cells := 0, slots := 0, locals := 0 }) (mm_Pc D A (mm_T cI cS cB cZ) M sz [.ref mo]) (mm_Qi D A (fun r M1 => r = 0)) 0 0 A := by
  refine mm_met (cc := cX6_flushAll) (maxL := 7) (ret := (some .int)) (by decide) rfl (Nat.le_of_ble_eq_true rfl) ?_
  intro p e s m args below meth c hx hb hr hts hown hlk hin hml hsz hK hM hS ls hl
  subst hsz
  have hl : lv_has ls 7 [(0, .ref mo)] := hl
  refine lv_iconst (v := 0) hx hb dX6_flushAll_0 (by decide) ?_
  refine lv_istore_n (lv' := [(1, .int 0), (0, .ref mo)]) hx hb dX6_flushAll_1 rfl hl (by decide) rfl (fun ls hl => ?_)
  refine lv_aload_n hx hb dX6_flushAll_2 rfl (lv_at hl 1 rfl) ?_
  refine mm_get (v := .int 2) (ci := 6) (C := RX6) (T := TX6) (N := 34) hx hb hts (in_X6_flushAll_X6) hown hK hM h_mo rfl 20 (by decide) (hts (.fieldLink RX6 50 "GroupLogModel" "nextSector" "I") (List.mem_of_getElem? (i := 1) rfl)) rfl dX6_flushAll_3 ?_
  refine lv_istore_n (lv' := [(2, .int 2), (1, .int 0), (0, .ref mo)]) hx hb dX6_flushAll_6 rfl hl (by decide) rfl (fun ls hl => ?_)
  refine lv_iconst (v := 0) hx hb dX6_flushAll_7 (by decide) ?_
  refine lv_istore_n (lv' := [(3, .int 0), (2, .int 2), (1, .int 0), (0, .ref mo)]) hx hb dX6_flushAll_8 rfl hl (by decide) rfl (fun ls hl => ?_)
  refine lv_iload_n hx hb dX6_flushAll_9 rfl (lv_at hl 0 rfl) ?_
  refine lv_aload_n hx hb dX6_flushAll_10 rfl (lv_at hl 3 rfl) ?_
  refine mm_get (v := .int 0) (ci := 6) (C := RX6) (T := TX6) (N := 34) hx hb hts (in_X6_flushAll_X6) hown hK hM h_mo rfl 11 (by decide) (hts (.fieldLink RX6 99 "GroupLogModel" "queueSize" "I") (List.mem_of_getElem? (i := 2) rfl)) rfl dX6_flushAll_11 ?_
  refine lv_icmp_ge (tgt := 242) hx hb dX6_flushAll_14 (by decide) (fun c_1 => ?_) (fun c_1 => ?_)
  rotate_left
  · exact absurd c_1 (by decide)
  refine lv_iconst (v := 0) hx hb dX6_flushAll_242 (by decide) ?_
  refine lv_istore (lv' := [(4, .int 0), (3, .int 0), (2, .int 2), (1, .int 0), (0, .ref mo)]) hx hb dX6_flushAll_243 hl (by decide) rfl (fun ls hl => ?_)
  refine lv_iload hx hb dX6_flushAll_245 (lv_at hl 0 rfl) ?_
  refine lv_aload_n hx hb dX6_flushAll_247 rfl (lv_at hl 4 rfl) ?_
  refine mm_get (v := .int 0) (ci := 6) (C := RX6) (T := TX6) (N := 34) hx hb hts (in_X6_flushAll_X6) hown hK hM h_mo rfl 13 (by decide) (hts (.fieldLink RX6 102 "GroupLogModel" "queued" "I") (List.mem_of_getElem? (i := 5) rfl)) rfl dX6_flushAll_248 ?_
  refine lv_icmp_ge (tgt := 375) hx hb dX6_flushAll_251 (by decide) (fun c_2 => ?_) (fun c_2 => ?_)
  rotate_left
  · exact absurd c_2 (by decide)
  refine lv_aload_n hx hb dX6_flushAll_375 rfl (lv_at hl 4 rfl) ?_
  refine lv_iconst (v := 2) hx hb dX6_flushAll_376 (by decide) ?_
  refine lv_aload_n hx hb dX6_flushAll_377 rfl (lv_at hl 4 rfl) ?_
  refine mm_get (v := .int 2) (ci := 6) (C := RX6) (T := TX6) (N := 34) hx hb hts (in_X6_flushAll_X6) hown hK hM h_mo rfl 20 (by decide) (hts (.fieldLink RX6 50 "GroupLogModel" "nextSector" "I") (List.mem_of_getElem? (i := 1) rfl)) rfl dX6_flushAll_378 ?_
  refine lv_iconst (v := 2) hx hb dX6_flushAll_381 (by decide) ?_
  refine lv_isub hx hb dX6_flushAll_382 ?_
  refine lv_topi (fun z3 ez3 => ?_)
  have ez3 : z3 = 0 := ez3.trans (by decide)
  subst ez3
  refine lv_iload_n hx hb dX6_flushAll_383 rfl (lv_at hl 3 rfl) ?_
  refine lv_iadd hx hb dX6_flushAll_384 ?_
  refine lv_topi (fun z4 ez4 => ?_)
  have ez4 : z4 = 0 := ez4.trans (by decide)
  subst ez4
  refine lv_bipush (v := 62) hx hb dX6_flushAll_385 (by decide) ?_
  refine lv_irem hx hb dX6_flushAll_387 (by decide) ?_
  refine lv_topi (fun z5 ez5 => ?_)
  have ez5 : z5 = 0 := ez5.trans (by decide)
  subst ez5
  refine lv_iadd hx hb dX6_flushAll_388 ?_
  refine lv_topi (fun z6 ez6 => ?_)
  have ez6 : z6 = 2 := ez6.trans (by decide)
  subst ez6
  refine mm_put (v := .int 2) (ci := 6) (C := RX6) (T := TX6) (N := 34) hx hb hts (in_X6_flushAll_X6) tyX6 tyX6_ok nmX6 hown hK hM hS h_mo rfl 20 (by decide) (hts (.fieldLink RX6 50 "GroupLogModel" "nextSector" "I") (List.mem_of_getElem? (i := 1) rfl)) rfl rfl rfl (Nat.le_of_ble_eq_true rfl) dX6_flushAll_389 (fun H locs M hM ha ho hS => ?_)
  have h_mo : _ = some (Sum.inr (6, [.ref dk, .ref it, .int 1, .int (-1), .int 0, .int 10, .int 0, .int 0, .ref tq, .int 0, .ref qq, .int 0, .ref qg, .int 0, .int 0, .int 0, .int 1, .int 1, .int 1, .int 2, .int 2, .int 1, .int 0, .ref r1, .ref r2, .ref r3, .ref sc, .int 0, .ref hd, .int 0, .int 0, .int 0, .int 0, .int 0]) : va_E) := ha
  refine lv_aload_n hx hb dX6_flushAll_392 rfl (lv_at hl 4 rfl) ?_
  refine lv_dup hx hb dX6_flushAll_393 rfl ?_
  refine mm_get (v := .int 1) (ci := 6) (C := RX6) (T := TX6) (N := 34) hx hb hts (in_X6_flushAll_X6) hown hK hM h_mo rfl 21 (by decide) (hts (.fieldLink RX6 53 "GroupLogModel" "nextSerial" "I") (List.mem_of_getElem? (i := 3) rfl)) rfl dX6_flushAll_394 ?_
  refine lv_iload_n hx hb dX6_flushAll_397 rfl (lv_at hl 3 rfl) ?_
  refine lv_iadd hx hb dX6_flushAll_398 ?_
  refine lv_topi (fun z7 ez7 => ?_)
  have ez7 : z7 = 1 := ez7.trans (by decide)
  subst ez7
  refine mm_put (v := .int 1) (ci := 6) (C := RX6) (T := TX6) (N := 34) hx hb hts (in_X6_flushAll_X6) tyX6 tyX6_ok nmX6 hown hK hM hS h_mo rfl 21 (by decide) (hts (.fieldLink RX6 53 "GroupLogModel" "nextSerial" "I") (List.mem_of_getElem? (i := 3) rfl)) rfl rfl rfl (Nat.le_of_ble_eq_true rfl) dX6_flushAll_399 (fun H locs M hM ha ho hS => ?_)
  have h_mo : _ = some (Sum.inr (6, [.ref dk, .ref it, .int 1, .int (-1), .int 0, .int 10, .int 0, .int 0, .ref tq, .int 0, .ref qq, .int 0, .ref qg, .int 0, .int 0, .int 0, .int 1, .int 1, .int 1, .int 2, .int 2, .int 1, .int 0, .ref r1, .ref r2, .ref r3, .ref sc, .int 0, .ref hd, .int 0, .int 0, .int 0, .int 0, .int 0]) : va_E) := ha
  refine lv_aload_n hx hb dX6_flushAll_402 rfl (lv_at hl 4 rfl) ?_
  refine lv_dup hx hb dX6_flushAll_403 rfl ?_
  refine mm_get (v := .int 0) (ci := 6) (C := RX6) (T := TX6) (N := 34) hx hb hts (in_X6_flushAll_X6) hown hK hM h_mo rfl 7 (by decide) (hts (.fieldLink RX6 132 "GroupLogModel" "flushes" "I") (List.mem_of_getElem? (i := 9) rfl)) rfl dX6_flushAll_404 ?_
  refine lv_iload_n hx hb dX6_flushAll_407 rfl (lv_at hl 3 rfl) ?_
  refine lv_if_le (tgt := 415) hx hb dX6_flushAll_408 (by decide) (fun c_8 => ?_) (fun c_8 => ?_)
  rotate_left
  · exact absurd c_8 (by decide)
  refine lv_iconst (v := 0) hx hb dX6_flushAll_415 (by decide) ?_
  refine lv_iadd hx hb dX6_flushAll_416 ?_
  refine lv_topi (fun z9 ez9 => ?_)
  have ez9 : z9 = 0 := ez9.trans (by decide)
  subst ez9
  refine mm_put (v := .int 0) (ci := 6) (C := RX6) (T := TX6) (N := 34) hx hb hts (in_X6_flushAll_X6) tyX6 tyX6_ok nmX6 hown hK hM hS h_mo rfl 7 (by decide) (hts (.fieldLink RX6 132 "GroupLogModel" "flushes" "I") (List.mem_of_getElem? (i := 9) rfl)) rfl rfl rfl (Nat.le_of_ble_eq_true rfl) dX6_flushAll_417 (fun H locs M hM ha ho hS => ?_)
  have h_mo : _ = some (Sum.inr (6, [.ref dk, .ref it, .int 1, .int (-1), .int 0, .int 10, .int 0, .int 0, .ref tq, .int 0, .ref qq, .int 0, .ref qg, .int 0, .int 0, .int 0, .int 1, .int 1, .int 1, .int 2, .int 2, .int 1, .int 0, .ref r1, .ref r2, .ref r3, .ref sc, .int 0, .ref hd, .int 0, .int 0, .int 0, .int 0, .int 0]) : va_E) := ha
  refine lv_aload_n hx hb dX6_flushAll_420 rfl (lv_at hl 4 rfl) ?_
  refine lv_iconst (v := 0) hx hb dX6_flushAll_421 (by decide) ?_
  refine mm_put (v := .int 0) (ci := 6) (C := RX6) (T := TX6) (N := 34) hx hb hts (in_X6_flushAll_X6) tyX6 tyX6_ok nmX6 hown hK hM hS h_mo rfl 11 (by decide) (hts (.fieldLink RX6 99 "GroupLogModel" "queueSize" "I") (List.mem_of_getElem? (i := 2) rfl)) rfl rfl rfl (Nat.le_of_ble_eq_true rfl) dX6_flushAll_422 (fun H locs M hM ha ho hS => ?_)
  have h_mo : _ = some (Sum.inr (6, [.ref dk, .ref it, .int 1, .int (-1), .int 0, .int 10, .int 0, .int 0, .ref tq, .int 0, .ref qq, .int 0, .ref qg, .int 0, .int 0, .int 0, .int 1, .int 1, .int 1, .int 2, .int 2, .int 1, .int 0, .ref r1, .ref r2, .ref r3, .ref sc, .int 0, .ref hd, .int 0, .int 0, .int 0, .int 0, .int 0]) : va_E) := ha
  refine lv_aload_n hx hb dX6_flushAll_425 rfl (lv_at hl 4 rfl) ?_
  refine lv_iconst (v := 0) hx hb dX6_flushAll_426 (by decide) ?_
  refine mm_put (v := .int 0) (ci := 6) (C := RX6) (T := TX6) (N := 34) hx hb hts (in_X6_flushAll_X6) tyX6 tyX6_ok nmX6 hown hK hM hS h_mo rfl 13 (by decide) (hts (.fieldLink RX6 102 "GroupLogModel" "queued" "I") (List.mem_of_getElem? (i := 5) rfl)) rfl rfl rfl (Nat.le_of_ble_eq_true rfl) dX6_flushAll_427 (fun H locs M hM ha ho hS => ?_)
  have h_mo : _ = some (Sum.inr (6, [.ref dk, .ref it, .int 1, .int (-1), .int 0, .int 10, .int 0, .int 0, .ref tq, .int 0, .ref qq, .int 0, .ref qg, .int 0, .int 0, .int 0, .int 1, .int 1, .int 1, .int 2, .int 2, .int 1, .int 0, .ref r1, .ref r2, .ref r3, .ref sc, .int 0, .ref hd, .int 0, .int 0, .int 0, .int 0, .int 0]) : va_E) := ha
  refine lv_aload_n hx hb dX6_flushAll_430 rfl (lv_at hl 4 rfl) ?_
  refine lv_iconst (v := 0) hx hb dX6_flushAll_431 (by decide) ?_
  refine mm_put (v := .int 0) (ci := 6) (C := RX6) (T := TX6) (N := 34) hx hb hts (in_X6_flushAll_X6) tyX6 tyX6_ok nmX6 hown hK hM hS h_mo rfl 14 (by decide) (hts (.fieldLink RX6 105 "GroupLogModel" "waited" "I") (List.mem_of_getElem? (i := 15) rfl)) rfl rfl rfl (Nat.le_of_ble_eq_true rfl) dX6_flushAll_432 (fun H locs M hM ha ho hS => ?_)
  have h_mo : _ = some (Sum.inr (6, [.ref dk, .ref it, .int 1, .int (-1), .int 0, .int 10, .int 0, .int 0, .ref tq, .int 0, .ref qq, .int 0, .ref qg, .int 0, .int 0, .int 0, .int 1, .int 1, .int 1, .int 2, .int 2, .int 1, .int 0, .ref r1, .ref r2, .ref r3, .ref sc, .int 0, .ref hd, .int 0, .int 0, .int 0, .int 0, .int 0]) : va_E) := ha
  refine lv_iload_n hx hb dX6_flushAll_435 rfl (lv_at hl 3 rfl) ?_
  exact mm_iret hx hb hr hlk hM hS (rfl) dX6_flushAll_436

theorem in_X6_flush_X6 : ∀ w ∈ u_ws RX6 TX6 34, w ∈ wsX6_flush := fun w h => List.mem_cons_of_mem _ (List.mem_append_right _ h)
set_option maxHeartbeats 4000000 in
set_option maxRecDepth 100000 in
theorem c_X6_flush {l : Launch} {D : va_G} {A : Nat → Prop} {cI cS cB cZ : ClassId} {M : Nat → Option va_E} {sz : Nat} {mo dk it tq qq qg r1 r2 r3 sc hd : Nat} (h_mo : M mo = some (Sum.inr (6, [.ref dk, .ref it, .int 1, .int (-1), .int 0, .int 10, .int 0, .int 0, .ref tq, .int 0, .ref qq, .int 0, .ref qg, .int 0, .int 0, .int 0, .int 1, .int 1, .int 1, .int 2, .int 2, .int 1, .int 0, .ref r1, .ref r2, .ref r3, .ref sc, .int 0, .ref hd, .int 0, .int 0, .int 0, .int 0, .int 0]) : va_E)) : Met l yX6_flush wsX6_flush ({ frames := 1, cells := 0, slots := 0, locals := 26 }) (mm_Pc D A (mm_T cI cS cB cZ) M sz [.ref mo]) (mm_Qi D A (fun r M1 => r = 0)) 0 0 A := by
  refine mm_met (cc := cX6_flush) (maxL := 1) (ret := (some .int)) (by decide) rfl (Nat.le_of_ble_eq_true rfl) ?_
  intro p e s m args below meth c hx hb hr hts hown hlk hin hml hsz hK hM hS ls hl
  subst hsz
  have hl : lv_has ls 1 [(0, .ref mo)] := hl
  refine lv_aload_n hx hb dX6_flush_0 rfl (lv_at hl 0 rfl) ?_
  refine mm_get (v := .int 1) (ci := 6) (C := RX6) (T := TX6) (N := 34) hx hb hts (in_X6_flush_X6) hown hK hM h_mo rfl 2 (by decide) (hts (.fieldLink RX6 17 "GroupLogModel" "isOn" "Z") (List.mem_of_getElem? (i := 1) rfl)) rfl dX6_flush_1 ?_
  refine lv_if_eq (tgt := 14) hx hb dX6_flush_4 (by decide) (fun c_1 => ?_) (fun c_1 => ?_)
  · exact absurd c_1 (by decide)
  refine lv_aload_n hx hb dX6_flush_7 rfl (lv_at hl 0 rfl) ?_
  refine mm_calli (mm_runV (As := []) (rest := []) ⟨hx, hb, hml, hown, hts⟩ (c_X6_flushAll h_mo) (cwV 0 hts gX6_flush_X6_flushAll rfl rfl rfl (by decide +kernel) ⟨Nat.le_of_ble_eq_true rfl, Nat.le_of_ble_eq_true rfl⟩) hK hM h_mo rfl rfl hl.1 rfl (Nat.le_of_ble_eq_true rfl) dX6_flush_8 ⟨Nat.le_of_ble_eq_true rfl, Nat.le_of_ble_eq_true rfl⟩) hS (fun _ h => h) (fun r2 M H locs hp hM hS hz _ => ?_)
  subst hp
  refine lv_goto (tgt := 16) hx hb dX6_flush_11 (by decide) ?_
  exact mm_iret hx hb hr hlk hM hS (rfl) dX6_flush_16

theorem in_X6_goOff_X6 : ∀ w ∈ u_ws RX6 TX6 34, w ∈ wsX6_goOff := fun w h => List.mem_cons_of_mem _ (List.mem_append_right _ h)
set_option maxHeartbeats 4000000 in
set_option maxRecDepth 100000 in
theorem c_X6_goOff {l : Launch} {D : va_G} {A : Nat → Prop} {cI cS cB cZ : ClassId} {M : Nat → Option va_E} {sz : Nat} {mo dk it tq qq qg r1 r2 r3 sc hd : Nat} (h_mo : M mo = some (Sum.inr (6, [.ref dk, .ref it, .int 1, .int (-1), .int 0, .int 10, .int 0, .int 0, .ref tq, .int 0, .ref qq, .int 0, .ref qg, .int 0, .int 0, .int 0, .int 1, .int 1, .int 1, .int 2, .int 2, .int 1, .int 0, .ref r1, .ref r2, .ref r3, .ref sc, .int 0, .ref hd, .int 0, .int 0, .int 0, .int 0, .int 0]) : va_E)) : Met l yX6_goOff wsX6_goOff ({ frames := 0, cells := 0, slots := 0, locals := 0 }) (mm_Pc D A (mm_T cI cS cB cZ) M sz [.ref mo]) (mm_Qv D A (fun M1 => True)) 0 0 A := by
  refine mm_met (cc := cX6_goOff) (maxL := 1) (ret := none) (by decide) rfl (Nat.le_of_ble_eq_true rfl) ?_
  intro p e s m args below meth c hx hb hr hts hown hlk hin hml hsz hK hM hS ls hl
  subst hsz
  have hl : lv_has ls 1 [(0, .ref mo)] := hl
  refine lv_aload_n hx hb dX6_goOff_0 rfl (lv_at hl 0 rfl) ?_
  refine lv_iconst (v := 0) hx hb dX6_goOff_1 (by decide) ?_
  refine mm_put (v := .int 0) (ci := 6) (C := RX6) (T := TX6) (N := 34) hx hb hts (in_X6_goOff_X6) tyX6 tyX6_ok nmX6 hown hK hM hS h_mo rfl 2 (by decide) (hts (.fieldLink RX6 17 "GroupLogModel" "isOn" "Z") (List.mem_of_getElem? (i := 1) rfl)) rfl rfl rfl (Nat.le_of_ble_eq_true rfl) dX6_goOff_2 (fun H locs M hM ha ho hS => ?_)
  have h_mo : _ = some (Sum.inr (6, [.ref dk, .ref it, .int 0, .int (-1), .int 0, .int 10, .int 0, .int 0, .ref tq, .int 0, .ref qq, .int 0, .ref qg, .int 0, .int 0, .int 0, .int 1, .int 1, .int 1, .int 2, .int 2, .int 1, .int 0, .ref r1, .ref r2, .ref r3, .ref sc, .int 0, .ref hd, .int 0, .int 0, .int 0, .int 0, .int 0]) : va_E) := ha
  refine lv_aload_n hx hb dX6_goOff_5 rfl (lv_at hl 0 rfl) ?_
  refine lv_iconst (v := (-1)) hx hb dX6_goOff_6 (by decide) ?_
  refine mm_put (v := .int (-1)) (ci := 6) (C := RX6) (T := TX6) (N := 34) hx hb hts (in_X6_goOff_X6) tyX6 tyX6_ok nmX6 hown hK hM hS h_mo rfl 3 (by decide) (hts (.fieldLink RX6 21 "GroupLogModel" "armed" "I") (List.mem_of_getElem? (i := 2) rfl)) rfl rfl rfl (Nat.le_of_ble_eq_true rfl) dX6_goOff_7 (fun H locs M hM ha ho hS => ?_)
  have h_mo : _ = some (Sum.inr (6, [.ref dk, .ref it, .int 0, .int (-1), .int 0, .int 10, .int 0, .int 0, .ref tq, .int 0, .ref qq, .int 0, .ref qg, .int 0, .int 0, .int 0, .int 1, .int 1, .int 1, .int 2, .int 2, .int 1, .int 0, .ref r1, .ref r2, .ref r3, .ref sc, .int 0, .ref hd, .int 0, .int 0, .int 0, .int 0, .int 0]) : va_E) := ha
  refine lv_aload_n hx hb dX6_goOff_10 rfl (lv_at hl 0 rfl) ?_
  refine lv_iconst (v := 0) hx hb dX6_goOff_11 (by decide) ?_
  refine mm_put (v := .int 0) (ci := 6) (C := RX6) (T := TX6) (N := 34) hx hb hts (in_X6_goOff_X6) tyX6 tyX6_ok nmX6 hown hK hM hS h_mo rfl 11 (by decide) (hts (.fieldLink RX6 99 "GroupLogModel" "queueSize" "I") (List.mem_of_getElem? (i := 3) rfl)) rfl rfl rfl (Nat.le_of_ble_eq_true rfl) dX6_goOff_12 (fun H locs M hM ha ho hS => ?_)
  have h_mo : _ = some (Sum.inr (6, [.ref dk, .ref it, .int 0, .int (-1), .int 0, .int 10, .int 0, .int 0, .ref tq, .int 0, .ref qq, .int 0, .ref qg, .int 0, .int 0, .int 0, .int 1, .int 1, .int 1, .int 2, .int 2, .int 1, .int 0, .ref r1, .ref r2, .ref r3, .ref sc, .int 0, .ref hd, .int 0, .int 0, .int 0, .int 0, .int 0]) : va_E) := ha
  refine lv_aload_n hx hb dX6_goOff_15 rfl (lv_at hl 0 rfl) ?_
  refine lv_iconst (v := 0) hx hb dX6_goOff_16 (by decide) ?_
  refine mm_put (v := .int 0) (ci := 6) (C := RX6) (T := TX6) (N := 34) hx hb hts (in_X6_goOff_X6) tyX6 tyX6_ok nmX6 hown hK hM hS h_mo rfl 13 (by decide) (hts (.fieldLink RX6 102 "GroupLogModel" "queued" "I") (List.mem_of_getElem? (i := 4) rfl)) rfl rfl rfl (Nat.le_of_ble_eq_true rfl) dX6_goOff_17 (fun H locs M hM ha ho hS => ?_)
  have h_mo : _ = some (Sum.inr (6, [.ref dk, .ref it, .int 0, .int (-1), .int 0, .int 10, .int 0, .int 0, .ref tq, .int 0, .ref qq, .int 0, .ref qg, .int 0, .int 0, .int 0, .int 1, .int 1, .int 1, .int 2, .int 2, .int 1, .int 0, .ref r1, .ref r2, .ref r3, .ref sc, .int 0, .ref hd, .int 0, .int 0, .int 0, .int 0, .int 0]) : va_E) := ha
  refine lv_aload_n hx hb dX6_goOff_20 rfl (lv_at hl 0 rfl) ?_
  refine lv_iconst (v := 0) hx hb dX6_goOff_21 (by decide) ?_
  refine mm_put (v := .int 0) (ci := 6) (C := RX6) (T := TX6) (N := 34) hx hb hts (in_X6_goOff_X6) tyX6 tyX6_ok nmX6 hown hK hM hS h_mo rfl 14 (by decide) (hts (.fieldLink RX6 105 "GroupLogModel" "waited" "I") (List.mem_of_getElem? (i := 5) rfl)) rfl rfl rfl (Nat.le_of_ble_eq_true rfl) dX6_goOff_22 (fun H locs M hM ha ho hS => ?_)
  have h_mo : _ = some (Sum.inr (6, [.ref dk, .ref it, .int 0, .int (-1), .int 0, .int 10, .int 0, .int 0, .ref tq, .int 0, .ref qq, .int 0, .ref qg, .int 0, .int 0, .int 0, .int 1, .int 1, .int 1, .int 2, .int 2, .int 1, .int 0, .ref r1, .ref r2, .ref r3, .ref sc, .int 0, .ref hd, .int 0, .int 0, .int 0, .int 0, .int 0]) : va_E) := ha
  exact mm_vret hx hb hr hlk hM hS (trivial) dX6_goOff_25

theorem in_X6_cut_X6 : ∀ w ∈ u_ws RX6 TX6 34, w ∈ wsX6_cut := fun w h => List.mem_cons_of_mem _ (List.mem_append_right _ h)
set_option maxHeartbeats 4000000 in
set_option maxRecDepth 100000 in
theorem c_X6_cut {l : Launch} {D : va_G} {A : Nat → Prop} {cI cS cB cZ : ClassId} {M : Nat → Option va_E} {sz : Nat} {mo dk it tq qq qg r1 r2 r3 sc hd : Nat} (h_mo : M mo = some (Sum.inr (6, [.ref dk, .ref it, .int 1, .int (-1), .int 0, .int 10, .int 0, .int 0, .ref tq, .int 0, .ref qq, .int 0, .ref qg, .int 0, .int 0, .int 0, .int 1, .int 1, .int 1, .int 2, .int 2, .int 1, .int 0, .ref r1, .ref r2, .ref r3, .ref sc, .int 0, .ref hd, .int 0, .int 0, .int 0, .int 0, .int 0]) : va_E)) : Met l yX6_cut wsX6_cut ({ frames := 1, cells := 0, slots := 0, locals := 20 }) (mm_Pc D A (mm_T cI cS cB cZ) M sz [.ref mo]) (mm_Qi D A (fun r M1 => r = 1)) 0 0 A := by
  refine mm_met (cc := cX6_cut) (maxL := 1) (ret := (some .boolean)) (by decide) rfl (Nat.le_of_ble_eq_true rfl) ?_
  intro p e s m args below meth c hx hb hr hts hown hlk hin hml hsz hK hM hS ls hl
  subst hsz
  have hl : lv_has ls 1 [(0, .ref mo)] := hl
  refine lv_aload_n hx hb dX6_cut_0 rfl (lv_at hl 0 rfl) ?_
  refine mm_get (v := .int 1) (ci := 6) (C := RX6) (T := TX6) (N := 34) hx hb hts (in_X6_cut_X6) hown hK hM h_mo rfl 2 (by decide) (hts (.fieldLink RX6 17 "GroupLogModel" "isOn" "Z") (List.mem_of_getElem? (i := 1) rfl)) rfl dX6_cut_1 ?_
  refine lv_if_ne (tgt := 9) hx hb dX6_cut_4 (by decide) (fun c_1 => ?_) (fun c_1 => ?_)
  rotate_left
  · exact absurd c_1 (by decide)
  refine lv_aload_n hx hb dX6_cut_9 rfl (lv_at hl 0 rfl) ?_
  refine mm_callv (mm_runV (As := []) (rest := []) ⟨hx, hb, hml, hown, hts⟩ (c_X6_goOff h_mo) (cwV 0 hts gX6_cut_X6_goOff rfl rfl rfl (by decide +kernel) ⟨Nat.le_of_ble_eq_true rfl, Nat.le_of_ble_eq_true rfl⟩) hK hM h_mo rfl rfl hl.1 rfl (Nat.le_of_ble_eq_true rfl) dX6_cut_10 ⟨Nat.le_of_ble_eq_true rfl, Nat.le_of_ble_eq_true rfl⟩) hS (fun _ h => h) (fun M H locs hp hM hS hz _ => ?_)
  refine lv_iconst (v := 1) hx hb dX6_cut_13 (by decide) ?_
  exact mm_zret hx hb hr hlk (rfl) hM hS (rfl) dX6_cut_14

theorem in_X6_used_X6 : ∀ w ∈ u_ws RX6 TX6 34, w ∈ wsX6_used := fun w h => List.mem_cons_of_mem _ (List.mem_append_right _ h)
set_option maxHeartbeats 4000000 in
set_option maxRecDepth 100000 in
theorem c_X6_used {l : Launch} {D : va_G} {A : Nat → Prop} {cI cS cB cZ : ClassId} {M : Nat → Option va_E} {sz : Nat} {mo dk it tq qq qg r1 r2 r3 sc hd : Nat} (h_mo : M mo = some (Sum.inr (6, [.ref dk, .ref it, .int 1, .int (-1), .int 0, .int 10, .int 0, .int 0, .ref tq, .int 0, .ref qq, .int 0, .ref qg, .int 0, .int 0, .int 0, .int 1, .int 1, .int 1, .int 2, .int 2, .int 1, .int 0, .ref r1, .ref r2, .ref r3, .ref sc, .int 0, .ref hd, .int 0, .int 0, .int 0, .int 0, .int 0]) : va_E)) : Met l yX6_used wsX6_used ({ frames := 0, cells := 0, slots := 0, locals := 0 }) (mm_Pc D A (mm_T cI cS cB cZ) M sz [.ref mo]) (mm_Qi D A (fun r M1 => r = 0 ∧ M1 = M)) 0 0 A := by
  refine mm_met (cc := cX6_used) (maxL := 1) (ret := (some .int)) (by decide) rfl (Nat.le_of_ble_eq_true rfl) ?_
  intro p e s m args below meth c hx hb hr hts hown hlk hin hml hsz hK hM hS ls hl
  subst hsz
  have hl : lv_has ls 1 [(0, .ref mo)] := hl
  refine lv_aload_n hx hb dX6_used_0 rfl (lv_at hl 0 rfl) ?_
  refine mm_get (v := .int 1) (ci := 6) (C := RX6) (T := TX6) (N := 34) hx hb hts (in_X6_used_X6) hown hK hM h_mo rfl 21 (by decide) (hts (.fieldLink RX6 53 "GroupLogModel" "nextSerial" "I") (List.mem_of_getElem? (i := 1) rfl)) rfl dX6_used_1 ?_
  refine lv_aload_n hx hb dX6_used_4 rfl (lv_at hl 0 rfl) ?_
  refine mm_get (v := .int 1) (ci := 6) (C := RX6) (T := TX6) (N := 34) hx hb hts (in_X6_used_X6) hown hK hM h_mo rfl 17 (by decide) (hts (.fieldLink RX6 41 "GroupLogModel" "firstSerial" "I") (List.mem_of_getElem? (i := 2) rfl)) rfl dX6_used_5 ?_
  refine lv_isub hx hb dX6_used_8 ?_
  refine lv_topi (fun z1 ez1 => ?_)
  have ez1 : z1 = 0 := ez1.trans (by decide)
  subst ez1
  exact mm_iret hx hb hr hlk hM hS (⟨rfl, rfl⟩) dX6_used_9

theorem in_X6_arm_X6 : ∀ w ∈ u_ws RX6 TX6 34, w ∈ wsX6_arm := fun w h => List.mem_cons_of_mem _ (List.mem_append_right _ h)
set_option maxHeartbeats 4000000 in
set_option maxRecDepth 100000 in
theorem c_X6_arm {l : Launch} {D : va_G} {A : Nat → Prop} {cI cS cB cZ : ClassId} {M : Nat → Option va_E} {sz : Nat} {mo dk it tq qq qg r1 r2 r3 sc hd : Nat} {n pt : Int32} (h_mo : M mo = some (Sum.inr (6, [.ref dk, .ref it, .int 1, .int (-1), .int 0, .int 10, .int 0, .int 0, .ref tq, .int 0, .ref qq, .int 0, .ref qg, .int 0, .int 0, .int 0, .int 1, .int 1, .int 1, .int 2, .int 2, .int 1, .int 0, .ref r1, .ref r2, .ref r3, .ref sc, .int 0, .ref hd, .int 0, .int 0, .int 0, .int 0, .int 0]) : va_E)) : Met l yX6_arm wsX6_arm ({ frames := 0, cells := 0, slots := 0, locals := 0 }) (mm_Pc D A (mm_T cI cS cB cZ) M sz [.ref mo, .int n, .int pt]) (mm_Qi D A (fun r M1 => r = ar_f n pt)) 0 0 A := by
  refine mm_met (cc := cX6_arm) (maxL := 3) (ret := (some .boolean)) (by decide) rfl (Nat.le_of_ble_eq_true rfl) ?_
  intro p e s m args below meth c hx hb hr hts hown hlk hin hml hsz hK hM hS ls hl
  subst hsz
  have hl : lv_has ls 3 [(0, .ref mo), (1, .int n), (2, .int pt)] := hl
  refine lv_aload_n hx hb dX6_arm_0 rfl (lv_at hl 0 rfl) ?_
  refine mm_get (v := .int 1) (ci := 6) (C := RX6) (T := TX6) (N := 34) hx hb hts (in_X6_arm_X6) hown hK hM h_mo rfl 2 (by decide) (hts (.fieldLink RX6 17 "GroupLogModel" "isOn" "Z") (List.mem_of_getElem? (i := 1) rfl)) rfl dX6_arm_1 ?_
  refine lv_if_eq (tgt := 27) hx hb dX6_arm_4 (by decide) (fun c_1 => ?_) (fun c_1 => ?_)
  · exact absurd c_1 (by decide)
  refine lv_iload_n hx hb dX6_arm_7 rfl (lv_at hl 1 rfl) ?_
  refine lv_if_lt (tgt := 27) hx hb dX6_arm_8 (by decide) (fun c_2 => ?_) (fun c_2 => ?_)
  · skip
    refine lv_iconst (v := 0) hx hb dX6_arm_27 (by decide) ?_
    exact mm_zret hx hb hr hlk (rfl) hM hS (by unfold ar_f; rw [if_pos c_2]) dX6_arm_28
  · skip
    refine lv_iload_n hx hb dX6_arm_11 rfl (lv_at hl 1 rfl) ?_
    refine lv_bipush (v := 100) hx hb dX6_arm_12 (by decide) ?_
    refine lv_icmp_gt (tgt := 27) hx hb dX6_arm_14 (by decide) (fun c_3 => ?_) (fun c_3 => ?_)
    · skip
      refine lv_iconst (v := 0) hx hb dX6_arm_27 (by decide) ?_
      exact mm_zret hx hb hr hlk (rfl) hM hS (by unfold ar_f; rw [if_neg c_2, if_pos c_3]) dX6_arm_28
    · skip
      refine lv_iload_n hx hb dX6_arm_17 rfl (lv_at hl 2 rfl) ?_
      refine lv_if_lt (tgt := 27) hx hb dX6_arm_18 (by decide) (fun c_4 => ?_) (fun c_4 => ?_)
      · skip
        refine lv_iconst (v := 0) hx hb dX6_arm_27 (by decide) ?_
        exact mm_zret hx hb hr hlk (rfl) hM hS (by unfold ar_f; rw [if_neg c_2, if_neg c_3, if_pos c_4]) dX6_arm_28
      · skip
        refine lv_iload_n hx hb dX6_arm_21 rfl (lv_at hl 2 rfl) ?_
        refine lv_bipush (v := 63) hx hb dX6_arm_22 (by decide) ?_
        refine lv_icmp_le (tgt := 29) hx hb dX6_arm_24 (by decide) (fun c_5 => ?_) (fun c_5 => ?_)
        · skip
          refine lv_aload_n hx hb dX6_arm_29 rfl (lv_at hl 0 rfl) ?_
          refine lv_iload_n hx hb dX6_arm_30 rfl (lv_at hl 1 rfl) ?_
          refine mm_put (v := .int n) (ci := 6) (C := RX6) (T := TX6) (N := 34) hx hb hts (in_X6_arm_X6) tyX6 tyX6_ok nmX6 hown hK hM hS h_mo rfl 3 (by decide) (hts (.fieldLink RX6 21 "GroupLogModel" "armed" "I") (List.mem_of_getElem? (i := 2) rfl)) rfl rfl rfl (Nat.le_of_ble_eq_true rfl) dX6_arm_31 (fun H locs M hM ha ho hS => ?_)
          have h_mo : _ = some (Sum.inr (6, [.ref dk, .ref it, .int 1, .int n, .int 0, .int 10, .int 0, .int 0, .ref tq, .int 0, .ref qq, .int 0, .ref qg, .int 0, .int 0, .int 0, .int 1, .int 1, .int 1, .int 2, .int 2, .int 1, .int 0, .ref r1, .ref r2, .ref r3, .ref sc, .int 0, .ref hd, .int 0, .int 0, .int 0, .int 0, .int 0]) : va_E) := ha
          refine lv_aload_n hx hb dX6_arm_34 rfl (lv_at hl 0 rfl) ?_
          refine lv_iload_n hx hb dX6_arm_35 rfl (lv_at hl 2 rfl) ?_
          refine mm_put (v := .int pt) (ci := 6) (C := RX6) (T := TX6) (N := 34) hx hb hts (in_X6_arm_X6) tyX6 tyX6_ok nmX6 hown hK hM hS h_mo rfl 4 (by decide) (hts (.fieldLink RX6 90 "GroupLogModel" "armedPart" "I") (List.mem_of_getElem? (i := 3) rfl)) rfl rfl rfl (Nat.le_of_ble_eq_true rfl) dX6_arm_36 (fun H locs M hM ha ho hS => ?_)
          have h_mo : _ = some (Sum.inr (6, [.ref dk, .ref it, .int 1, .int n, .int pt, .int 10, .int 0, .int 0, .ref tq, .int 0, .ref qq, .int 0, .ref qg, .int 0, .int 0, .int 0, .int 1, .int 1, .int 1, .int 2, .int 2, .int 1, .int 0, .ref r1, .ref r2, .ref r3, .ref sc, .int 0, .ref hd, .int 0, .int 0, .int 0, .int 0, .int 0]) : va_E) := ha
          refine lv_iconst (v := 1) hx hb dX6_arm_39 (by decide) ?_
          exact mm_zret hx hb hr hlk (rfl) hM hS (by unfold ar_f; rw [if_neg c_2, if_neg c_3, if_neg c_4, if_neg (tk_le.mp c_5)]) dX6_arm_40
        · skip
          refine lv_iconst (v := 0) hx hb dX6_arm_27 (by decide) ?_
          exact mm_zret hx hb hr hlk (rfl) hM hS (by unfold ar_f; rw [if_neg c_2, if_neg c_3, if_neg c_4, if_pos (tk_gt.mp c_5)]) dX6_arm_28

set_option maxHeartbeats 4000000 in
set_option maxRecDepth 100000 in
theorem c_X6_isByte {l : Launch} {D : va_G} {A : Nat → Prop} {cI cS cB cZ : ClassId} {M : Nat → Option va_E} {sz : Nat} {k i : Int32}  : Met l yX6_isByte wsX6_isByte ({ frames := 0, cells := 0, slots := 0, locals := 0 }) (mm_Pc D A (mm_T cI cS cB cZ) M sz [.int k, .int i]) (mm_Qi D A (fun r M1 => r = ib_f k i ∧ M1 = M)) 0 0 A := by
  refine mm_met (cc := cX6_isByte) (maxL := 2) (ret := (some .boolean)) (by decide) rfl (Nat.le_of_ble_eq_true rfl) ?_
  intro p e s m args below meth c hx hb hr hts hown hlk hin hml hsz hK hM hS ls hl
  subst hsz
  have hl : lv_has ls 2 [(0, .int k), (1, .int i)] := hl
  refine lv_iload_n hx hb dX6_isByte_0 rfl (lv_at hl 0 rfl) ?_
  refine lv_if_lt (tgt := 24) hx hb dX6_isByte_1 (by decide) (fun c_1 => ?_) (fun c_1 => ?_)
  · skip
    refine lv_iconst (v := 0) hx hb dX6_isByte_24 (by decide) ?_
    exact mm_zret hx hb hr hlk (rfl) hM hS (⟨by unfold ib_f; rw [if_pos c_1], rfl⟩) dX6_isByte_25
  · skip
    refine lv_iload_n hx hb dX6_isByte_4 rfl (lv_at hl 0 rfl) ?_
    refine lv_bipush (v := 64) hx hb dX6_isByte_5 (by decide) ?_
    refine lv_icmp_ge (tgt := 24) hx hb dX6_isByte_7 (by decide) (fun c_2 => ?_) (fun c_2 => ?_)
    · skip
      refine lv_iconst (v := 0) hx hb dX6_isByte_24 (by decide) ?_
      exact mm_zret hx hb hr hlk (rfl) hM hS (⟨by unfold ib_f; rw [if_neg c_1, if_pos c_2], rfl⟩) dX6_isByte_25
    · skip
      refine lv_iload_n hx hb dX6_isByte_10 rfl (lv_at hl 1 rfl) ?_
      refine lv_if_lt (tgt := 24) hx hb dX6_isByte_11 (by decide) (fun c_3 => ?_) (fun c_3 => ?_)
      · skip
        refine lv_iconst (v := 0) hx hb dX6_isByte_24 (by decide) ?_
        exact mm_zret hx hb hr hlk (rfl) hM hS (⟨by unfold ib_f; rw [if_neg c_1, if_neg c_2, if_pos c_3], rfl⟩) dX6_isByte_25
      · skip
        refine lv_iload_n hx hb dX6_isByte_14 rfl (lv_at hl 1 rfl) ?_
        refine lv_bipush (v := 64) hx hb dX6_isByte_15 (by decide) ?_
        refine lv_icmp_ge (tgt := 24) hx hb dX6_isByte_17 (by decide) (fun c_4 => ?_) (fun c_4 => ?_)
        · skip
          refine lv_iconst (v := 0) hx hb dX6_isByte_24 (by decide) ?_
          exact mm_zret hx hb hr hlk (rfl) hM hS (⟨by unfold ib_f; rw [if_neg c_1, if_neg c_2, if_neg c_3, if_pos c_4], rfl⟩) dX6_isByte_25
        · skip
          refine lv_iconst (v := 1) hx hb dX6_isByte_20 (by decide) ?_
          refine lv_goto (tgt := 25) hx hb dX6_isByte_21 (by decide) ?_
          exact mm_zret hx hb hr hlk (rfl) hM hS (⟨by unfold ib_f; rw [if_neg c_1, if_neg c_2, if_neg c_3, if_neg c_4], rfl⟩) dX6_isByte_25

theorem in_X6_disk_X6 : ∀ w ∈ u_ws RX6 TX6 34, w ∈ wsX6_disk := fun w h => List.mem_cons_of_mem _ (List.mem_append_right _ h)
set_option maxHeartbeats 4000000 in
set_option maxRecDepth 100000 in
theorem c_X6_disk {l : Launch} {D : va_G} {A : Nat → Prop} {cI cS cB cZ : ClassId} {M : Nat → Option va_E} {sz : Nat} {mo dk it tq qq qg r1 r2 r3 sc hd : Nat} {k i : Int32} (h_mo : M mo = some (Sum.inr (6, [.ref dk, .ref it, .int 1, .int (-1), .int 0, .int 10, .int 0, .int 0, .ref tq, .int 0, .ref qq, .int 0, .ref qg, .int 0, .int 0, .int 0, .int 1, .int 1, .int 1, .int 2, .int 2, .int 1, .int 0, .ref r1, .ref r2, .ref r3, .ref sc, .int 0, .ref hd, .int 0, .int 0, .int 0, .int 0, .int 0]) : va_E)) (h_dk : M dk = some (Sum.inl (cB, 4096, .inl (md_F)) : va_E)) : Met l yX6_disk wsX6_disk ({ frames := 1, cells := 0, slots := 0, locals := 21 }) (mm_Pc D A (mm_T cI cS cB cZ) M sz [.ref mo, .int k, .int i]) (mm_Qi D A (fun r M1 => r = dk_f k i)) 0 0 A := by
  refine mm_met (cc := cX6_disk) (maxL := 3) (ret := (some .int)) (by decide) rfl (Nat.le_of_ble_eq_true rfl) ?_
  intro p e s m args below meth c hx hb hr hts hown hlk hin hml hsz hK hM hS ls hl
  subst hsz
  have hl : lv_has ls 3 [(0, .ref mo), (1, .int k), (2, .int i)] := hl
  refine lv_iload_n hx hb dX6_disk_0 rfl (lv_at hl 1 rfl) ?_
  refine lv_iload_n hx hb dX6_disk_1 rfl (lv_at hl 2 rfl) ?_
  refine mm_calli (mm_runS (As := [.int k, .int i]) (rest := []) ⟨hx, hb, hml, hown, hts⟩ (c_X6_isByte ) (va_cwS 2 hts gX6_disk_X6_isByte rfl rfl rfl (by decide +kernel) ⟨Nat.le_of_ble_eq_true rfl, Nat.le_of_ble_eq_true rfl⟩) hK hM rfl hl.1 rfl (Nat.le_of_ble_eq_true rfl) dX6_disk_2 ⟨Nat.le_of_ble_eq_true rfl, Nat.le_of_ble_eq_true rfl⟩) hS (fun _ h => h) (fun r1 M H locs hp hM hS hz _ => ?_)
  obtain ⟨rfl, hme⟩ := hp
  rw [hme] at hM
  refine lv_if_eq (tgt := 26) hx hb dX6_disk_5 (by decide) (fun c_2 => ?_) (fun c_2 => ?_)
  · skip
    refine lv_iconst (v := (-1)) hx hb dX6_disk_26 (by decide) ?_
    exact mm_iret hx hb hr hlk hM hS (dk_no c_2) dX6_disk_27
  · skip
    obtain ⟨j, n, hj, hn, e1, e2⟩ := ib_1 c_2
    refine lv_aload_n hx hb dX6_disk_8 rfl (lv_at hl 0 rfl) ?_
    refine mm_get (v := .ref dk) (ci := 6) (C := RX6) (T := TX6) (N := 34) hx hb hts (in_X6_disk_X6) hown hK hM h_mo rfl 0 (by decide) (hts (.fieldLink RX6 7 "GroupLogModel" "disk" "[B") (List.mem_of_getElem? (i := 1) rfl)) rfl dX6_disk_9 ?_
    refine lv_bipush (v := 64) hx hb dX6_disk_12 (by decide) ?_
    refine lv_iload_n hx hb dX6_disk_14 rfl (lv_at hl 1 rfl) ?_
    refine lv_imul hx hb dX6_disk_15 ?_
    refine lv_iload_n hx hb dX6_disk_16 rfl (lv_at hl 2 rfl) ?_
    refine lv_iadd hx hb dX6_disk_17 ?_
    refine lv_topi (fun z3 ez3 => ?_)
    have ez3 : z3 = (nI (64 * j + n)) := ez3.trans (by rw [e1, e2, show (64 : Int32) = nI 64 from rfl, pk_mul, nI_add])
    subst ez3
    refine mm_bald hx hb hK hM 2 h_dk rfl (j := 64 * j + n) (rfl) (by omega) (by decide) dX6_disk_18 ?_
    refine lv_sipush (v := 255) hx hb dX6_disk_19 (by decide) ?_
    refine lv_iand hx hb dX6_disk_22 ?_
    refine lv_goto (tgt := 27) hx hb dX6_disk_23 (by decide) ?_
    exact mm_iret hx hb hr hlk hM hS (by rw [← dk_yes c_2 hj hn e1 e2]; exact md_eq hn) dX6_disk_27

theorem in_X6_torn_X6 : ∀ w ∈ u_ws RX6 TX6 34, w ∈ wsX6_torn := fun w h => List.mem_cons_of_mem _ (List.mem_append_right _ h)
set_option maxHeartbeats 4000000 in
set_option maxRecDepth 100000 in
theorem c_X6_torn {l : Launch} {D : va_G} {A : Nat → Prop} {cI cS cB cZ : ClassId} {M : Nat → Option va_E} {sz : Nat} {mo dk it tq qq qg r1 r2 r3 sc hd : Nat} {k : Int32} (h_mo : M mo = some (Sum.inr (6, [.ref dk, .ref it, .int 1, .int (-1), .int 0, .int 10, .int 0, .int 0, .ref tq, .int 0, .ref qq, .int 0, .ref qg, .int 0, .int 0, .int 0, .int 1, .int 1, .int 1, .int 2, .int 2, .int 1, .int 0, .ref r1, .ref r2, .ref r3, .ref sc, .int 0, .ref hd, .int 0, .int 0, .int 0, .int 0, .int 0]) : va_E)) (h_it : M it = some (Sum.inl (cZ, 64, .inl (fun _ => 0)) : va_E)) : Met l yX6_torn wsX6_torn ({ frames := 0, cells := 0, slots := 0, locals := 0 }) (mm_Pc D A (mm_T cI cS cB cZ) M sz [.ref mo, .int k]) (mm_Qi D A (fun r M1 => r = 0)) 0 0 A := by
  refine mm_met (cc := cX6_torn) (maxL := 2) (ret := (some .boolean)) (by decide) rfl (Nat.le_of_ble_eq_true rfl) ?_
  intro p e s m args below meth c hx hb hr hts hown hlk hin hml hsz hK hM hS ls hl
  subst hsz
  have hl : lv_has ls 2 [(0, .ref mo), (1, .int k)] := hl
  refine lv_iload_n hx hb dX6_torn_0 rfl (lv_at hl 1 rfl) ?_
  refine lv_if_lt (tgt := 23) hx hb dX6_torn_1 (by decide) (fun c_1 => ?_) (fun c_1 => ?_)
  · skip
    refine lv_iconst (v := 0) hx hb dX6_torn_23 (by decide) ?_
    exact mm_zret hx hb hr hlk (rfl) hM hS (rfl) dX6_torn_24
  · skip
    refine lv_iload_n hx hb dX6_torn_4 rfl (lv_at hl 1 rfl) ?_
    refine lv_bipush (v := 64) hx hb dX6_torn_5 (by decide) ?_
    refine lv_icmp_ge (tgt := 23) hx hb dX6_torn_7 (by decide) (fun c_2 => ?_) (fun c_2 => ?_)
    · skip
      refine lv_iconst (v := 0) hx hb dX6_torn_23 (by decide) ?_
      exact mm_zret hx hb hr hlk (rfl) hM hS (rfl) dX6_torn_24
    · skip
      obtain ⟨j, hj, e1⟩ := ib_in c_1 c_2
      refine lv_aload_n hx hb dX6_torn_10 rfl (lv_at hl 0 rfl) ?_
      refine mm_get (v := .ref it) (ci := 6) (C := RX6) (T := TX6) (N := 34) hx hb hts (in_X6_torn_X6) hown hK hM h_mo rfl 1 (by decide) (hts (.fieldLink RX6 13 "GroupLogModel" "isTorn" "[Z") (List.mem_of_getElem? (i := 1) rfl)) rfl dX6_torn_11 ?_
      refine lv_iload_n hx hb dX6_torn_14 rfl (lv_at hl 1 rfl) ?_
      refine mm_zald hx hb hK hM 3 h_it rfl (j := j) (e1) (hj) (by decide) dX6_torn_15 ?_
      refine lv_if_eq (tgt := 23) hx hb dX6_torn_16 (by decide) (fun c_3 => ?_) (fun c_3 => ?_)
      rotate_left
      · exact absurd c_3 (by decide)
      refine lv_iconst (v := 0) hx hb dX6_torn_23 (by decide) ?_
      exact mm_zret hx hb hr hlk (rfl) hM hS (rfl) dX6_torn_24

theorem in_X6_count_X6 : ∀ w ∈ u_ws RX6 TX6 34, w ∈ wsX6_count := fun w h => List.mem_cons_of_mem _ (List.mem_append_right _ h)
set_option maxHeartbeats 4000000 in
set_option maxRecDepth 100000 in
theorem c_X6_count {l : Launch} {D : va_G} {A : Nat → Prop} {cI cS cB cZ : ClassId} {M : Nat → Option va_E} {sz : Nat} {mo dk it tq qq qg r1 r2 r3 sc hd : Nat} {k : Int32} (h_mo : M mo = some (Sum.inr (6, [.ref dk, .ref it, .int 1, .int (-1), .int 0, .int 10, .int 0, .int 0, .ref tq, .int 0, .ref qq, .int 0, .ref qg, .int 0, .int 0, .int 0, .int 1, .int 1, .int 1, .int 2, .int 2, .int 1, .int 0, .ref r1, .ref r2, .ref r3, .ref sc, .int 0, .ref hd, .int 0, .int 0, .int 0, .int 0, .int 0]) : va_E)) : Met l yX6_count wsX6_count ({ frames := 1, cells := 0, slots := 0, locals := 20 }) (mm_Pc D A (mm_T cI cS cB cZ) M sz [.ref mo, .int k]) (mm_Qi D A (fun r M1 => r = ct_f k)) 0 0 A := by
  refine mm_met (cc := cX6_count) (maxL := 2) (ret := (some .int)) (by decide) rfl (Nat.le_of_ble_eq_true rfl) ?_
  intro p e s m args below meth c hx hb hr hts hown hlk hin hml hsz hK hM hS ls hl
  subst hsz
  have hl : lv_has ls 2 [(0, .ref mo), (1, .int k)] := hl
  rcases ct_cases k with rfl | rfl | rfl | rfl | rfl | rfl | rfl | rfl | rfl | rfl | hk
  · skip
    have hl : lv_has ls 2 [(0, .ref mo), (1, .int 0)] := hl
    refine lv_iload_n hx hb dX6_count_0 rfl (lv_at hl 1 rfl) ?_
    refine lv_tableIn (off := 55) (tgt := 56) hx hb dX6_count_1 (by decide) (by decide) (by decide) (by decide) ?_
    refine lv_aload_n hx hb dX6_count_56 rfl (lv_at hl 0 rfl) ?_
    refine mm_get (v := .int 1) (ci := 6) (C := RX6) (T := TX6) (N := 34) hx hb hts (in_X6_count_X6) hown hK hM h_mo rfl 2 (by decide) (hts (.fieldLink RX6 17 "GroupLogModel" "isOn" "Z") (List.mem_of_getElem? (i := 1) rfl)) rfl dX6_count_57 ?_
    refine lv_if_eq (tgt := 67) hx hb dX6_count_60 (by decide) (fun c_1 => ?_) (fun c_1 => ?_)
    · exact absurd c_1 (by decide)
    refine lv_iconst (v := 1) hx hb dX6_count_63 (by decide) ?_
    refine lv_goto (tgt := 68) hx hb dX6_count_64 (by decide) ?_
    exact mm_iret hx hb hr hlk hM hS (by decide) dX6_count_68
  · skip
    have hl : lv_has ls 2 [(0, .ref mo), (1, .int 1)] := hl
    refine lv_iload_n hx hb dX6_count_0 rfl (lv_at hl 1 rfl) ?_
    refine lv_tableIn (off := 68) (tgt := 69) hx hb dX6_count_1 (by decide) (by decide) (by decide) (by decide) ?_
    refine lv_aload_n hx hb dX6_count_69 rfl (lv_at hl 0 rfl) ?_
    refine mm_get (v := .int 1) (ci := 6) (C := RX6) (T := TX6) (N := 34) hx hb hts (in_X6_count_X6) hown hK hM h_mo rfl 2 (by decide) (hts (.fieldLink RX6 17 "GroupLogModel" "isOn" "Z") (List.mem_of_getElem? (i := 1) rfl)) rfl dX6_count_70 ?_
    refine lv_if_eq (tgt := 83) hx hb dX6_count_73 (by decide) (fun c_2 => ?_) (fun c_2 => ?_)
    · exact absurd c_2 (by decide)
    refine lv_aload_n hx hb dX6_count_76 rfl (lv_at hl 0 rfl) ?_
    refine mm_get (v := .int 0) (ci := 6) (C := RX6) (T := TX6) (N := 34) hx hb hts (in_X6_count_X6) hown hK hM h_mo rfl 13 (by decide) (hts (.fieldLink RX6 102 "GroupLogModel" "queued" "I") (List.mem_of_getElem? (i := 2) rfl)) rfl dX6_count_77 ?_
    refine lv_goto (tgt := 85) hx hb dX6_count_80 (by decide) ?_
    exact mm_iret hx hb hr hlk hM hS (by decide) dX6_count_85
  · skip
    have hl : lv_has ls 2 [(0, .ref mo), (1, .int 2)] := hl
    refine lv_iload_n hx hb dX6_count_0 rfl (lv_at hl 1 rfl) ?_
    refine lv_tableIn (off := 85) (tgt := 86) hx hb dX6_count_1 (by decide) (by decide) (by decide) (by decide) ?_
    refine lv_aload_n hx hb dX6_count_86 rfl (lv_at hl 0 rfl) ?_
    refine mm_get (v := .int 1) (ci := 6) (C := RX6) (T := TX6) (N := 34) hx hb hts (in_X6_count_X6) hown hK hM h_mo rfl 2 (by decide) (hts (.fieldLink RX6 17 "GroupLogModel" "isOn" "Z") (List.mem_of_getElem? (i := 1) rfl)) rfl dX6_count_87 ?_
    refine lv_if_eq (tgt := 100) hx hb dX6_count_90 (by decide) (fun c_3 => ?_) (fun c_3 => ?_)
    · exact absurd c_3 (by decide)
    refine lv_aload_n hx hb dX6_count_93 rfl (lv_at hl 0 rfl) ?_
    refine mm_get (v := .int 0) (ci := 6) (C := RX6) (T := TX6) (N := 34) hx hb hts (in_X6_count_X6) hown hK hM h_mo rfl 11 (by decide) (hts (.fieldLink RX6 99 "GroupLogModel" "queueSize" "I") (List.mem_of_getElem? (i := 3) rfl)) rfl dX6_count_94 ?_
    refine lv_goto (tgt := 102) hx hb dX6_count_97 (by decide) ?_
    exact mm_iret hx hb hr hlk hM hS (by decide) dX6_count_102
  · skip
    have hl : lv_has ls 2 [(0, .ref mo), (1, .int 3)] := hl
    refine lv_iload_n hx hb dX6_count_0 rfl (lv_at hl 1 rfl) ?_
    refine lv_tableIn (off := 102) (tgt := 103) hx hb dX6_count_1 (by decide) (by decide) (by decide) (by decide) ?_
    refine lv_aload_n hx hb dX6_count_103 rfl (lv_at hl 0 rfl) ?_
    refine mm_get (v := .int 1) (ci := 6) (C := RX6) (T := TX6) (N := 34) hx hb hts (in_X6_count_X6) hown hK hM h_mo rfl 2 (by decide) (hts (.fieldLink RX6 17 "GroupLogModel" "isOn" "Z") (List.mem_of_getElem? (i := 1) rfl)) rfl dX6_count_104 ?_
    refine lv_if_eq (tgt := 117) hx hb dX6_count_107 (by decide) (fun c_4 => ?_) (fun c_4 => ?_)
    · exact absurd c_4 (by decide)
    refine lv_aload_n hx hb dX6_count_110 rfl (lv_at hl 0 rfl) ?_
    refine mm_calli (mm_runV (As := []) (rest := []) ⟨hx, hb, hml, hown, hts⟩ (c_X6_used h_mo) (cwV 0 hts gX6_count_X6_used rfl rfl rfl (by decide +kernel) ⟨Nat.le_of_ble_eq_true rfl, Nat.le_of_ble_eq_true rfl⟩) hK hM h_mo rfl rfl hl.1 rfl (Nat.le_of_ble_eq_true rfl) dX6_count_111 ⟨Nat.le_of_ble_eq_true rfl, Nat.le_of_ble_eq_true rfl⟩) hS (fun _ h => h) (fun r5 M H locs hp hM hS hz _ => ?_)
    obtain ⟨rfl, hme⟩ := hp
    rw [hme] at hM
    refine lv_goto (tgt := 119) hx hb dX6_count_114 (by decide) ?_
    exact mm_iret hx hb hr hlk hM hS (by decide) dX6_count_119
  · skip
    have hl : lv_has ls 2 [(0, .ref mo), (1, .int 4)] := hl
    refine lv_iload_n hx hb dX6_count_0 rfl (lv_at hl 1 rfl) ?_
    refine lv_tableIn (off := 119) (tgt := 120) hx hb dX6_count_1 (by decide) (by decide) (by decide) (by decide) ?_
    refine lv_aload_n hx hb dX6_count_120 rfl (lv_at hl 0 rfl) ?_
    refine mm_get (v := .int 1) (ci := 6) (C := RX6) (T := TX6) (N := 34) hx hb hts (in_X6_count_X6) hown hK hM h_mo rfl 2 (by decide) (hts (.fieldLink RX6 17 "GroupLogModel" "isOn" "Z") (List.mem_of_getElem? (i := 1) rfl)) rfl dX6_count_121 ?_
    refine lv_if_eq (tgt := 134) hx hb dX6_count_124 (by decide) (fun c_6 => ?_) (fun c_6 => ?_)
    · exact absurd c_6 (by decide)
    refine lv_aload_n hx hb dX6_count_127 rfl (lv_at hl 0 rfl) ?_
    refine mm_get (v := .int 2) (ci := 6) (C := RX6) (T := TX6) (N := 34) hx hb hts (in_X6_count_X6) hown hK hM h_mo rfl 20 (by decide) (hts (.fieldLink RX6 50 "GroupLogModel" "nextSector" "I") (List.mem_of_getElem? (i := 4) rfl)) rfl dX6_count_128 ?_
    refine lv_goto (tgt := 136) hx hb dX6_count_131 (by decide) ?_
    exact mm_iret hx hb hr hlk hM hS (by decide) dX6_count_136
  · skip
    have hl : lv_has ls 2 [(0, .ref mo), (1, .int 5)] := hl
    refine lv_iload_n hx hb dX6_count_0 rfl (lv_at hl 1 rfl) ?_
    refine lv_tableIn (off := 136) (tgt := 137) hx hb dX6_count_1 (by decide) (by decide) (by decide) (by decide) ?_
    refine lv_aload_n hx hb dX6_count_137 rfl (lv_at hl 0 rfl) ?_
    refine mm_get (v := .int 1) (ci := 6) (C := RX6) (T := TX6) (N := 34) hx hb hts (in_X6_count_X6) hown hK hM h_mo rfl 2 (by decide) (hts (.fieldLink RX6 17 "GroupLogModel" "isOn" "Z") (List.mem_of_getElem? (i := 1) rfl)) rfl dX6_count_138 ?_
    refine lv_if_eq (tgt := 151) hx hb dX6_count_141 (by decide) (fun c_7 => ?_) (fun c_7 => ?_)
    · exact absurd c_7 (by decide)
    refine lv_aload_n hx hb dX6_count_144 rfl (lv_at hl 0 rfl) ?_
    refine mm_get (v := .int 1) (ci := 6) (C := RX6) (T := TX6) (N := 34) hx hb hts (in_X6_count_X6) hown hK hM h_mo rfl 21 (by decide) (hts (.fieldLink RX6 53 "GroupLogModel" "nextSerial" "I") (List.mem_of_getElem? (i := 5) rfl)) rfl dX6_count_145 ?_
    refine lv_goto (tgt := 153) hx hb dX6_count_148 (by decide) ?_
    exact mm_iret hx hb hr hlk hM hS (by decide) dX6_count_153
  · skip
    have hl : lv_has ls 2 [(0, .ref mo), (1, .int 6)] := hl
    refine lv_iload_n hx hb dX6_count_0 rfl (lv_at hl 1 rfl) ?_
    refine lv_tableIn (off := 153) (tgt := 154) hx hb dX6_count_1 (by decide) (by decide) (by decide) (by decide) ?_
    refine lv_aload_n hx hb dX6_count_154 rfl (lv_at hl 0 rfl) ?_
    refine mm_get (v := .int 0) (ci := 6) (C := RX6) (T := TX6) (N := 34) hx hb hts (in_X6_count_X6) hown hK hM h_mo rfl 6 (by decide) (hts (.fieldLink RX6 96 "GroupLogModel" "steps" "I") (List.mem_of_getElem? (i := 6) rfl)) rfl dX6_count_155 ?_
    exact mm_iret hx hb hr hlk hM hS (by decide) dX6_count_158
  · skip
    have hl : lv_has ls 2 [(0, .ref mo), (1, .int 7)] := hl
    refine lv_iload_n hx hb dX6_count_0 rfl (lv_at hl 1 rfl) ?_
    refine lv_tableIn (off := 158) (tgt := 159) hx hb dX6_count_1 (by decide) (by decide) (by decide) (by decide) ?_
    refine lv_aload_n hx hb dX6_count_159 rfl (lv_at hl 0 rfl) ?_
    refine mm_get (v := .int 0) (ci := 6) (C := RX6) (T := TX6) (N := 34) hx hb hts (in_X6_count_X6) hown hK hM h_mo rfl 7 (by decide) (hts (.fieldLink RX6 132 "GroupLogModel" "flushes" "I") (List.mem_of_getElem? (i := 7) rfl)) rfl dX6_count_160 ?_
    exact mm_iret hx hb hr hlk hM hS (by decide) dX6_count_163
  · skip
    have hl : lv_has ls 2 [(0, .ref mo), (1, .int 8)] := hl
    refine lv_iload_n hx hb dX6_count_0 rfl (lv_at hl 1 rfl) ?_
    refine lv_tableIn (off := 163) (tgt := 164) hx hb dX6_count_1 (by decide) (by decide) (by decide) (by decide) ?_
    refine lv_aload_n hx hb dX6_count_164 rfl (lv_at hl 0 rfl) ?_
    refine mm_get (v := .int 1) (ci := 6) (C := RX6) (T := TX6) (N := 34) hx hb hts (in_X6_count_X6) hown hK hM h_mo rfl 2 (by decide) (hts (.fieldLink RX6 17 "GroupLogModel" "isOn" "Z") (List.mem_of_getElem? (i := 1) rfl)) rfl dX6_count_165 ?_
    refine lv_if_ne (tgt := 176) hx hb dX6_count_168 (by decide) (fun c_8 => ?_) (fun c_8 => ?_)
    rotate_left
    · exact absurd c_8 (by decide)
    refine lv_aload_n hx hb dX6_count_176 rfl (lv_at hl 0 rfl) ?_
    refine mm_get (v := .int 0) (ci := 6) (C := RX6) (T := TX6) (N := 34) hx hb hts (in_X6_count_X6) hown hK hM h_mo rfl 13 (by decide) (hts (.fieldLink RX6 102 "GroupLogModel" "queued" "I") (List.mem_of_getElem? (i := 2) rfl)) rfl dX6_count_177 ?_
    refine lv_if_ne (tgt := 187) hx hb dX6_count_180 (by decide) (fun c_9 => ?_) (fun c_9 => ?_)
    · exact absurd c_9 (by decide)
    refine lv_iconst (v := (-1)) hx hb dX6_count_183 (by decide) ?_
    refine lv_goto (tgt := 191) hx hb dX6_count_184 (by decide) ?_
    exact mm_iret hx hb hr hlk hM hS (by decide) dX6_count_191
  · skip
    have hl : lv_has ls 2 [(0, .ref mo), (1, .int 9)] := hl
    refine lv_iload_n hx hb dX6_count_0 rfl (lv_at hl 1 rfl) ?_
    refine lv_tableIn (off := 191) (tgt := 192) hx hb dX6_count_1 (by decide) (by decide) (by decide) (by decide) ?_
    refine lv_aload_n hx hb dX6_count_192 rfl (lv_at hl 0 rfl) ?_
    refine mm_get (v := .int 1) (ci := 6) (C := RX6) (T := TX6) (N := 34) hx hb hts (in_X6_count_X6) hown hK hM h_mo rfl 2 (by decide) (hts (.fieldLink RX6 17 "GroupLogModel" "isOn" "Z") (List.mem_of_getElem? (i := 1) rfl)) rfl dX6_count_193 ?_
    refine lv_if_eq (tgt := 206) hx hb dX6_count_196 (by decide) (fun c_10 => ?_) (fun c_10 => ?_)
    · exact absurd c_10 (by decide)
    refine lv_aload_n hx hb dX6_count_199 rfl (lv_at hl 0 rfl) ?_
    refine mm_get (v := .int 1) (ci := 6) (C := RX6) (T := TX6) (N := 34) hx hb hts (in_X6_count_X6) hown hK hM h_mo rfl 16 (by decide) (hts (.fieldLink RX6 38 "GroupLogModel" "version" "I") (List.mem_of_getElem? (i := 9) rfl)) rfl dX6_count_200 ?_
    refine lv_goto (tgt := 208) hx hb dX6_count_203 (by decide) ?_
    exact mm_iret hx hb hr hlk hM hS (by decide) dX6_count_208
  · skip
    refine lv_iload_n hx hb dX6_count_0 rfl (lv_at hl 1 rfl) ?_
    refine lv_tableOut (tgt := 209) hx hb dX6_count_1 (ct_int hk) (by decide) ?_
    refine lv_iconst (v := (-1)) hx hb dX6_count_209 (by decide) ?_
    exact mm_iret hx hb hr hlk hM hS (ct_out hk) dX6_count_210

theorem in_X6_tick_X6 : ∀ w ∈ u_ws RX6 TX6 34, w ∈ wsX6_tick := fun w h => List.mem_cons_of_mem _ (List.mem_append_right _ h)
set_option maxHeartbeats 4000000 in
set_option maxRecDepth 100000 in
theorem lp_X6_tick {p : Program} {l : Launch} {e : Env} {s : State} {m : MethodId} {args : Array Value} {below : List Frame} {meth : Method} {c : Code} {Q : State → Prop} {D : va_G} {A : Nat → Prop} {cI cS cB cZ : ClassId} {cells slots : Nat} {R : Room} (hx : p.tables.exec = Jvm.exec) (hb : c.code = cX6_tick) (hts : ∀ w ∈ wsX6_tick, w.before args s = true) (hown : s.vm.findClass RX6 = some m.cls) (hml : c.maxLocals = 4) (hK : mm_K D (mm_T cI cS cB cZ) s) {m0 dk it tq qq qg r1 r2 r3 sc hd T : Nat} (hT : T < 2 ^ 31) {H : Heap} {locs : List Loc} {M : Nat → Option va_E} (hM : mm_W D A M H) (h_m0 : M m0 = some (Sum.inr (6, [.ref dk, .ref it, .int 1, .int (-1), .int 0, .int 10, .int 0, .int 0, .ref tq, .int 0, .ref qq, .int 0, .ref qg, .int 0, .int 0, .int 0, .int 1, .int 1, .int 1, .int 2, .int 2, .int 1, .int 0, .ref r1, .ref r2, .ref r3, .ref sc, .int 0, .ref hd, .int 0, .int 0, .int 0, .int 0, .int 0]) : va_E)) :
    ∀ (n i : Nat), i + n = T → ∀ ls : Array Slot, lv_has ls 4 [(0, .ref m0), (1, .int (nI T)), (2, .int 0), (3, .int (nI i))] → (∀ ls1 : Array Slot, lv_has ls1 4 [(2, .int 0)] → W p l e R s m args below meth c H locs cells slots Q (F0 m 94 ls1 [])) → W p l e R s m args below meth c H locs cells slots Q (F0 m 40 ls []) := by
  intro n
  induction n with
  | zero =>
    intro i hi ls hl kx
    obtain rfl : i = T := by omega
    refine lv_iload_n hx hb dX6_tick_40 rfl (lv_at hl 3 rfl) ?_
    refine lv_iload_n hx hb dX6_tick_41 rfl (lv_at hl 1 rfl) ?_
    refine lv_icmp_ge (tgt := 94) hx hb dX6_tick_42 (by decide) (fun c_1 => ?_) (fun c_1 => ?_)
    rotate_left
    · exact absurd c_1 (fun h => h (nI_le (Nat.le_refl _) (by omega)))
    exact kx ls (lv_sub hl [2] rfl)
  | succ n ih =>
    intro i hi ls hl kx
    refine lv_iload_n hx hb dX6_tick_40 rfl (lv_at hl 3 rfl) ?_
    refine lv_iload_n hx hb dX6_tick_41 rfl (lv_at hl 1 rfl) ?_
    refine lv_icmp_ge (tgt := 94) hx hb dX6_tick_42 (by decide) (fun c_2 => ?_) (fun c_2 => ?_)
    · exact absurd c_2 (nI_ge (by omega) (by omega))
    refine lv_aload_n hx hb dX6_tick_45 rfl (lv_at hl 0 rfl) ?_
    refine mm_get (v := .int 1) (ci := 6) (C := RX6) (T := TX6) (N := 34) hx hb hts (in_X6_tick_X6) hown hK hM h_m0 rfl 2 (by decide) (hts (.fieldLink RX6 17 "GroupLogModel" "isOn" "Z") (List.mem_of_getElem? (i := 1) rfl)) rfl dX6_tick_46 ?_
    refine lv_if_eq (tgt := 94) hx hb dX6_tick_49 (by decide) (fun c_3 => ?_) (fun c_3 => ?_)
    · exact absurd c_3 (by decide)
    refine lv_aload_n hx hb dX6_tick_52 rfl (lv_at hl 0 rfl) ?_
    refine mm_get (v := .int 0) (ci := 6) (C := RX6) (T := TX6) (N := 34) hx hb hts (in_X6_tick_X6) hown hK hM h_m0 rfl 13 (by decide) (hts (.fieldLink RX6 102 "GroupLogModel" "queued" "I") (List.mem_of_getElem? (i := 2) rfl)) rfl dX6_tick_53 ?_
    refine lv_if_le (tgt := 88) hx hb dX6_tick_56 (by decide) (fun c_4 => ?_) (fun c_4 => ?_)
    rotate_left
    · exact absurd c_4 (by decide)
    refine lv_iinc (v := (nI (i + 1))) (lv' := [(3, .int (nI (i + 1))), (0, .ref m0), (1, .int (nI T)), (2, .int 0)]) hx hb dX6_tick_88 hl (k := 3) rfl (by show _ + (1 : Int32) = _; exact nI_1 i) (by decide) rfl (fun ls hl => ?_)
    refine lv_goto (tgt := 40) hx hb dX6_tick_91 (by decide) ?_
    exact ih (i + 1) (by omega) ls (lv_sub hl [1, 2, 3, 0] rfl) kx

theorem tc_no {k : Int32} (h : tk_f k = 0) : (-1) = tc_f k := by unfold tc_f; rw [if_pos h]
theorem tc_yes {k : Int32} (h1 : ¬ k < 1) (h2 : k ≤ 1000) : 0 = tc_f k := by
  unfold tc_f tk_f
  rw [if_neg h1, if_neg (tk_le.mp h2)]
  decide
theorem tc_in {k : Int32} (h1 : ¬ k < 1) : ∃ T : Nat, T < 2 ^ 31 ∧ k = nI T := by
  refine nI_of (fun h => h1 ?_)
  rw [Int32.lt_iff_toInt_lt] at h ⊢
  have e1 : (1 : Int32).toInt = 1 := by decide
  have e0 : (0 : Int32).toInt = 0 := by decide
  omega

set_option maxHeartbeats 4000000 in
set_option maxRecDepth 100000 in
theorem c_X6_tick {l : Launch} {D : va_G} {A : Nat → Prop} {cI cS cB cZ : ClassId} {M : Nat → Option va_E} {sz : Nat} {mo dk it tq qq qg r1 r2 r3 sc hd : Nat} {k : Int32} (h_mo : M mo = some (Sum.inr (6, [.ref dk, .ref it, .int 1, .int (-1), .int 0, .int 10, .int 0, .int 0, .ref tq, .int 0, .ref qq, .int 0, .ref qg, .int 0, .int 0, .int 0, .int 1, .int 1, .int 1, .int 2, .int 2, .int 1, .int 0, .ref r1, .ref r2, .ref r3, .ref sc, .int 0, .ref hd, .int 0, .int 0, .int 0, .int 0, .int 0]) : va_E)) : Met l yX6_tick wsX6_tick ({ frames := 0, cells := 0, slots := 0, locals := 0 }) (mm_Pc D A (mm_T cI cS cB cZ) M sz [.ref mo, .int k]) (mm_Qi D A (fun r M1 => r = tc_f k)) 0 0 A := by
  refine mm_met (cc := cX6_tick) (maxL := 4) (ret := (some .int)) (by decide) rfl (Nat.le_of_ble_eq_true rfl) ?_
  intro p e s m args below meth c hx hb hr hts hown hlk hin hml hsz hK hM hS ls hl
  subst hsz
  have hl : lv_has ls 4 [(0, .ref mo), (1, .int k)] := hl
  refine lv_iload_n hx hb dX6_tick_0 rfl (lv_at hl 1 rfl) ?_
  refine lv_iconst (v := 1) hx hb dX6_tick_1 (by decide) ?_
  refine lv_icmp_lt (tgt := 12) hx hb dX6_tick_2 (by decide) (fun c_1 => ?_) (fun c_1 => ?_)
  · skip
    refine lv_aload_n hx hb dX6_tick_12 rfl (lv_at hl 0 rfl) ?_
    refine mm_get (v := .int 1) (ci := 6) (C := RX6) (T := TX6) (N := 34) hx hb hts (in_X6_tick_X6) hown hK hM h_mo rfl 2 (by decide) (hts (.fieldLink RX6 17 "GroupLogModel" "isOn" "Z") (List.mem_of_getElem? (i := 1) rfl)) rfl dX6_tick_13 ?_
    refine lv_if_eq (tgt := 23) hx hb dX6_tick_16 (by decide) (fun c_2 => ?_) (fun c_2 => ?_)
    · exact absurd c_2 (by decide)
    refine lv_iconst (v := (-1)) hx hb dX6_tick_19 (by decide) ?_
    refine lv_goto (tgt := 25) hx hb dX6_tick_20 (by decide) ?_
    exact mm_iret hx hb hr hlk hM hS (tc_no (by unfold tk_f; rw [if_pos c_1])) dX6_tick_25
  · skip
    refine lv_iload_n hx hb dX6_tick_5 rfl (lv_at hl 1 rfl) ?_
    refine lv_sipush (v := 1000) hx hb dX6_tick_6 (by decide) ?_
    refine lv_icmp_le (tgt := 26) hx hb dX6_tick_9 (by decide) (fun c_3 => ?_) (fun c_3 => ?_)
    · skip
      have hans := tc_yes c_1 c_3
      obtain ⟨T, hT, eT⟩ := tc_in c_1
      rw [eT] at hl
      have hl : lv_has ls 4 [(0, .ref mo), (1, .int (nI T))] := hl
      refine lv_aload_n hx hb dX6_tick_26 rfl (lv_at hl 0 rfl) ?_
      refine mm_get (v := .int 1) (ci := 6) (C := RX6) (T := TX6) (N := 34) hx hb hts (in_X6_tick_X6) hown hK hM h_mo rfl 2 (by decide) (hts (.fieldLink RX6 17 "GroupLogModel" "isOn" "Z") (List.mem_of_getElem? (i := 1) rfl)) rfl dX6_tick_27 ?_
      refine lv_if_ne (tgt := 36) hx hb dX6_tick_30 (by decide) (fun c_4 => ?_) (fun c_4 => ?_)
      rotate_left
      · exact absurd c_4 (by decide)
      refine lv_iconst (v := 0) hx hb dX6_tick_36 (by decide) ?_
      refine lv_istore_n (lv' := [(2, .int 0), (0, .ref mo), (1, .int (nI T))]) hx hb dX6_tick_37 rfl hl (by decide) rfl (fun ls hl => ?_)
      refine lv_iconst (v := 0) hx hb dX6_tick_38 (by decide) ?_
      refine lv_istore_n (lv' := [(3, .int 0), (2, .int 0), (0, .ref mo), (1, .int (nI T))]) hx hb dX6_tick_39 rfl hl (by decide) rfl (fun ls hl => ?_)
      refine lp_X6_tick (dk := dk) (it := it) (tq := tq) hx hb hts hown hml hK hT hM h_mo T 0 (by omega) ls (lv_sub hl [2, 3, 1, 0] rfl) (fun ls hl => ?_)
      refine lv_iload_n hx hb dX6_tick_94 rfl (lv_at hl 0 rfl) ?_
      exact mm_iret hx hb hr hlk hM hS (hans) dX6_tick_95
    · skip
      refine lv_aload_n hx hb dX6_tick_12 rfl (lv_at hl 0 rfl) ?_
      refine mm_get (v := .int 1) (ci := 6) (C := RX6) (T := TX6) (N := 34) hx hb hts (in_X6_tick_X6) hown hK hM h_mo rfl 2 (by decide) (hts (.fieldLink RX6 17 "GroupLogModel" "isOn" "Z") (List.mem_of_getElem? (i := 1) rfl)) rfl dX6_tick_13 ?_
      refine lv_if_eq (tgt := 23) hx hb dX6_tick_16 (by decide) (fun c_5 => ?_) (fun c_5 => ?_)
      · exact absurd c_5 (by decide)
      refine lv_iconst (v := (-1)) hx hb dX6_tick_19 (by decide) ?_
      refine lv_goto (tgt := 25) hx hb dX6_tick_20 (by decide) ?_
      exact mm_iret hx hb hr hlk hM hS (tc_no (by unfold tk_f; rw [if_neg c_1, if_pos (tk_gt.mp c_3)])) dX6_tick_25

theorem in_X6_write_X6 : ∀ w ∈ u_ws RX6 TX6 34, w ∈ wsX6_write := fun w h => List.mem_cons_of_mem _ (List.mem_append_right _ h)
set_option maxHeartbeats 4000000 in
set_option maxRecDepth 100000 in
theorem lp_X6_write {p : Program} {l : Launch} {e : Env} {s : State} {m : MethodId} {args : Array Value} {below : List Frame} {meth : Method} {c : Code} {Q : State → Prop} {D : va_G} {A : Nat → Prop} {cI cS cB cZ : ClassId} {cells slots : Nat} {R : Room} (hx : p.tables.exec = Jvm.exec) (hb : c.code = cX6_write) (hts : ∀ w ∈ wsX6_write, w.before args s = true) (hown : s.vm.findClass RX6 = some m.cls) (hml : c.maxLocals = 4) (hK : mm_K D (mm_T cI cS cB cZ) s) {m0 dk it tq qq qg r1 r2 r3 sc hd : Nat} {fs : Nat → Int32} :
    ∀ (n i : Nat), i + n = 64 → ∀ (M : Nat → Option va_E) (H : Heap) (locs : List Loc) (f : Nat → Int32), mm_W D A M H → va_S A s.heap H locs → M m0 = some (Sum.inr (6, [.ref dk, .ref it, .int 1, .int (-1), .int 0, .int 10, .int 0, .int 0, .ref tq, .int 0, .ref qq, .int 0, .ref qg, .int 0, .int 0, .int 0, .int 2, .int 1, .int 1, .int 2, .int 2, .int 1, .int 0, .ref r1, .ref r2, .ref r3, .ref sc, .int 0, .ref hd, .int 0, .int 0, .int 0, .int 0, .int 0]) : va_E) → M dk = some (Sum.inl (cB, 4096, .inl (f)) : va_E) → M sc = some (Sum.inl (cB, 64, .inl (fs)) : va_E) → (∀ (M1 : Nat → Option va_E) (H1 : Heap) (locs1 : List Loc) (ls1 : Array Slot), mm_W D A M1 H1 → va_S A s.heap H1 locs1 → (∀ q, q ≠ dk → M1 q = M q) → lv_has ls1 4 [(0, .ref m0), (1, .int 1), (2, .int 64), (3, .int (nI 64))] → W p l e R s m args below meth c H1 locs1 cells slots Q (F0 m 45 ls1 [])) → ∀ ls : Array Slot, lv_has ls 4 [(0, .ref m0), (1, .int 1), (2, .int 64), (3, .int (nI i))] → W p l e R s m args below meth c H locs cells slots Q (F0 m 17 ls []) := by
  intro n
  induction n with
  | zero =>
    intro i hi M H locs f hM hS h_m0 h_dk h_sc kx ls hl
    obtain rfl : i = 64 := by omega
    refine lv_iload_n hx hb dX6_write_17 rfl (lv_at hl 3 rfl) ?_
    refine lv_iload_n hx hb dX6_write_18 rfl (lv_at hl 2 rfl) ?_
    refine lv_icmp_ge (tgt := 45) hx hb dX6_write_19 (by decide) (fun c_1 => ?_) (fun c_1 => ?_)
    rotate_left
    · exact absurd c_1 (fun h => h (by decide))
    exact kx M H locs ls hM hS (fun q _ => rfl) hl
  | succ n ih =>
    intro i hi M H locs f hM hS h_m0 h_dk h_sc kx ls hl
    refine lv_iload_n hx hb dX6_write_17 rfl (lv_at hl 3 rfl) ?_
    refine lv_iload_n hx hb dX6_write_18 rfl (lv_at hl 2 rfl) ?_
    refine lv_icmp_ge (tgt := 45) hx hb dX6_write_19 (by decide) (fun c_2 => ?_) (fun c_2 => ?_)
    · exact absurd c_2 (nI_ge (b := 64) (by omega) (by decide))
    refine lv_aload_n hx hb dX6_write_22 rfl (lv_at hl 0 rfl) ?_
    refine mm_get (v := .ref dk) (ci := 6) (C := RX6) (T := TX6) (N := 34) hx hb hts (in_X6_write_X6) hown hK hM h_m0 rfl 0 (by decide) (hts (.fieldLink RX6 7 "GroupLogModel" "disk" "[B") (List.mem_of_getElem? (i := 3) rfl)) rfl dX6_write_23 ?_
    refine lv_bipush (v := 64) hx hb dX6_write_26 (by decide) ?_
    refine lv_iload_n hx hb dX6_write_28 rfl (lv_at hl 1 rfl) ?_
    refine lv_imul hx hb dX6_write_29 ?_
    refine lv_topi (fun z3 ez3 => ?_)
    have ez3 : z3 = 64 := ez3.trans (by decide)
    subst ez3
    refine lv_iload_n hx hb dX6_write_30 rfl (lv_at hl 3 rfl) ?_
    refine lv_iadd hx hb dX6_write_31 ?_
    refine lv_topi (fun z4 ez4 => ?_)
    have ez4 : z4 = (nI (64 + i)) := ez4.trans (by rw [show (64 : Int32) = nI 64 from rfl, nI_add])
    subst ez4
    refine lv_aload_n hx hb dX6_write_32 rfl (lv_at hl 0 rfl) ?_
    refine mm_get (v := .ref sc) (ci := 6) (C := RX6) (T := TX6) (N := 34) hx hb hts (in_X6_write_X6) hown hK hM h_m0 rfl 26 (by decide) (hts (.fieldLink RX6 65 "GroupLogModel" "sector" "[B") (List.mem_of_getElem? (i := 4) rfl)) rfl dX6_write_33 ?_
    refine lv_iload_n hx hb dX6_write_36 rfl (lv_at hl 3 rfl) ?_
    refine mm_bald hx hb hK hM 2 h_sc rfl (j := i) (rfl) (by omega) (by decide) dX6_write_37 ?_
    refine mm_bast hx hb hK hM hS 2 h_dk rfl (j := 64 + i) (rfl) (by omega) (by decide) dX6_write_38 (fun H locs M hM ha ho hS => ?_)
    have h_m0 := (ho m0 (mm_ne h_m0 h_dk mm_oa)).trans h_m0
    have h_sc := (ho sc (mm_ne h_sc h_dk (mm_an (by decide)))).trans h_sc
    have h_dk : _ = some (Sum.inl (cB, 4096, .inl (upd (f) (64 + i) ((vp_nar .byte (((fs) (i))))))) : va_E) := ha
    refine lv_iinc (v := (nI (i + 1))) (lv' := [(3, .int (nI (i + 1))), (0, .ref m0), (1, .int 1), (2, .int 64)]) hx hb dX6_write_39 hl (k := 3) rfl (by show _ + (1 : Int32) = _; exact nI_1 i) (by decide) rfl (fun ls hl => ?_)
    refine lv_goto (tgt := 17) hx hb dX6_write_42 (by decide) ?_
    exact ih (i + 1) (by omega) M H locs _ hM hS h_m0 h_dk h_sc (fun M1 H1 locs1 ls1 g1 g2 g5 g6 => kx M1 H1 locs1 ls1 g1 g2 (fun q hq => by rw [g5 q hq, ho q hq]) g6) ls (lv_sub hl [1, 2, 3, 0] rfl)

set_option maxHeartbeats 4000000 in
set_option maxRecDepth 100000 in
theorem c_X6_write {l : Launch} {D : va_G} {A : Nat → Prop} {cI cS cB cZ : ClassId} {M : Nat → Option va_E} {sz : Nat} {mo dk it tq qq qg r1 r2 r3 sc hd : Nat} {fs : Nat → Int32} (h_mo : M mo = some (Sum.inr (6, [.ref dk, .ref it, .int 1, .int (-1), .int 0, .int 10, .int 0, .int 0, .ref tq, .int 0, .ref qq, .int 0, .ref qg, .int 0, .int 0, .int 0, .int 2, .int 1, .int 1, .int 2, .int 2, .int 1, .int 0, .ref r1, .ref r2, .ref r3, .ref sc, .int 0, .ref hd, .int 0, .int 0, .int 0, .int 0, .int 0]) : va_E)) (h_dk : M dk = some (Sum.inl (cB, 4096, .inl (md_F)) : va_E)) (h_it : M it = some (Sum.inl (cZ, 64, .inl (fun _ => 0)) : va_E)) (h_sc : M sc = some (Sum.inl (cB, 64, .inl (fs)) : va_E)) : Met l yX6_write wsX6_write ({ frames := 0, cells := 0, slots := 0, locals := 0 }) (mm_Pc D A (mm_T cI cS cB cZ) M sz [.ref mo, .int 1]) (mm_Qi D A (fun r M1 => r = 1 ∧ M1 mo = some (Sum.inr (6, [.ref dk, .ref it, .int 1, .int (-1), .int 0, .int 10, .int 1, .int 0, .ref tq, .int 0, .ref qq, .int 0, .ref qg, .int 0, .int 0, .int 0, .int 2, .int 1, .int 1, .int 2, .int 2, .int 1, .int 0, .ref r1, .ref r2, .ref r3, .ref sc, .int 0, .ref hd, .int 0, .int 0, .int 0, .int 0, .int 0]) : va_E))) 0 0 A := by
  refine mm_met (cc := cX6_write) (maxL := 4) (ret := (some .boolean)) (by decide) rfl (Nat.le_of_ble_eq_true rfl) ?_
  intro p e s m args below meth c hx hb hr hts hown hlk hin hml hsz hK hM hS ls hl
  subst hsz
  have hl : lv_has ls 4 [(0, .ref mo), (1, .int 1)] := hl
  refine lv_bipush (v := 64) hx hb dX6_write_0 (by decide) ?_
  refine lv_istore_n (lv' := [(2, .int 64), (0, .ref mo), (1, .int 1)]) hx hb dX6_write_2 rfl hl (by decide) rfl (fun ls hl => ?_)
  refine lv_aload_n hx hb dX6_write_3 rfl (lv_at hl 1 rfl) ?_
  refine mm_get (v := .int (-1)) (ci := 6) (C := RX6) (T := TX6) (N := 34) hx hb hts (in_X6_write_X6) hown hK hM h_mo rfl 3 (by decide) (hts (.fieldLink RX6 21 "GroupLogModel" "armed" "I") (List.mem_of_getElem? (i := 1) rfl)) rfl dX6_write_4 ?_
  refine lv_if_ne (tgt := 15) hx hb dX6_write_7 (by decide) (fun c_1 => ?_) (fun c_1 => ?_)
  rotate_left
  · exact absurd c_1 (by decide)
  refine lv_iconst (v := 0) hx hb dX6_write_15 (by decide) ?_
  refine lv_istore_n (lv' := [(3, .int 0), (2, .int 64), (0, .ref mo), (1, .int 1)]) hx hb dX6_write_16 rfl hl (by decide) rfl (fun ls hl => ?_)
  refine lp_X6_write (m0 := mo) (it := it) (tq := tq) (sc := sc) hx hb hts hown hml hK 64 0 rfl _ _ _ _ hM hS h_mo h_dk h_sc (fun M1 H locs ls hM hS ho hl => ?_) ls (lv_sub hl [2, 3, 1, 0] rfl)
  have h_dkO := h_dk
  have h_mo := (ho mo (mm_ne h_mo h_dk mm_oa)).trans h_mo
  have h_it := (ho it (mm_ne h_it h_dk (mm_an (by decide)))).trans h_it
  refine lv_iload_n hx hb dX6_write_45 rfl (lv_at hl 2 rfl) ?_
  refine lv_bipush (v := 64) hx hb dX6_write_46 (by decide) ?_
  refine lv_icmp_ge (tgt := 75) hx hb dX6_write_48 (by decide) (fun c_2 => ?_) (fun c_2 => ?_)
  rotate_left
  · exact absurd c_2 (by decide)
  refine lv_aload_n hx hb dX6_write_75 rfl (lv_at hl 0 rfl) ?_
  refine mm_get (v := .ref it) (ci := 6) (C := RX6) (T := TX6) (N := 34) hx hb hts (in_X6_write_X6) hown hK hM h_mo rfl 1 (by decide) (hts (.fieldLink RX6 13 "GroupLogModel" "isTorn" "[Z") (List.mem_of_getElem? (i := 5) rfl)) rfl dX6_write_76 ?_
  refine lv_iload_n hx hb dX6_write_79 rfl (lv_at hl 1 rfl) ?_
  refine lv_iconst (v := 0) hx hb dX6_write_80 (by decide) ?_
  refine mm_zast hx hb hK hM hS 3 h_it rfl (j := 1) (rfl) (by decide) (by decide) dX6_write_81 (fun H locs M hM ha ho hS => ?_)
  have h_mo := (ho mo (mm_ne h_mo h_it mm_oa)).trans h_mo
  have h_it : _ = some (Sum.inl (cZ, 64, .inl (upd (fun _ => 0) (1) ((vp_nar .boolean (0))))) : va_E) := ha
  refine lv_aload_n hx hb dX6_write_82 rfl (lv_at hl 0 rfl) ?_
  refine lv_dup hx hb dX6_write_83 rfl ?_
  refine mm_get (v := .int 0) (ci := 6) (C := RX6) (T := TX6) (N := 34) hx hb hts (in_X6_write_X6) hown hK hM h_mo rfl 6 (by decide) (hts (.fieldLink RX6 96 "GroupLogModel" "steps" "I") (List.mem_of_getElem? (i := 6) rfl)) rfl dX6_write_84 ?_
  refine lv_iconst (v := 1) hx hb dX6_write_87 (by decide) ?_
  refine lv_iadd hx hb dX6_write_88 ?_
  refine lv_topi (fun z3 ez3 => ?_)
  have ez3 : z3 = 1 := ez3.trans (by decide)
  subst ez3
  refine mm_put (v := .int 1) (ci := 6) (C := RX6) (T := TX6) (N := 34) hx hb hts (in_X6_write_X6) tyX6 tyX6_ok nmX6 hown hK hM hS h_mo rfl 6 (by decide) (hts (.fieldLink RX6 96 "GroupLogModel" "steps" "I") (List.mem_of_getElem? (i := 6) rfl)) rfl rfl rfl (Nat.le_of_ble_eq_true rfl) dX6_write_89 (fun H locs M hM ha ho hS => ?_)
  have h_it := (ho it (mm_ne h_it h_mo mm_ao)).trans h_it
  have h_mo : _ = some (Sum.inr (6, [.ref dk, .ref it, .int 1, .int (-1), .int 0, .int 10, .int 1, .int 0, .ref tq, .int 0, .ref qq, .int 0, .ref qg, .int 0, .int 0, .int 0, .int 2, .int 1, .int 1, .int 2, .int 2, .int 1, .int 0, .ref r1, .ref r2, .ref r3, .ref sc, .int 0, .ref hd, .int 0, .int 0, .int 0, .int 0, .int 0]) : va_E) := ha
  refine lv_aload_n hx hb dX6_write_92 rfl (lv_at hl 0 rfl) ?_
  refine lv_dup hx hb dX6_write_93 rfl ?_
  refine mm_get (v := .int (-1)) (ci := 6) (C := RX6) (T := TX6) (N := 34) hx hb hts (in_X6_write_X6) hown hK hM h_mo rfl 3 (by decide) (hts (.fieldLink RX6 21 "GroupLogModel" "armed" "I") (List.mem_of_getElem? (i := 1) rfl)) rfl dX6_write_94 ?_
  refine lv_aload_n hx hb dX6_write_97 rfl (lv_at hl 0 rfl) ?_
  refine mm_get (v := .int (-1)) (ci := 6) (C := RX6) (T := TX6) (N := 34) hx hb hts (in_X6_write_X6) hown hK hM h_mo rfl 3 (by decide) (hts (.fieldLink RX6 21 "GroupLogModel" "armed" "I") (List.mem_of_getElem? (i := 1) rfl)) rfl dX6_write_98 ?_
  refine lv_if_le (tgt := 108) hx hb dX6_write_101 (by decide) (fun c_4 => ?_) (fun c_4 => ?_)
  rotate_left
  · exact absurd c_4 (by decide)
  refine lv_iconst (v := 0) hx hb dX6_write_108 (by decide) ?_
  refine lv_isub hx hb dX6_write_109 ?_
  refine lv_topi (fun z5 ez5 => ?_)
  have ez5 : z5 = (-1) := ez5.trans (by decide)
  subst ez5
  refine mm_put (v := .int (-1)) (ci := 6) (C := RX6) (T := TX6) (N := 34) hx hb hts (in_X6_write_X6) tyX6 tyX6_ok nmX6 hown hK hM hS h_mo rfl 3 (by decide) (hts (.fieldLink RX6 21 "GroupLogModel" "armed" "I") (List.mem_of_getElem? (i := 1) rfl)) rfl rfl rfl (Nat.le_of_ble_eq_true rfl) dX6_write_110 (fun H locs M hM ha ho hS => ?_)
  have h_it := (ho it (mm_ne h_it h_mo mm_ao)).trans h_it
  have h_mo : _ = some (Sum.inr (6, [.ref dk, .ref it, .int 1, .int (-1), .int 0, .int 10, .int 1, .int 0, .ref tq, .int 0, .ref qq, .int 0, .ref qg, .int 0, .int 0, .int 0, .int 2, .int 1, .int 1, .int 2, .int 2, .int 1, .int 0, .ref r1, .ref r2, .ref r3, .ref sc, .int 0, .ref hd, .int 0, .int 0, .int 0, .int 0, .int 0]) : va_E) := ha
  refine lv_iconst (v := 1) hx hb dX6_write_113 (by decide) ?_
  exact mm_zret hx hb hr hlk (rfl) hM hS (⟨rfl, h_mo⟩) dX6_write_114

theorem in_X6_checkpoint_X6 : ∀ w ∈ u_ws RX6 TX6 34, w ∈ wsX6_checkpoint := fun w h => List.mem_cons_of_mem _ (List.mem_append_right _ h)
set_option maxHeartbeats 4000000 in
set_option maxRecDepth 100000 in
theorem c_X6_checkpoint {l : Launch} {D : va_G} {A : Nat → Prop} {cI cS cB cZ : ClassId} {M : Nat → Option va_E} {sz : Nat} {mo dk it tq qq qg r1 r2 r3 sc hd : Nat} (his : it ≠ sc) {k : Int32} (h_mo : M mo = some (Sum.inr (6, [.ref dk, .ref it, .int 1, .int (-1), .int 0, .int 10, .int 0, .int 0, .ref tq, .int 0, .ref qq, .int 0, .ref qg, .int 0, .int 0, .int 0, .int 1, .int 1, .int 1, .int 2, .int 2, .int 1, .int 0, .ref r1, .ref r2, .ref r3, .ref sc, .int 0, .ref hd, .int 0, .int 0, .int 0, .int 0, .int 0]) : va_E)) (h_dk : M dk = some (Sum.inl (cB, 4096, .inl (md_F)) : va_E)) (h_it : M it = some (Sum.inl (cZ, 64, .inl (fun _ => 0)) : va_E)) (h_sc : M sc = some (Sum.inl (cB, 64, .inl (mh_f 1 1 1 2)) : va_E)) : Met l yX6_checkpoint wsX6_checkpoint ({ frames := 3, cells := 0, slots := 0, locals := 66 }) (mm_Pc D A (mm_T cI cS cB cZ) M sz [.ref mo, .int k]) (mm_Qi D A (fun r M1 => r = cp_f k)) 0 0 A := by
  refine mm_met (cc := cX6_checkpoint) (maxL := 11) (ret := (some .int)) (by decide) rfl (Nat.le_of_ble_eq_true rfl) ?_
  intro p e s m args below meth c hx hb hr hts hown hlk hin hml hsz hK hM hS ls hl
  subst hsz
  have hl : lv_has ls 11 [(0, .ref mo), (1, .int k)] := hl
  refine lv_aload_n hx hb dX6_checkpoint_0 rfl (lv_at hl 0 rfl) ?_
  refine mm_get (v := .int 1) (ci := 6) (C := RX6) (T := TX6) (N := 34) hx hb hts (in_X6_checkpoint_X6) hown hK hM h_mo rfl 2 (by decide) (hts (.fieldLink RX6 17 "GroupLogModel" "isOn" "Z") (List.mem_of_getElem? (i := 1) rfl)) rfl dX6_checkpoint_1 ?_
  refine lv_if_ne (tgt := 10) hx hb dX6_checkpoint_4 (by decide) (fun c_1 => ?_) (fun c_1 => ?_)
  rotate_left
  · exact absurd c_1 (by decide)
  refine lv_iload_n hx hb dX6_checkpoint_10 rfl (lv_at hl 1 rfl) ?_
  refine lv_aload_n hx hb dX6_checkpoint_11 rfl (lv_at hl 0 rfl) ?_
  refine mm_get (v := .int 1) (ci := 6) (C := RX6) (T := TX6) (N := 34) hx hb hts (in_X6_checkpoint_X6) hown hK hM h_mo rfl 18 (by decide) (hts (.fieldLink RX6 44 "GroupLogModel" "firstRecord" "I") (List.mem_of_getElem? (i := 2) rfl)) rfl dX6_checkpoint_12 ?_
  refine lv_icmp_lt (tgt := 28) hx hb dX6_checkpoint_15 (by decide) (fun c_2 => ?_) (fun c_2 => ?_)
  · skip
    refine lv_iconst (v := (-1)) hx hb dX6_checkpoint_28 (by decide) ?_
    exact mm_iret hx hb hr hlk hM hS (cp_lo c_2) dX6_checkpoint_29
  · skip
    refine lv_iload_n hx hb dX6_checkpoint_18 rfl (lv_at hl 1 rfl) ?_
    refine lv_aload_n hx hb dX6_checkpoint_19 rfl (lv_at hl 0 rfl) ?_
    refine mm_get (v := .int 0) (ci := 6) (C := RX6) (T := TX6) (N := 34) hx hb hts (in_X6_checkpoint_X6) hown hK hM h_mo rfl 22 (by decide) (hts (.fieldLink RX6 115 "GroupLogModel" "lastSafe" "I") (List.mem_of_getElem? (i := 3) rfl)) rfl dX6_checkpoint_20 ?_
    refine lv_iconst (v := 1) hx hb dX6_checkpoint_23 (by decide) ?_
    refine lv_iadd hx hb dX6_checkpoint_24 ?_
    refine lv_topi (fun z3 ez3 => ?_)
    have ez3 : z3 = 1 := ez3.trans (by decide)
    subst ez3
    refine lv_icmp_le (tgt := 30) hx hb dX6_checkpoint_25 (by decide) (fun c_4 => ?_) (fun c_4 => ?_)
    · skip
      obtain rfl := cp_eq c_2 c_4
      refine lv_aload_n hx hb dX6_checkpoint_30 rfl (lv_at hl 0 rfl) ?_
      refine mm_get (v := .int 2) (ci := 6) (C := RX6) (T := TX6) (N := 34) hx hb hts (in_X6_checkpoint_X6) hown hK hM h_mo rfl 20 (by decide) (hts (.fieldLink RX6 50 "GroupLogModel" "nextSector" "I") (List.mem_of_getElem? (i := 4) rfl)) rfl dX6_checkpoint_31 ?_
      refine lv_istore_n (lv' := [(2, .int 2), (0, .ref mo), (1, .int 1)]) hx hb dX6_checkpoint_34 rfl hl (by decide) rfl (fun ls hl => ?_)
      refine lv_aload_n hx hb dX6_checkpoint_35 rfl (lv_at hl 1 rfl) ?_
      refine mm_get (v := .int 1) (ci := 6) (C := RX6) (T := TX6) (N := 34) hx hb hts (in_X6_checkpoint_X6) hown hK hM h_mo rfl 21 (by decide) (hts (.fieldLink RX6 53 "GroupLogModel" "nextSerial" "I") (List.mem_of_getElem? (i := 5) rfl)) rfl dX6_checkpoint_36 ?_
      refine lv_istore_n (lv' := [(3, .int 1), (2, .int 2), (0, .ref mo), (1, .int 1)]) hx hb dX6_checkpoint_39 rfl hl (by decide) rfl (fun ls hl => ?_)
      refine lv_iload_n hx hb dX6_checkpoint_40 rfl (lv_at hl 3 rfl) ?_
      refine lv_istore (lv' := [(4, .int 1), (3, .int 1), (2, .int 2), (0, .ref mo), (1, .int 1)]) hx hb dX6_checkpoint_41 hl (by decide) rfl (fun ls hl => ?_)
      refine lv_iload_n hx hb dX6_checkpoint_43 rfl (lv_at hl 4 rfl) ?_
      refine lv_aload_n hx hb dX6_checkpoint_44 rfl (lv_at hl 3 rfl) ?_
      refine mm_get (v := .int 0) (ci := 6) (C := RX6) (T := TX6) (N := 34) hx hb hts (in_X6_checkpoint_X6) hown hK hM h_mo rfl 22 (by decide) (hts (.fieldLink RX6 115 "GroupLogModel" "lastSafe" "I") (List.mem_of_getElem? (i := 3) rfl)) rfl dX6_checkpoint_45 ?_
      refine lv_icmp_gt (tgt := 105) hx hb dX6_checkpoint_48 (by decide) (fun c_5 => ?_) (fun c_5 => ?_)
      rotate_left
      · exact absurd c_5 (by decide)
      refine lv_aload_n hx hb dX6_checkpoint_105 rfl (lv_at hl 3 rfl) ?_
      refine mm_get (v := .int 1) (ci := 6) (C := RX6) (T := TX6) (N := 34) hx hb hts (in_X6_checkpoint_X6) hown hK hM h_mo rfl 16 (by decide) (hts (.fieldLink RX6 38 "GroupLogModel" "version" "I") (List.mem_of_getElem? (i := 7) rfl)) rfl dX6_checkpoint_106 ?_
      refine lv_istore (lv' := [(5, .int 1), (4, .int 1), (3, .int 1), (2, .int 2), (0, .ref mo), (1, .int 1)]) hx hb dX6_checkpoint_109 hl (by decide) rfl (fun ls hl => ?_)
      refine lv_aload_n hx hb dX6_checkpoint_111 rfl (lv_at hl 4 rfl) ?_
      refine mm_get (v := .int 1) (ci := 6) (C := RX6) (T := TX6) (N := 34) hx hb hts (in_X6_checkpoint_X6) hown hK hM h_mo rfl 17 (by decide) (hts (.fieldLink RX6 41 "GroupLogModel" "firstSerial" "I") (List.mem_of_getElem? (i := 8) rfl)) rfl dX6_checkpoint_112 ?_
      refine lv_istore (lv' := [(6, .int 1), (5, .int 1), (4, .int 1), (3, .int 1), (2, .int 2), (0, .ref mo), (1, .int 1)]) hx hb dX6_checkpoint_115 hl (by decide) rfl (fun ls hl => ?_)
      refine lv_aload_n hx hb dX6_checkpoint_117 rfl (lv_at hl 5 rfl) ?_
      refine mm_get (v := .int 1) (ci := 6) (C := RX6) (T := TX6) (N := 34) hx hb hts (in_X6_checkpoint_X6) hown hK hM h_mo rfl 18 (by decide) (hts (.fieldLink RX6 44 "GroupLogModel" "firstRecord" "I") (List.mem_of_getElem? (i := 2) rfl)) rfl dX6_checkpoint_118 ?_
      refine lv_istore (lv' := [(7, .int 1), (6, .int 1), (5, .int 1), (4, .int 1), (3, .int 1), (2, .int 2), (0, .ref mo), (1, .int 1)]) hx hb dX6_checkpoint_121 hl (by decide) rfl (fun ls hl => ?_)
      refine lv_aload_n hx hb dX6_checkpoint_123 rfl (lv_at hl 6 rfl) ?_
      refine mm_get (v := .int 2) (ci := 6) (C := RX6) (T := TX6) (N := 34) hx hb hts (in_X6_checkpoint_X6) hown hK hM h_mo rfl 19 (by decide) (hts (.fieldLink RX6 47 "GroupLogModel" "place" "I") (List.mem_of_getElem? (i := 9) rfl)) rfl dX6_checkpoint_124 ?_
      refine lv_istore (lv' := [(8, .int 2), (7, .int 1), (6, .int 1), (5, .int 1), (4, .int 1), (3, .int 1), (2, .int 2), (0, .ref mo), (1, .int 1)]) hx hb dX6_checkpoint_127 hl (by decide) rfl (fun ls hl => ?_)
      refine lv_aload_n hx hb dX6_checkpoint_129 rfl (lv_at hl 7 rfl) ?_
      refine lv_dup hx hb dX6_checkpoint_130 rfl ?_
      refine mm_get (v := .int 1) (ci := 6) (C := RX6) (T := TX6) (N := 34) hx hb hts (in_X6_checkpoint_X6) hown hK hM h_mo rfl 16 (by decide) (hts (.fieldLink RX6 38 "GroupLogModel" "version" "I") (List.mem_of_getElem? (i := 7) rfl)) rfl dX6_checkpoint_131 ?_
      refine lv_iconst (v := 1) hx hb dX6_checkpoint_134 (by decide) ?_
      refine lv_iadd hx hb dX6_checkpoint_135 ?_
      refine lv_topi (fun z6 ez6 => ?_)
      have ez6 : z6 = 2 := ez6.trans (by decide)
      subst ez6
      refine mm_put (v := .int 2) (ci := 6) (C := RX6) (T := TX6) (N := 34) hx hb hts (in_X6_checkpoint_X6) tyX6 tyX6_ok nmX6 hown hK hM hS h_mo rfl 16 (by decide) (hts (.fieldLink RX6 38 "GroupLogModel" "version" "I") (List.mem_of_getElem? (i := 7) rfl)) rfl rfl rfl (Nat.le_of_ble_eq_true rfl) dX6_checkpoint_136 (fun H locs M hM ha ho hS => ?_)
      have h_dk := (ho dk (mm_ne h_dk h_mo mm_ao)).trans h_dk
      have h_it := (ho it (mm_ne h_it h_mo mm_ao)).trans h_it
      have h_sc := (ho sc (mm_ne h_sc h_mo mm_ao)).trans h_sc
      have h_mo : _ = some (Sum.inr (6, [.ref dk, .ref it, .int 1, .int (-1), .int 0, .int 10, .int 0, .int 0, .ref tq, .int 0, .ref qq, .int 0, .ref qg, .int 0, .int 0, .int 0, .int 2, .int 1, .int 1, .int 2, .int 2, .int 1, .int 0, .ref r1, .ref r2, .ref r3, .ref sc, .int 0, .ref hd, .int 0, .int 0, .int 0, .int 0, .int 0]) : va_E) := ha
      refine lv_aload_n hx hb dX6_checkpoint_139 rfl (lv_at hl 7 rfl) ?_
      refine lv_iload_n hx hb dX6_checkpoint_140 rfl (lv_at hl 5 rfl) ?_
      refine mm_put (v := .int 1) (ci := 6) (C := RX6) (T := TX6) (N := 34) hx hb hts (in_X6_checkpoint_X6) tyX6 tyX6_ok nmX6 hown hK hM hS h_mo rfl 17 (by decide) (hts (.fieldLink RX6 41 "GroupLogModel" "firstSerial" "I") (List.mem_of_getElem? (i := 8) rfl)) rfl rfl rfl (Nat.le_of_ble_eq_true rfl) dX6_checkpoint_141 (fun H locs M hM ha ho hS => ?_)
      have h_dk := (ho dk (mm_ne h_dk h_mo mm_ao)).trans h_dk
      have h_it := (ho it (mm_ne h_it h_mo mm_ao)).trans h_it
      have h_sc := (ho sc (mm_ne h_sc h_mo mm_ao)).trans h_sc
      have h_mo : _ = some (Sum.inr (6, [.ref dk, .ref it, .int 1, .int (-1), .int 0, .int 10, .int 0, .int 0, .ref tq, .int 0, .ref qq, .int 0, .ref qg, .int 0, .int 0, .int 0, .int 2, .int 1, .int 1, .int 2, .int 2, .int 1, .int 0, .ref r1, .ref r2, .ref r3, .ref sc, .int 0, .ref hd, .int 0, .int 0, .int 0, .int 0, .int 0]) : va_E) := ha
      refine lv_aload_n hx hb dX6_checkpoint_144 rfl (lv_at hl 7 rfl) ?_
      refine lv_iload hx hb dX6_checkpoint_145 (lv_at hl 4 rfl) ?_
      refine mm_put (v := .int 1) (ci := 6) (C := RX6) (T := TX6) (N := 34) hx hb hts (in_X6_checkpoint_X6) tyX6 tyX6_ok nmX6 hown hK hM hS h_mo rfl 18 (by decide) (hts (.fieldLink RX6 44 "GroupLogModel" "firstRecord" "I") (List.mem_of_getElem? (i := 2) rfl)) rfl rfl rfl (Nat.le_of_ble_eq_true rfl) dX6_checkpoint_147 (fun H locs M hM ha ho hS => ?_)
      have h_dk := (ho dk (mm_ne h_dk h_mo mm_ao)).trans h_dk
      have h_it := (ho it (mm_ne h_it h_mo mm_ao)).trans h_it
      have h_sc := (ho sc (mm_ne h_sc h_mo mm_ao)).trans h_sc
      have h_mo : _ = some (Sum.inr (6, [.ref dk, .ref it, .int 1, .int (-1), .int 0, .int 10, .int 0, .int 0, .ref tq, .int 0, .ref qq, .int 0, .ref qg, .int 0, .int 0, .int 0, .int 2, .int 1, .int 1, .int 2, .int 2, .int 1, .int 0, .ref r1, .ref r2, .ref r3, .ref sc, .int 0, .ref hd, .int 0, .int 0, .int 0, .int 0, .int 0]) : va_E) := ha
      refine lv_aload_n hx hb dX6_checkpoint_150 rfl (lv_at hl 7 rfl) ?_
      refine lv_iload_n hx hb dX6_checkpoint_151 rfl (lv_at hl 6 rfl) ?_
      refine mm_put (v := .int 2) (ci := 6) (C := RX6) (T := TX6) (N := 34) hx hb hts (in_X6_checkpoint_X6) tyX6 tyX6_ok nmX6 hown hK hM hS h_mo rfl 19 (by decide) (hts (.fieldLink RX6 47 "GroupLogModel" "place" "I") (List.mem_of_getElem? (i := 9) rfl)) rfl rfl rfl (Nat.le_of_ble_eq_true rfl) dX6_checkpoint_152 (fun H locs M hM ha ho hS => ?_)
      have h_dk := (ho dk (mm_ne h_dk h_mo mm_ao)).trans h_dk
      have h_it := (ho it (mm_ne h_it h_mo mm_ao)).trans h_it
      have h_sc := (ho sc (mm_ne h_sc h_mo mm_ao)).trans h_sc
      have h_mo : _ = some (Sum.inr (6, [.ref dk, .ref it, .int 1, .int (-1), .int 0, .int 10, .int 0, .int 0, .ref tq, .int 0, .ref qq, .int 0, .ref qg, .int 0, .int 0, .int 0, .int 2, .int 1, .int 1, .int 2, .int 2, .int 1, .int 0, .ref r1, .ref r2, .ref r3, .ref sc, .int 0, .ref hd, .int 0, .int 0, .int 0, .int 0, .int 0]) : va_E) := ha
      refine lv_aload_n hx hb dX6_checkpoint_155 rfl (lv_at hl 7 rfl) ?_
      refine mm_callv (mm_runV (As := []) (rest := []) ⟨hx, hb, hml, hown, hts⟩ (c_X6_makeHead h_mo h_sc) (cwV 0 hts gX6_checkpoint_X6_makeHead rfl rfl rfl (by decide +kernel) ⟨Nat.le_of_ble_eq_true rfl, Nat.le_of_ble_eq_true rfl⟩) hK hM h_mo rfl rfl hl.1 rfl (Nat.le_of_ble_eq_true rfl) dX6_checkpoint_156 ⟨Nat.le_of_ble_eq_true rfl, Nat.le_of_ble_eq_true rfl⟩) hS (fun _ h => h) (fun M H locs hp hM hS hz _ => ?_)
      obtain ⟨ha, ho⟩ := hp
      have h_mo := (ho mo (mm_ne h_mo h_sc mm_oa)).trans h_mo
      have h_dk := (ho dk (mm_ne h_dk h_sc (mm_an (by decide)))).trans h_dk
      have h_it := (ho it his).trans h_it
      have h_sc : _ = some (Sum.inl (cB, 64, .inl (mh_f 2 1 1 2)) : va_E) := ha
      refine lv_aload_n hx hb dX6_checkpoint_159 rfl (lv_at hl 7 rfl) ?_
      refine lv_iconst (v := 1) hx hb dX6_checkpoint_160 (by decide) ?_
      refine lv_aload_n hx hb dX6_checkpoint_161 rfl (lv_at hl 7 rfl) ?_
      refine mm_get (v := .int 0) (ci := 6) (C := RX6) (T := TX6) (N := 34) hx hb hts (in_X6_checkpoint_X6) hown hK hM h_mo rfl 15 (by decide) (hts (.fieldLink RX6 139 "GroupLogModel" "headSector" "I") (List.mem_of_getElem? (i := 10) rfl)) rfl dX6_checkpoint_162 ?_
      refine lv_isub hx hb dX6_checkpoint_165 ?_
      refine lv_topi (fun z7 ez7 => ?_)
      have ez7 : z7 = 1 := ez7.trans (by decide)
      subst ez7
      refine mm_calli (mm_runV (As := [.int 1]) (rest := []) ⟨hx, hb, hml, hown, hts⟩ (c_X6_write (tq := tq) h_mo h_dk h_it h_sc) (cwV 1 hts gX6_checkpoint_X6_write rfl rfl rfl (by decide +kernel) ⟨Nat.le_of_ble_eq_true rfl, Nat.le_of_ble_eq_true rfl⟩) hK hM h_mo rfl rfl hl.1 rfl (Nat.le_of_ble_eq_true rfl) dX6_checkpoint_166 ⟨Nat.le_of_ble_eq_true rfl, Nat.le_of_ble_eq_true rfl⟩) hS (fun _ h => h) (fun r8 M H locs hp hM hS hz _ => ?_)
      obtain ⟨rfl, h_mo⟩ := hp
      refine lv_if_ne (tgt := 199) hx hb dX6_checkpoint_169 (by decide) (fun c_9 => ?_) (fun c_9 => ?_)
      rotate_left
      · exact absurd c_9 (by decide)
      refine lv_aload_n hx hb dX6_checkpoint_199 rfl (lv_at hl 7 rfl) ?_
      refine lv_iconst (v := 1) hx hb dX6_checkpoint_200 (by decide) ?_
      refine lv_aload_n hx hb dX6_checkpoint_201 rfl (lv_at hl 7 rfl) ?_
      refine mm_get (v := .int 0) (ci := 6) (C := RX6) (T := TX6) (N := 34) hx hb hts (in_X6_checkpoint_X6) hown hK hM h_mo rfl 15 (by decide) (hts (.fieldLink RX6 139 "GroupLogModel" "headSector" "I") (List.mem_of_getElem? (i := 10) rfl)) rfl dX6_checkpoint_202 ?_
      refine lv_isub hx hb dX6_checkpoint_205 ?_
      refine lv_topi (fun z10 ez10 => ?_)
      have ez10 : z10 = 1 := ez10.trans (by decide)
      subst ez10
      refine mm_put (v := .int 1) (ci := 6) (C := RX6) (T := TX6) (N := 34) hx hb hts (in_X6_checkpoint_X6) tyX6 tyX6_ok nmX6 hown hK hM hS h_mo rfl 15 (by decide) (hts (.fieldLink RX6 139 "GroupLogModel" "headSector" "I") (List.mem_of_getElem? (i := 10) rfl)) rfl rfl rfl (Nat.le_of_ble_eq_true rfl) dX6_checkpoint_206 (fun H locs M hM ha ho hS => ?_)
      have h_mo : _ = some (Sum.inr (6, [.ref dk, .ref it, .int 1, .int (-1), .int 0, .int 10, .int 1, .int 0, .ref tq, .int 0, .ref qq, .int 0, .ref qg, .int 0, .int 0, .int 1, .int 2, .int 1, .int 1, .int 2, .int 2, .int 1, .int 0, .ref r1, .ref r2, .ref r3, .ref sc, .int 0, .ref hd, .int 0, .int 0, .int 0, .int 0, .int 0]) : va_E) := ha
      refine lv_iload hx hb dX6_checkpoint_209 (lv_at hl 4 rfl) ?_
      refine lv_iload hx hb dX6_checkpoint_211 (lv_at hl 1 rfl) ?_
      refine lv_isub hx hb dX6_checkpoint_213 ?_
      refine lv_topi (fun z11 ez11 => ?_)
      have ez11 : z11 = 0 := ez11.trans (by decide)
      subst ez11
      refine lv_istore (lv' := [(9, .int 0), (8, .int 2), (7, .int 1), (6, .int 1), (5, .int 1), (4, .int 1), (3, .int 1), (2, .int 2), (0, .ref mo), (1, .int 1)]) hx hb dX6_checkpoint_214 hl (by decide) rfl (fun ls hl => ?_)
      refine lv_iconst (v := 0) hx hb dX6_checkpoint_216 (by decide) ?_
      refine lv_istore (lv' := [(10, .int 0), (9, .int 0), (8, .int 2), (7, .int 1), (6, .int 1), (5, .int 1), (4, .int 1), (3, .int 1), (2, .int 2), (0, .ref mo), (1, .int 1)]) hx hb dX6_checkpoint_217 hl (by decide) rfl (fun ls hl => ?_)
      refine lv_iload hx hb dX6_checkpoint_219 (lv_at hl 0 rfl) ?_
      refine lv_aload_n hx hb dX6_checkpoint_221 rfl (lv_at hl 9 rfl) ?_
      refine mm_get (v := .int 0) (ci := 6) (C := RX6) (T := TX6) (N := 34) hx hb hts (in_X6_checkpoint_X6) hown hK hM h_mo rfl 22 (by decide) (hts (.fieldLink RX6 115 "GroupLogModel" "lastSafe" "I") (List.mem_of_getElem? (i := 3) rfl)) rfl dX6_checkpoint_222 ?_
      refine lv_iload hx hb dX6_checkpoint_225 (lv_at hl 6 rfl) ?_
      refine lv_isub hx hb dX6_checkpoint_227 ?_
      refine lv_topi (fun z12 ez12 => ?_)
      have ez12 : z12 = (-1) := ez12.trans (by decide)
      subst ez12
      refine lv_icmp_gt (tgt := 288) hx hb dX6_checkpoint_228 (by decide) (fun c_13 => ?_) (fun c_13 => ?_)
      rotate_left
      · exact absurd c_13 (by decide)
      refine lv_iload_n hx hb dX6_checkpoint_288 rfl (lv_at hl 7 rfl) ?_
      refine lv_iload hx hb dX6_checkpoint_289 (lv_at hl 4 rfl) ?_
      refine lv_isub hx hb dX6_checkpoint_291 ?_
      refine lv_topi (fun z14 ez14 => ?_)
      have ez14 : z14 = 0 := ez14.trans (by decide)
      subst ez14
      exact mm_iret hx hb hr hlk hM hS (rfl) dX6_checkpoint_292
    · skip
      refine lv_iconst (v := (-1)) hx hb dX6_checkpoint_28 (by decide) ?_
      exact mm_iret hx hb hr hlk hM hS (cp_hi c_4) dX6_checkpoint_29

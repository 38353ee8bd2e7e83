theorem dX5_append_44 : decode cX5_append 44 = .ok (.iconst (-1), 1) := by decide +kernel
theorem dX5_append_45 : decode cX5_append 45 = .ok (.ireturn, 1) := by decide +kernel

set_option maxHeartbeats 4000000 in
set_option maxRecDepth 100000 in
theorem c_X5_isTicks {l : Launch} {D : va_G} {A : Nat → Prop} {cI cS cB cZ : ClassId} {M : Nat → Option va_E} {sz : Nat} {k : Int32}  : Met l yX5_isTicks wsX5_isTicks ({ frames := 0, cells := 0, slots := 0, locals := 0 }) (mm_Pc D A (mm_T cI cS cB cZ) M sz [.int k]) (mm_Qi D A (fun r M1 => r = tk_f k ∧ M1 = M)) 0 0 A := by
  refine mm_met (cc := cX5_isTicks) (maxL := 1) (ret := (some .boolean)) (by decide) rfl (Nat.le_of_ble_eq_true rfl) ?_
  intro p e s m args below meth c hx hb hr hts hown hlk hin hml hsz hK hM hS ls hl
  subst hsz
  have hl : lv_has ls 1 [(0, .int k)] := hl
  refine lv_iload_n hx hb dX5_isTicks_0 rfl (lv_at hl 0 rfl) ?_
  refine lv_iconst (v := 1) hx hb dX5_isTicks_1 (by decide) ?_
  refine lv_icmp_lt (tgt := 16) hx hb dX5_isTicks_2 (by decide) (fun c_1 => ?_) (fun c_1 => ?_)
  · skip
    refine lv_iconst (v := 0) hx hb dX5_isTicks_16 (by decide) ?_
    exact mm_zret hx hb hr hlk (rfl) hM hS (⟨by unfold tk_f; rw [if_pos c_1], rfl⟩) dX5_isTicks_17
  · skip
    refine lv_iload_n hx hb dX5_isTicks_5 rfl (lv_at hl 0 rfl) ?_
    refine lv_sipush (v := 1000) hx hb dX5_isTicks_6 (by decide) ?_
    refine lv_icmp_gt (tgt := 16) hx hb dX5_isTicks_9 (by decide) (fun c_2 => ?_) (fun c_2 => ?_)
    · skip
      refine lv_iconst (v := 0) hx hb dX5_isTicks_16 (by decide) ?_
      exact mm_zret hx hb hr hlk (rfl) hM hS (⟨by unfold tk_f; rw [if_neg c_1, if_pos c_2], rfl⟩) dX5_isTicks_17
    · skip
      refine lv_iconst (v := 1) hx hb dX5_isTicks_12 (by decide) ?_
      refine lv_goto (tgt := 17) hx hb dX5_isTicks_13 (by decide) ?_
      exact mm_zret hx hb hr hlk (rfl) hM hS (⟨by unfold tk_f; rw [if_neg c_1, if_neg c_2], rfl⟩) dX5_isTicks_17

set_option maxHeartbeats 4000000 in
set_option maxRecDepth 100000 in
theorem c_X5_isByte {l : Launch} {D : va_G} {A : Nat → Prop} {cI cS cB cZ : ClassId} {M : Nat → Option va_E} {sz : Nat} {k i : Int32}  : Met l yX5_isByte wsX5_isByte ({ frames := 0, cells := 0, slots := 0, locals := 0 }) (mm_Pc D A (mm_T cI cS cB cZ) M sz [.int k, .int i]) (mm_Qi D A (fun r M1 => r = ib_f k i ∧ M1 = M)) 0 0 A := by
  refine mm_met (cc := cX5_isByte) (maxL := 2) (ret := (some .boolean)) (by decide) rfl (Nat.le_of_ble_eq_true rfl) ?_
  intro p e s m args below meth c hx hb hr hts hown hlk hin hml hsz hK hM hS ls hl
  subst hsz
  have hl : lv_has ls 2 [(0, .int k), (1, .int i)] := hl
  refine lv_iload_n hx hb dX5_isByte_0 rfl (lv_at hl 0 rfl) ?_
  refine lv_if_lt (tgt := 24) hx hb dX5_isByte_1 (by decide) (fun c_1 => ?_) (fun c_1 => ?_)
  · skip
    refine lv_iconst (v := 0) hx hb dX5_isByte_24 (by decide) ?_
    exact mm_zret hx hb hr hlk (rfl) hM hS (⟨by unfold ib_f; rw [if_pos c_1], rfl⟩) dX5_isByte_25
  · skip
    refine lv_iload_n hx hb dX5_isByte_4 rfl (lv_at hl 0 rfl) ?_
    refine lv_bipush (v := 64) hx hb dX5_isByte_5 (by decide) ?_
    refine lv_icmp_ge (tgt := 24) hx hb dX5_isByte_7 (by decide) (fun c_2 => ?_) (fun c_2 => ?_)
    · skip
      refine lv_iconst (v := 0) hx hb dX5_isByte_24 (by decide) ?_
      exact mm_zret hx hb hr hlk (rfl) hM hS (⟨by unfold ib_f; rw [if_neg c_1, if_pos c_2], rfl⟩) dX5_isByte_25
    · skip
      refine lv_iload_n hx hb dX5_isByte_10 rfl (lv_at hl 1 rfl) ?_
      refine lv_if_lt (tgt := 24) hx hb dX5_isByte_11 (by decide) (fun c_3 => ?_) (fun c_3 => ?_)
      · skip
        refine lv_iconst (v := 0) hx hb dX5_isByte_24 (by decide) ?_
        exact mm_zret hx hb hr hlk (rfl) hM hS (⟨by unfold ib_f; rw [if_neg c_1, if_neg c_2, if_pos c_3], rfl⟩) dX5_isByte_25
      · skip
        refine lv_iload_n hx hb dX5_isByte_14 rfl (lv_at hl 1 rfl) ?_
        refine lv_bipush (v := 64) hx hb dX5_isByte_15 (by decide) ?_
        refine lv_icmp_ge (tgt := 24) hx hb dX5_isByte_17 (by decide) (fun c_4 => ?_) (fun c_4 => ?_)
        · skip
          refine lv_iconst (v := 0) hx hb dX5_isByte_24 (by decide) ?_
          exact mm_zret hx hb hr hlk (rfl) hM hS (⟨by unfold ib_f; rw [if_neg c_1, if_neg c_2, if_neg c_3, if_pos c_4], rfl⟩) dX5_isByte_25
        · skip
          refine lv_iconst (v := 1) hx hb dX5_isByte_20 (by decide) ?_
          refine lv_goto (tgt := 25) hx hb dX5_isByte_21 (by decide) ?_
          exact mm_zret hx hb hr hlk (rfl) hM hS (⟨by unfold ib_f; rw [if_neg c_1, if_neg c_2, if_neg c_3, if_neg c_4], rfl⟩) dX5_isByte_25

theorem in_X5_delay_X5 : ∀ w ∈ u_ws RX5 TX5 10, w ∈ wsX5_delay := fun w h => List.mem_cons_of_mem _ (List.mem_append_right _ h)
set_option maxHeartbeats 4000000 in
set_option maxRecDepth 100000 in
theorem c_X5_delay {l : Launch} {D : va_G} {A : Nat → Prop} {cI cS cB cZ : ClassId} {M : Nat → Option va_E} {sz : Nat} {x st qu lg rd dr tp : Nat} {k : Int32} (h_x : M x = some (Sum.inr (5, [.ref st, .ref qu, .ref lg, .ref rd, .ref dr, .ref tp, .int 0, .int 10, .int 0, .int 1]) : va_E)) : Met l yX5_delay wsX5_delay ({ frames := 1, cells := 0, slots := 0, locals := 20 }) (mm_Pc D A (mm_T cI cS cB cZ) M sz [.ref x, .int k]) (mm_Qi D A (fun r M1 => r = tk_f k)) 0 0 A := by
  refine mm_met (cc := cX5_delay) (maxL := 2) (ret := (some .boolean)) (by decide) rfl (Nat.le_of_ble_eq_true rfl) ?_
  intro p e s m args below meth c hx hb hr hts hown hlk hin hml hsz hK hM hS ls hl
  subst hsz
  have hl : lv_has ls 2 [(0, .ref x), (1, .int k)] := hl
  refine lv_aload_n hx hb dX5_delay_0 rfl (lv_at hl 0 rfl) ?_
  refine mm_get (v := .int 1) (ci := 5) (C := RX5) (T := TX5) (N := 10) hx hb hts (in_X5_delay_X5) hown hK hM h_x rfl 9 (by decide) (hts (.fieldLink RX5 58 "GroupLog" "on" "Z") (List.mem_of_getElem? (i := 1) rfl)) rfl dX5_delay_1 ?_
  refine lv_if_eq (tgt := 14) hx hb dX5_delay_4 (by decide) (fun c_1 => ?_) (fun c_1 => ?_)
  · exact absurd c_1 (by decide)
  refine lv_iload_n hx hb dX5_delay_7 rfl (lv_at hl 1 rfl) ?_
  refine mm_calli (mm_runS (As := [.int k]) (rest := []) ⟨hx, hb, hml, hown, hts⟩ (c_X5_isTicks ) (va_cwS 1 hts gX5_delay_X5_isTicks rfl rfl rfl (by decide +kernel) ⟨Nat.le_of_ble_eq_true rfl, Nat.le_of_ble_eq_true rfl⟩) hK hM rfl hl.1 rfl (Nat.le_of_ble_eq_true rfl) dX5_delay_8 ⟨Nat.le_of_ble_eq_true rfl, Nat.le_of_ble_eq_true rfl⟩) hS (fun _ h => h) (fun r2 M H locs hp hM hS hz _ => ?_)
  obtain ⟨rfl, hme⟩ := hp
  rw [hme] at hM
  refine lv_if_ne (tgt := 16) hx hb dX5_delay_11 (by decide) (fun c_3 => ?_) (fun c_3 => ?_)
  · skip
    refine lv_aload_n hx hb dX5_delay_16 rfl (lv_at hl 0 rfl) ?_
    refine lv_iload_n hx hb dX5_delay_17 rfl (lv_at hl 1 rfl) ?_
    refine mm_put (v := .int k) (ci := 5) (C := RX5) (T := TX5) (N := 10) hx hb hts (in_X5_delay_X5) tyX5 tyX5_ok nmX5 hown hK hM hS h_x rfl 7 (by decide) (hts (.fieldLink RX5 52 "GroupLog" "delayTicks" "I") (List.mem_of_getElem? (i := 2) rfl)) rfl rfl rfl (Nat.le_of_ble_eq_true rfl) dX5_delay_18 (fun H locs M hM ha ho hS => ?_)
    have h_x : _ = some (Sum.inr (5, [.ref st, .ref qu, .ref lg, .ref rd, .ref dr, .ref tp, .int 0, .int k, .int 0, .int 1]) : va_E) := ha
    refine lv_iconst (v := 1) hx hb dX5_delay_21 (by decide) ?_
    exact mm_zret hx hb hr hlk (rfl) hM hS (tk_1 c_3) dX5_delay_22
  · skip
    refine lv_iconst (v := 0) hx hb dX5_delay_14 (by decide) ?_
    exact mm_zret hx hb hr hlk (rfl) hM hS (c_3.symm) dX5_delay_15

theorem in_X5_feed_X5 : ∀ w ∈ u_ws RX5 TX5 10, w ∈ wsX5_feed := fun w h => List.mem_cons_of_mem _ (List.mem_append_right _ h)
set_option maxHeartbeats 4000000 in
set_option maxRecDepth 100000 in
theorem c_X5_feed {l : Launch} {D : va_G} {A : Nat → Prop} {cI cS cB cZ : ClassId} {M : Nat → Option va_E} {sz : Nat} {x st qu lg rd dr tp : Nat} {k : Int32} (h_x : M x = some (Sum.inr (5, [.ref st, .ref qu, .ref lg, .ref rd, .ref dr, .ref tp, .int 0, .int 10, .int 0, .int 1]) : va_E)) (h_tp : M tp = some (Sum.inl (cI, 200, .inl (fun _ => 0)) : va_E)) : Met l yX5_feed wsX5_feed ({ frames := 0, cells := 0, slots := 0, locals := 0 }) (mm_Pc D A (mm_T cI cS cB cZ) M sz [.ref x, .int k]) (mm_Qi D A (fun r M1 => r = fd_f k)) 0 0 A := by
  refine mm_met (cc := cX5_feed) (maxL := 2) (ret := (some .boolean)) (by decide) rfl (Nat.le_of_ble_eq_true rfl) ?_
  intro p e s m args below meth c hx hb hr hts hown hlk hin hml hsz hK hM hS ls hl
  subst hsz
  have hl : lv_has ls 2 [(0, .ref x), (1, .int k)] := hl
  refine lv_iload_n hx hb dX5_feed_0 rfl (lv_at hl 1 rfl) ?_
  refine lv_if_lt (tgt := 30) hx hb dX5_feed_1 (by decide) (fun c_1 => ?_) (fun c_1 => ?_)
  · skip
    refine lv_iconst (v := 0) hx hb dX5_feed_30 (by decide) ?_
    exact mm_zret hx hb hr hlk (rfl) hM hS (by unfold fd_f; rw [if_pos c_1]) dX5_feed_31
  · skip
    refine lv_iload_n hx hb dX5_feed_4 rfl (lv_at hl 1 rfl) ?_
    refine lv_sipush (v := 255) hx hb dX5_feed_5 (by decide) ?_
    refine lv_icmp_gt (tgt := 30) hx hb dX5_feed_8 (by decide) (fun c_2 => ?_) (fun c_2 => ?_)
    · skip
      refine lv_iconst (v := 0) hx hb dX5_feed_30 (by decide) ?_
      exact mm_zret hx hb hr hlk (rfl) hM hS (by unfold fd_f; rw [if_neg c_1, if_pos c_2]) dX5_feed_31
    · skip
      refine lv_aload_n hx hb dX5_feed_11 rfl (lv_at hl 0 rfl) ?_
      refine mm_get (v := .int 0) (ci := 5) (C := RX5) (T := TX5) (N := 10) hx hb hts (in_X5_feed_X5) hown hK hM h_x rfl 6 (by decide) (hts (.fieldLink RX5 48 "GroupLog" "tapeBytes" "I") (List.mem_of_getElem? (i := 1) rfl)) rfl dX5_feed_12 ?_
      refine lv_if_lt (tgt := 30) hx hb dX5_feed_15 (by decide) (fun c_3 => ?_) (fun c_3 => ?_)
      · exact absurd c_3 (by decide)
      refine lv_aload_n hx hb dX5_feed_18 rfl (lv_at hl 0 rfl) ?_
      refine mm_get (v := .int 0) (ci := 5) (C := RX5) (T := TX5) (N := 10) hx hb hts (in_X5_feed_X5) hown hK hM h_x rfl 6 (by decide) (hts (.fieldLink RX5 48 "GroupLog" "tapeBytes" "I") (List.mem_of_getElem? (i := 1) rfl)) rfl dX5_feed_19 ?_
      refine lv_aload_n hx hb dX5_feed_22 rfl (lv_at hl 0 rfl) ?_
      refine mm_get (v := .ref tp) (ci := 5) (C := RX5) (T := TX5) (N := 10) hx hb hts (in_X5_feed_X5) hown hK hM h_x rfl 5 (by decide) (hts (.fieldLink RX5 44 "GroupLog" "tape" "[I") (List.mem_of_getElem? (i := 2) rfl)) rfl dX5_feed_23 ?_
      refine mm_alen (v := 200) hx hb hK hM 0 h_tp rfl rfl dX5_feed_26 ?_
      refine lv_icmp_lt (tgt := 32) hx hb dX5_feed_27 (by decide) (fun c_4 => ?_) (fun c_4 => ?_)
      rotate_left
      · exact absurd c_4 (by decide)
      refine lv_aload_n hx hb dX5_feed_32 rfl (lv_at hl 0 rfl) ?_
      refine mm_get (v := .ref tp) (ci := 5) (C := RX5) (T := TX5) (N := 10) hx hb hts (in_X5_feed_X5) hown hK hM h_x rfl 5 (by decide) (hts (.fieldLink RX5 44 "GroupLog" "tape" "[I") (List.mem_of_getElem? (i := 2) rfl)) rfl dX5_feed_33 ?_
      refine lv_aload_n hx hb dX5_feed_36 rfl (lv_at hl 0 rfl) ?_
      refine mm_get (v := .int 0) (ci := 5) (C := RX5) (T := TX5) (N := 10) hx hb hts (in_X5_feed_X5) hown hK hM h_x rfl 6 (by decide) (hts (.fieldLink RX5 48 "GroupLog" "tapeBytes" "I") (List.mem_of_getElem? (i := 1) rfl)) rfl dX5_feed_37 ?_
      refine lv_iload_n hx hb dX5_feed_40 rfl (lv_at hl 1 rfl) ?_
      refine mm_iast hx hb hK hM hS 0 h_tp rfl (j := 0) (rfl) (by decide) (by decide) dX5_feed_41 (fun H locs M hM ha ho hS => ?_)
      have h_x := (ho x (mm_ne h_x h_tp mm_oa)).trans h_x
      have h_tp : _ = some (Sum.inl (cI, 200, .inl (upd (fun _ => 0) (0) (k))) : va_E) := ha
      refine lv_aload_n hx hb dX5_feed_42 rfl (lv_at hl 0 rfl) ?_
      refine lv_dup hx hb dX5_feed_43 rfl ?_
      refine mm_get (v := .int 0) (ci := 5) (C := RX5) (T := TX5) (N := 10) hx hb hts (in_X5_feed_X5) hown hK hM h_x rfl 6 (by decide) (hts (.fieldLink RX5 48 "GroupLog" "tapeBytes" "I") (List.mem_of_getElem? (i := 1) rfl)) rfl dX5_feed_44 ?_
      refine lv_iconst (v := 1) hx hb dX5_feed_47 (by decide) ?_
      refine lv_iadd hx hb dX5_feed_48 ?_
      refine lv_topi (fun z5 ez5 => ?_)
      have ez5 : z5 = 1 := ez5.trans (by decide)
      subst ez5
      refine mm_put (v := .int 1) (ci := 5) (C := RX5) (T := TX5) (N := 10) hx hb hts (in_X5_feed_X5) tyX5 tyX5_ok nmX5 hown hK hM hS h_x rfl 6 (by decide) (hts (.fieldLink RX5 48 "GroupLog" "tapeBytes" "I") (List.mem_of_getElem? (i := 1) rfl)) rfl rfl rfl (Nat.le_of_ble_eq_true rfl) dX5_feed_49 (fun H locs M hM ha ho hS => ?_)
      have h_tp := (ho tp (mm_ne h_tp h_x mm_ao)).trans h_tp
      have h_x : _ = some (Sum.inr (5, [.ref st, .ref qu, .ref lg, .ref rd, .ref dr, .ref tp, .int 1, .int 10, .int 0, .int 1]) : va_E) := ha
      refine lv_iconst (v := 1) hx hb dX5_feed_52 (by decide) ?_
      exact mm_zret hx hb hr hlk (rfl) hM hS (by unfold fd_f; rw [if_neg c_1, if_neg c_2]) dX5_feed_53

theorem in_X5_append_X5 : ∀ w ∈ u_ws RX5 TX5 10, w ∈ wsX5_append := fun w h => List.mem_cons_of_mem _ (List.mem_append_left _ (List.mem_append_left _ (List.mem_append_left _ (List.mem_append_left _ (List.mem_append_right _ h)))))
set_option maxHeartbeats 4000000 in
set_option maxRecDepth 100000 in
theorem c_X5_append {l : Launch} {D : va_G} {A : Nat → Prop} {cI cS cB cZ : ClassId} {M : Nat → Option va_E} {sz : Nat} {x st qu lg rd dr tp : Nat} (h_x : M x = some (Sum.inr (5, [.ref st, .ref qu, .ref lg, .ref rd, .ref dr, .ref tp, .int 0, .int 10, .int 0, .int 1]) : va_E)) : Met l yX5_append wsX5_append ({ frames := 0, cells := 0, slots := 0, locals := 0 }) (mm_Pc D A (mm_T cI cS cB cZ) M sz [.ref x]) (mm_Qi D A (fun r M1 => r = (-1))) 0 0 A := by
  refine mm_met (cc := cX5_append) (maxL := 2) (ret := (some .int)) (by decide) rfl (Nat.le_of_ble_eq_true rfl) ?_
  intro p e s m args below meth c hx hb hr hts hown hlk hin hml hsz hK hM hS ls hl
  subst hsz
  have hl : lv_has ls 2 [(0, .ref x)] := hl
  refine lv_aload_n hx hb dX5_append_0 rfl (lv_at hl 0 rfl) ?_
  refine mm_get (v := .int 1) (ci := 5) (C := RX5) (T := TX5) (N := 10) hx hb hts (in_X5_append_X5) hown hK hM h_x rfl 9 (by decide) (hts (.fieldLink RX5 58 "GroupLog" "on" "Z") (List.mem_of_getElem? (i := 1) rfl)) rfl dX5_append_1 ?_
  refine lv_if_ne (tgt := 10) hx hb dX5_append_4 (by decide) (fun c_1 => ?_) (fun c_1 => ?_)
  rotate_left
  · exact absurd c_1 (by decide)
  refine lv_aload_n hx hb dX5_append_10 rfl (lv_at hl 0 rfl) ?_
  refine mm_get (v := .int 0) (ci := 5) (C := RX5) (T := TX5) (N := 10) hx hb hts (in_X5_append_X5) hown hK hM h_x rfl 6 (by decide) (hts (.fieldLink RX5 48 "GroupLog" "tapeBytes" "I") (List.mem_of_getElem? (i := 2) rfl)) rfl dX5_append_11 ?_
  refine lv_if_eq (tgt := 44) hx hb dX5_append_14 (by decide) (fun c_2 => ?_) (fun c_2 => ?_)
  rotate_left
  · exact absurd c_2 (by decide)
  refine lv_iconst (v := (-1)) hx hb dX5_append_44 (by decide) ?_
  exact mm_iret hx hb hr hlk hM hS (rfl) dX5_append_45

theorem in_X5_start_X5 : ∀ w ∈ u_ws RX5 TX5 10, w ∈ wsX5_start := fun w h => List.mem_cons_of_mem _ (List.mem_append_left _ (List.mem_append_left _ (List.mem_append_left _ (List.mem_append_left _ (List.mem_append_left _ (List.mem_append_right _ h))))))
set_option maxHeartbeats 4000000 in
set_option maxRecDepth 100000 in
theorem c_X5_start {l : Launch} {D : va_G} {A : Nat → Prop} {cI cS cB cZ : ClassId} {M : Nat → Option va_E} {sz : Nat} {x st qu lg rd dr tp : Nat} (h_x : M x = some (Sum.inr (5, [.ref st, .ref qu, .ref lg, .ref rd, .ref dr, .ref tp, .int 0, .int 10, .int 0, .int 1]) : va_E)) : Met l yX5_start wsX5_start ({ frames := 0, cells := 0, slots := 0, locals := 0 }) (mm_Pc D A (mm_T cI cS cB cZ) M sz [.ref x]) (mm_Qi D A (fun r M1 => r = (-1))) 0 0 A := by
  refine mm_met (cc := cX5_start) (maxL := 4) (ret := (some .int)) (by decide) rfl (Nat.le_of_ble_eq_true rfl) ?_
  intro p e s m args below meth c hx hb hr hts hown hlk hin hml hsz hK hM hS ls hl
  subst hsz
  have hl : lv_has ls 4 [(0, .ref x)] := hl
  refine lv_aload_n hx hb dX5_start_0 rfl (lv_at hl 0 rfl) ?_
  refine mm_get (v := .int 1) (ci := 5) (C := RX5) (T := TX5) (N := 10) hx hb hts (in_X5_start_X5) hown hK hM h_x rfl 9 (by decide) (hts (.fieldLink RX5 58 "GroupLog" "on" "Z") (List.mem_of_getElem? (i := 1) rfl)) rfl dX5_start_1 ?_
  refine lv_if_eq (tgt := 9) hx hb dX5_start_4 (by decide) (fun c_1 => ?_) (fun c_1 => ?_)
  · exact absurd c_1 (by decide)
  refine lv_iconst (v := (-1)) hx hb dX5_start_7 (by decide) ?_
  exact mm_iret hx hb hr hlk hM hS (rfl) dX5_start_8

theorem in_X5_first_X0 : ∀ w ∈ u_ws RX0 TX0 8, w ∈ wsX5_first := fun w h => List.mem_cons_of_mem _ (List.mem_append_right _ h)
theorem in_X5_first_X5 : ∀ w ∈ u_ws RX5 TX5 10, w ∈ wsX5_first := fun w h => List.mem_cons_of_mem _ (List.mem_append_left _ (List.mem_append_right _ h))
set_option maxHeartbeats 4000000 in
set_option maxRecDepth 100000 in
theorem c_X5_first {l : Launch} {D : va_G} {A : Nat → Prop} {cI cS cB cZ : ClassId} {M : Nat → Option va_E} {sz : Nat} {x st qu lg rd dr tp lb : Nat} (h_x : M x = some (Sum.inr (5, [.ref st, .ref qu, .ref lg, .ref rd, .ref dr, .ref tp, .int 0, .int 10, .int 0, .int 1]) : va_E)) (h_lg : M lg = some (Sum.inr (0, [.ref lb, .int 1, .int 1, .int 0, .int 2, .int 0, .int 2, .int 1]) : va_E)) : Met l yX5_first wsX5_first ({ frames := 0, cells := 0, slots := 0, locals := 0 }) (mm_Pc D A (mm_T cI cS cB cZ) M sz [.ref x]) (mm_Qi D A (fun r M1 => r = 1)) 0 0 A := by
  refine mm_met (cc := cX5_first) (maxL := 1) (ret := (some .int)) (by decide) rfl (Nat.le_of_ble_eq_true rfl) ?_
  intro p e s m args below meth c hx hb hr hts hown hlk hin hml hsz hK hM hS ls hl
  subst hsz
  have hl : lv_has ls 1 [(0, .ref x)] := hl
  refine lv_aload_n hx hb dX5_first_0 rfl (lv_at hl 0 rfl) ?_
  refine mm_get (v := .int 1) (ci := 5) (C := RX5) (T := TX5) (N := 10) hx hb hts (in_X5_first_X5) hown hK hM h_x rfl 9 (by decide) (hts (.fieldLink RX5 58 "GroupLog" "on" "Z") (List.mem_of_getElem? (i := 1) rfl)) rfl dX5_first_1 ?_
  refine lv_if_eq (tgt := 17) hx hb dX5_first_4 (by decide) (fun c_1 => ?_) (fun c_1 => ?_)
  · exact absurd c_1 (by decide)
  refine lv_aload_n hx hb dX5_first_7 rfl (lv_at hl 0 rfl) ?_
  refine mm_get (v := .ref lg) (ci := 5) (C := RX5) (T := TX5) (N := 10) hx hb hts (in_X5_first_X5) hown hK hM h_x rfl 2 (by decide) (hts (.fieldLink RX5 26 "GroupLog" "log" "LGroupLog$Log;") (List.mem_of_getElem? (i := 2) rfl)) rfl dX5_first_8 ?_
  refine mm_getN (v := .int 1) (ci := 0) (C := RX0) (T := TX0) (N := 8) hx hb hts (in_X5_first_X0) hown hK hM h_lg rfl 1 (by decide) (hK.2.1 _ (List.mem_of_getElem? (i := 5) rfl)) rfl dX5_first_11 ?_
  refine lv_goto (tgt := 19) hx hb dX5_first_14 (by decide) ?_
  exact mm_iret hx hb hr hlk hM hS (rfl) dX5_first_19

theorem in_X5_safe_X0 : ∀ w ∈ u_ws RX0 TX0 8, w ∈ wsX5_safe := fun w h => List.mem_cons_of_mem _ (List.mem_append_right _ h)
theorem in_X5_safe_X5 : ∀ w ∈ u_ws RX5 TX5 10, w ∈ wsX5_safe := fun w h => List.mem_cons_of_mem _ (List.mem_append_left _ (List.mem_append_right _ h))
set_option maxHeartbeats 4000000 in
set_option maxRecDepth 100000 in
theorem c_X5_safe {l : Launch} {D : va_G} {A : Nat → Prop} {cI cS cB cZ : ClassId} {M : Nat → Option va_E} {sz : Nat} {x st qu lg rd dr tp lb : Nat} (h_x : M x = some (Sum.inr (5, [.ref st, .ref qu, .ref lg, .ref rd, .ref dr, .ref tp, .int 0, .int 10, .int 0, .int 1]) : va_E)) (h_lg : M lg = some (Sum.inr (0, [.ref lb, .int 1, .int 1, .int 0, .int 2, .int 0, .int 2, .int 1]) : va_E)) : Met l yX5_safe wsX5_safe ({ frames := 0, cells := 0, slots := 0, locals := 0 }) (mm_Pc D A (mm_T cI cS cB cZ) M sz [.ref x]) (mm_Qi D A (fun r M1 => r = 0)) 0 0 A := by
  refine mm_met (cc := cX5_safe) (maxL := 1) (ret := (some .int)) (by decide) rfl (Nat.le_of_ble_eq_true rfl) ?_
  intro p e s m args below meth c hx hb hr hts hown hlk hin hml hsz hK hM hS ls hl
  subst hsz
  have hl : lv_has ls 1 [(0, .ref x)] := hl
  refine lv_aload_n hx hb dX5_safe_0 rfl (lv_at hl 0 rfl) ?_
  refine mm_get (v := .int 1) (ci := 5) (C := RX5) (T := TX5) (N := 10) hx hb hts (in_X5_safe_X5) hown hK hM h_x rfl 9 (by decide) (hts (.fieldLink RX5 58 "GroupLog" "on" "Z") (List.mem_of_getElem? (i := 1) rfl)) rfl dX5_safe_1 ?_
  refine lv_if_eq (tgt := 17) hx hb dX5_safe_4 (by decide) (fun c_1 => ?_) (fun c_1 => ?_)
  · exact absurd c_1 (by decide)
  refine lv_aload_n hx hb dX5_safe_7 rfl (lv_at hl 0 rfl) ?_
  refine mm_get (v := .ref lg) (ci := 5) (C := RX5) (T := TX5) (N := 10) hx hb hts (in_X5_safe_X5) hown hK hM h_x rfl 2 (by decide) (hts (.fieldLink RX5 26 "GroupLog" "log" "LGroupLog$Log;") (List.mem_of_getElem? (i := 2) rfl)) rfl dX5_safe_8 ?_
  refine mm_getN (v := .int 0) (ci := 0) (C := RX0) (T := TX0) (N := 8) hx hb hts (in_X5_safe_X0) hown hK hM h_lg rfl 3 (by decide) (hK.2.1 _ (List.mem_of_getElem? (i := 10) rfl)) rfl dX5_safe_11 ?_
  refine lv_goto (tgt := 19) hx hb dX5_safe_14 (by decide) ?_
  exact mm_iret hx hb hr hlk hM hS (rfl) dX5_safe_19

theorem in_X5_poke_X5 : ∀ w ∈ u_ws RX5 TX5 10, w ∈ wsX5_poke := fun w h => List.mem_cons_of_mem _ (List.mem_append_left _ (List.mem_append_left _ (List.mem_append_right _ h)))
set_option maxHeartbeats 4000000 in
set_option maxRecDepth 100000 in
theorem c_X5_poke {l : Launch} {D : va_G} {A : Nat → Prop} {cI cS cB cZ : ClassId} {M : Nat → Option va_E} {sz : Nat} {x st qu lg rd dr tp : Nat} {k1 k2 k3 : Int32} (h_x : M x = some (Sum.inr (5, [.ref st, .ref qu, .ref lg, .ref rd, .ref dr, .ref tp, .int 0, .int 10, .int 0, .int 1]) : va_E)) : Met l yX5_poke wsX5_poke ({ frames := 0, cells := 0, slots := 0, locals := 0 }) (mm_Pc D A (mm_T cI cS cB cZ) M sz [.ref x, .int k1, .int k2, .int k3]) (mm_Qi D A (fun r M1 => r = 0)) 0 0 A := by
  refine mm_met (cc := cX5_poke) (maxL := 5) (ret := (some .boolean)) (by decide) rfl (Nat.le_of_ble_eq_true rfl) ?_
  intro p e s m args below meth c hx hb hr hts hown hlk hin hml hsz hK hM hS ls hl
  subst hsz
  have hl : lv_has ls 5 [(0, .ref x), (1, .int k1), (2, .int k2), (3, .int k3)] := hl
  refine lv_aload_n hx hb dX5_poke_0 rfl (lv_at hl 0 rfl) ?_
  refine mm_get (v := .int 1) (ci := 5) (C := RX5) (T := TX5) (N := 10) hx hb hts (in_X5_poke_X5) hown hK hM h_x rfl 9 (by decide) (hts (.fieldLink RX5 58 "GroupLog" "on" "Z") (List.mem_of_getElem? (i := 1) rfl)) rfl dX5_poke_1 ?_
  refine lv_if_ne (tgt := 27) hx hb dX5_poke_4 (by decide) (fun c_1 => ?_) (fun c_1 => ?_)
  rotate_left
  · exact absurd c_1 (by decide)
  refine lv_iconst (v := 0) hx hb dX5_poke_27 (by decide) ?_
  exact mm_zret hx hb hr hlk (rfl) hM hS (rfl) dX5_poke_28

theorem in_X5_size_X5 : ∀ w ∈ u_ws RX5 TX5 10, w ∈ wsX5_size := fun w h => List.mem_cons_of_mem _ (List.mem_append_left _ (List.mem_append_left _ (List.mem_append_left _ (List.mem_append_right _ h))))
set_option maxHeartbeats 4000000 in
set_option maxRecDepth 100000 in
theorem c_X5_size {l : Launch} {D : va_G} {A : Nat → Prop} {cI cS cB cZ : ClassId} {M : Nat → Option va_E} {sz : Nat} {x st qu lg rd dr tp lb : Nat} {k : Int32} (h_x : M x = some (Sum.inr (5, [.ref st, .ref qu, .ref lg, .ref rd, .ref dr, .ref tp, .int 0, .int 10, .int 0, .int 1]) : va_E)) (h_lg : M lg = some (Sum.inr (0, [.ref lb, .int 1, .int 1, .int 0, .int 2, .int 0, .int 2, .int 1]) : va_E)) : Met l yX5_size wsX5_size ({ frames := 1, cells := 0, slots := 0, locals := 21 }) (mm_Pc D A (mm_T cI cS cB cZ) M sz [.ref x, .int k]) (mm_Qi D A (fun r M1 => r = (-1))) 0 0 A := by
  refine mm_met (cc := cX5_size) (maxL := 2) (ret := (some .int)) (by decide) rfl (Nat.le_of_ble_eq_true rfl) ?_
  intro p e s m args below meth c hx hb hr hts hown hlk hin hml hsz hK hM hS ls hl
  subst hsz
  have hl : lv_has ls 2 [(0, .ref x), (1, .int k)] := hl
  refine lv_aload_n hx hb dX5_size_0 rfl (lv_at hl 0 rfl) ?_
  refine mm_get (v := .int 1) (ci := 5) (C := RX5) (T := TX5) (N := 10) hx hb hts (in_X5_size_X5) hown hK hM h_x rfl 9 (by decide) (hts (.fieldLink RX5 58 "GroupLog" "on" "Z") (List.mem_of_getElem? (i := 1) rfl)) rfl dX5_size_1 ?_
  refine lv_if_ne (tgt := 10) hx hb dX5_size_4 (by decide) (fun c_1 => ?_) (fun c_1 => ?_)
  rotate_left
  · exact absurd c_1 (by decide)
  refine lv_aload_n hx hb dX5_size_10 rfl (lv_at hl 0 rfl) ?_
  refine mm_get (v := .ref lg) (ci := 5) (C := RX5) (T := TX5) (N := 10) hx hb hts (in_X5_size_X5) hown hK hM h_x rfl 2 (by decide) (hts (.fieldLink RX5 26 "GroupLog" "log" "LGroupLog$Log;") (List.mem_of_getElem? (i := 2) rfl)) rfl dX5_size_11 ?_
  refine lv_iload_n hx hb dX5_size_14 rfl (lv_at hl 1 rfl) ?_
  refine mm_calli (mm_runV (As := [.int k]) (rest := []) ⟨hx, hb, hml, hown, hts⟩ (c_X0_has h_lg) (cwV 1 hts gX5_size_X0_has rfl rfl rfl (by decide +kernel) ⟨Nat.le_of_ble_eq_true rfl, Nat.le_of_ble_eq_true rfl⟩) hK hM h_lg rfl rfl hl.1 rfl (Nat.le_of_ble_eq_true rfl) dX5_size_15 ⟨Nat.le_of_ble_eq_true rfl, Nat.le_of_ble_eq_true rfl⟩) hS (fun _ h => h) (fun r2 M H locs hp hM hS hz _ => ?_)
  obtain ⟨rfl, hme⟩ := hp
  rw [hme] at hM
  refine lv_if_eq (tgt := 36) hx hb dX5_size_18 (by decide) (fun c_3 => ?_) (fun c_3 => ?_)
  rotate_left
  · exact absurd c_3 (by decide)
  refine lv_iconst (v := (-1)) hx hb dX5_size_36 (by decide) ?_
  exact mm_iret hx hb hr hlk hM hS (rfl) dX5_size_37

theorem in_X5_at_X5 : ∀ w ∈ u_ws RX5 TX5 10, w ∈ wsX5_at := fun w h => List.mem_cons_of_mem _ (List.mem_append_left _ (List.mem_append_left _ (List.mem_append_left _ (List.mem_append_right _ h))))
set_option maxHeartbeats 4000000 in
set_option maxRecDepth 100000 in
theorem c_X5_at {l : Launch} {D : va_G} {A : Nat → Prop} {cI cS cB cZ : ClassId} {M : Nat → Option va_E} {sz : Nat} {x st qu lg rd dr tp lb : Nat} {k i : Int32} (h_x : M x = some (Sum.inr (5, [.ref st, .ref qu, .ref lg, .ref rd, .ref dr, .ref tp, .int 0, .int 10, .int 0, .int 1]) : va_E)) (h_lg : M lg = some (Sum.inr (0, [.ref lb, .int 1, .int 1, .int 0, .int 2, .int 0, .int 2, .int 1]) : va_E)) : Met l yX5_at wsX5_at ({ frames := 1, cells := 0, slots := 0, locals := 21 }) (mm_Pc D A (mm_T cI cS cB cZ) M sz [.ref x, .int k, .int i]) (mm_Qi D A (fun r M1 => r = (-1))) 0 0 A := by
  refine mm_met (cc := cX5_at) (maxL := 3) (ret := (some .int)) (by decide) rfl (Nat.le_of_ble_eq_true rfl) ?_
  intro p e s m args below meth c hx hb hr hts hown hlk hin hml hsz hK hM hS ls hl
  subst hsz
  have hl : lv_has ls 3 [(0, .ref x), (1, .int k), (2, .int i)] := hl
  refine lv_aload_n hx hb dX5_at_0 rfl (lv_at hl 0 rfl) ?_
  refine mm_get (v := .int 1) (ci := 5) (C := RX5) (T := TX5) (N := 10) hx hb hts (in_X5_at_X5) hown hK hM h_x rfl 9 (by decide) (hts (.fieldLink RX5 58 "GroupLog" "on" "Z") (List.mem_of_getElem? (i := 1) rfl)) rfl dX5_at_1 ?_
  refine lv_if_ne (tgt := 10) hx hb dX5_at_4 (by decide) (fun c_1 => ?_) (fun c_1 => ?_)
  rotate_left
  · exact absurd c_1 (by decide)
  refine lv_aload_n hx hb dX5_at_10 rfl (lv_at hl 0 rfl) ?_
  refine mm_get (v := .ref lg) (ci := 5) (C := RX5) (T := TX5) (N := 10) hx hb hts (in_X5_at_X5) hown hK hM h_x rfl 2 (by decide) (hts (.fieldLink RX5 26 "GroupLog" "log" "LGroupLog$Log;") (List.mem_of_getElem? (i := 2) rfl)) rfl dX5_at_11 ?_
  refine lv_iload_n hx hb dX5_at_14 rfl (lv_at hl 1 rfl) ?_
  refine mm_calli (mm_runV (As := [.int k]) (rest := []) ⟨hx, hb, hml, hown, hts⟩ (c_X0_has h_lg) (cwV 1 hts gX5_at_X0_has rfl rfl rfl (by decide +kernel) ⟨Nat.le_of_ble_eq_true rfl, Nat.le_of_ble_eq_true rfl⟩) hK hM h_lg rfl rfl hl.1 rfl (Nat.le_of_ble_eq_true rfl) dX5_at_15 ⟨Nat.le_of_ble_eq_true rfl, Nat.le_of_ble_eq_true rfl⟩) hS (fun _ h => h) (fun r2 M H locs hp hM hS hz _ => ?_)
  obtain ⟨rfl, hme⟩ := hp
  rw [hme] at hM
  refine lv_if_eq (tgt := 41) hx hb dX5_at_18 (by decide) (fun c_3 => ?_) (fun c_3 => ?_)
  rotate_left
  · exact absurd c_3 (by decide)
  refine lv_iconst (v := (-1)) hx hb dX5_at_41 (by decide) ?_
  exact mm_iret hx hb hr hlk hM hS (rfl) dX5_at_42

theorem in_X5_tick_X1 : ∀ w ∈ u_ws RX1 TX1 4, w ∈ wsX5_tick := fun w h => List.mem_cons_of_mem _ (List.mem_append_left _ (List.mem_append_left _ (List.mem_append_left _ (List.mem_append_right _ h))))
theorem in_X5_tick_X5 : ∀ w ∈ u_ws RX5 TX5 10, w ∈ wsX5_tick := fun w h => List.mem_cons_of_mem _ (List.mem_append_left _ (List.mem_append_left _ (List.mem_append_left _ (List.mem_append_left _ (List.mem_append_right _ h)))))
set_option maxHeartbeats 4000000 in
set_option maxRecDepth 100000 in
theorem c_X5_tick {l : Launch} {D : va_G} {A : Nat → Prop} {cI cS cB cZ : ClassId} {M : Nat → Option va_E} {sz : Nat} {x st qu lg rd dr tp qb : Nat} {k : Int32} (h_x : M x = some (Sum.inr (5, [.ref st, .ref qu, .ref lg, .ref rd, .ref dr, .ref tp, .int 0, .int 10, .int 0, .int 1]) : va_E)) (h_qu : M qu = some (Sum.inr (1, [.ref qb, .int 0, .int 0, .int 0]) : va_E)) : Met l yX5_tick wsX5_tick ({ frames := 1, cells := 0, slots := 0, locals := 20 }) (mm_Pc D A (mm_T cI cS cB cZ) M sz [.ref x, .int k]) (mm_Qi D A (fun r M1 => r = tc_f k)) 0 0 A := by
  refine mm_met (cc := cX5_tick) (maxL := 2) (ret := (some .int)) (by decide) rfl (Nat.le_of_ble_eq_true rfl) ?_
  intro p e s m args below meth c hx hb hr hts hown hlk hin hml hsz hK hM hS ls hl
  subst hsz
  have hl : lv_has ls 2 [(0, .ref x), (1, .int k)] := hl
  refine lv_aload_n hx hb dX5_tick_0 rfl (lv_at hl 0 rfl) ?_
  refine mm_get (v := .int 1) (ci := 5) (C := RX5) (T := TX5) (N := 10) hx hb hts (in_X5_tick_X5) hown hK hM h_x rfl 9 (by decide) (hts (.fieldLink RX5 58 "GroupLog" "on" "Z") (List.mem_of_getElem? (i := 1) rfl)) rfl dX5_tick_1 ?_
  refine lv_if_ne (tgt := 10) hx hb dX5_tick_4 (by decide) (fun c_1 => ?_) (fun c_1 => ?_)
  rotate_left
  · exact absurd c_1 (by decide)
  refine lv_iload_n hx hb dX5_tick_10 rfl (lv_at hl 1 rfl) ?_
  refine mm_calli (mm_runS (As := [.int k]) (rest := []) ⟨hx, hb, hml, hown, hts⟩ (c_X5_isTicks ) (va_cwS 1 hts gX5_tick_X5_isTicks rfl rfl rfl (by decide +kernel) ⟨Nat.le_of_ble_eq_true rfl, Nat.le_of_ble_eq_true rfl⟩) hK hM rfl hl.1 rfl (Nat.le_of_ble_eq_true rfl) dX5_tick_11 ⟨Nat.le_of_ble_eq_true rfl, Nat.le_of_ble_eq_true rfl⟩) hS (fun _ h => h) (fun r2 M H locs hp hM hS hz _ => ?_)
  obtain ⟨rfl, hme⟩ := hp
  rw [hme] at hM
  refine lv_if_ne (tgt := 19) hx hb dX5_tick_14 (by decide) (fun c_3 => ?_) (fun c_3 => ?_)
  · skip
    refine lv_aload_n hx hb dX5_tick_19 rfl (lv_at hl 0 rfl) ?_
    refine mm_get (v := .ref qu) (ci := 5) (C := RX5) (T := TX5) (N := 10) hx hb hts (in_X5_tick_X5) hown hK hM h_x rfl 1 (by decide) (hts (.fieldLink RX5 19 "GroupLog" "queue" "LGroupLog$Queue;") (List.mem_of_getElem? (i := 2) rfl)) rfl dX5_tick_20 ?_
    refine mm_getN (v := .int 0) (ci := 1) (C := RX1) (T := TX1) (N := 4) hx hb hts (in_X5_tick_X1) hown hK hM h_qu rfl 2 (by decide) (hK.2.1 _ (List.mem_of_getElem? (i := 11) rfl)) rfl dX5_tick_23 ?_
    refine lv_if_ne (tgt := 31) hx hb dX5_tick_26 (by decide) (fun c_4 => ?_) (fun c_4 => ?_)
    · exact absurd c_4 (by decide)
    refine lv_iconst (v := 0) hx hb dX5_tick_29 (by decide) ?_
    exact mm_iret hx hb hr hlk hM hS (by unfold tc_f; rw [if_neg c_3]) dX5_tick_30
  · skip
    refine lv_iconst (v := (-1)) hx hb dX5_tick_17 (by decide) ?_
    exact mm_iret hx hb hr hlk hM hS (by unfold tc_f; rw [if_pos c_3]) dX5_tick_18

theorem in_X5_arm_X4 : ∀ w ∈ u_ws RX4 TX4 4, w ∈ wsX5_arm := fun w h => List.mem_cons_of_mem _ (List.mem_append_right _ h)
theorem in_X5_arm_X5 : ∀ w ∈ u_ws RX5 TX5 10, w ∈ wsX5_arm := fun w h => List.mem_cons_of_mem _ (List.mem_append_left _ (List.mem_append_right _ h))
set_option maxHeartbeats 4000000 in
set_option maxRecDepth 100000 in
theorem c_X5_arm {l : Launch} {D : va_G} {A : Nat → Prop} {cI cS cB cZ : ClassId} {M : Nat → Option va_E} {sz : Nat} {x st qu lg rd dr tp sa : Nat} {n pt : Int32} (h_x : M x = some (Sum.inr (5, [.ref st, .ref qu, .ref lg, .ref rd, .ref dr, .ref tp, .int 0, .int 10, .int 0, .int 1]) : va_E)) (h_st : M st = some (Sum.inr (4, [.ref sa, .int 0, .int (-1), .int 0]) : va_E)) : Met l yX5_arm wsX5_arm ({ frames := 0, cells := 0, slots := 0, locals := 0 }) (mm_Pc D A (mm_T cI cS cB cZ) M sz [.ref x, .int n, .int pt]) (mm_Qi D A (fun r M1 => r = ar_f n pt)) 0 0 A := by
  refine mm_met (cc := cX5_arm) (maxL := 3) (ret := (some .boolean)) (by decide) rfl (Nat.le_of_ble_eq_true rfl) ?_
  intro p e s m args below meth c hx hb hr hts hown hlk hin hml hsz hK hM hS ls hl
  subst hsz
  have hl : lv_has ls 3 [(0, .ref x), (1, .int n), (2, .int pt)] := hl
  refine lv_aload_n hx hb dX5_arm_0 rfl (lv_at hl 0 rfl) ?_
  refine mm_get (v := .int 1) (ci := 5) (C := RX5) (T := TX5) (N := 10) hx hb hts (in_X5_arm_X5) hown hK hM h_x rfl 9 (by decide) (hts (.fieldLink RX5 58 "GroupLog" "on" "Z") (List.mem_of_getElem? (i := 1) rfl)) rfl dX5_arm_1 ?_
  refine lv_if_eq (tgt := 27) hx hb dX5_arm_4 (by decide) (fun c_1 => ?_) (fun c_1 => ?_)
  · exact absurd c_1 (by decide)
  refine lv_iload_n hx hb dX5_arm_7 rfl (lv_at hl 1 rfl) ?_
  refine lv_if_lt (tgt := 27) hx hb dX5_arm_8 (by decide) (fun c_2 => ?_) (fun c_2 => ?_)
  · skip
    refine lv_iconst (v := 0) hx hb dX5_arm_27 (by decide) ?_
    exact mm_zret hx hb hr hlk (rfl) hM hS (by unfold ar_f; rw [if_pos c_2]) dX5_arm_28
  · skip
    refine lv_iload_n hx hb dX5_arm_11 rfl (lv_at hl 1 rfl) ?_
    refine lv_bipush (v := 100) hx hb dX5_arm_12 (by decide) ?_
    refine lv_icmp_gt (tgt := 27) hx hb dX5_arm_14 (by decide) (fun c_3 => ?_) (fun c_3 => ?_)
    · skip
      refine lv_iconst (v := 0) hx hb dX5_arm_27 (by decide) ?_
      exact mm_zret hx hb hr hlk (rfl) hM hS (by unfold ar_f; rw [if_neg c_2, if_pos c_3]) dX5_arm_28
    · skip
      refine lv_iload_n hx hb dX5_arm_17 rfl (lv_at hl 2 rfl) ?_
      refine lv_if_lt (tgt := 27) hx hb dX5_arm_18 (by decide) (fun c_4 => ?_) (fun c_4 => ?_)
      · skip
        refine lv_iconst (v := 0) hx hb dX5_arm_27 (by decide) ?_
        exact mm_zret hx hb hr hlk (rfl) hM hS (by unfold ar_f; rw [if_neg c_2, if_neg c_3, if_pos c_4]) dX5_arm_28
      · skip
        refine lv_iload_n hx hb dX5_arm_21 rfl (lv_at hl 2 rfl) ?_
        refine lv_bipush (v := 64) hx hb dX5_arm_22 (by decide) ?_
        refine lv_icmp_lt (tgt := 29) hx hb dX5_arm_24 (by decide) (fun c_5 => ?_) (fun c_5 => ?_)
        · skip
          refine lv_aload_n hx hb dX5_arm_29 rfl (lv_at hl 0 rfl) ?_
          refine mm_get (v := .ref st) (ci := 5) (C := RX5) (T := TX5) (N := 10) hx hb hts (in_X5_arm_X5) hown hK hM h_x rfl 0 (by decide) (hts (.fieldLink RX5 12 "GroupLog" "store" "LGroupLog$Store;") (List.mem_of_getElem? (i := 2) rfl)) rfl dX5_arm_30 ?_
          refine lv_iload_n hx hb dX5_arm_33 rfl (lv_at hl 1 rfl) ?_
          refine mm_putN (v := .int n) (ci := 4) (C := RX4) (T := TX4) (N := 4) hx hb hts (in_X5_arm_X4) tyX4 tyX4_ok nmX4 hown hK hM hS h_st rfl 2 (by decide) (hK.2.1 _ (List.mem_of_getElem? (i := 3) rfl)) rfl rfl rfl (Nat.le_of_ble_eq_true rfl) dX5_arm_34 (fun H locs M hM ha ho hS => ?_)
          have h_x := (ho x (mm_ne h_x h_st (mm_oo (by decide)))).trans h_x
          have h_st : _ = some (Sum.inr (4, [.ref sa, .int 0, .int n, .int 0]) : va_E) := ha
          refine lv_aload_n hx hb dX5_arm_37 rfl (lv_at hl 0 rfl) ?_
          refine mm_get (v := .ref st) (ci := 5) (C := RX5) (T := TX5) (N := 10) hx hb hts (in_X5_arm_X5) hown hK hM h_x rfl 0 (by decide) (hts (.fieldLink RX5 12 "GroupLog" "store" "LGroupLog$Store;") (List.mem_of_getElem? (i := 2) rfl)) rfl dX5_arm_38 ?_
          refine lv_iload_n hx hb dX5_arm_41 rfl (lv_at hl 2 rfl) ?_
          refine mm_putN (v := .int pt) (ci := 4) (C := RX4) (T := TX4) (N := 4) hx hb hts (in_X5_arm_X4) tyX4 tyX4_ok nmX4 hown hK hM hS h_st rfl 3 (by decide) (hK.2.1 _ (List.mem_of_getElem? (i := 4) rfl)) rfl rfl rfl (Nat.le_of_ble_eq_true rfl) dX5_arm_42 (fun H locs M hM ha ho hS => ?_)
          have h_x := (ho x (mm_ne h_x h_st (mm_oo (by decide)))).trans h_x
          have h_st : _ = some (Sum.inr (4, [.ref sa, .int 0, .int n, .int pt]) : va_E) := ha
          refine lv_iconst (v := 1) hx hb dX5_arm_45 (by decide) ?_
          exact mm_zret hx hb hr hlk (rfl) hM hS (by unfold ar_f; rw [if_neg c_2, if_neg c_3, if_neg c_4, if_neg (ar_lt.mp c_5)]) dX5_arm_46
        · skip
          refine lv_iconst (v := 0) hx hb dX5_arm_27 (by decide) ?_
          exact mm_zret hx hb hr hlk (rfl) hM hS (by unfold ar_f; rw [if_neg c_2, if_neg c_3, if_neg c_4, if_pos (Decidable.byContradiction (fun h => c_5 (ar_lt.mpr h)))]) dX5_arm_28

theorem in_X5_powerGoes_X4 : ∀ w ∈ u_ws RX4 TX4 4, w ∈ wsX5_powerGoes := fun w h => List.mem_cons_of_mem _ (List.mem_append_left _ (List.mem_append_right _ h))
theorem in_X5_powerGoes_X5 : ∀ w ∈ u_ws RX5 TX5 10, w ∈ wsX5_powerGoes := fun w h => List.mem_cons_of_mem _ (List.mem_append_left _ (List.mem_append_left _ (List.mem_append_right _ h)))
set_option maxHeartbeats 4000000 in
set_option maxRecDepth 100000 in
theorem c_X5_powerGoes {l : Launch} {D : va_G} {A : Nat → Prop} {cI cS cB cZ : ClassId} {M : Nat → Option va_E} {sz : Nat} {x st qu lg rd dr tp sa qb : Nat} (h_x : M x = some (Sum.inr (5, [.ref st, .ref qu, .ref lg, .ref rd, .ref dr, .ref tp, .int 0, .int 10, .int 0, .int 1]) : va_E)) (h_qu : M qu = some (Sum.inr (1, [.ref qb, .int 0, .int 0, .int 0]) : va_E)) (h_st : M st = some (Sum.inr (4, [.ref sa, .int 0, .int (-1), .int 0]) : va_E)) : Met l yX5_powerGoes wsX5_powerGoes ({ frames := 1, cells := 0, slots := 0, locals := 20 }) (mm_Pc D A (mm_T cI cS cB cZ) M sz [.ref x]) (mm_Qv D A (fun M1 => True)) 0 0 A := by
  refine mm_met (cc := cX5_powerGoes) (maxL := 1) (ret := none) (by decide) rfl (Nat.le_of_ble_eq_true rfl) ?_
  intro p e s m args below meth c hx hb hr hts hown hlk hin hml hsz hK hM hS ls hl
  subst hsz
  have hl : lv_has ls 1 [(0, .ref x)] := hl
  refine lv_aload_n hx hb dX5_powerGoes_0 rfl (lv_at hl 0 rfl) ?_
  refine lv_iconst (v := 0) hx hb dX5_powerGoes_1 (by decide) ?_
  refine mm_put (v := .int 0) (ci := 5) (C := RX5) (T := TX5) (N := 10) hx hb hts (in_X5_powerGoes_X5) tyX5 tyX5_ok nmX5 hown hK hM hS h_x rfl 9 (by decide) (hts (.fieldLink RX5 58 "GroupLog" "on" "Z") (List.mem_of_getElem? (i := 1) rfl)) rfl rfl rfl (Nat.le_of_ble_eq_true rfl) dX5_powerGoes_2 (fun H locs M hM ha ho hS => ?_)
  have h_qu := (ho qu (mm_ne h_qu h_x (mm_oo (by decide)))).trans h_qu
  have h_st := (ho st (mm_ne h_st h_x (mm_oo (by decide)))).trans h_st
  have h_x : _ = some (Sum.inr (5, [.ref st, .ref qu, .ref lg, .ref rd, .ref dr, .ref tp, .int 0, .int 10, .int 0, .int 0]) : va_E) := ha
  refine lv_aload_n hx hb dX5_powerGoes_5 rfl (lv_at hl 0 rfl) ?_
  refine mm_get (v := .ref qu) (ci := 5) (C := RX5) (T := TX5) (N := 10) hx hb hts (in_X5_powerGoes_X5) hown hK hM h_x rfl 1 (by decide) (hts (.fieldLink RX5 19 "GroupLog" "queue" "LGroupLog$Queue;") (List.mem_of_getElem? (i := 2) rfl)) rfl dX5_powerGoes_6 ?_
  refine mm_callv (mm_runV (As := []) (rest := []) ⟨hx, hb, hml, hown, hts⟩ (c_X1_empty h_qu) (cwV 0 hts gX5_powerGoes_X1_empty rfl rfl rfl (by decide +kernel) ⟨Nat.le_of_ble_eq_true rfl, Nat.le_of_ble_eq_true rfl⟩) hK hM h_qu rfl rfl hl.1 rfl (Nat.le_of_ble_eq_true rfl) dX5_powerGoes_9 ⟨Nat.le_of_ble_eq_true rfl, Nat.le_of_ble_eq_true rfl⟩) hS (fun _ h => h) (fun M H locs hp hM hS hz _ => ?_)
  obtain ⟨ha, ho⟩ := hp
  have h_x := (ho x (mm_ne h_x h_qu (mm_oo (by decide)))).trans h_x
  have h_st := (ho st (mm_ne h_st h_qu (mm_oo (by decide)))).trans h_st
  have h_qu : _ = some (Sum.inr (1, [.ref qb, .int 0, .int 0, .int 0]) : va_E) := ha
  refine lv_aload_n hx hb dX5_powerGoes_12 rfl (lv_at hl 0 rfl) ?_
  refine mm_get (v := .ref st) (ci := 5) (C := RX5) (T := TX5) (N := 10) hx hb hts (in_X5_powerGoes_X5) hown hK hM h_x rfl 0 (by decide) (hts (.fieldLink RX5 12 "GroupLog" "store" "LGroupLog$Store;") (List.mem_of_getElem? (i := 3) rfl)) rfl dX5_powerGoes_13 ?_
  refine lv_iconst (v := (-1)) hx hb dX5_powerGoes_16 (by decide) ?_
  refine mm_putN (v := .int (-1)) (ci := 4) (C := RX4) (T := TX4) (N := 4) hx hb hts (in_X5_powerGoes_X4) tyX4 tyX4_ok nmX4 hown hK hM hS h_st rfl 2 (by decide) (hK.2.1 _ (List.mem_of_getElem? (i := 3) rfl)) rfl rfl rfl (Nat.le_of_ble_eq_true rfl) dX5_powerGoes_17 (fun H locs M hM ha ho hS => ?_)
  have h_x := (ho x (mm_ne h_x h_st (mm_oo (by decide)))).trans h_x
  have h_qu := (ho qu (mm_ne h_qu h_st (mm_oo (by decide)))).trans h_qu
  have h_st : _ = some (Sum.inr (4, [.ref sa, .int 0, .int (-1), .int 0]) : va_E) := ha
  exact mm_vret hx hb hr hlk hM hS (trivial) dX5_powerGoes_20

theorem in_X5_cut_X5 : ∀ w ∈ u_ws RX5 TX5 10, w ∈ wsX5_cut := fun w h => List.mem_cons_of_mem _ (List.mem_append_left _ (List.mem_append_left _ (List.mem_append_right _ h)))
set_option maxHeartbeats 4000000 in
set_option maxRecDepth 100000 in
theorem c_X5_cut {l : Launch} {D : va_G} {A : Nat → Prop} {cI cS cB cZ : ClassId} {M : Nat → Option va_E} {sz : Nat} {x st qu lg rd dr tp sa qb : Nat} (h_x : M x = some (Sum.inr (5, [.ref st, .ref qu, .ref lg, .ref rd, .ref dr, .ref tp, .int 0, .int 10, .int 0, .int 1]) : va_E)) (h_qu : M qu = some (Sum.inr (1, [.ref qb, .int 0, .int 0, .int 0]) : va_E)) (h_st : M st = some (Sum.inr (4, [.ref sa, .int 0, .int (-1), .int 0]) : va_E)) : Met l yX5_cut wsX5_cut ({ frames := 2, cells := 0, slots := 0, locals := 40 }) (mm_Pc D A (mm_T cI cS cB cZ) M sz [.ref x]) (mm_Qi D A (fun r M1 => r = 1)) 0 0 A := by
  refine mm_met (cc := cX5_cut) (maxL := 1) (ret := (some .boolean)) (by decide) rfl (Nat.le_of_ble_eq_true rfl) ?_
  intro p e s m args below meth c hx hb hr hts hown hlk hin hml hsz hK hM hS ls hl
  subst hsz
  have hl : lv_has ls 1 [(0, .ref x)] := hl
  refine lv_aload_n hx hb dX5_cut_0 rfl (lv_at hl 0 rfl) ?_
  refine mm_get (v := .int 1) (ci := 5) (C := RX5) (T := TX5) (N := 10) hx hb hts (in_X5_cut_X5) hown hK hM h_x rfl 9 (by decide) (hts (.fieldLink RX5 58 "GroupLog" "on" "Z") (List.mem_of_getElem? (i := 1) rfl)) rfl dX5_cut_1 ?_
  refine lv_if_ne (tgt := 9) hx hb dX5_cut_4 (by decide) (fun c_1 => ?_) (fun c_1 => ?_)
  rotate_left
  · exact absurd c_1 (by decide)
  refine lv_aload_n hx hb dX5_cut_9 rfl (lv_at hl 0 rfl) ?_
  refine mm_callv (mm_runV (As := []) (rest := []) ⟨hx, hb, hml, hown, hts⟩ (c_X5_powerGoes (tp := tp) h_x h_qu h_st) (cwV 0 hts gX5_cut_X5_powerGoes rfl rfl rfl (by decide +kernel) ⟨Nat.le_of_ble_eq_true rfl, Nat.le_of_ble_eq_true rfl⟩) hK hM h_x rfl rfl hl.1 rfl (Nat.le_of_ble_eq_true rfl) dX5_cut_10 ⟨Nat.le_of_ble_eq_true rfl, Nat.le_of_ble_eq_true rfl⟩) hS (fun _ h => h) (fun M H locs hp hM hS hz _ => ?_)
  refine lv_iconst (v := 1) hx hb dX5_cut_13 (by decide) ?_
  exact mm_zret hx hb hr hlk (rfl) hM hS (rfl) dX5_cut_14

theorem in_X5_writeQueue_X0 : ∀ w ∈ u_ws RX0 TX0 8, w ∈ wsX5_writeQueue := fun w h => List.mem_cons_of_mem _ (List.mem_append_left _ (List.mem_append_left _ (List.mem_append_left _ (List.mem_append_right _ h))))
theorem in_X5_writeQueue_X5 : ∀ w ∈ u_ws RX5 TX5 10, w ∈ wsX5_writeQueue := fun w h => List.mem_cons_of_mem _ (List.mem_append_left _ (List.mem_append_left _ (List.mem_append_left _ (List.mem_append_left _ (List.mem_append_right _ h)))))
set_option maxHeartbeats 4000000 in
set_option maxRecDepth 100000 in
/-- GroupLog.writeQueue of a new object -/
theorem c_X5_writeQueue {l : Launch} {D : va_G} {A : Nat → Prop} {cI cS cB cZ : ClassId} {M : Nat → Option va_E} {sz : Nat} {x st qu lg rd dr tp sa qb lb : Nat} {fa : Nat → Option Nat} {g h : Nat → Nat} (hI : st_inv cI M fa g h gl_F 64) (h_x : M x = some (Sum.inr (5, [.ref st, .ref qu, .ref lg, .ref rd, .ref dr, .ref tp, .int 0, .int 10, .int 0, .int 1]) : va_E)) (h_st : M st = some (Sum.inr (4, [.ref sa, .int 0, .int (-1), .int 0]) : va_E)) (h_sa : M sa = some (Sum.inl (cS, 64, .inr (.inr (.inr (.inr (fa))))) : va_E)) (h_qu : M qu = some (Sum.inr (1, [.ref qb, .int 0, .int 0, .int 0]) : va_E)) (h_lg : M lg = some (Sum.inr (0, [.ref lb, .int 1, .int 1, .int 0, .int 2, .int 0, .int 2, .int 1]) : va_E)) : Met l yX5_writeQueue wsX5_writeQueue ({ frames := 5, cells := 0, slots := 0, locals := 109 }) (mm_Pc D A (mm_T cI cS cB cZ) M sz [.ref x]) (mm_Qi D A (fun r M1 => r = 0)) 0 0 A := by
  refine mm_met (cc := cX5_writeQueue) (maxL := 6) (ret := (some .int)) (by decide) rfl (Nat.le_of_ble_eq_true rfl) ?_
  intro p e s m args below meth c hx hb hr hts hown hlk hin hml hsz hK hM hS ls hl
  subst hsz
  have hl : lv_has ls 6 [(0, .ref x)] := hl
  have h_g0 := (hI 0 (by decide)).2.1
  have h_h0 : _ = some (Sum.inl (cI, 64, .inl (hd_f 1 1 1 2)) : va_E) := (hI 0 (by decide)).2.2.1
  have h_g1 := (hI 1 (by decide)).2.1
  have h_h1 : _ = some (Sum.inl (cI, 64, .inl (fun _ => 0)) : va_E) := (hI 1 (by decide)).2.2.1
  refine lv_aload_n hx hb dX5_writeQueue_0 rfl (lv_at hl 0 rfl) ?_
  refine mm_get (v := .ref lg) (ci := 5) (C := RX5) (T := TX5) (N := 10) hx hb hts (in_X5_writeQueue_X5) hown hK hM h_x rfl 2 (by decide) (hts (.fieldLink RX5 26 "GroupLog" "log" "LGroupLog$Log;") (List.mem_of_getElem? (i := 1) rfl)) rfl dX5_writeQueue_1 ?_
  refine mm_getN (v := .int 2) (ci := 0) (C := RX0) (T := TX0) (N := 8) hx hb hts (in_X5_writeQueue_X0) hown hK hM h_lg rfl 6 (by decide) (hK.2.1 _ (List.mem_of_getElem? (i := 8) rfl)) rfl dX5_writeQueue_4 ?_
  refine lv_istore_n (lv' := [(1, .int 2), (0, .ref x)]) hx hb dX5_writeQueue_7 rfl hl (by decide) rfl (fun ls hl => ?_)
  refine lv_aload_n hx hb dX5_writeQueue_8 rfl (lv_at hl 1 rfl) ?_
  refine mm_get (v := .ref qu) (ci := 5) (C := RX5) (T := TX5) (N := 10) hx hb hts (in_X5_writeQueue_X5) hown hK hM h_x rfl 1 (by decide) (hts (.fieldLink RX5 19 "GroupLog" "queue" "LGroupLog$Queue;") (List.mem_of_getElem? (i := 2) rfl)) rfl dX5_writeQueue_9 ?_
  refine lv_iconst (v := 0) hx hb dX5_writeQueue_12 (by decide) ?_
  refine mm_calli (mm_runV (As := [.int 0]) (rest := []) ⟨hx, hb, hml, hown, hts⟩ (c_X1_sectorsWith h_qu) (cwV 1 hts gX5_writeQueue_X1_sectorsWith rfl rfl rfl (by decide +kernel) ⟨Nat.le_of_ble_eq_true rfl, Nat.le_of_ble_eq_true rfl⟩) hK hM h_qu rfl rfl hl.1 rfl (Nat.le_of_ble_eq_true rfl) dX5_writeQueue_13 ⟨Nat.le_of_ble_eq_true rfl, Nat.le_of_ble_eq_true rfl⟩) hS (fun _ h => h) (fun r1 M H locs hp hM hS hz _ => ?_)
  obtain ⟨rfl, hme⟩ := hp
  rw [hme] at hM
  refine lv_istore_n (lv' := [(2, .int 0), (1, .int 2), (0, .ref x)]) hx hb dX5_writeQueue_16 rfl hl (by decide) rfl (fun ls hl => ?_)
  refine lv_aload_n hx hb dX5_writeQueue_17 rfl (lv_at hl 2 rfl) ?_
  refine mm_get (v := .ref st) (ci := 5) (C := RX5) (T := TX5) (N := 10) hx hb hts (in_X5_writeQueue_X5) hown hK hM h_x rfl 0 (by decide) (hts (.fieldLink RX5 12 "GroupLog" "store" "LGroupLog$Store;") (List.mem_of_getElem? (i := 3) rfl)) rfl dX5_writeQueue_18 ?_
  refine mm_calli (mm_runV (As := []) (rest := []) ⟨hx, hb, hml, hown, hts⟩ (c_X4_headVersion (hI 0 (by decide)).1 (hI 1 (by decide)).1 h_st h_sa h_g0 h_h0 h_g1 h_h1) (cwV 0 hts gX5_writeQueue_X4_headVersion rfl rfl rfl (by decide +kernel) ⟨Nat.le_of_ble_eq_true rfl, Nat.le_of_ble_eq_true rfl⟩) hK hM h_st rfl rfl hl.1 rfl (Nat.le_of_ble_eq_true rfl) dX5_writeQueue_21 ⟨Nat.le_of_ble_eq_true rfl, Nat.le_of_ble_eq_true rfl⟩) hS (fun _ h => h) (fun r2 M H locs hp hM hS hz _ => ?_)
  obtain ⟨rfl, hme⟩ := hp
  rw [hme] at hM
  refine lv_istore_n (lv' := [(3, .int 1), (2, .int 0), (1, .int 2), (0, .ref x)]) hx hb dX5_writeQueue_24 rfl hl (by decide) rfl (fun ls hl => ?_)
  refine lv_iconst (v := 0) hx hb dX5_writeQueue_25 (by decide) ?_
  refine lv_istore (lv' := [(4, .int 0), (3, .int 1), (2, .int 0), (1, .int 2), (0, .ref x)]) hx hb dX5_writeQueue_26 hl (by decide) rfl (fun ls hl => ?_)
  refine lv_iconst (v := 0) hx hb dX5_writeQueue_28 (by decide) ?_
  refine lv_istore (lv' := [(5, .int 0), (4, .int 0), (3, .int 1), (2, .int 0), (1, .int 2), (0, .ref x)]) hx hb dX5_writeQueue_29 hl (by decide) rfl (fun ls hl => ?_)
  refine lv_iload hx hb dX5_writeQueue_31 (lv_at hl 0 rfl) ?_
  refine lv_iload_n hx hb dX5_writeQueue_33 rfl (lv_at hl 3 rfl) ?_
  refine lv_icmp_ge (tgt := 103) hx hb dX5_writeQueue_34 (by decide) (fun c_3 => ?_) (fun c_3 => ?_)
  rotate_left
  · exact absurd c_3 (by decide)
  refine lv_iload hx hb dX5_writeQueue_103 (lv_at hl 1 rfl) ?_
  refine lv_if_le (tgt := 118) hx hb dX5_writeQueue_105 (by decide) (fun c_4 => ?_) (fun c_4 => ?_)
  rotate_left
  · exact absurd c_4 (by decide)
  refine lv_aload_n hx hb dX5_writeQueue_118 rfl (lv_at hl 5 rfl) ?_
  refine mm_get (v := .int 1) (ci := 5) (C := RX5) (T := TX5) (N := 10) hx hb hts (in_X5_writeQueue_X5) hown hK hM h_x rfl 9 (by decide) (hts (.fieldLink RX5 58 "GroupLog" "on" "Z") (List.mem_of_getElem? (i := 4) rfl)) rfl dX5_writeQueue_119 ?_
  refine lv_if_eq (tgt := 144) hx hb dX5_writeQueue_122 (by decide) (fun c_5 => ?_) (fun c_5 => ?_)
  · exact absurd c_5 (by decide)
  refine lv_aload_n hx hb dX5_writeQueue_125 rfl (lv_at hl 5 rfl) ?_
  refine mm_get (v := .ref qu) (ci := 5) (C := RX5) (T := TX5) (N := 10) hx hb hts (in_X5_writeQueue_X5) hown hK hM h_x rfl 1 (by decide) (hts (.fieldLink RX5 19 "GroupLog" "queue" "LGroupLog$Queue;") (List.mem_of_getElem? (i := 2) rfl)) rfl dX5_writeQueue_126 ?_
  refine lv_aload_n hx hb dX5_writeQueue_129 rfl (lv_at hl 5 rfl) ?_
  refine mm_get (v := .ref lg) (ci := 5) (C := RX5) (T := TX5) (N := 10) hx hb hts (in_X5_writeQueue_X5) hown hK hM h_x rfl 2 (by decide) (hts (.fieldLink RX5 26 "GroupLog" "log" "LGroupLog$Log;") (List.mem_of_getElem? (i := 1) rfl)) rfl dX5_writeQueue_130 ?_
  refine lv_iload_n hx hb dX5_writeQueue_133 rfl (lv_at hl 4 rfl) ?_
  refine mm_callv (mm_runV (As := [.ref lg, .int 2]) (rest := []) ⟨hx, hb, hml, hown, hts⟩ (c_X1_tellTo h_qu) (cwV 2 hts gX5_writeQueue_X1_tellTo rfl rfl rfl (by decide +kernel) ⟨Nat.le_of_ble_eq_true rfl, Nat.le_of_ble_eq_true rfl⟩) hK hM h_qu rfl rfl hl.1 rfl (Nat.le_of_ble_eq_true rfl) dX5_writeQueue_134 ⟨Nat.le_of_ble_eq_true rfl, Nat.le_of_ble_eq_true rfl⟩) hS (fun _ h => h) (fun M H locs hp hM hS hz _ => ?_)
  rw [hp] at hM
  refine lv_aload_n hx hb dX5_writeQueue_137 rfl (lv_at hl 5 rfl) ?_
  refine mm_get (v := .ref qu) (ci := 5) (C := RX5) (T := TX5) (N := 10) hx hb hts (in_X5_writeQueue_X5) hown hK hM h_x rfl 1 (by decide) (hts (.fieldLink RX5 19 "GroupLog" "queue" "LGroupLog$Queue;") (List.mem_of_getElem? (i := 2) rfl)) rfl dX5_writeQueue_138 ?_
  refine mm_callv (mm_runV (As := []) (rest := []) ⟨hx, hb, hml, hown, hts⟩ (c_X1_empty h_qu) (cwV 0 hts gX5_writeQueue_X1_empty rfl rfl rfl (by decide +kernel) ⟨Nat.le_of_ble_eq_true rfl, Nat.le_of_ble_eq_true rfl⟩) hK hM h_qu rfl rfl hl.1 rfl (Nat.le_of_ble_eq_true rfl) dX5_writeQueue_141 ⟨Nat.le_of_ble_eq_true rfl, Nat.le_of_ble_eq_true rfl⟩) hS (fun _ h => h) (fun M H locs hp hM hS hz _ => ?_)
  refine lv_iload hx hb dX5_writeQueue_144 (lv_at hl 1 rfl) ?_
  exact mm_iret hx hb hr hlk hM hS (rfl) dX5_writeQueue_146

theorem in_X5_flush_X5 : ∀ w ∈ u_ws RX5 TX5 10, w ∈ wsX5_flush := fun w h => List.mem_cons_of_mem _ (List.mem_append_left _ (List.mem_append_left _ (List.mem_append_left _ (List.mem_append_left _ (List.mem_append_right _ h)))))
set_option maxHeartbeats 4000000 in
set_option maxRecDepth 100000 in
theorem c_X5_flush {l : Launch} {D : va_G} {A : Nat → Prop} {cI cS cB cZ : ClassId} {M : Nat → Option va_E} {sz : Nat} {x st qu lg rd dr tp sa qb lb : Nat} {fa : Nat → Option Nat} {g h : Nat → Nat} (hI : st_inv cI M fa g h gl_F 64) (h_x : M x = some (Sum.inr (5, [.ref st, .ref qu, .ref lg, .ref rd, .ref dr, .ref tp, .int 0, .int 10, .int 0, .int 1]) : va_E)) (h_st : M st = some (Sum.inr (4, [.ref sa, .int 0, .int (-1), .int 0]) : va_E)) (h_sa : M sa = some (Sum.inl (cS, 64, .inr (.inr (.inr (.inr (fa))))) : va_E)) (h_qu : M qu = some (Sum.inr (1, [.ref qb, .int 0, .int 0, .int 0]) : va_E)) (h_lg : M lg = some (Sum.inr (0, [.ref lb, .int 1, .int 1, .int 0, .int 2, .int 0, .int 2, .int 1]) : va_E)) : Met l yX5_flush wsX5_flush ({ frames := 6, cells := 0, slots := 0, locals := 134 }) (mm_Pc D A (mm_T cI cS cB cZ) M sz [.ref x]) (mm_Qi D A (fun r M1 => r = 0)) 0 0 A := by
  refine mm_met (cc := cX5_flush) (maxL := 1) (ret := (some .int)) (by decide) rfl (Nat.le_of_ble_eq_true rfl) ?_
  intro p e s m args below meth c hx hb hr hts hown hlk hin hml hsz hK hM hS ls hl
  subst hsz
  have hl : lv_has ls 1 [(0, .ref x)] := hl
  refine lv_aload_n hx hb dX5_flush_0 rfl (lv_at hl 0 rfl) ?_
  refine mm_get (v := .int 1) (ci := 5) (C := RX5) (T := TX5) (N := 10) hx hb hts (in_X5_flush_X5) hown hK hM h_x rfl 9 (by decide) (hts (.fieldLink RX5 58 "GroupLog" "on" "Z") (List.mem_of_getElem? (i := 1) rfl)) rfl dX5_flush_1 ?_
  refine lv_if_eq (tgt := 14) hx hb dX5_flush_4 (by decide) (fun c_1 => ?_) (fun c_1 => ?_)
  · exact absurd c_1 (by decide)
  refine lv_aload_n hx hb dX5_flush_7 rfl (lv_at hl 0 rfl) ?_
  refine mm_calli (mm_runV (As := []) (rest := []) ⟨hx, hb, hml, hown, hts⟩ (c_X5_writeQueue (dr := dr) (tp := tp) hI h_x h_st h_sa h_qu h_lg) (cwV 0 hts gX5_flush_X5_writeQueue rfl rfl rfl (by decide +kernel) ⟨Nat.le_of_ble_eq_true rfl, Nat.le_of_ble_eq_true rfl⟩) hK hM h_x rfl rfl hl.1 rfl (Nat.le_of_ble_eq_true rfl) dX5_flush_8 ⟨Nat.le_of_ble_eq_true rfl, Nat.le_of_ble_eq_true rfl⟩) hS (fun _ h => h) (fun r2 M H locs hp hM hS hz _ => ?_)
  subst hp
  refine lv_goto (tgt := 16) hx hb dX5_flush_11 (by decide) ?_
  exact mm_iret hx hb hr hlk hM hS (rfl) dX5_flush_16

theorem in_X5_writeDraft_X5 : ∀ w ∈ u_ws RX5 TX5 10, w ∈ wsX5_writeDraft := fun w h => List.mem_cons_of_mem _ (List.mem_append_left _ (List.mem_append_left _ (List.mem_append_left _ (List.mem_append_right _ h))))
set_option maxHeartbeats 4000000 in
set_option maxRecDepth 100000 in
theorem c_X5_writeDraft1 {l : Launch} {D : va_G} {A : Nat → Prop} {cI cS cB cZ : ClassId} {M : Nat → Option va_E} {sz : Nat} {x st qu lg rd dr tp sa db : Nat} {fa : Nat → Option Nat} {g h : Nat → Nat} {fd : Nat → Int32} (w1 : fa 1 = some (g 1)) (hne : h 1 ≠ db) (h_x : M x = some (Sum.inr (5, [.ref st, .ref qu, .ref lg, .ref rd, .ref dr, .ref tp, .int 0, .int 10, .int 0, .int 1]) : va_E)) (h_st : M st = some (Sum.inr (4, [.ref sa, .int 0, .int (-1), .int 0]) : va_E)) (h_sa : M sa = some (Sum.inl (cS, 64, .inr (.inr (.inr (.inr (fa))))) : va_E)) (h_dr : M dr = some (Sum.inr (3, [.ref db, .int 0]) : va_E)) (h_db : M db = some (Sum.inl (cI, 64, .inl (fd)) : va_E)) (h_g1 : M (g 1) = some (Sum.inr (3, [.ref (h 1), .int 0]) : va_E)) (h_h1 : M (h 1) = some (Sum.inl (cI, 64, .inl (fun _ => 0)) : va_E)) : Met l yX5_writeDraft wsX5_writeDraft ({ frames := 4, cells := 0, slots := 0, locals := 88 }) (mm_Pc D A (mm_T cI cS cB cZ) M sz [.ref x, .int 1]) (mm_Qi D A (fun r M1 => r = 1 ∧ ∀ q, q ≠ st → q ≠ g 1 → q ≠ h 1 → M1 q = M q)) 0 0 A := by
  refine mm_met (cc := cX5_writeDraft) (maxL := 3) (ret := (some .boolean)) (by decide) rfl (Nat.le_of_ble_eq_true rfl) ?_
  intro p e s m args below meth c hx hb hr hts hown hlk hin hml hsz hK hM hS ls hl
  subst hsz
  have hl : lv_has ls 3 [(0, .ref x), (1, .int 1)] := hl
  refine lv_aload_n hx hb dX5_writeDraft_0 rfl (lv_at hl 0 rfl) ?_
  refine mm_get (v := .ref st) (ci := 5) (C := RX5) (T := TX5) (N := 10) hx hb hts (in_X5_writeDraft_X5) hown hK hM h_x rfl 0 (by decide) (hts (.fieldLink RX5 12 "GroupLog" "store" "LGroupLog$Store;") (List.mem_of_getElem? (i := 1) rfl)) rfl dX5_writeDraft_1 ?_
  refine lv_iload_n hx hb dX5_writeDraft_4 rfl (lv_at hl 1 rfl) ?_
  refine lv_aload_n hx hb dX5_writeDraft_5 rfl (lv_at hl 0 rfl) ?_
  refine mm_get (v := .ref dr) (ci := 5) (C := RX5) (T := TX5) (N := 10) hx hb hts (in_X5_writeDraft_X5) hown hK hM h_x rfl 4 (by decide) (hts (.fieldLink RX5 40 "GroupLog" "draft" "LGroupLog$Sector;") (List.mem_of_getElem? (i := 2) rfl)) rfl dX5_writeDraft_6 ?_
  refine mm_calli (mm_runV (As := [.int 1, .ref dr]) (rest := []) ⟨hx, hb, hml, hown, hts⟩ (c_X4_write w1 hne h_st h_sa h_g1 h_h1 h_dr h_db) (cwV 2 hts gX5_writeDraft_X4_write rfl rfl rfl (by decide +kernel) ⟨Nat.le_of_ble_eq_true rfl, Nat.le_of_ble_eq_true rfl⟩) hK hM h_st rfl rfl hl.1 rfl (Nat.le_of_ble_eq_true rfl) dX5_writeDraft_9 ⟨Nat.le_of_ble_eq_true rfl, Nat.le_of_ble_eq_true rfl⟩) hS (fun _ h => h) (fun r1 M H locs hp hM hS hz _ => ?_)
  obtain ⟨rfl, ho⟩ := hp
  refine lv_istore_n (lv' := [(2, .int 1), (0, .ref x), (1, .int 1)]) hx hb dX5_writeDraft_12 rfl hl (by decide) rfl (fun ls hl => ?_)
  refine lv_iload_n hx hb dX5_writeDraft_13 rfl (lv_at hl 0 rfl) ?_
  refine lv_if_ne (tgt := 21) hx hb dX5_writeDraft_14 (by decide) (fun c_2 => ?_) (fun c_2 => ?_)
  rotate_left
  · exact absurd c_2 (by decide)
  refine lv_iload_n hx hb dX5_writeDraft_21 rfl (lv_at hl 0 rfl) ?_
  exact mm_zret hx hb hr hlk (rfl) hM hS (⟨rfl, ho⟩) dX5_writeDraft_22

theorem in_X5_writeHead_X5 : ∀ w ∈ u_ws RX5 TX5 10, w ∈ wsX5_writeHead := fun w h => List.mem_cons_of_mem _ (List.mem_append_left _ (List.mem_append_left _ (List.mem_append_left _ (List.mem_append_right _ h))))
set_option maxHeartbeats 4000000 in
set_option maxRecDepth 100000 in
/-- GroupLog.writeHead of a new object -/
theorem c_X5_writeHead {l : Launch} {D : va_G} {A : Nat → Prop} {cI cS cB cZ : ClassId} {M : Nat → Option va_E} {sz : Nat} {x st qu lg rd dr tp sa db : Nat} {fa : Nat → Option Nat} {g h : Nat → Nat} (hI : st_inv cI M fa g h gl_F 64) (hne : h 1 ≠ db) (h_x : M x = some (Sum.inr (5, [.ref st, .ref qu, .ref lg, .ref rd, .ref dr, .ref tp, .int 0, .int 10, .int 0, .int 1]) : va_E)) (h_st : M st = some (Sum.inr (4, [.ref sa, .int 0, .int (-1), .int 0]) : va_E)) (h_sa : M sa = some (Sum.inl (cS, 64, .inr (.inr (.inr (.inr (fa))))) : va_E)) (h_dr : M dr = some (Sum.inr (3, [.ref db, .int 0]) : va_E)) (h_db : M db = some (Sum.inl (cI, 64, .inl (fun _ => 0)) : va_E)) : Met l yX5_writeHead wsX5_writeHead ({ frames := 5, cells := 0, slots := 0, locals := 110 }) (mm_Pc D A (mm_T cI cS cB cZ) M sz [.ref x, .int 1, .int 1, .int 2]) (mm_Qi D A (fun r M1 => r = 1 ∧ ∀ q, q ≠ st → q ≠ g 1 → q ≠ h 1 → q ≠ db → M1 q = M q)) 0 0 A := by
  refine mm_met (cc := cX5_writeHead) (maxL := 6) (ret := (some .boolean)) (by decide) rfl (Nat.le_of_ble_eq_true rfl) ?_
  intro p e s m args below meth c hx hb hr hts hown hlk hin hml hsz hK hM hS ls hl
  subst hsz
  have hl : lv_has ls 6 [(0, .ref x), (1, .int 1), (2, .int 1), (3, .int 2)] := hl
  have h_g0 := (hI 0 (by decide)).2.1
  have h_h0 : _ = some (Sum.inl (cI, 64, .inl (hd_f 1 1 1 2)) : va_E) := (hI 0 (by decide)).2.2.1
  have h_g1 := (hI 1 (by decide)).2.1
  have h_h1 : _ = some (Sum.inl (cI, 64, .inl (fun _ => 0)) : va_E) := (hI 1 (by decide)).2.2.1
  refine lv_aload_n hx hb dX5_writeHead_0 rfl (lv_at hl 0 rfl) ?_
  refine mm_get (v := .ref st) (ci := 5) (C := RX5) (T := TX5) (N := 10) hx hb hts (in_X5_writeHead_X5) hown hK hM h_x rfl 0 (by decide) (hts (.fieldLink RX5 12 "GroupLog" "store" "LGroupLog$Store;") (List.mem_of_getElem? (i := 1) rfl)) rfl dX5_writeHead_1 ?_
  refine mm_calli (mm_runV (As := []) (rest := []) ⟨hx, hb, hml, hown, hts⟩ (c_X4_headVersion (hI 0 (by decide)).1 (hI 1 (by decide)).1 h_st h_sa h_g0 h_h0 h_g1 h_h1) (cwV 0 hts gX5_writeHead_X4_headVersion rfl rfl rfl (by decide +kernel) ⟨Nat.le_of_ble_eq_true rfl, Nat.le_of_ble_eq_true rfl⟩) hK hM h_st rfl rfl hl.1 rfl (Nat.le_of_ble_eq_true rfl) dX5_writeHead_4 ⟨Nat.le_of_ble_eq_true rfl, Nat.le_of_ble_eq_true rfl⟩) hS (fun _ h => h) (fun r1 M H locs hp hM hS hz _ => ?_)
  obtain ⟨rfl, hme⟩ := hp
  rw [hme] at hM
  refine lv_iconst (v := 1) hx hb dX5_writeHead_7 (by decide) ?_
  refine lv_iadd hx hb dX5_writeHead_8 ?_
  refine lv_topi (fun z2 ez2 => ?_)
  have ez2 : z2 = 2 := ez2.trans (by decide)
  subst ez2
  refine lv_istore (lv' := [(4, .int 2), (0, .ref x), (1, .int 1), (2, .int 1), (3, .int 2)]) hx hb dX5_writeHead_9 hl (by decide) rfl (fun ls hl => ?_)
  refine lv_aload_n hx hb dX5_writeHead_11 rfl (lv_at hl 1 rfl) ?_
  refine mm_get (v := .ref st) (ci := 5) (C := RX5) (T := TX5) (N := 10) hx hb hts (in_X5_writeHead_X5) hown hK hM h_x rfl 0 (by decide) (hts (.fieldLink RX5 12 "GroupLog" "store" "LGroupLog$Store;") (List.mem_of_getElem? (i := 1) rfl)) rfl dX5_writeHead_12 ?_
  refine mm_calli (mm_runV (As := []) (rest := []) ⟨hx, hb, hml, hown, hts⟩ (c_X4_latestHead (hI 0 (by decide)).1 (hI 1 (by decide)).1 h_st h_sa h_g0 h_h0 h_g1 h_h1) (cwV 0 hts gX5_writeHead_X4_latestHead rfl rfl rfl (by decide +kernel) ⟨Nat.le_of_ble_eq_true rfl, Nat.le_of_ble_eq_true rfl⟩) hK hM h_st rfl rfl hl.1 rfl (Nat.le_of_ble_eq_true rfl) dX5_writeHead_15 ⟨Nat.le_of_ble_eq_true rfl, Nat.le_of_ble_eq_true rfl⟩) hS (fun _ h => h) (fun r3 M H locs hp hM hS hz _ => ?_)
  obtain ⟨rfl, hme⟩ := hp
  rw [hme] at hM
  refine lv_if_ne (tgt := 25) hx hb dX5_writeHead_18 (by decide) (fun c_4 => ?_) (fun c_4 => ?_)
  · exact absurd c_4 (by decide)
  refine lv_iconst (v := 1) hx hb dX5_writeHead_21 (by decide) ?_
  refine lv_goto (tgt := 26) hx hb dX5_writeHead_22 (by decide) ?_
  refine lv_istore (lv' := [(5, .int 1), (4, .int 2), (0, .ref x), (1, .int 1), (2, .int 1), (3, .int 2)]) hx hb dX5_writeHead_26 hl (by decide) rfl (fun ls hl => ?_)
  refine lv_aload_n hx hb dX5_writeHead_28 rfl (lv_at hl 2 rfl) ?_
  refine mm_get (v := .ref dr) (ci := 5) (C := RX5) (T := TX5) (N := 10) hx hb hts (in_X5_writeHead_X5) hown hK hM h_x rfl 4 (by decide) (hts (.fieldLink RX5 40 "GroupLog" "draft" "LGroupLog$Sector;") (List.mem_of_getElem? (i := 2) rfl)) rfl dX5_writeHead_29 ?_
  refine lv_iload hx hb dX5_writeHead_32 (lv_at hl 1 rfl) ?_
  refine lv_iload_n hx hb dX5_writeHead_34 rfl (lv_at hl 3 rfl) ?_
  refine lv_iload_n hx hb dX5_writeHead_35 rfl (lv_at hl 4 rfl) ?_
  refine lv_iload_n hx hb dX5_writeHead_36 rfl (lv_at hl 5 rfl) ?_
  have h_dbO := h_db
  refine mm_callv (mm_runV (As := [.int 2, .int 1, .int 1, .int 2]) (rest := []) ⟨hx, hb, hml, hown, hts⟩ (c_X3_makeHead h_dr h_db) (cwV 4 hts gX5_writeHead_X3_makeHead rfl rfl rfl (by decide +kernel) ⟨Nat.le_of_ble_eq_true rfl, Nat.le_of_ble_eq_true rfl⟩) hK hM h_dr rfl rfl hl.1 rfl (Nat.le_of_ble_eq_true rfl) dX5_writeHead_37 ⟨Nat.le_of_ble_eq_true rfl, Nat.le_of_ble_eq_true rfl⟩) hS (fun _ h => h) (fun M H locs hp hM hS hz _ => ?_)
  obtain ⟨ha, ho⟩ := hp
  have h_x := (ho x (mm_ne h_x h_db mm_oa)).trans h_x
  have h_st := (ho st (mm_ne h_st h_db mm_oa)).trans h_st
  have h_sa := (ho sa (mm_ne h_sa h_db mm_qi)).trans h_sa
  have h_dr := (ho dr (mm_ne h_dr h_db mm_oa)).trans h_dr
  have h_db : _ = some (Sum.inl (cI, 64, .inl (hd_f 2 1 1 2)) : va_E) := ha
  have hg : ∀ j, j < 64 → g j ≠ db := fun j hj => mm_ne (hI j hj).2.1 h_dbO mm_oa
  have w1 : fa 1 = some (g 1) := (hI 1 (by decide)).1
  have ho0 := ho
  have h_g1 := (ho _ (hg 1 (by decide))).trans h_g1
  have h_h1 := (ho _ hne).trans h_h1
  refine lv_aload_n hx hb dX5_writeHead_40 rfl (lv_at hl 2 rfl) ?_
  refine lv_iload hx hb dX5_writeHead_41 (lv_at hl 0 rfl) ?_
  refine mm_calli (mm_runV (As := [.int 1]) (rest := []) ⟨hx, hb, hml, hown, hts⟩ (c_X5_writeDraft1 (tp := tp) (rd := rd) w1 hne h_x h_st h_sa h_dr h_db h_g1 h_h1) (cwV 1 hts gX5_writeHead_X5_writeDraft rfl rfl rfl (by decide +kernel) ⟨Nat.le_of_ble_eq_true rfl, Nat.le_of_ble_eq_true rfl⟩) hK hM h_x rfl rfl hl.1 rfl (Nat.le_of_ble_eq_true rfl) dX5_writeHead_43 ⟨Nat.le_of_ble_eq_true rfl, Nat.le_of_ble_eq_true rfl⟩) hS (fun _ h => h) (fun r5 M H locs hp hM hS hz _ => ?_)
  obtain ⟨rfl, ho⟩ := hp
  exact mm_zret hx hb hr hlk (rfl) hM hS (⟨rfl, fun q q1 q2 q3 q4 => by rw [ho q q1 q2 q3, ho0 q q4]⟩) dX5_writeHead_46

theorem in_X5_checkpoint_X0 : ∀ w ∈ u_ws RX0 TX0 8, w ∈ wsX5_checkpoint := fun w h => List.mem_cons_of_mem _ (List.mem_append_left _ (List.mem_append_left _ (List.mem_append_left _ (List.mem_append_right _ h))))
theorem in_X5_checkpoint_X5 : ∀ w ∈ u_ws RX5 TX5 10, w ∈ wsX5_checkpoint := fun w h => List.mem_cons_of_mem _ (List.mem_append_left _ (List.mem_append_left _ (List.mem_append_left _ (List.mem_append_left _ (List.mem_append_right _ h)))))
set_option maxHeartbeats 4000000 in
set_option maxRecDepth 100000 in
/-- GroupLog.checkpoint of a new object -/
theorem c_X5_checkpoint {l : Launch} {D : va_G} {A : Nat → Prop} {cI cS cB cZ : ClassId} {M : Nat → Option va_E} {sz : Nat} {x st qu lg rd dr tp sa lb db : Nat} {fa : Nat → Option Nat} {g h : Nat → Nat} (hI : st_inv cI M fa g h gl_F 64) (hne : h 1 ≠ db) {k : Int32} (h_x : M x = some (Sum.inr (5, [.ref st, .ref qu, .ref lg, .ref rd, .ref dr, .ref tp, .int 0, .int 10, .int 0, .int 1]) : va_E)) (h_st : M st = some (Sum.inr (4, [.ref sa, .int 0, .int (-1), .int 0]) : va_E)) (h_sa : M sa = some (Sum.inl (cS, 64, .inr (.inr (.inr (.inr (fa))))) : va_E)) (h_lg : M lg = some (Sum.inr (0, [.ref lb, .int 1, .int 1, .int 0, .int 2, .int 0, .int 2, .int 1]) : va_E)) (h_dr : M dr = some (Sum.inr (3, [.ref db, .int 0]) : va_E)) (h_db : M db = some (Sum.inl (cI, 64, .inl (fun _ => 0)) : va_E)) : Met l yX5_checkpoint wsX5_checkpoint ({ frames := 6, cells := 0, slots := 0, locals := 135 }) (mm_Pc D A (mm_T cI cS cB cZ) M sz [.ref x, .int k]) (mm_Qi D A (fun r M1 => r = cp_f k)) 0 0 A := by
  refine mm_met (cc := cX5_checkpoint) (maxL := 5) (ret := (some .int)) (by decide) rfl (Nat.le_of_ble_eq_true rfl) ?_
  intro p e s m args below meth c hx hb hr hts hown hlk hin hml hsz hK hM hS ls hl
  subst hsz
  have hl : lv_has ls 5 [(0, .ref x), (1, .int k)] := hl
  refine lv_aload_n hx hb dX5_checkpoint_0 rfl (lv_at hl 0 rfl) ?_
  refine mm_get (v := .int 1) (ci := 5) (C := RX5) (T := TX5) (N := 10) hx hb hts (in_X5_checkpoint_X5) hown hK hM h_x rfl 9 (by decide) (hts (.fieldLink RX5 58 "GroupLog" "on" "Z") (List.mem_of_getElem? (i := 1) rfl)) rfl dX5_checkpoint_1 ?_
  refine lv_if_ne (tgt := 10) hx hb dX5_checkpoint_4 (by decide) (fun c_1 => ?_) (fun c_1 => ?_)
  rotate_left
  · exact absurd c_1 (by decide)
  refine lv_iload_n hx hb dX5_checkpoint_10 rfl (lv_at hl 1 rfl) ?_
  refine lv_aload_n hx hb dX5_checkpoint_11 rfl (lv_at hl 0 rfl) ?_
  refine mm_get (v := .ref lg) (ci := 5) (C := RX5) (T := TX5) (N := 10) hx hb hts (in_X5_checkpoint_X5) hown hK hM h_x rfl 2 (by decide) (hts (.fieldLink RX5 26 "GroupLog" "log" "LGroupLog$Log;") (List.mem_of_getElem? (i := 2) rfl)) rfl dX5_checkpoint_12 ?_
  refine mm_getN (v := .int 1) (ci := 0) (C := RX0) (T := TX0) (N := 8) hx hb hts (in_X5_checkpoint_X0) hown hK hM h_lg rfl 2 (by decide) (hK.2.1 _ (List.mem_of_getElem? (i := 1) rfl)) rfl dX5_checkpoint_15 ?_
  refine lv_icmp_lt (tgt := 34) hx hb dX5_checkpoint_18 (by decide) (fun c_2 => ?_) (fun c_2 => ?_)
  · skip
    refine lv_iconst (v := (-1)) hx hb dX5_checkpoint_34 (by decide) ?_
    exact mm_iret hx hb hr hlk hM hS (cp_lo c_2) dX5_checkpoint_35
  · skip
    refine lv_iload_n hx hb dX5_checkpoint_21 rfl (lv_at hl 1 rfl) ?_
    refine lv_aload_n hx hb dX5_checkpoint_22 rfl (lv_at hl 0 rfl) ?_
    refine mm_get (v := .ref lg) (ci := 5) (C := RX5) (T := TX5) (N := 10) hx hb hts (in_X5_checkpoint_X5) hown hK hM h_x rfl 2 (by decide) (hts (.fieldLink RX5 26 "GroupLog" "log" "LGroupLog$Log;") (List.mem_of_getElem? (i := 2) rfl)) rfl dX5_checkpoint_23 ?_
    refine mm_getN (v := .int 0) (ci := 0) (C := RX0) (T := TX0) (N := 8) hx hb hts (in_X5_checkpoint_X0) hown hK hM h_lg rfl 3 (by decide) (hK.2.1 _ (List.mem_of_getElem? (i := 10) rfl)) rfl dX5_checkpoint_26 ?_
    refine lv_iconst (v := 1) hx hb dX5_checkpoint_29 (by decide) ?_
    refine lv_iadd hx hb dX5_checkpoint_30 ?_
    refine lv_topi (fun z3 ez3 => ?_)
    have ez3 : z3 = 1 := ez3.trans (by decide)
    subst ez3
    refine lv_icmp_le (tgt := 36) hx hb dX5_checkpoint_31 (by decide) (fun c_4 => ?_) (fun c_4 => ?_)
    · skip
      obtain rfl := cp_eq c_2 c_4
      refine lv_aload_n hx hb dX5_checkpoint_36 rfl (lv_at hl 0 rfl) ?_
      refine mm_get (v := .ref lg) (ci := 5) (C := RX5) (T := TX5) (N := 10) hx hb hts (in_X5_checkpoint_X5) hown hK hM h_x rfl 2 (by decide) (hts (.fieldLink RX5 26 "GroupLog" "log" "LGroupLog$Log;") (List.mem_of_getElem? (i := 2) rfl)) rfl dX5_checkpoint_37 ?_
      refine lv_iload_n hx hb dX5_checkpoint_40 rfl (lv_at hl 1 rfl) ?_
      refine mm_calli (mm_runV (As := [.int 1]) (rest := []) ⟨hx, hb, hml, hown, hts⟩ (c_X0_placeOf h_lg) (cwV 1 hts gX5_checkpoint_X0_placeOf rfl rfl rfl (by decide +kernel) ⟨Nat.le_of_ble_eq_true rfl, Nat.le_of_ble_eq_true rfl⟩) hK hM h_lg rfl rfl hl.1 rfl (Nat.le_of_ble_eq_true rfl) dX5_checkpoint_41 ⟨Nat.le_of_ble_eq_true rfl, Nat.le_of_ble_eq_true rfl⟩) hS (fun _ h => h) (fun r5 M H locs hp hM hS hz _ => ?_)
      obtain ⟨rfl, hme⟩ := hp
      rw [hme] at hM
      refine lv_istore_n (lv' := [(2, .int 2), (0, .ref x), (1, .int 1)]) hx hb dX5_checkpoint_44 rfl hl (by decide) rfl (fun ls hl => ?_)
      refine lv_aload_n hx hb dX5_checkpoint_45 rfl (lv_at hl 1 rfl) ?_
      refine mm_get (v := .ref lg) (ci := 5) (C := RX5) (T := TX5) (N := 10) hx hb hts (in_X5_checkpoint_X5) hown hK hM h_x rfl 2 (by decide) (hts (.fieldLink RX5 26 "GroupLog" "log" "LGroupLog$Log;") (List.mem_of_getElem? (i := 2) rfl)) rfl dX5_checkpoint_46 ?_
      refine lv_iload_n hx hb dX5_checkpoint_49 rfl (lv_at hl 2 rfl) ?_
      refine mm_calli (mm_runV (As := [.int 1]) (rest := []) ⟨hx, hb, hml, hown, hts⟩ (c_X0_firstBeginningWith h_lg) (cwV 1 hts gX5_checkpoint_X0_firstBeginningWith rfl rfl rfl (by decide +kernel) ⟨Nat.le_of_ble_eq_true rfl, Nat.le_of_ble_eq_true rfl⟩) hK hM h_lg rfl rfl hl.1 rfl (Nat.le_of_ble_eq_true rfl) dX5_checkpoint_50 ⟨Nat.le_of_ble_eq_true rfl, Nat.le_of_ble_eq_true rfl⟩) hS (fun _ h => h) (fun r6 M H locs hp hM hS hz _ => ?_)
      obtain ⟨rfl, hme⟩ := hp
      rw [hme] at hM
      refine lv_istore_n (lv' := [(3, .int 1), (2, .int 2), (0, .ref x), (1, .int 1)]) hx hb dX5_checkpoint_53 rfl hl (by decide) rfl (fun ls hl => ?_)
      refine lv_iload_n hx hb dX5_checkpoint_54 rfl (lv_at hl 3 rfl) ?_
      refine lv_aload_n hx hb dX5_checkpoint_55 rfl (lv_at hl 2 rfl) ?_
      refine mm_get (v := .ref lg) (ci := 5) (C := RX5) (T := TX5) (N := 10) hx hb hts (in_X5_checkpoint_X5) hown hK hM h_x rfl 2 (by decide) (hts (.fieldLink RX5 26 "GroupLog" "log" "LGroupLog$Log;") (List.mem_of_getElem? (i := 2) rfl)) rfl dX5_checkpoint_56 ?_
      refine mm_getN (v := .int 0) (ci := 0) (C := RX0) (T := TX0) (N := 8) hx hb hts (in_X5_checkpoint_X0) hown hK hM h_lg rfl 3 (by decide) (hK.2.1 _ (List.mem_of_getElem? (i := 10) rfl)) rfl dX5_checkpoint_59 ?_
      refine lv_icmp_le (tgt := 75) hx hb dX5_checkpoint_62 (by decide) (fun c_7 => ?_) (fun c_7 => ?_)
      · exact absurd c_7 (by decide)
      refine lv_aload_n hx hb dX5_checkpoint_65 rfl (lv_at hl 2 rfl) ?_
      refine mm_get (v := .ref lg) (ci := 5) (C := RX5) (T := TX5) (N := 10) hx hb hts (in_X5_checkpoint_X5) hown hK hM h_x rfl 2 (by decide) (hts (.fieldLink RX5 26 "GroupLog" "log" "LGroupLog$Log;") (List.mem_of_getElem? (i := 2) rfl)) rfl dX5_checkpoint_66 ?_
      refine mm_getN (v := .int 1) (ci := 0) (C := RX0) (T := TX0) (N := 8) hx hb hts (in_X5_checkpoint_X0) hown hK hM h_lg rfl 7 (by decide) (hK.2.1 _ (List.mem_of_getElem? (i := 2) rfl)) rfl dX5_checkpoint_69 ?_
      refine lv_goto (tgt := 86) hx hb dX5_checkpoint_72 (by decide) ?_
      refine lv_istore (lv' := [(4, .int 1), (3, .int 1), (2, .int 2), (0, .ref x), (1, .int 1)]) hx hb dX5_checkpoint_86 hl (by decide) rfl (fun ls hl => ?_)
      refine lv_aload_n hx hb dX5_checkpoint_88 rfl (lv_at hl 3 rfl) ?_
      refine lv_iload hx hb dX5_checkpoint_89 (lv_at hl 0 rfl) ?_
      refine lv_iload_n hx hb dX5_checkpoint_91 rfl (lv_at hl 1 rfl) ?_
      refine lv_iload_n hx hb dX5_checkpoint_92 rfl (lv_at hl 2 rfl) ?_
      have h_g1 := (hI 1 (by decide)).2.1
      have h_h1 := (hI 1 (by decide)).2.2.1
      refine mm_calli (mm_runV (As := [.int 1, .int 1, .int 2]) (rest := []) ⟨hx, hb, hml, hown, hts⟩ (c_X5_writeHead (tp := tp) (rd := rd) hI hne h_x h_st h_sa h_dr h_db) (cwV 3 hts gX5_checkpoint_X5_writeHead rfl rfl rfl (by decide +kernel) ⟨Nat.le_of_ble_eq_true rfl, Nat.le_of_ble_eq_true rfl⟩) hK hM h_x rfl rfl hl.1 rfl (Nat.le_of_ble_eq_true rfl) dX5_checkpoint_93 ⟨Nat.le_of_ble_eq_true rfl, Nat.le_of_ble_eq_true rfl⟩) hS (fun _ h => h) (fun r8 M H locs hp hM hS hz _ => ?_)
      obtain ⟨rfl, ho⟩ := hp
      have h_x := (ho x (mm_ne h_x h_st (mm_oo (by decide))) (mm_ne h_x h_g1 (mm_oo (by decide))) (mm_ne h_x h_h1 mm_oa) (mm_ne h_x h_db mm_oa)).trans h_x
      have h_lg := (ho lg (mm_ne h_lg h_st (mm_oo (by decide))) (mm_ne h_lg h_g1 (mm_oo (by decide))) (mm_ne h_lg h_h1 mm_oa) (mm_ne h_lg h_db mm_oa)).trans h_lg
      refine lv_if_ne (tgt := 102) hx hb dX5_checkpoint_96 (by decide) (fun c_9 => ?_) (fun c_9 => ?_)
      rotate_left
      · exact absurd c_9 (by decide)
      refine lv_aload_n hx hb dX5_checkpoint_102 rfl (lv_at hl 3 rfl) ?_
      refine mm_get (v := .ref lg) (ci := 5) (C := RX5) (T := TX5) (N := 10) hx hb hts (in_X5_checkpoint_X5) hown hK hM h_x rfl 2 (by decide) (hts (.fieldLink RX5 26 "GroupLog" "log" "LGroupLog$Log;") (List.mem_of_getElem? (i := 2) rfl)) rfl dX5_checkpoint_103 ?_
      refine lv_iload_n hx hb dX5_checkpoint_106 rfl (lv_at hl 4 rfl) ?_
      refine lv_iload_n hx hb dX5_checkpoint_107 rfl (lv_at hl 1 rfl) ?_
      refine lv_iload_n hx hb dX5_checkpoint_108 rfl (lv_at hl 2 rfl) ?_
      refine mm_calli (mm_runV (As := [.int 1, .int 1, .int 2]) (rest := []) ⟨hx, hb, hml, hown, hts⟩ (c_X0_giveUpBefore h_lg) (cwV 3 hts gX5_checkpoint_X0_giveUpBefore rfl rfl rfl (by decide +kernel) ⟨Nat.le_of_ble_eq_true rfl, Nat.le_of_ble_eq_true rfl⟩) hK hM h_lg rfl rfl hl.1 rfl (Nat.le_of_ble_eq_true rfl) dX5_checkpoint_109 ⟨Nat.le_of_ble_eq_true rfl, Nat.le_of_ble_eq_true rfl⟩) hS (fun _ h => h) (fun r10 M H locs hp hM hS hz _ => ?_)
      subst hp
      exact mm_iret hx hb hr hlk hM hS (rfl) dX5_checkpoint_112
    · skip
      refine lv_iconst (v := (-1)) hx hb dX5_checkpoint_34 (by decide) ?_
      exact mm_iret hx hb hr hlk hM hS (cp_hi c_4) dX5_checkpoint_35

theorem in_X5_disk_X5 : ∀ w ∈ u_ws RX5 TX5 10, w ∈ wsX5_disk := fun w h => List.mem_cons_of_mem _ (List.mem_append_left _ (List.mem_append_left _ (List.mem_append_right _ h)))
set_option maxHeartbeats 4000000 in
set_option maxRecDepth 100000 in
/-- GroupLog.disk of a new object -/
theorem c_X5_disk {l : Launch} {D : va_G} {A : Nat → Prop} {cI cS cB cZ : ClassId} {M : Nat → Option va_E} {sz : Nat} {x st qu lg rd dr tp sa : Nat} {fa : Nat → Option Nat} {g h : Nat → Nat} (hI : st_inv cI M fa g h gl_F 64) {k i : Int32} (h_x : M x = some (Sum.inr (5, [.ref st, .ref qu, .ref lg, .ref rd, .ref dr, .ref tp, .int 0, .int 10, .int 0, .int 1]) : va_E)) (h_st : M st = some (Sum.inr (4, [.ref sa, .int 0, .int (-1), .int 0]) : va_E)) (h_sa : M sa = some (Sum.inl (cS, 64, .inr (.inr (.inr (.inr (fa))))) : va_E)) : Met l yX5_disk wsX5_disk ({ frames := 1, cells := 0, slots := 0, locals := 21 }) (mm_Pc D A (mm_T cI cS cB cZ) M sz [.ref x, .int k, .int i]) (mm_Qi D A (fun r M1 => r = dk_f k i)) 0 0 A := by
  refine mm_met (cc := cX5_disk) (maxL := 3) (ret := (some .int)) (by decide) rfl (Nat.le_of_ble_eq_true rfl) ?_
  intro p e s m args below meth c hx hb hr hts hown hlk hin hml hsz hK hM hS ls hl
  subst hsz
  have hl : lv_has ls 3 [(0, .ref x), (1, .int k), (2, .int i)] := hl
  refine lv_iload_n hx hb dX5_disk_0 rfl (lv_at hl 1 rfl) ?_
  refine lv_iload_n hx hb dX5_disk_1 rfl (lv_at hl 2 rfl) ?_
  refine mm_calli (mm_runS (As := [.int k, .int i]) (rest := []) ⟨hx, hb, hml, hown, hts⟩ (c_X5_isByte ) (va_cwS 2 hts gX5_disk_X5_isByte rfl rfl rfl (by decide +kernel) ⟨Nat.le_of_ble_eq_true rfl, Nat.le_of_ble_eq_true rfl⟩) hK hM rfl hl.1 rfl (Nat.le_of_ble_eq_true rfl) dX5_disk_2 ⟨Nat.le_of_ble_eq_true rfl, Nat.le_of_ble_eq_true rfl⟩) hS (fun _ h => h) (fun r1 M H locs hp hM hS hz _ => ?_)
  obtain ⟨rfl, hme⟩ := hp
  rw [hme] at hM
  refine lv_if_eq (tgt := 23) hx hb dX5_disk_5 (by decide) (fun c_2 => ?_) (fun c_2 => ?_)
  · skip
    refine lv_iconst (v := (-1)) hx hb dX5_disk_23 (by decide) ?_
    exact mm_iret hx hb hr hlk hM hS (dk_no c_2) dX5_disk_24
  · skip
    obtain ⟨j, n, hj, hn, e1, e2⟩ := ib_1 c_2
    refine lv_aload_n hx hb dX5_disk_8 rfl (lv_at hl 0 rfl) ?_
    refine mm_get (v := .ref st) (ci := 5) (C := RX5) (T := TX5) (N := 10) hx hb hts (in_X5_disk_X5) hown hK hM h_x rfl 0 (by decide) (hts (.fieldLink RX5 12 "GroupLog" "store" "LGroupLog$Store;") (List.mem_of_getElem? (i := 1) rfl)) rfl dX5_disk_9 ?_
    refine lv_iload_n hx hb dX5_disk_12 rfl (lv_at hl 1 rfl) ?_
    refine mm_callr (mm_runV (As := [.int k]) (rest := []) ⟨hx, hb, hml, hown, hts⟩ (c_X4_sector j e1 hj (hI j hj).1 h_st h_sa) (cwV 1 hts gX5_disk_X4_sector rfl rfl rfl (by decide +kernel) ⟨Nat.le_of_ble_eq_true rfl, Nat.le_of_ble_eq_true rfl⟩) hK hM h_st rfl rfl hl.1 rfl (Nat.le_of_ble_eq_true rfl) dX5_disk_13 ⟨Nat.le_of_ble_eq_true rfl, Nat.le_of_ble_eq_true rfl⟩) hS (fun _ h => h) (fun r3 M H locs hp hM hS hz _ => ?_)
    obtain ⟨rfl, hme⟩ := hp
    rw [hme] at hM
    have h_gj := (hI j hj).2.1
    have h_hj := (hI j hj).2.2.1
    refine lv_iload_n hx hb dX5_disk_16 rfl (lv_at hl 2 rfl) ?_
    refine mm_calli (mm_runV (As := [.int i]) (rest := []) ⟨hx, hb, hml, hown, hts⟩ (c_X3_get n e2 hn h_gj h_hj) (cwV 1 hts gX5_disk_X3_get rfl rfl rfl (by decide +kernel) ⟨Nat.le_of_ble_eq_true rfl, Nat.le_of_ble_eq_true rfl⟩) hK hM h_gj rfl rfl hl.1 rfl (Nat.le_of_ble_eq_true rfl) dX5_disk_17 ⟨Nat.le_of_ble_eq_true rfl, Nat.le_of_ble_eq_true rfl⟩) hS (fun _ h => h) (fun r4 M H locs hp hM hS hz _ => ?_)
    obtain ⟨rfl, hme⟩ := hp
    rw [hme] at hM
    refine lv_goto (tgt := 24) hx hb dX5_disk_20 (by decide) ?_
    exact mm_iret hx hb hr hlk hM hS (dk_yes c_2 hj hn e1 e2) dX5_disk_24

theorem in_X5_torn_X3 : ∀ w ∈ u_ws RX3 TX3 2, w ∈ wsX5_torn := fun w h => List.mem_cons_of_mem _ (List.mem_append_left _ (List.mem_append_right _ h))
theorem in_X5_torn_X5 : ∀ w ∈ u_ws RX5 TX5 10, w ∈ wsX5_torn := fun w h => List.mem_cons_of_mem _ (List.mem_append_left _ (List.mem_append_left _ (List.mem_append_right _ h)))
set_option maxHeartbeats 4000000 in
set_option maxRecDepth 100000 in
/-- GroupLog.torn of a new object -/
theorem c_X5_torn {l : Launch} {D : va_G} {A : Nat → Prop} {cI cS cB cZ : ClassId} {M : Nat → Option va_E} {sz : Nat} {x st qu lg rd dr tp sa : Nat} {fa : Nat → Option Nat} {g h : Nat → Nat} (hI : st_inv cI M fa g h gl_F 64) {k : Int32} (h_x : M x = some (Sum.inr (5, [.ref st, .ref qu, .ref lg, .ref rd, .ref dr, .ref tp, .int 0, .int 10, .int 0, .int 1]) : va_E)) (h_st : M st = some (Sum.inr (4, [.ref sa, .int 0, .int (-1), .int 0]) : va_E)) (h_sa : M sa = some (Sum.inl (cS, 64, .inr (.inr (.inr (.inr (fa))))) : va_E)) : Met l yX5_torn wsX5_torn ({ frames := 1, cells := 0, slots := 0, locals := 21 }) (mm_Pc D A (mm_T cI cS cB cZ) M sz [.ref x, .int k]) (mm_Qi D A (fun r M1 => r = 0)) 0 0 A := by
  refine mm_met (cc := cX5_torn) (maxL := 2) (ret := (some .boolean)) (by decide) rfl (Nat.le_of_ble_eq_true rfl) ?_
  intro p e s m args below meth c hx hb hr hts hown hlk hin hml hsz hK hM hS ls hl
  subst hsz
  have hl : lv_has ls 2 [(0, .ref x), (1, .int k)] := hl
  refine lv_iload_n hx hb dX5_torn_0 rfl (lv_at hl 1 rfl) ?_
  refine lv_iconst (v := 0) hx hb dX5_torn_1 (by decide) ?_
  refine mm_calli (mm_runS (As := [.int k, .int 0]) (rest := []) ⟨hx, hb, hml, hown, hts⟩ (c_X5_isByte ) (va_cwS 2 hts gX5_torn_X5_isByte rfl rfl rfl (by decide +kernel) ⟨Nat.le_of_ble_eq_true rfl, Nat.le_of_ble_eq_true rfl⟩) hK hM rfl hl.1 rfl (Nat.le_of_ble_eq_true rfl) dX5_torn_2 ⟨Nat.le_of_ble_eq_true rfl, Nat.le_of_ble_eq_true rfl⟩) hS (fun _ h => h) (fun r1 M H locs hp hM hS hz _ => ?_)
  obtain ⟨rfl, hme⟩ := hp
  rw [hme] at hM
  refine lv_if_eq (tgt := 26) hx hb dX5_torn_5 (by decide) (fun c_2 => ?_) (fun c_2 => ?_)
  · skip
    refine lv_iconst (v := 0) hx hb dX5_torn_26 (by decide) ?_
    exact mm_zret hx hb hr hlk (rfl) hM hS (rfl) dX5_torn_27
  · skip
    obtain ⟨j, n, hj, hn, e1, e2⟩ := ib_1 c_2
    refine lv_aload_n hx hb dX5_torn_8 rfl (lv_at hl 0 rfl) ?_
    refine mm_get (v := .ref st) (ci := 5) (C := RX5) (T := TX5) (N := 10) hx hb hts (in_X5_torn_X5) hown hK hM h_x rfl 0 (by decide) (hts (.fieldLink RX5 12 "GroupLog" "store" "LGroupLog$Store;") (List.mem_of_getElem? (i := 1) rfl)) rfl dX5_torn_9 ?_
    refine lv_iload_n hx hb dX5_torn_12 rfl (lv_at hl 1 rfl) ?_
    refine mm_callr (mm_runV (As := [.int k]) (rest := []) ⟨hx, hb, hml, hown, hts⟩ (c_X4_sector j e1 hj (hI j hj).1 h_st h_sa) (cwV 1 hts gX5_torn_X4_sector rfl rfl rfl (by decide +kernel) ⟨Nat.le_of_ble_eq_true rfl, Nat.le_of_ble_eq_true rfl⟩) hK hM h_st rfl rfl hl.1 rfl (Nat.le_of_ble_eq_true rfl) dX5_torn_13 ⟨Nat.le_of_ble_eq_true rfl, Nat.le_of_ble_eq_true rfl⟩) hS (fun _ h => h) (fun r3 M H locs hp hM hS hz _ => ?_)
    obtain ⟨rfl, hme⟩ := hp
    rw [hme] at hM
    have h_gj := (hI j hj).2.1
    refine mm_getN (v := .int 0) (ci := 3) (C := RX3) (T := TX3) (N := 2) hx hb hts (in_X5_torn_X3) hown hK hM h_gj rfl 1 (by decide) (hK.2.1 _ (List.mem_of_getElem? (i := 6) rfl)) rfl dX5_torn_16 ?_
    refine lv_if_eq (tgt := 26) hx hb dX5_torn_19 (by decide) (fun c_4 => ?_) (fun c_4 => ?_)
    rotate_left
    · exact absurd c_4 (by decide)
    refine lv_iconst (v := 0) hx hb dX5_torn_26 (by decide) ?_
    exact mm_zret hx hb hr hlk (rfl) hM hS (rfl) dX5_torn_27

theorem in_X5_countWhileOn_X1 : ∀ w ∈ u_ws RX1 TX1 4, w ∈ wsX5_countWhileOn := fun w h => List.mem_cons_of_mem _ (List.mem_append_left _ (List.mem_append_left _ (List.mem_append_left _ (List.mem_append_right _ h))))
theorem in_X5_countWhileOn_X5 : ∀ w ∈ u_ws RX5 TX5 10, w ∈ wsX5_countWhileOn := fun w h => List.mem_cons_of_mem _ (List.mem_append_left _ (List.mem_append_left _ (List.mem_append_left _ (List.mem_append_left _ (List.mem_append_right _ h)))))
set_option maxHeartbeats 4000000 in
set_option maxRecDepth 100000 in
theorem c_X5_cwo_1 {l : Launch} {D : va_G} {A : Nat → Prop} {cI cS cB cZ : ClassId} {M : Nat → Option va_E} {sz : Nat} {x st qu lg rd dr tp sa qb lb : Nat} {fa : Nat → Option Nat} {g h : Nat → Nat} (hI : st_inv cI M fa g h gl_F 64) (h_x : M x = some (Sum.inr (5, [.ref st, .ref qu, .ref lg, .ref rd, .ref dr, .ref tp, .int 0, .int 10, .int 0, .int 1]) : va_E)) (h_st : M st = some (Sum.inr (4, [.ref sa, .int 0, .int (-1), .int 0]) : va_E)) (h_sa : M sa = some (Sum.inl (cS, 64, .inr (.inr (.inr (.inr (fa))))) : va_E)) (h_qu : M qu = some (Sum.inr (1, [.ref qb, .int 0, .int 0, .int 0]) : va_E)) (h_lg : M lg = some (Sum.inr (0, [.ref lb, .int 1, .int 1, .int 0, .int 2, .int 0, .int 2, .int 1]) : va_E)) : Met l yX5_countWhileOn wsX5_countWhileOn ({ frames := 0, cells := 0, slots := 0, locals := 0 }) (mm_Pc D A (mm_T cI cS cB cZ) M sz [.ref x, .int 1]) (mm_Qi D A (fun r M1 => r = 0)) 0 0 A := by
  refine mm_met (cc := cX5_countWhileOn) (maxL := 2) (ret := (some .int)) (by decide) rfl (Nat.le_of_ble_eq_true rfl) ?_
  intro p e s m args below meth c hx hb hr hts hown hlk hin hml hsz hK hM hS ls hl
  subst hsz
  have hl : lv_has ls 2 [(0, .ref x), (1, .int 1)] := hl
  refine lv_iload_n hx hb dX5_countWhileOn_0 rfl (lv_at hl 1 rfl) ?_
  refine lv_tableIn (off := 47) (tgt := 48) hx hb dX5_countWhileOn_1 (by decide) (by decide) (by decide) (by decide) ?_
  refine lv_aload_n hx hb dX5_countWhileOn_48 rfl (lv_at hl 0 rfl) ?_
  refine mm_get (v := .ref qu) (ci := 5) (C := RX5) (T := TX5) (N := 10) hx hb hts (in_X5_countWhileOn_X5) hown hK hM h_x rfl 1 (by decide) (hts (.fieldLink RX5 19 "GroupLog" "queue" "LGroupLog$Queue;") (List.mem_of_getElem? (i := 1) rfl)) rfl dX5_countWhileOn_49 ?_
  refine mm_getN (v := .int 0) (ci := 1) (C := RX1) (T := TX1) (N := 4) hx hb hts (in_X5_countWhileOn_X1) hown hK hM h_qu rfl 2 (by decide) (hK.2.1 _ (List.mem_of_getElem? (i := 11) rfl)) rfl dX5_countWhileOn_52 ?_
  exact mm_iret hx hb hr hlk hM hS (rfl) dX5_countWhileOn_55

set_option maxHeartbeats 4000000 in
set_option maxRecDepth 100000 in
theorem c_X5_cwo_2 {l : Launch} {D : va_G} {A : Nat → Prop} {cI cS cB cZ : ClassId} {M : Nat → Option va_E} {sz : Nat} {x st qu lg rd dr tp sa qb lb : Nat} {fa : Nat → Option Nat} {g h : Nat → Nat} (hI : st_inv cI M fa g h gl_F 64) (h_x : M x = some (Sum.inr (5, [.ref st, .ref qu, .ref lg, .ref rd, .ref dr, .ref tp, .int 0, .int 10, .int 0, .int 1]) : va_E)) (h_st : M st = some (Sum.inr (4, [.ref sa, .int 0, .int (-1), .int 0]) : va_E)) (h_sa : M sa = some (Sum.inl (cS, 64, .inr (.inr (.inr (.inr (fa))))) : va_E)) (h_qu : M qu = some (Sum.inr (1, [.ref qb, .int 0, .int 0, .int 0]) : va_E)) (h_lg : M lg = some (Sum.inr (0, [.ref lb, .int 1, .int 1, .int 0, .int 2, .int 0, .int 2, .int 1]) : va_E)) : Met l yX5_countWhileOn wsX5_countWhileOn ({ frames := 0, cells := 0, slots := 0, locals := 0 }) (mm_Pc D A (mm_T cI cS cB cZ) M sz [.ref x, .int 2]) (mm_Qi D A (fun r M1 => r = 0)) 0 0 A := by
  refine mm_met (cc := cX5_countWhileOn) (maxL := 2) (ret := (some .int)) (by decide) rfl (Nat.le_of_ble_eq_true rfl) ?_
  intro p e s m args below meth c hx hb hr hts hown hlk hin hml hsz hK hM hS ls hl
  subst hsz
  have hl : lv_has ls 2 [(0, .ref x), (1, .int 2)] := hl
  refine lv_iload_n hx hb dX5_countWhileOn_0 rfl (lv_at hl 1 rfl) ?_
  refine lv_tableIn (off := 55) (tgt := 56) hx hb dX5_countWhileOn_1 (by decide) (by decide) (by decide) (by decide) ?_
  refine lv_aload_n hx hb dX5_countWhileOn_56 rfl (lv_at hl 0 rfl) ?_
  refine mm_get (v := .ref qu) (ci := 5) (C := RX5) (T := TX5) (N := 10) hx hb hts (in_X5_countWhileOn_X5) hown hK hM h_x rfl 1 (by decide) (hts (.fieldLink RX5 19 "GroupLog" "queue" "LGroupLog$Queue;") (List.mem_of_getElem? (i := 1) rfl)) rfl dX5_countWhileOn_57 ?_
  refine mm_getN (v := .int 0) (ci := 1) (C := RX1) (T := TX1) (N := 4) hx hb hts (in_X5_countWhileOn_X1) hown hK hM h_qu rfl 1 (by decide) (hK.2.1 _ (List.mem_of_getElem? (i := 12) rfl)) rfl dX5_countWhileOn_60 ?_
  exact mm_iret hx hb hr hlk hM hS (rfl) dX5_countWhileOn_63

theorem in_X5_countWhileOn_X0 : ∀ w ∈ u_ws RX0 TX0 8, w ∈ wsX5_countWhileOn := fun w h => List.mem_cons_of_mem _ (List.mem_append_left _ (List.mem_append_left _ (List.mem_append_right _ h)))
set_option maxHeartbeats 4000000 in
set_option maxRecDepth 100000 in
theorem c_X5_cwo_3 {l : Launch} {D : va_G} {A : Nat → Prop} {cI cS cB cZ : ClassId} {M : Nat → Option va_E} {sz : Nat} {x st qu lg rd dr tp sa qb lb : Nat} {fa : Nat → Option Nat} {g h : Nat → Nat} (hI : st_inv cI M fa g h gl_F 64) (h_x : M x = some (Sum.inr (5, [.ref st, .ref qu, .ref lg, .ref rd, .ref dr, .ref tp, .int 0, .int 10, .int 0, .int 1]) : va_E)) (h_st : M st = some (Sum.inr (4, [.ref sa, .int 0, .int (-1), .int 0]) : va_E)) (h_sa : M sa = some (Sum.inl (cS, 64, .inr (.inr (.inr (.inr (fa))))) : va_E)) (h_qu : M qu = some (Sum.inr (1, [.ref qb, .int 0, .int 0, .int 0]) : va_E)) (h_lg : M lg = some (Sum.inr (0, [.ref lb, .int 1, .int 1, .int 0, .int 2, .int 0, .int 2, .int 1]) : va_E)) : Met l yX5_countWhileOn wsX5_countWhileOn ({ frames := 0, cells := 0, slots := 0, locals := 0 }) (mm_Pc D A (mm_T cI cS cB cZ) M sz [.ref x, .int 3]) (mm_Qi D A (fun r M1 => r = 0)) 0 0 A := by
  refine mm_met (cc := cX5_countWhileOn) (maxL := 2) (ret := (some .int)) (by decide) rfl (Nat.le_of_ble_eq_true rfl) ?_
  intro p e s m args below meth c hx hb hr hts hown hlk hin hml hsz hK hM hS ls hl
  subst hsz
  have hl : lv_has ls 2 [(0, .ref x), (1, .int 3)] := hl
  refine lv_iload_n hx hb dX5_countWhileOn_0 rfl (lv_at hl 1 rfl) ?_
  refine lv_tableIn (off := 63) (tgt := 64) hx hb dX5_countWhileOn_1 (by decide) (by decide) (by decide) (by decide) ?_
  refine lv_aload_n hx hb dX5_countWhileOn_64 rfl (lv_at hl 0 rfl) ?_
  refine mm_get (v := .ref lg) (ci := 5) (C := RX5) (T := TX5) (N := 10) hx hb hts (in_X5_countWhileOn_X5) hown hK hM h_x rfl 2 (by decide) (hts (.fieldLink RX5 26 "GroupLog" "log" "LGroupLog$Log;") (List.mem_of_getElem? (i := 2) rfl)) rfl dX5_countWhileOn_65 ?_
  refine mm_getN (v := .int 0) (ci := 0) (C := RX0) (T := TX0) (N := 8) hx hb hts (in_X5_countWhileOn_X0) hown hK hM h_lg rfl 5 (by decide) (hK.2.1 _ (List.mem_of_getElem? (i := 9) rfl)) rfl dX5_countWhileOn_68 ?_
  exact mm_iret hx hb hr hlk hM hS (rfl) dX5_countWhileOn_71

set_option maxHeartbeats 4000000 in
set_option maxRecDepth 100000 in
theorem c_X5_cwo_4 {l : Launch} {D : va_G} {A : Nat → Prop} {cI cS cB cZ : ClassId} {M : Nat → Option va_E} {sz : Nat} {x st qu lg rd dr tp sa qb lb : Nat} {fa : Nat → Option Nat} {g h : Nat → Nat} (hI : st_inv cI M fa g h gl_F 64) (h_x : M x = some (Sum.inr (5, [.ref st, .ref qu, .ref lg, .ref rd, .ref dr, .ref tp, .int 0, .int 10, .int 0, .int 1]) : va_E)) (h_st : M st = some (Sum.inr (4, [.ref sa, .int 0, .int (-1), .int 0]) : va_E)) (h_sa : M sa = some (Sum.inl (cS, 64, .inr (.inr (.inr (.inr (fa))))) : va_E)) (h_qu : M qu = some (Sum.inr (1, [.ref qb, .int 0, .int 0, .int 0]) : va_E)) (h_lg : M lg = some (Sum.inr (0, [.ref lb, .int 1, .int 1, .int 0, .int 2, .int 0, .int 2, .int 1]) : va_E)) : Met l yX5_countWhileOn wsX5_countWhileOn ({ frames := 0, cells := 0, slots := 0, locals := 0 }) (mm_Pc D A (mm_T cI cS cB cZ) M sz [.ref x, .int 4]) (mm_Qi D A (fun r M1 => r = 2)) 0 0 A := by
  refine mm_met (cc := cX5_countWhileOn) (maxL := 2) (ret := (some .int)) (by decide) rfl (Nat.le_of_ble_eq_true rfl) ?_
  intro p e s m args below meth c hx hb hr hts hown hlk hin hml hsz hK hM hS ls hl
  subst hsz
  have hl : lv_has ls 2 [(0, .ref x), (1, .int 4)] := hl
  refine lv_iload_n hx hb dX5_countWhileOn_0 rfl (lv_at hl 1 rfl) ?_
  refine lv_tableIn (off := 71) (tgt := 72) hx hb dX5_countWhileOn_1 (by decide) (by decide) (by decide) (by decide) ?_
  refine lv_aload_n hx hb dX5_countWhileOn_72 rfl (lv_at hl 0 rfl) ?_
  refine mm_get (v := .ref lg) (ci := 5) (C := RX5) (T := TX5) (N := 10) hx hb hts (in_X5_countWhileOn_X5) hown hK hM h_x rfl 2 (by decide) (hts (.fieldLink RX5 26 "GroupLog" "log" "LGroupLog$Log;") (List.mem_of_getElem? (i := 2) rfl)) rfl dX5_countWhileOn_73 ?_
  refine mm_getN (v := .int 2) (ci := 0) (C := RX0) (T := TX0) (N := 8) hx hb hts (in_X5_countWhileOn_X0) hown hK hM h_lg rfl 6 (by decide) (hK.2.1 _ (List.mem_of_getElem? (i := 8) rfl)) rfl dX5_countWhileOn_76 ?_
  exact mm_iret hx hb hr hlk hM hS (rfl) dX5_countWhileOn_79

set_option maxHeartbeats 4000000 in
set_option maxRecDepth 100000 in
theorem c_X5_cwo_5 {l : Launch} {D : va_G} {A : Nat → Prop} {cI cS cB cZ : ClassId} {M : Nat → Option va_E} {sz : Nat} {x st qu lg rd dr tp sa qb lb : Nat} {fa : Nat → Option Nat} {g h : Nat → Nat} (hI : st_inv cI M fa g h gl_F 64) (h_x : M x = some (Sum.inr (5, [.ref st, .ref qu, .ref lg, .ref rd, .ref dr, .ref tp, .int 0, .int 10, .int 0, .int 1]) : va_E)) (h_st : M st = some (Sum.inr (4, [.ref sa, .int 0, .int (-1), .int 0]) : va_E)) (h_sa : M sa = some (Sum.inl (cS, 64, .inr (.inr (.inr (.inr (fa))))) : va_E)) (h_qu : M qu = some (Sum.inr (1, [.ref qb, .int 0, .int 0, .int 0]) : va_E)) (h_lg : M lg = some (Sum.inr (0, [.ref lb, .int 1, .int 1, .int 0, .int 2, .int 0, .int 2, .int 1]) : va_E)) : Met l yX5_countWhileOn wsX5_countWhileOn ({ frames := 0, cells := 0, slots := 0, locals := 0 }) (mm_Pc D A (mm_T cI cS cB cZ) M sz [.ref x, .int 5]) (mm_Qi D A (fun r M1 => r = 1)) 0 0 A := by
  refine mm_met (cc := cX5_countWhileOn) (maxL := 2) (ret := (some .int)) (by decide) rfl (Nat.le_of_ble_eq_true rfl) ?_
  intro p e s m args below meth c hx hb hr hts hown hlk hin hml hsz hK hM hS ls hl
  subst hsz
  have hl : lv_has ls 2 [(0, .ref x), (1, .int 5)] := hl
  refine lv_iload_n hx hb dX5_countWhileOn_0 rfl (lv_at hl 1 rfl) ?_
  refine lv_tableIn (off := 79) (tgt := 80) hx hb dX5_countWhileOn_1 (by decide) (by decide) (by decide) (by decide) ?_
  refine lv_aload_n hx hb dX5_countWhileOn_80 rfl (lv_at hl 0 rfl) ?_
  refine mm_get (v := .ref lg) (ci := 5) (C := RX5) (T := TX5) (N := 10) hx hb hts (in_X5_countWhileOn_X5) hown hK hM h_x rfl 2 (by decide) (hts (.fieldLink RX5 26 "GroupLog" "log" "LGroupLog$Log;") (List.mem_of_getElem? (i := 2) rfl)) rfl dX5_countWhileOn_81 ?_
  refine mm_getN (v := .int 1) (ci := 0) (C := RX0) (T := TX0) (N := 8) hx hb hts (in_X5_countWhileOn_X0) hown hK hM h_lg rfl 7 (by decide) (hK.2.1 _ (List.mem_of_getElem? (i := 2) rfl)) rfl dX5_countWhileOn_84 ?_
  exact mm_iret hx hb hr hlk hM hS (rfl) dX5_countWhileOn_87

set_option maxHeartbeats 4000000 in
set_option maxRecDepth 100000 in
theorem c_X5_cwo_8 {l : Launch} {D : va_G} {A : Nat → Prop} {cI cS cB cZ : ClassId} {M : Nat → Option va_E} {sz : Nat} {x st qu lg rd dr tp sa qb lb : Nat} {fa : Nat → Option Nat} {g h : Nat → Nat} (hI : st_inv cI M fa g h gl_F 64) (h_x : M x = some (Sum.inr (5, [.ref st, .ref qu, .ref lg, .ref rd, .ref dr, .ref tp, .int 0, .int 10, .int 0, .int 1]) : va_E)) (h_st : M st = some (Sum.inr (4, [.ref sa, .int 0, .int (-1), .int 0]) : va_E)) (h_sa : M sa = some (Sum.inl (cS, 64, .inr (.inr (.inr (.inr (fa))))) : va_E)) (h_qu : M qu = some (Sum.inr (1, [.ref qb, .int 0, .int 0, .int 0]) : va_E)) (h_lg : M lg = some (Sum.inr (0, [.ref lb, .int 1, .int 1, .int 0, .int 2, .int 0, .int 2, .int 1]) : va_E)) : Met l yX5_countWhileOn wsX5_countWhileOn ({ frames := 0, cells := 0, slots := 0, locals := 0 }) (mm_Pc D A (mm_T cI cS cB cZ) M sz [.ref x, .int 8]) (mm_Qi D A (fun r M1 => r = (-1))) 0 0 A := by
  refine mm_met (cc := cX5_countWhileOn) (maxL := 2) (ret := (some .int)) (by decide) rfl (Nat.le_of_ble_eq_true rfl) ?_
  intro p e s m args below meth c hx hb hr hts hown hlk hin hml hsz hK hM hS ls hl
  subst hsz
  have hl : lv_has ls 2 [(0, .ref x), (1, .int 8)] := hl
  refine lv_iload_n hx hb dX5_countWhileOn_0 rfl (lv_at hl 1 rfl) ?_
  refine lv_tableIn (off := 87) (tgt := 88) hx hb dX5_countWhileOn_1 (by decide) (by decide) (by decide) (by decide) ?_
  refine lv_aload_n hx hb dX5_countWhileOn_88 rfl (lv_at hl 0 rfl) ?_
  refine mm_get (v := .ref qu) (ci := 5) (C := RX5) (T := TX5) (N := 10) hx hb hts (in_X5_countWhileOn_X5) hown hK hM h_x rfl 1 (by decide) (hts (.fieldLink RX5 19 "GroupLog" "queue" "LGroupLog$Queue;") (List.mem_of_getElem? (i := 1) rfl)) rfl dX5_countWhileOn_89 ?_
  refine mm_getN (v := .int 0) (ci := 1) (C := RX1) (T := TX1) (N := 4) hx hb hts (in_X5_countWhileOn_X1) hown hK hM h_qu rfl 2 (by decide) (hK.2.1 _ (List.mem_of_getElem? (i := 11) rfl)) rfl dX5_countWhileOn_92 ?_
  refine lv_if_ne (tgt := 102) hx hb dX5_countWhileOn_95 (by decide) (fun c_1 => ?_) (fun c_1 => ?_)
  · exact absurd c_1 (by decide)
  refine lv_iconst (v := (-1)) hx hb dX5_countWhileOn_98 (by decide) ?_
  refine lv_goto (tgt := 109) hx hb dX5_countWhileOn_99 (by decide) ?_
  exact mm_iret hx hb hr hlk hM hS (rfl) dX5_countWhileOn_109

set_option maxHeartbeats 4000000 in
set_option maxRecDepth 100000 in
theorem c_X5_cwo_9 {l : Launch} {D : va_G} {A : Nat → Prop} {cI cS cB cZ : ClassId} {M : Nat → Option va_E} {sz : Nat} {x st qu lg rd dr tp sa qb lb : Nat} {fa : Nat → Option Nat} {g h : Nat → Nat} (hI : st_inv cI M fa g h gl_F 64) (h_x : M x = some (Sum.inr (5, [.ref st, .ref qu, .ref lg, .ref rd, .ref dr, .ref tp, .int 0, .int 10, .int 0, .int 1]) : va_E)) (h_st : M st = some (Sum.inr (4, [.ref sa, .int 0, .int (-1), .int 0]) : va_E)) (h_sa : M sa = some (Sum.inl (cS, 64, .inr (.inr (.inr (.inr (fa))))) : va_E)) (h_qu : M qu = some (Sum.inr (1, [.ref qb, .int 0, .int 0, .int 0]) : va_E)) (h_lg : M lg = some (Sum.inr (0, [.ref lb, .int 1, .int 1, .int 0, .int 2, .int 0, .int 2, .int 1]) : va_E)) : Met l yX5_countWhileOn wsX5_countWhileOn ({ frames := 5, cells := 0, slots := 0, locals := 109 }) (mm_Pc D A (mm_T cI cS cB cZ) M sz [.ref x, .int 9]) (mm_Qi D A (fun r M1 => r = 1)) 0 0 A := by
  refine mm_met (cc := cX5_countWhileOn) (maxL := 2) (ret := (some .int)) (by decide) rfl (Nat.le_of_ble_eq_true rfl) ?_
  intro p e s m args below meth c hx hb hr hts hown hlk hin hml hsz hK hM hS ls hl
  subst hsz
  have hl : lv_has ls 2 [(0, .ref x), (1, .int 9)] := hl
  refine lv_iload_n hx hb dX5_countWhileOn_0 rfl (lv_at hl 1 rfl) ?_
  refine lv_tableOut (tgt := 110) hx hb dX5_countWhileOn_1 (by decide) (by decide) ?_
  refine lv_aload_n hx hb dX5_countWhileOn_110 rfl (lv_at hl 0 rfl) ?_
  refine mm_get (v := .ref st) (ci := 5) (C := RX5) (T := TX5) (N := 10) hx hb hts (in_X5_countWhileOn_X5) hown hK hM h_x rfl 0 (by decide) (hts (.fieldLink RX5 12 "GroupLog" "store" "LGroupLog$Store;") (List.mem_of_getElem? (i := 3) rfl)) rfl dX5_countWhileOn_111 ?_
  have h_g0 := (hI 0 (by decide)).2.1
  have h_h0 : _ = some (Sum.inl (cI, 64, .inl (hd_f 1 1 1 2)) : va_E) := (hI 0 (by decide)).2.2.1
  have h_g1 := (hI 1 (by decide)).2.1
  have h_h1 : _ = some (Sum.inl (cI, 64, .inl (fun _ => 0)) : va_E) := (hI 1 (by decide)).2.2.1
  refine mm_calli (mm_runV (As := []) (rest := []) ⟨hx, hb, hml, hown, hts⟩ (c_X4_headVersion (hI 0 (by decide)).1 (hI 1 (by decide)).1 h_st h_sa h_g0 h_h0 h_g1 h_h1) (cwV 0 hts gX5_countWhileOn_X4_headVersion rfl rfl rfl (by decide +kernel) ⟨Nat.le_of_ble_eq_true rfl, Nat.le_of_ble_eq_true rfl⟩) hK hM h_st rfl rfl hl.1 rfl (Nat.le_of_ble_eq_true rfl) dX5_countWhileOn_114 ⟨Nat.le_of_ble_eq_true rfl, Nat.le_of_ble_eq_true rfl⟩) hS (fun _ h => h) (fun r1 M H locs hp hM hS hz _ => ?_)
  obtain ⟨rfl, hme⟩ := hp
  rw [hme] at hM
  exact mm_iret hx hb hr hlk hM hS (rfl) dX5_countWhileOn_117

theorem ct_no {w : Int32} (h : w < 0 ∨ 9 < w) : Op.lookupswitch.offset (#[(0, 35), (6, 48), (7, 56)] : Array (Int × Int)).toList 61 w.toInt = 61 := by
  have h2 := ct_int h
  have e0 : w.toInt ≠ 0 := by omega
  have e6 : w.toInt ≠ 6 := by omega
  have e7 : w.toInt ≠ 7 := by omega
  simp [Op.lookupswitch.offset, Ne.symm e0, Ne.symm e6, Ne.symm e7, e0, e6, e7]
theorem ct_bad {w : Int32} (h1 : ¬ w < 0) (h2 : w ≤ 9) : ¬ (w < 0 ∨ 9 < w) := by
  rintro (h | h)
  · exact h1 h
  · rw [Int32.le_iff_toInt_le] at h2
    rw [Int32.lt_iff_toInt_lt] at h
    omega

theorem in_X5_count_X4 : ∀ w ∈ u_ws RX4 TX4 4, w ∈ wsX5_count := fun w h => List.mem_cons_of_mem _ (List.mem_append_left _ (List.mem_append_left _ (List.mem_append_left _ (List.mem_append_right _ h))))
theorem in_X5_count_X5 : ∀ w ∈ u_ws RX5 TX5 10, w ∈ wsX5_count := fun w h => List.mem_cons_of_mem _ (List.mem_append_left _ (List.mem_append_left _ (List.mem_append_left _ (List.mem_append_left _ (List.mem_append_right _ h)))))
set_option maxHeartbeats 4000000 in
set_option maxRecDepth 100000 in
/-- GroupLog.count of a new object -/
theorem c_X5_count {l : Launch} {D : va_G} {A : Nat → Prop} {cI cS cB cZ : ClassId} {M : Nat → Option va_E} {sz : Nat} {x st qu lg rd dr tp sa qb lb : Nat} {fa : Nat → Option Nat} {g h : Nat → Nat} (hI : st_inv cI M fa g h gl_F 64) {k : Int32} (h_x : M x = some (Sum.inr (5, [.ref st, .ref qu, .ref lg, .ref rd, .ref dr, .ref tp, .int 0, .int 10, .int 0, .int 1]) : va_E)) (h_st : M st = some (Sum.inr (4, [.ref sa, .int 0, .int (-1), .int 0]) : va_E)) (h_sa : M sa = some (Sum.inl (cS, 64, .inr (.inr (.inr (.inr (fa))))) : va_E)) (h_qu : M qu = some (Sum.inr (1, [.ref qb, .int 0, .int 0, .int 0]) : va_E)) (h_lg : M lg = some (Sum.inr (0, [.ref lb, .int 1, .int 1, .int 0, .int 2, .int 0, .int 2, .int 1]) : va_E)) : Met l yX5_count wsX5_count ({ frames := 6, cells := 0, slots := 0, locals := 130 }) (mm_Pc D A (mm_T cI cS cB cZ) M sz [.ref x, .int k]) (mm_Qi D A (fun r M1 => r = ct_f k)) 0 0 A := by
  refine mm_met (cc := cX5_count) (maxL := 2) (ret := (some .int)) (by decide) rfl (Nat.le_of_ble_eq_true rfl) ?_
  intro p e s m args below meth c hx hb hr hts hown hlk hin hml hsz hK hM hS ls hl
  subst hsz
  have hl : lv_has ls 2 [(0, .ref x), (1, .int k)] := hl
  rcases ct_cases k with rfl | rfl | rfl | rfl | rfl | rfl | rfl | rfl | rfl | rfl | hk
  · skip
    have hl : lv_has ls 2 [(0, .ref x), (1, .int 0)] := hl
    refine lv_iload_n hx hb dX5_count_0 rfl (lv_at hl 1 rfl) ?_
    refine lv_lookup (off := 35) (tgt := 36) hx hb dX5_count_1 (by decide) (by decide) (by decide) ?_
    refine lv_aload_n hx hb dX5_count_36 rfl (lv_at hl 0 rfl) ?_
    refine mm_get (v := .int 1) (ci := 5) (C := RX5) (T := TX5) (N := 10) hx hb hts (in_X5_count_X5) hown hK hM h_x rfl 9 (by decide) (hts (.fieldLink RX5 58 "GroupLog" "on" "Z") (List.mem_of_getElem? (i := 1) rfl)) rfl dX5_count_37 ?_
    refine lv_if_eq (tgt := 47) hx hb dX5_count_40 (by decide) (fun c_1 => ?_) (fun c_1 => ?_)
    · exact absurd c_1 (by decide)
    refine lv_iconst (v := 1) hx hb dX5_count_43 (by decide) ?_
    refine lv_goto (tgt := 48) hx hb dX5_count_44 (by decide) ?_
    exact mm_iret hx hb hr hlk hM hS (by decide) dX5_count_48
  · skip
    have hl : lv_has ls 2 [(0, .ref x), (1, .int 1)] := hl
    refine lv_iload_n hx hb dX5_count_0 rfl (lv_at hl 1 rfl) ?_
    refine lv_lookup (off := 61) (tgt := 62) hx hb dX5_count_1 (by decide) (by decide) (by decide) ?_
    refine lv_iload_n hx hb dX5_count_62 rfl (lv_at hl 1 rfl) ?_
    refine lv_if_lt (tgt := 72) hx hb dX5_count_63 (by decide) (fun c_2 => ?_) (fun c_2 => ?_)
    · exact absurd c_2 (by decide)
    refine lv_iload_n hx hb dX5_count_66 rfl (lv_at hl 1 rfl) ?_
    refine lv_bipush (v := 9) hx hb dX5_count_67 (by decide) ?_
    refine lv_icmp_le (tgt := 74) hx hb dX5_count_69 (by decide) (fun c_3 => ?_) (fun c_3 => ?_)
    rotate_left
    · exact absurd c_3 (by decide)
    refine lv_aload_n hx hb dX5_count_74 rfl (lv_at hl 0 rfl) ?_
    refine mm_get (v := .int 1) (ci := 5) (C := RX5) (T := TX5) (N := 10) hx hb hts (in_X5_count_X5) hown hK hM h_x rfl 9 (by decide) (hts (.fieldLink RX5 58 "GroupLog" "on" "Z") (List.mem_of_getElem? (i := 1) rfl)) rfl dX5_count_75 ?_
    refine lv_if_eq (tgt := 89) hx hb dX5_count_78 (by decide) (fun c_4 => ?_) (fun c_4 => ?_)
    · exact absurd c_4 (by decide)
    refine lv_aload_n hx hb dX5_count_81 rfl (lv_at hl 0 rfl) ?_
    refine lv_iload_n hx hb dX5_count_82 rfl (lv_at hl 1 rfl) ?_
    refine mm_calli (mm_runV (As := [.int 1]) (rest := []) ⟨hx, hb, hml, hown, hts⟩ (c_X5_cwo_1 (dr := dr) (tp := tp) hI h_x h_st h_sa h_qu h_lg) (cwV 1 hts gX5_count_X5_countWhileOn rfl rfl rfl (by decide +kernel) ⟨Nat.le_of_ble_eq_true rfl, Nat.le_of_ble_eq_true rfl⟩) hK hM h_x rfl rfl hl.1 rfl (Nat.le_of_ble_eq_true rfl) dX5_count_83 ⟨Nat.le_of_ble_eq_true rfl, Nat.le_of_ble_eq_true rfl⟩) hS (fun _ h => h) (fun r5 M H locs hp hM hS hz _ => ?_)
    subst hp
    refine lv_goto (tgt := 91) hx hb dX5_count_86 (by decide) ?_
    exact mm_iret hx hb hr hlk hM hS (by decide) dX5_count_91
  · skip
    have hl : lv_has ls 2 [(0, .ref x), (1, .int 2)] := hl
    refine lv_iload_n hx hb dX5_count_0 rfl (lv_at hl 1 rfl) ?_
    refine lv_lookup (off := 61) (tgt := 62) hx hb dX5_count_1 (by decide) (by decide) (by decide) ?_
    refine lv_iload_n hx hb dX5_count_62 rfl (lv_at hl 1 rfl) ?_
    refine lv_if_lt (tgt := 72) hx hb dX5_count_63 (by decide) (fun c_6 => ?_) (fun c_6 => ?_)
    · exact absurd c_6 (by decide)
    refine lv_iload_n hx hb dX5_count_66 rfl (lv_at hl 1 rfl) ?_
    refine lv_bipush (v := 9) hx hb dX5_count_67 (by decide) ?_
    refine lv_icmp_le (tgt := 74) hx hb dX5_count_69 (by decide) (fun c_7 => ?_) (fun c_7 => ?_)
    rotate_left
    · exact absurd c_7 (by decide)
    refine lv_aload_n hx hb dX5_count_74 rfl (lv_at hl 0 rfl) ?_
    refine mm_get (v := .int 1) (ci := 5) (C := RX5) (T := TX5) (N := 10) hx hb hts (in_X5_count_X5) hown hK hM h_x rfl 9 (by decide) (hts (.fieldLink RX5 58 "GroupLog" "on" "Z") (List.mem_of_getElem? (i := 1) rfl)) rfl dX5_count_75 ?_
    refine lv_if_eq (tgt := 89) hx hb dX5_count_78 (by decide) (fun c_8 => ?_) (fun c_8 => ?_)
    · exact absurd c_8 (by decide)
    refine lv_aload_n hx hb dX5_count_81 rfl (lv_at hl 0 rfl) ?_
    refine lv_iload_n hx hb dX5_count_82 rfl (lv_at hl 1 rfl) ?_
    refine mm_calli (mm_runV (As := [.int 2]) (rest := []) ⟨hx, hb, hml, hown, hts⟩ (c_X5_cwo_2 (dr := dr) (tp := tp) hI h_x h_st h_sa h_qu h_lg) (cwV 1 hts gX5_count_X5_countWhileOn rfl rfl rfl (by decide +kernel) ⟨Nat.le_of_ble_eq_true rfl, Nat.le_of_ble_eq_true rfl⟩) hK hM h_x rfl rfl hl.1 rfl (Nat.le_of_ble_eq_true rfl) dX5_count_83 ⟨Nat.le_of_ble_eq_true rfl, Nat.le_of_ble_eq_true rfl⟩) hS (fun _ h => h) (fun r9 M H locs hp hM hS hz _ => ?_)
    subst hp
    refine lv_goto (tgt := 91) hx hb dX5_count_86 (by decide) ?_
    exact mm_iret hx hb hr hlk hM hS (by decide) dX5_count_91
  · skip
    have hl : lv_has ls 2 [(0, .ref x), (1, .int 3)] := hl
    refine lv_iload_n hx hb dX5_count_0 rfl (lv_at hl 1 rfl) ?_
    refine lv_lookup (off := 61) (tgt := 62) hx hb dX5_count_1 (by decide) (by decide) (by decide) ?_
    refine lv_iload_n hx hb dX5_count_62 rfl (lv_at hl 1 rfl) ?_
    refine lv_if_lt (tgt := 72) hx hb dX5_count_63 (by decide) (fun c_10 => ?_) (fun c_10 => ?_)
    · exact absurd c_10 (by decide)
    refine lv_iload_n hx hb dX5_count_66 rfl (lv_at hl 1 rfl) ?_
    refine lv_bipush (v := 9) hx hb dX5_count_67 (by decide) ?_
    refine lv_icmp_le (tgt := 74) hx hb dX5_count_69 (by decide) (fun c_11 => ?_) (fun c_11 => ?_)
    rotate_left
    · exact absurd c_11 (by decide)
    refine lv_aload_n hx hb dX5_count_74 rfl (lv_at hl 0 rfl) ?_
    refine mm_get (v := .int 1) (ci := 5) (C := RX5) (T := TX5) (N := 10) hx hb hts (in_X5_count_X5) hown hK hM h_x rfl 9 (by decide) (hts (.fieldLink RX5 58 "GroupLog" "on" "Z") (List.mem_of_getElem? (i := 1) rfl)) rfl dX5_count_75 ?_
    refine lv_if_eq (tgt := 89) hx hb dX5_count_78 (by decide) (fun c_12 => ?_) (fun c_12 => ?_)
    · exact absurd c_12 (by decide)
    refine lv_aload_n hx hb dX5_count_81 rfl (lv_at hl 0 rfl) ?_
    refine lv_iload_n hx hb dX5_count_82 rfl (lv_at hl 1 rfl) ?_
    refine mm_calli (mm_runV (As := [.int 3]) (rest := []) ⟨hx, hb, hml, hown, hts⟩ (c_X5_cwo_3 (dr := dr) (tp := tp) hI h_x h_st h_sa h_qu h_lg) (cwV 1 hts gX5_count_X5_countWhileOn rfl rfl rfl (by decide +kernel) ⟨Nat.le_of_ble_eq_true rfl, Nat.le_of_ble_eq_true rfl⟩) hK hM h_x rfl rfl hl.1 rfl (Nat.le_of_ble_eq_true rfl) dX5_count_83 ⟨Nat.le_of_ble_eq_true rfl, Nat.le_of_ble_eq_true rfl⟩) hS (fun _ h => h) (fun r13 M H locs hp hM hS hz _ => ?_)
    subst hp
    refine lv_goto (tgt := 91) hx hb dX5_count_86 (by decide) ?_
    exact mm_iret hx hb hr hlk hM hS (by decide) dX5_count_91
  · skip
    have hl : lv_has ls 2 [(0, .ref x), (1, .int 4)] := hl
    refine lv_iload_n hx hb dX5_count_0 rfl (lv_at hl 1 rfl) ?_
    refine lv_lookup (off := 61) (tgt := 62) hx hb dX5_count_1 (by decide) (by decide) (by decide) ?_
    refine lv_iload_n hx hb dX5_count_62 rfl (lv_at hl 1 rfl) ?_
    refine lv_if_lt (tgt := 72) hx hb dX5_count_63 (by decide) (fun c_14 => ?_) (fun c_14 => ?_)
    · exact absurd c_14 (by decide)
    refine lv_iload_n hx hb dX5_count_66 rfl (lv_at hl 1 rfl) ?_
    refine lv_bipush (v := 9) hx hb dX5_count_67 (by decide) ?_
    refine lv_icmp_le (tgt := 74) hx hb dX5_count_69 (by decide) (fun c_15 => ?_) (fun c_15 => ?_)
    rotate_left
    · exact absurd c_15 (by decide)
    refine lv_aload_n hx hb dX5_count_74 rfl (lv_at hl 0 rfl) ?_
    refine mm_get (v := .int 1) (ci := 5) (C := RX5) (T := TX5) (N := 10) hx hb hts (in_X5_count_X5) hown hK hM h_x rfl 9 (by decide) (hts (.fieldLink RX5 58 "GroupLog" "on" "Z") (List.mem_of_getElem? (i := 1) rfl)) rfl dX5_count_75 ?_
    refine lv_if_eq (tgt := 89) hx hb dX5_count_78 (by decide) (fun c_16 => ?_) (fun c_16 => ?_)
    · exact absurd c_16 (by decide)
    refine lv_aload_n hx hb dX5_count_81 rfl (lv_at hl 0 rfl) ?_
    refine lv_iload_n hx hb dX5_count_82 rfl (lv_at hl 1 rfl) ?_
    refine mm_calli (mm_runV (As := [.int 4]) (rest := []) ⟨hx, hb, hml, hown, hts⟩ (c_X5_cwo_4 (dr := dr) (tp := tp) hI h_x h_st h_sa h_qu h_lg) (cwV 1 hts gX5_count_X5_countWhileOn rfl rfl rfl (by decide +kernel) ⟨Nat.le_of_ble_eq_true rfl, Nat.le_of_ble_eq_true rfl⟩) hK hM h_x rfl rfl hl.1 rfl (Nat.le_of_ble_eq_true rfl) dX5_count_83 ⟨Nat.le_of_ble_eq_true rfl, Nat.le_of_ble_eq_true rfl⟩) hS (fun _ h => h) (fun r17 M H locs hp hM hS hz _ => ?_)
    subst hp
    refine lv_goto (tgt := 91) hx hb dX5_count_86 (by decide) ?_
    exact mm_iret hx hb hr hlk hM hS (by decide) dX5_count_91
  · skip
    have hl : lv_has ls 2 [(0, .ref x), (1, .int 5)] := hl
    refine lv_iload_n hx hb dX5_count_0 rfl (lv_at hl 1 rfl) ?_
    refine lv_lookup (off := 61) (tgt := 62) hx hb dX5_count_1 (by decide) (by decide) (by decide) ?_
    refine lv_iload_n hx hb dX5_count_62 rfl (lv_at hl 1 rfl) ?_
    refine lv_if_lt (tgt := 72) hx hb dX5_count_63 (by decide) (fun c_18 => ?_) (fun c_18 => ?_)
    · exact absurd c_18 (by decide)
    refine lv_iload_n hx hb dX5_count_66 rfl (lv_at hl 1 rfl) ?_
    refine lv_bipush (v := 9) hx hb dX5_count_67 (by decide) ?_
    refine lv_icmp_le (tgt := 74) hx hb dX5_count_69 (by decide) (fun c_19 => ?_) (fun c_19 => ?_)
    rotate_left
    · exact absurd c_19 (by decide)
    refine lv_aload_n hx hb dX5_count_74 rfl (lv_at hl 0 rfl) ?_
    refine mm_get (v := .int 1) (ci := 5) (C := RX5) (T := TX5) (N := 10) hx hb hts (in_X5_count_X5) hown hK hM h_x rfl 9 (by decide) (hts (.fieldLink RX5 58 "GroupLog" "on" "Z") (List.mem_of_getElem? (i := 1) rfl)) rfl dX5_count_75 ?_
    refine lv_if_eq (tgt := 89) hx hb dX5_count_78 (by decide) (fun c_20 => ?_) (fun c_20 => ?_)
    · exact absurd c_20 (by decide)
    refine lv_aload_n hx hb dX5_count_81 rfl (lv_at hl 0 rfl) ?_
    refine lv_iload_n hx hb dX5_count_82 rfl (lv_at hl 1 rfl) ?_
    refine mm_calli (mm_runV (As := [.int 5]) (rest := []) ⟨hx, hb, hml, hown, hts⟩ (c_X5_cwo_5 (dr := dr) (tp := tp) hI h_x h_st h_sa h_qu h_lg) (cwV 1 hts gX5_count_X5_countWhileOn rfl rfl rfl (by decide +kernel) ⟨Nat.le_of_ble_eq_true rfl, Nat.le_of_ble_eq_true rfl⟩) hK hM h_x rfl rfl hl.1 rfl (Nat.le_of_ble_eq_true rfl) dX5_count_83 ⟨Nat.le_of_ble_eq_true rfl, Nat.le_of_ble_eq_true rfl⟩) hS (fun _ h => h) (fun r21 M H locs hp hM hS hz _ => ?_)
    subst hp
    refine lv_goto (tgt := 91) hx hb dX5_count_86 (by decide) ?_
    exact mm_iret hx hb hr hlk hM hS (by decide) dX5_count_91
  · skip
    have hl : lv_has ls 2 [(0, .ref x), (1, .int 6)] := hl
    refine lv_iload_n hx hb dX5_count_0 rfl (lv_at hl 1 rfl) ?_
    refine lv_lookup (off := 48) (tgt := 49) hx hb dX5_count_1 (by decide) (by decide) (by decide) ?_
    refine lv_aload_n hx hb dX5_count_49 rfl (lv_at hl 0 rfl) ?_
    refine mm_get (v := .ref st) (ci := 5) (C := RX5) (T := TX5) (N := 10) hx hb hts (in_X5_count_X5) hown hK hM h_x rfl 0 (by decide) (hts (.fieldLink RX5 12 "GroupLog" "store" "LGroupLog$Store;") (List.mem_of_getElem? (i := 2) rfl)) rfl dX5_count_50 ?_
    refine mm_getN (v := .int 0) (ci := 4) (C := RX4) (T := TX4) (N := 4) hx hb hts (in_X5_count_X4) hown hK hM h_st rfl 1 (by decide) (hK.2.1 _ (List.mem_of_getElem? (i := 7) rfl)) rfl dX5_count_53 ?_
    exact mm_iret hx hb hr hlk hM hS (by decide) dX5_count_56
  · skip
    have hl : lv_has ls 2 [(0, .ref x), (1, .int 7)] := hl
    refine lv_iload_n hx hb dX5_count_0 rfl (lv_at hl 1 rfl) ?_
    refine lv_lookup (off := 56) (tgt := 57) hx hb dX5_count_1 (by decide) (by decide) (by decide) ?_
    refine lv_aload_n hx hb dX5_count_57 rfl (lv_at hl 0 rfl) ?_
    refine mm_get (v := .int 0) (ci := 5) (C := RX5) (T := TX5) (N := 10) hx hb hts (in_X5_count_X5) hown hK hM h_x rfl 8 (by decide) (hts (.fieldLink RX5 55 "GroupLog" "flushes" "I") (List.mem_of_getElem? (i := 3) rfl)) rfl dX5_count_58 ?_
    exact mm_iret hx hb hr hlk hM hS (by decide) dX5_count_61
  · skip
    have hl : lv_has ls 2 [(0, .ref x), (1, .int 8)] := hl
    refine lv_iload_n hx hb dX5_count_0 rfl (lv_at hl 1 rfl) ?_
    refine lv_lookup (off := 61) (tgt := 62) hx hb dX5_count_1 (by decide) (by decide) (by decide) ?_
    refine lv_iload_n hx hb dX5_count_62 rfl (lv_at hl 1 rfl) ?_
    refine lv_if_lt (tgt := 72) hx hb dX5_count_63 (by decide) (fun c_22 => ?_) (fun c_22 => ?_)
    · exact absurd c_22 (by decide)
    refine lv_iload_n hx hb dX5_count_66 rfl (lv_at hl 1 rfl) ?_
    refine lv_bipush (v := 9) hx hb dX5_count_67 (by decide) ?_
    refine lv_icmp_le (tgt := 74) hx hb dX5_count_69 (by decide) (fun c_23 => ?_) (fun c_23 => ?_)
    rotate_left
    · exact absurd c_23 (by decide)
    refine lv_aload_n hx hb dX5_count_74 rfl (lv_at hl 0 rfl) ?_
    refine mm_get (v := .int 1) (ci := 5) (C := RX5) (T := TX5) (N := 10) hx hb hts (in_X5_count_X5) hown hK hM h_x rfl 9 (by decide) (hts (.fieldLink RX5 58 "GroupLog" "on" "Z") (List.mem_of_getElem? (i := 1) rfl)) rfl dX5_count_75 ?_
    refine lv_if_eq (tgt := 89) hx hb dX5_count_78 (by decide) (fun c_24 => ?_) (fun c_24 => ?_)
    · exact absurd c_24 (by decide)
    refine lv_aload_n hx hb dX5_count_81 rfl (lv_at hl 0 rfl) ?_
    refine lv_iload_n hx hb dX5_count_82 rfl (lv_at hl 1 rfl) ?_
    refine mm_calli (mm_runV (As := [.int 8]) (rest := []) ⟨hx, hb, hml, hown, hts⟩ (c_X5_cwo_8 (dr := dr) (tp := tp) hI h_x h_st h_sa h_qu h_lg) (cwV 1 hts gX5_count_X5_countWhileOn rfl rfl rfl (by decide +kernel) ⟨Nat.le_of_ble_eq_true rfl, Nat.le_of_ble_eq_true rfl⟩) hK hM h_x rfl rfl hl.1 rfl (Nat.le_of_ble_eq_true rfl) dX5_count_83 ⟨Nat.le_of_ble_eq_true rfl, Nat.le_of_ble_eq_true rfl⟩) hS (fun _ h => h) (fun r25 M H locs hp hM hS hz _ => ?_)
    subst hp
    refine lv_goto (tgt := 91) hx hb dX5_count_86 (by decide) ?_
    exact mm_iret hx hb hr hlk hM hS (by decide) dX5_count_91
  · skip
    have hl : lv_has ls 2 [(0, .ref x), (1, .int 9)] := hl
    refine lv_iload_n hx hb dX5_count_0 rfl (lv_at hl 1 rfl) ?_
    refine lv_lookup (off := 61) (tgt := 62) hx hb dX5_count_1 (by decide) (by decide) (by decide) ?_
    refine lv_iload_n hx hb dX5_count_62 rfl (lv_at hl 1 rfl) ?_
    refine lv_if_lt (tgt := 72) hx hb dX5_count_63 (by decide) (fun c_26 => ?_) (fun c_26 => ?_)
    · exact absurd c_26 (by decide)
    refine lv_iload_n hx hb dX5_count_66 rfl (lv_at hl 1 rfl) ?_
    refine lv_bipush (v := 9) hx hb dX5_count_67 (by decide) ?_
    refine lv_icmp_le (tgt := 74) hx hb dX5_count_69 (by decide) (fun c_27 => ?_) (fun c_27 => ?_)
    rotate_left
    · exact absurd c_27 (by decide)
    refine lv_aload_n hx hb dX5_count_74 rfl (lv_at hl 0 rfl) ?_
    refine mm_get (v := .int 1) (ci := 5) (C := RX5) (T := TX5) (N := 10) hx hb hts (in_X5_count_X5) hown hK hM h_x rfl 9 (by decide) (hts (.fieldLink RX5 58 "GroupLog" "on" "Z") (List.mem_of_getElem? (i := 1) rfl)) rfl dX5_count_75 ?_
    refine lv_if_eq (tgt := 89) hx hb dX5_count_78 (by decide) (fun c_28 => ?_) (fun c_28 => ?_)
    · exact absurd c_28 (by decide)
    refine lv_aload_n hx hb dX5_count_81 rfl (lv_at hl 0 rfl) ?_
    refine lv_iload_n hx hb dX5_count_82 rfl (lv_at hl 1 rfl) ?_
    refine mm_calli (mm_runV (As := [.int 9]) (rest := []) ⟨hx, hb, hml, hown, hts⟩ (c_X5_cwo_9 (dr := dr) (tp := tp) hI h_x h_st h_sa h_qu h_lg) (cwV 1 hts gX5_count_X5_countWhileOn rfl rfl rfl (by decide +kernel) ⟨Nat.le_of_ble_eq_true rfl, Nat.le_of_ble_eq_true rfl⟩) hK hM h_x rfl rfl hl.1 rfl (Nat.le_of_ble_eq_true rfl) dX5_count_83 ⟨Nat.le_of_ble_eq_true rfl, Nat.le_of_ble_eq_true rfl⟩) hS (fun _ h => h) (fun r29 M H locs hp hM hS hz _ => ?_)
    subst hp
    refine lv_goto (tgt := 91) hx hb dX5_count_86 (by decide) ?_
    exact mm_iret hx hb hr hlk hM hS (by decide) dX5_count_91
  · skip
    refine lv_iload_n hx hb dX5_count_0 rfl (lv_at hl 1 rfl) ?_
    refine lv_lookup (off := 61) (tgt := 62) hx hb dX5_count_1 (by decide) (ct_no hk) (by decide) ?_
    refine lv_iload_n hx hb dX5_count_62 rfl (lv_at hl 1 rfl) ?_
    refine lv_if_lt (tgt := 72) hx hb dX5_count_63 (by decide) (fun c_30 => ?_) (fun c_30 => ?_)
    · skip
      refine lv_iconst (v := (-1)) hx hb dX5_count_72 (by decide) ?_
      exact mm_iret hx hb hr hlk hM hS (ct_out hk) dX5_count_73
    · skip
      refine lv_iload_n hx hb dX5_count_66 rfl (lv_at hl 1 rfl) ?_
      refine lv_bipush (v := 9) hx hb dX5_count_67 (by decide) ?_
      refine lv_icmp_le (tgt := 74) hx hb dX5_count_69 (by decide) (fun c_31 => ?_) (fun c_31 => ?_)
      · skip
        exact absurd hk (ct_bad c_30 c_31)
      · skip
        refine lv_iconst (v := (-1)) hx hb dX5_count_72 (by decide) ?_
        exact mm_iret hx hb hr hlk hM hS (ct_out hk) dX5_count_73

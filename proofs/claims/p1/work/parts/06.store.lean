theorem in_X1_init_X1 : ∀ w ∈ u_ws RX1 TX1 4, w ∈ wsX1_init := fun w h => List.mem_cons_of_mem _ (List.mem_append_right _ h)
set_option maxHeartbeats 4000000 in
set_option maxRecDepth 100000 in
/-- Queue() -/
theorem c_X1_init {l : Launch} {D : va_G} {A : Nat → Prop} {cI cS cB cZ : ClassId} {M : Nat → Option va_E} {sz : Nat} (hA : ∀ q, sz ≤ q → A q) {a : Nat} (h_a : M a = some (Sum.inr (1, [.null, .int 0, .int 0, .int 0]) : va_E)) : Met l yX1_init wsX1_init ({ frames := 1, cells := 1, slots := 606, locals := 20 }) (mm_Pc D A (mm_T cI cS cB cZ) M sz [.ref a]) (mm_Qv D A (fun M1 => ∃ qb : Nat, M1 a = some (Sum.inr (1, [.ref qb, .int 0, .int 0, .int 0]) : va_E) ∧ M1 qb = some (Sum.inl (cI, 606, .inl (fun _ => 0)) : va_E) ∧ ∀ q, M q ≠ none → q ≠ a → M1 q = M q)) 1 606 A := by
  refine mm_met (cc := cX1_init) (maxL := 1) (ret := none) (by decide) rfl (Nat.le_of_ble_eq_true rfl) ?_
  intro p e s m args below meth c hx hb hr hts hown hlk hin hml hsz hK hM hS ls hl
  subst hsz
  have hl : lv_has ls 1 [(0, .ref a)] := hl
  refine lv_aload_n hx hb dX1_init_0 rfl (lv_at hl 0 rfl) ?_
  refine W.objInit hx hb hown (hts (.methodLink RX1 3 objectInit) (List.mem_of_getElem? (i := 1) rfl)) (hts (.instanceMethod objectInit) (List.mem_of_getElem? (i := 2) rfl)) (hts _ (List.mem_of_getElem? (i := 3) rfl)) rfl (by rw [hml]; exact hl.1) rfl dX1_init_1 (Nat.le_of_ble_eq_true rfl) (Nat.le_of_ble_eq_true rfl) ?_
  refine W.eq (g2 := F0 m 4 ls []) rfl ?_
  refine lv_aload_n hx hb dX1_init_4 rfl (lv_at hl 0 rfl) ?_
  refine lv_sipush (v := 606) hx hb dX1_init_5 (by decide) ?_
  refine mm_newa (atype := .int) (ty := .int) (N' := 606) hx hb (hts (.arrayClass .int) (List.mem_of_getElem? (i := 4) rfl)) rfl hK hM hS hA 0 rfl (fun _ h => by cases h) (mm_z_int 606) (by decide +kernel) (by decide +kernel) (by decide +kernel) (Nat.le_of_ble_eq_true rfl) (Nat.le_of_ble_eq_true rfl) dX1_init_8 (fun qb H M hM ha hn ho hS => ?_)
  have n_a_qb : a ≠ qb := mm_nn h_a hn
  have h_a := (ho a n_a_qb).trans h_a
  have h_qb : _ = some (Sum.inl (cI, 606, .inl (fun _ => 0)) : va_E) := ha
  refine W.widen (k := 1) (n := 606) (by omega) (by omega) ?_
  have hn0 := hn
  have hoB := ho
  refine mm_putF (v := .ref qb) (ci := 1) (C := RX1) (T := TX1) (N := 4) hx hb hts (in_X1_init_X1) tyX1 tyX1_ok nmX1 hown hK hM hS h_a rfl 0 (by decide) (hts (.fieldLink RX1 9 "GroupLog$Queue" "bytes" "[I") (List.mem_of_getElem? (i := 5) rfl)) rfl hin rfl rfl rfl (Nat.le_of_ble_eq_true rfl) dX1_init_10 (fun H locs M hM ha ho hS => ?_)
  have h_qb := (ho qb (Ne.symm n_a_qb)).trans h_qb
  have h_a : _ = some (Sum.inr (1, [.ref qb, .int 0, .int 0, .int 0]) : va_E) := ha
  have ho0 := ho
  refine lv_aload_n hx hb dX1_init_13 rfl (lv_at hl 0 rfl) ?_
  refine lv_iconst (v := 0) hx hb dX1_init_14 (by decide) ?_
  refine mm_put (v := .int 0) (ci := 1) (C := RX1) (T := TX1) (N := 4) hx hb hts (in_X1_init_X1) tyX1 tyX1_ok nmX1 hown hK hM hS h_a rfl 1 (by decide) (hts (.fieldLink RX1 15 "GroupLog$Queue" "length" "I") (List.mem_of_getElem? (i := 6) rfl)) rfl rfl rfl (Nat.le_of_ble_eq_true rfl) dX1_init_15 (fun H locs M hM ha ho hS => ?_)
  have h_qb := (ho qb (Ne.symm n_a_qb)).trans h_qb
  have h_a : _ = some (Sum.inr (1, [.ref qb, .int 0, .int 0, .int 0]) : va_E) := ha
  have ho1 := ho
  refine lv_aload_n hx hb dX1_init_18 rfl (lv_at hl 0 rfl) ?_
  refine lv_iconst (v := 0) hx hb dX1_init_19 (by decide) ?_
  refine mm_put (v := .int 0) (ci := 1) (C := RX1) (T := TX1) (N := 4) hx hb hts (in_X1_init_X1) tyX1 tyX1_ok nmX1 hown hK hM hS h_a rfl 2 (by decide) (hts (.fieldLink RX1 19 "GroupLog$Queue" "records" "I") (List.mem_of_getElem? (i := 7) rfl)) rfl rfl rfl (Nat.le_of_ble_eq_true rfl) dX1_init_20 (fun H locs M hM ha ho hS => ?_)
  have h_qb := (ho qb (Ne.symm n_a_qb)).trans h_qb
  have h_a : _ = some (Sum.inr (1, [.ref qb, .int 0, .int 0, .int 0]) : va_E) := ha
  have ho2 := ho
  refine lv_aload_n hx hb dX1_init_23 rfl (lv_at hl 0 rfl) ?_
  refine lv_iconst (v := 0) hx hb dX1_init_24 (by decide) ?_
  refine mm_put (v := .int 0) (ci := 1) (C := RX1) (T := TX1) (N := 4) hx hb hts (in_X1_init_X1) tyX1 tyX1_ok nmX1 hown hK hM hS h_a rfl 3 (by decide) (hts (.fieldLink RX1 22 "GroupLog$Queue" "waited" "I") (List.mem_of_getElem? (i := 8) rfl)) rfl rfl rfl (Nat.le_of_ble_eq_true rfl) dX1_init_25 (fun H locs M hM ha ho hS => ?_)
  have h_qb := (ho qb (Ne.symm n_a_qb)).trans h_qb
  have h_a : _ = some (Sum.inr (1, [.ref qb, .int 0, .int 0, .int 0]) : va_E) := ha
  have ho3 := ho
  exact mm_vret hx hb hr hlk hM hS (⟨qb, h_a, h_qb, fun q hq hqa => by rw [ho3 q hqa, ho2 q hqa, ho1 q hqa, ho0 q hqa, hoB q (fun e => hq (by rw [e]; exact hn0))]⟩) dX1_init_28

theorem in_X2_init_X2 : ∀ w ∈ u_ws RX2 TX2 5, w ∈ wsX2_init := fun w h => List.mem_cons_of_mem _ (List.mem_append_right _ h)
set_option maxHeartbeats 4000000 in
set_option maxRecDepth 100000 in
/-- Reader() -/
theorem c_X2_init {l : Launch} {D : va_G} {A : Nat → Prop} {cI cS cB cZ : ClassId} {M : Nat → Option va_E} {sz : Nat} (hA : ∀ q, sz ≤ q → A q) {a : Nat} (h_a : M a = some (Sum.inr (2, [.null, .int 0, .int 0, .int 0, .int 0]) : va_E)) : Met l yX2_init wsX2_init ({ frames := 1, cells := 1, slots := 6, locals := 20 }) (mm_Pc D A (mm_T cI cS cB cZ) M sz [.ref a]) (mm_Qv D A (fun M1 => ∃ qb : Nat, M1 a = some (Sum.inr (2, [.ref qb, .int 0, .int 2, .int 0, .int 0]) : va_E) ∧ M1 qb = some (Sum.inl (cI, 6, .inl (fun _ => 0)) : va_E) ∧ ∀ q, M q ≠ none → q ≠ a → M1 q = M q)) 1 6 A := by
  refine mm_met (cc := cX2_init) (maxL := 1) (ret := none) (by decide) rfl (Nat.le_of_ble_eq_true rfl) ?_
  intro p e s m args below meth c hx hb hr hts hown hlk hin hml hsz hK hM hS ls hl
  subst hsz
  have hl : lv_has ls 1 [(0, .ref a)] := hl
  refine lv_aload_n hx hb dX2_init_0 rfl (lv_at hl 0 rfl) ?_
  refine W.objInit hx hb hown (hts (.methodLink RX2 3 objectInit) (List.mem_of_getElem? (i := 1) rfl)) (hts (.instanceMethod objectInit) (List.mem_of_getElem? (i := 2) rfl)) (hts _ (List.mem_of_getElem? (i := 3) rfl)) rfl (by rw [hml]; exact hl.1) rfl dX2_init_1 (Nat.le_of_ble_eq_true rfl) (Nat.le_of_ble_eq_true rfl) ?_
  refine W.eq (g2 := F0 m 4 ls []) rfl ?_
  refine lv_aload_n hx hb dX2_init_4 rfl (lv_at hl 0 rfl) ?_
  refine lv_bipush (v := 6) hx hb dX2_init_5 (by decide) ?_
  refine mm_newa (atype := .int) (ty := .int) (N' := 6) hx hb (hts (.arrayClass .int) (List.mem_of_getElem? (i := 4) rfl)) rfl hK hM hS hA 0 rfl (fun _ h => by cases h) (mm_z_int 6) (by decide +kernel) (by decide +kernel) (by decide +kernel) (Nat.le_of_ble_eq_true rfl) (Nat.le_of_ble_eq_true rfl) dX2_init_7 (fun qb H M hM ha hn ho hS => ?_)
  have n_a_qb : a ≠ qb := mm_nn h_a hn
  have h_a := (ho a n_a_qb).trans h_a
  have h_qb : _ = some (Sum.inl (cI, 6, .inl (fun _ => 0)) : va_E) := ha
  refine W.widen (k := 1) (n := 6) (by omega) (by omega) ?_
  have hn0 := hn
  have hoB := ho
  refine mm_putF (v := .ref qb) (ci := 2) (C := RX2) (T := TX2) (N := 5) hx hb hts (in_X2_init_X2) tyX2 tyX2_ok nmX2 hown hK hM hS h_a rfl 0 (by decide) (hts (.fieldLink RX2 9 "GroupLog$Reader" "front" "[I") (List.mem_of_getElem? (i := 5) rfl)) rfl hin rfl rfl rfl (Nat.le_of_ble_eq_true rfl) dX2_init_9 (fun H locs M hM ha ho hS => ?_)
  have h_qb := (ho qb (Ne.symm n_a_qb)).trans h_qb
  have h_a : _ = some (Sum.inr (2, [.ref qb, .int 0, .int 0, .int 0, .int 0]) : va_E) := ha
  have ho0 := ho
  refine lv_aload_n hx hb dX2_init_12 rfl (lv_at hl 0 rfl) ?_
  refine lv_iconst (v := 0) hx hb dX2_init_13 (by decide) ?_
  refine mm_put (v := .int 0) (ci := 2) (C := RX2) (T := TX2) (N := 5) hx hb hts (in_X2_init_X2) tyX2 tyX2_ok nmX2 hown hK hM hS h_a rfl 1 (by decide) (hts (.fieldLink RX2 15 "GroupLog$Reader" "have" "I") (List.mem_of_getElem? (i := 6) rfl)) rfl rfl rfl (Nat.le_of_ble_eq_true rfl) dX2_init_14 (fun H locs M hM ha ho hS => ?_)
  have h_qb := (ho qb (Ne.symm n_a_qb)).trans h_qb
  have h_a : _ = some (Sum.inr (2, [.ref qb, .int 0, .int 0, .int 0, .int 0]) : va_E) := ha
  have ho1 := ho
  refine lv_aload_n hx hb dX2_init_17 rfl (lv_at hl 0 rfl) ?_
  refine lv_iconst (v := 2) hx hb dX2_init_18 (by decide) ?_
  refine mm_put (v := .int 2) (ci := 2) (C := RX2) (T := TX2) (N := 5) hx hb hts (in_X2_init_X2) tyX2 tyX2_ok nmX2 hown hK hM hS h_a rfl 2 (by decide) (hts (.fieldLink RX2 19 "GroupLog$Reader" "beginPlace" "I") (List.mem_of_getElem? (i := 7) rfl)) rfl rfl rfl (Nat.le_of_ble_eq_true rfl) dX2_init_19 (fun H locs M hM ha ho hS => ?_)
  have h_qb := (ho qb (Ne.symm n_a_qb)).trans h_qb
  have h_a : _ = some (Sum.inr (2, [.ref qb, .int 0, .int 2, .int 0, .int 0]) : va_E) := ha
  have ho2 := ho
  refine lv_aload_n hx hb dX2_init_22 rfl (lv_at hl 0 rfl) ?_
  refine lv_iconst (v := 0) hx hb dX2_init_23 (by decide) ?_
  refine mm_put (v := .int 0) (ci := 2) (C := RX2) (T := TX2) (N := 5) hx hb hts (in_X2_init_X2) tyX2 tyX2_ok nmX2 hown hK hM hS h_a rfl 3 (by decide) (hts (.fieldLink RX2 22 "GroupLog$Reader" "beginOffset" "I") (List.mem_of_getElem? (i := 8) rfl)) rfl rfl rfl (Nat.le_of_ble_eq_true rfl) dX2_init_24 (fun H locs M hM ha ho hS => ?_)
  have h_qb := (ho qb (Ne.symm n_a_qb)).trans h_qb
  have h_a : _ = some (Sum.inr (2, [.ref qb, .int 0, .int 2, .int 0, .int 0]) : va_E) := ha
  have ho3 := ho
  refine lv_aload_n hx hb dX2_init_27 rfl (lv_at hl 0 rfl) ?_
  refine lv_iconst (v := 0) hx hb dX2_init_28 (by decide) ?_
  refine mm_put (v := .int 0) (ci := 2) (C := RX2) (T := TX2) (N := 5) hx hb hts (in_X2_init_X2) tyX2 tyX2_ok nmX2 hown hK hM hS h_a rfl 4 (by decide) (hts (.fieldLink RX2 25 "GroupLog$Reader" "ended" "Z") (List.mem_of_getElem? (i := 9) rfl)) rfl rfl rfl (Nat.le_of_ble_eq_true rfl) dX2_init_29 (fun H locs M hM ha ho hS => ?_)
  have h_qb := (ho qb (Ne.symm n_a_qb)).trans h_qb
  have h_a : _ = some (Sum.inr (2, [.ref qb, .int 0, .int 2, .int 0, .int 0]) : va_E) := ha
  have ho4 := ho
  exact mm_vret hx hb hr hlk hM hS (⟨qb, h_a, h_qb, fun q hq hqa => by rw [ho4 q hqa, ho3 q hqa, ho2 q hqa, ho1 q hqa, ho0 q hqa, hoB q (fun e => hq (by rw [e]; exact hn0))]⟩) dX2_init_32

theorem in_X1_empty_X1 : ∀ w ∈ u_ws RX1 TX1 4, w ∈ wsX1_empty := fun w h => List.mem_cons_of_mem _ (List.mem_append_right _ h)
set_option maxHeartbeats 4000000 in
set_option maxRecDepth 100000 in
theorem c_X1_empty {l : Launch} {D : va_G} {A : Nat → Prop} {cI cS cB cZ : ClassId} {M : Nat → Option va_E} {sz : Nat} {a : Nat} {y : Value} {k1 k2 k3 : Int32} (h_a : M a = some (Sum.inr (1, [y, .int k1, .int k2, .int k3]) : va_E)) : Met l yX1_empty wsX1_empty ({ frames := 0, cells := 0, slots := 0, locals := 0 }) (mm_Pc D A (mm_T cI cS cB cZ) M sz [.ref a]) (mm_Qv D A (fun M1 => M1 a = some (Sum.inr (1, [y, .int 0, .int 0, .int 0]) : va_E) ∧ ∀ q, q ≠ a → M1 q = M q)) 0 0 A := by
  refine mm_met (cc := cX1_empty) (maxL := 1) (ret := none) (by decide) rfl (Nat.le_of_ble_eq_true rfl) ?_
  intro p e s m args below meth c hx hb hr hts hown hlk hin hml hsz hK hM hS ls hl
  subst hsz
  have hl : lv_has ls 1 [(0, .ref a)] := hl
  refine lv_aload_n hx hb dX1_empty_0 rfl (lv_at hl 0 rfl) ?_
  refine lv_iconst (v := 0) hx hb dX1_empty_1 (by decide) ?_
  refine mm_put (v := .int 0) (ci := 1) (C := RX1) (T := TX1) (N := 4) hx hb hts (in_X1_empty_X1) tyX1 tyX1_ok nmX1 hown hK hM hS h_a rfl 1 (by decide) (hts (.fieldLink RX1 15 "GroupLog$Queue" "length" "I") (List.mem_of_getElem? (i := 1) rfl)) rfl rfl rfl (Nat.le_of_ble_eq_true rfl) dX1_empty_2 (fun H locs M hM ha ho hS => ?_)
  have h_a : _ = some (Sum.inr (1, [y, .int 0, .int k2, .int k3]) : va_E) := ha
  have ho0 := ho
  refine lv_aload_n hx hb dX1_empty_5 rfl (lv_at hl 0 rfl) ?_
  refine lv_iconst (v := 0) hx hb dX1_empty_6 (by decide) ?_
  refine mm_put (v := .int 0) (ci := 1) (C := RX1) (T := TX1) (N := 4) hx hb hts (in_X1_empty_X1) tyX1 tyX1_ok nmX1 hown hK hM hS h_a rfl 2 (by decide) (hts (.fieldLink RX1 19 "GroupLog$Queue" "records" "I") (List.mem_of_getElem? (i := 2) rfl)) rfl rfl rfl (Nat.le_of_ble_eq_true rfl) dX1_empty_7 (fun H locs M hM ha ho hS => ?_)
  have h_a : _ = some (Sum.inr (1, [y, .int 0, .int 0, .int k3]) : va_E) := ha
  have ho1 := ho
  refine lv_aload_n hx hb dX1_empty_10 rfl (lv_at hl 0 rfl) ?_
  refine lv_iconst (v := 0) hx hb dX1_empty_11 (by decide) ?_
  refine mm_put (v := .int 0) (ci := 1) (C := RX1) (T := TX1) (N := 4) hx hb hts (in_X1_empty_X1) tyX1 tyX1_ok nmX1 hown hK hM hS h_a rfl 3 (by decide) (hts (.fieldLink RX1 22 "GroupLog$Queue" "waited" "I") (List.mem_of_getElem? (i := 3) rfl)) rfl rfl rfl (Nat.le_of_ble_eq_true rfl) dX1_empty_12 (fun H locs M hM ha ho hS => ?_)
  have h_a : _ = some (Sum.inr (1, [y, .int 0, .int 0, .int 0]) : va_E) := ha
  have ho2 := ho
  exact mm_vret hx hb hr hlk hM hS (⟨h_a, fun q hq => by rw [ho2 q hq, ho1 q hq, ho0 q hq]⟩) dX1_empty_15

theorem in_X1_sectorsWith_X1 : ∀ w ∈ u_ws RX1 TX1 4, w ∈ wsX1_sectorsWith := fun w h => List.mem_cons_of_mem _ (List.mem_append_right _ h)
set_option maxHeartbeats 4000000 in
set_option maxRecDepth 100000 in
/-- Queue.sectorsWith(0) of an empty queue -/
theorem c_X1_sectorsWith {l : Launch} {D : va_G} {A : Nat → Prop} {cI cS cB cZ : ClassId} {M : Nat → Option va_E} {sz : Nat} {a : Nat} {y : Value} {k2 k3 : Int32} (h_a : M a = some (Sum.inr (1, [y, .int 0, .int k2, .int k3]) : va_E)) : Met l yX1_sectorsWith wsX1_sectorsWith ({ frames := 0, cells := 0, slots := 0, locals := 0 }) (mm_Pc D A (mm_T cI cS cB cZ) M sz [.ref a, .int 0]) (mm_Qi D A (fun r M1 => r = 0 ∧ M1 = M)) 0 0 A := by
  refine mm_met (cc := cX1_sectorsWith) (maxL := 2) (ret := (some .int)) (by decide) rfl (Nat.le_of_ble_eq_true rfl) ?_
  intro p e s m args below meth c hx hb hr hts hown hlk hin hml hsz hK hM hS ls hl
  subst hsz
  have hl : lv_has ls 2 [(0, .ref a), (1, .int 0)] := hl
  refine lv_aload_n hx hb dX1_sectorsWith_0 rfl (lv_at hl 0 rfl) ?_
  refine mm_get (v := .int 0) (ci := 1) (C := RX1) (T := TX1) (N := 4) hx hb hts (in_X1_sectorsWith_X1) hown hK hM h_a rfl 1 (by decide) (hts (.fieldLink RX1 15 "GroupLog$Queue" "length" "I") (List.mem_of_getElem? (i := 1) rfl)) rfl dX1_sectorsWith_1 ?_
  refine lv_iload_n hx hb dX1_sectorsWith_4 rfl (lv_at hl 1 rfl) ?_
  refine lv_iadd hx hb dX1_sectorsWith_5 ?_
  refine lv_topi (fun z1 ez1 => ?_)
  have ez1 : z1 = 0 := ez1.trans (by decide)
  subst ez1
  refine lv_bipush (v := 48) hx hb dX1_sectorsWith_6 (by decide) ?_
  refine lv_iadd hx hb dX1_sectorsWith_8 ?_
  refine lv_topi (fun z2 ez2 => ?_)
  have ez2 : z2 = 48 := ez2.trans (by decide)
  subst ez2
  refine lv_iconst (v := 1) hx hb dX1_sectorsWith_9 (by decide) ?_
  refine lv_isub hx hb dX1_sectorsWith_10 ?_
  refine lv_topi (fun z3 ez3 => ?_)
  have ez3 : z3 = 47 := ez3.trans (by decide)
  subst ez3
  refine lv_bipush (v := 48) hx hb dX1_sectorsWith_11 (by decide) ?_
  refine lv_idiv hx hb dX1_sectorsWith_13 (by decide) ?_
  refine lv_topi (fun z4 ez4 => ?_)
  have ez4 : z4 = 0 := ez4.trans (by decide)
  subst ez4
  exact mm_iret hx hb hr hlk hM hS (⟨rfl, rfl⟩) dX1_sectorsWith_14

theorem in_X1_tellTo_X1 : ∀ w ∈ u_ws RX1 TX1 4, w ∈ wsX1_tellTo := fun w h => List.mem_cons_of_mem _ (List.mem_append_left _ (List.mem_append_right _ h))
set_option maxHeartbeats 4000000 in
set_option maxRecDepth 100000 in
/-- Queue.tellTo of an empty queue -/
theorem c_X1_tellTo {l : Launch} {D : va_G} {A : Nat → Prop} {cI cS cB cZ : ClassId} {M : Nat → Option va_E} {sz : Nat} {a lg : Nat} {y : Value} {k1 k3 : Int32} {pl : Int32} (h_a : M a = some (Sum.inr (1, [y, .int k1, .int 0, .int k3]) : va_E)) : Met l yX1_tellTo wsX1_tellTo ({ frames := 0, cells := 0, slots := 0, locals := 0 }) (mm_Pc D A (mm_T cI cS cB cZ) M sz [.ref a, .ref lg, .int pl]) (mm_Qv D A (fun M1 => M1 = M)) 0 0 A := by
  refine mm_met (cc := cX1_tellTo) (maxL := 5) (ret := none) (by decide) rfl (Nat.le_of_ble_eq_true rfl) ?_
  intro p e s m args below meth c hx hb hr hts hown hlk hin hml hsz hK hM hS ls hl
  subst hsz
  have hl : lv_has ls 5 [(0, .ref a), (1, .ref lg), (2, .int pl)] := hl
  refine lv_iconst (v := 0) hx hb dX1_tellTo_0 (by decide) ?_
  refine lv_istore_n (lv' := [(3, .int 0), (0, .ref a), (1, .ref lg), (2, .int pl)]) hx hb dX1_tellTo_1 rfl hl (by decide) rfl (fun ls hl => ?_)
  refine lv_iconst (v := 0) hx hb dX1_tellTo_2 (by decide) ?_
  refine lv_istore (lv' := [(4, .int 0), (3, .int 0), (0, .ref a), (1, .ref lg), (2, .int pl)]) hx hb dX1_tellTo_3 hl (by decide) rfl (fun ls hl => ?_)
  refine lv_iload hx hb dX1_tellTo_5 (lv_at hl 0 rfl) ?_
  refine lv_aload_n hx hb dX1_tellTo_7 rfl (lv_at hl 2 rfl) ?_
  refine mm_get (v := .int 0) (ci := 1) (C := RX1) (T := TX1) (N := 4) hx hb hts (in_X1_tellTo_X1) hown hK hM h_a rfl 2 (by decide) (hts (.fieldLink RX1 19 "GroupLog$Queue" "records" "I") (List.mem_of_getElem? (i := 1) rfl)) rfl dX1_tellTo_8 ?_
  refine lv_icmp_ge (tgt := 42) hx hb dX1_tellTo_11 (by decide) (fun c_1 => ?_) (fun c_1 => ?_)
  rotate_left
  · exact absurd c_1 (by decide)
  exact mm_vret hx hb hr hlk hM hS (rfl) dX1_tellTo_42

theorem in_X0_openAt_X0 : ∀ w ∈ u_ws RX0 TX0 8, w ∈ wsX0_openAt := fun w h => List.mem_cons_of_mem _ (List.mem_append_right _ h)
set_option maxHeartbeats 4000000 in
set_option maxRecDepth 100000 in
/-- Log.openAt(2, 1, 1) -/
theorem c_X0_openAt {l : Launch} {D : va_G} {A : Nat → Prop} {cI cS cB cZ : ClassId} {M : Nat → Option va_E} {sz : Nat} {a lb : Nat} {k1 k2 k3 k4 k5 k6 k7 : Int32} (h_a : M a = some (Sum.inr (0, [.ref lb, .int k1, .int k2, .int k3, .int k4, .int k5, .int k6, .int k7]) : va_E)) : Met l yX0_openAt wsX0_openAt ({ frames := 0, cells := 0, slots := 0, locals := 0 }) (mm_Pc D A (mm_T cI cS cB cZ) M sz [.ref a, .int 2, .int 1, .int 1]) (mm_Qv D A (fun M1 => M1 a = some (Sum.inr (0, [.ref lb, .int 1, .int 1, .int 0, .int 2, .int 0, .int 2, .int 1]) : va_E) ∧ ∀ q, q ≠ a → M1 q = M q)) 0 0 A := by
  refine mm_met (cc := cX0_openAt) (maxL := 4) (ret := none) (by decide) rfl (Nat.le_of_ble_eq_true rfl) ?_
  intro p e s m args below meth c hx hb hr hts hown hlk hin hml hsz hK hM hS ls hl
  subst hsz
  have hl : lv_has ls 4 [(0, .ref a), (1, .int 2), (2, .int 1), (3, .int 1)] := hl
  refine lv_aload_n hx hb dX0_openAt_0 rfl (lv_at hl 0 rfl) ?_
  refine lv_iload_n hx hb dX0_openAt_1 rfl (lv_at hl 3 rfl) ?_
  refine mm_put (v := .int 1) (ci := 0) (C := RX0) (T := TX0) (N := 8) hx hb hts (in_X0_openAt_X0) tyX0 tyX0_ok nmX0 hown hK hM hS h_a rfl 1 (by decide) (hts (.fieldLink RX0 19 "GroupLog$Log" "firstRecord" "I") (List.mem_of_getElem? (i := 1) rfl)) rfl rfl rfl (Nat.le_of_ble_eq_true rfl) dX0_openAt_2 (fun H locs M hM ha ho hS => ?_)
  have h_a : _ = some (Sum.inr (0, [.ref lb, .int 1, .int k2, .int k3, .int k4, .int k5, .int k6, .int k7]) : va_E) := ha
  have ho0 := ho
  refine lv_aload_n hx hb dX0_openAt_5 rfl (lv_at hl 0 rfl) ?_
  refine lv_iload_n hx hb dX0_openAt_6 rfl (lv_at hl 3 rfl) ?_
  refine mm_put (v := .int 1) (ci := 0) (C := RX0) (T := TX0) (N := 8) hx hb hts (in_X0_openAt_X0) tyX0 tyX0_ok nmX0 hown hK hM hS h_a rfl 2 (by decide) (hts (.fieldLink RX0 23 "GroupLog$Log" "keptFrom" "I") (List.mem_of_getElem? (i := 2) rfl)) rfl rfl rfl (Nat.le_of_ble_eq_true rfl) dX0_openAt_7 (fun H locs M hM ha ho hS => ?_)
  have h_a : _ = some (Sum.inr (0, [.ref lb, .int 1, .int 1, .int k3, .int k4, .int k5, .int k6, .int k7]) : va_E) := ha
  have ho1 := ho
  refine lv_aload_n hx hb dX0_openAt_10 rfl (lv_at hl 0 rfl) ?_
  refine lv_iload_n hx hb dX0_openAt_11 rfl (lv_at hl 3 rfl) ?_
  refine lv_iconst (v := 1) hx hb dX0_openAt_12 (by decide) ?_
  refine lv_isub hx hb dX0_openAt_13 ?_
  refine lv_topi (fun z1 ez1 => ?_)
  have ez1 : z1 = 0 := ez1.trans (by decide)
  subst ez1
  refine mm_put (v := .int 0) (ci := 0) (C := RX0) (T := TX0) (N := 8) hx hb hts (in_X0_openAt_X0) tyX0 tyX0_ok nmX0 hown hK hM hS h_a rfl 3 (by decide) (hts (.fieldLink RX0 26 "GroupLog$Log" "lastSafe" "I") (List.mem_of_getElem? (i := 3) rfl)) rfl rfl rfl (Nat.le_of_ble_eq_true rfl) dX0_openAt_14 (fun H locs M hM ha ho hS => ?_)
  have h_a : _ = some (Sum.inr (0, [.ref lb, .int 1, .int 1, .int 0, .int k4, .int k5, .int k6, .int k7]) : va_E) := ha
  have ho2 := ho
  refine lv_aload_n hx hb dX0_openAt_17 rfl (lv_at hl 0 rfl) ?_
  refine lv_iload_n hx hb dX0_openAt_18 rfl (lv_at hl 1 rfl) ?_
  refine mm_put (v := .int 2) (ci := 0) (C := RX0) (T := TX0) (N := 8) hx hb hts (in_X0_openAt_X0) tyX0 tyX0_ok nmX0 hown hK hM hS h_a rfl 4 (by decide) (hts (.fieldLink RX0 29 "GroupLog$Log" "firstPlace" "I") (List.mem_of_getElem? (i := 4) rfl)) rfl rfl rfl (Nat.le_of_ble_eq_true rfl) dX0_openAt_19 (fun H locs M hM ha ho hS => ?_)
  have h_a : _ = some (Sum.inr (0, [.ref lb, .int 1, .int 1, .int 0, .int 2, .int k5, .int k6, .int k7]) : va_E) := ha
  have ho3 := ho
  refine lv_aload_n hx hb dX0_openAt_22 rfl (lv_at hl 0 rfl) ?_
  refine lv_iconst (v := 0) hx hb dX0_openAt_23 (by decide) ?_
  refine mm_put (v := .int 0) (ci := 0) (C := RX0) (T := TX0) (N := 8) hx hb hts (in_X0_openAt_X0) tyX0 tyX0_ok nmX0 hown hK hM hS h_a rfl 5 (by decide) (hts (.fieldLink RX0 32 "GroupLog$Log" "used" "I") (List.mem_of_getElem? (i := 5) rfl)) rfl rfl rfl (Nat.le_of_ble_eq_true rfl) dX0_openAt_24 (fun H locs M hM ha ho hS => ?_)
  have h_a : _ = some (Sum.inr (0, [.ref lb, .int 1, .int 1, .int 0, .int 2, .int 0, .int k6, .int k7]) : va_E) := ha
  have ho4 := ho
  refine lv_aload_n hx hb dX0_openAt_27 rfl (lv_at hl 0 rfl) ?_
  refine lv_iload_n hx hb dX0_openAt_28 rfl (lv_at hl 1 rfl) ?_
  refine mm_put (v := .int 2) (ci := 0) (C := RX0) (T := TX0) (N := 8) hx hb hts (in_X0_openAt_X0) tyX0 tyX0_ok nmX0 hown hK hM hS h_a rfl 6 (by decide) (hts (.fieldLink RX0 35 "GroupLog$Log" "nextPlace" "I") (List.mem_of_getElem? (i := 6) rfl)) rfl rfl rfl (Nat.le_of_ble_eq_true rfl) dX0_openAt_29 (fun H locs M hM ha ho hS => ?_)
  have h_a : _ = some (Sum.inr (0, [.ref lb, .int 1, .int 1, .int 0, .int 2, .int 0, .int 2, .int k7]) : va_E) := ha
  have ho5 := ho
  refine lv_aload_n hx hb dX0_openAt_32 rfl (lv_at hl 0 rfl) ?_
  refine lv_iload_n hx hb dX0_openAt_33 rfl (lv_at hl 2 rfl) ?_
  refine mm_put (v := .int 1) (ci := 0) (C := RX0) (T := TX0) (N := 8) hx hb hts (in_X0_openAt_X0) tyX0 tyX0_ok nmX0 hown hK hM hS h_a rfl 7 (by decide) (hts (.fieldLink RX0 38 "GroupLog$Log" "nextSerial" "I") (List.mem_of_getElem? (i := 7) rfl)) rfl rfl rfl (Nat.le_of_ble_eq_true rfl) dX0_openAt_34 (fun H locs M hM ha ho hS => ?_)
  have h_a : _ = some (Sum.inr (0, [.ref lb, .int 1, .int 1, .int 0, .int 2, .int 0, .int 2, .int 1]) : va_E) := ha
  have ho6 := ho
  exact mm_vret hx hb hr hlk hM hS (⟨h_a, fun q hq => by rw [ho6 q hq, ho5 q hq, ho4 q hq, ho3 q hq, ho2 q hq, ho1 q hq, ho0 q hq]⟩) dX0_openAt_37

theorem in_X0_init_X0 : ∀ w ∈ u_ws RX0 TX0 8, w ∈ wsX0_init := fun w h => List.mem_cons_of_mem _ (List.mem_append_right _ h)
set_option maxHeartbeats 4000000 in
set_option maxRecDepth 100000 in
/-- Log() -/
theorem c_X0_init {l : Launch} {D : va_G} {A : Nat → Prop} {cI cS cB cZ : ClassId} {M : Nat → Option va_E} {sz : Nat} (hA : ∀ q, sz ≤ q → A q) {a : Nat} (h_a : M a = some (Sum.inr (0, [.null, .int 0, .int 0, .int 0, .int 0, .int 0, .int 0, .int 0]) : va_E)) : Met l yX0_init wsX0_init ({ frames := 1, cells := 1, slots := 512, locals := 23 }) (mm_Pc D A (mm_T cI cS cB cZ) M sz [.ref a]) (mm_Qv D A (fun M1 => ∃ qb : Nat, M1 a = some (Sum.inr (0, [.ref qb, .int 1, .int 1, .int 0, .int 2, .int 0, .int 2, .int 1]) : va_E) ∧ M1 qb = some (Sum.inl (cI, 512, .inl (fun _ => 0)) : va_E) ∧ ∀ q, M q ≠ none → q ≠ a → M1 q = M q)) 1 512 A := by
  refine mm_met (cc := cX0_init) (maxL := 1) (ret := none) (by decide) rfl (Nat.le_of_ble_eq_true rfl) ?_
  intro p e s m args below meth c hx hb hr hts hown hlk hin hml hsz hK hM hS ls hl
  subst hsz
  have hl : lv_has ls 1 [(0, .ref a)] := hl
  refine lv_aload_n hx hb dX0_init_0 rfl (lv_at hl 0 rfl) ?_
  refine W.objInit hx hb hown (hts (.methodLink RX0 3 objectInit) (List.mem_of_getElem? (i := 1) rfl)) (hts (.instanceMethod objectInit) (List.mem_of_getElem? (i := 2) rfl)) (hts _ (List.mem_of_getElem? (i := 3) rfl)) rfl (by rw [hml]; exact hl.1) rfl dX0_init_1 (Nat.le_of_ble_eq_true rfl) (Nat.le_of_ble_eq_true rfl) ?_
  refine W.eq (g2 := F0 m 4 ls []) rfl ?_
  refine lv_aload_n hx hb dX0_init_4 rfl (lv_at hl 0 rfl) ?_
  refine lv_sipush (v := 512) hx hb dX0_init_5 (by decide) ?_
  refine mm_newa (atype := .int) (ty := .int) (N' := 512) hx hb (hts (.arrayClass .int) (List.mem_of_getElem? (i := 4) rfl)) rfl hK hM hS hA 0 rfl (fun _ h => by cases h) (mm_z_int 512) (by decide +kernel) (by decide +kernel) (by decide +kernel) (Nat.le_of_ble_eq_true rfl) (Nat.le_of_ble_eq_true rfl) dX0_init_8 (fun qb H M hM ha hn ho hS => ?_)
  have n_a_qb : a ≠ qb := mm_nn h_a hn
  have h_a := (ho a n_a_qb).trans h_a
  have h_qb : _ = some (Sum.inl (cI, 512, .inl (fun _ => 0)) : va_E) := ha
  refine W.widen (k := 1) (n := 512) (by omega) (by omega) ?_
  have hn0 := hn
  have hoB := ho
  refine mm_putF (v := .ref qb) (ci := 0) (C := RX0) (T := TX0) (N := 8) hx hb hts (in_X0_init_X0) tyX0 tyX0_ok nmX0 hown hK hM hS h_a rfl 0 (by decide) (hts (.fieldLink RX0 9 "GroupLog$Log" "begins" "[I") (List.mem_of_getElem? (i := 5) rfl)) rfl hin rfl rfl rfl (Nat.le_of_ble_eq_true rfl) dX0_init_10 (fun H locs M hM ha ho hS => ?_)
  have h_qb := (ho qb (Ne.symm n_a_qb)).trans h_qb
  have h_a : _ = some (Sum.inr (0, [.ref qb, .int 0, .int 0, .int 0, .int 0, .int 0, .int 0, .int 0]) : va_E) := ha
  have ho0 := ho
  refine lv_aload_n hx hb dX0_init_13 rfl (lv_at hl 0 rfl) ?_
  refine lv_iconst (v := 2) hx hb dX0_init_14 (by decide) ?_
  refine lv_iconst (v := 1) hx hb dX0_init_15 (by decide) ?_
  refine lv_iconst (v := 1) hx hb dX0_init_16 (by decide) ?_
  refine mm_callv (mm_runV (As := [.int 2, .int 1, .int 1]) (rest := []) ⟨hx, hb, hml, hown, hts⟩ (c_X0_openAt h_a) (cwV 3 hts gX0_init_X0_openAt rfl rfl rfl (by decide +kernel) ⟨Nat.le_of_ble_eq_true rfl, Nat.le_of_ble_eq_true rfl⟩) hK hM h_a rfl rfl hl.1 rfl (Nat.le_of_ble_eq_true rfl) dX0_init_17 ⟨Nat.le_of_ble_eq_true rfl, Nat.le_of_ble_eq_true rfl⟩) hS (fun _ h => h) (fun M H locs hp hM hS hz _ => ?_)
  obtain ⟨ha, ho1⟩ := hp
  have h_qb := (ho1 qb (Ne.symm n_a_qb)).trans h_qb
  have h_a : _ = some (Sum.inr (0, [.ref qb, .int 1, .int 1, .int 0, .int 2, .int 0, .int 2, .int 1]) : va_E) := ha
  exact mm_vret hx hb hr hlk hM hS (⟨qb, h_a, h_qb, fun q hq hqa => by rw [ho1 q hqa, ho0 q hqa, hoB q (fun e => hq (by rw [e]; exact hn0))]⟩) dX0_init_20

theorem hs_no {k : Int32} (h : ¬ k < 1) : 0 < k := by
  rw [Int32.lt_iff_toInt_lt] at h ⊢
  have e1 : (1 : Int32).toInt = 1 := by decide
  have e0 : (0 : Int32).toInt = 0 := by decide
  omega

theorem in_X0_has_X0 : ∀ w ∈ u_ws RX0 TX0 8, w ∈ wsX0_has := fun w h => List.mem_cons_of_mem _ (List.mem_append_right _ h)
set_option maxHeartbeats 4000000 in
set_option maxRecDepth 100000 in
/-- Log.has of a new log: none -/
theorem c_X0_has {l : Launch} {D : va_G} {A : Nat → Prop} {cI cS cB cZ : ClassId} {M : Nat → Option va_E} {sz : Nat} {a lb : Nat} {k : Int32} (h_a : M a = some (Sum.inr (0, [.ref lb, .int 1, .int 1, .int 0, .int 2, .int 0, .int 2, .int 1]) : va_E)) : Met l yX0_has wsX0_has ({ frames := 0, cells := 0, slots := 0, locals := 0 }) (mm_Pc D A (mm_T cI cS cB cZ) M sz [.ref a, .int k]) (mm_Qi D A (fun r M1 => r = 0 ∧ M1 = M)) 0 0 A := by
  refine mm_met (cc := cX0_has) (maxL := 2) (ret := (some .boolean)) (by decide) rfl (Nat.le_of_ble_eq_true rfl) ?_
  intro p e s m args below meth c hx hb hr hts hown hlk hin hml hsz hK hM hS ls hl
  subst hsz
  have hl : lv_has ls 2 [(0, .ref a), (1, .int k)] := hl
  refine lv_iload_n hx hb dX0_has_0 rfl (lv_at hl 1 rfl) ?_
  refine lv_aload_n hx hb dX0_has_1 rfl (lv_at hl 0 rfl) ?_
  refine mm_get (v := .int 1) (ci := 0) (C := RX0) (T := TX0) (N := 8) hx hb hts (in_X0_has_X0) hown hK hM h_a rfl 1 (by decide) (hts (.fieldLink RX0 19 "GroupLog$Log" "firstRecord" "I") (List.mem_of_getElem? (i := 1) rfl)) rfl dX0_has_2 ?_
  refine lv_icmp_lt (tgt := 20) hx hb dX0_has_5 (by decide) (fun c_1 => ?_) (fun c_1 => ?_)
  · skip
    refine lv_iconst (v := 0) hx hb dX0_has_20 (by decide) ?_
    exact mm_zret hx hb hr hlk (rfl) hM hS (⟨rfl, rfl⟩) dX0_has_21
  · skip
    refine lv_iload_n hx hb dX0_has_8 rfl (lv_at hl 1 rfl) ?_
    refine lv_aload_n hx hb dX0_has_9 rfl (lv_at hl 0 rfl) ?_
    refine mm_get (v := .int 0) (ci := 0) (C := RX0) (T := TX0) (N := 8) hx hb hts (in_X0_has_X0) hown hK hM h_a rfl 3 (by decide) (hts (.fieldLink RX0 26 "GroupLog$Log" "lastSafe" "I") (List.mem_of_getElem? (i := 2) rfl)) rfl dX0_has_10 ?_
    refine lv_icmp_gt (tgt := 20) hx hb dX0_has_13 (by decide) (fun c_2 => ?_) (fun c_2 => ?_)
    rotate_left
    · exact absurd c_2 (fun h => h (hs_no c_1))
    refine lv_iconst (v := 0) hx hb dX0_has_20 (by decide) ?_
    exact mm_zret hx hb hr hlk (rfl) hM hS (⟨rfl, rfl⟩) dX0_has_21

theorem in_X0_placeOf_X0 : ∀ w ∈ u_ws RX0 TX0 8, w ∈ wsX0_placeOf := fun w h => List.mem_cons_of_mem _ (List.mem_append_right _ h)
set_option maxHeartbeats 4000000 in
set_option maxRecDepth 100000 in
/-- Log.placeOf(1) of a new log -/
theorem c_X0_placeOf {l : Launch} {D : va_G} {A : Nat → Prop} {cI cS cB cZ : ClassId} {M : Nat → Option va_E} {sz : Nat} {a lb : Nat} (h_a : M a = some (Sum.inr (0, [.ref lb, .int 1, .int 1, .int 0, .int 2, .int 0, .int 2, .int 1]) : va_E)) : Met l yX0_placeOf wsX0_placeOf ({ frames := 0, cells := 0, slots := 0, locals := 0 }) (mm_Pc D A (mm_T cI cS cB cZ) M sz [.ref a, .int 1]) (mm_Qi D A (fun r M1 => r = 2 ∧ M1 = M)) 0 0 A := by
  refine mm_met (cc := cX0_placeOf) (maxL := 2) (ret := (some .int)) (by decide) rfl (Nat.le_of_ble_eq_true rfl) ?_
  intro p e s m args below meth c hx hb hr hts hown hlk hin hml hsz hK hM hS ls hl
  subst hsz
  have hl : lv_has ls 2 [(0, .ref a), (1, .int 1)] := hl
  refine lv_iload_n hx hb dX0_placeOf_0 rfl (lv_at hl 1 rfl) ?_
  refine lv_aload_n hx hb dX0_placeOf_1 rfl (lv_at hl 0 rfl) ?_
  refine mm_get (v := .int 0) (ci := 0) (C := RX0) (T := TX0) (N := 8) hx hb hts (in_X0_placeOf_X0) hown hK hM h_a rfl 3 (by decide) (hts (.fieldLink RX0 26 "GroupLog$Log" "lastSafe" "I") (List.mem_of_getElem? (i := 1) rfl)) rfl dX0_placeOf_2 ?_
  refine lv_icmp_le (tgt := 15) hx hb dX0_placeOf_5 (by decide) (fun c_1 => ?_) (fun c_1 => ?_)
  · exact absurd c_1 (by decide)
  refine lv_aload_n hx hb dX0_placeOf_8 rfl (lv_at hl 0 rfl) ?_
  refine mm_get (v := .int 2) (ci := 0) (C := RX0) (T := TX0) (N := 8) hx hb hts (in_X0_placeOf_X0) hown hK hM h_a rfl 6 (by decide) (hts (.fieldLink RX0 35 "GroupLog$Log" "nextPlace" "I") (List.mem_of_getElem? (i := 2) rfl)) rfl dX0_placeOf_9 ?_
  refine lv_goto (tgt := 23) hx hb dX0_placeOf_12 (by decide) ?_
  exact mm_iret hx hb hr hlk hM hS (⟨rfl, rfl⟩) dX0_placeOf_23

set_option maxHeartbeats 4000000 in
set_option maxRecDepth 100000 in
/-- Log.firstBeginningWith(1) of a new log -/
theorem c_X0_firstBeginningWith {l : Launch} {D : va_G} {A : Nat → Prop} {cI cS cB cZ : ClassId} {M : Nat → Option va_E} {sz : Nat} {a lb : Nat} (h_a : M a = some (Sum.inr (0, [.ref lb, .int 1, .int 1, .int 0, .int 2, .int 0, .int 2, .int 1]) : va_E)) : Met l yX0_firstBeginningWith wsX0_firstBeginningWith ({ frames := 1, cells := 0, slots := 0, locals := 21 }) (mm_Pc D A (mm_T cI cS cB cZ) M sz [.ref a, .int 1]) (mm_Qi D A (fun r M1 => r = 1 ∧ M1 = M)) 0 0 A := by
  refine mm_met (cc := cX0_firstBeginningWith) (maxL := 4) (ret := (some .int)) (by decide) rfl (Nat.le_of_ble_eq_true rfl) ?_
  intro p e s m args below meth c hx hb hr hts hown hlk hin hml hsz hK hM hS ls hl
  subst hsz
  have hl : lv_has ls 4 [(0, .ref a), (1, .int 1)] := hl
  refine lv_aload_n hx hb dX0_firstBeginningWith_0 rfl (lv_at hl 0 rfl) ?_
  refine lv_iload_n hx hb dX0_firstBeginningWith_1 rfl (lv_at hl 1 rfl) ?_
  refine mm_calli (mm_runV (As := [.int 1]) (rest := []) ⟨hx, hb, hml, hown, hts⟩ (c_X0_has h_a) (cwV 1 hts gX0_firstBeginningWith_X0_has rfl rfl rfl (by decide +kernel) ⟨Nat.le_of_ble_eq_true rfl, Nat.le_of_ble_eq_true rfl⟩) hK hM h_a rfl rfl hl.1 rfl (Nat.le_of_ble_eq_true rfl) dX0_firstBeginningWith_2 ⟨Nat.le_of_ble_eq_true rfl, Nat.le_of_ble_eq_true rfl⟩) hS (fun _ h => h) (fun r1 M H locs hp hM hS hz _ => ?_)
  obtain ⟨rfl, hme⟩ := hp
  rw [hme] at hM
  refine lv_if_ne (tgt := 10) hx hb dX0_firstBeginningWith_5 (by decide) (fun c_2 => ?_) (fun c_2 => ?_)
  · exact absurd c_2 (by decide)
  refine lv_iload_n hx hb dX0_firstBeginningWith_8 rfl (lv_at hl 1 rfl) ?_
  exact mm_iret hx hb hr hlk hM hS (⟨rfl, rfl⟩) dX0_firstBeginningWith_9

theorem in_X0_giveUpBefore_X0 : ∀ w ∈ u_ws RX0 TX0 8, w ∈ wsX0_giveUpBefore := fun w h => List.mem_cons_of_mem _ (List.mem_append_right _ h)
set_option maxHeartbeats 4000000 in
set_option maxRecDepth 100000 in
/-- Log.giveUpBefore(1, 1, 2) of a new log -/
theorem c_X0_giveUpBefore {l : Launch} {D : va_G} {A : Nat → Prop} {cI cS cB cZ : ClassId} {M : Nat → Option va_E} {sz : Nat} {a lb : Nat} (h_a : M a = some (Sum.inr (0, [.ref lb, .int 1, .int 1, .int 0, .int 2, .int 0, .int 2, .int 1]) : va_E)) : Met l yX0_giveUpBefore wsX0_giveUpBefore ({ frames := 0, cells := 0, slots := 0, locals := 0 }) (mm_Pc D A (mm_T cI cS cB cZ) M sz [.ref a, .int 1, .int 1, .int 2]) (mm_Qi D A (fun r M1 => r = 0)) 0 0 A := by
  refine mm_met (cc := cX0_giveUpBefore) (maxL := 5) (ret := (some .int)) (by decide) rfl (Nat.le_of_ble_eq_true rfl) ?_
  intro p e s m args below meth c hx hb hr hts hown hlk hin hml hsz hK hM hS ls hl
  subst hsz
  have hl : lv_has ls 5 [(0, .ref a), (1, .int 1), (2, .int 1), (3, .int 2)] := hl
  refine lv_iload_n hx hb dX0_giveUpBefore_0 rfl (lv_at hl 1 rfl) ?_
  refine lv_aload_n hx hb dX0_giveUpBefore_1 rfl (lv_at hl 0 rfl) ?_
  refine mm_get (v := .int 0) (ci := 0) (C := RX0) (T := TX0) (N := 8) hx hb hts (in_X0_giveUpBefore_X0) hown hK hM h_a rfl 3 (by decide) (hts (.fieldLink RX0 26 "GroupLog$Log" "lastSafe" "I") (List.mem_of_getElem? (i := 1) rfl)) rfl dX0_giveUpBefore_2 ?_
  refine lv_icmp_le (tgt := 15) hx hb dX0_giveUpBefore_5 (by decide) (fun c_1 => ?_) (fun c_1 => ?_)
  · exact absurd c_1 (by decide)
  refine lv_aload_n hx hb dX0_giveUpBefore_8 rfl (lv_at hl 0 rfl) ?_
  refine mm_get (v := .int 0) (ci := 0) (C := RX0) (T := TX0) (N := 8) hx hb hts (in_X0_giveUpBefore_X0) hown hK hM h_a rfl 5 (by decide) (hts (.fieldLink RX0 32 "GroupLog$Log" "used" "I") (List.mem_of_getElem? (i := 2) rfl)) rfl dX0_giveUpBefore_9 ?_
  refine lv_goto (tgt := 26) hx hb dX0_giveUpBefore_12 (by decide) ?_
  refine lv_istore (lv' := [(4, .int 0), (0, .ref a), (1, .int 1), (2, .int 1), (3, .int 2)]) hx hb dX0_giveUpBefore_26 hl (by decide) rfl (fun ls hl => ?_)
  refine lv_aload_n hx hb dX0_giveUpBefore_28 rfl (lv_at hl 1 rfl) ?_
  refine lv_dup hx hb dX0_giveUpBefore_29 rfl ?_
  refine mm_get (v := .int 0) (ci := 0) (C := RX0) (T := TX0) (N := 8) hx hb hts (in_X0_giveUpBefore_X0) hown hK hM h_a rfl 5 (by decide) (hts (.fieldLink RX0 32 "GroupLog$Log" "used" "I") (List.mem_of_getElem? (i := 2) rfl)) rfl dX0_giveUpBefore_30 ?_
  refine lv_iload hx hb dX0_giveUpBefore_33 (lv_at hl 0 rfl) ?_
  refine lv_isub hx hb dX0_giveUpBefore_35 ?_
  refine lv_topi (fun z2 ez2 => ?_)
  have ez2 : z2 = 0 := ez2.trans (by decide)
  subst ez2
  refine mm_put (v := .int 0) (ci := 0) (C := RX0) (T := TX0) (N := 8) hx hb hts (in_X0_giveUpBefore_X0) tyX0 tyX0_ok nmX0 hown hK hM hS h_a rfl 5 (by decide) (hts (.fieldLink RX0 32 "GroupLog$Log" "used" "I") (List.mem_of_getElem? (i := 2) rfl)) rfl rfl rfl (Nat.le_of_ble_eq_true rfl) dX0_giveUpBefore_36 (fun H locs M hM ha ho hS => ?_)
  have h_a : _ = some (Sum.inr (0, [.ref lb, .int 1, .int 1, .int 0, .int 2, .int 0, .int 2, .int 1]) : va_E) := ha
  refine lv_aload_n hx hb dX0_giveUpBefore_39 rfl (lv_at hl 1 rfl) ?_
  refine lv_iload_n hx hb dX0_giveUpBefore_40 rfl (lv_at hl 4 rfl) ?_
  refine mm_put (v := .int 2) (ci := 0) (C := RX0) (T := TX0) (N := 8) hx hb hts (in_X0_giveUpBefore_X0) tyX0 tyX0_ok nmX0 hown hK hM hS h_a rfl 4 (by decide) (hts (.fieldLink RX0 29 "GroupLog$Log" "firstPlace" "I") (List.mem_of_getElem? (i := 3) rfl)) rfl rfl rfl (Nat.le_of_ble_eq_true rfl) dX0_giveUpBefore_41 (fun H locs M hM ha ho hS => ?_)
  have h_a : _ = some (Sum.inr (0, [.ref lb, .int 1, .int 1, .int 0, .int 2, .int 0, .int 2, .int 1]) : va_E) := ha
  refine lv_aload_n hx hb dX0_giveUpBefore_44 rfl (lv_at hl 1 rfl) ?_
  refine lv_iload_n hx hb dX0_giveUpBefore_45 rfl (lv_at hl 3 rfl) ?_
  refine mm_put (v := .int 1) (ci := 0) (C := RX0) (T := TX0) (N := 8) hx hb hts (in_X0_giveUpBefore_X0) tyX0 tyX0_ok nmX0 hown hK hM hS h_a rfl 1 (by decide) (hts (.fieldLink RX0 19 "GroupLog$Log" "firstRecord" "I") (List.mem_of_getElem? (i := 4) rfl)) rfl rfl rfl (Nat.le_of_ble_eq_true rfl) dX0_giveUpBefore_46 (fun H locs M hM ha ho hS => ?_)
  have h_a : _ = some (Sum.inr (0, [.ref lb, .int 1, .int 1, .int 0, .int 2, .int 0, .int 2, .int 1]) : va_E) := ha
  refine lv_aload_n hx hb dX0_giveUpBefore_49 rfl (lv_at hl 1 rfl) ?_
  refine lv_iload_n hx hb dX0_giveUpBefore_50 rfl (lv_at hl 2 rfl) ?_
  refine mm_put (v := .int 1) (ci := 0) (C := RX0) (T := TX0) (N := 8) hx hb hts (in_X0_giveUpBefore_X0) tyX0 tyX0_ok nmX0 hown hK hM hS h_a rfl 2 (by decide) (hts (.fieldLink RX0 23 "GroupLog$Log" "keptFrom" "I") (List.mem_of_getElem? (i := 5) rfl)) rfl rfl rfl (Nat.le_of_ble_eq_true rfl) dX0_giveUpBefore_51 (fun H locs M hM ha ho hS => ?_)
  have h_a : _ = some (Sum.inr (0, [.ref lb, .int 1, .int 1, .int 0, .int 2, .int 0, .int 2, .int 1]) : va_E) := ha
  refine lv_iload hx hb dX0_giveUpBefore_54 (lv_at hl 0 rfl) ?_
  exact mm_iret hx hb hr hlk hM hS (rfl) dX0_giveUpBefore_56

theorem in_X4_init_X3 : ∀ w ∈ u_ws RX3 TX3 2, w ∈ wsX4_init := fun w h => List.mem_cons_of_mem _ (List.mem_append_right _ h)
theorem in_X4_init_X4 : ∀ w ∈ u_ws RX4 TX4 4, w ∈ wsX4_init := fun w h => List.mem_cons_of_mem _ (List.mem_append_left _ (List.mem_append_right _ h))
set_option maxHeartbeats 4000000 in
set_option maxRecDepth 100000 in
theorem lp_X4_init {p : Program} {l : Launch} {e : Env} {s : State} {m : MethodId} {args : Array Value} {below : List Frame} {meth : Method} {c : Code} {Q : State → Prop} {D : va_G} {A : Nat → Prop} {cI cS cB cZ : ClassId} (hx : p.tables.exec = Jvm.exec) (hb : c.code = cX4_init) (hts : ∀ w ∈ wsX4_init, w.before args s = true) (hown : s.vm.findClass RX4 = some m.cls) (hml : c.maxLocals = 2) (hK : mm_K D (mm_T cI cS cB cZ) s) {a sa : Nat} {M0 : Nat → Option va_E} (hA : ∀ q, s.heap.size ≤ q → A q) (hs0 : M0 sa = none) :
    ∀ (n i : Nat), i + n = 64 → ∀ (M : Nat → Option va_E) (H : Heap) (locs : List Loc) (fa : Nat → Option Nat) (g h : Nat → Nat), mm_W D A M H → va_S A s.heap H locs → M a = some (Sum.inr (4, [.ref sa, .int 0, .int 0, .int 0]) : va_E) → M sa = some (Sum.inl (cS, 64, .inr (.inr (.inr (.inr (fa))))) : va_E) → st_inv cI M fa g h (fun _ _ => 0) i → (∀ q, M0 q ≠ none → q ≠ a → M q = M0 q) → (∀ (M1 : Nat → Option va_E) (H1 : Heap) (locs1 : List Loc) (fa1 : Nat → Option Nat) (g1 h1 : Nat → Nat) (ls1 : Array Slot), mm_W D A M1 H1 → va_S A s.heap H1 locs1 → M1 a = some (Sum.inr (4, [.ref sa, .int 0, .int 0, .int 0]) : va_E) → M1 sa = some (Sum.inl (cS, 64, .inr (.inr (.inr (.inr (fa1))))) : va_E) → st_inv cI M1 fa1 g1 h1 (fun _ _ => 0) 64 → (∀ q, M0 q ≠ none → q ≠ a → M1 q = M0 q) → lv_has ls1 2 [(0, .ref a), (1, .int (nI 64))] → W p l e ({ frames := 2, cells := 129, slots := 4288, locals := 40 } : Room) s m args below meth c H1 locs1 129 4288 Q (F0 m 43 ls1 [])) → ∀ ls : Array Slot, lv_has ls 2 [(0, .ref a), (1, .int (nI i))] → W p l e ({ frames := 2, cells := 129, slots := 4288, locals := 40 } : Room) s m args below meth c H locs (1 + 2 * i) (64 + 66 * i) Q (F0 m 15 ls []) := by
  intro n
  induction n with
  | zero =>
    intro i hi M H locs fa g h hM hS h_a h_sa hI hO kx ls hl
    obtain rfl : i = 64 := by omega
    refine lv_iload_n hx hb dX4_init_15 rfl (lv_at hl 1 rfl) ?_
    refine lv_aload_n hx hb dX4_init_16 rfl (lv_at hl 0 rfl) ?_
    refine mm_get (v := .ref sa) (ci := 4) (C := RX4) (T := TX4) (N := 4) hx hb hts (in_X4_init_X4) hown hK hM h_a rfl 0 (by decide) (hts (.fieldLink RX4 11 "GroupLog$Store" "sectors" "[LGroupLog$Sector;") (List.mem_of_getElem? (i := 5) rfl)) rfl dX4_init_17 ?_
    refine mm_alen (v := 64) hx hb hK hM 1 h_sa rfl rfl dX4_init_20 ?_
    refine lv_icmp_ge (tgt := 43) hx hb dX4_init_21 (by decide) (fun c_1 => ?_) (fun c_1 => ?_)
    rotate_left
    · exact absurd c_1 (fun h => h (by decide))
    refine W.widen (k := 129) (n := 4288) (by omega) (by omega) ?_
    exact kx M H locs fa g h ls hM hS h_a h_sa hI hO hl
  | succ n ih =>
    intro i hi M H locs fa g h hM hS h_a h_sa hI hO kx ls hl
    have hroom : i < 64 := by omega
    refine lv_iload_n hx hb dX4_init_15 rfl (lv_at hl 1 rfl) ?_
    refine lv_aload_n hx hb dX4_init_16 rfl (lv_at hl 0 rfl) ?_
    refine mm_get (v := .ref sa) (ci := 4) (C := RX4) (T := TX4) (N := 4) hx hb hts (in_X4_init_X4) hown hK hM h_a rfl 0 (by decide) (hts (.fieldLink RX4 11 "GroupLog$Store" "sectors" "[LGroupLog$Sector;") (List.mem_of_getElem? (i := 5) rfl)) rfl dX4_init_17 ?_
    refine mm_alen (v := 64) hx hb hK hM 1 h_sa rfl rfl dX4_init_20 ?_
    refine lv_icmp_ge (tgt := 43) hx hb dX4_init_21 (by decide) (fun c_2 => ?_) (fun c_2 => ?_)
    · exact absurd c_2 (nI_ge (b := 64) (by omega) (by decide))
    refine lv_aload_n hx hb dX4_init_24 rfl (lv_at hl 0 rfl) ?_
    refine mm_get (v := .ref sa) (ci := 4) (C := RX4) (T := TX4) (N := 4) hx hb hts (in_X4_init_X4) hown hK hM h_a rfl 0 (by decide) (hts (.fieldLink RX4 11 "GroupLog$Store" "sectors" "[LGroupLog$Sector;") (List.mem_of_getElem? (i := 5) rfl)) rfl dX4_init_25 ?_
    refine lv_iload_n hx hb dX4_init_28 rfl (lv_at hl 1 rfl) ?_
    refine mm_new (ci := 3) (fs := [.null, .int 0]) (C := RX3) (T := TX3) (N := 2) hx hb hts (in_X4_init_X3) tyX3 tyX3_ok hown (hts (.classLink RX4 9 RX3) (List.mem_of_getElem? (i := 4) rfl)) (hts (.instantiable RX3 2) (List.mem_of_getElem? (i := 6) rfl)) (hts (.initialized RX3) (List.mem_of_getElem? (i := 7) rfl)) hK hM hS hA rfl (def_X3) (by show _ ≤ 129; omega) (by show _ ≤ 4288; omega) dX4_init_29 (fun q1 H M hM ha hn ho hS => ?_)
    have n_a_q1 : a ≠ q1 := mm_nn h_a hn
    have h_a := (ho a n_a_q1).trans h_a
    have n_sa_q1 : sa ≠ q1 := mm_nn h_sa hn
    have h_sa := (ho sa n_sa_q1).trans h_sa
    have h_q1 : _ = some (Sum.inr (3, [.null, .int 0]) : va_E) := ha
    have hgn : ∀ j, j < i → g j ≠ q1 ∧ h j ≠ q1 := fun j hj => ⟨mm_nn (hI j hj).2.1 hn, mm_nn (hI j hj).2.2.1 hn⟩
    have hq1 : ∀ q, M0 q ≠ none → q ≠ a → q ≠ q1 := fun q hq hqa e => hq (by rw [← hO q hq hqa, e]; exact hn)
    have hI := st_keep hI (fun j hj => ⟨ho _ (hgn j hj).1, ho _ (hgn j hj).2⟩)
    have hO : ∀ q, M0 q ≠ none → q ≠ a → M q = M0 q := fun q hq hqa => (ho q (hq1 q hq hqa)).trans (hO q hq hqa)
    refine lv_dup hx hb dX4_init_32 rfl ?_
    refine mm_callv (mm_runI (As := []) (rest := [.ref q1, .int (nI i), .ref sa]) ⟨hx, hb, hml, hown, hts⟩ (c_X3_init (mm_hA hA hS) h_q1) (cwI 0 hts gX4_init_X3_init rfl rfl rfl (hts (.initialized RX3) (List.mem_of_getElem? (i := 7) rfl)) (hts (.methodLink RX4 17 yX3_init) (List.mem_of_getElem? (i := 11) rfl)) (hts (.instanceMethod yX3_init) (List.mem_of_getElem? (i := 12) rfl)) rfl (by decide +kernel) ⟨Nat.le_of_ble_eq_true rfl, Nat.le_of_ble_eq_true rfl⟩) hK hM rfl hl.1 rfl (Nat.le_of_ble_eq_true rfl) dX4_init_33 ⟨by show _ ≤ 129; omega, by show _ ≤ 4288; omega⟩) hS (fun _ h => h) (fun M H locs hp hM hS hz _ => ?_)
    obtain ⟨qb, hnb, hq2, hq3, ho⟩ := hp
    have hh0 : 0 < i → qb ≠ h 0 := fun h0 => Ne.symm (mm_nn (hI 0 h0).2.2.1 hnb)
    have hI := st_keep hI (fun j hj => ⟨ho _ (hgn j hj).1 (mm_nn (hI j hj).2.1 hnb), ho _ (hgn j hj).2 (mm_nn (hI j hj).2.2.1 hnb)⟩)
    have hO : ∀ q, M0 q ≠ none → q ≠ a → M q = M0 q := fun q hq hqa => (ho q (hq1 q hq hqa) (fun e => hq (by rw [← hO q hq hqa, e]; exact hnb))).trans (hO q hq hqa)
    have h_a := (ho a n_a_q1 (mm_nn h_a hnb)).trans h_a
    have h_sa := (ho sa n_sa_q1 (mm_nn h_sa hnb)).trans h_sa
    have h_q1 : _ = some (Sum.inr (3, [.ref qb, .int 0]) : va_E) := hq2
    have h_qb : _ = some (Sum.inl (cI, 64, .inl (fun _ => 0)) : va_E) := hq3
    have h_sO := h_sa
    refine mm_astq (r := (RX3, TX3, 2)) hx hb hK hM hS 1 3 h_sa rfl h_q1 rfl (j := i) (rfl) (hroom) (by decide) dX4_init_36 (fun H locs M hM ha ho hS => ?_)
    have h_a := (ho a (mm_ne h_a h_sa mm_oa)).trans h_a
    have h_q1 := (ho q1 (Ne.symm n_sa_q1)).trans h_q1
    have h_qb := (ho qb (mm_ne h_qb h_sa mm_iq)).trans h_qb
    have h_sa : _ = some (Sum.inl (cS, 64, .inr (.inr (.inr (.inr (va_up (fa) (i) (some q1)))))) : va_E) := ha
    have hI := st_keep hI (fun j hj => ⟨ho _ (mm_ne (hI j hj).2.1 h_sO mm_oa), ho _ (mm_ne (hI j hj).2.2.1 h_sO mm_iq)⟩)
    have hO : ∀ q, M0 q ≠ none → q ≠ a → M q = M0 q := fun q hq hqa => (ho q (fun e => hq (by rw [e]; exact hs0))).trans (hO q hq hqa)
    have hI := st_add hI h_q1 h_qb hh0
    refine lv_iinc (v := (nI (i + 1))) (lv' := [(1, .int (nI (i + 1))), (0, .ref a)]) hx hb dX4_init_37 hl (k := 1) rfl (by show _ + (1 : Int32) = _; exact nI_1 i) (by decide) rfl (fun ls hl => ?_)
    refine lv_goto (tgt := 15) hx hb dX4_init_40 (by decide) ?_
    refine W.widen (k := 1 + 2 * (i + 1)) (n := 64 + 66 * (i + 1)) (by omega) (by omega) ?_
    exact ih (i + 1) (by omega) M H locs _ _ _ hM hS h_a h_sa hI hO kx ls (lv_sub hl [1, 0] rfl)

set_option maxHeartbeats 4000000 in
set_option maxRecDepth 100000 in
/-- Store(): 64 sectors -/
theorem c_X4_init {l : Launch} {D : va_G} {A : Nat → Prop} {cI cS cB cZ : ClassId} {M : Nat → Option va_E} {sz : Nat} (hA : ∀ q, sz ≤ q → A q) {a : Nat} (h_a : M a = some (Sum.inr (4, [.null, .int 0, .int 0, .int 0]) : va_E)) : Met l yX4_init wsX4_init ({ frames := 2, cells := 129, slots := 4288, locals := 40 }) (mm_Pc D A (mm_T cI cS cB cZ) M sz [.ref a]) (mm_Qv D A (fun M1 => ∃ (sa : Nat) (fa : Nat → Option Nat) (g h : Nat → Nat), M1 a = some (Sum.inr (4, [.ref sa, .int 0, .int (-1), .int 0]) : va_E) ∧ M1 sa = some (Sum.inl (cS, 64, .inr (.inr (.inr (.inr (fa))))) : va_E) ∧ st_inv cI M1 fa g h (fun _ _ => 0) 64 ∧ ∀ q, M q ≠ none → q ≠ a → M1 q = M q)) 129 4288 A := by
  refine mm_met (cc := cX4_init) (maxL := 2) (ret := none) (by decide) rfl (Nat.le_of_ble_eq_true rfl) ?_
  intro p e s m args below meth c hx hb hr hts hown hlk hin hml hsz hK hM hS ls hl
  subst hsz
  have hl : lv_has ls 2 [(0, .ref a)] := hl
  refine lv_aload_n hx hb dX4_init_0 rfl (lv_at hl 0 rfl) ?_
  refine W.objInit hx hb hown (hts (.methodLink RX4 3 objectInit) (List.mem_of_getElem? (i := 1) rfl)) (hts (.instanceMethod objectInit) (List.mem_of_getElem? (i := 2) rfl)) (hts _ (List.mem_of_getElem? (i := 3) rfl)) rfl (by rw [hml]; exact hl.1) rfl dX4_init_1 (Nat.le_of_ble_eq_true rfl) (Nat.le_of_ble_eq_true rfl) ?_
  refine W.eq (g2 := F0 m 4 ls []) rfl ?_
  refine lv_aload_n hx hb dX4_init_4 rfl (lv_at hl 0 rfl) ?_
  refine lv_bipush (v := 64) hx hb dX4_init_5 (by decide) ?_
  refine mm_newq (N' := 64) hx hb hown (hts (.classLink RX4 9 RX3) (List.mem_of_getElem? (i := 4) rfl)) hK hM hS hA 1 rfl (by decide +kernel) (by decide +kernel) (by decide +kernel) (Nat.le_of_ble_eq_true rfl) (Nat.le_of_ble_eq_true rfl) dX4_init_7 (fun sa H M hM ha hn ho hS => ?_)
  have n_a_sa : a ≠ sa := mm_nn h_a hn
  have h_a := (ho a n_a_sa).trans h_a
  have h_sa : _ = some (Sum.inl (cS, 64, .inr (.inr (.inr (.inr (fun _ => none))))) : va_E) := ha
  refine W.widen (k := 1) (n := 64) (by omega) (by omega) ?_
  have hs0 := hn
  have hoS := ho
  refine mm_putF (v := .ref sa) (ci := 4) (C := RX4) (T := TX4) (N := 4) hx hb hts (in_X4_init_X4) tyX4 tyX4_ok nmX4 hown hK hM hS h_a rfl 0 (by decide) (hts (.fieldLink RX4 11 "GroupLog$Store" "sectors" "[LGroupLog$Sector;") (List.mem_of_getElem? (i := 5) rfl)) rfl hin rfl rfl rfl (Nat.le_of_ble_eq_true rfl) dX4_init_10 (fun H locs M hM ha ho hS => ?_)
  have h_sa := (ho sa (Ne.symm n_a_sa)).trans h_sa
  have h_a : _ = some (Sum.inr (4, [.ref sa, .int 0, .int 0, .int 0]) : va_E) := ha
  have hoP := ho
  refine lv_iconst (v := 0) hx hb dX4_init_13 (by decide) ?_
  refine lv_istore_n (lv' := [(1, .int 0), (0, .ref a)]) hx hb dX4_init_14 rfl hl (by decide) rfl (fun ls hl => ?_)
  refine lp_X4_init (a := a) (sa := sa) hx hb hts hown hml hK hA hs0 64 0 rfl _ _ _ (fun _ => none) (fun _ => 0) (fun _ => 0) hM hS h_a h_sa (fun j hj => absurd hj (by omega)) (fun q hq hqa => by rw [hoP q hqa, hoS q (fun e => hq (by rw [e]; exact hs0))]) (fun M H locs fa g h ls hM hS h_a h_sa hI hO hl => ?_) ls (lv_sub hl [1, 0] rfl)
  refine lv_aload_n hx hb dX4_init_43 rfl (lv_at hl 0 rfl) ?_
  refine lv_iconst (v := 0) hx hb dX4_init_44 (by decide) ?_
  have h_aO := h_a
  refine mm_put (v := .int 0) (ci := 4) (C := RX4) (T := TX4) (N := 4) hx hb hts (in_X4_init_X4) tyX4 tyX4_ok nmX4 hown hK hM hS h_a rfl 1 (by decide) (hts (.fieldLink RX4 18 "GroupLog$Store" "steps" "I") (List.mem_of_getElem? (i := 8) rfl)) rfl rfl rfl (Nat.le_of_ble_eq_true rfl) dX4_init_45 (fun H locs M hM ha ho hS => ?_)
  have h_sa := (ho sa (mm_ne h_sa h_a mm_ao)).trans h_sa
  have h_a : _ = some (Sum.inr (4, [.ref sa, .int 0, .int 0, .int 0]) : va_E) := ha
  have hI := st_keep hI (fun j hj => ⟨ho _ (mm_ne (hI j hj).2.1 h_aO (mm_oo (by decide))), ho _ (mm_ne (hI j hj).2.2.1 h_aO mm_ao)⟩)
  have hO := fun q hq hqa => (ho q hqa).trans (hO q hq hqa)
  refine lv_aload_n hx hb dX4_init_48 rfl (lv_at hl 0 rfl) ?_
  refine lv_iconst (v := (-1)) hx hb dX4_init_49 (by decide) ?_
  have h_aO := h_a
  refine mm_put (v := .int (-1)) (ci := 4) (C := RX4) (T := TX4) (N := 4) hx hb hts (in_X4_init_X4) tyX4 tyX4_ok nmX4 hown hK hM hS h_a rfl 2 (by decide) (hts (.fieldLink RX4 22 "GroupLog$Store" "stepsLeft" "I") (List.mem_of_getElem? (i := 9) rfl)) rfl rfl rfl (Nat.le_of_ble_eq_true rfl) dX4_init_50 (fun H locs M hM ha ho hS => ?_)
  have h_sa := (ho sa (mm_ne h_sa h_a mm_ao)).trans h_sa
  have h_a : _ = some (Sum.inr (4, [.ref sa, .int 0, .int (-1), .int 0]) : va_E) := ha
  have hI := st_keep hI (fun j hj => ⟨ho _ (mm_ne (hI j hj).2.1 h_aO (mm_oo (by decide))), ho _ (mm_ne (hI j hj).2.2.1 h_aO mm_ao)⟩)
  have hO := fun q hq hqa => (ho q hqa).trans (hO q hq hqa)
  refine lv_aload_n hx hb dX4_init_53 rfl (lv_at hl 0 rfl) ?_
  refine lv_iconst (v := 0) hx hb dX4_init_54 (by decide) ?_
  have h_aO := h_a
  refine mm_put (v := .int 0) (ci := 4) (C := RX4) (T := TX4) (N := 4) hx hb hts (in_X4_init_X4) tyX4 tyX4_ok nmX4 hown hK hM hS h_a rfl 3 (by decide) (hts (.fieldLink RX4 25 "GroupLog$Store" "part" "I") (List.mem_of_getElem? (i := 10) rfl)) rfl rfl rfl (Nat.le_of_ble_eq_true rfl) dX4_init_55 (fun H locs M hM ha ho hS => ?_)
  have h_sa := (ho sa (mm_ne h_sa h_a mm_ao)).trans h_sa
  have h_a : _ = some (Sum.inr (4, [.ref sa, .int 0, .int (-1), .int 0]) : va_E) := ha
  have hI := st_keep hI (fun j hj => ⟨ho _ (mm_ne (hI j hj).2.1 h_aO (mm_oo (by decide))), ho _ (mm_ne (hI j hj).2.2.1 h_aO mm_ao)⟩)
  have hO := fun q hq hqa => (ho q hqa).trans (hO q hq hqa)
  exact mm_vret hx hb hr hlk hM hS (⟨sa, fa, g, h, h_a, h_sa, hI, hO⟩) dX4_init_58

theorem in_X4_sector_X4 : ∀ w ∈ u_ws RX4 TX4 4, w ∈ wsX4_sector := fun w h => List.mem_cons_of_mem _ (List.mem_append_right _ h)
set_option maxHeartbeats 4000000 in
set_option maxRecDepth 100000 in
/-- Store.sector -/
theorem c_X4_sector {l : Launch} {D : va_G} {A : Nat → Prop} {cI cS cB cZ : ClassId} {M : Nat → Option va_E} {sz : Nat} {a sa y : Nat} {k l1 l2 : Int32} {fa : Nat → Option Nat} {i : Int32} (j : Nat) (hij : i = nI j) (hj : j < 64) (hy : fa j = some y) (h_a : M a = some (Sum.inr (4, [.ref sa, .int k, .int l1, .int l2]) : va_E)) (h_sa : M sa = some (Sum.inl (cS, 64, .inr (.inr (.inr (.inr (fa))))) : va_E)) : Met l yX4_sector wsX4_sector ({ frames := 0, cells := 0, slots := 0, locals := 0 }) (mm_Pc D A (mm_T cI cS cB cZ) M sz [.ref a, .int i]) (mm_Qr D A (fun r M1 => r = y ∧ M1 = M)) 0 0 A := by
  refine mm_met (cc := cX4_sector) (maxL := 2) (ret := (some (.object "GroupLog$Sector"))) (by decide) rfl (Nat.le_of_ble_eq_true rfl) ?_
  intro p e s m args below meth c hx hb hr hts hown hlk hin hml hsz hK hM hS ls hl
  subst hsz
  have hl : lv_has ls 2 [(0, .ref a), (1, .int i)] := hl
  refine lv_aload_n hx hb dX4_sector_0 rfl (lv_at hl 0 rfl) ?_
  refine mm_get (v := .ref sa) (ci := 4) (C := RX4) (T := TX4) (N := 4) hx hb hts (in_X4_sector_X4) hown hK hM h_a rfl 0 (by decide) (hts (.fieldLink RX4 11 "GroupLog$Store" "sectors" "[LGroupLog$Sector;") (List.mem_of_getElem? (i := 1) rfl)) rfl dX4_sector_1 ?_
  refine lv_iload_n hx hb dX4_sector_4 rfl (lv_at hl 1 rfl) ?_
  refine lv_if_lt (tgt := 21) hx hb dX4_sector_5 (by decide) (fun c_1 => ?_) (fun c_1 => ?_)
  · exact absurd c_1 (by rw [hij]; exact nI_pos (by omega))
  refine lv_iload_n hx hb dX4_sector_8 rfl (lv_at hl 1 rfl) ?_
  refine lv_aload_n hx hb dX4_sector_9 rfl (lv_at hl 0 rfl) ?_
  refine mm_get (v := .ref sa) (ci := 4) (C := RX4) (T := TX4) (N := 4) hx hb hts (in_X4_sector_X4) hown hK hM h_a rfl 0 (by decide) (hts (.fieldLink RX4 11 "GroupLog$Store" "sectors" "[LGroupLog$Sector;") (List.mem_of_getElem? (i := 1) rfl)) rfl dX4_sector_10 ?_
  refine mm_alen (v := 64) hx hb hK hM 1 h_sa rfl rfl dX4_sector_13 ?_
  refine lv_icmp_ge (tgt := 21) hx hb dX4_sector_14 (by decide) (fun c_2 => ?_) (fun c_2 => ?_)
  · exact absurd c_2 (by rw [hij]; exact nI_ge (b := 64) hj (by decide))
  refine lv_iload_n hx hb dX4_sector_17 rfl (lv_at hl 1 rfl) ?_
  refine lv_goto (tgt := 22) hx hb dX4_sector_18 (by decide) ?_
  refine mm_aldq (y := y) hx hb hK hM 1 h_sa rfl (j := j) (hij) (hj) (by decide) (hy) dX4_sector_22 ?_
  exact mm_aret hx hb hr hlk hM hS (⟨rfl, rfl⟩) dX4_sector_23

set_option maxHeartbeats 4000000 in
set_option maxRecDepth 100000 in
/-- Store.latestHead of a new disk -/
theorem c_X4_latestHead {l : Launch} {D : va_G} {A : Nat → Prop} {cI cS cB cZ : ClassId} {M : Nat → Option va_E} {sz : Nat} {a sa g0 h0 g1 h1 : Nat} {k l1 l2 : Int32} {fa : Nat → Option Nat} (y0 : fa 0 = some g0) (y1 : fa 1 = some g1) (h_a : M a = some (Sum.inr (4, [.ref sa, .int k, .int l1, .int l2]) : va_E)) (h_sa : M sa = some (Sum.inl (cS, 64, .inr (.inr (.inr (.inr (fa))))) : va_E)) (h_g0 : M g0 = some (Sum.inr (3, [.ref h0, .int 0]) : va_E)) (h_h0 : M h0 = some (Sum.inl (cI, 64, .inl (hd_f 1 1 1 2)) : va_E)) (h_g1 : M g1 = some (Sum.inr (3, [.ref h1, .int 0]) : va_E)) (h_h1 : M h1 = some (Sum.inl (cI, 64, .inl (fun _ => 0)) : va_E)) : Met l yX4_latestHead wsX4_latestHead ({ frames := 3, cells := 0, slots := 0, locals := 66 }) (mm_Pc D A (mm_T cI cS cB cZ) M sz [.ref a]) (mm_Qi D A (fun r M1 => r = 0 ∧ M1 = M)) 0 0 A := by
  refine mm_met (cc := cX4_latestHead) (maxL := 3) (ret := (some .int)) (by decide) rfl (Nat.le_of_ble_eq_true rfl) ?_
  intro p e s m args below meth c hx hb hr hts hown hlk hin hml hsz hK hM hS ls hl
  subst hsz
  have hl : lv_has ls 3 [(0, .ref a)] := hl
  refine lv_aload_n hx hb dX4_latestHead_0 rfl (lv_at hl 0 rfl) ?_
  refine lv_iconst (v := 0) hx hb dX4_latestHead_1 (by decide) ?_
  refine mm_callr (mm_runV (As := [.int 0]) (rest := []) ⟨hx, hb, hml, hown, hts⟩ (c_X4_sector 0 rfl (by decide) y0 h_a h_sa) (cwV 1 hts gX4_latestHead_X4_sector rfl rfl rfl (by decide +kernel) ⟨Nat.le_of_ble_eq_true rfl, Nat.le_of_ble_eq_true rfl⟩) hK hM h_a rfl rfl hl.1 rfl (Nat.le_of_ble_eq_true rfl) dX4_latestHead_2 ⟨Nat.le_of_ble_eq_true rfl, Nat.le_of_ble_eq_true rfl⟩) hS (fun _ h => h) (fun r1 M H locs hp hM hS hz _ => ?_)
  obtain ⟨rfl, hme⟩ := hp
  rw [hme] at hM
  refine mm_calli (mm_runV (As := []) (rest := []) ⟨hx, hb, hml, hown, hts⟩ (c_X3_good hd_sum hd_ver hd_rec hd_plc h_g0 h_h0) (cwV 0 hts gX4_latestHead_X3_isGoodHead rfl rfl rfl (by decide +kernel) ⟨Nat.le_of_ble_eq_true rfl, Nat.le_of_ble_eq_true rfl⟩) hK hM h_g0 rfl rfl hl.1 rfl (Nat.le_of_ble_eq_true rfl) dX4_latestHead_5 ⟨Nat.le_of_ble_eq_true rfl, Nat.le_of_ble_eq_true rfl⟩) hS (fun _ h => h) (fun r2 M H locs hp hM hS hz _ => ?_)
  obtain ⟨rfl, hme⟩ := hp
  rw [hme] at hM
  refine lv_istore_n (lv' := [(1, .int 1), (0, .ref a)]) hx hb dX4_latestHead_8 rfl hl (by decide) rfl (fun ls hl => ?_)
  refine lv_aload_n hx hb dX4_latestHead_9 rfl (lv_at hl 1 rfl) ?_
  refine lv_iconst (v := 1) hx hb dX4_latestHead_10 (by decide) ?_
  refine mm_callr (mm_runV (As := [.int 1]) (rest := []) ⟨hx, hb, hml, hown, hts⟩ (c_X4_sector 1 rfl (by decide) y1 h_a h_sa) (cwV 1 hts gX4_latestHead_X4_sector rfl rfl rfl (by decide +kernel) ⟨Nat.le_of_ble_eq_true rfl, Nat.le_of_ble_eq_true rfl⟩) hK hM h_a rfl rfl hl.1 rfl (Nat.le_of_ble_eq_true rfl) dX4_latestHead_11 ⟨Nat.le_of_ble_eq_true rfl, Nat.le_of_ble_eq_true rfl⟩) hS (fun _ h => h) (fun r3 M H locs hp hM hS hz _ => ?_)
  obtain ⟨rfl, hme⟩ := hp
  rw [hme] at hM
  refine mm_calli (mm_runV (As := []) (rest := []) ⟨hx, hb, hml, hown, hts⟩ (c_X3_bad hd_nul h_g1 h_h1) (cwV 0 hts gX4_latestHead_X3_isGoodHead rfl rfl rfl (by decide +kernel) ⟨Nat.le_of_ble_eq_true rfl, Nat.le_of_ble_eq_true rfl⟩) hK hM h_g1 rfl rfl hl.1 rfl (Nat.le_of_ble_eq_true rfl) dX4_latestHead_14 ⟨Nat.le_of_ble_eq_true rfl, Nat.le_of_ble_eq_true rfl⟩) hS (fun _ h => h) (fun r4 M H locs hp hM hS hz _ => ?_)
  obtain ⟨rfl, hme⟩ := hp
  rw [hme] at hM
  refine lv_istore_n (lv' := [(2, .int 0), (1, .int 1), (0, .ref a)]) hx hb dX4_latestHead_17 rfl hl (by decide) rfl (fun ls hl => ?_)
  refine lv_iload_n hx hb dX4_latestHead_18 rfl (lv_at hl 1 rfl) ?_
  refine lv_if_eq (tgt := 54) hx hb dX4_latestHead_19 (by decide) (fun c_5 => ?_) (fun c_5 => ?_)
  · exact absurd c_5 (by decide)
  refine lv_iload_n hx hb dX4_latestHead_22 rfl (lv_at hl 0 rfl) ?_
  refine lv_if_eq (tgt := 54) hx hb dX4_latestHead_23 (by decide) (fun c_6 => ?_) (fun c_6 => ?_)
  rotate_left
  · exact absurd c_6 (by decide)
  refine lv_iload_n hx hb dX4_latestHead_54 rfl (lv_at hl 1 rfl) ?_
  refine lv_if_eq (tgt := 62) hx hb dX4_latestHead_55 (by decide) (fun c_7 => ?_) (fun c_7 => ?_)
  · exact absurd c_7 (by decide)
  refine lv_iconst (v := 0) hx hb dX4_latestHead_58 (by decide) ?_
  refine lv_goto (tgt := 71) hx hb dX4_latestHead_59 (by decide) ?_
  exact mm_iret hx hb hr hlk hM hS (⟨rfl, rfl⟩) dX4_latestHead_71

set_option maxHeartbeats 4000000 in
set_option maxRecDepth 100000 in
/-- Store.headVersion of a new disk -/
theorem c_X4_headVersion {l : Launch} {D : va_G} {A : Nat → Prop} {cI cS cB cZ : ClassId} {M : Nat → Option va_E} {sz : Nat} {a sa g0 h0 g1 h1 : Nat} {k l1 l2 : Int32} {fa : Nat → Option Nat} (y0 : fa 0 = some g0) (y1 : fa 1 = some g1) (h_a : M a = some (Sum.inr (4, [.ref sa, .int k, .int l1, .int l2]) : va_E)) (h_sa : M sa = some (Sum.inl (cS, 64, .inr (.inr (.inr (.inr (fa))))) : va_E)) (h_g0 : M g0 = some (Sum.inr (3, [.ref h0, .int 0]) : va_E)) (h_h0 : M h0 = some (Sum.inl (cI, 64, .inl (hd_f 1 1 1 2)) : va_E)) (h_g1 : M g1 = some (Sum.inr (3, [.ref h1, .int 0]) : va_E)) (h_h1 : M h1 = some (Sum.inl (cI, 64, .inl (fun _ => 0)) : va_E)) : Met l yX4_headVersion wsX4_headVersion ({ frames := 4, cells := 0, slots := 0, locals := 88 }) (mm_Pc D A (mm_T cI cS cB cZ) M sz [.ref a]) (mm_Qi D A (fun r M1 => r = 1 ∧ M1 = M)) 0 0 A := by
  refine mm_met (cc := cX4_headVersion) (maxL := 2) (ret := (some .int)) (by decide) rfl (Nat.le_of_ble_eq_true rfl) ?_
  intro p e s m args below meth c hx hb hr hts hown hlk hin hml hsz hK hM hS ls hl
  subst hsz
  have hl : lv_has ls 2 [(0, .ref a)] := hl
  refine lv_aload_n hx hb dX4_headVersion_0 rfl (lv_at hl 0 rfl) ?_
  refine mm_calli (mm_runV (As := []) (rest := []) ⟨hx, hb, hml, hown, hts⟩ (c_X4_latestHead y0 y1 h_a h_sa h_g0 h_h0 h_g1 h_h1) (cwV 0 hts gX4_headVersion_X4_latestHead rfl rfl rfl (by decide +kernel) ⟨Nat.le_of_ble_eq_true rfl, Nat.le_of_ble_eq_true rfl⟩) hK hM h_a rfl rfl hl.1 rfl (Nat.le_of_ble_eq_true rfl) dX4_headVersion_1 ⟨Nat.le_of_ble_eq_true rfl, Nat.le_of_ble_eq_true rfl⟩) hS (fun _ h => h) (fun r1 M H locs hp hM hS hz _ => ?_)
  obtain ⟨rfl, hme⟩ := hp
  rw [hme] at hM
  refine lv_istore_n (lv' := [(1, .int 0), (0, .ref a)]) hx hb dX4_headVersion_4 rfl hl (by decide) rfl (fun ls hl => ?_)
  refine lv_iload_n hx hb dX4_headVersion_5 rfl (lv_at hl 0 rfl) ?_
  refine lv_iconst (v := (-1)) hx hb dX4_headVersion_6 (by decide) ?_
  refine lv_icmp_ne (tgt := 14) hx hb dX4_headVersion_7 (by decide) (fun c_2 => ?_) (fun c_2 => ?_)
  rotate_left
  · exact absurd c_2 (by decide)
  refine lv_aload_n hx hb dX4_headVersion_14 rfl (lv_at hl 1 rfl) ?_
  refine lv_iload_n hx hb dX4_headVersion_15 rfl (lv_at hl 0 rfl) ?_
  refine mm_callr (mm_runV (As := [.int 0]) (rest := []) ⟨hx, hb, hml, hown, hts⟩ (c_X4_sector 0 rfl (by decide) y0 h_a h_sa) (cwV 1 hts gX4_headVersion_X4_sector rfl rfl rfl (by decide +kernel) ⟨Nat.le_of_ble_eq_true rfl, Nat.le_of_ble_eq_true rfl⟩) hK hM h_a rfl rfl hl.1 rfl (Nat.le_of_ble_eq_true rfl) dX4_headVersion_16 ⟨Nat.le_of_ble_eq_true rfl, Nat.le_of_ble_eq_true rfl⟩) hS (fun _ h => h) (fun r3 M H locs hp hM hS hz _ => ?_)
  obtain ⟨rfl, hme⟩ := hp
  rw [hme] at hM
  refine mm_calli (mm_runV (As := []) (rest := []) ⟨hx, hb, hml, hown, hts⟩ (c_X3_headVersion h_g0 h_h0) (cwV 0 hts gX4_headVersion_X3_headVersion rfl rfl rfl (by decide +kernel) ⟨Nat.le_of_ble_eq_true rfl, Nat.le_of_ble_eq_true rfl⟩) hK hM h_g0 rfl rfl hl.1 rfl (Nat.le_of_ble_eq_true rfl) dX4_headVersion_19 ⟨Nat.le_of_ble_eq_true rfl, Nat.le_of_ble_eq_true rfl⟩) hS (fun _ h => h) (fun r4 M H locs hp hM hS hz _ => ?_)
  obtain ⟨rfl, hme⟩ := hp
  rw [hme] at hM
  exact mm_iret hx hb hr hlk hM hS (⟨hd_ver, rfl⟩) dX4_headVersion_22

theorem in_X4_write_X4 : ∀ w ∈ u_ws RX4 TX4 4, w ∈ wsX4_write := fun w h => List.mem_cons_of_mem _ (List.mem_append_left _ (List.mem_append_right _ h))
set_option maxHeartbeats 4000000 in
set_option maxRecDepth 100000 in
/-- Store.write(1, ..), not armed -/
theorem c_X4_write {l : Launch} {D : va_G} {A : Nat → Prop} {cI cS cB cZ : ClassId} {M : Nat → Option va_E} {sz : Nat} {a sa g1 h1 dr db : Nat} {fa : Nat → Option Nat} {f1 fd : Nat → Int32} (y1 : fa 1 = some g1) (hne : h1 ≠ db) (h_a : M a = some (Sum.inr (4, [.ref sa, .int 0, .int (-1), .int 0]) : va_E)) (h_sa : M sa = some (Sum.inl (cS, 64, .inr (.inr (.inr (.inr (fa))))) : va_E)) (h_g1 : M g1 = some (Sum.inr (3, [.ref h1, .int 0]) : va_E)) (h_h1 : M h1 = some (Sum.inl (cI, 64, .inl (f1)) : va_E)) (h_dr : M dr = some (Sum.inr (3, [.ref db, .int 0]) : va_E)) (h_db : M db = some (Sum.inl (cI, 64, .inl (fd)) : va_E)) : Met l yX4_write wsX4_write ({ frames := 3, cells := 0, slots := 0, locals := 66 }) (mm_Pc D A (mm_T cI cS cB cZ) M sz [.ref a, .int 1, .ref dr]) (mm_Qi D A (fun r M1 => r = 1 ∧ ∀ q, q ≠ a → q ≠ g1 → q ≠ h1 → M1 q = M q)) 0 0 A := by
  refine mm_met (cc := cX4_write) (maxL := 3) (ret := (some .boolean)) (by decide) rfl (Nat.le_of_ble_eq_true rfl) ?_
  intro p e s m args below meth c hx hb hr hts hown hlk hin hml hsz hK hM hS ls hl
  subst hsz
  have hl : lv_has ls 3 [(0, .ref a), (1, .int 1), (2, .ref dr)] := hl
  refine lv_aload_n hx hb dX4_write_0 rfl (lv_at hl 0 rfl) ?_
  refine mm_get (v := .int (-1)) (ci := 4) (C := RX4) (T := TX4) (N := 4) hx hb hts (in_X4_write_X4) hown hK hM h_a rfl 2 (by decide) (hts (.fieldLink RX4 22 "GroupLog$Store" "stepsLeft" "I") (List.mem_of_getElem? (i := 1) rfl)) rfl dX4_write_1 ?_
  refine lv_if_ne (tgt := 22) hx hb dX4_write_4 (by decide) (fun c_1 => ?_) (fun c_1 => ?_)
  rotate_left
  · exact absurd c_1 (by decide)
  refine lv_aload_n hx hb dX4_write_22 rfl (lv_at hl 0 rfl) ?_
  refine mm_get (v := .int (-1)) (ci := 4) (C := RX4) (T := TX4) (N := 4) hx hb hts (in_X4_write_X4) hown hK hM h_a rfl 2 (by decide) (hts (.fieldLink RX4 22 "GroupLog$Store" "stepsLeft" "I") (List.mem_of_getElem? (i := 1) rfl)) rfl dX4_write_23 ?_
  refine lv_if_le (tgt := 39) hx hb dX4_write_26 (by decide) (fun c_2 => ?_) (fun c_2 => ?_)
  rotate_left
  · exact absurd c_2 (by decide)
  refine lv_aload_n hx hb dX4_write_39 rfl (lv_at hl 0 rfl) ?_
  refine lv_iload_n hx hb dX4_write_40 rfl (lv_at hl 1 rfl) ?_
  refine mm_callr (mm_runV (As := [.int 1]) (rest := []) ⟨hx, hb, hml, hown, hts⟩ (c_X4_sector 1 rfl (by decide) y1 h_a h_sa) (cwV 1 hts gX4_write_X4_sector rfl rfl rfl (by decide +kernel) ⟨Nat.le_of_ble_eq_true rfl, Nat.le_of_ble_eq_true rfl⟩) hK hM h_a rfl rfl hl.1 rfl (Nat.le_of_ble_eq_true rfl) dX4_write_41 ⟨Nat.le_of_ble_eq_true rfl, Nat.le_of_ble_eq_true rfl⟩) hS (fun _ h => h) (fun r3 M H locs hp hM hS hz _ => ?_)
  obtain ⟨rfl, hme⟩ := hp
  rw [hme] at hM
  refine lv_aload_n hx hb dX4_write_44 rfl (lv_at hl 2 rfl) ?_
  refine mm_callv (mm_runV (As := [.ref dr]) (rest := []) ⟨hx, hb, hml, hown, hts⟩ (c_X3_takeWhole hne h_g1 h_h1 h_dr h_db) (cwV 1 hts gX4_write_X3_takeWhole rfl rfl rfl (by decide +kernel) ⟨Nat.le_of_ble_eq_true rfl, Nat.le_of_ble_eq_true rfl⟩) hK hM h_g1 rfl rfl hl.1 rfl (Nat.le_of_ble_eq_true rfl) dX4_write_45 ⟨Nat.le_of_ble_eq_true rfl, Nat.le_of_ble_eq_true rfl⟩) hS (fun _ h => h) (fun M H locs hp hM hS hz _ => ?_)
  have ho0 := hp
  have h_a := (ho0 a (mm_ne h_a h_g1 (mm_oo (by decide))) (mm_ne h_a h_h1 mm_oa)).trans h_a
  refine lv_aload_n hx hb dX4_write_48 rfl (lv_at hl 0 rfl) ?_
  refine lv_dup hx hb dX4_write_49 rfl ?_
  refine mm_get (v := .int 0) (ci := 4) (C := RX4) (T := TX4) (N := 4) hx hb hts (in_X4_write_X4) hown hK hM h_a rfl 1 (by decide) (hts (.fieldLink RX4 18 "GroupLog$Store" "steps" "I") (List.mem_of_getElem? (i := 3) rfl)) rfl dX4_write_50 ?_
  refine lv_iconst (v := 1) hx hb dX4_write_53 (by decide) ?_
  refine lv_iadd hx hb dX4_write_54 ?_
  refine lv_topi (fun z4 ez4 => ?_)
  have ez4 : z4 = 1 := ez4.trans (by decide)
  subst ez4
  refine mm_put (v := .int 1) (ci := 4) (C := RX4) (T := TX4) (N := 4) hx hb hts (in_X4_write_X4) tyX4 tyX4_ok nmX4 hown hK hM hS h_a rfl 1 (by decide) (hts (.fieldLink RX4 18 "GroupLog$Store" "steps" "I") (List.mem_of_getElem? (i := 3) rfl)) rfl rfl rfl (Nat.le_of_ble_eq_true rfl) dX4_write_55 (fun H locs M hM ha ho hS => ?_)
  have h_a : _ = some (Sum.inr (4, [.ref sa, .int 1, .int (-1), .int 0]) : va_E) := ha
  refine lv_iconst (v := 1) hx hb dX4_write_58 (by decide) ?_
  exact mm_zret hx hb hr hlk (rfl) hM hS (⟨rfl, fun q h1 h2 h3 => by rw [ho q h1, ho0 q h2 h3]⟩) dX4_write_59

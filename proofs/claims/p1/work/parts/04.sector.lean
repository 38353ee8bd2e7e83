theorem in_X3_init_X3 : ∀ w ∈ u_ws RX3 TX3 2, w ∈ wsX3_init := fun w h => List.mem_cons_of_mem _ (List.mem_append_right _ h)
set_option maxHeartbeats 4000000 in
set_option maxRecDepth 100000 in
/-- Sector(): 64 bytes of 0 -/
theorem c_X3_init {l : Launch} {D : va_G} {A : Nat → Prop} {cI cS cB cZ : ClassId} {M : Nat → Option va_E} {sz : Nat} (hA : ∀ q, sz ≤ q → A q) {a : Nat} {x : Value} {t : Int32} (h_a : M a = some (Sum.inr (3, [x, .int t]) : va_E)) : Met l yX3_init wsX3_init ({ frames := 1, cells := 1, slots := 64, locals := 20 }) (mm_Pc D A (mm_T cI cS cB cZ) M sz [.ref a]) (mm_Qv D A (fun M1 => ∃ qb : Nat, M qb = none ∧ M1 a = some (Sum.inr (3, [.ref qb, .int 0]) : va_E) ∧ M1 qb = some (Sum.inl (cI, 64, .inl (fun _ => 0)) : va_E) ∧ ∀ q, q ≠ a → q ≠ qb → M1 q = M q)) 1 64 A := by
  refine mm_met (cc := cX3_init) (maxL := 1) (ret := none) (by decide) rfl (Nat.le_of_ble_eq_true rfl) ?_
  intro p e s m args below meth c hx hb hr hts hown hlk hin hml hsz hK hM hS ls hl
  subst hsz
  have hl : lv_has ls 1 [(0, .ref a)] := hl
  refine lv_aload_n hx hb dX3_init_0 rfl (lv_at hl 0 rfl) ?_
  refine W.objInit hx hb hown (hts (.methodLink RX3 3 objectInit) (List.mem_of_getElem? (i := 1) rfl)) (hts (.instanceMethod objectInit) (List.mem_of_getElem? (i := 2) rfl)) (hts _ (List.mem_of_getElem? (i := 3) rfl)) rfl (by rw [hml]; exact hl.1) rfl dX3_init_1 (Nat.le_of_ble_eq_true rfl) (Nat.le_of_ble_eq_true rfl) ?_
  refine W.eq (g2 := F0 m 4 ls []) rfl ?_
  refine lv_aload_n hx hb dX3_init_4 rfl (lv_at hl 0 rfl) ?_
  refine lv_bipush (v := 64) hx hb dX3_init_5 (by decide) ?_
  refine mm_newa (atype := .int) (ty := .int) (N' := 64) hx hb (hts (.arrayClass .int) (List.mem_of_getElem? (i := 4) rfl)) rfl hK hM hS hA 0 rfl (fun _ h => by cases h) (mm_z_int 64) (by decide +kernel) (by decide +kernel) (by decide +kernel) (Nat.le_of_ble_eq_true rfl) (Nat.le_of_ble_eq_true rfl) dX3_init_7 (fun qb H M hM ha hn ho hS => ?_)
  have n_a_qb : a ≠ qb := mm_nn h_a hn
  have h_a := (ho a n_a_qb).trans h_a
  have h_qb : _ = some (Sum.inl (cI, 64, .inl (fun _ => 0)) : va_E) := ha
  refine W.widen (k := 1) (n := 64) (by omega) (by omega) ?_
  have hnq := hn
  have ho0 := ho
  refine mm_putF (v := .ref qb) (ci := 3) (C := RX3) (T := TX3) (N := 2) hx hb hts (in_X3_init_X3) tyX3 tyX3_ok nmX3 hown hK hM hS h_a rfl 0 (by decide) (hts (.fieldLink RX3 9 "GroupLog$Sector" "bytes" "[I") (List.mem_of_getElem? (i := 5) rfl)) rfl hin rfl rfl rfl (Nat.le_of_ble_eq_true rfl) dX3_init_9 (fun H locs M hM ha ho hS => ?_)
  have h_qb := (ho qb (Ne.symm n_a_qb)).trans h_qb
  have h_a : _ = some (Sum.inr (3, [.ref qb, .int t]) : va_E) := ha
  have ho1 := ho
  refine lv_aload_n hx hb dX3_init_12 rfl (lv_at hl 0 rfl) ?_
  refine lv_iconst (v := 0) hx hb dX3_init_13 (by decide) ?_
  refine mm_put (v := .int 0) (ci := 3) (C := RX3) (T := TX3) (N := 2) hx hb hts (in_X3_init_X3) tyX3 tyX3_ok nmX3 hown hK hM hS h_a rfl 1 (by decide) (hts (.fieldLink RX3 15 "GroupLog$Sector" "isTorn" "Z") (List.mem_of_getElem? (i := 6) rfl)) rfl rfl rfl (Nat.le_of_ble_eq_true rfl) dX3_init_14 (fun H locs M hM ha ho hS => ?_)
  have h_qb := (ho qb (Ne.symm n_a_qb)).trans h_qb
  have h_a : _ = some (Sum.inr (3, [.ref qb, .int 0]) : va_E) := ha
  have ho2 := ho
  exact mm_vret hx hb hr hlk hM hS (⟨qb, hnq, h_a, h_qb, fun q hq h => by rw [ho q hq, ho1 q hq, ho0 q h]⟩) dX3_init_17

theorem in_X3_get_X3 : ∀ w ∈ u_ws RX3 TX3 2, w ∈ wsX3_get := fun w h => List.mem_cons_of_mem _ (List.mem_append_right _ h)
set_option maxHeartbeats 4000000 in
set_option maxRecDepth 100000 in
/-- Sector.get -/
theorem c_X3_get {l : Launch} {D : va_G} {A : Nat → Prop} {cI cS cB cZ : ClassId} {M : Nat → Option va_E} {sz : Nat} {a b : Nat} {t : Int32} {f : Nat → Int32} {i : Int32} (j : Nat) (hij : i = nI j) (hj : j < 64) (h_a : M a = some (Sum.inr (3, [.ref b, .int t]) : va_E)) (h_b : M b = some (Sum.inl (cI, 64, .inl (f)) : va_E)) : Met l yX3_get wsX3_get ({ frames := 0, cells := 0, slots := 0, locals := 0 }) (mm_Pc D A (mm_T cI cS cB cZ) M sz [.ref a, .int i]) (mm_Qi D A (fun r M1 => r = f j ∧ M1 = M)) 0 0 A := by
  refine mm_met (cc := cX3_get) (maxL := 2) (ret := (some .int)) (by decide) rfl (Nat.le_of_ble_eq_true rfl) ?_
  intro p e s m args below meth c hx hb hr hts hown hlk hin hml hsz hK hM hS ls hl
  subst hsz
  have hl : lv_has ls 2 [(0, .ref a), (1, .int i)] := hl
  refine lv_iload_n hx hb dX3_get_0 rfl (lv_at hl 1 rfl) ?_
  refine lv_if_lt (tgt := 22) hx hb dX3_get_1 (by decide) (fun c_1 => ?_) (fun c_1 => ?_)
  · exact absurd c_1 (by rw [hij]; exact nI_pos (by omega))
  refine lv_iload_n hx hb dX3_get_4 rfl (lv_at hl 1 rfl) ?_
  refine lv_aload_n hx hb dX3_get_5 rfl (lv_at hl 0 rfl) ?_
  refine mm_get (v := .ref b) (ci := 3) (C := RX3) (T := TX3) (N := 2) hx hb hts (in_X3_get_X3) hown hK hM h_a rfl 0 (by decide) (hts (.fieldLink RX3 9 "GroupLog$Sector" "bytes" "[I") (List.mem_of_getElem? (i := 1) rfl)) rfl dX3_get_6 ?_
  refine mm_alen (v := 64) hx hb hK hM 0 h_b rfl rfl dX3_get_9 ?_
  refine lv_icmp_ge (tgt := 22) hx hb dX3_get_10 (by decide) (fun c_2 => ?_) (fun c_2 => ?_)
  · exact absurd c_2 (by rw [hij]; exact nI_ge (b := 64) hj (by decide))
  refine lv_aload_n hx hb dX3_get_13 rfl (lv_at hl 0 rfl) ?_
  refine mm_get (v := .ref b) (ci := 3) (C := RX3) (T := TX3) (N := 2) hx hb hts (in_X3_get_X3) hown hK hM h_a rfl 0 (by decide) (hts (.fieldLink RX3 9 "GroupLog$Sector" "bytes" "[I") (List.mem_of_getElem? (i := 1) rfl)) rfl dX3_get_14 ?_
  refine lv_iload_n hx hb dX3_get_17 rfl (lv_at hl 1 rfl) ?_
  refine mm_iald hx hb hK hM 0 h_b rfl (j := j) (hij) (hj) (by decide) dX3_get_18 ?_
  refine lv_goto (tgt := 23) hx hb dX3_get_19 (by decide) ?_
  exact mm_iret hx hb hr hlk hM hS (⟨rfl, rfl⟩) dX3_get_23

theorem in_X3_set_X3 : ∀ w ∈ u_ws RX3 TX3 2, w ∈ wsX3_set := fun w h => List.mem_cons_of_mem _ (List.mem_append_right _ h)
set_option maxHeartbeats 4000000 in
set_option maxRecDepth 100000 in
/-- Sector.set -/
theorem c_X3_set {l : Launch} {D : va_G} {A : Nat → Prop} {cI cS cB cZ : ClassId} {M : Nat → Option va_E} {sz : Nat} {a b : Nat} {t : Int32} {f : Nat → Int32} {i : Int32} (j : Nat) (hij : i = nI j) (hj : j < 64) {x : Int32} (h_a : M a = some (Sum.inr (3, [.ref b, .int t]) : va_E)) (h_b : M b = some (Sum.inl (cI, 64, .inl (f)) : va_E)) : Met l yX3_set wsX3_set ({ frames := 0, cells := 0, slots := 0, locals := 0 }) (mm_Pc D A (mm_T cI cS cB cZ) M sz [.ref a, .int i, .int x]) (mm_Qv D A (fun M1 => M1 b = some (Sum.inl (cI, 64, .inl (upd f j (x &&& 255))) : va_E) ∧ ∀ q, q ≠ b → M1 q = M q)) 0 0 A := by
  refine mm_met (cc := cX3_set) (maxL := 3) (ret := none) (by decide) rfl (Nat.le_of_ble_eq_true rfl) ?_
  intro p e s m args below meth c hx hb hr hts hown hlk hin hml hsz hK hM hS ls hl
  subst hsz
  have hl : lv_has ls 3 [(0, .ref a), (1, .int i), (2, .int x)] := hl
  refine lv_iload_n hx hb dX3_set_0 rfl (lv_at hl 1 rfl) ?_
  refine lv_if_lt (tgt := 24) hx hb dX3_set_1 (by decide) (fun c_1 => ?_) (fun c_1 => ?_)
  · exact absurd c_1 (by rw [hij]; exact nI_pos (by omega))
  refine lv_iload_n hx hb dX3_set_4 rfl (lv_at hl 1 rfl) ?_
  refine lv_aload_n hx hb dX3_set_5 rfl (lv_at hl 0 rfl) ?_
  refine mm_get (v := .ref b) (ci := 3) (C := RX3) (T := TX3) (N := 2) hx hb hts (in_X3_set_X3) hown hK hM h_a rfl 0 (by decide) (hts (.fieldLink RX3 9 "GroupLog$Sector" "bytes" "[I") (List.mem_of_getElem? (i := 1) rfl)) rfl dX3_set_6 ?_
  refine mm_alen (v := 64) hx hb hK hM 0 h_b rfl rfl dX3_set_9 ?_
  refine lv_icmp_ge (tgt := 24) hx hb dX3_set_10 (by decide) (fun c_2 => ?_) (fun c_2 => ?_)
  · exact absurd c_2 (by rw [hij]; exact nI_ge (b := 64) hj (by decide))
  refine lv_aload_n hx hb dX3_set_13 rfl (lv_at hl 0 rfl) ?_
  refine mm_get (v := .ref b) (ci := 3) (C := RX3) (T := TX3) (N := 2) hx hb hts (in_X3_set_X3) hown hK hM h_a rfl 0 (by decide) (hts (.fieldLink RX3 9 "GroupLog$Sector" "bytes" "[I") (List.mem_of_getElem? (i := 1) rfl)) rfl dX3_set_14 ?_
  refine lv_iload_n hx hb dX3_set_17 rfl (lv_at hl 1 rfl) ?_
  refine lv_iload_n hx hb dX3_set_18 rfl (lv_at hl 2 rfl) ?_
  refine lv_sipush (v := 255) hx hb dX3_set_19 (by decide) ?_
  refine lv_iand hx hb dX3_set_22 ?_
  refine mm_iast hx hb hK hM hS 0 h_b rfl (j := j) (hij) (hj) (by decide) dX3_set_23 (fun H locs M hM ha ho hS => ?_)
  have h_a := (ho a (mm_ne h_a h_b mm_oa)).trans h_a
  have h_b : _ = some (Sum.inl (cI, 64, .inl (upd (f) (j) ((x &&& 255)))) : va_E) := ha
  exact mm_vret hx hb hr hlk hM hS (⟨h_b, ho⟩) dX3_set_24

theorem in_X3_number_X3 : ∀ w ∈ u_ws RX3 TX3 2, w ∈ wsX3_number := fun w h => List.mem_cons_of_mem _ (List.mem_append_right _ h)
set_option maxHeartbeats 4000000 in
set_option maxRecDepth 100000 in
/-- Sector.number -/
theorem c_X3_number {l : Launch} {D : va_G} {A : Nat → Prop} {cI cS cB cZ : ClassId} {M : Nat → Option va_E} {sz : Nat} {a b : Nat} {t : Int32} {f : Nat → Int32} {i : Int32} (j : Nat) (hij : i = nI j) (hj : j < 61) (h_a : M a = some (Sum.inr (3, [.ref b, .int t]) : va_E)) (h_b : M b = some (Sum.inl (cI, 64, .inl (f)) : va_E)) : Met l yX3_number wsX3_number ({ frames := 0, cells := 0, slots := 0, locals := 0 }) (mm_Pc D A (mm_T cI cS cB cZ) M sz [.ref a, .int i]) (mm_Qi D A (fun r M1 => r = nm_g f j ∧ M1 = M)) 0 0 A := by
  refine mm_met (cc := cX3_number) (maxL := 2) (ret := (some .int)) (by decide) rfl (Nat.le_of_ble_eq_true rfl) ?_
  intro p e s m args below meth c hx hb hr hts hown hlk hin hml hsz hK hM hS ls hl
  subst hsz
  have hl : lv_has ls 2 [(0, .ref a), (1, .int i)] := hl
  refine lv_iload_n hx hb dX3_number_0 rfl (lv_at hl 1 rfl) ?_
  refine lv_if_lt (tgt := 15) hx hb dX3_number_1 (by decide) (fun c_1 => ?_) (fun c_1 => ?_)
  · exact absurd c_1 (by rw [hij]; exact nI_pos (by omega))
  refine lv_iload_n hx hb dX3_number_4 rfl (lv_at hl 1 rfl) ?_
  refine lv_aload_n hx hb dX3_number_5 rfl (lv_at hl 0 rfl) ?_
  refine mm_get (v := .ref b) (ci := 3) (C := RX3) (T := TX3) (N := 2) hx hb hts (in_X3_number_X3) hown hK hM h_a rfl 0 (by decide) (hts (.fieldLink RX3 9 "GroupLog$Sector" "bytes" "[I") (List.mem_of_getElem? (i := 1) rfl)) rfl dX3_number_6 ?_
  refine mm_alen (v := 64) hx hb hK hM 0 h_b rfl rfl dX3_number_9 ?_
  refine lv_iconst (v := 4) hx hb dX3_number_10 (by decide) ?_
  refine lv_isub hx hb dX3_number_11 ?_
  refine lv_topi (fun z2 ez2 => ?_)
  have ez2 : z2 = 60 := ez2.trans (by decide)
  subst ez2
  refine lv_icmp_le (tgt := 17) hx hb dX3_number_12 (by decide) (fun c_3 => ?_) (fun c_3 => ?_)
  rotate_left
  · exact absurd c_3 (fun h => h (by rw [hij]; exact nI_le (b := 60) (by omega) (by decide)))
  refine lv_aload_n hx hb dX3_number_17 rfl (lv_at hl 0 rfl) ?_
  refine mm_get (v := .ref b) (ci := 3) (C := RX3) (T := TX3) (N := 2) hx hb hts (in_X3_number_X3) hown hK hM h_a rfl 0 (by decide) (hts (.fieldLink RX3 9 "GroupLog$Sector" "bytes" "[I") (List.mem_of_getElem? (i := 1) rfl)) rfl dX3_number_18 ?_
  refine lv_iload_n hx hb dX3_number_21 rfl (lv_at hl 1 rfl) ?_
  refine mm_iald hx hb hK hM 0 h_b rfl (j := j) (hij) (by omega) (by decide) dX3_number_22 ?_
  refine lv_bipush (v := 24) hx hb dX3_number_23 (by decide) ?_
  refine lv_ishl hx hb dX3_number_25 ?_
  refine lv_aload_n hx hb dX3_number_26 rfl (lv_at hl 0 rfl) ?_
  refine mm_get (v := .ref b) (ci := 3) (C := RX3) (T := TX3) (N := 2) hx hb hts (in_X3_number_X3) hown hK hM h_a rfl 0 (by decide) (hts (.fieldLink RX3 9 "GroupLog$Sector" "bytes" "[I") (List.mem_of_getElem? (i := 1) rfl)) rfl dX3_number_27 ?_
  refine lv_iload_n hx hb dX3_number_30 rfl (lv_at hl 1 rfl) ?_
  refine lv_iconst (v := 1) hx hb dX3_number_31 (by decide) ?_
  refine lv_iadd hx hb dX3_number_32 ?_
  refine mm_iald hx hb hK hM 0 h_b rfl (j := j + 1) (by rw [hij]; exact nI_add j 1) (by omega) (by decide) dX3_number_33 ?_
  refine lv_bipush (v := 16) hx hb dX3_number_34 (by decide) ?_
  refine lv_ishl hx hb dX3_number_36 ?_
  refine lv_ior hx hb dX3_number_37 ?_
  refine lv_aload_n hx hb dX3_number_38 rfl (lv_at hl 0 rfl) ?_
  refine mm_get (v := .ref b) (ci := 3) (C := RX3) (T := TX3) (N := 2) hx hb hts (in_X3_number_X3) hown hK hM h_a rfl 0 (by decide) (hts (.fieldLink RX3 9 "GroupLog$Sector" "bytes" "[I") (List.mem_of_getElem? (i := 1) rfl)) rfl dX3_number_39 ?_
  refine lv_iload_n hx hb dX3_number_42 rfl (lv_at hl 1 rfl) ?_
  refine lv_iconst (v := 2) hx hb dX3_number_43 (by decide) ?_
  refine lv_iadd hx hb dX3_number_44 ?_
  refine mm_iald hx hb hK hM 0 h_b rfl (j := j + 2) (by rw [hij]; exact nI_add j 2) (by omega) (by decide) dX3_number_45 ?_
  refine lv_bipush (v := 8) hx hb dX3_number_46 (by decide) ?_
  refine lv_ishl hx hb dX3_number_48 ?_
  refine lv_ior hx hb dX3_number_49 ?_
  refine lv_aload_n hx hb dX3_number_50 rfl (lv_at hl 0 rfl) ?_
  refine mm_get (v := .ref b) (ci := 3) (C := RX3) (T := TX3) (N := 2) hx hb hts (in_X3_number_X3) hown hK hM h_a rfl 0 (by decide) (hts (.fieldLink RX3 9 "GroupLog$Sector" "bytes" "[I") (List.mem_of_getElem? (i := 1) rfl)) rfl dX3_number_51 ?_
  refine lv_iload_n hx hb dX3_number_54 rfl (lv_at hl 1 rfl) ?_
  refine lv_iconst (v := 3) hx hb dX3_number_55 (by decide) ?_
  refine lv_iadd hx hb dX3_number_56 ?_
  refine mm_iald hx hb hK hM 0 h_b rfl (j := j + 3) (by rw [hij]; exact nI_add j 3) (by omega) (by decide) dX3_number_57 ?_
  refine lv_ior hx hb dX3_number_58 ?_
  exact mm_iret hx hb hr hlk hM hS (⟨rfl, rfl⟩) dX3_number_59

set_option maxHeartbeats 4000000 in
set_option maxRecDepth 100000 in
/-- Sector.setNumber -/
theorem c_X3_setNumber {l : Launch} {D : va_G} {A : Nat → Prop} {cI cS cB cZ : ClassId} {M : Nat → Option va_E} {sz : Nat} {a b : Nat} {t : Int32} {f : Nat → Int32} {i : Int32} (j : Nat) (hij : i = nI j) (hj : j < 61) {n : Int32} (h_a : M a = some (Sum.inr (3, [.ref b, .int t]) : va_E)) (h_b : M b = some (Sum.inl (cI, 64, .inl (f)) : va_E)) : Met l yX3_setNumber wsX3_setNumber ({ frames := 1, cells := 0, slots := 0, locals := 22 }) (mm_Pc D A (mm_T cI cS cB cZ) M sz [.ref a, .int i, .int n]) (mm_Qv D A (fun M1 => M1 b = some (Sum.inl (cI, 64, .inl (nm_s f j n)) : va_E) ∧ ∀ q, q ≠ b → M1 q = M q)) 0 0 A := by
  refine mm_met (cc := cX3_setNumber) (maxL := 3) (ret := none) (by decide) rfl (Nat.le_of_ble_eq_true rfl) ?_
  intro p e s m args below meth c hx hb hr hts hown hlk hin hml hsz hK hM hS ls hl
  subst hsz
  have hl : lv_has ls 3 [(0, .ref a), (1, .int i), (2, .int n)] := hl
  refine lv_aload_n hx hb dX3_setNumber_0 rfl (lv_at hl 0 rfl) ?_
  refine lv_iload_n hx hb dX3_setNumber_1 rfl (lv_at hl 1 rfl) ?_
  refine lv_iload_n hx hb dX3_setNumber_2 rfl (lv_at hl 2 rfl) ?_
  refine lv_bipush (v := 24) hx hb dX3_setNumber_3 (by decide) ?_
  refine lv_iushr hx hb dX3_setNumber_5 rfl ?_
  refine mm_callv (mm_runV (As := [.int i, .int ((n).toUInt32 >>> ((24 : Int32).toUInt32 &&& Int32.toUInt32 31)).toInt32]) (rest := []) ⟨hx, hb, hml, hown, hts⟩ (c_X3_set j hij (by omega) h_a h_b) (cwV 2 hts gX3_setNumber_X3_set rfl rfl rfl (by decide +kernel) ⟨Nat.le_of_ble_eq_true rfl, Nat.le_of_ble_eq_true rfl⟩) hK hM h_a rfl rfl hl.1 rfl (Nat.le_of_ble_eq_true rfl) dX3_setNumber_6 ⟨Nat.le_of_ble_eq_true rfl, Nat.le_of_ble_eq_true rfl⟩) hS (fun _ h => h) (fun M H locs hp hM hS hz _ => ?_)
  obtain ⟨ha, ho0⟩ := hp
  have h_a := (ho0 a (mm_ne h_a h_b mm_oa)).trans h_a
  have h_b : _ = some (Sum.inl (cI, 64, .inl (upd (f) j (us_h n 24 &&& 255))) : va_E) := ha
  refine lv_aload_n hx hb dX3_setNumber_9 rfl (lv_at hl 0 rfl) ?_
  refine lv_iload_n hx hb dX3_setNumber_10 rfl (lv_at hl 1 rfl) ?_
  refine lv_iconst (v := 1) hx hb dX3_setNumber_11 (by decide) ?_
  refine lv_iadd hx hb dX3_setNumber_12 ?_
  refine lv_iload_n hx hb dX3_setNumber_13 rfl (lv_at hl 2 rfl) ?_
  refine lv_bipush (v := 16) hx hb dX3_setNumber_14 (by decide) ?_
  refine lv_iushr hx hb dX3_setNumber_16 rfl ?_
  refine mm_callv (mm_runV (As := [.int (i + 1), .int ((n).toUInt32 >>> ((16 : Int32).toUInt32 &&& Int32.toUInt32 31)).toInt32]) (rest := []) ⟨hx, hb, hml, hown, hts⟩ (c_X3_set (j + 1) (by rw [hij]; exact nI_add j 1) (by omega) h_a h_b) (cwV 2 hts gX3_setNumber_X3_set rfl rfl rfl (by decide +kernel) ⟨Nat.le_of_ble_eq_true rfl, Nat.le_of_ble_eq_true rfl⟩) hK hM h_a rfl rfl hl.1 rfl (Nat.le_of_ble_eq_true rfl) dX3_setNumber_17 ⟨Nat.le_of_ble_eq_true rfl, Nat.le_of_ble_eq_true rfl⟩) hS (fun _ h => h) (fun M H locs hp hM hS hz _ => ?_)
  obtain ⟨ha, ho1⟩ := hp
  have h_a := (ho1 a (mm_ne h_a h_b mm_oa)).trans h_a
  have h_b : _ = some (Sum.inl (cI, 64, .inl (upd (upd (f) j (us_h n 24 &&& 255)) (j + 1) (us_h n 16 &&& 255))) : va_E) := ha
  refine lv_aload_n hx hb dX3_setNumber_20 rfl (lv_at hl 0 rfl) ?_
  refine lv_iload_n hx hb dX3_setNumber_21 rfl (lv_at hl 1 rfl) ?_
  refine lv_iconst (v := 2) hx hb dX3_setNumber_22 (by decide) ?_
  refine lv_iadd hx hb dX3_setNumber_23 ?_
  refine lv_iload_n hx hb dX3_setNumber_24 rfl (lv_at hl 2 rfl) ?_
  refine lv_bipush (v := 8) hx hb dX3_setNumber_25 (by decide) ?_
  refine lv_iushr hx hb dX3_setNumber_27 rfl ?_
  refine mm_callv (mm_runV (As := [.int (i + 2), .int ((n).toUInt32 >>> ((8 : Int32).toUInt32 &&& Int32.toUInt32 31)).toInt32]) (rest := []) ⟨hx, hb, hml, hown, hts⟩ (c_X3_set (j + 2) (by rw [hij]; exact nI_add j 2) (by omega) h_a h_b) (cwV 2 hts gX3_setNumber_X3_set rfl rfl rfl (by decide +kernel) ⟨Nat.le_of_ble_eq_true rfl, Nat.le_of_ble_eq_true rfl⟩) hK hM h_a rfl rfl hl.1 rfl (Nat.le_of_ble_eq_true rfl) dX3_setNumber_28 ⟨Nat.le_of_ble_eq_true rfl, Nat.le_of_ble_eq_true rfl⟩) hS (fun _ h => h) (fun M H locs hp hM hS hz _ => ?_)
  obtain ⟨ha, ho2⟩ := hp
  have h_a := (ho2 a (mm_ne h_a h_b mm_oa)).trans h_a
  have h_b : _ = some (Sum.inl (cI, 64, .inl (upd (upd (upd (f) j (us_h n 24 &&& 255)) (j + 1) (us_h n 16 &&& 255)) (j + 2) (us_h n 8 &&& 255))) : va_E) := ha
  refine lv_aload_n hx hb dX3_setNumber_31 rfl (lv_at hl 0 rfl) ?_
  refine lv_iload_n hx hb dX3_setNumber_32 rfl (lv_at hl 1 rfl) ?_
  refine lv_iconst (v := 3) hx hb dX3_setNumber_33 (by decide) ?_
  refine lv_iadd hx hb dX3_setNumber_34 ?_
  refine lv_iload_n hx hb dX3_setNumber_35 rfl (lv_at hl 2 rfl) ?_
  refine mm_callv (mm_runV (As := [.int (i + 3), .int n]) (rest := []) ⟨hx, hb, hml, hown, hts⟩ (c_X3_set (j + 3) (by rw [hij]; exact nI_add j 3) (by omega) h_a h_b) (cwV 2 hts gX3_setNumber_X3_set rfl rfl rfl (by decide +kernel) ⟨Nat.le_of_ble_eq_true rfl, Nat.le_of_ble_eq_true rfl⟩) hK hM h_a rfl rfl hl.1 rfl (Nat.le_of_ble_eq_true rfl) dX3_setNumber_36 ⟨Nat.le_of_ble_eq_true rfl, Nat.le_of_ble_eq_true rfl⟩) hS (fun _ h => h) (fun M H locs hp hM hS hz _ => ?_)
  obtain ⟨ha, ho3⟩ := hp
  have h_a := (ho3 a (mm_ne h_a h_b mm_oa)).trans h_a
  have h_b : _ = some (Sum.inl (cI, 64, .inl (upd (upd (upd (upd (f) j (us_h n 24 &&& 255)) (j + 1) (us_h n 16 &&& 255)) (j + 2) (us_h n 8 &&& 255)) (j + 3) (n &&& 255))) : va_E) := ha
  exact mm_vret hx hb hr hlk hM hS (⟨h_b, fun q hq => by rw [ho3 q hq, ho2 q hq, ho1 q hq, ho0 q hq]⟩) dX3_setNumber_39

theorem in_X3_clear_X3 : ∀ w ∈ u_ws RX3 TX3 2, w ∈ wsX3_clear := fun w h => List.mem_cons_of_mem _ (List.mem_append_right _ h)
set_option maxHeartbeats 4000000 in
set_option maxRecDepth 100000 in
theorem lp_X3_clear {p : Program} {l : Launch} {e : Env} {s : State} {m : MethodId} {args : Array Value} {below : List Frame} {meth : Method} {c : Code} {Q : State → Prop} {D : va_G} {A : Nat → Prop} {cI cS cB cZ : ClassId} {cells slots : Nat} {R : Room} (hx : p.tables.exec = Jvm.exec) (hb : c.code = cX3_clear) (hts : ∀ w ∈ wsX3_clear, w.before args s = true) (hown : s.vm.findClass RX3 = some m.cls) (hml : c.maxLocals = 2) (hK : mm_K D (mm_T cI cS cB cZ) s) {a b : Nat} {t : Int32} :
    ∀ (n i : Nat), i + n = 64 → ∀ (M : Nat → Option va_E) (H : Heap) (locs : List Loc) (f : Nat → Int32), mm_W D A M H → va_S A s.heap H locs → M a = some (Sum.inr (3, [.ref b, .int t]) : va_E) → M b = some (Sum.inl (cI, 64, .inl (f)) : va_E) → (∀ k, k < i → f k = 0) → (∀ (M1 : Nat → Option va_E) (H1 : Heap) (locs1 : List Loc) (f1 : Nat → Int32) (ls1 : Array Slot), mm_W D A M1 H1 → va_S A s.heap H1 locs1 → M1 b = some (Sum.inl (cI, 64, .inl f1) : va_E) → (∀ k, k < 64 → f1 k = 0) → (∀ q, q ≠ b → M1 q = M q) → W p l e R s m args below meth c H1 locs1 cells slots Q (F0 m 24 ls1 [])) → ∀ ls : Array Slot, lv_has ls 2 [(0, .ref a), (1, .int (nI i))] → W p l e R s m args below meth c H locs cells slots Q (F0 m 2 ls []) := by
  intro n
  induction n with
  | zero =>
    intro i hi M H locs f hM hS h_a h_b hf kx ls hl
    obtain rfl : i = 64 := by omega
    refine lv_iload_n hx hb dX3_clear_2 rfl (lv_at hl 1 rfl) ?_
    refine lv_aload_n hx hb dX3_clear_3 rfl (lv_at hl 0 rfl) ?_
    refine mm_get (v := .ref b) (ci := 3) (C := RX3) (T := TX3) (N := 2) hx hb hts (in_X3_clear_X3) hown hK hM h_a rfl 0 (by decide) (hts (.fieldLink RX3 9 "GroupLog$Sector" "bytes" "[I") (List.mem_of_getElem? (i := 1) rfl)) rfl dX3_clear_4 ?_
    refine mm_alen (v := 64) hx hb hK hM 0 h_b rfl rfl dX3_clear_7 ?_
    refine lv_icmp_ge (tgt := 24) hx hb dX3_clear_8 (by decide) (fun c_1 => ?_) (fun c_1 => ?_)
    rotate_left
    · exact absurd c_1 (fun h => h (by decide))
    exact kx M H locs f ls hM hS h_b hf (fun q _ => rfl)
  | succ n ih =>
    intro i hi M H locs f hM hS h_a h_b hf kx ls hl
    refine lv_iload_n hx hb dX3_clear_2 rfl (lv_at hl 1 rfl) ?_
    refine lv_aload_n hx hb dX3_clear_3 rfl (lv_at hl 0 rfl) ?_
    refine mm_get (v := .ref b) (ci := 3) (C := RX3) (T := TX3) (N := 2) hx hb hts (in_X3_clear_X3) hown hK hM h_a rfl 0 (by decide) (hts (.fieldLink RX3 9 "GroupLog$Sector" "bytes" "[I") (List.mem_of_getElem? (i := 1) rfl)) rfl dX3_clear_4 ?_
    refine mm_alen (v := 64) hx hb hK hM 0 h_b rfl rfl dX3_clear_7 ?_
    refine lv_icmp_ge (tgt := 24) hx hb dX3_clear_8 (by decide) (fun c_2 => ?_) (fun c_2 => ?_)
    · exact absurd c_2 (nI_ge (b := 64) (by omega) (by decide))
    refine lv_aload_n hx hb dX3_clear_11 rfl (lv_at hl 0 rfl) ?_
    refine mm_get (v := .ref b) (ci := 3) (C := RX3) (T := TX3) (N := 2) hx hb hts (in_X3_clear_X3) hown hK hM h_a rfl 0 (by decide) (hts (.fieldLink RX3 9 "GroupLog$Sector" "bytes" "[I") (List.mem_of_getElem? (i := 1) rfl)) rfl dX3_clear_12 ?_
    refine lv_iload_n hx hb dX3_clear_15 rfl (lv_at hl 1 rfl) ?_
    refine lv_iconst (v := 0) hx hb dX3_clear_16 (by decide) ?_
    refine mm_iast hx hb hK hM hS 0 h_b rfl (j := i) (rfl) (by omega) (by decide) dX3_clear_17 (fun H locs M hM ha ho hS => ?_)
    have h_a := (ho a (mm_ne h_a h_b mm_oa)).trans h_a
    have h_b : _ = some (Sum.inl (cI, 64, .inl (upd (f) (i) (0))) : va_E) := ha
    refine lv_iinc (v := (nI (i + 1))) (lv' := [(1, .int (nI (i + 1))), (0, .ref a)]) hx hb dX3_clear_18 hl (k := 1) rfl (by show _ + (1 : Int32) = _; exact nI_1 i) (by decide) rfl (fun ls hl => ?_)
    refine lv_goto (tgt := 2) hx hb dX3_clear_21 (by decide) ?_
    exact ih (i + 1) (by omega) M H locs _ hM hS h_a h_b (fun k hk => by by_cases h : k = i <;> simp [upd, h]; exact hf k (by omega)) (fun M1 H1 locs1 f1 ls1 g1 g2 g3 g4 g5 => kx M1 H1 locs1 f1 ls1 g1 g2 g3 g4 (fun q hq => by rw [g5 q hq, ho q hq])) ls (lv_sub hl [1, 0] rfl)

set_option maxHeartbeats 4000000 in
set_option maxRecDepth 100000 in
/-- Sector.clear -/
theorem c_X3_clear {l : Launch} {D : va_G} {A : Nat → Prop} {cI cS cB cZ : ClassId} {M : Nat → Option va_E} {sz : Nat} {a b : Nat} {t : Int32} {f : Nat → Int32} (h_a : M a = some (Sum.inr (3, [.ref b, .int t]) : va_E)) (h_b : M b = some (Sum.inl (cI, 64, .inl (f)) : va_E)) : Met l yX3_clear wsX3_clear ({ frames := 0, cells := 0, slots := 0, locals := 0 }) (mm_Pc D A (mm_T cI cS cB cZ) M sz [.ref a]) (mm_Qv D A (fun M1 => M1 b = some (Sum.inl (cI, 64, .inl (fun _ => 0)) : va_E) ∧ ∀ q, q ≠ b → M1 q = M q)) 0 0 A := by
  refine mm_met (cc := cX3_clear) (maxL := 2) (ret := none) (by decide) rfl (Nat.le_of_ble_eq_true rfl) ?_
  intro p e s m args below meth c hx hb hr hts hown hlk hin hml hsz hK hM hS ls hl
  subst hsz
  have hl : lv_has ls 2 [(0, .ref a)] := hl
  refine lv_iconst (v := 0) hx hb dX3_clear_0 (by decide) ?_
  refine lv_istore_n (lv' := [(1, .int 0), (0, .ref a)]) hx hb dX3_clear_1 rfl hl (by decide) rfl (fun ls hl => ?_)
  refine lp_X3_clear (a := a) (b := b) (t := t) hx hb hts hown hml hK 64 0 rfl _ _ _ f hM hS h_a h_b (fun k hk => absurd hk (by omega)) (fun M1 H locs f1 ls hM hS h_b hf ho => ?_) ls (lv_sub hl [1, 0] rfl)
  obtain ⟨M2, hM, g1, g2⟩ := hM.ext h_b (fun _ => 0) hf
  exact mm_vret hx hb hr hlk hM hS (⟨g1, fun q hq => by rw [g2 q hq, ho q hq]⟩) dX3_clear_24

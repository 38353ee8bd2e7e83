theorem in_X5_init_X0 : ∀ w ∈ u_ws RX0 TX0 8, w ∈ wsX5_init := fun w h => List.mem_cons_of_mem _ (List.mem_append_left _ (List.mem_append_left _ (List.mem_append_right _ h)))
theorem in_X5_init_X1 : ∀ w ∈ u_ws RX1 TX1 4, w ∈ wsX5_init := fun w h => List.mem_cons_of_mem _ (List.mem_append_left _ (List.mem_append_left _ (List.mem_append_left _ (List.mem_append_right _ h))))
theorem in_X5_init_X2 : ∀ w ∈ u_ws RX2 TX2 5, w ∈ wsX5_init := fun w h => List.mem_cons_of_mem _ (List.mem_append_left _ (List.mem_append_right _ h))
theorem in_X5_init_X3 : ∀ w ∈ u_ws RX3 TX3 2, w ∈ wsX5_init := fun w h => List.mem_cons_of_mem _ (List.mem_append_right _ h)
theorem in_X5_init_X4 : ∀ w ∈ u_ws RX4 TX4 4, w ∈ wsX5_init := fun w h => List.mem_cons_of_mem _ (List.mem_append_left _ (List.mem_append_left _ (List.mem_append_left _ (List.mem_append_left _ (List.mem_append_left _ (List.mem_append_right _ h))))))
theorem in_X5_init_X5 : ∀ w ∈ u_ws RX5 TX5 10, w ∈ wsX5_init := fun w h => List.mem_cons_of_mem _ (List.mem_append_left _ (List.mem_append_left _ (List.mem_append_left _ (List.mem_append_left _ (List.mem_append_right _ h)))))
set_option maxHeartbeats 4000000 in
set_option maxRecDepth 100000 in
/-- GroupLog() -/
theorem c_X5_init {l : Launch} {D : va_G} {A : Nat → Prop} {cI cS cB cZ : ClassId} {M : Nat → Option va_E} {sz : Nat} (hA : ∀ q, sz ≤ q → A q) {x : Nat} (h_x : M x = some (Sum.inr (5, [.null, .null, .null, .null, .null, .null, .int 0, .int 0, .int 0, .int 0]) : va_E)) : Met l yX5_init wsX5_init ({ frames := 3, cells := 139, slots := 5699, locals := 70 }) (mm_Pc D A (mm_T cI cS cB cZ) M sz [.ref x]) (mm_Qv D A (fun M1 => ∃ (st qu lg rd dr tp sa qb lb db : Nat) (fa : Nat → Option Nat) (g h : Nat → Nat), M1 x = some (Sum.inr (5, [.ref st, .ref qu, .ref lg, .ref rd, .ref dr, .ref tp, .int 0, .int 10, .int 0, .int 1]) : va_E) ∧ M1 st = some (Sum.inr (4, [.ref sa, .int 0, .int (-1), .int 0]) : va_E) ∧ M1 sa = some (Sum.inl (cS, 64, .inr (.inr (.inr (.inr (fa))))) : va_E) ∧ M1 qu = some (Sum.inr (1, [.ref qb, .int 0, .int 0, .int 0]) : va_E) ∧ M1 lg = some (Sum.inr (0, [.ref lb, .int 1, .int 1, .int 0, .int 2, .int 0, .int 2, .int 1]) : va_E) ∧ M1 dr = some (Sum.inr (3, [.ref db, .int 0]) : va_E) ∧ M1 db = some (Sum.inl (cI, 64, .inl (fun _ => 0)) : va_E) ∧ M1 tp = some (Sum.inl (cI, 200, .inl (fun _ => 0)) : va_E) ∧ st_inv cI M1 fa g h gl_F 64 ∧ h 1 ≠ db)) 139 5699 A := by
  refine mm_met (cc := cX5_init) (maxL := 1) (ret := none) (by decide) rfl (Nat.le_of_ble_eq_true rfl) ?_
  intro p e s m args below meth c hx hb hr hts hown hlk hin hml hsz hK hM hS ls hl
  subst hsz
  have hl : lv_has ls 1 [(0, .ref x)] := hl
  refine lv_aload_n hx hb dX5_init_0 rfl (lv_at hl 0 rfl) ?_
  refine W.objInit hx hb hown (hts (.methodLink RX5 3 objectInit) (List.mem_of_getElem? (i := 1) rfl)) (hts (.instanceMethod objectInit) (List.mem_of_getElem? (i := 2) rfl)) (hts _ (List.mem_of_getElem? (i := 3) rfl)) rfl (by rw [hml]; exact hl.1) rfl dX5_init_1 (Nat.le_of_ble_eq_true rfl) (Nat.le_of_ble_eq_true rfl) ?_
  refine W.eq (g2 := F0 m 4 ls []) rfl ?_
  refine lv_aload_n hx hb dX5_init_4 rfl (lv_at hl 0 rfl) ?_
  refine mm_new (ci := 4) (fs := [.null, .int 0, .int 0, .int 0]) (C := RX4) (T := TX4) (N := 4) hx hb hts (in_X5_init_X4) tyX4 tyX4_ok hown (hts (.classLink RX5 9 RX4) (List.mem_of_getElem? (i := 4) rfl)) (hts (.instantiable RX4 4) (List.mem_of_getElem? (i := 5) rfl)) (hts (.initialized RX4) (List.mem_of_getElem? (i := 6) rfl)) hK hM hS hA rfl (def_X4) (Nat.le_of_ble_eq_true rfl) (Nat.le_of_ble_eq_true rfl) dX5_init_5 (fun st H M hM ha hn ho hS => ?_)
  have n_x_st : x ≠ st := mm_nn h_x hn
  have h_x := (ho x n_x_st).trans h_x
  have h_st : _ = some (Sum.inr (4, [.null, .int 0, .int 0, .int 0]) : va_E) := ha
  refine W.widen (k := 1) (n := 4) (by omega) (by omega) ?_
  refine lv_dup hx hb dX5_init_8 rfl ?_
  refine mm_callv (mm_runI (As := []) (rest := [.ref st, .ref x]) ⟨hx, hb, hml, hown, hts⟩ (c_X4_init (mm_hA hA hS) h_st) (cwI 0 hts gX5_init_X4_init rfl rfl rfl (hts (.initialized RX4) (List.mem_of_getElem? (i := 6) rfl)) (hts (.methodLink RX5 11 yX4_init) (List.mem_of_getElem? (i := 30) rfl)) (hts (.instanceMethod yX4_init) (List.mem_of_getElem? (i := 31) rfl)) rfl (by decide +kernel) ⟨Nat.le_of_ble_eq_true rfl, Nat.le_of_ble_eq_true rfl⟩) hK hM rfl hl.1 rfl (Nat.le_of_ble_eq_true rfl) dX5_init_9 ⟨Nat.le_of_ble_eq_true rfl, Nat.le_of_ble_eq_true rfl⟩) hS (fun _ h => h) (fun M H locs hp hM hS hz _ => ?_)
  refine W.widen (k := 130) (n := 4292) (by omega) (by omega) ?_
  obtain ⟨sa, fa, g, h, ha, hsa, hI, hO⟩ := hp
  have h_x := (hO x (by rw [h_x]; exact fun h => by cases h) n_x_st).trans h_x
  have h_st : _ = some (Sum.inr (4, [.ref sa, .int 0, .int (-1), .int 0]) : va_E) := ha
  have h_sa : _ = some (Sum.inl (cS, 64, .inr (.inr (.inr (.inr (fa))))) : va_E) := hsa
  have h_xO := h_x
  refine mm_putF (v := .ref st) (ci := 5) (C := RX5) (T := TX5) (N := 10) hx hb hts (in_X5_init_X5) tyX5 tyX5_ok nmX5 hown hK hM hS h_x rfl 0 (by decide) (hts (.fieldLink RX5 12 "GroupLog" "store" "LGroupLog$Store;") (List.mem_of_getElem? (i := 7) rfl)) rfl hin rfl rfl rfl (Nat.le_of_ble_eq_true rfl) dX5_init_12 (fun H locs M hM ha ho hS => ?_)
  have h_st := (ho st (Ne.symm n_x_st)).trans h_st
  have h_sa := (ho sa (mm_ne h_sa h_x mm_ao)).trans h_sa
  have h_x : _ = some (Sum.inr (5, [.ref st, .null, .null, .null, .null, .null, .int 0, .int 0, .int 0, .int 0]) : va_E) := ha
  have hI := st_keep hI (fun j hj => ⟨ho _ (mm_ne (hI j hj).2.1 h_xO (mm_oo (by decide))), ho _ (mm_ne (hI j hj).2.2.1 h_xO mm_ao)⟩)
  refine lv_aload_n hx hb dX5_init_15 rfl (lv_at hl 0 rfl) ?_
  refine mm_new (ci := 1) (fs := [.null, .int 0, .int 0, .int 0]) (C := RX1) (T := TX1) (N := 4) hx hb hts (in_X5_init_X1) tyX1 tyX1_ok hown (hts (.classLink RX5 16 RX1) (List.mem_of_getElem? (i := 8) rfl)) (hts (.instantiable RX1 4) (List.mem_of_getElem? (i := 9) rfl)) (hts (.initialized RX1) (List.mem_of_getElem? (i := 10) rfl)) hK hM hS hA rfl (def_X1) (Nat.le_of_ble_eq_true rfl) (Nat.le_of_ble_eq_true rfl) dX5_init_16 (fun qu H M hM ha hn ho hS => ?_)
  have n_x_qu : x ≠ qu := mm_nn h_x hn
  have h_x := (ho x n_x_qu).trans h_x
  have n_st_qu : st ≠ qu := mm_nn h_st hn
  have h_st := (ho st n_st_qu).trans h_st
  have n_sa_qu : sa ≠ qu := mm_nn h_sa hn
  have h_sa := (ho sa n_sa_qu).trans h_sa
  have h_qu : _ = some (Sum.inr (1, [.null, .int 0, .int 0, .int 0]) : va_E) := ha
  refine W.widen (k := 131) (n := 4296) (by omega) (by omega) ?_
  have gn_qu : ∀ j, j < 64 → g j ≠ qu ∧ h j ≠ qu := fun j hj => ⟨mm_nn (hI j hj).2.1 hn, mm_nn (hI j hj).2.2.1 hn⟩
  have hI := st_keep hI (fun j hj => ⟨ho _ (gn_qu j hj).1, ho _ (gn_qu j hj).2⟩)
  refine lv_dup hx hb dX5_init_19 rfl ?_
  refine mm_callv (mm_runI (As := []) (rest := [.ref qu, .ref x]) ⟨hx, hb, hml, hown, hts⟩ (c_X1_init (mm_hA hA hS) h_qu) (cwI 0 hts gX5_init_X1_init rfl rfl rfl (hts (.initialized RX1) (List.mem_of_getElem? (i := 10) rfl)) (hts (.methodLink RX5 18 yX1_init) (List.mem_of_getElem? (i := 45) rfl)) (hts (.instanceMethod yX1_init) (List.mem_of_getElem? (i := 46) rfl)) rfl (by decide +kernel) ⟨Nat.le_of_ble_eq_true rfl, Nat.le_of_ble_eq_true rfl⟩) hK hM rfl hl.1 rfl (Nat.le_of_ble_eq_true rfl) dX5_init_20 ⟨Nat.le_of_ble_eq_true rfl, Nat.le_of_ble_eq_true rfl⟩) hS (fun _ h => h) (fun M H locs hp hM hS hz _ => ?_)
  refine W.widen (k := 132) (n := 4902) (by omega) (by omega) ?_
  obtain ⟨qb, ha, hb2, hO⟩ := hp
  have h_x := (hO x (by rw [h_x]; exact fun h => by cases h) n_x_qu).trans h_x
  have h_st := (hO st (by rw [h_st]; exact fun h => by cases h) n_st_qu).trans h_st
  have h_sa := (hO sa (by rw [h_sa]; exact fun h => by cases h) n_sa_qu).trans h_sa
  have hI := st_keep hI (fun j hj => ⟨hO _ (by rw [(hI j hj).2.1]; exact fun h => by cases h) (gn_qu j hj).1, hO _ (by rw [(hI j hj).2.2.1]; exact fun h => by cases h) (gn_qu j hj).2⟩)
  have h_qu : _ = some (Sum.inr (1, [.ref qb, .int 0, .int 0, .int 0]) : va_E) := ha
  have h_xO := h_x
  refine mm_putF (v := .ref qu) (ci := 5) (C := RX5) (T := TX5) (N := 10) hx hb hts (in_X5_init_X5) tyX5 tyX5_ok nmX5 hown hK hM hS h_x rfl 1 (by decide) (hts (.fieldLink RX5 19 "GroupLog" "queue" "LGroupLog$Queue;") (List.mem_of_getElem? (i := 11) rfl)) rfl hin rfl rfl rfl (Nat.le_of_ble_eq_true rfl) dX5_init_23 (fun H locs M hM ha ho hS => ?_)
  have h_st := (ho st (Ne.symm n_x_st)).trans h_st
  have h_sa := (ho sa (mm_ne h_sa h_x mm_ao)).trans h_sa
  have h_qu := (ho qu (Ne.symm n_x_qu)).trans h_qu
  have h_x : _ = some (Sum.inr (5, [.ref st, .ref qu, .null, .null, .null, .null, .int 0, .int 0, .int 0, .int 0]) : va_E) := ha
  have hI := st_keep hI (fun j hj => ⟨ho _ (mm_ne (hI j hj).2.1 h_xO (mm_oo (by decide))), ho _ (mm_ne (hI j hj).2.2.1 h_xO mm_ao)⟩)
  refine lv_aload_n hx hb dX5_init_26 rfl (lv_at hl 0 rfl) ?_
  refine mm_new (ci := 0) (fs := [.null, .int 0, .int 0, .int 0, .int 0, .int 0, .int 0, .int 0]) (C := RX0) (T := TX0) (N := 8) hx hb hts (in_X5_init_X0) tyX0 tyX0_ok hown (hts (.classLink RX5 23 RX0) (List.mem_of_getElem? (i := 12) rfl)) (hts (.instantiable RX0 8) (List.mem_of_getElem? (i := 13) rfl)) (hts (.initialized RX0) (List.mem_of_getElem? (i := 14) rfl)) hK hM hS hA rfl (def_X0) (Nat.le_of_ble_eq_true rfl) (Nat.le_of_ble_eq_true rfl) dX5_init_27 (fun lg H M hM ha hn ho hS => ?_)
  have n_x_lg : x ≠ lg := mm_nn h_x hn
  have h_x := (ho x n_x_lg).trans h_x
  have n_st_lg : st ≠ lg := mm_nn h_st hn
  have h_st := (ho st n_st_lg).trans h_st
  have n_sa_lg : sa ≠ lg := mm_nn h_sa hn
  have h_sa := (ho sa n_sa_lg).trans h_sa
  have n_qu_lg : qu ≠ lg := mm_nn h_qu hn
  have h_qu := (ho qu n_qu_lg).trans h_qu
  have h_lg : _ = some (Sum.inr (0, [.null, .int 0, .int 0, .int 0, .int 0, .int 0, .int 0, .int 0]) : va_E) := ha
  refine W.widen (k := 133) (n := 4910) (by omega) (by omega) ?_
  have gn_lg : ∀ j, j < 64 → g j ≠ lg ∧ h j ≠ lg := fun j hj => ⟨mm_nn (hI j hj).2.1 hn, mm_nn (hI j hj).2.2.1 hn⟩
  have hI := st_keep hI (fun j hj => ⟨ho _ (gn_lg j hj).1, ho _ (gn_lg j hj).2⟩)
  refine lv_dup hx hb dX5_init_30 rfl ?_
  refine mm_callv (mm_runI (As := []) (rest := [.ref lg, .ref x]) ⟨hx, hb, hml, hown, hts⟩ (c_X0_init (mm_hA hA hS) h_lg) (cwI 0 hts gX5_init_X0_init rfl rfl rfl (hts (.initialized RX0) (List.mem_of_getElem? (i := 14) rfl)) (hts (.methodLink RX5 25 yX0_init) (List.mem_of_getElem? (i := 53) rfl)) (hts (.instanceMethod yX0_init) (List.mem_of_getElem? (i := 54) rfl)) rfl (by decide +kernel) ⟨Nat.le_of_ble_eq_true rfl, Nat.le_of_ble_eq_true rfl⟩) hK hM rfl hl.1 rfl (Nat.le_of_ble_eq_true rfl) dX5_init_31 ⟨Nat.le_of_ble_eq_true rfl, Nat.le_of_ble_eq_true rfl⟩) hS (fun _ h => h) (fun M H locs hp hM hS hz _ => ?_)
  refine W.widen (k := 134) (n := 5422) (by omega) (by omega) ?_
  obtain ⟨lb, ha, hb2, hO⟩ := hp
  have h_x := (hO x (by rw [h_x]; exact fun h => by cases h) n_x_lg).trans h_x
  have h_st := (hO st (by rw [h_st]; exact fun h => by cases h) n_st_lg).trans h_st
  have h_sa := (hO sa (by rw [h_sa]; exact fun h => by cases h) n_sa_lg).trans h_sa
  have h_qu := (hO qu (by rw [h_qu]; exact fun h => by cases h) n_qu_lg).trans h_qu
  have hI := st_keep hI (fun j hj => ⟨hO _ (by rw [(hI j hj).2.1]; exact fun h => by cases h) (gn_lg j hj).1, hO _ (by rw [(hI j hj).2.2.1]; exact fun h => by cases h) (gn_lg j hj).2⟩)
  have h_lg : _ = some (Sum.inr (0, [.ref lb, .int 1, .int 1, .int 0, .int 2, .int 0, .int 2, .int 1]) : va_E) := ha
  have h_xO := h_x
  refine mm_putF (v := .ref lg) (ci := 5) (C := RX5) (T := TX5) (N := 10) hx hb hts (in_X5_init_X5) tyX5 tyX5_ok nmX5 hown hK hM hS h_x rfl 2 (by decide) (hts (.fieldLink RX5 26 "GroupLog" "log" "LGroupLog$Log;") (List.mem_of_getElem? (i := 15) rfl)) rfl hin rfl rfl rfl (Nat.le_of_ble_eq_true rfl) dX5_init_34 (fun H locs M hM ha ho hS => ?_)
  have h_st := (ho st (Ne.symm n_x_st)).trans h_st
  have h_sa := (ho sa (mm_ne h_sa h_x mm_ao)).trans h_sa
  have h_qu := (ho qu (Ne.symm n_x_qu)).trans h_qu
  have h_lg := (ho lg (Ne.symm n_x_lg)).trans h_lg
  have h_x : _ = some (Sum.inr (5, [.ref st, .ref qu, .ref lg, .null, .null, .null, .int 0, .int 0, .int 0, .int 0]) : va_E) := ha
  have hI := st_keep hI (fun j hj => ⟨ho _ (mm_ne (hI j hj).2.1 h_xO (mm_oo (by decide))), ho _ (mm_ne (hI j hj).2.2.1 h_xO mm_ao)⟩)
  refine lv_aload_n hx hb dX5_init_37 rfl (lv_at hl 0 rfl) ?_
  refine mm_new (ci := 2) (fs := [.null, .int 0, .int 0, .int 0, .int 0]) (C := RX2) (T := TX2) (N := 5) hx hb hts (in_X5_init_X2) tyX2 tyX2_ok hown (hts (.classLink RX5 30 RX2) (List.mem_of_getElem? (i := 16) rfl)) (hts (.instantiable RX2 5) (List.mem_of_getElem? (i := 17) rfl)) (hts (.initialized RX2) (List.mem_of_getElem? (i := 18) rfl)) hK hM hS hA rfl (def_X2) (Nat.le_of_ble_eq_true rfl) (Nat.le_of_ble_eq_true rfl) dX5_init_38 (fun rd H M hM ha hn ho hS => ?_)
  have n_x_rd : x ≠ rd := mm_nn h_x hn
  have h_x := (ho x n_x_rd).trans h_x
  have n_st_rd : st ≠ rd := mm_nn h_st hn
  have h_st := (ho st n_st_rd).trans h_st
  have n_sa_rd : sa ≠ rd := mm_nn h_sa hn
  have h_sa := (ho sa n_sa_rd).trans h_sa
  have n_qu_rd : qu ≠ rd := mm_nn h_qu hn
  have h_qu := (ho qu n_qu_rd).trans h_qu
  have n_lg_rd : lg ≠ rd := mm_nn h_lg hn
  have h_lg := (ho lg n_lg_rd).trans h_lg
  have h_rd : _ = some (Sum.inr (2, [.null, .int 0, .int 0, .int 0, .int 0]) : va_E) := ha
  refine W.widen (k := 135) (n := 5427) (by omega) (by omega) ?_
  have gn_rd : ∀ j, j < 64 → g j ≠ rd ∧ h j ≠ rd := fun j hj => ⟨mm_nn (hI j hj).2.1 hn, mm_nn (hI j hj).2.2.1 hn⟩
  have hI := st_keep hI (fun j hj => ⟨ho _ (gn_rd j hj).1, ho _ (gn_rd j hj).2⟩)
  refine lv_dup hx hb dX5_init_41 rfl ?_
  refine mm_callv (mm_runI (As := []) (rest := [.ref rd, .ref x]) ⟨hx, hb, hml, hown, hts⟩ (c_X2_init (mm_hA hA hS) h_rd) (cwI 0 hts gX5_init_X2_init rfl rfl rfl (hts (.initialized RX2) (List.mem_of_getElem? (i := 18) rfl)) (hts (.methodLink RX5 32 yX2_init) (List.mem_of_getElem? (i := 69) rfl)) (hts (.instanceMethod yX2_init) (List.mem_of_getElem? (i := 70) rfl)) rfl (by decide +kernel) ⟨Nat.le_of_ble_eq_true rfl, Nat.le_of_ble_eq_true rfl⟩) hK hM rfl hl.1 rfl (Nat.le_of_ble_eq_true rfl) dX5_init_42 ⟨Nat.le_of_ble_eq_true rfl, Nat.le_of_ble_eq_true rfl⟩) hS (fun _ h => h) (fun M H locs hp hM hS hz _ => ?_)
  refine W.widen (k := 136) (n := 5433) (by omega) (by omega) ?_
  obtain ⟨rb, ha, hb2, hO⟩ := hp
  have h_x := (hO x (by rw [h_x]; exact fun h => by cases h) n_x_rd).trans h_x
  have h_st := (hO st (by rw [h_st]; exact fun h => by cases h) n_st_rd).trans h_st
  have h_sa := (hO sa (by rw [h_sa]; exact fun h => by cases h) n_sa_rd).trans h_sa
  have h_qu := (hO qu (by rw [h_qu]; exact fun h => by cases h) n_qu_rd).trans h_qu
  have h_lg := (hO lg (by rw [h_lg]; exact fun h => by cases h) n_lg_rd).trans h_lg
  have hI := st_keep hI (fun j hj => ⟨hO _ (by rw [(hI j hj).2.1]; exact fun h => by cases h) (gn_rd j hj).1, hO _ (by rw [(hI j hj).2.2.1]; exact fun h => by cases h) (gn_rd j hj).2⟩)
  have h_xO := h_x
  refine mm_putF (v := .ref rd) (ci := 5) (C := RX5) (T := TX5) (N := 10) hx hb hts (in_X5_init_X5) tyX5 tyX5_ok nmX5 hown hK hM hS h_x rfl 3 (by decide) (hts (.fieldLink RX5 33 "GroupLog" "reader" "LGroupLog$Reader;") (List.mem_of_getElem? (i := 19) rfl)) rfl hin rfl rfl rfl (Nat.le_of_ble_eq_true rfl) dX5_init_45 (fun H locs M hM ha ho hS => ?_)
  have h_st := (ho st (Ne.symm n_x_st)).trans h_st
  have h_sa := (ho sa (mm_ne h_sa h_x mm_ao)).trans h_sa
  have h_qu := (ho qu (Ne.symm n_x_qu)).trans h_qu
  have h_lg := (ho lg (Ne.symm n_x_lg)).trans h_lg
  have h_x : _ = some (Sum.inr (5, [.ref st, .ref qu, .ref lg, .ref rd, .null, .null, .int 0, .int 0, .int 0, .int 0]) : va_E) := ha
  have hI := st_keep hI (fun j hj => ⟨ho _ (mm_ne (hI j hj).2.1 h_xO (mm_oo (by decide))), ho _ (mm_ne (hI j hj).2.2.1 h_xO mm_ao)⟩)
  refine lv_aload_n hx hb dX5_init_48 rfl (lv_at hl 0 rfl) ?_
  refine mm_new (ci := 3) (fs := [.null, .int 0]) (C := RX3) (T := TX3) (N := 2) hx hb hts (in_X5_init_X3) tyX3 tyX3_ok hown (hts (.classLink RX5 37 RX3) (List.mem_of_getElem? (i := 20) rfl)) (hts (.instantiable RX3 2) (List.mem_of_getElem? (i := 21) rfl)) (hts (.initialized RX3) (List.mem_of_getElem? (i := 22) rfl)) hK hM hS hA rfl (def_X3) (Nat.le_of_ble_eq_true rfl) (Nat.le_of_ble_eq_true rfl) dX5_init_49 (fun dr H M hM ha hn ho hS => ?_)
  have n_x_dr : x ≠ dr := mm_nn h_x hn
  have h_x := (ho x n_x_dr).trans h_x
  have n_st_dr : st ≠ dr := mm_nn h_st hn
  have h_st := (ho st n_st_dr).trans h_st
  have n_sa_dr : sa ≠ dr := mm_nn h_sa hn
  have h_sa := (ho sa n_sa_dr).trans h_sa
  have n_qu_dr : qu ≠ dr := mm_nn h_qu hn
  have h_qu := (ho qu n_qu_dr).trans h_qu
  have n_lg_dr : lg ≠ dr := mm_nn h_lg hn
  have h_lg := (ho lg n_lg_dr).trans h_lg
  have h_dr : _ = some (Sum.inr (3, [.null, .int 0]) : va_E) := ha
  refine W.widen (k := 137) (n := 5435) (by omega) (by omega) ?_
  have gn_dr : ∀ j, j < 64 → g j ≠ dr ∧ h j ≠ dr := fun j hj => ⟨mm_nn (hI j hj).2.1 hn, mm_nn (hI j hj).2.2.1 hn⟩
  have hI := st_keep hI (fun j hj => ⟨ho _ (gn_dr j hj).1, ho _ (gn_dr j hj).2⟩)
  refine lv_dup hx hb dX5_init_52 rfl ?_
  refine mm_callv (mm_runI (As := []) (rest := [.ref dr, .ref x]) ⟨hx, hb, hml, hown, hts⟩ (c_X3_init (mm_hA hA hS) h_dr) (cwI 0 hts gX5_init_X3_init rfl rfl rfl (hts (.initialized RX3) (List.mem_of_getElem? (i := 22) rfl)) (hts (.methodLink RX5 39 yX3_init) (List.mem_of_getElem? (i := 78) rfl)) (hts (.instanceMethod yX3_init) (List.mem_of_getElem? (i := 40) rfl)) rfl (by decide +kernel) ⟨Nat.le_of_ble_eq_true rfl, Nat.le_of_ble_eq_true rfl⟩) hK hM rfl hl.1 rfl (Nat.le_of_ble_eq_true rfl) dX5_init_53 ⟨Nat.le_of_ble_eq_true rfl, Nat.le_of_ble_eq_true rfl⟩) hS (fun _ h => h) (fun M H locs hp hM hS hz _ => ?_)
  refine W.widen (k := 138) (n := 5499) (by omega) (by omega) ?_
  obtain ⟨db, hnb, ha, hdb, ho⟩ := hp
  have n_x_db : x ≠ db := mm_nn h_x hnb
  have h_x := (ho x n_x_dr n_x_db).trans h_x
  have n_st_db : st ≠ db := mm_nn h_st hnb
  have h_st := (ho st n_st_dr n_st_db).trans h_st
  have n_sa_db : sa ≠ db := mm_nn h_sa hnb
  have h_sa := (ho sa n_sa_dr n_sa_db).trans h_sa
  have n_qu_db : qu ≠ db := mm_nn h_qu hnb
  have h_qu := (ho qu n_qu_dr n_qu_db).trans h_qu
  have n_lg_db : lg ≠ db := mm_nn h_lg hnb
  have h_lg := (ho lg n_lg_dr n_lg_db).trans h_lg
  have gn_db : ∀ j, j < 64 → g j ≠ db ∧ h j ≠ db := fun j hj => ⟨mm_nn (hI j hj).2.1 hnb, mm_nn (hI j hj).2.2.1 hnb⟩
  have hI := st_keep hI (fun j hj => ⟨ho _ (gn_dr j hj).1 (gn_db j hj).1, ho _ (gn_dr j hj).2 (gn_db j hj).2⟩)
  have h_dr : _ = some (Sum.inr (3, [.ref db, .int 0]) : va_E) := ha
  have h_db : _ = some (Sum.inl (cI, 64, .inl (fun _ => 0)) : va_E) := hdb
  have h_xO := h_x
  refine mm_putF (v := .ref dr) (ci := 5) (C := RX5) (T := TX5) (N := 10) hx hb hts (in_X5_init_X5) tyX5 tyX5_ok nmX5 hown hK hM hS h_x rfl 4 (by decide) (hts (.fieldLink RX5 40 "GroupLog" "draft" "LGroupLog$Sector;") (List.mem_of_getElem? (i := 23) rfl)) rfl hin rfl rfl rfl (Nat.le_of_ble_eq_true rfl) dX5_init_56 (fun H locs M hM ha ho hS => ?_)
  have h_st := (ho st (Ne.symm n_x_st)).trans h_st
  have h_sa := (ho sa (mm_ne h_sa h_x mm_ao)).trans h_sa
  have h_qu := (ho qu (Ne.symm n_x_qu)).trans h_qu
  have h_lg := (ho lg (Ne.symm n_x_lg)).trans h_lg
  have h_dr := (ho dr (Ne.symm n_x_dr)).trans h_dr
  have h_db := (ho db (Ne.symm n_x_db)).trans h_db
  have h_x : _ = some (Sum.inr (5, [.ref st, .ref qu, .ref lg, .ref rd, .ref dr, .null, .int 0, .int 0, .int 0, .int 0]) : va_E) := ha
  have hI := st_keep hI (fun j hj => ⟨ho _ (mm_ne (hI j hj).2.1 h_xO (mm_oo (by decide))), ho _ (mm_ne (hI j hj).2.2.1 h_xO mm_ao)⟩)
  refine lv_aload_n hx hb dX5_init_59 rfl (lv_at hl 0 rfl) ?_
  refine lv_sipush (v := 200) hx hb dX5_init_60 (by decide) ?_
  refine mm_newa (atype := .int) (ty := .int) (N' := 200) hx hb (hts (.arrayClass .int) (List.mem_of_getElem? (i := 24) rfl)) rfl hK hM hS hA 0 rfl (fun _ h => by cases h) (mm_z_int 200) (by decide +kernel) (by decide +kernel) (by decide +kernel) (Nat.le_of_ble_eq_true rfl) (Nat.le_of_ble_eq_true rfl) dX5_init_63 (fun tp H M hM ha hn ho hS => ?_)
  have n_x_tp : x ≠ tp := mm_nn h_x hn
  have h_x := (ho x n_x_tp).trans h_x
  have n_st_tp : st ≠ tp := mm_nn h_st hn
  have h_st := (ho st n_st_tp).trans h_st
  have n_sa_tp : sa ≠ tp := mm_nn h_sa hn
  have h_sa := (ho sa n_sa_tp).trans h_sa
  have n_qu_tp : qu ≠ tp := mm_nn h_qu hn
  have h_qu := (ho qu n_qu_tp).trans h_qu
  have n_lg_tp : lg ≠ tp := mm_nn h_lg hn
  have h_lg := (ho lg n_lg_tp).trans h_lg
  have n_dr_tp : dr ≠ tp := mm_nn h_dr hn
  have h_dr := (ho dr n_dr_tp).trans h_dr
  have n_db_tp : db ≠ tp := mm_nn h_db hn
  have h_db := (ho db n_db_tp).trans h_db
  have h_tp : _ = some (Sum.inl (cI, 200, .inl (fun _ => 0)) : va_E) := ha
  refine W.widen (k := 139) (n := 5699) (by omega) (by omega) ?_
  have gn_tp : ∀ j, j < 64 → g j ≠ tp ∧ h j ≠ tp := fun j hj => ⟨mm_nn (hI j hj).2.1 hn, mm_nn (hI j hj).2.2.1 hn⟩
  have hI := st_keep hI (fun j hj => ⟨ho _ (gn_tp j hj).1, ho _ (gn_tp j hj).2⟩)
  have h_xO := h_x
  refine mm_putF (v := .ref tp) (ci := 5) (C := RX5) (T := TX5) (N := 10) hx hb hts (in_X5_init_X5) tyX5 tyX5_ok nmX5 hown hK hM hS h_x rfl 5 (by decide) (hts (.fieldLink RX5 44 "GroupLog" "tape" "[I") (List.mem_of_getElem? (i := 25) rfl)) rfl hin rfl rfl rfl (Nat.le_of_ble_eq_true rfl) dX5_init_65 (fun H locs M hM ha ho hS => ?_)
  have h_st := (ho st (Ne.symm n_x_st)).trans h_st
  have h_sa := (ho sa (mm_ne h_sa h_x mm_ao)).trans h_sa
  have h_qu := (ho qu (Ne.symm n_x_qu)).trans h_qu
  have h_lg := (ho lg (Ne.symm n_x_lg)).trans h_lg
  have h_dr := (ho dr (Ne.symm n_x_dr)).trans h_dr
  have h_db := (ho db (Ne.symm n_x_db)).trans h_db
  have h_tp := (ho tp (Ne.symm n_x_tp)).trans h_tp
  have h_x : _ = some (Sum.inr (5, [.ref st, .ref qu, .ref lg, .ref rd, .ref dr, .ref tp, .int 0, .int 0, .int 0, .int 0]) : va_E) := ha
  have hI := st_keep hI (fun j hj => ⟨ho _ (mm_ne (hI j hj).2.1 h_xO (mm_oo (by decide))), ho _ (mm_ne (hI j hj).2.2.1 h_xO mm_ao)⟩)
  refine lv_aload_n hx hb dX5_init_68 rfl (lv_at hl 0 rfl) ?_
  refine lv_iconst (v := 0) hx hb dX5_init_69 (by decide) ?_
  have h_xO := h_x
  refine mm_put (v := .int 0) (ci := 5) (C := RX5) (T := TX5) (N := 10) hx hb hts (in_X5_init_X5) tyX5 tyX5_ok nmX5 hown hK hM hS h_x rfl 6 (by decide) (hts (.fieldLink RX5 48 "GroupLog" "tapeBytes" "I") (List.mem_of_getElem? (i := 26) rfl)) rfl rfl rfl (Nat.le_of_ble_eq_true rfl) dX5_init_70 (fun H locs M hM ha ho hS => ?_)
  have h_st := (ho st (Ne.symm n_x_st)).trans h_st
  have h_sa := (ho sa (mm_ne h_sa h_x mm_ao)).trans h_sa
  have h_qu := (ho qu (Ne.symm n_x_qu)).trans h_qu
  have h_lg := (ho lg (Ne.symm n_x_lg)).trans h_lg
  have h_dr := (ho dr (Ne.symm n_x_dr)).trans h_dr
  have h_db := (ho db (Ne.symm n_x_db)).trans h_db
  have h_tp := (ho tp (Ne.symm n_x_tp)).trans h_tp
  have h_x : _ = some (Sum.inr (5, [.ref st, .ref qu, .ref lg, .ref rd, .ref dr, .ref tp, .int 0, .int 0, .int 0, .int 0]) : va_E) := ha
  have hI := st_keep hI (fun j hj => ⟨ho _ (mm_ne (hI j hj).2.1 h_xO (mm_oo (by decide))), ho _ (mm_ne (hI j hj).2.2.1 h_xO mm_ao)⟩)
  refine lv_aload_n hx hb dX5_init_73 rfl (lv_at hl 0 rfl) ?_
  refine lv_bipush (v := 10) hx hb dX5_init_74 (by decide) ?_
  have h_xO := h_x
  refine mm_put (v := .int 10) (ci := 5) (C := RX5) (T := TX5) (N := 10) hx hb hts (in_X5_init_X5) tyX5 tyX5_ok nmX5 hown hK hM hS h_x rfl 7 (by decide) (hts (.fieldLink RX5 52 "GroupLog" "delayTicks" "I") (List.mem_of_getElem? (i := 27) rfl)) rfl rfl rfl (Nat.le_of_ble_eq_true rfl) dX5_init_76 (fun H locs M hM ha ho hS => ?_)
  have h_st := (ho st (Ne.symm n_x_st)).trans h_st
  have h_sa := (ho sa (mm_ne h_sa h_x mm_ao)).trans h_sa
  have h_qu := (ho qu (Ne.symm n_x_qu)).trans h_qu
  have h_lg := (ho lg (Ne.symm n_x_lg)).trans h_lg
  have h_dr := (ho dr (Ne.symm n_x_dr)).trans h_dr
  have h_db := (ho db (Ne.symm n_x_db)).trans h_db
  have h_tp := (ho tp (Ne.symm n_x_tp)).trans h_tp
  have h_x : _ = some (Sum.inr (5, [.ref st, .ref qu, .ref lg, .ref rd, .ref dr, .ref tp, .int 0, .int 10, .int 0, .int 0]) : va_E) := ha
  have hI := st_keep hI (fun j hj => ⟨ho _ (mm_ne (hI j hj).2.1 h_xO (mm_oo (by decide))), ho _ (mm_ne (hI j hj).2.2.1 h_xO mm_ao)⟩)
  refine lv_aload_n hx hb dX5_init_79 rfl (lv_at hl 0 rfl) ?_
  refine lv_iconst (v := 0) hx hb dX5_init_80 (by decide) ?_
  have h_xO := h_x
  refine mm_put (v := .int 0) (ci := 5) (C := RX5) (T := TX5) (N := 10) hx hb hts (in_X5_init_X5) tyX5 tyX5_ok nmX5 hown hK hM hS h_x rfl 8 (by decide) (hts (.fieldLink RX5 55 "GroupLog" "flushes" "I") (List.mem_of_getElem? (i := 28) rfl)) rfl rfl rfl (Nat.le_of_ble_eq_true rfl) dX5_init_81 (fun H locs M hM ha ho hS => ?_)
  have h_st := (ho st (Ne.symm n_x_st)).trans h_st
  have h_sa := (ho sa (mm_ne h_sa h_x mm_ao)).trans h_sa
  have h_qu := (ho qu (Ne.symm n_x_qu)).trans h_qu
  have h_lg := (ho lg (Ne.symm n_x_lg)).trans h_lg
  have h_dr := (ho dr (Ne.symm n_x_dr)).trans h_dr
  have h_db := (ho db (Ne.symm n_x_db)).trans h_db
  have h_tp := (ho tp (Ne.symm n_x_tp)).trans h_tp
  have h_x : _ = some (Sum.inr (5, [.ref st, .ref qu, .ref lg, .ref rd, .ref dr, .ref tp, .int 0, .int 10, .int 0, .int 0]) : va_E) := ha
  have hI := st_keep hI (fun j hj => ⟨ho _ (mm_ne (hI j hj).2.1 h_xO (mm_oo (by decide))), ho _ (mm_ne (hI j hj).2.2.1 h_xO mm_ao)⟩)
  refine lv_aload_n hx hb dX5_init_84 rfl (lv_at hl 0 rfl) ?_
  refine lv_iconst (v := 1) hx hb dX5_init_85 (by decide) ?_
  have h_xO := h_x
  refine mm_put (v := .int 1) (ci := 5) (C := RX5) (T := TX5) (N := 10) hx hb hts (in_X5_init_X5) tyX5 tyX5_ok nmX5 hown hK hM hS h_x rfl 9 (by decide) (hts (.fieldLink RX5 58 "GroupLog" "on" "Z") (List.mem_of_getElem? (i := 29) rfl)) rfl rfl rfl (Nat.le_of_ble_eq_true rfl) dX5_init_86 (fun H locs M hM ha ho hS => ?_)
  have h_st := (ho st (Ne.symm n_x_st)).trans h_st
  have h_sa := (ho sa (mm_ne h_sa h_x mm_ao)).trans h_sa
  have h_qu := (ho qu (Ne.symm n_x_qu)).trans h_qu
  have h_lg := (ho lg (Ne.symm n_x_lg)).trans h_lg
  have h_dr := (ho dr (Ne.symm n_x_dr)).trans h_dr
  have h_db := (ho db (Ne.symm n_x_db)).trans h_db
  have h_tp := (ho tp (Ne.symm n_x_tp)).trans h_tp
  have h_x : _ = some (Sum.inr (5, [.ref st, .ref qu, .ref lg, .ref rd, .ref dr, .ref tp, .int 0, .int 10, .int 0, .int 1]) : va_E) := ha
  have hI := st_keep hI (fun j hj => ⟨ho _ (mm_ne (hI j hj).2.1 h_xO (mm_oo (by decide))), ho _ (mm_ne (hI j hj).2.2.1 h_xO mm_ao)⟩)
  have h_g0 := (hI 0 (by decide)).2.1
  have h_h0 := (hI 0 (by decide)).2.2.1
  refine lv_aload_n hx hb dX5_init_89 rfl (lv_at hl 0 rfl) ?_
  refine mm_get (v := .ref st) (ci := 5) (C := RX5) (T := TX5) (N := 10) hx hb hts (in_X5_init_X5) hown hK hM h_x rfl 0 (by decide) (hts (.fieldLink RX5 12 "GroupLog" "store" "LGroupLog$Store;") (List.mem_of_getElem? (i := 7) rfl)) rfl dX5_init_90 ?_
  refine lv_iconst (v := 0) hx hb dX5_init_93 (by decide) ?_
  refine mm_callr (mm_runV (As := [.int 0]) (rest := []) ⟨hx, hb, hml, hown, hts⟩ (c_X4_sector 0 rfl (by decide) (hI 0 (by decide)).1 h_st h_sa) (cwV 1 hts gX5_init_X4_sector rfl rfl rfl (by decide +kernel) ⟨Nat.le_of_ble_eq_true rfl, Nat.le_of_ble_eq_true rfl⟩) hK hM h_st rfl rfl hl.1 rfl (Nat.le_of_ble_eq_true rfl) dX5_init_94 ⟨Nat.le_of_ble_eq_true rfl, Nat.le_of_ble_eq_true rfl⟩) hS (fun _ h => h) (fun r1 M H locs hp hM hS hz _ => ?_)
  obtain ⟨rfl, hme⟩ := hp
  rw [hme] at hM
  refine lv_iconst (v := 1) hx hb dX5_init_97 (by decide) ?_
  refine lv_iconst (v := 1) hx hb dX5_init_98 (by decide) ?_
  refine lv_iconst (v := 1) hx hb dX5_init_99 (by decide) ?_
  refine lv_iconst (v := 2) hx hb dX5_init_100 (by decide) ?_
  refine mm_callv (mm_runV (As := [.int 1, .int 1, .int 1, .int 2]) (rest := []) ⟨hx, hb, hml, hown, hts⟩ (c_X3_makeHead h_g0 h_h0) (cwV 4 hts gX5_init_X3_makeHead rfl rfl rfl (by decide +kernel) ⟨Nat.le_of_ble_eq_true rfl, Nat.le_of_ble_eq_true rfl⟩) hK hM h_g0 rfl rfl hl.1 rfl (Nat.le_of_ble_eq_true rfl) dX5_init_101 ⟨Nat.le_of_ble_eq_true rfl, Nat.le_of_ble_eq_true rfl⟩) hS (fun _ h => h) (fun M H locs hp hM hS hz _ => ?_)
  obtain ⟨ha, ho⟩ := hp
  have hI := st_head hI ha ho
  have h_h0 : _ = some (Sum.inl (cI, 64, .inl (fun _ => 0)) : va_E) := h_h0
  have h_x := (ho x (mm_ne h_x h_h0 mm_oa)).trans h_x
  have h_st := (ho st (mm_ne h_st h_h0 mm_oa)).trans h_st
  have h_sa := (ho sa (mm_ne h_sa h_h0 mm_qi)).trans h_sa
  have h_qu := (ho qu (mm_ne h_qu h_h0 mm_oa)).trans h_qu
  have h_lg := (ho lg (mm_ne h_lg h_h0 mm_oa)).trans h_lg
  have h_dr := (ho dr (mm_ne h_dr h_h0 mm_oa)).trans h_dr
  have h_db := (ho db (Ne.symm (gn_db 0 (by decide)).2)).trans h_db
  have h_tp := (ho tp (mm_ne h_tp h_h0 (mm_an (by decide)))).trans h_tp
  have h_h0 : _ = some (Sum.inl (cI, 64, .inl (hd_f 1 1 1 2)) : va_E) := ha
  refine lv_aload_n hx hb dX5_init_104 rfl (lv_at hl 0 rfl) ?_
  refine mm_get (v := .ref lg) (ci := 5) (C := RX5) (T := TX5) (N := 10) hx hb hts (in_X5_init_X5) hown hK hM h_x rfl 2 (by decide) (hts (.fieldLink RX5 26 "GroupLog" "log" "LGroupLog$Log;") (List.mem_of_getElem? (i := 15) rfl)) rfl dX5_init_105 ?_
  refine lv_iconst (v := 2) hx hb dX5_init_108 (by decide) ?_
  refine lv_iconst (v := 1) hx hb dX5_init_109 (by decide) ?_
  refine lv_iconst (v := 1) hx hb dX5_init_110 (by decide) ?_
  have h_lgO := h_lg
  refine mm_callv (mm_runV (As := [.int 2, .int 1, .int 1]) (rest := []) ⟨hx, hb, hml, hown, hts⟩ (c_X0_openAt h_lg) (cwV 3 hts gX5_init_X0_openAt rfl rfl rfl (by decide +kernel) ⟨Nat.le_of_ble_eq_true rfl, Nat.le_of_ble_eq_true rfl⟩) hK hM h_lg rfl rfl hl.1 rfl (Nat.le_of_ble_eq_true rfl) dX5_init_111 ⟨Nat.le_of_ble_eq_true rfl, Nat.le_of_ble_eq_true rfl⟩) hS (fun _ h => h) (fun M H locs hp hM hS hz _ => ?_)
  obtain ⟨ha, ho⟩ := hp
  have h_x := (ho x n_x_lg).trans h_x
  have h_st := (ho st n_st_lg).trans h_st
  have h_sa := (ho sa n_sa_lg).trans h_sa
  have h_qu := (ho qu n_qu_lg).trans h_qu
  have h_dr := (ho dr (Ne.symm n_lg_dr)).trans h_dr
  have h_db := (ho db (Ne.symm n_lg_db)).trans h_db
  have h_tp := (ho tp (Ne.symm n_lg_tp)).trans h_tp
  have h_lg : _ = some (Sum.inr (0, [.ref lb, .int 1, .int 1, .int 0, .int 2, .int 0, .int 2, .int 1]) : va_E) := ha
  have hI := st_keep hI (fun j hj => ⟨ho _ (mm_ne (hI j hj).2.1 h_lgO (mm_oo (by decide))), ho _ (mm_ne (hI j hj).2.2.1 h_lgO mm_ao)⟩)
  exact mm_vret hx hb hr hlk hM hS (⟨st, qu, lg, rd, dr, tp, sa, qb, lb, db, fa, g, h, h_x, h_st, h_sa, h_qu, h_lg, h_dr, h_db, h_tp, hI, (gn_db 1 (by decide)).2⟩) dX5_init_114

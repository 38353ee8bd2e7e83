theorem cp_in {f : Nat → Int32} {fs : Nat → Int32} {i : Nat} (hf : ∀ k, f k = if k < i then vp_nar .byte (fs k) else 0) (k : Nat) : upd f i (vp_nar .byte (fs i)) k = if k < i + 1 then vp_nar .byte (fs k) else 0 := by
  show (if k = i then _ else f k) = _
  by_cases h : k = i
  · subst h
    rw [if_pos rfl, if_pos (by omega)]
  · rw [if_neg h, hf k]
    by_cases h2 : k < i
    · rw [if_pos h2, if_pos (by omega)]
    · rw [if_neg h2, if_neg (by omega)]

theorem in_X6_init_X6 : ∀ w ∈ u_ws RX6 TX6 34, w ∈ wsX6_init := fun w h => List.mem_cons_of_mem _ (List.mem_append_right _ h)
set_option maxHeartbeats 4000000 in
set_option maxRecDepth 100000 in
theorem lp_X6_init {p : Program} {l : Launch} {e : Env} {s : State} {m : MethodId} {args : Array Value} {below : List Frame} {meth : Method} {c : Code} {Q : State → Prop} {D : va_G} {A : Nat → Prop} {cI cS cB cZ : ClassId} {cells slots : Nat} {R : Room} (hx : p.tables.exec = Jvm.exec) (hb : c.code = cX6_init) (hts : ∀ w ∈ wsX6_init, w.before args s = true) (hown : s.vm.findClass RX6 = some m.cls) (hml : c.maxLocals = 2) (hK : mm_K D (mm_T cI cS cB cZ) s) {m0 dk it tq qq qg r1 r2 r3 sc hd : Nat} {fs : Nat → Int32} :
    ∀ (n i : Nat), i + n = 64 → ∀ (M : Nat → Option va_E) (H : Heap) (locs : List Loc) (f : Nat → Int32), mm_W D A M H → va_S A s.heap H locs → M m0 = some (Sum.inr (6, [.ref dk, .ref it, .int 1, .int (-1), .int 0, .int 10, .int 0, .int 0, .ref tq, .int 0, .ref qq, .int 0, .ref qg, .int 0, .int 0, .int 0, .int 1, .int 1, .int 1, .int 2, .int 2, .int 1, .int 0, .ref r1, .ref r2, .ref r3, .ref sc, .int 0, .ref hd, .int 0, .int 0, .int 0, .int 0, .int 0]) : va_E) → M dk = some (Sum.inl (cB, 4096, .inl (f)) : va_E) → M sc = some (Sum.inl (cB, 64, .inl (fs)) : va_E) → (∀ k, f k = if k < i then vp_nar .byte (fs k) else 0) → (∀ (M1 : Nat → Option va_E) (H1 : Heap) (locs1 : List Loc) (ls1 : Array Slot), mm_W D A M1 H1 → va_S A s.heap H1 locs1 → M1 dk = some (Sum.inl (cB, 4096, .inl (fun k => if k < 64 then vp_nar .byte (fs k) else 0)) : va_E) → (∀ q, q ≠ dk → M1 q = M q) → W p l e R s m args below meth c H1 locs1 cells slots Q (F0 m 166 ls1 [])) → ∀ ls : Array Slot, lv_has ls 2 [(0, .ref m0), (1, .int (nI i))] → W p l e R s m args below meth c H locs cells slots Q (F0 m 142 ls []) := by
  intro n
  induction n with
  | zero =>
    intro i hi M H locs f hM hS h_m0 h_dk h_sc hf kx ls hl
    obtain rfl : i = 64 := by omega
    refine lv_iload_n hx hb dX6_init_142 rfl (lv_at hl 1 rfl) ?_
    refine lv_bipush (v := 64) hx hb dX6_init_143 (by decide) ?_
    refine lv_icmp_ge (tgt := 166) hx hb dX6_init_145 (by decide) (fun c_1 => ?_) (fun c_1 => ?_)
    rotate_left
    · exact absurd c_1 (fun h => h (by decide))
    obtain rfl : f = fun k => if k < 64 then vp_nar .byte (fs k) else 0 := funext hf
    exact kx M H locs ls hM hS h_dk (fun q _ => rfl)
  | succ n ih =>
    intro i hi M H locs f hM hS h_m0 h_dk h_sc hf kx ls hl
    refine lv_iload_n hx hb dX6_init_142 rfl (lv_at hl 1 rfl) ?_
    refine lv_bipush (v := 64) hx hb dX6_init_143 (by decide) ?_
    refine lv_icmp_ge (tgt := 166) hx hb dX6_init_145 (by decide) (fun c_2 => ?_) (fun c_2 => ?_)
    · exact absurd c_2 (nI_ge (b := 64) (by omega) (by decide))
    refine lv_aload_n hx hb dX6_init_148 rfl (lv_at hl 0 rfl) ?_
    refine mm_get (v := .ref dk) (ci := 6) (C := RX6) (T := TX6) (N := 34) hx hb hts (in_X6_init_X6) hown hK hM h_m0 rfl 0 (by decide) (hts (.fieldLink RX6 7 "GroupLogModel" "disk" "[B") (List.mem_of_getElem? (i := 5) rfl)) rfl dX6_init_149 ?_
    refine lv_iload_n hx hb dX6_init_152 rfl (lv_at hl 1 rfl) ?_
    refine lv_aload_n hx hb dX6_init_153 rfl (lv_at hl 0 rfl) ?_
    refine mm_get (v := .ref sc) (ci := 6) (C := RX6) (T := TX6) (N := 34) hx hb hts (in_X6_init_X6) hown hK hM h_m0 rfl 26 (by decide) (hts (.fieldLink RX6 65 "GroupLogModel" "sector" "[B") (List.mem_of_getElem? (i := 24) rfl)) rfl dX6_init_154 ?_
    refine lv_iload_n hx hb dX6_init_157 rfl (lv_at hl 1 rfl) ?_
    refine mm_bald hx hb hK hM 2 h_sc rfl (j := i) (rfl) (by omega) (by decide) dX6_init_158 ?_
    refine mm_bast hx hb hK hM hS 2 h_dk rfl (j := i) (rfl) (by omega) (by decide) dX6_init_159 (fun H locs M hM ha ho hS => ?_)
    have h_m0 := (ho m0 (mm_ne h_m0 h_dk mm_oa)).trans h_m0
    have h_sc := (ho sc (mm_ne h_sc h_dk (mm_an (by decide)))).trans h_sc
    have h_dk : _ = some (Sum.inl (cB, 4096, .inl (upd (f) (i) ((vp_nar .byte (((fs) (i))))))) : va_E) := ha
    refine lv_iinc (v := (nI (i + 1))) (lv' := [(1, .int (nI (i + 1))), (0, .ref m0)]) hx hb dX6_init_160 hl (k := 1) rfl (by show _ + (1 : Int32) = _; exact nI_1 i) (by decide) rfl (fun ls hl => ?_)
    refine lv_goto (tgt := 142) hx hb dX6_init_163 (by decide) ?_
    exact ih (i + 1) (by omega) M H locs _ hM hS h_m0 h_dk h_sc (fun k => cp_in hf k) (fun M1 H1 locs1 ls1 g1 g2 g3 g5 => kx M1 H1 locs1 ls1 g1 g2 g3 (fun q hq => by rw [g5 q hq, ho q hq])) ls (lv_sub hl [1, 0] rfl)

set_option maxHeartbeats 4000000 in
set_option maxRecDepth 100000 in
/-- GroupLogModel() -/
theorem c_X6_init {l : Launch} {D : va_G} {A : Nat → Prop} {cI cS cB cZ : ClassId} {M : Nat → Option va_E} {sz : Nat} (hA : ∀ q, sz ≤ q → A q) {mo : Nat} (h_mo : M mo = some (Sum.inr (6, [.null, .null, .int 0, .int 0, .int 0, .int 0, .int 0, .int 0, .null, .int 0, .null, .int 0, .null, .int 0, .int 0, .int 0, .int 0, .int 0, .int 0, .int 0, .int 0, .int 0, .int 0, .null, .null, .null, .null, .int 0, .null, .int 0, .int 0, .int 0, .int 0, .int 0]) : va_E)) : Met l yX6_init wsX6_init ({ frames := 3, cells := 10, slots := 7050, locals := 66 }) (mm_Pc D A (mm_T cI cS cB cZ) M sz [.ref mo]) (mm_Qv D A (fun M1 => ∃ (dk it tq qq qg r1 r2 r3 sc hd : Nat), M1 mo = some (Sum.inr (6, [.ref dk, .ref it, .int 1, .int (-1), .int 0, .int 10, .int 0, .int 0, .ref tq, .int 0, .ref qq, .int 0, .ref qg, .int 0, .int 0, .int 0, .int 1, .int 1, .int 1, .int 2, .int 2, .int 1, .int 0, .ref r1, .ref r2, .ref r3, .ref sc, .int 0, .ref hd, .int 0, .int 0, .int 0, .int 0, .int 0]) : va_E) ∧ M1 dk = some (Sum.inl (cB, 4096, .inl (md_F)) : va_E) ∧ M1 it = some (Sum.inl (cZ, 64, .inl (fun _ => 0)) : va_E) ∧ M1 tq = some (Sum.inl (cB, 200, .inl (fun _ => 0)) : va_E) ∧ M1 sc = some (Sum.inl (cB, 64, .inl (mh_f 1 1 1 2)) : va_E) ∧ it ≠ sc)) 10 7050 A := by
  refine mm_met (cc := cX6_init) (maxL := 2) (ret := none) (by decide) rfl (Nat.le_of_ble_eq_true rfl) ?_
  intro p e s m args below meth c hx hb hr hts hown hlk hin hml hsz hK hM hS ls hl
  subst hsz
  have hl : lv_has ls 2 [(0, .ref mo)] := hl
  refine lv_aload_n hx hb dX6_init_0 rfl (lv_at hl 0 rfl) ?_
  refine W.objInit hx hb hown (hts (.methodLink RX6 1 objectInit) (List.mem_of_getElem? (i := 1) rfl)) (hts (.instanceMethod objectInit) (List.mem_of_getElem? (i := 2) rfl)) (hts _ (List.mem_of_getElem? (i := 3) rfl)) rfl (by rw [hml]; exact hl.1) rfl dX6_init_1 (Nat.le_of_ble_eq_true rfl) (Nat.le_of_ble_eq_true rfl) ?_
  refine W.eq (g2 := F0 m 4 ls []) rfl ?_
  refine lv_aload_n hx hb dX6_init_4 rfl (lv_at hl 0 rfl) ?_
  refine lv_sipush (v := 4096) hx hb dX6_init_5 (by decide) ?_
  refine mm_newa (atype := .byte) (ty := .byte) (N' := 4096) hx hb (hts (.arrayClass .byte) (List.mem_of_getElem? (i := 4) rfl)) rfl hK hM hS hA 2 rfl (fun _ h => by cases h) (mm_z_byte 4096) (by decide +kernel) (by decide +kernel) (by decide +kernel) (Nat.le_of_ble_eq_true rfl) (Nat.le_of_ble_eq_true rfl) dX6_init_8 (fun dk H M hM ha hn ho hS => ?_)
  have n_mo_dk : mo ≠ dk := mm_nn h_mo hn
  have h_mo := (ho mo n_mo_dk).trans h_mo
  have h_dk : _ = some (Sum.inl (cB, 4096, .inl (fun _ => 0)) : va_E) := ha
  refine W.widen (k := 1) (n := 4096) (by omega) (by omega) ?_
  refine mm_putF (v := .ref dk) (ci := 6) (C := RX6) (T := TX6) (N := 34) hx hb hts (in_X6_init_X6) tyX6 tyX6_ok nmX6 hown hK hM hS h_mo rfl 0 (by decide) (hts (.fieldLink RX6 7 "GroupLogModel" "disk" "[B") (List.mem_of_getElem? (i := 5) rfl)) rfl hin rfl rfl rfl (Nat.le_of_ble_eq_true rfl) dX6_init_10 (fun H locs M hM ha ho hS => ?_)
  have h_dk := (ho dk (Ne.symm n_mo_dk)).trans h_dk
  have h_mo : _ = some (Sum.inr (6, [.ref dk, .null, .int 0, .int 0, .int 0, .int 0, .int 0, .int 0, .null, .int 0, .null, .int 0, .null, .int 0, .int 0, .int 0, .int 0, .int 0, .int 0, .int 0, .int 0, .int 0, .int 0, .null, .null, .null, .null, .int 0, .null, .int 0, .int 0, .int 0, .int 0, .int 0]) : va_E) := ha
  refine lv_aload_n hx hb dX6_init_13 rfl (lv_at hl 0 rfl) ?_
  refine lv_bipush (v := 64) hx hb dX6_init_14 (by decide) ?_
  refine mm_newa (atype := .boolean) (ty := .boolean) (N' := 64) hx hb (hts (.arrayClass .boolean) (List.mem_of_getElem? (i := 6) rfl)) rfl hK hM hS hA 3 rfl (fun _ h => by cases h) (mm_z_boolean 64) (by decide +kernel) (by decide +kernel) (by decide +kernel) (Nat.le_of_ble_eq_true rfl) (Nat.le_of_ble_eq_true rfl) dX6_init_16 (fun it H M hM ha hn ho hS => ?_)
  have n_mo_it : mo ≠ it := mm_nn h_mo hn
  have h_mo := (ho mo n_mo_it).trans h_mo
  have n_dk_it : dk ≠ it := mm_nn h_dk hn
  have h_dk := (ho dk n_dk_it).trans h_dk
  have h_it : _ = some (Sum.inl (cZ, 64, .inl (fun _ => 0)) : va_E) := ha
  refine W.widen (k := 2) (n := 4160) (by omega) (by omega) ?_
  refine mm_putF (v := .ref it) (ci := 6) (C := RX6) (T := TX6) (N := 34) hx hb hts (in_X6_init_X6) tyX6 tyX6_ok nmX6 hown hK hM hS h_mo rfl 1 (by decide) (hts (.fieldLink RX6 13 "GroupLogModel" "isTorn" "[Z") (List.mem_of_getElem? (i := 7) rfl)) rfl hin rfl rfl rfl (Nat.le_of_ble_eq_true rfl) dX6_init_18 (fun H locs M hM ha ho hS => ?_)
  have h_dk := (ho dk (Ne.symm n_mo_dk)).trans h_dk
  have h_it := (ho it (Ne.symm n_mo_it)).trans h_it
  have h_mo : _ = some (Sum.inr (6, [.ref dk, .ref it, .int 0, .int 0, .int 0, .int 0, .int 0, .int 0, .null, .int 0, .null, .int 0, .null, .int 0, .int 0, .int 0, .int 0, .int 0, .int 0, .int 0, .int 0, .int 0, .int 0, .null, .null, .null, .null, .int 0, .null, .int 0, .int 0, .int 0, .int 0, .int 0]) : va_E) := ha
  refine lv_aload_n hx hb dX6_init_21 rfl (lv_at hl 0 rfl) ?_
  refine lv_iconst (v := 1) hx hb dX6_init_22 (by decide) ?_
  refine mm_put (v := .int 1) (ci := 6) (C := RX6) (T := TX6) (N := 34) hx hb hts (in_X6_init_X6) tyX6 tyX6_ok nmX6 hown hK hM hS h_mo rfl 2 (by decide) (hts (.fieldLink RX6 17 "GroupLogModel" "isOn" "Z") (List.mem_of_getElem? (i := 8) rfl)) rfl rfl rfl (Nat.le_of_ble_eq_true rfl) dX6_init_23 (fun H locs M hM ha ho hS => ?_)
  have h_dk := (ho dk (Ne.symm n_mo_dk)).trans h_dk
  have h_it := (ho it (Ne.symm n_mo_it)).trans h_it
  have h_mo : _ = some (Sum.inr (6, [.ref dk, .ref it, .int 1, .int 0, .int 0, .int 0, .int 0, .int 0, .null, .int 0, .null, .int 0, .null, .int 0, .int 0, .int 0, .int 0, .int 0, .int 0, .int 0, .int 0, .int 0, .int 0, .null, .null, .null, .null, .int 0, .null, .int 0, .int 0, .int 0, .int 0, .int 0]) : va_E) := ha
  refine lv_aload_n hx hb dX6_init_26 rfl (lv_at hl 0 rfl) ?_
  refine lv_iconst (v := (-1)) hx hb dX6_init_27 (by decide) ?_
  refine mm_put (v := .int (-1)) (ci := 6) (C := RX6) (T := TX6) (N := 34) hx hb hts (in_X6_init_X6) tyX6 tyX6_ok nmX6 hown hK hM hS h_mo rfl 3 (by decide) (hts (.fieldLink RX6 21 "GroupLogModel" "armed" "I") (List.mem_of_getElem? (i := 9) rfl)) rfl rfl rfl (Nat.le_of_ble_eq_true rfl) dX6_init_28 (fun H locs M hM ha ho hS => ?_)
  have h_dk := (ho dk (Ne.symm n_mo_dk)).trans h_dk
  have h_it := (ho it (Ne.symm n_mo_it)).trans h_it
  have h_mo : _ = some (Sum.inr (6, [.ref dk, .ref it, .int 1, .int (-1), .int 0, .int 0, .int 0, .int 0, .null, .int 0, .null, .int 0, .null, .int 0, .int 0, .int 0, .int 0, .int 0, .int 0, .int 0, .int 0, .int 0, .int 0, .null, .null, .null, .null, .int 0, .null, .int 0, .int 0, .int 0, .int 0, .int 0]) : va_E) := ha
  refine lv_aload_n hx hb dX6_init_31 rfl (lv_at hl 0 rfl) ?_
  refine lv_bipush (v := 10) hx hb dX6_init_32 (by decide) ?_
  refine mm_put (v := .int 10) (ci := 6) (C := RX6) (T := TX6) (N := 34) hx hb hts (in_X6_init_X6) tyX6 tyX6_ok nmX6 hown hK hM hS h_mo rfl 5 (by decide) (hts (.fieldLink RX6 25 "GroupLogModel" "delay" "I") (List.mem_of_getElem? (i := 10) rfl)) rfl rfl rfl (Nat.le_of_ble_eq_true rfl) dX6_init_34 (fun H locs M hM ha ho hS => ?_)
  have h_dk := (ho dk (Ne.symm n_mo_dk)).trans h_dk
  have h_it := (ho it (Ne.symm n_mo_it)).trans h_it
  have h_mo : _ = some (Sum.inr (6, [.ref dk, .ref it, .int 1, .int (-1), .int 0, .int 10, .int 0, .int 0, .null, .int 0, .null, .int 0, .null, .int 0, .int 0, .int 0, .int 0, .int 0, .int 0, .int 0, .int 0, .int 0, .int 0, .null, .null, .null, .null, .int 0, .null, .int 0, .int 0, .int 0, .int 0, .int 0]) : va_E) := ha
  refine lv_aload_n hx hb dX6_init_37 rfl (lv_at hl 0 rfl) ?_
  refine lv_sipush (v := 200) hx hb dX6_init_38 (by decide) ?_
  refine mm_newa (atype := .byte) (ty := .byte) (N' := 200) hx hb (hts (.arrayClass .byte) (List.mem_of_getElem? (i := 4) rfl)) rfl hK hM hS hA 2 rfl (fun _ h => by cases h) (mm_z_byte 200) (by decide +kernel) (by decide +kernel) (by decide +kernel) (Nat.le_of_ble_eq_true rfl) (Nat.le_of_ble_eq_true rfl) dX6_init_41 (fun tq H M hM ha hn ho hS => ?_)
  have n_mo_tq : mo ≠ tq := mm_nn h_mo hn
  have h_mo := (ho mo n_mo_tq).trans h_mo
  have n_dk_tq : dk ≠ tq := mm_nn h_dk hn
  have h_dk := (ho dk n_dk_tq).trans h_dk
  have n_it_tq : it ≠ tq := mm_nn h_it hn
  have h_it := (ho it n_it_tq).trans h_it
  have h_tq : _ = some (Sum.inl (cB, 200, .inl (fun _ => 0)) : va_E) := ha
  refine W.widen (k := 3) (n := 4360) (by omega) (by omega) ?_
  refine mm_putF (v := .ref tq) (ci := 6) (C := RX6) (T := TX6) (N := 34) hx hb hts (in_X6_init_X6) tyX6 tyX6_ok nmX6 hown hK hM hS h_mo rfl 8 (by decide) (hts (.fieldLink RX6 28 "GroupLogModel" "tape" "[B") (List.mem_of_getElem? (i := 11) rfl)) rfl hin rfl rfl rfl (Nat.le_of_ble_eq_true rfl) dX6_init_43 (fun H locs M hM ha ho hS => ?_)
  have h_dk := (ho dk (Ne.symm n_mo_dk)).trans h_dk
  have h_it := (ho it (Ne.symm n_mo_it)).trans h_it
  have h_tq := (ho tq (Ne.symm n_mo_tq)).trans h_tq
  have h_mo : _ = some (Sum.inr (6, [.ref dk, .ref it, .int 1, .int (-1), .int 0, .int 10, .int 0, .int 0, .ref tq, .int 0, .null, .int 0, .null, .int 0, .int 0, .int 0, .int 0, .int 0, .int 0, .int 0, .int 0, .int 0, .int 0, .null, .null, .null, .null, .int 0, .null, .int 0, .int 0, .int 0, .int 0, .int 0]) : va_E) := ha
  refine lv_aload_n hx hb dX6_init_46 rfl (lv_at hl 0 rfl) ?_
  refine lv_sipush (v := 700) hx hb dX6_init_47 (by decide) ?_
  refine mm_newa (atype := .byte) (ty := .byte) (N' := 700) hx hb (hts (.arrayClass .byte) (List.mem_of_getElem? (i := 4) rfl)) rfl hK hM hS hA 2 rfl (fun _ h => by cases h) (mm_z_byte 700) (by decide +kernel) (by decide +kernel) (by decide +kernel) (Nat.le_of_ble_eq_true rfl) (Nat.le_of_ble_eq_true rfl) dX6_init_50 (fun qq H M hM ha hn ho hS => ?_)
  have n_mo_qq : mo ≠ qq := mm_nn h_mo hn
  have h_mo := (ho mo n_mo_qq).trans h_mo
  have n_dk_qq : dk ≠ qq := mm_nn h_dk hn
  have h_dk := (ho dk n_dk_qq).trans h_dk
  have n_it_qq : it ≠ qq := mm_nn h_it hn
  have h_it := (ho it n_it_qq).trans h_it
  have n_tq_qq : tq ≠ qq := mm_nn h_tq hn
  have h_tq := (ho tq n_tq_qq).trans h_tq
  have h_qq : _ = some (Sum.inl (cB, 700, .inl (fun _ => 0)) : va_E) := ha
  refine W.widen (k := 4) (n := 5060) (by omega) (by omega) ?_
  refine mm_putF (v := .ref qq) (ci := 6) (C := RX6) (T := TX6) (N := 34) hx hb hts (in_X6_init_X6) tyX6 tyX6_ok nmX6 hown hK hM hS h_mo rfl 10 (by decide) (hts (.fieldLink RX6 31 "GroupLogModel" "queue" "[B") (List.mem_of_getElem? (i := 12) rfl)) rfl hin rfl rfl rfl (Nat.le_of_ble_eq_true rfl) dX6_init_52 (fun H locs M hM ha ho hS => ?_)
  have h_dk := (ho dk (Ne.symm n_mo_dk)).trans h_dk
  have h_it := (ho it (Ne.symm n_mo_it)).trans h_it
  have h_tq := (ho tq (Ne.symm n_mo_tq)).trans h_tq
  have h_qq := (ho qq (Ne.symm n_mo_qq)).trans h_qq
  have h_mo : _ = some (Sum.inr (6, [.ref dk, .ref it, .int 1, .int (-1), .int 0, .int 10, .int 0, .int 0, .ref tq, .int 0, .ref qq, .int 0, .null, .int 0, .int 0, .int 0, .int 0, .int 0, .int 0, .int 0, .int 0, .int 0, .int 0, .null, .null, .null, .null, .int 0, .null, .int 0, .int 0, .int 0, .int 0, .int 0]) : va_E) := ha
  refine lv_aload_n hx hb dX6_init_55 rfl (lv_at hl 0 rfl) ?_
  refine lv_bipush (v := 120) hx hb dX6_init_56 (by decide) ?_
  refine mm_newa (atype := .int) (ty := .int) (N' := 120) hx hb (hts (.arrayClass .int) (List.mem_of_getElem? (i := 13) rfl)) rfl hK hM hS hA 0 rfl (fun _ h => by cases h) (mm_z_int 120) (by decide +kernel) (by decide +kernel) (by decide +kernel) (Nat.le_of_ble_eq_true rfl) (Nat.le_of_ble_eq_true rfl) dX6_init_58 (fun qg H M hM ha hn ho hS => ?_)
  have n_mo_qg : mo ≠ qg := mm_nn h_mo hn
  have h_mo := (ho mo n_mo_qg).trans h_mo
  have n_dk_qg : dk ≠ qg := mm_nn h_dk hn
  have h_dk := (ho dk n_dk_qg).trans h_dk
  have n_it_qg : it ≠ qg := mm_nn h_it hn
  have h_it := (ho it n_it_qg).trans h_it
  have n_tq_qg : tq ≠ qg := mm_nn h_tq hn
  have h_tq := (ho tq n_tq_qg).trans h_tq
  have h_qg : _ = some (Sum.inl (cI, 120, .inl (fun _ => 0)) : va_E) := ha
  refine W.widen (k := 5) (n := 5180) (by omega) (by omega) ?_
  refine mm_putF (v := .ref qg) (ci := 6) (C := RX6) (T := TX6) (N := 34) hx hb hts (in_X6_init_X6) tyX6 tyX6_ok nmX6 hown hK hM hS h_mo rfl 12 (by decide) (hts (.fieldLink RX6 34 "GroupLogModel" "queueBegins" "[I") (List.mem_of_getElem? (i := 14) rfl)) rfl hin rfl rfl rfl (Nat.le_of_ble_eq_true rfl) dX6_init_60 (fun H locs M hM ha ho hS => ?_)
  have h_dk := (ho dk (Ne.symm n_mo_dk)).trans h_dk
  have h_it := (ho it (Ne.symm n_mo_it)).trans h_it
  have h_tq := (ho tq (Ne.symm n_mo_tq)).trans h_tq
  have h_qg := (ho qg (Ne.symm n_mo_qg)).trans h_qg
  have h_mo : _ = some (Sum.inr (6, [.ref dk, .ref it, .int 1, .int (-1), .int 0, .int 10, .int 0, .int 0, .ref tq, .int 0, .ref qq, .int 0, .ref qg, .int 0, .int 0, .int 0, .int 0, .int 0, .int 0, .int 0, .int 0, .int 0, .int 0, .null, .null, .null, .null, .int 0, .null, .int 0, .int 0, .int 0, .int 0, .int 0]) : va_E) := ha
  refine lv_aload_n hx hb dX6_init_63 rfl (lv_at hl 0 rfl) ?_
  refine lv_iconst (v := 1) hx hb dX6_init_64 (by decide) ?_
  refine mm_put (v := .int 1) (ci := 6) (C := RX6) (T := TX6) (N := 34) hx hb hts (in_X6_init_X6) tyX6 tyX6_ok nmX6 hown hK hM hS h_mo rfl 16 (by decide) (hts (.fieldLink RX6 38 "GroupLogModel" "version" "I") (List.mem_of_getElem? (i := 15) rfl)) rfl rfl rfl (Nat.le_of_ble_eq_true rfl) dX6_init_65 (fun H locs M hM ha ho hS => ?_)
  have h_dk := (ho dk (Ne.symm n_mo_dk)).trans h_dk
  have h_it := (ho it (Ne.symm n_mo_it)).trans h_it
  have h_tq := (ho tq (Ne.symm n_mo_tq)).trans h_tq
  have h_mo : _ = some (Sum.inr (6, [.ref dk, .ref it, .int 1, .int (-1), .int 0, .int 10, .int 0, .int 0, .ref tq, .int 0, .ref qq, .int 0, .ref qg, .int 0, .int 0, .int 0, .int 1, .int 0, .int 0, .int 0, .int 0, .int 0, .int 0, .null, .null, .null, .null, .int 0, .null, .int 0, .int 0, .int 0, .int 0, .int 0]) : va_E) := ha
  refine lv_aload_n hx hb dX6_init_68 rfl (lv_at hl 0 rfl) ?_
  refine lv_iconst (v := 1) hx hb dX6_init_69 (by decide) ?_
  refine mm_put (v := .int 1) (ci := 6) (C := RX6) (T := TX6) (N := 34) hx hb hts (in_X6_init_X6) tyX6 tyX6_ok nmX6 hown hK hM hS h_mo rfl 17 (by decide) (hts (.fieldLink RX6 41 "GroupLogModel" "firstSerial" "I") (List.mem_of_getElem? (i := 16) rfl)) rfl rfl rfl (Nat.le_of_ble_eq_true rfl) dX6_init_70 (fun H locs M hM ha ho hS => ?_)
  have h_dk := (ho dk (Ne.symm n_mo_dk)).trans h_dk
  have h_it := (ho it (Ne.symm n_mo_it)).trans h_it
  have h_tq := (ho tq (Ne.symm n_mo_tq)).trans h_tq
  have h_mo : _ = some (Sum.inr (6, [.ref dk, .ref it, .int 1, .int (-1), .int 0, .int 10, .int 0, .int 0, .ref tq, .int 0, .ref qq, .int 0, .ref qg, .int 0, .int 0, .int 0, .int 1, .int 1, .int 0, .int 0, .int 0, .int 0, .int 0, .null, .null, .null, .null, .int 0, .null, .int 0, .int 0, .int 0, .int 0, .int 0]) : va_E) := ha
  refine lv_aload_n hx hb dX6_init_73 rfl (lv_at hl 0 rfl) ?_
  refine lv_iconst (v := 1) hx hb dX6_init_74 (by decide) ?_
  refine mm_put (v := .int 1) (ci := 6) (C := RX6) (T := TX6) (N := 34) hx hb hts (in_X6_init_X6) tyX6 tyX6_ok nmX6 hown hK hM hS h_mo rfl 18 (by decide) (hts (.fieldLink RX6 44 "GroupLogModel" "firstRecord" "I") (List.mem_of_getElem? (i := 17) rfl)) rfl rfl rfl (Nat.le_of_ble_eq_true rfl) dX6_init_75 (fun H locs M hM ha ho hS => ?_)
  have h_dk := (ho dk (Ne.symm n_mo_dk)).trans h_dk
  have h_it := (ho it (Ne.symm n_mo_it)).trans h_it
  have h_tq := (ho tq (Ne.symm n_mo_tq)).trans h_tq
  have h_mo : _ = some (Sum.inr (6, [.ref dk, .ref it, .int 1, .int (-1), .int 0, .int 10, .int 0, .int 0, .ref tq, .int 0, .ref qq, .int 0, .ref qg, .int 0, .int 0, .int 0, .int 1, .int 1, .int 1, .int 0, .int 0, .int 0, .int 0, .null, .null, .null, .null, .int 0, .null, .int 0, .int 0, .int 0, .int 0, .int 0]) : va_E) := ha
  refine lv_aload_n hx hb dX6_init_78 rfl (lv_at hl 0 rfl) ?_
  refine lv_iconst (v := 2) hx hb dX6_init_79 (by decide) ?_
  refine mm_put (v := .int 2) (ci := 6) (C := RX6) (T := TX6) (N := 34) hx hb hts (in_X6_init_X6) tyX6 tyX6_ok nmX6 hown hK hM hS h_mo rfl 19 (by decide) (hts (.fieldLink RX6 47 "GroupLogModel" "place" "I") (List.mem_of_getElem? (i := 18) rfl)) rfl rfl rfl (Nat.le_of_ble_eq_true rfl) dX6_init_80 (fun H locs M hM ha ho hS => ?_)
  have h_dk := (ho dk (Ne.symm n_mo_dk)).trans h_dk
  have h_it := (ho it (Ne.symm n_mo_it)).trans h_it
  have h_tq := (ho tq (Ne.symm n_mo_tq)).trans h_tq
  have h_mo : _ = some (Sum.inr (6, [.ref dk, .ref it, .int 1, .int (-1), .int 0, .int 10, .int 0, .int 0, .ref tq, .int 0, .ref qq, .int 0, .ref qg, .int 0, .int 0, .int 0, .int 1, .int 1, .int 1, .int 2, .int 0, .int 0, .int 0, .null, .null, .null, .null, .int 0, .null, .int 0, .int 0, .int 0, .int 0, .int 0]) : va_E) := ha
  refine lv_aload_n hx hb dX6_init_83 rfl (lv_at hl 0 rfl) ?_
  refine lv_iconst (v := 2) hx hb dX6_init_84 (by decide) ?_
  refine mm_put (v := .int 2) (ci := 6) (C := RX6) (T := TX6) (N := 34) hx hb hts (in_X6_init_X6) tyX6 tyX6_ok nmX6 hown hK hM hS h_mo rfl 20 (by decide) (hts (.fieldLink RX6 50 "GroupLogModel" "nextSector" "I") (List.mem_of_getElem? (i := 19) rfl)) rfl rfl rfl (Nat.le_of_ble_eq_true rfl) dX6_init_85 (fun H locs M hM ha ho hS => ?_)
  have h_dk := (ho dk (Ne.symm n_mo_dk)).trans h_dk
  have h_it := (ho it (Ne.symm n_mo_it)).trans h_it
  have h_tq := (ho tq (Ne.symm n_mo_tq)).trans h_tq
  have h_mo : _ = some (Sum.inr (6, [.ref dk, .ref it, .int 1, .int (-1), .int 0, .int 10, .int 0, .int 0, .ref tq, .int 0, .ref qq, .int 0, .ref qg, .int 0, .int 0, .int 0, .int 1, .int 1, .int 1, .int 2, .int 2, .int 0, .int 0, .null, .null, .null, .null, .int 0, .null, .int 0, .int 0, .int 0, .int 0, .int 0]) : va_E) := ha
  refine lv_aload_n hx hb dX6_init_88 rfl (lv_at hl 0 rfl) ?_
  refine lv_iconst (v := 1) hx hb dX6_init_89 (by decide) ?_
  refine mm_put (v := .int 1) (ci := 6) (C := RX6) (T := TX6) (N := 34) hx hb hts (in_X6_init_X6) tyX6 tyX6_ok nmX6 hown hK hM hS h_mo rfl 21 (by decide) (hts (.fieldLink RX6 53 "GroupLogModel" "nextSerial" "I") (List.mem_of_getElem? (i := 20) rfl)) rfl rfl rfl (Nat.le_of_ble_eq_true rfl) dX6_init_90 (fun H locs M hM ha ho hS => ?_)
  have h_dk := (ho dk (Ne.symm n_mo_dk)).trans h_dk
  have h_it := (ho it (Ne.symm n_mo_it)).trans h_it
  have h_tq := (ho tq (Ne.symm n_mo_tq)).trans h_tq
  have h_mo : _ = some (Sum.inr (6, [.ref dk, .ref it, .int 1, .int (-1), .int 0, .int 10, .int 0, .int 0, .ref tq, .int 0, .ref qq, .int 0, .ref qg, .int 0, .int 0, .int 0, .int 1, .int 1, .int 1, .int 2, .int 2, .int 1, .int 0, .null, .null, .null, .null, .int 0, .null, .int 0, .int 0, .int 0, .int 0, .int 0]) : va_E) := ha
  refine lv_aload_n hx hb dX6_init_93 rfl (lv_at hl 0 rfl) ?_
  refine lv_sipush (v := 600) hx hb dX6_init_94 (by decide) ?_
  refine mm_newa (atype := .int) (ty := .int) (N' := 600) hx hb (hts (.arrayClass .int) (List.mem_of_getElem? (i := 13) rfl)) rfl hK hM hS hA 0 rfl (fun _ h => by cases h) (mm_z_int 600) (by decide +kernel) (by decide +kernel) (by decide +kernel) (Nat.le_of_ble_eq_true rfl) (Nat.le_of_ble_eq_true rfl) dX6_init_97 (fun r1 H M hM ha hn ho hS => ?_)
  have n_mo_r1 : mo ≠ r1 := mm_nn h_mo hn
  have h_mo := (ho mo n_mo_r1).trans h_mo
  have n_dk_r1 : dk ≠ r1 := mm_nn h_dk hn
  have h_dk := (ho dk n_dk_r1).trans h_dk
  have n_it_r1 : it ≠ r1 := mm_nn h_it hn
  have h_it := (ho it n_it_r1).trans h_it
  have n_tq_r1 : tq ≠ r1 := mm_nn h_tq hn
  have h_tq := (ho tq n_tq_r1).trans h_tq
  have h_r1 : _ = some (Sum.inl (cI, 600, .inl (fun _ => 0)) : va_E) := ha
  refine W.widen (k := 6) (n := 5780) (by omega) (by omega) ?_
  refine mm_putF (v := .ref r1) (ci := 6) (C := RX6) (T := TX6) (N := 34) hx hb hts (in_X6_init_X6) tyX6 tyX6_ok nmX6 hown hK hM hS h_mo rfl 23 (by decide) (hts (.fieldLink RX6 56 "GroupLogModel" "recordSector" "[I") (List.mem_of_getElem? (i := 21) rfl)) rfl hin rfl rfl rfl (Nat.le_of_ble_eq_true rfl) dX6_init_99 (fun H locs M hM ha ho hS => ?_)
  have h_dk := (ho dk (Ne.symm n_mo_dk)).trans h_dk
  have h_it := (ho it (Ne.symm n_mo_it)).trans h_it
  have h_tq := (ho tq (Ne.symm n_mo_tq)).trans h_tq
  have h_r1 := (ho r1 (Ne.symm n_mo_r1)).trans h_r1
  have h_mo : _ = some (Sum.inr (6, [.ref dk, .ref it, .int 1, .int (-1), .int 0, .int 10, .int 0, .int 0, .ref tq, .int 0, .ref qq, .int 0, .ref qg, .int 0, .int 0, .int 0, .int 1, .int 1, .int 1, .int 2, .int 2, .int 1, .int 0, .ref r1, .null, .null, .null, .int 0, .null, .int 0, .int 0, .int 0, .int 0, .int 0]) : va_E) := ha
  refine lv_aload_n hx hb dX6_init_102 rfl (lv_at hl 0 rfl) ?_
  refine lv_sipush (v := 600) hx hb dX6_init_103 (by decide) ?_
  refine mm_newa (atype := .int) (ty := .int) (N' := 600) hx hb (hts (.arrayClass .int) (List.mem_of_getElem? (i := 13) rfl)) rfl hK hM hS hA 0 rfl (fun _ h => by cases h) (mm_z_int 600) (by decide +kernel) (by decide +kernel) (by decide +kernel) (Nat.le_of_ble_eq_true rfl) (Nat.le_of_ble_eq_true rfl) dX6_init_106 (fun r2 H M hM ha hn ho hS => ?_)
  have n_mo_r2 : mo ≠ r2 := mm_nn h_mo hn
  have h_mo := (ho mo n_mo_r2).trans h_mo
  have n_dk_r2 : dk ≠ r2 := mm_nn h_dk hn
  have h_dk := (ho dk n_dk_r2).trans h_dk
  have n_it_r2 : it ≠ r2 := mm_nn h_it hn
  have h_it := (ho it n_it_r2).trans h_it
  have n_tq_r2 : tq ≠ r2 := mm_nn h_tq hn
  have h_tq := (ho tq n_tq_r2).trans h_tq
  have h_r2 : _ = some (Sum.inl (cI, 600, .inl (fun _ => 0)) : va_E) := ha
  refine W.widen (k := 7) (n := 6380) (by omega) (by omega) ?_
  refine mm_putF (v := .ref r2) (ci := 6) (C := RX6) (T := TX6) (N := 34) hx hb hts (in_X6_init_X6) tyX6 tyX6_ok nmX6 hown hK hM hS h_mo rfl 24 (by decide) (hts (.fieldLink RX6 59 "GroupLogModel" "recordByte" "[I") (List.mem_of_getElem? (i := 22) rfl)) rfl hin rfl rfl rfl (Nat.le_of_ble_eq_true rfl) dX6_init_108 (fun H locs M hM ha ho hS => ?_)
  have h_dk := (ho dk (Ne.symm n_mo_dk)).trans h_dk
  have h_it := (ho it (Ne.symm n_mo_it)).trans h_it
  have h_tq := (ho tq (Ne.symm n_mo_tq)).trans h_tq
  have h_r2 := (ho r2 (Ne.symm n_mo_r2)).trans h_r2
  have h_mo : _ = some (Sum.inr (6, [.ref dk, .ref it, .int 1, .int (-1), .int 0, .int 10, .int 0, .int 0, .ref tq, .int 0, .ref qq, .int 0, .ref qg, .int 0, .int 0, .int 0, .int 1, .int 1, .int 1, .int 2, .int 2, .int 1, .int 0, .ref r1, .ref r2, .null, .null, .int 0, .null, .int 0, .int 0, .int 0, .int 0, .int 0]) : va_E) := ha
  refine lv_aload_n hx hb dX6_init_111 rfl (lv_at hl 0 rfl) ?_
  refine lv_sipush (v := 600) hx hb dX6_init_112 (by decide) ?_
  refine mm_newa (atype := .int) (ty := .int) (N' := 600) hx hb (hts (.arrayClass .int) (List.mem_of_getElem? (i := 13) rfl)) rfl hK hM hS hA 0 rfl (fun _ h => by cases h) (mm_z_int 600) (by decide +kernel) (by decide +kernel) (by decide +kernel) (Nat.le_of_ble_eq_true rfl) (Nat.le_of_ble_eq_true rfl) dX6_init_115 (fun r3 H M hM ha hn ho hS => ?_)
  have n_mo_r3 : mo ≠ r3 := mm_nn h_mo hn
  have h_mo := (ho mo n_mo_r3).trans h_mo
  have n_dk_r3 : dk ≠ r3 := mm_nn h_dk hn
  have h_dk := (ho dk n_dk_r3).trans h_dk
  have n_it_r3 : it ≠ r3 := mm_nn h_it hn
  have h_it := (ho it n_it_r3).trans h_it
  have n_tq_r3 : tq ≠ r3 := mm_nn h_tq hn
  have h_tq := (ho tq n_tq_r3).trans h_tq
  have h_r3 : _ = some (Sum.inl (cI, 600, .inl (fun _ => 0)) : va_E) := ha
  refine W.widen (k := 8) (n := 6980) (by omega) (by omega) ?_
  refine mm_putF (v := .ref r3) (ci := 6) (C := RX6) (T := TX6) (N := 34) hx hb hts (in_X6_init_X6) tyX6 tyX6_ok nmX6 hown hK hM hS h_mo rfl 25 (by decide) (hts (.fieldLink RX6 62 "GroupLogModel" "recordSize" "[I") (List.mem_of_getElem? (i := 23) rfl)) rfl hin rfl rfl rfl (Nat.le_of_ble_eq_true rfl) dX6_init_117 (fun H locs M hM ha ho hS => ?_)
  have h_dk := (ho dk (Ne.symm n_mo_dk)).trans h_dk
  have h_it := (ho it (Ne.symm n_mo_it)).trans h_it
  have h_tq := (ho tq (Ne.symm n_mo_tq)).trans h_tq
  have h_r3 := (ho r3 (Ne.symm n_mo_r3)).trans h_r3
  have h_mo : _ = some (Sum.inr (6, [.ref dk, .ref it, .int 1, .int (-1), .int 0, .int 10, .int 0, .int 0, .ref tq, .int 0, .ref qq, .int 0, .ref qg, .int 0, .int 0, .int 0, .int 1, .int 1, .int 1, .int 2, .int 2, .int 1, .int 0, .ref r1, .ref r2, .ref r3, .null, .int 0, .null, .int 0, .int 0, .int 0, .int 0, .int 0]) : va_E) := ha
  refine lv_aload_n hx hb dX6_init_120 rfl (lv_at hl 0 rfl) ?_
  refine lv_bipush (v := 64) hx hb dX6_init_121 (by decide) ?_
  refine mm_newa (atype := .byte) (ty := .byte) (N' := 64) hx hb (hts (.arrayClass .byte) (List.mem_of_getElem? (i := 4) rfl)) rfl hK hM hS hA 2 rfl (fun _ h => by cases h) (mm_z_byte 64) (by decide +kernel) (by decide +kernel) (by decide +kernel) (Nat.le_of_ble_eq_true rfl) (Nat.le_of_ble_eq_true rfl) dX6_init_123 (fun sc H M hM ha hn ho hS => ?_)
  have n_mo_sc : mo ≠ sc := mm_nn h_mo hn
  have h_mo := (ho mo n_mo_sc).trans h_mo
  have n_dk_sc : dk ≠ sc := mm_nn h_dk hn
  have h_dk := (ho dk n_dk_sc).trans h_dk
  have n_it_sc : it ≠ sc := mm_nn h_it hn
  have h_it := (ho it n_it_sc).trans h_it
  have n_tq_sc : tq ≠ sc := mm_nn h_tq hn
  have h_tq := (ho tq n_tq_sc).trans h_tq
  have h_sc : _ = some (Sum.inl (cB, 64, .inl (fun _ => 0)) : va_E) := ha
  refine W.widen (k := 9) (n := 7044) (by omega) (by omega) ?_
  refine mm_putF (v := .ref sc) (ci := 6) (C := RX6) (T := TX6) (N := 34) hx hb hts (in_X6_init_X6) tyX6 tyX6_ok nmX6 hown hK hM hS h_mo rfl 26 (by decide) (hts (.fieldLink RX6 65 "GroupLogModel" "sector" "[B") (List.mem_of_getElem? (i := 24) rfl)) rfl hin rfl rfl rfl (Nat.le_of_ble_eq_true rfl) dX6_init_125 (fun H locs M hM ha ho hS => ?_)
  have h_dk := (ho dk (Ne.symm n_mo_dk)).trans h_dk
  have h_it := (ho it (Ne.symm n_mo_it)).trans h_it
  have h_tq := (ho tq (Ne.symm n_mo_tq)).trans h_tq
  have h_sc := (ho sc (Ne.symm n_mo_sc)).trans h_sc
  have h_mo : _ = some (Sum.inr (6, [.ref dk, .ref it, .int 1, .int (-1), .int 0, .int 10, .int 0, .int 0, .ref tq, .int 0, .ref qq, .int 0, .ref qg, .int 0, .int 0, .int 0, .int 1, .int 1, .int 1, .int 2, .int 2, .int 1, .int 0, .ref r1, .ref r2, .ref r3, .ref sc, .int 0, .null, .int 0, .int 0, .int 0, .int 0, .int 0]) : va_E) := ha
  refine lv_aload_n hx hb dX6_init_128 rfl (lv_at hl 0 rfl) ?_
  refine lv_bipush (v := 6) hx hb dX6_init_129 (by decide) ?_
  refine mm_newa (atype := .int) (ty := .int) (N' := 6) hx hb (hts (.arrayClass .int) (List.mem_of_getElem? (i := 13) rfl)) rfl hK hM hS hA 0 rfl (fun _ h => by cases h) (mm_z_int 6) (by decide +kernel) (by decide +kernel) (by decide +kernel) (Nat.le_of_ble_eq_true rfl) (Nat.le_of_ble_eq_true rfl) dX6_init_131 (fun hd H M hM ha hn ho hS => ?_)
  have n_mo_hd : mo ≠ hd := mm_nn h_mo hn
  have h_mo := (ho mo n_mo_hd).trans h_mo
  have n_dk_hd : dk ≠ hd := mm_nn h_dk hn
  have h_dk := (ho dk n_dk_hd).trans h_dk
  have n_it_hd : it ≠ hd := mm_nn h_it hn
  have h_it := (ho it n_it_hd).trans h_it
  have n_tq_hd : tq ≠ hd := mm_nn h_tq hn
  have h_tq := (ho tq n_tq_hd).trans h_tq
  have n_sc_hd : sc ≠ hd := mm_nn h_sc hn
  have h_sc := (ho sc n_sc_hd).trans h_sc
  have h_hd : _ = some (Sum.inl (cI, 6, .inl (fun _ => 0)) : va_E) := ha
  refine W.widen (k := 10) (n := 7050) (by omega) (by omega) ?_
  refine mm_putF (v := .ref hd) (ci := 6) (C := RX6) (T := TX6) (N := 34) hx hb hts (in_X6_init_X6) tyX6 tyX6_ok nmX6 hown hK hM hS h_mo rfl 28 (by decide) (hts (.fieldLink RX6 68 "GroupLogModel" "head" "[I") (List.mem_of_getElem? (i := 25) rfl)) rfl hin rfl rfl rfl (Nat.le_of_ble_eq_true rfl) dX6_init_133 (fun H locs M hM ha ho hS => ?_)
  have h_dk := (ho dk (Ne.symm n_mo_dk)).trans h_dk
  have h_it := (ho it (Ne.symm n_mo_it)).trans h_it
  have h_tq := (ho tq (Ne.symm n_mo_tq)).trans h_tq
  have h_sc := (ho sc (Ne.symm n_mo_sc)).trans h_sc
  have h_hd := (ho hd (Ne.symm n_mo_hd)).trans h_hd
  have h_mo : _ = some (Sum.inr (6, [.ref dk, .ref it, .int 1, .int (-1), .int 0, .int 10, .int 0, .int 0, .ref tq, .int 0, .ref qq, .int 0, .ref qg, .int 0, .int 0, .int 0, .int 1, .int 1, .int 1, .int 2, .int 2, .int 1, .int 0, .ref r1, .ref r2, .ref r3, .ref sc, .int 0, .ref hd, .int 0, .int 0, .int 0, .int 0, .int 0]) : va_E) := ha
  refine lv_aload_n hx hb dX6_init_136 rfl (lv_at hl 0 rfl) ?_
  refine mm_callv (mm_runV (As := []) (rest := []) ⟨hx, hb, hml, hown, hts⟩ (c_X6_makeHead h_mo h_sc) (cwV 0 hts gX6_init_X6_makeHead rfl rfl rfl (by decide +kernel) ⟨Nat.le_of_ble_eq_true rfl, Nat.le_of_ble_eq_true rfl⟩) hK hM h_mo rfl rfl hl.1 rfl (Nat.le_of_ble_eq_true rfl) dX6_init_137 ⟨Nat.le_of_ble_eq_true rfl, Nat.le_of_ble_eq_true rfl⟩) hS (fun _ h => h) (fun M H locs hp hM hS hz _ => ?_)
  obtain ⟨ha, ho⟩ := hp
  have h_mo := (ho mo n_mo_sc).trans h_mo
  have h_dk := (ho dk n_dk_sc).trans h_dk
  have h_it := (ho it n_it_sc).trans h_it
  have h_tq := (ho tq n_tq_sc).trans h_tq
  have h_sc : _ = some (Sum.inl (cB, 64, .inl (mh_f 1 1 1 2)) : va_E) := ha
  refine lv_iconst (v := 0) hx hb dX6_init_140 (by decide) ?_
  refine lv_istore_n (lv' := [(1, .int 0), (0, .ref mo)]) hx hb dX6_init_141 rfl hl (by decide) rfl (fun ls hl => ?_)
  refine lp_X6_init (m0 := mo) (it := it) (tq := tq) (sc := sc) hx hb hts hown hml hK 64 0 rfl _ _ _ _ hM hS h_mo h_dk h_sc (fun k => by rw [if_neg (by omega)]) (fun M1 H locs ls hM hS ha ho => ?_) ls (lv_sub hl [1, 0] rfl)
  have h_mo := (ho mo n_mo_dk).trans h_mo
  have h_it := (ho it (Ne.symm n_dk_it)).trans h_it
  have h_tq := (ho tq (Ne.symm n_dk_tq)).trans h_tq
  have h_sc := (ho sc (Ne.symm n_dk_sc)).trans h_sc
  have h_dk : _ = some (Sum.inl (cB, 4096, .inl (md_F)) : va_E) := ha
  exact mm_vret hx hb hr hlk hM hS (⟨dk, it, tq, qq, qg, r1, r2, r3, sc, hd, h_mo, h_dk, h_it, h_tq, h_sc, n_it_sc⟩) dX6_init_166

set_option maxHeartbeats 4000000 in
set_option maxRecDepth 100000 in
theorem lp_X3_bit {p : Program} {l : Launch} {e : Env} {s : State} {m : MethodId} {args : Array Value} {below : List Frame} {meth : Method} {c : Code} {Q : State → Prop} {D : va_G} {A : Nat → Prop} {cI cS cB cZ : ClassId} {cells slots : Nat} {R : Room} (hx : p.tables.exec = Jvm.exec) (hb : c.code = cX3_sumOver) (hts : ∀ w ∈ wsX3_sumOver, w.before args s = true) (hown : s.vm.findClass RX3 = some m.cls) (hml : c.maxLocals = 7) (hK : mm_K D (mm_T cI cS cB cZ) s) {a : Nat} {i : Int32} {H : Heap} {locs : List Loc} :
    ∀ (n k : Nat), k + n = 8 → ∀ (x : Int32) (ls : Array Slot), lv_has ls 7 [(0, .ref a), (3, .int 13), (4, .int x), (5, .int i), (6, .int (nI k))] → (∀ ls1 : Array Slot, lv_has ls1 7 [(0, .ref a), (3, .int 13), (4, .int (cr_n n x)), (5, .int i)] → W p l e R s m args below meth c H locs cells slots Q (F0 m 79 ls1 [])) → W p l e R s m args below meth c H locs cells slots Q (F0 m 42 ls []) := by
  intro n
  induction n with
  | zero =>
    intro k hk x ls hl kx
    obtain rfl : k = 8 := by omega
    refine lv_iload hx hb dX3_sumOver_42 (lv_at hl 4 rfl) ?_
    refine lv_bipush (v := 8) hx hb dX3_sumOver_44 (by decide) ?_
    refine lv_icmp_ge (tgt := 79) hx hb dX3_sumOver_46 (by decide) (fun c_1 => ?_) (fun c_1 => ?_)
    rotate_left
    · exact absurd c_1 (fun h => h (by decide))
    exact kx ls (lv_sub hl [0, 1, 2, 3] rfl)
  | succ n ih =>
    intro k hk x ls hl kx
    refine lv_iload hx hb dX3_sumOver_42 (lv_at hl 4 rfl) ?_
    refine lv_bipush (v := 8) hx hb dX3_sumOver_44 (by decide) ?_
    refine lv_icmp_ge (tgt := 79) hx hb dX3_sumOver_46 (by decide) (fun c_2 => ?_) (fun c_2 => ?_)
    · exact absurd c_2 (nI_ge (b := 8) (by omega) (by decide))
    refine lv_iload hx hb dX3_sumOver_49 (lv_at hl 2 rfl) ?_
    refine lv_iconst (v := 1) hx hb dX3_sumOver_51 (by decide) ?_
    refine lv_iand hx hb dX3_sumOver_52 ?_
    refine lv_iconst (v := 1) hx hb dX3_sumOver_53 (by decide) ?_
    refine lv_icmp_ne (tgt := 67) hx hb dX3_sumOver_54 (by decide) (fun c_3 => ?_) (fun c_3 => ?_)
    · skip
      refine lv_iload hx hb dX3_sumOver_67 (lv_at hl 2 rfl) ?_
      refine lv_iconst (v := 1) hx hb dX3_sumOver_69 (by decide) ?_
      refine lv_iushr hx hb dX3_sumOver_70 rfl ?_
      refine lv_topi (fun z4 ez4 => ?_)
      have ez4 : z4 = (cr_s x) := ez4.trans (by show _ = cr_s x; unfold cr_s; rw [if_neg c_3]; rfl)
      subst ez4
      refine lv_istore (lv' := [(4, .int (cr_s x)), (0, .ref a), (3, .int 13), (5, .int i), (6, .int (nI k))]) hx hb dX3_sumOver_71 hl (by decide) rfl (fun ls hl => ?_)
      refine lv_iinc (v := (nI (k + 1))) (lv' := [(6, .int (nI (k + 1))), (4, .int (cr_s x)), (0, .ref a), (3, .int 13), (5, .int i)]) hx hb dX3_sumOver_73 hl (k := 4) rfl (by show _ + (1 : Int32) = _; exact nI_1 k) (by decide) rfl (fun ls hl => ?_)
      refine lv_goto (tgt := 42) hx hb dX3_sumOver_76 (by decide) ?_
      exact ih (k + 1) (by omega) (cr_s x) ls (lv_sub hl [2, 3, 1, 4, 0] rfl) kx
    · skip
      refine lv_iload hx hb dX3_sumOver_57 (lv_at hl 2 rfl) ?_
      refine lv_iconst (v := 1) hx hb dX3_sumOver_59 (by decide) ?_
      refine lv_iushr hx hb dX3_sumOver_60 rfl ?_
      refine lv_ldc (v := (-306674912)) hx hb hown (hts (.constant RX3 31 (-306674912)) (List.mem_of_getElem? (i := 2) rfl)) dX3_sumOver_61 ?_
      refine lv_ixor hx hb dX3_sumOver_63 ?_
      refine lv_goto (tgt := 71) hx hb dX3_sumOver_64 (by decide) ?_
      refine lv_topi (fun z5 ez5 => ?_)
      have ez5 : z5 = (cr_s x) := ez5.trans (by show _ = cr_s x; unfold cr_s; rw [if_pos c_3]; rfl)
      subst ez5
      refine lv_istore (lv' := [(4, .int (cr_s x)), (0, .ref a), (3, .int 13), (5, .int i), (6, .int (nI k))]) hx hb dX3_sumOver_71 hl (by decide) rfl (fun ls hl => ?_)
      refine lv_iinc (v := (nI (k + 1))) (lv' := [(6, .int (nI (k + 1))), (4, .int (cr_s x)), (0, .ref a), (3, .int 13), (5, .int i)]) hx hb dX3_sumOver_73 hl (k := 4) rfl (by show _ + (1 : Int32) = _; exact nI_1 k) (by decide) rfl (fun ls hl => ?_)
      refine lv_goto (tgt := 42) hx hb dX3_sumOver_76 (by decide) ?_
      exact ih (k + 1) (by omega) (cr_s x) ls (lv_sub hl [2, 3, 1, 4, 0] rfl) kx

theorem in_X3_sumOver_X3 : ∀ w ∈ u_ws RX3 TX3 2, w ∈ wsX3_sumOver := fun w h => List.mem_cons_of_mem _ (List.mem_append_right _ h)
set_option maxHeartbeats 4000000 in
set_option maxRecDepth 100000 in
theorem lp_X3_sum {p : Program} {l : Launch} {e : Env} {s : State} {m : MethodId} {args : Array Value} {below : List Frame} {meth : Method} {c : Code} {Q : State → Prop} {D : va_G} {A : Nat → Prop} {cI cS cB cZ : ClassId} {cells slots : Nat} {R : Room} (hx : p.tables.exec = Jvm.exec) (hb : c.code = cX3_sumOver) (hts : ∀ w ∈ wsX3_sumOver, w.before args s = true) (hown : s.vm.findClass RX3 = some m.cls) (hml : c.maxLocals = 7) (hK : mm_K D (mm_T cI cS cB cZ) s) {a b : Nat} {t : Int32} {f : Nat → Int32} {H : Heap} {locs : List Loc} {M : Nat → Option va_E} (hM : mm_W D A M H) (h_a : M a = some (Sum.inr (3, [.ref b, .int t]) : va_E)) (h_b : M b = some (Sum.inl (cI, 64, .inl (f)) : va_E)) :
    ∀ (n j : Nat), j + n = 13 → ∀ (x : Int32) (ls : Array Slot), lv_has ls 7 [(0, .ref a), (3, .int 13), (4, .int x), (5, .int (nI j))] → (∀ ls1 : Array Slot, lv_has ls1 7 [(0, .ref a), (3, .int 13), (4, .int (cr_b f j n x)), (5, .int (nI 13))] → W p l e R s m args below meth c H locs cells slots Q (F0 m 85 ls1 [])) → W p l e R s m args below meth c H locs cells slots Q (F0 m 6 ls []) := by
  intro n
  induction n with
  | zero =>
    intro j hj x ls hl kx
    obtain rfl : j = 13 := by omega
    refine lv_iload hx hb dX3_sumOver_6 (lv_at hl 3 rfl) ?_
    refine lv_if_lt (tgt := 85) hx hb dX3_sumOver_8 (by decide) (fun c_1 => ?_) (fun c_1 => ?_)
    · exact absurd c_1 (nI_pos (by omega))
    refine lv_iload hx hb dX3_sumOver_11 (lv_at hl 3 rfl) ?_
    refine lv_iload_n hx hb dX3_sumOver_13 rfl (lv_at hl 1 rfl) ?_
    refine lv_icmp_ge (tgt := 85) hx hb dX3_sumOver_14 (by decide) (fun c_2 => ?_) (fun c_2 => ?_)
    rotate_left
    · exact absurd c_2 (fun h => h (by decide))
    exact kx ls hl
  | succ n ih =>
    intro j hj x ls hl kx
    refine lv_iload hx hb dX3_sumOver_6 (lv_at hl 3 rfl) ?_
    refine lv_if_lt (tgt := 85) hx hb dX3_sumOver_8 (by decide) (fun c_3 => ?_) (fun c_3 => ?_)
    · exact absurd c_3 (nI_pos (by omega))
    refine lv_iload hx hb dX3_sumOver_11 (lv_at hl 3 rfl) ?_
    refine lv_iload_n hx hb dX3_sumOver_13 rfl (lv_at hl 1 rfl) ?_
    refine lv_icmp_ge (tgt := 85) hx hb dX3_sumOver_14 (by decide) (fun c_4 => ?_) (fun c_4 => ?_)
    · exact absurd c_4 (nI_ge (b := 13) (by omega) (by decide))
    refine lv_iload hx hb dX3_sumOver_17 (lv_at hl 3 rfl) ?_
    refine lv_aload_n hx hb dX3_sumOver_19 rfl (lv_at hl 0 rfl) ?_
    refine mm_get (v := .ref b) (ci := 3) (C := RX3) (T := TX3) (N := 2) hx hb hts (in_X3_sumOver_X3) hown hK hM h_a rfl 0 (by decide) (hts (.fieldLink RX3 9 "GroupLog$Sector" "bytes" "[I") (List.mem_of_getElem? (i := 1) rfl)) rfl dX3_sumOver_20 ?_
    refine mm_alen (v := 64) hx hb hK hM 0 h_b rfl rfl dX3_sumOver_23 ?_
    refine lv_icmp_ge (tgt := 85) hx hb dX3_sumOver_24 (by decide) (fun c_5 => ?_) (fun c_5 => ?_)
    · exact absurd c_5 (nI_ge (b := 64) (by omega) (by decide))
    refine lv_iload hx hb dX3_sumOver_27 (lv_at hl 2 rfl) ?_
    refine lv_aload_n hx hb dX3_sumOver_29 rfl (lv_at hl 0 rfl) ?_
    refine mm_get (v := .ref b) (ci := 3) (C := RX3) (T := TX3) (N := 2) hx hb hts (in_X3_sumOver_X3) hown hK hM h_a rfl 0 (by decide) (hts (.fieldLink RX3 9 "GroupLog$Sector" "bytes" "[I") (List.mem_of_getElem? (i := 1) rfl)) rfl dX3_sumOver_30 ?_
    refine lv_iload hx hb dX3_sumOver_33 (lv_at hl 3 rfl) ?_
    refine mm_iald hx hb hK hM 0 h_b rfl (j := j) (rfl) (by omega) (by decide) dX3_sumOver_35 ?_
    refine lv_ixor hx hb dX3_sumOver_36 ?_
    refine lv_istore (lv' := [(4, .int (x ^^^ ((f) (j)))), (0, .ref a), (3, .int 13), (5, .int (nI j))]) hx hb dX3_sumOver_37 hl (by decide) rfl (fun ls hl => ?_)
    refine lv_iconst (v := 0) hx hb dX3_sumOver_39 (by decide) ?_
    refine lv_istore (lv' := [(6, .int 0), (4, .int (x ^^^ ((f) (j)))), (0, .ref a), (3, .int 13), (5, .int (nI j))]) hx hb dX3_sumOver_40 hl (by decide) rfl (fun ls hl => ?_)
    refine lp_X3_bit (A := A) (a := a) (cI := cI) (cS := cS) (cB := cB) (cZ := cZ) (D := D) hx hb hts hown hml hK 8 0 rfl _ ls (lv_sub hl [2, 3, 1, 4, 0] rfl) (fun ls hl => ?_)
    refine lv_iinc (v := (nI (j + 1))) (lv' := [(5, .int (nI (j + 1))), (0, .ref a), (3, .int 13), (4, .int (cr_n 8 (x ^^^ f j)))]) hx hb dX3_sumOver_79 hl (k := 3) rfl (by show _ + (1 : Int32) = _; exact nI_1 j) (by decide) rfl (fun ls hl => ?_)
    refine lv_goto (tgt := 6) hx hb dX3_sumOver_82 (by decide) ?_
    exact ih (j + 1) (by omega) _ ls (lv_sub hl [1, 2, 3, 0] rfl) kx

set_option maxHeartbeats 4000000 in
set_option maxRecDepth 100000 in
/-- Sector.sumOver, from 0 to 13 -/
theorem c_X3_sumOver {l : Launch} {D : va_G} {A : Nat → Prop} {cI cS cB cZ : ClassId} {M : Nat → Option va_E} {sz : Nat} {a b : Nat} {t : Int32} {f : Nat → Int32} {x : Int32} (h_a : M a = some (Sum.inr (3, [.ref b, .int t]) : va_E)) (h_b : M b = some (Sum.inl (cI, 64, .inl (f)) : va_E)) : Met l yX3_sumOver wsX3_sumOver ({ frames := 0, cells := 0, slots := 0, locals := 0 }) (mm_Pc D A (mm_T cI cS cB cZ) M sz [.ref a, .int x, .int 0, .int 13]) (mm_Qi D A (fun r M1 => r = cr_b f 0 13 x ∧ M1 = M)) 0 0 A := by
  refine mm_met (cc := cX3_sumOver) (maxL := 7) (ret := (some .int)) (by decide) rfl (Nat.le_of_ble_eq_true rfl) ?_
  intro p e s m args below meth c hx hb hr hts hown hlk hin hml hsz hK hM hS ls hl
  subst hsz
  have hl : lv_has ls 7 [(0, .ref a), (1, .int x), (2, .int 0), (3, .int 13)] := hl
  refine lv_iload_n hx hb dX3_sumOver_0 rfl (lv_at hl 1 rfl) ?_
  refine lv_istore (lv' := [(4, .int x), (0, .ref a), (1, .int x), (2, .int 0), (3, .int 13)]) hx hb dX3_sumOver_1 hl (by decide) rfl (fun ls hl => ?_)
  refine lv_iload_n hx hb dX3_sumOver_3 rfl (lv_at hl 3 rfl) ?_
  refine lv_istore (lv' := [(5, .int 0), (4, .int x), (0, .ref a), (1, .int x), (2, .int 0), (3, .int 13)]) hx hb dX3_sumOver_4 hl (by decide) rfl (fun ls hl => ?_)
  refine lp_X3_sum (t := t) hx hb hts hown hml hK hM h_a h_b 13 0 rfl _ ls (lv_sub hl [2, 5, 1, 0] rfl) (fun ls hl => ?_)
  refine lv_iload hx hb dX3_sumOver_85 (lv_at hl 2 rfl) ?_
  exact mm_iret hx hb hr hlk hM hS (⟨rfl, rfl⟩) dX3_sumOver_87

set_option maxHeartbeats 4000000 in
set_option maxRecDepth 100000 in
theorem c_X3_headSum {l : Launch} {D : va_G} {A : Nat → Prop} {cI cS cB cZ : ClassId} {M : Nat → Option va_E} {sz : Nat} {a b : Nat} {t : Int32} {f : Nat → Int32} (h_a : M a = some (Sum.inr (3, [.ref b, .int t]) : va_E)) (h_b : M b = some (Sum.inl (cI, 64, .inl (f)) : va_E)) : Met l yX3_headSum wsX3_headSum ({ frames := 1, cells := 0, slots := 0, locals := 26 }) (mm_Pc D A (mm_T cI cS cB cZ) M sz [.ref a]) (mm_Qi D A (fun r M1 => r = cr_b f 0 13 (-1) ^^^ (-1) ∧ M1 = M)) 0 0 A := by
  refine mm_met (cc := cX3_headSum) (maxL := 1) (ret := (some .int)) (by decide) rfl (Nat.le_of_ble_eq_true rfl) ?_
  intro p e s m args below meth c hx hb hr hts hown hlk hin hml hsz hK hM hS ls hl
  subst hsz
  have hl : lv_has ls 1 [(0, .ref a)] := hl
  refine lv_aload_n hx hb dX3_headSum_0 rfl (lv_at hl 0 rfl) ?_
  refine lv_iconst (v := (-1)) hx hb dX3_headSum_1 (by decide) ?_
  refine lv_iconst (v := 0) hx hb dX3_headSum_2 (by decide) ?_
  refine lv_bipush (v := 13) hx hb dX3_headSum_3 (by decide) ?_
  refine mm_calli (mm_runV (As := [.int (-1), .int 0, .int 13]) (rest := []) ⟨hx, hb, hml, hown, hts⟩ (c_X3_sumOver h_a h_b) (cwV 3 hts gX3_headSum_X3_sumOver rfl rfl rfl (by decide +kernel) ⟨Nat.le_of_ble_eq_true rfl, Nat.le_of_ble_eq_true rfl⟩) hK hM h_a rfl rfl hl.1 rfl (Nat.le_of_ble_eq_true rfl) dX3_headSum_5 ⟨Nat.le_of_ble_eq_true rfl, Nat.le_of_ble_eq_true rfl⟩) hS (fun _ h => h) (fun r1 M H locs hp hM hS hz _ => ?_)
  obtain ⟨rfl, hme⟩ := hp
  rw [hme] at hM
  refine lv_iconst (v := (-1)) hx hb dX3_headSum_8 (by decide) ?_
  refine lv_ixor hx hb dX3_headSum_9 ?_
  exact mm_iret hx hb hr hlk hM hS (⟨rfl, rfl⟩) dX3_headSum_10

set_option maxHeartbeats 4000000 in
set_option maxRecDepth 100000 in
/-- Sector.makeHead -/
theorem c_X3_makeHead {l : Launch} {D : va_G} {A : Nat → Prop} {cI cS cB cZ : ClassId} {M : Nat → Option va_E} {sz : Nat} {a b : Nat} {t : Int32} {f : Nat → Int32} {v sr rc pl : Int32} (h_a : M a = some (Sum.inr (3, [.ref b, .int t]) : va_E)) (h_b : M b = some (Sum.inl (cI, 64, .inl (f)) : va_E)) : Met l yX3_makeHead wsX3_makeHead ({ frames := 2, cells := 0, slots := 0, locals := 46 }) (mm_Pc D A (mm_T cI cS cB cZ) M sz [.ref a, .int v, .int sr, .int rc, .int pl]) (mm_Qv D A (fun M1 => M1 b = some (Sum.inl (cI, 64, .inl (hd_f v sr rc pl)) : va_E) ∧ ∀ q, q ≠ b → M1 q = M q)) 0 0 A := by
  refine mm_met (cc := cX3_makeHead) (maxL := 5) (ret := none) (by decide) rfl (Nat.le_of_ble_eq_true rfl) ?_
  intro p e s m args below meth c hx hb hr hts hown hlk hin hml hsz hK hM hS ls hl
  subst hsz
  have hl : lv_has ls 5 [(0, .ref a), (1, .int v), (2, .int sr), (3, .int rc), (4, .int pl)] := hl
  refine lv_aload_n hx hb dX3_makeHead_0 rfl (lv_at hl 0 rfl) ?_
  refine mm_callv (mm_runV (As := []) (rest := []) ⟨hx, hb, hml, hown, hts⟩ (c_X3_clear h_a h_b) (cwV 0 hts gX3_makeHead_X3_clear rfl rfl rfl (by decide +kernel) ⟨Nat.le_of_ble_eq_true rfl, Nat.le_of_ble_eq_true rfl⟩) hK hM h_a rfl rfl hl.1 rfl (Nat.le_of_ble_eq_true rfl) dX3_makeHead_1 ⟨Nat.le_of_ble_eq_true rfl, Nat.le_of_ble_eq_true rfl⟩) hS (fun _ h => h) (fun M H locs hp hM hS hz _ => ?_)
  obtain ⟨ha, ho0⟩ := hp
  have h_a := (ho0 a (mm_ne h_a h_b mm_oa)).trans h_a
  have h_b : _ = some (Sum.inl (cI, 64, .inl (fun _ => 0)) : va_E) := ha
  refine lv_aload_n hx hb dX3_makeHead_4 rfl (lv_at hl 0 rfl) ?_
  refine lv_iconst (v := 0) hx hb dX3_makeHead_5 (by decide) ?_
  refine lv_iload_n hx hb dX3_makeHead_6 rfl (lv_at hl 1 rfl) ?_
  refine mm_callv (mm_runV (As := [.int 0, .int v]) (rest := []) ⟨hx, hb, hml, hown, hts⟩ (c_X3_setNumber 0 rfl (by decide) h_a h_b) (cwV 2 hts gX3_makeHead_X3_setNumber rfl rfl rfl (by decide +kernel) ⟨Nat.le_of_ble_eq_true rfl, Nat.le_of_ble_eq_true rfl⟩) hK hM h_a rfl rfl hl.1 rfl (Nat.le_of_ble_eq_true rfl) dX3_makeHead_7 ⟨Nat.le_of_ble_eq_true rfl, Nat.le_of_ble_eq_true rfl⟩) hS (fun _ h => h) (fun M H locs hp hM hS hz _ => ?_)
  obtain ⟨ha, ho1⟩ := hp
  have h_a := (ho1 a (mm_ne h_a h_b mm_oa)).trans h_a
  have h_b : _ = some (Sum.inl (cI, 64, .inl (nm_s (fun _ => 0) 0 v)) : va_E) := ha
  refine lv_aload_n hx hb dX3_makeHead_10 rfl (lv_at hl 0 rfl) ?_
  refine lv_iconst (v := 4) hx hb dX3_makeHead_11 (by decide) ?_
  refine lv_iload_n hx hb dX3_makeHead_12 rfl (lv_at hl 2 rfl) ?_
  refine mm_callv (mm_runV (As := [.int 4, .int sr]) (rest := []) ⟨hx, hb, hml, hown, hts⟩ (c_X3_setNumber 4 rfl (by decide) h_a h_b) (cwV 2 hts gX3_makeHead_X3_setNumber rfl rfl rfl (by decide +kernel) ⟨Nat.le_of_ble_eq_true rfl, Nat.le_of_ble_eq_true rfl⟩) hK hM h_a rfl rfl hl.1 rfl (Nat.le_of_ble_eq_true rfl) dX3_makeHead_13 ⟨Nat.le_of_ble_eq_true rfl, Nat.le_of_ble_eq_true rfl⟩) hS (fun _ h => h) (fun M H locs hp hM hS hz _ => ?_)
  obtain ⟨ha, ho2⟩ := hp
  have h_a := (ho2 a (mm_ne h_a h_b mm_oa)).trans h_a
  have h_b : _ = some (Sum.inl (cI, 64, .inl (nm_s (nm_s (fun _ => 0) 0 v) 4 sr)) : va_E) := ha
  refine lv_aload_n hx hb dX3_makeHead_16 rfl (lv_at hl 0 rfl) ?_
  refine lv_bipush (v := 8) hx hb dX3_makeHead_17 (by decide) ?_
  refine lv_iload_n hx hb dX3_makeHead_19 rfl (lv_at hl 3 rfl) ?_
  refine mm_callv (mm_runV (As := [.int 8, .int rc]) (rest := []) ⟨hx, hb, hml, hown, hts⟩ (c_X3_setNumber 8 rfl (by decide) h_a h_b) (cwV 2 hts gX3_makeHead_X3_setNumber rfl rfl rfl (by decide +kernel) ⟨Nat.le_of_ble_eq_true rfl, Nat.le_of_ble_eq_true rfl⟩) hK hM h_a rfl rfl hl.1 rfl (Nat.le_of_ble_eq_true rfl) dX3_makeHead_20 ⟨Nat.le_of_ble_eq_true rfl, Nat.le_of_ble_eq_true rfl⟩) hS (fun _ h => h) (fun M H locs hp hM hS hz _ => ?_)
  obtain ⟨ha, ho3⟩ := hp
  have h_a := (ho3 a (mm_ne h_a h_b mm_oa)).trans h_a
  have h_b : _ = some (Sum.inl (cI, 64, .inl (nm_s (nm_s (nm_s (fun _ => 0) 0 v) 4 sr) 8 rc)) : va_E) := ha
  refine lv_aload_n hx hb dX3_makeHead_23 rfl (lv_at hl 0 rfl) ?_
  refine lv_bipush (v := 12) hx hb dX3_makeHead_24 (by decide) ?_
  refine lv_iload hx hb dX3_makeHead_26 (lv_at hl 4 rfl) ?_
  refine mm_callv (mm_runV (As := [.int 12, .int pl]) (rest := []) ⟨hx, hb, hml, hown, hts⟩ (c_X3_set 12 rfl (by decide) h_a h_b) (cwV 2 hts gX3_makeHead_X3_set rfl rfl rfl (by decide +kernel) ⟨Nat.le_of_ble_eq_true rfl, Nat.le_of_ble_eq_true rfl⟩) hK hM h_a rfl rfl hl.1 rfl (Nat.le_of_ble_eq_true rfl) dX3_makeHead_28 ⟨Nat.le_of_ble_eq_true rfl, Nat.le_of_ble_eq_true rfl⟩) hS (fun _ h => h) (fun M H locs hp hM hS hz _ => ?_)
  obtain ⟨ha, ho4⟩ := hp
  have h_a := (ho4 a (mm_ne h_a h_b mm_oa)).trans h_a
  have h_b : _ = some (Sum.inl (cI, 64, .inl (hd_p v sr rc pl)) : va_E) := ha
  refine lv_aload_n hx hb dX3_makeHead_31 rfl (lv_at hl 0 rfl) ?_
  refine lv_bipush (v := 13) hx hb dX3_makeHead_32 (by decide) ?_
  refine lv_aload_n hx hb dX3_makeHead_34 rfl (lv_at hl 0 rfl) ?_
  refine mm_calli (mm_runV (As := []) (rest := [.int 13, .ref a]) ⟨hx, hb, hml, hown, hts⟩ (c_X3_headSum h_a h_b) (cwV 0 hts gX3_makeHead_X3_headSum rfl rfl rfl (by decide +kernel) ⟨Nat.le_of_ble_eq_true rfl, Nat.le_of_ble_eq_true rfl⟩) hK hM h_a rfl rfl hl.1 rfl (Nat.le_of_ble_eq_true rfl) dX3_makeHead_35 ⟨Nat.le_of_ble_eq_true rfl, Nat.le_of_ble_eq_true rfl⟩) hS (fun _ h => h) (fun r1 M H locs hp hM hS hz _ => ?_)
  obtain ⟨rfl, hme⟩ := hp
  rw [hme] at hM
  refine mm_callv (mm_runV (As := [.int 13, .int (cr_b (hd_p v sr rc pl) 0 13 (-1) ^^^ (-1))]) (rest := []) ⟨hx, hb, hml, hown, hts⟩ (c_X3_setNumber 13 rfl (by decide) h_a h_b) (cwV 2 hts gX3_makeHead_X3_setNumber rfl rfl rfl (by decide +kernel) ⟨Nat.le_of_ble_eq_true rfl, Nat.le_of_ble_eq_true rfl⟩) hK hM h_a rfl rfl hl.1 rfl (Nat.le_of_ble_eq_true rfl) dX3_makeHead_38 ⟨Nat.le_of_ble_eq_true rfl, Nat.le_of_ble_eq_true rfl⟩) hS (fun _ h => h) (fun M H locs hp hM hS hz _ => ?_)
  obtain ⟨ha, ho5⟩ := hp
  have h_a := (ho5 a (mm_ne h_a h_b mm_oa)).trans h_a
  have h_b : _ = some (Sum.inl (cI, 64, .inl (hd_f v sr rc pl)) : va_E) := ha
  exact mm_vret hx hb hr hlk hM hS (⟨h_b, fun q hq => by rw [ho5 q hq, ho4 q hq, ho3 q hq, ho2 q hq, ho1 q hq, ho0 q hq]⟩) dX3_makeHead_41

set_option maxHeartbeats 4000000 in
set_option maxRecDepth 100000 in
theorem c_X3_headVersion {l : Launch} {D : va_G} {A : Nat → Prop} {cI cS cB cZ : ClassId} {M : Nat → Option va_E} {sz : Nat} {a b : Nat} {t : Int32} {f : Nat → Int32} (h_a : M a = some (Sum.inr (3, [.ref b, .int t]) : va_E)) (h_b : M b = some (Sum.inl (cI, 64, .inl (f)) : va_E)) : Met l yX3_headVersion wsX3_headVersion ({ frames := 1, cells := 0, slots := 0, locals := 21 }) (mm_Pc D A (mm_T cI cS cB cZ) M sz [.ref a]) (mm_Qi D A (fun r M1 => r = nm_g f 0 ∧ M1 = M)) 0 0 A := by
  refine mm_met (cc := cX3_headVersion) (maxL := 1) (ret := (some .int)) (by decide) rfl (Nat.le_of_ble_eq_true rfl) ?_
  intro p e s m args below meth c hx hb hr hts hown hlk hin hml hsz hK hM hS ls hl
  subst hsz
  have hl : lv_has ls 1 [(0, .ref a)] := hl
  refine lv_aload_n hx hb dX3_headVersion_0 rfl (lv_at hl 0 rfl) ?_
  refine lv_iconst (v := 0) hx hb dX3_headVersion_1 (by decide) ?_
  refine mm_calli (mm_runV (As := [.int 0]) (rest := []) ⟨hx, hb, hml, hown, hts⟩ (c_X3_number 0 rfl (by decide) h_a h_b) (cwV 1 hts gX3_headVersion_X3_number rfl rfl rfl (by decide +kernel) ⟨Nat.le_of_ble_eq_true rfl, Nat.le_of_ble_eq_true rfl⟩) hK hM h_a rfl rfl hl.1 rfl (Nat.le_of_ble_eq_true rfl) dX3_headVersion_2 ⟨Nat.le_of_ble_eq_true rfl, Nat.le_of_ble_eq_true rfl⟩) hS (fun _ h => h) (fun r1 M H locs hp hM hS hz _ => ?_)
  obtain ⟨rfl, hme⟩ := hp
  rw [hme] at hM
  exact mm_iret hx hb hr hlk hM hS (⟨rfl, rfl⟩) dX3_headVersion_5

set_option maxHeartbeats 4000000 in
set_option maxRecDepth 100000 in
theorem c_X3_headRecord {l : Launch} {D : va_G} {A : Nat → Prop} {cI cS cB cZ : ClassId} {M : Nat → Option va_E} {sz : Nat} {a b : Nat} {t : Int32} {f : Nat → Int32} (h_a : M a = some (Sum.inr (3, [.ref b, .int t]) : va_E)) (h_b : M b = some (Sum.inl (cI, 64, .inl (f)) : va_E)) : Met l yX3_headRecord wsX3_headRecord ({ frames := 1, cells := 0, slots := 0, locals := 21 }) (mm_Pc D A (mm_T cI cS cB cZ) M sz [.ref a]) (mm_Qi D A (fun r M1 => r = nm_g f 8 ∧ M1 = M)) 0 0 A := by
  refine mm_met (cc := cX3_headRecord) (maxL := 1) (ret := (some .int)) (by decide) rfl (Nat.le_of_ble_eq_true rfl) ?_
  intro p e s m args below meth c hx hb hr hts hown hlk hin hml hsz hK hM hS ls hl
  subst hsz
  have hl : lv_has ls 1 [(0, .ref a)] := hl
  refine lv_aload_n hx hb dX3_headRecord_0 rfl (lv_at hl 0 rfl) ?_
  refine lv_bipush (v := 8) hx hb dX3_headRecord_1 (by decide) ?_
  refine mm_calli (mm_runV (As := [.int 8]) (rest := []) ⟨hx, hb, hml, hown, hts⟩ (c_X3_number 8 rfl (by decide) h_a h_b) (cwV 1 hts gX3_headRecord_X3_number rfl rfl rfl (by decide +kernel) ⟨Nat.le_of_ble_eq_true rfl, Nat.le_of_ble_eq_true rfl⟩) hK hM h_a rfl rfl hl.1 rfl (Nat.le_of_ble_eq_true rfl) dX3_headRecord_3 ⟨Nat.le_of_ble_eq_true rfl, Nat.le_of_ble_eq_true rfl⟩) hS (fun _ h => h) (fun r1 M H locs hp hM hS hz _ => ?_)
  obtain ⟨rfl, hme⟩ := hp
  rw [hme] at hM
  exact mm_iret hx hb hr hlk hM hS (⟨rfl, rfl⟩) dX3_headRecord_6

set_option maxHeartbeats 4000000 in
set_option maxRecDepth 100000 in
theorem c_X3_headPlace {l : Launch} {D : va_G} {A : Nat → Prop} {cI cS cB cZ : ClassId} {M : Nat → Option va_E} {sz : Nat} {a b : Nat} {t : Int32} {f : Nat → Int32} (h_a : M a = some (Sum.inr (3, [.ref b, .int t]) : va_E)) (h_b : M b = some (Sum.inl (cI, 64, .inl (f)) : va_E)) : Met l yX3_headPlace wsX3_headPlace ({ frames := 1, cells := 0, slots := 0, locals := 21 }) (mm_Pc D A (mm_T cI cS cB cZ) M sz [.ref a]) (mm_Qi D A (fun r M1 => r = f 12 ∧ M1 = M)) 0 0 A := by
  refine mm_met (cc := cX3_headPlace) (maxL := 1) (ret := (some .int)) (by decide) rfl (Nat.le_of_ble_eq_true rfl) ?_
  intro p e s m args below meth c hx hb hr hts hown hlk hin hml hsz hK hM hS ls hl
  subst hsz
  have hl : lv_has ls 1 [(0, .ref a)] := hl
  refine lv_aload_n hx hb dX3_headPlace_0 rfl (lv_at hl 0 rfl) ?_
  refine lv_bipush (v := 12) hx hb dX3_headPlace_1 (by decide) ?_
  refine mm_calli (mm_runV (As := [.int 12]) (rest := []) ⟨hx, hb, hml, hown, hts⟩ (c_X3_get 12 rfl (by decide) h_a h_b) (cwV 1 hts gX3_headPlace_X3_get rfl rfl rfl (by decide +kernel) ⟨Nat.le_of_ble_eq_true rfl, Nat.le_of_ble_eq_true rfl⟩) hK hM h_a rfl rfl hl.1 rfl (Nat.le_of_ble_eq_true rfl) dX3_headPlace_3 ⟨Nat.le_of_ble_eq_true rfl, Nat.le_of_ble_eq_true rfl⟩) hS (fun _ h => h) (fun r1 M H locs hp hM hS hz _ => ?_)
  obtain ⟨rfl, hme⟩ := hp
  rw [hme] at hM
  exact mm_iret hx hb hr hlk hM hS (⟨rfl, rfl⟩) dX3_headPlace_6

theorem in_X3_isGoodHead_X3 : ∀ w ∈ u_ws RX3 TX3 2, w ∈ wsX3_isGoodHead := fun w h => List.mem_cons_of_mem _ (List.mem_append_right _ h)
set_option maxHeartbeats 4000000 in
set_option maxRecDepth 100000 in
/-- Sector.isGoodHead of a good one -/
theorem c_X3_good {l : Launch} {D : va_G} {A : Nat → Prop} {cI cS cB cZ : ClassId} {M : Nat → Option va_E} {sz : Nat} {a b : Nat} {f : Nat → Int32} (g1 : nm_g f 13 = cr_b f 0 13 (-1) ^^^ (-1)) (g2 : nm_g f 0 = 1) (g3 : nm_g f 8 = 1) (g4 : f 12 = 2) (h_a : M a = some (Sum.inr (3, [.ref b, .int 0]) : va_E)) (h_b : M b = some (Sum.inl (cI, 64, .inl (f)) : va_E)) : Met l yX3_isGoodHead wsX3_isGoodHead ({ frames := 2, cells := 0, slots := 0, locals := 46 }) (mm_Pc D A (mm_T cI cS cB cZ) M sz [.ref a]) (mm_Qi D A (fun r M1 => r = 1 ∧ M1 = M)) 0 0 A := by
  refine mm_met (cc := cX3_isGoodHead) (maxL := 1) (ret := (some .boolean)) (by decide) rfl (Nat.le_of_ble_eq_true rfl) ?_
  intro p e s m args below meth c hx hb hr hts hown hlk hin hml hsz hK hM hS ls hl
  subst hsz
  have hl : lv_has ls 1 [(0, .ref a)] := hl
  refine lv_aload_n hx hb dX3_isGoodHead_0 rfl (lv_at hl 0 rfl) ?_
  refine mm_get (v := .int 0) (ci := 3) (C := RX3) (T := TX3) (N := 2) hx hb hts (in_X3_isGoodHead_X3) hown hK hM h_a rfl 1 (by decide) (hts (.fieldLink RX3 15 "GroupLog$Sector" "isTorn" "Z") (List.mem_of_getElem? (i := 1) rfl)) rfl dX3_isGoodHead_1 ?_
  refine lv_if_ne (tgt := 65) hx hb dX3_isGoodHead_4 (by decide) (fun c_1 => ?_) (fun c_1 => ?_)
  · exact absurd c_1 (by decide)
  refine lv_aload_n hx hb dX3_isGoodHead_7 rfl (lv_at hl 0 rfl) ?_
  refine lv_bipush (v := 13) hx hb dX3_isGoodHead_8 (by decide) ?_
  refine mm_calli (mm_runV (As := [.int 13]) (rest := []) ⟨hx, hb, hml, hown, hts⟩ (c_X3_number 13 rfl (by decide) h_a h_b) (cwV 1 hts gX3_isGoodHead_X3_number rfl rfl rfl (by decide +kernel) ⟨Nat.le_of_ble_eq_true rfl, Nat.le_of_ble_eq_true rfl⟩) hK hM h_a rfl rfl hl.1 rfl (Nat.le_of_ble_eq_true rfl) dX3_isGoodHead_10 ⟨Nat.le_of_ble_eq_true rfl, Nat.le_of_ble_eq_true rfl⟩) hS (fun _ h => h) (fun r2 M H locs hp hM hS hz _ => ?_)
  obtain ⟨rfl, hme⟩ := hp
  rw [hme] at hM
  refine lv_aload_n hx hb dX3_isGoodHead_13 rfl (lv_at hl 0 rfl) ?_
  refine mm_calli (mm_runV (As := []) (rest := [.int (nm_g f 13)]) ⟨hx, hb, hml, hown, hts⟩ (c_X3_headSum h_a h_b) (cwV 0 hts gX3_isGoodHead_X3_headSum rfl rfl rfl (by decide +kernel) ⟨Nat.le_of_ble_eq_true rfl, Nat.le_of_ble_eq_true rfl⟩) hK hM h_a rfl rfl hl.1 rfl (Nat.le_of_ble_eq_true rfl) dX3_isGoodHead_14 ⟨Nat.le_of_ble_eq_true rfl, Nat.le_of_ble_eq_true rfl⟩) hS (fun _ h => h) (fun r3 M H locs hp hM hS hz _ => ?_)
  obtain ⟨rfl, hme⟩ := hp
  rw [hme] at hM
  refine lv_icmp_ne (tgt := 65) hx hb dX3_isGoodHead_17 (by decide) (fun c_4 => ?_) (fun c_4 => ?_)
  · exact absurd c_4 (fun h => h g1)
  refine lv_aload_n hx hb dX3_isGoodHead_20 rfl (lv_at hl 0 rfl) ?_
  refine mm_calli (mm_runV (As := []) (rest := []) ⟨hx, hb, hml, hown, hts⟩ (c_X3_headVersion h_a h_b) (cwV 0 hts gX3_isGoodHead_X3_headVersion rfl rfl rfl (by decide +kernel) ⟨Nat.le_of_ble_eq_true rfl, Nat.le_of_ble_eq_true rfl⟩) hK hM h_a rfl rfl hl.1 rfl (Nat.le_of_ble_eq_true rfl) dX3_isGoodHead_21 ⟨Nat.le_of_ble_eq_true rfl, Nat.le_of_ble_eq_true rfl⟩) hS (fun _ h => h) (fun r5 M H locs hp hM hS hz _ => ?_)
  obtain ⟨rfl, hme⟩ := hp
  rw [hme] at hM
  refine lv_if_eq (tgt := 65) hx hb dX3_isGoodHead_24 (by decide) (fun c_6 => ?_) (fun c_6 => ?_)
  · exact absurd c_6 (by rw [g2]; decide)
  refine lv_aload_n hx hb dX3_isGoodHead_27 rfl (lv_at hl 0 rfl) ?_
  refine mm_calli (mm_runV (As := []) (rest := []) ⟨hx, hb, hml, hown, hts⟩ (c_X3_headRecord h_a h_b) (cwV 0 hts gX3_isGoodHead_X3_headRecord rfl rfl rfl (by decide +kernel) ⟨Nat.le_of_ble_eq_true rfl, Nat.le_of_ble_eq_true rfl⟩) hK hM h_a rfl rfl hl.1 rfl (Nat.le_of_ble_eq_true rfl) dX3_isGoodHead_28 ⟨Nat.le_of_ble_eq_true rfl, Nat.le_of_ble_eq_true rfl⟩) hS (fun _ h => h) (fun r7 M H locs hp hM hS hz _ => ?_)
  obtain ⟨rfl, hme⟩ := hp
  rw [hme] at hM
  refine lv_iconst (v := 1) hx hb dX3_isGoodHead_31 (by decide) ?_
  refine lv_icmp_lt (tgt := 65) hx hb dX3_isGoodHead_32 (by decide) (fun c_8 => ?_) (fun c_8 => ?_)
  · exact absurd c_8 (by rw [g3]; decide)
  refine lv_aload_n hx hb dX3_isGoodHead_35 rfl (lv_at hl 0 rfl) ?_
  refine mm_calli (mm_runV (As := []) (rest := []) ⟨hx, hb, hml, hown, hts⟩ (c_X3_headRecord h_a h_b) (cwV 0 hts gX3_isGoodHead_X3_headRecord rfl rfl rfl (by decide +kernel) ⟨Nat.le_of_ble_eq_true rfl, Nat.le_of_ble_eq_true rfl⟩) hK hM h_a rfl rfl hl.1 rfl (Nat.le_of_ble_eq_true rfl) dX3_isGoodHead_36 ⟨Nat.le_of_ble_eq_true rfl, Nat.le_of_ble_eq_true rfl⟩) hS (fun _ h => h) (fun r9 M H locs hp hM hS hz _ => ?_)
  obtain ⟨rfl, hme⟩ := hp
  rw [hme] at hM
  refine lv_ldc (v := 1000000000) hx hb hown (hts (.constant RX3 55 (1000000000)) (List.mem_of_getElem? (i := 2) rfl)) dX3_isGoodHead_39 ?_
  refine lv_icmp_gt (tgt := 65) hx hb dX3_isGoodHead_41 (by decide) (fun c_10 => ?_) (fun c_10 => ?_)
  · exact absurd c_10 (by rw [g3]; decide)
  refine lv_aload_n hx hb dX3_isGoodHead_44 rfl (lv_at hl 0 rfl) ?_
  refine mm_calli (mm_runV (As := []) (rest := []) ⟨hx, hb, hml, hown, hts⟩ (c_X3_headPlace h_a h_b) (cwV 0 hts gX3_isGoodHead_X3_headPlace rfl rfl rfl (by decide +kernel) ⟨Nat.le_of_ble_eq_true rfl, Nat.le_of_ble_eq_true rfl⟩) hK hM h_a rfl rfl hl.1 rfl (Nat.le_of_ble_eq_true rfl) dX3_isGoodHead_45 ⟨Nat.le_of_ble_eq_true rfl, Nat.le_of_ble_eq_true rfl⟩) hS (fun _ h => h) (fun r11 M H locs hp hM hS hz _ => ?_)
  obtain ⟨rfl, hme⟩ := hp
  rw [hme] at hM
  refine lv_iconst (v := 2) hx hb dX3_isGoodHead_48 (by decide) ?_
  refine lv_icmp_lt (tgt := 65) hx hb dX3_isGoodHead_49 (by decide) (fun c_12 => ?_) (fun c_12 => ?_)
  · exact absurd c_12 (by rw [g4]; decide)
  refine lv_aload_n hx hb dX3_isGoodHead_52 rfl (lv_at hl 0 rfl) ?_
  refine mm_calli (mm_runV (As := []) (rest := []) ⟨hx, hb, hml, hown, hts⟩ (c_X3_headPlace h_a h_b) (cwV 0 hts gX3_isGoodHead_X3_headPlace rfl rfl rfl (by decide +kernel) ⟨Nat.le_of_ble_eq_true rfl, Nat.le_of_ble_eq_true rfl⟩) hK hM h_a rfl rfl hl.1 rfl (Nat.le_of_ble_eq_true rfl) dX3_isGoodHead_53 ⟨Nat.le_of_ble_eq_true rfl, Nat.le_of_ble_eq_true rfl⟩) hS (fun _ h => h) (fun r13 M H locs hp hM hS hz _ => ?_)
  obtain ⟨rfl, hme⟩ := hp
  rw [hme] at hM
  refine lv_bipush (v := 64) hx hb dX3_isGoodHead_56 (by decide) ?_
  refine lv_icmp_ge (tgt := 65) hx hb dX3_isGoodHead_58 (by decide) (fun c_14 => ?_) (fun c_14 => ?_)
  · exact absurd c_14 (by rw [g4]; decide)
  refine lv_iconst (v := 1) hx hb dX3_isGoodHead_61 (by decide) ?_
  refine lv_goto (tgt := 66) hx hb dX3_isGoodHead_62 (by decide) ?_
  exact mm_zret hx hb hr hlk (rfl) hM hS (⟨rfl, rfl⟩) dX3_isGoodHead_66

set_option maxHeartbeats 4000000 in
set_option maxRecDepth 100000 in
/-- Sector.isGoodHead of one whose sum is wrong -/
theorem c_X3_bad {l : Launch} {D : va_G} {A : Nat → Prop} {cI cS cB cZ : ClassId} {M : Nat → Option va_E} {sz : Nat} {a b : Nat} {f : Nat → Int32} (g1 : ¬ nm_g f 13 = cr_b f 0 13 (-1) ^^^ (-1)) (h_a : M a = some (Sum.inr (3, [.ref b, .int 0]) : va_E)) (h_b : M b = some (Sum.inl (cI, 64, .inl (f)) : va_E)) : Met l yX3_isGoodHead wsX3_isGoodHead ({ frames := 2, cells := 0, slots := 0, locals := 46 }) (mm_Pc D A (mm_T cI cS cB cZ) M sz [.ref a]) (mm_Qi D A (fun r M1 => r = 0 ∧ M1 = M)) 0 0 A := by
  refine mm_met (cc := cX3_isGoodHead) (maxL := 1) (ret := (some .boolean)) (by decide) rfl (Nat.le_of_ble_eq_true rfl) ?_
  intro p e s m args below meth c hx hb hr hts hown hlk hin hml hsz hK hM hS ls hl
  subst hsz
  have hl : lv_has ls 1 [(0, .ref a)] := hl
  refine lv_aload_n hx hb dX3_isGoodHead_0 rfl (lv_at hl 0 rfl) ?_
  refine mm_get (v := .int 0) (ci := 3) (C := RX3) (T := TX3) (N := 2) hx hb hts (in_X3_isGoodHead_X3) hown hK hM h_a rfl 1 (by decide) (hts (.fieldLink RX3 15 "GroupLog$Sector" "isTorn" "Z") (List.mem_of_getElem? (i := 1) rfl)) rfl dX3_isGoodHead_1 ?_
  refine lv_if_ne (tgt := 65) hx hb dX3_isGoodHead_4 (by decide) (fun c_1 => ?_) (fun c_1 => ?_)
  · exact absurd c_1 (by decide)
  refine lv_aload_n hx hb dX3_isGoodHead_7 rfl (lv_at hl 0 rfl) ?_
  refine lv_bipush (v := 13) hx hb dX3_isGoodHead_8 (by decide) ?_
  refine mm_calli (mm_runV (As := [.int 13]) (rest := []) ⟨hx, hb, hml, hown, hts⟩ (c_X3_number 13 rfl (by decide) h_a h_b) (cwV 1 hts gX3_isGoodHead_X3_number rfl rfl rfl (by decide +kernel) ⟨Nat.le_of_ble_eq_true rfl, Nat.le_of_ble_eq_true rfl⟩) hK hM h_a rfl rfl hl.1 rfl (Nat.le_of_ble_eq_true rfl) dX3_isGoodHead_10 ⟨Nat.le_of_ble_eq_true rfl, Nat.le_of_ble_eq_true rfl⟩) hS (fun _ h => h) (fun r2 M H locs hp hM hS hz _ => ?_)
  obtain ⟨rfl, hme⟩ := hp
  rw [hme] at hM
  refine lv_aload_n hx hb dX3_isGoodHead_13 rfl (lv_at hl 0 rfl) ?_
  refine mm_calli (mm_runV (As := []) (rest := [.int (nm_g f 13)]) ⟨hx, hb, hml, hown, hts⟩ (c_X3_headSum h_a h_b) (cwV 0 hts gX3_isGoodHead_X3_headSum rfl rfl rfl (by decide +kernel) ⟨Nat.le_of_ble_eq_true rfl, Nat.le_of_ble_eq_true rfl⟩) hK hM h_a rfl rfl hl.1 rfl (Nat.le_of_ble_eq_true rfl) dX3_isGoodHead_14 ⟨Nat.le_of_ble_eq_true rfl, Nat.le_of_ble_eq_true rfl⟩) hS (fun _ h => h) (fun r3 M H locs hp hM hS hz _ => ?_)
  obtain ⟨rfl, hme⟩ := hp
  rw [hme] at hM
  refine lv_icmp_ne (tgt := 65) hx hb dX3_isGoodHead_17 (by decide) (fun c_4 => ?_) (fun c_4 => ?_)
  rotate_left
  · exact absurd c_4 (g1)
  refine lv_iconst (v := 0) hx hb dX3_isGoodHead_65 (by decide) ?_
  exact mm_zret hx hb hr hlk (rfl) hM hS (⟨rfl, rfl⟩) dX3_isGoodHead_66

set_option maxHeartbeats 4000000 in
set_option maxRecDepth 100000 in
theorem lp_X3_take {p : Program} {l : Launch} {e : Env} {s : State} {m : MethodId} {args : Array Value} {below : List Frame} {meth : Method} {c : Code} {Q : State → Prop} {D : va_G} {A : Nat → Prop} {cI cS cB cZ : ClassId} (hx : p.tables.exec = Jvm.exec) (hb : c.code = cX3_takeBytes) (hts : ∀ w ∈ wsX3_takeBytes, w.before args s = true) (hown : s.vm.findClass RX3 = some m.cls) (hml : c.maxLocals = 4) (hK : mm_K D (mm_T cI cS cB cZ) s) {a b a2 b2 : Nat} {t t2 : Int32} {f2 : Nat → Int32} (hne : b ≠ b2) :
    ∀ (n i : Nat), i + n = 64 → ∀ (M : Nat → Option va_E) (H : Heap) (locs : List Loc) (f : Nat → Int32), mm_W D A M H → va_S A s.heap H locs → M a = some (Sum.inr (3, [.ref b, .int t]) : va_E) → M b = some (Sum.inl (cI, 64, .inl (f)) : va_E) → M a2 = some (Sum.inr (3, [.ref b2, .int t2]) : va_E) → M b2 = some (Sum.inl (cI, 64, .inl (f2)) : va_E) → (∀ (M1 : Nat → Option va_E) (H1 : Heap) (locs1 : List Loc) (f1 : Nat → Int32) (ls1 : Array Slot), mm_W D A M1 H1 → va_S A s.heap H1 locs1 → M1 b = some (Sum.inl (cI, 64, .inl f1) : va_E) → (∀ q, q ≠ b → M1 q = M q) → W p l e ({ frames := 1, cells := 0, slots := 0, locals := 22 } : Room) s m args below meth c H1 locs1 0 0 Q (F0 m 29 ls1 [])) → ∀ ls : Array Slot, lv_has ls 4 [(0, .ref a), (1, .ref a2), (2, .int 64), (3, .int (nI i))] → W p l e ({ frames := 1, cells := 0, slots := 0, locals := 22 } : Room) s m args below meth c H locs 0 0 Q (F0 m 2 ls []) := by
  intro n
  induction n with
  | zero =>
    intro i hi M H locs f hM hS h_a h_b h_a2 h_b2 kx ls hl
    obtain rfl : i = 64 := by omega
    refine lv_iload_n hx hb dX3_takeBytes_2 rfl (lv_at hl 3 rfl) ?_
    refine lv_iload_n hx hb dX3_takeBytes_3 rfl (lv_at hl 2 rfl) ?_
    refine lv_icmp_ge (tgt := 29) hx hb dX3_takeBytes_4 (by decide) (fun c_1 => ?_) (fun c_1 => ?_)
    rotate_left
    · exact absurd c_1 (fun h => h (by decide))
    exact kx M H locs f ls hM hS h_b (fun q _ => rfl)
  | succ n ih =>
    intro i hi M H locs f hM hS h_a h_b h_a2 h_b2 kx ls hl
    refine lv_iload_n hx hb dX3_takeBytes_2 rfl (lv_at hl 3 rfl) ?_
    refine lv_iload_n hx hb dX3_takeBytes_3 rfl (lv_at hl 2 rfl) ?_
    refine lv_icmp_ge (tgt := 29) hx hb dX3_takeBytes_4 (by decide) (fun c_2 => ?_) (fun c_2 => ?_)
    · exact absurd c_2 (nI_ge (b := 64) (by omega) (by decide))
    refine lv_iload_n hx hb dX3_takeBytes_7 rfl (lv_at hl 3 rfl) ?_
    refine lv_bipush (v := 64) hx hb dX3_takeBytes_8 (by decide) ?_
    refine lv_icmp_ge (tgt := 29) hx hb dX3_takeBytes_10 (by decide) (fun c_3 => ?_) (fun c_3 => ?_)
    · exact absurd c_3 (nI_ge (b := 64) (by omega) (by decide))
    refine lv_aload_n hx hb dX3_takeBytes_13 rfl (lv_at hl 0 rfl) ?_
    refine lv_iload_n hx hb dX3_takeBytes_14 rfl (lv_at hl 3 rfl) ?_
    refine lv_aload_n hx hb dX3_takeBytes_15 rfl (lv_at hl 1 rfl) ?_
    refine lv_iload_n hx hb dX3_takeBytes_16 rfl (lv_at hl 3 rfl) ?_
    refine mm_calli (mm_runV (As := [.int (nI i)]) (rest := [.int (nI i), .ref a]) ⟨hx, hb, hml, hown, hts⟩ (c_X3_get i rfl (by omega) h_a2 h_b2) (cwV 1 hts gX3_takeBytes_X3_get rfl rfl rfl (by decide +kernel) ⟨Nat.le_of_ble_eq_true rfl, Nat.le_of_ble_eq_true rfl⟩) hK hM h_a2 rfl rfl hl.1 rfl (Nat.le_of_ble_eq_true rfl) dX3_takeBytes_17 ⟨Nat.le_of_ble_eq_true rfl, Nat.le_of_ble_eq_true rfl⟩) hS (fun _ h => h) (fun r4 M H locs hp hM hS hz _ => ?_)
    obtain ⟨rfl, hme⟩ := hp
    rw [hme] at hM
    refine mm_callv (mm_runV (As := [.int (nI i), .int (f2 i)]) (rest := []) ⟨hx, hb, hml, hown, hts⟩ (c_X3_set i rfl (by omega) h_a h_b) (cwV 2 hts gX3_takeBytes_X3_set rfl rfl rfl (by decide +kernel) ⟨Nat.le_of_ble_eq_true rfl, Nat.le_of_ble_eq_true rfl⟩) hK hM h_a rfl rfl hl.1 rfl (Nat.le_of_ble_eq_true rfl) dX3_takeBytes_20 ⟨Nat.le_of_ble_eq_true rfl, Nat.le_of_ble_eq_true rfl⟩) hS (fun _ h => h) (fun M H locs hp hM hS hz _ => ?_)
    obtain ⟨ha, ho⟩ := hp
    have h_a := (ho a (mm_ne h_a h_b mm_oa)).trans h_a
    have h_a2 := (ho a2 (mm_ne h_a2 h_b mm_oa)).trans h_a2
    have h_b2 := (ho b2 (Ne.symm hne)).trans h_b2
    have h_b : _ = some (Sum.inl (cI, 64, .inl (upd f i (f2 i &&& 255))) : va_E) := ha
    refine lv_iinc (v := (nI (i + 1))) (lv' := [(3, .int (nI (i + 1))), (0, .ref a), (1, .ref a2), (2, .int 64)]) hx hb dX3_takeBytes_23 hl (k := 3) rfl (by show _ + (1 : Int32) = _; exact nI_1 i) (by decide) rfl (fun ls hl => ?_)
    refine lv_goto (tgt := 2) hx hb dX3_takeBytes_26 (by decide) ?_
    exact ih (i + 1) (by omega) M H locs _ hM hS h_a h_b h_a2 h_b2 (fun M1 H1 locs1 f1 ls1 g1 g2 g3 g5 => kx M1 H1 locs1 f1 ls1 g1 g2 g3 (fun q hq => by rw [g5 q hq, ho q hq])) ls (lv_sub hl [1, 2, 3, 0] rfl)

set_option maxHeartbeats 4000000 in
set_option maxRecDepth 100000 in
/-- Sector.takeBytes, all -/
theorem c_X3_takeBytes {l : Launch} {D : va_G} {A : Nat → Prop} {cI cS cB cZ : ClassId} {M : Nat → Option va_E} {sz : Nat} {a b a2 b2 : Nat} {t t2 : Int32} {f f2 : Nat → Int32} (hne : b ≠ b2) (h_a : M a = some (Sum.inr (3, [.ref b, .int t]) : va_E)) (h_b : M b = some (Sum.inl (cI, 64, .inl (f)) : va_E)) (h_a2 : M a2 = some (Sum.inr (3, [.ref b2, .int t2]) : va_E)) (h_b2 : M b2 = some (Sum.inl (cI, 64, .inl (f2)) : va_E)) : Met l yX3_takeBytes wsX3_takeBytes ({ frames := 1, cells := 0, slots := 0, locals := 22 }) (mm_Pc D A (mm_T cI cS cB cZ) M sz [.ref a, .ref a2, .int 64]) (mm_Qv D A (fun M1 => ∃ f1 : Nat → Int32, M1 b = some (Sum.inl (cI, 64, .inl f1) : va_E) ∧ ∀ q, q ≠ b → M1 q = M q)) 0 0 A := by
  refine mm_met (cc := cX3_takeBytes) (maxL := 4) (ret := none) (by decide) rfl (Nat.le_of_ble_eq_true rfl) ?_
  intro p e s m args below meth c hx hb hr hts hown hlk hin hml hsz hK hM hS ls hl
  subst hsz
  have hl : lv_has ls 4 [(0, .ref a), (1, .ref a2), (2, .int 64)] := hl
  refine lv_iconst (v := 0) hx hb dX3_takeBytes_0 (by decide) ?_
  refine lv_istore_n (lv' := [(3, .int 0), (0, .ref a), (1, .ref a2), (2, .int 64)]) hx hb dX3_takeBytes_1 rfl hl (by decide) rfl (fun ls hl => ?_)
  refine lp_X3_take (a := a) (t := t) hx hb hts hown hml hK hne 64 0 rfl _ _ _ f hM hS h_a h_b h_a2 h_b2 (fun M1 H locs f1 ls hM hS h_b ho => ?_) ls (lv_sub hl [1, 2, 3, 0] rfl)
  exact mm_vret hx hb hr hlk hM hS (⟨f1, h_b, ho⟩) dX3_takeBytes_29

theorem in_X3_takeWhole_X3 : ∀ w ∈ u_ws RX3 TX3 2, w ∈ wsX3_takeWhole := fun w h => List.mem_cons_of_mem _ (List.mem_append_right _ h)
set_option maxHeartbeats 4000000 in
set_option maxRecDepth 100000 in
/-- Sector.takeWhole -/
theorem c_X3_takeWhole {l : Launch} {D : va_G} {A : Nat → Prop} {cI cS cB cZ : ClassId} {M : Nat → Option va_E} {sz : Nat} {a b a2 b2 : Nat} {t t2 : Int32} {f f2 : Nat → Int32} (hne : b ≠ b2) (h_a : M a = some (Sum.inr (3, [.ref b, .int t]) : va_E)) (h_b : M b = some (Sum.inl (cI, 64, .inl (f)) : va_E)) (h_a2 : M a2 = some (Sum.inr (3, [.ref b2, .int t2]) : va_E)) (h_b2 : M b2 = some (Sum.inl (cI, 64, .inl (f2)) : va_E)) : Met l yX3_takeWhole wsX3_takeWhole ({ frames := 2, cells := 0, slots := 0, locals := 45 }) (mm_Pc D A (mm_T cI cS cB cZ) M sz [.ref a, .ref a2]) (mm_Qv D A (fun M1 => ∀ q, q ≠ a → q ≠ b → M1 q = M q)) 0 0 A := by
  refine mm_met (cc := cX3_takeWhole) (maxL := 2) (ret := none) (by decide) rfl (Nat.le_of_ble_eq_true rfl) ?_
  intro p e s m args below meth c hx hb hr hts hown hlk hin hml hsz hK hM hS ls hl
  subst hsz
  have hl : lv_has ls 2 [(0, .ref a), (1, .ref a2)] := hl
  refine lv_aload_n hx hb dX3_takeWhole_0 rfl (lv_at hl 0 rfl) ?_
  refine lv_aload_n hx hb dX3_takeWhole_1 rfl (lv_at hl 1 rfl) ?_
  refine lv_bipush (v := 64) hx hb dX3_takeWhole_2 (by decide) ?_
  refine mm_callv (mm_runV (As := [.ref a2, .int 64]) (rest := []) ⟨hx, hb, hml, hown, hts⟩ (c_X3_takeBytes hne h_a h_b h_a2 h_b2) (cwV 2 hts gX3_takeWhole_X3_takeBytes rfl rfl rfl (by decide +kernel) ⟨Nat.le_of_ble_eq_true rfl, Nat.le_of_ble_eq_true rfl⟩) hK hM h_a rfl rfl hl.1 rfl (Nat.le_of_ble_eq_true rfl) dX3_takeWhole_4 ⟨Nat.le_of_ble_eq_true rfl, Nat.le_of_ble_eq_true rfl⟩) hS (fun _ h => h) (fun M H locs hp hM hS hz _ => ?_)
  obtain ⟨f1, ha, ho0⟩ := hp
  have h_a := (ho0 a (mm_ne h_a h_b mm_oa)).trans h_a
  have h_b : _ = some (Sum.inl (cI, 64, .inl (f1)) : va_E) := ha
  refine lv_aload_n hx hb dX3_takeWhole_7 rfl (lv_at hl 0 rfl) ?_
  refine lv_iconst (v := 0) hx hb dX3_takeWhole_8 (by decide) ?_
  refine mm_put (v := .int 0) (ci := 3) (C := RX3) (T := TX3) (N := 2) hx hb hts (in_X3_takeWhole_X3) tyX3 tyX3_ok nmX3 hown hK hM hS h_a rfl 1 (by decide) (hts (.fieldLink RX3 15 "GroupLog$Sector" "isTorn" "Z") (List.mem_of_getElem? (i := 1) rfl)) rfl rfl rfl (Nat.le_of_ble_eq_true rfl) dX3_takeWhole_9 (fun H locs M hM ha ho hS => ?_)
  have h_b := (ho b (mm_ne h_b h_a mm_ao)).trans h_b
  have h_a : _ = some (Sum.inr (3, [.ref b, .int 0]) : va_E) := ha
  exact mm_vret hx hb hr hlk hM hS (fun q h1 h2 => by rw [ho q h1, ho0 q h2]) dX3_takeWhole_12

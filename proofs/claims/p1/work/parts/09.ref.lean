/-! ===== the reference ===== -/
theorem dX6_append_47 : decode cX6_append 47 = .ok (.iconst (-1), 1) := by decide +kernel
theorem dX6_append_48 : decode cX6_append 48 = .ok (.ireturn, 1) := by decide +kernel
def bs_t (n s : Int32) : Int32 := vp_nar .byte ((n >>> (s &&& 31)).toInt8.toInt32)
def nm_t (f : Nat → Int32) (j : Nat) (n : Int32) : Nat → Int32 := upd (upd (upd (upd f (j + 0) (bs_t n 24)) (j + 1) (bs_t n 16)) (j + 2) (bs_t n 8)) (j + 3) (bs_t n 0)
def mh_p (v s r p : Int32) : Nat → Int32 := upd (nm_t (nm_t (nm_t (fun _ => 0) 0 v) 4 s) 8 r) 12 (vp_nar .byte (p.toInt8.toInt32))
def mh_f (v s r p : Int32) : Nat → Int32 := nm_t (mh_p v s r p) 13 (cr_b (fun k => mh_p v s r p k &&& 255) 0 13 (-1) ^^^ (-1))
def md_F : Nat → Int32 := fun k => if k < 64 then vp_nar .byte (mh_f 1 1 1 2 k) else 0
theorem md_0 : ∀ n, n < 64 → md_F n &&& 255 = hd_f 1 1 1 2 n := by decide +kernel
theorem md_eq {j n : Nat} (hn : n < 64) : md_F (64 * j + n) &&& 255 = gl_F j n := by
  by_cases e : j = 0
  · subst e
    rw [show 64 * 0 + n = n by omega]
    exact md_0 n hn
  · have h1 : md_F (64 * j + n) = 0 := by unfold md_F; rw [if_neg (by omega)]
    have h2 : gl_F j = fun _ => 0 := by unfold gl_F; rw [if_neg e]
    rw [h1, h2]
    show (0 : Int32) &&& 255 = 0
    decide

set_option maxHeartbeats 4000000 in
set_option maxRecDepth 100000 in
theorem lp_X6_add {p : Program} {l : Launch} {e : Env} {s : State} {m : MethodId} {args : Array Value} {below : List Frame} {meth : Method} {c : Code} {Q : State → Prop} {D : va_G} {A : Nat → Prop} {cI cS cB cZ : ClassId} {cells slots : Nat} {R : Room} (hx : p.tables.exec = Jvm.exec) (hb : c.code = cX6_add) (hts : ∀ w ∈ wsX6_add, w.before args s = true) (hown : s.vm.findClass RX6 = some m.cls) (hml : c.maxLocals = 4) (hK : mm_K D (mm_T cI cS cB cZ) s) {H : Heap} {locs : List Loc} :
    ∀ (n k : Nat), k + n = 8 → ∀ (x : Int32) (ls : Array Slot), lv_has ls 4 [(2, .int x), (3, .int (nI k))] → (∀ ls1 : Array Slot, lv_has ls1 4 [(2, .int (cr_n n x))] → W p l e R s m args below meth c H locs cells slots Q (F0 m 42 ls1 [])) → W p l e R s m args below meth c H locs cells slots Q (F0 m 10 ls []) := by
  intro n
  induction n with
  | zero =>
    intro k hk x ls hl kx
    obtain rfl : k = 8 := by omega
    refine lv_iload_n hx hb dX6_add_10 rfl (lv_at hl 1 rfl) ?_
    refine lv_bipush (v := 8) hx hb dX6_add_11 (by decide) ?_
    refine lv_icmp_ge (tgt := 42) hx hb dX6_add_13 (by decide) (fun c_1 => ?_) (fun c_1 => ?_)
    rotate_left
    · exact absurd c_1 (fun h => h (by decide))
    exact kx ls (lv_sub hl [0] rfl)
  | succ n ih =>
    intro k hk x ls hl kx
    refine lv_iload_n hx hb dX6_add_10 rfl (lv_at hl 1 rfl) ?_
    refine lv_bipush (v := 8) hx hb dX6_add_11 (by decide) ?_
    refine lv_icmp_ge (tgt := 42) hx hb dX6_add_13 (by decide) (fun c_2 => ?_) (fun c_2 => ?_)
    · exact absurd c_2 (nI_ge (b := 8) (by omega) (by decide))
    refine lv_iload_n hx hb dX6_add_16 rfl (lv_at hl 0 rfl) ?_
    refine lv_iconst (v := 1) hx hb dX6_add_17 (by decide) ?_
    refine lv_iand hx hb dX6_add_18 ?_
    refine lv_iconst (v := 1) hx hb dX6_add_19 (by decide) ?_
    refine lv_icmp_ne (tgt := 32) hx hb dX6_add_20 (by decide) (fun c_3 => ?_) (fun c_3 => ?_)
    · skip
      refine lv_iload_n hx hb dX6_add_32 rfl (lv_at hl 0 rfl) ?_
      refine lv_iconst (v := 1) hx hb dX6_add_33 (by decide) ?_
      refine lv_iushr hx hb dX6_add_34 rfl ?_
      refine lv_topi (fun z4 ez4 => ?_)
      have ez4 : z4 = (cr_s x) := ez4.trans (by show _ = cr_s x; unfold cr_s; rw [if_neg c_3]; rfl)
      subst ez4
      refine lv_istore_n (lv' := [(2, .int (cr_s x)), (3, .int (nI k))]) hx hb dX6_add_35 rfl hl (by decide) rfl (fun ls hl => ?_)
      refine lv_iinc (v := (nI (k + 1))) (lv' := [(3, .int (nI (k + 1))), (2, .int (cr_s x))]) hx hb dX6_add_36 hl (k := 1) rfl (by show _ + (1 : Int32) = _; exact nI_1 k) (by decide) rfl (fun ls hl => ?_)
      refine lv_goto (tgt := 10) hx hb dX6_add_39 (by decide) ?_
      exact ih (k + 1) (by omega) (cr_s x) ls (lv_sub hl [1, 0] rfl) kx
    · skip
      refine lv_iload_n hx hb dX6_add_23 rfl (lv_at hl 0 rfl) ?_
      refine lv_iconst (v := 1) hx hb dX6_add_24 (by decide) ?_
      refine lv_iushr hx hb dX6_add_25 rfl ?_
      refine lv_ldc (v := (-306674912)) hx hb hown (hts (.constant RX6 74 (-306674912)) (List.mem_of_getElem? (i := 1) rfl)) dX6_add_26 ?_
      refine lv_ixor hx hb dX6_add_28 ?_
      refine lv_goto (tgt := 35) hx hb dX6_add_29 (by decide) ?_
      refine lv_topi (fun z5 ez5 => ?_)
      have ez5 : z5 = (cr_s x) := ez5.trans (by show _ = cr_s x; unfold cr_s; rw [if_pos c_3]; rfl)
      subst ez5
      refine lv_istore_n (lv' := [(2, .int (cr_s x)), (3, .int (nI k))]) hx hb dX6_add_35 rfl hl (by decide) rfl (fun ls hl => ?_)
      refine lv_iinc (v := (nI (k + 1))) (lv' := [(3, .int (nI (k + 1))), (2, .int (cr_s x))]) hx hb dX6_add_36 hl (k := 1) rfl (by show _ + (1 : Int32) = _; exact nI_1 k) (by decide) rfl (fun ls hl => ?_)
      refine lv_goto (tgt := 10) hx hb dX6_add_39 (by decide) ?_
      exact ih (k + 1) (by omega) (cr_s x) ls (lv_sub hl [1, 0] rfl) kx

set_option maxHeartbeats 4000000 in
set_option maxRecDepth 100000 in
theorem c_X6_add {l : Launch} {D : va_G} {A : Nat → Prop} {cI cS cB cZ : ClassId} {M : Nat → Option va_E} {sz : Nat} {x b : Int32}  : Met l yX6_add wsX6_add ({ frames := 0, cells := 0, slots := 0, locals := 0 }) (mm_Pc D A (mm_T cI cS cB cZ) M sz [.int x, .int b]) (mm_Qi D A (fun r M1 => r = cr_n 8 (x ^^^ (b &&& 255)) ∧ M1 = M)) 0 0 A := by
  refine mm_met (cc := cX6_add) (maxL := 4) (ret := (some .int)) (by decide) rfl (Nat.le_of_ble_eq_true rfl) ?_
  intro p e s m args below meth c hx hb hr hts hown hlk hin hml hsz hK hM hS ls hl
  subst hsz
  have hl : lv_has ls 4 [(0, .int x), (1, .int b)] := hl
  refine lv_iload_n hx hb dX6_add_0 rfl (lv_at hl 0 rfl) ?_
  refine lv_iload_n hx hb dX6_add_1 rfl (lv_at hl 1 rfl) ?_
  refine lv_sipush (v := 255) hx hb dX6_add_2 (by decide) ?_
  refine lv_iand hx hb dX6_add_5 ?_
  refine lv_ixor hx hb dX6_add_6 ?_
  refine lv_istore_n (lv' := [(2, .int (x ^^^ (b &&& 255))), (0, .int x), (1, .int b)]) hx hb dX6_add_7 rfl hl (by decide) rfl (fun ls hl => ?_)
  refine lv_iconst (v := 0) hx hb dX6_add_8 (by decide) ?_
  refine lv_istore_n (lv' := [(3, .int 0), (2, .int (x ^^^ (b &&& 255))), (0, .int x), (1, .int b)]) hx hb dX6_add_9 rfl hl (by decide) rfl (fun ls hl => ?_)
  refine lp_X6_add (A := A) (cI := cI) (cS := cS) (cB := cB) (cZ := cZ) (D := D) hx hb hts hown hml hK 8 0 rfl _ ls (lv_sub hl [1, 0] rfl) (fun ls hl => ?_)
  refine lv_iload_n hx hb dX6_add_42 rfl (lv_at hl 0 rfl) ?_
  exact mm_iret hx hb hr hlk hM hS (⟨rfl, rfl⟩) dX6_add_43

set_option maxHeartbeats 4000000 in
set_option maxRecDepth 100000 in
theorem lp_X6_sum {p : Program} {l : Launch} {e : Env} {s : State} {m : MethodId} {args : Array Value} {below : List Frame} {meth : Method} {c : Code} {Q : State → Prop} {D : va_G} {A : Nat → Prop} {cI cS cB cZ : ClassId} (hx : p.tables.exec = Jvm.exec) (hb : c.code = cX6_headSum) (hts : ∀ w ∈ wsX6_headSum, w.before args s = true) (hown : s.vm.findClass RX6 = some m.cls) (hml : c.maxLocals = 4) (hK : mm_K D (mm_T cI cS cB cZ) s) {sc : Nat} {f : Nat → Int32} :
    ∀ (n j : Nat), j + n = 13 → ∀ (x : Int32) (H : Heap) (locs : List Loc) (M : Nat → Option va_E), mm_W D A M H → va_S A s.heap H locs → M sc = some (Sum.inl (cB, 64, .inl (f)) : va_E) → ∀ (ls : Array Slot), lv_has ls 4 [(0, .ref sc), (1, .int 0), (2, .int x), (3, .int (nI j))] → (∀ (H1 : Heap) (locs1 : List Loc) (ls1 : Array Slot), mm_W D A M H1 → va_S A s.heap H1 locs1 → lv_has ls1 4 [(0, .ref sc), (1, .int 0), (2, .int (cr_b (fun k => f k &&& 255) j n x)), (3, .int (nI 13))] → W p l e ({ frames := 1, cells := 0, slots := 0, locals := 23 } : Room) s m args below meth c H1 locs1 0 0 Q (F0 m 26 ls1 [])) → W p l e ({ frames := 1, cells := 0, slots := 0, locals := 23 } : Room) s m args below meth c H locs 0 0 Q (F0 m 4 ls []) := by
  intro n
  induction n with
  | zero =>
    intro j hj x H locs M hM hS h_sc ls hl kx
    obtain rfl : j = 13 := by omega
    refine lv_iload_n hx hb dX6_headSum_4 rfl (lv_at hl 3 rfl) ?_
    refine lv_bipush (v := 13) hx hb dX6_headSum_5 (by decide) ?_
    refine lv_icmp_ge (tgt := 26) hx hb dX6_headSum_7 (by decide) (fun c_1 => ?_) (fun c_1 => ?_)
    rotate_left
    · exact absurd c_1 (fun h => h (by decide))
    exact kx H locs ls hM hS hl
  | succ n ih =>
    intro j hj x H locs M hM hS h_sc ls hl kx
    refine lv_iload_n hx hb dX6_headSum_4 rfl (lv_at hl 3 rfl) ?_
    refine lv_bipush (v := 13) hx hb dX6_headSum_5 (by decide) ?_
    refine lv_icmp_ge (tgt := 26) hx hb dX6_headSum_7 (by decide) (fun c_2 => ?_) (fun c_2 => ?_)
    · exact absurd c_2 (nI_ge (b := 13) (by omega) (by decide))
    refine lv_iload_n hx hb dX6_headSum_10 rfl (lv_at hl 2 rfl) ?_
    refine lv_aload_n hx hb dX6_headSum_11 rfl (lv_at hl 0 rfl) ?_
    refine lv_iload_n hx hb dX6_headSum_12 rfl (lv_at hl 1 rfl) ?_
    refine lv_iload_n hx hb dX6_headSum_13 rfl (lv_at hl 3 rfl) ?_
    refine lv_iadd hx hb dX6_headSum_14 ?_
    refine lv_topi (fun z3 ez3 => ?_)
    have ez3 : z3 = (nI j) := ez3.trans (by rw [show (0 : Int32) = nI 0 from rfl, nI_add, Nat.zero_add])
    subst ez3
    refine mm_bald hx hb hK hM 2 h_sc rfl (j := j) (rfl) (by omega) (by decide) dX6_headSum_15 ?_
    refine mm_calli (mm_runS (As := [.int x, .int ((f) (j))]) (rest := []) ⟨hx, hb, hml, hown, hts⟩ (c_X6_add ) (va_cwS 2 hts gX6_headSum_X6_add rfl rfl rfl (by decide +kernel) ⟨Nat.le_of_ble_eq_true rfl, Nat.le_of_ble_eq_true rfl⟩) hK hM rfl hl.1 rfl (Nat.le_of_ble_eq_true rfl) dX6_headSum_16 ⟨Nat.le_of_ble_eq_true rfl, Nat.le_of_ble_eq_true rfl⟩) hS (fun _ h => h) (fun r4 M H locs hp hM hS hz _ => ?_)
    obtain ⟨rfl, hme⟩ := hp
    rw [hme] at hM
    refine lv_istore_n (lv' := [(2, .int (cr_n 8 (x ^^^ (f j &&& 255)))), (0, .ref sc), (1, .int 0), (3, .int (nI j))]) hx hb dX6_headSum_19 rfl hl (by decide) rfl (fun ls hl => ?_)
    refine lv_iinc (v := (nI (j + 1))) (lv' := [(3, .int (nI (j + 1))), (2, .int (cr_n 8 (x ^^^ (f j &&& 255)))), (0, .ref sc), (1, .int 0)]) hx hb dX6_headSum_20 hl (k := 3) rfl (by show _ + (1 : Int32) = _; exact nI_1 j) (by decide) rfl (fun ls hl => ?_)
    refine lv_goto (tgt := 4) hx hb dX6_headSum_23 (by decide) ?_
    exact ih (j + 1) (by omega) _ H locs _ hM hS h_sc ls (lv_sub hl [2, 3, 1, 0] rfl) kx

set_option maxHeartbeats 4000000 in
set_option maxRecDepth 100000 in
theorem c_X6_headSum {l : Launch} {D : va_G} {A : Nat → Prop} {cI cS cB cZ : ClassId} {M : Nat → Option va_E} {sz : Nat} {sc : Nat} {f : Nat → Int32} (h_sc : M sc = some (Sum.inl (cB, 64, .inl (f)) : va_E)) : Met l yX6_headSum wsX6_headSum ({ frames := 1, cells := 0, slots := 0, locals := 23 }) (mm_Pc D A (mm_T cI cS cB cZ) M sz [.ref sc, .int 0]) (mm_Qi D A (fun r M1 => r = cr_b (fun k => f k &&& 255) 0 13 (-1) ^^^ (-1) ∧ M1 = M)) 0 0 A := by
  refine mm_met (cc := cX6_headSum) (maxL := 4) (ret := (some .int)) (by decide) rfl (Nat.le_of_ble_eq_true rfl) ?_
  intro p e s m args below meth c hx hb hr hts hown hlk hin hml hsz hK hM hS ls hl
  subst hsz
  have hl : lv_has ls 4 [(0, .ref sc), (1, .int 0)] := hl
  refine lv_iconst (v := (-1)) hx hb dX6_headSum_0 (by decide) ?_
  refine lv_istore_n (lv' := [(2, .int (-1)), (0, .ref sc), (1, .int 0)]) hx hb dX6_headSum_1 rfl hl (by decide) rfl (fun ls hl => ?_)
  refine lv_iconst (v := 0) hx hb dX6_headSum_2 (by decide) ?_
  refine lv_istore_n (lv' := [(3, .int 0), (2, .int (-1)), (0, .ref sc), (1, .int 0)]) hx hb dX6_headSum_3 rfl hl (by decide) rfl (fun ls hl => ?_)
  refine lp_X6_sum hx hb hts hown hml hK 13 0 rfl _ _ _ _ hM hS h_sc ls (lv_sub hl [2, 3, 1, 0] rfl) (fun H locs ls hM hS hl => ?_)
  refine lv_iload_n hx hb dX6_headSum_26 rfl (lv_at hl 2 rfl) ?_
  refine lv_iconst (v := (-1)) hx hb dX6_headSum_27 (by decide) ?_
  refine lv_ixor hx hb dX6_headSum_28 ?_
  exact mm_iret hx hb hr hlk hM hS (⟨rfl, rfl⟩) dX6_headSum_29

theorem in_X6_set_X6 : ∀ w ∈ u_ws RX6 TX6 34, w ∈ wsX6_set := fun w h => List.mem_cons_of_mem _ (List.mem_append_right _ h)
set_option maxHeartbeats 4000000 in
set_option maxRecDepth 100000 in
theorem c_X6_set {l : Launch} {D : va_G} {A : Nat → Prop} {cI cS cB cZ : ClassId} {M : Nat → Option va_E} {sz : Nat} {mo sc : Nat} {f : Nat → Int32} {y0 y1 y2 y3 y4 y5 y6 y7 y8 y9 y10 y11 y12 y13 y14 y15 y16 y17 y18 y19 y20 y21 y22 y23 y24 y25 y27 y28 y29 y30 y31 y32 y33 : Value} {i : Int32} (j : Nat) (hij : i = nI j) (hj : j < 61) {n : Int32} (h_mo : M mo = some (Sum.inr (6, [y0, y1, y2, y3, y4, y5, y6, y7, y8, y9, y10, y11, y12, y13, y14, y15, y16, y17, y18, y19, y20, y21, y22, y23, y24, y25, .ref sc, y27, y28, y29, y30, y31, y32, y33]) : va_E)) (h_sc : M sc = some (Sum.inl (cB, 64, .inl (f)) : va_E)) : Met l yX6_set wsX6_set ({ frames := 0, cells := 0, slots := 0, locals := 0 }) (mm_Pc D A (mm_T cI cS cB cZ) M sz [.ref mo, .int i, .int n]) (mm_Qv D A (fun M1 => M1 sc = some (Sum.inl (cB, 64, .inl (nm_t f j n)) : va_E) ∧ ∀ q, q ≠ sc → M1 q = M q)) 0 0 A := by
  refine mm_met (cc := cX6_set) (maxL := 4) (ret := none) (by decide) rfl (Nat.le_of_ble_eq_true rfl) ?_
  intro p e s m args below meth c hx hb hr hts hown hlk hin hml hsz hK hM hS ls hl
  subst hsz
  have hl : lv_has ls 4 [(0, .ref mo), (1, .int i), (2, .int n)] := hl
  refine lv_iconst (v := 0) hx hb dX6_set_0 (by decide) ?_
  refine lv_istore_n (lv' := [(3, .int 0), (0, .ref mo), (1, .int i), (2, .int n)]) hx hb dX6_set_1 rfl hl (by decide) rfl (fun ls hl => ?_)
  refine lv_iload_n hx hb dX6_set_2 rfl (lv_at hl 0 rfl) ?_
  refine lv_iconst (v := 4) hx hb dX6_set_3 (by decide) ?_
  refine lv_icmp_ge (tgt := 31) hx hb dX6_set_4 (by decide) (fun c_1 => ?_) (fun c_1 => ?_)
  · exact absurd c_1 (by decide)
  refine lv_aload_n hx hb dX6_set_7 rfl (lv_at hl 1 rfl) ?_
  refine mm_get (v := .ref sc) (ci := 6) (C := RX6) (T := TX6) (N := 34) hx hb hts (in_X6_set_X6) hown hK hM h_mo rfl 26 (by decide) (hts (.fieldLink RX6 65 "GroupLogModel" "sector" "[B") (List.mem_of_getElem? (i := 1) rfl)) rfl dX6_set_8 ?_
  refine lv_iload_n hx hb dX6_set_11 rfl (lv_at hl 2 rfl) ?_
  refine lv_iload_n hx hb dX6_set_12 rfl (lv_at hl 0 rfl) ?_
  refine lv_iadd hx hb dX6_set_13 ?_
  refine lv_iload_n hx hb dX6_set_14 rfl (lv_at hl 3 rfl) ?_
  refine lv_bipush (v := 24) hx hb dX6_set_15 (by decide) ?_
  refine lv_bipush (v := 8) hx hb dX6_set_17 (by decide) ?_
  refine lv_iload_n hx hb dX6_set_19 rfl (lv_at hl 0 rfl) ?_
  refine lv_imul hx hb dX6_set_20 ?_
  refine lv_topi (fun z2 ez2 => ?_)
  have ez2 : z2 = 0 := ez2.trans (by decide)
  subst ez2
  refine lv_isub hx hb dX6_set_21 ?_
  refine lv_topi (fun z3 ez3 => ?_)
  have ez3 : z3 = 24 := ez3.trans (by decide)
  subst ez3
  refine lv_ishr hx hb dX6_set_22 ?_
  refine lv_i2b (v := ((n >>> (24 &&& 31)) : Int32).toInt8.toInt32) hx hb dX6_set_23 rfl ?_
  refine mm_bast hx hb hK hM hS 2 h_sc rfl (j := j + 0) (by rw [hij]; exact nI_add j 0) (by omega) (by decide) dX6_set_24 (fun H locs M hM ha ho hS => ?_)
  have h_mo := (ho mo (mm_ne h_mo h_sc mm_oa)).trans h_mo
  have h_sc : _ = some (Sum.inl (cB, 64, .inl (upd (f) (j + 0) ((vp_nar .byte (((n >>> (24 &&& 31)) : Int32).toInt8.toInt32))))) : va_E) := ha
  have h_sc : _ = some (Sum.inl (cB, 64, .inl (upd (f) (j + 0) (bs_t n 24))) : va_E) := h_sc
  have ho0 := ho
  refine lv_iinc (v := 1) (lv' := [(3, .int 1), (0, .ref mo), (1, .int i), (2, .int n)]) hx hb dX6_set_25 hl (k := 0) rfl (by decide) (by decide) rfl (fun ls hl => ?_)
  refine lv_goto (tgt := 2) hx hb dX6_set_28 (by decide) ?_
  refine lv_iload_n hx hb dX6_set_2 rfl (lv_at hl 0 rfl) ?_
  refine lv_iconst (v := 4) hx hb dX6_set_3 (by decide) ?_
  refine lv_icmp_ge (tgt := 31) hx hb dX6_set_4 (by decide) (fun c_4 => ?_) (fun c_4 => ?_)
  · exact absurd c_4 (by decide)
  refine lv_aload_n hx hb dX6_set_7 rfl (lv_at hl 1 rfl) ?_
  refine mm_get (v := .ref sc) (ci := 6) (C := RX6) (T := TX6) (N := 34) hx hb hts (in_X6_set_X6) hown hK hM h_mo rfl 26 (by decide) (hts (.fieldLink RX6 65 "GroupLogModel" "sector" "[B") (List.mem_of_getElem? (i := 1) rfl)) rfl dX6_set_8 ?_
  refine lv_iload_n hx hb dX6_set_11 rfl (lv_at hl 2 rfl) ?_
  refine lv_iload_n hx hb dX6_set_12 rfl (lv_at hl 0 rfl) ?_
  refine lv_iadd hx hb dX6_set_13 ?_
  refine lv_iload_n hx hb dX6_set_14 rfl (lv_at hl 3 rfl) ?_
  refine lv_bipush (v := 24) hx hb dX6_set_15 (by decide) ?_
  refine lv_bipush (v := 8) hx hb dX6_set_17 (by decide) ?_
  refine lv_iload_n hx hb dX6_set_19 rfl (lv_at hl 0 rfl) ?_
  refine lv_imul hx hb dX6_set_20 ?_
  refine lv_topi (fun z5 ez5 => ?_)
  have ez5 : z5 = 8 := ez5.trans (by decide)
  subst ez5
  refine lv_isub hx hb dX6_set_21 ?_
  refine lv_topi (fun z6 ez6 => ?_)
  have ez6 : z6 = 16 := ez6.trans (by decide)
  subst ez6
  refine lv_ishr hx hb dX6_set_22 ?_
  refine lv_i2b (v := ((n >>> (16 &&& 31)) : Int32).toInt8.toInt32) hx hb dX6_set_23 rfl ?_
  refine mm_bast hx hb hK hM hS 2 h_sc rfl (j := j + 1) (by rw [hij]; exact nI_add j 1) (by omega) (by decide) dX6_set_24 (fun H locs M hM ha ho hS => ?_)
  have h_mo := (ho mo (mm_ne h_mo h_sc mm_oa)).trans h_mo
  have h_sc : _ = some (Sum.inl (cB, 64, .inl (upd (upd (f) (j + 0) (bs_t n 24)) (j + 1) ((vp_nar .byte (((n >>> (16 &&& 31)) : Int32).toInt8.toInt32))))) : va_E) := ha
  have h_sc : _ = some (Sum.inl (cB, 64, .inl (upd (upd (f) (j + 0) (bs_t n 24)) (j + 1) (bs_t n 16))) : va_E) := h_sc
  have ho1 := ho
  refine lv_iinc (v := 2) (lv' := [(3, .int 2), (0, .ref mo), (1, .int i), (2, .int n)]) hx hb dX6_set_25 hl (k := 0) rfl (by decide) (by decide) rfl (fun ls hl => ?_)
  refine lv_goto (tgt := 2) hx hb dX6_set_28 (by decide) ?_
  refine lv_iload_n hx hb dX6_set_2 rfl (lv_at hl 0 rfl) ?_
  refine lv_iconst (v := 4) hx hb dX6_set_3 (by decide) ?_
  refine lv_icmp_ge (tgt := 31) hx hb dX6_set_4 (by decide) (fun c_7 => ?_) (fun c_7 => ?_)
  · exact absurd c_7 (by decide)
  refine lv_aload_n hx hb dX6_set_7 rfl (lv_at hl 1 rfl) ?_
  refine mm_get (v := .ref sc) (ci := 6) (C := RX6) (T := TX6) (N := 34) hx hb hts (in_X6_set_X6) hown hK hM h_mo rfl 26 (by decide) (hts (.fieldLink RX6 65 "GroupLogModel" "sector" "[B") (List.mem_of_getElem? (i := 1) rfl)) rfl dX6_set_8 ?_
  refine lv_iload_n hx hb dX6_set_11 rfl (lv_at hl 2 rfl) ?_
  refine lv_iload_n hx hb dX6_set_12 rfl (lv_at hl 0 rfl) ?_
  refine lv_iadd hx hb dX6_set_13 ?_
  refine lv_iload_n hx hb dX6_set_14 rfl (lv_at hl 3 rfl) ?_
  refine lv_bipush (v := 24) hx hb dX6_set_15 (by decide) ?_
  refine lv_bipush (v := 8) hx hb dX6_set_17 (by decide) ?_
  refine lv_iload_n hx hb dX6_set_19 rfl (lv_at hl 0 rfl) ?_
  refine lv_imul hx hb dX6_set_20 ?_
  refine lv_topi (fun z8 ez8 => ?_)
  have ez8 : z8 = 16 := ez8.trans (by decide)
  subst ez8
  refine lv_isub hx hb dX6_set_21 ?_
  refine lv_topi (fun z9 ez9 => ?_)
  have ez9 : z9 = 8 := ez9.trans (by decide)
  subst ez9
  refine lv_ishr hx hb dX6_set_22 ?_
  refine lv_i2b (v := ((n >>> (8 &&& 31)) : Int32).toInt8.toInt32) hx hb dX6_set_23 rfl ?_
  refine mm_bast hx hb hK hM hS 2 h_sc rfl (j := j + 2) (by rw [hij]; exact nI_add j 2) (by omega) (by decide) dX6_set_24 (fun H locs M hM ha ho hS => ?_)
  have h_mo := (ho mo (mm_ne h_mo h_sc mm_oa)).trans h_mo
  have h_sc : _ = some (Sum.inl (cB, 64, .inl (upd (upd (upd (f) (j + 0) (bs_t n 24)) (j + 1) (bs_t n 16)) (j + 2) ((vp_nar .byte (((n >>> (8 &&& 31)) : Int32).toInt8.toInt32))))) : va_E) := ha
  have h_sc : _ = some (Sum.inl (cB, 64, .inl (upd (upd (upd (f) (j + 0) (bs_t n 24)) (j + 1) (bs_t n 16)) (j + 2) (bs_t n 8))) : va_E) := h_sc
  have ho2 := ho
  refine lv_iinc (v := 3) (lv' := [(3, .int 3), (0, .ref mo), (1, .int i), (2, .int n)]) hx hb dX6_set_25 hl (k := 0) rfl (by decide) (by decide) rfl (fun ls hl => ?_)
  refine lv_goto (tgt := 2) hx hb dX6_set_28 (by decide) ?_
  refine lv_iload_n hx hb dX6_set_2 rfl (lv_at hl 0 rfl) ?_
  refine lv_iconst (v := 4) hx hb dX6_set_3 (by decide) ?_
  refine lv_icmp_ge (tgt := 31) hx hb dX6_set_4 (by decide) (fun c_10 => ?_) (fun c_10 => ?_)
  · exact absurd c_10 (by decide)
  refine lv_aload_n hx hb dX6_set_7 rfl (lv_at hl 1 rfl) ?_
  refine mm_get (v := .ref sc) (ci := 6) (C := RX6) (T := TX6) (N := 34) hx hb hts (in_X6_set_X6) hown hK hM h_mo rfl 26 (by decide) (hts (.fieldLink RX6 65 "GroupLogModel" "sector" "[B") (List.mem_of_getElem? (i := 1) rfl)) rfl dX6_set_8 ?_
  refine lv_iload_n hx hb dX6_set_11 rfl (lv_at hl 2 rfl) ?_
  refine lv_iload_n hx hb dX6_set_12 rfl (lv_at hl 0 rfl) ?_
  refine lv_iadd hx hb dX6_set_13 ?_
  refine lv_iload_n hx hb dX6_set_14 rfl (lv_at hl 3 rfl) ?_
  refine lv_bipush (v := 24) hx hb dX6_set_15 (by decide) ?_
  refine lv_bipush (v := 8) hx hb dX6_set_17 (by decide) ?_
  refine lv_iload_n hx hb dX6_set_19 rfl (lv_at hl 0 rfl) ?_
  refine lv_imul hx hb dX6_set_20 ?_
  refine lv_topi (fun z11 ez11 => ?_)
  have ez11 : z11 = 24 := ez11.trans (by decide)
  subst ez11
  refine lv_isub hx hb dX6_set_21 ?_
  refine lv_topi (fun z12 ez12 => ?_)
  have ez12 : z12 = 0 := ez12.trans (by decide)
  subst ez12
  refine lv_ishr hx hb dX6_set_22 ?_
  refine lv_i2b (v := ((n >>> (0 &&& 31)) : Int32).toInt8.toInt32) hx hb dX6_set_23 rfl ?_
  refine mm_bast hx hb hK hM hS 2 h_sc rfl (j := j + 3) (by rw [hij]; exact nI_add j 3) (by omega) (by decide) dX6_set_24 (fun H locs M hM ha ho hS => ?_)
  have h_mo := (ho mo (mm_ne h_mo h_sc mm_oa)).trans h_mo
  have h_sc : _ = some (Sum.inl (cB, 64, .inl (upd (upd (upd (upd (f) (j + 0) (bs_t n 24)) (j + 1) (bs_t n 16)) (j + 2) (bs_t n 8)) (j + 3) ((vp_nar .byte (((n >>> (0 &&& 31)) : Int32).toInt8.toInt32))))) : va_E) := ha
  have h_sc : _ = some (Sum.inl (cB, 64, .inl (upd (upd (upd (upd (f) (j + 0) (bs_t n 24)) (j + 1) (bs_t n 16)) (j + 2) (bs_t n 8)) (j + 3) (bs_t n 0))) : va_E) := h_sc
  have ho3 := ho
  refine lv_iinc (v := 4) (lv' := [(3, .int 4), (0, .ref mo), (1, .int i), (2, .int n)]) hx hb dX6_set_25 hl (k := 0) rfl (by decide) (by decide) rfl (fun ls hl => ?_)
  refine lv_goto (tgt := 2) hx hb dX6_set_28 (by decide) ?_
  refine lv_iload_n hx hb dX6_set_2 rfl (lv_at hl 0 rfl) ?_
  refine lv_iconst (v := 4) hx hb dX6_set_3 (by decide) ?_
  refine lv_icmp_ge (tgt := 31) hx hb dX6_set_4 (by decide) (fun c_13 => ?_) (fun c_13 => ?_)
  rotate_left
  · exact absurd c_13 (by decide)
  exact mm_vret hx hb hr hlk hM hS (⟨h_sc, fun q hq => by rw [ho3 q hq, ho2 q hq, ho1 q hq, ho0 q hq]⟩) dX6_set_31

theorem in_X6_clear_X6 : ∀ w ∈ u_ws RX6 TX6 34, w ∈ wsX6_clear := fun w h => List.mem_cons_of_mem _ (List.mem_append_right _ h)
set_option maxHeartbeats 4000000 in
set_option maxRecDepth 100000 in
theorem lp_X6_clear {p : Program} {l : Launch} {e : Env} {s : State} {m : MethodId} {args : Array Value} {below : List Frame} {meth : Method} {c : Code} {Q : State → Prop} {D : va_G} {A : Nat → Prop} {cI cS cB cZ : ClassId} {cells slots : Nat} {R : Room} (hx : p.tables.exec = Jvm.exec) (hb : c.code = cX6_clear) (hts : ∀ w ∈ wsX6_clear, w.before args s = true) (hown : s.vm.findClass RX6 = some m.cls) (hml : c.maxLocals = 2) (hK : mm_K D (mm_T cI cS cB cZ) s) {m0 sc : Nat} {y0 y1 y2 y3 y4 y5 y6 y7 y8 y9 y10 y11 y12 y13 y14 y15 y16 y17 y18 y19 y20 y21 y22 y23 y24 y25 y27 y28 y29 y30 y31 y32 y33 : Value} :
    ∀ (n i : Nat), i + n = 64 → ∀ (M : Nat → Option va_E) (H : Heap) (locs : List Loc) (f : Nat → Int32), mm_W D A M H → va_S A s.heap H locs → M m0 = some (Sum.inr (6, [y0, y1, y2, y3, y4, y5, y6, y7, y8, y9, y10, y11, y12, y13, y14, y15, y16, y17, y18, y19, y20, y21, y22, y23, y24, y25, .ref sc, y27, y28, y29, y30, y31, y32, y33]) : va_E) → M sc = some (Sum.inl (cB, 64, .inl (f)) : va_E) → (∀ k, k < i → f k = 0) → (∀ (M1 : Nat → Option va_E) (H1 : Heap) (locs1 : List Loc) (f1 : Nat → Int32) (ls1 : Array Slot), mm_W D A M1 H1 → va_S A s.heap H1 locs1 → M1 sc = some (Sum.inl (cB, 64, .inl f1) : va_E) → (∀ k, k < 64 → f1 k = 0) → (∀ q, q ≠ sc → M1 q = M q) → W p l e R s m args below meth c H1 locs1 cells slots Q (F0 m 21 ls1 [])) → ∀ ls : Array Slot, lv_has ls 2 [(0, .ref m0), (1, .int (nI i))] → W p l e R s m args below meth c H locs cells slots Q (F0 m 2 ls []) := by
  intro n
  induction n with
  | zero =>
    intro i hi M H locs f hM hS h_m0 h_sc hf kx ls hl
    obtain rfl : i = 64 := by omega
    refine lv_iload_n hx hb dX6_clear_2 rfl (lv_at hl 1 rfl) ?_
    refine lv_bipush (v := 64) hx hb dX6_clear_3 (by decide) ?_
    refine lv_icmp_ge (tgt := 21) hx hb dX6_clear_5 (by decide) (fun c_1 => ?_) (fun c_1 => ?_)
    rotate_left
    · exact absurd c_1 (fun h => h (by decide))
    exact kx M H locs f ls hM hS h_sc hf (fun q _ => rfl)
  | succ n ih =>
    intro i hi M H locs f hM hS h_m0 h_sc hf kx ls hl
    refine lv_iload_n hx hb dX6_clear_2 rfl (lv_at hl 1 rfl) ?_
    refine lv_bipush (v := 64) hx hb dX6_clear_3 (by decide) ?_
    refine lv_icmp_ge (tgt := 21) hx hb dX6_clear_5 (by decide) (fun c_2 => ?_) (fun c_2 => ?_)
    · exact absurd c_2 (nI_ge (b := 64) (by omega) (by decide))
    refine lv_aload_n hx hb dX6_clear_8 rfl (lv_at hl 0 rfl) ?_
    refine mm_get (v := .ref sc) (ci := 6) (C := RX6) (T := TX6) (N := 34) hx hb hts (in_X6_clear_X6) hown hK hM h_m0 rfl 26 (by decide) (hts (.fieldLink RX6 65 "GroupLogModel" "sector" "[B") (List.mem_of_getElem? (i := 1) rfl)) rfl dX6_clear_9 ?_
    refine lv_iload_n hx hb dX6_clear_12 rfl (lv_at hl 1 rfl) ?_
    refine lv_iconst (v := 0) hx hb dX6_clear_13 (by decide) ?_
    refine mm_bast hx hb hK hM hS 2 h_sc rfl (j := i) (rfl) (by omega) (by decide) dX6_clear_14 (fun H locs M hM ha ho hS => ?_)
    have h_m0 := (ho m0 (mm_ne h_m0 h_sc mm_oa)).trans h_m0
    have h_sc : _ = some (Sum.inl (cB, 64, .inl (upd (f) (i) ((vp_nar .byte (0))))) : va_E) := ha
    refine lv_iinc (v := (nI (i + 1))) (lv' := [(1, .int (nI (i + 1))), (0, .ref m0)]) hx hb dX6_clear_15 hl (k := 1) rfl (by show _ + (1 : Int32) = _; exact nI_1 i) (by decide) rfl (fun ls hl => ?_)
    refine lv_goto (tgt := 2) hx hb dX6_clear_18 (by decide) ?_
    exact ih (i + 1) (by omega) M H locs _ hM hS h_m0 h_sc (fun k hk => if h : k = i then by rw [h]; show (if i = i then _ else _) = _; rw [if_pos rfl]; rfl else by show (if k = i then _ else _) = _; rw [if_neg h]; exact hf k (by omega)) (fun M1 H1 locs1 f1 ls1 g1 g2 g3 g4 g5 => kx M1 H1 locs1 f1 ls1 g1 g2 g3 g4 (fun q hq => by rw [g5 q hq, ho q hq])) ls (lv_sub hl [1, 0] rfl)

set_option maxHeartbeats 4000000 in
set_option maxRecDepth 100000 in
theorem c_X6_clear {l : Launch} {D : va_G} {A : Nat → Prop} {cI cS cB cZ : ClassId} {M : Nat → Option va_E} {sz : Nat} {mo sc : Nat} {f : Nat → Int32} {y0 y1 y2 y3 y4 y5 y6 y7 y8 y9 y10 y11 y12 y13 y14 y15 y16 y17 y18 y19 y20 y21 y22 y23 y24 y25 y27 y28 y29 y30 y31 y32 y33 : Value} (h_mo : M mo = some (Sum.inr (6, [y0, y1, y2, y3, y4, y5, y6, y7, y8, y9, y10, y11, y12, y13, y14, y15, y16, y17, y18, y19, y20, y21, y22, y23, y24, y25, .ref sc, y27, y28, y29, y30, y31, y32, y33]) : va_E)) (h_sc : M sc = some (Sum.inl (cB, 64, .inl (f)) : va_E)) : Met l yX6_clear wsX6_clear ({ frames := 0, cells := 0, slots := 0, locals := 0 }) (mm_Pc D A (mm_T cI cS cB cZ) M sz [.ref mo]) (mm_Qv D A (fun M1 => M1 sc = some (Sum.inl (cB, 64, .inl (fun _ => 0)) : va_E) ∧ ∀ q, q ≠ sc → M1 q = M q)) 0 0 A := by
  refine mm_met (cc := cX6_clear) (maxL := 2) (ret := none) (by decide) rfl (Nat.le_of_ble_eq_true rfl) ?_
  intro p e s m args below meth c hx hb hr hts hown hlk hin hml hsz hK hM hS ls hl
  subst hsz
  have hl : lv_has ls 2 [(0, .ref mo)] := hl
  refine lv_iconst (v := 0) hx hb dX6_clear_0 (by decide) ?_
  refine lv_istore_n (lv' := [(1, .int 0), (0, .ref mo)]) hx hb dX6_clear_1 rfl hl (by decide) rfl (fun ls hl => ?_)
  refine lp_X6_clear (m0 := mo) (sc := sc) hx hb hts hown hml hK 64 0 rfl _ _ _ f hM hS h_mo h_sc (fun k hk => absurd hk (by omega)) (fun M1 H locs f1 ls hM hS h_sc hf ho => ?_) ls (lv_sub hl [1, 0] rfl)
  obtain ⟨M2, hM, g1, g2⟩ := hM.ext h_sc (fun _ => 0) hf
  exact mm_vret hx hb hr hlk hM hS (⟨g1, fun q hq => by rw [g2 q hq, ho q hq]⟩) dX6_clear_21

theorem in_X6_makeHead_X6 : ∀ w ∈ u_ws RX6 TX6 34, w ∈ wsX6_makeHead := fun w h => List.mem_cons_of_mem _ (List.mem_append_right _ h)
set_option maxHeartbeats 4000000 in
set_option maxRecDepth 100000 in
theorem c_X6_makeHead {l : Launch} {D : va_G} {A : Nat → Prop} {cI cS cB cZ : ClassId} {M : Nat → Option va_E} {sz : Nat} {mo sc : Nat} {f : Nat → Int32} {v sr rc pl : Int32} {y0 y1 y2 y3 y4 y5 y6 y7 y8 y9 y10 y11 y12 y13 y14 y15 y20 y21 y22 y23 y24 y25 y27 y28 y29 y30 y31 y32 y33 : Value} (h_mo : M mo = some (Sum.inr (6, [y0, y1, y2, y3, y4, y5, y6, y7, y8, y9, y10, y11, y12, y13, y14, y15, .int v, .int sr, .int rc, .int pl, y20, y21, y22, y23, y24, y25, .ref sc, y27, y28, y29, y30, y31, y32, y33]) : va_E)) (h_sc : M sc = some (Sum.inl (cB, 64, .inl (f)) : va_E)) : Met l yX6_makeHead wsX6_makeHead ({ frames := 2, cells := 0, slots := 0, locals := 46 }) (mm_Pc D A (mm_T cI cS cB cZ) M sz [.ref mo]) (mm_Qv D A (fun M1 => M1 sc = some (Sum.inl (cB, 64, .inl (mh_f v sr rc pl)) : va_E) ∧ ∀ q, q ≠ sc → M1 q = M q)) 0 0 A := by
  refine mm_met (cc := cX6_makeHead) (maxL := 1) (ret := none) (by decide) rfl (Nat.le_of_ble_eq_true rfl) ?_
  intro p e s m args below meth c hx hb hr hts hown hlk hin hml hsz hK hM hS ls hl
  subst hsz
  have hl : lv_has ls 1 [(0, .ref mo)] := hl
  refine lv_aload_n hx hb dX6_makeHead_0 rfl (lv_at hl 0 rfl) ?_
  refine mm_callv (mm_runV (As := []) (rest := []) ⟨hx, hb, hml, hown, hts⟩ (c_X6_clear h_mo h_sc) (cwV 0 hts gX6_makeHead_X6_clear rfl rfl rfl (by decide +kernel) ⟨Nat.le_of_ble_eq_true rfl, Nat.le_of_ble_eq_true rfl⟩) hK hM h_mo rfl rfl hl.1 rfl (Nat.le_of_ble_eq_true rfl) dX6_makeHead_1 ⟨Nat.le_of_ble_eq_true rfl, Nat.le_of_ble_eq_true rfl⟩) hS (fun _ h => h) (fun M H locs hp hM hS hz _ => ?_)
  obtain ⟨ha, ho0⟩ := hp
  have h_mo := (ho0 mo (mm_ne h_mo h_sc mm_oa)).trans h_mo
  have h_sc : _ = some (Sum.inl (cB, 64, .inl (fun _ => 0)) : va_E) := ha
  refine lv_aload_n hx hb dX6_makeHead_4 rfl (lv_at hl 0 rfl) ?_
  refine lv_iconst (v := 0) hx hb dX6_makeHead_5 (by decide) ?_
  refine lv_aload_n hx hb dX6_makeHead_6 rfl (lv_at hl 0 rfl) ?_
  refine mm_get (v := .int v) (ci := 6) (C := RX6) (T := TX6) (N := 34) hx hb hts (in_X6_makeHead_X6) hown hK hM h_mo rfl 16 (by decide) (hts (.fieldLink RX6 38 "GroupLogModel" "version" "I") (List.mem_of_getElem? (i := 1) rfl)) rfl dX6_makeHead_7 ?_
  refine mm_callv (mm_runV (As := [.int 0, .int v]) (rest := []) ⟨hx, hb, hml, hown, hts⟩ (c_X6_set 0 rfl (by decide) h_mo h_sc) (cwV 2 hts gX6_makeHead_X6_set rfl rfl rfl (by decide +kernel) ⟨Nat.le_of_ble_eq_true rfl, Nat.le_of_ble_eq_true rfl⟩) hK hM h_mo rfl rfl hl.1 rfl (Nat.le_of_ble_eq_true rfl) dX6_makeHead_10 ⟨Nat.le_of_ble_eq_true rfl, Nat.le_of_ble_eq_true rfl⟩) hS (fun _ h => h) (fun M H locs hp hM hS hz _ => ?_)
  obtain ⟨ha, ho1⟩ := hp
  have h_mo := (ho1 mo (mm_ne h_mo h_sc mm_oa)).trans h_mo
  have h_sc : _ = some (Sum.inl (cB, 64, .inl (nm_t (fun _ => 0) 0 v)) : va_E) := ha
  refine lv_aload_n hx hb dX6_makeHead_13 rfl (lv_at hl 0 rfl) ?_
  refine lv_iconst (v := 4) hx hb dX6_makeHead_14 (by decide) ?_
  refine lv_aload_n hx hb dX6_makeHead_15 rfl (lv_at hl 0 rfl) ?_
  refine mm_get (v := .int sr) (ci := 6) (C := RX6) (T := TX6) (N := 34) hx hb hts (in_X6_makeHead_X6) hown hK hM h_mo rfl 17 (by decide) (hts (.fieldLink RX6 41 "GroupLogModel" "firstSerial" "I") (List.mem_of_getElem? (i := 2) rfl)) rfl dX6_makeHead_16 ?_
  refine mm_callv (mm_runV (As := [.int 4, .int sr]) (rest := []) ⟨hx, hb, hml, hown, hts⟩ (c_X6_set 4 rfl (by decide) h_mo h_sc) (cwV 2 hts gX6_makeHead_X6_set rfl rfl rfl (by decide +kernel) ⟨Nat.le_of_ble_eq_true rfl, Nat.le_of_ble_eq_true rfl⟩) hK hM h_mo rfl rfl hl.1 rfl (Nat.le_of_ble_eq_true rfl) dX6_makeHead_19 ⟨Nat.le_of_ble_eq_true rfl, Nat.le_of_ble_eq_true rfl⟩) hS (fun _ h => h) (fun M H locs hp hM hS hz _ => ?_)
  obtain ⟨ha, ho2⟩ := hp
  have h_mo := (ho2 mo (mm_ne h_mo h_sc mm_oa)).trans h_mo
  have h_sc : _ = some (Sum.inl (cB, 64, .inl (nm_t (nm_t (fun _ => 0) 0 v) 4 sr)) : va_E) := ha
  refine lv_aload_n hx hb dX6_makeHead_22 rfl (lv_at hl 0 rfl) ?_
  refine lv_bipush (v := 8) hx hb dX6_makeHead_23 (by decide) ?_
  refine lv_aload_n hx hb dX6_makeHead_25 rfl (lv_at hl 0 rfl) ?_
  refine mm_get (v := .int rc) (ci := 6) (C := RX6) (T := TX6) (N := 34) hx hb hts (in_X6_makeHead_X6) hown hK hM h_mo rfl 18 (by decide) (hts (.fieldLink RX6 44 "GroupLogModel" "firstRecord" "I") (List.mem_of_getElem? (i := 3) rfl)) rfl dX6_makeHead_26 ?_
  refine mm_callv (mm_runV (As := [.int 8, .int rc]) (rest := []) ⟨hx, hb, hml, hown, hts⟩ (c_X6_set 8 rfl (by decide) h_mo h_sc) (cwV 2 hts gX6_makeHead_X6_set rfl rfl rfl (by decide +kernel) ⟨Nat.le_of_ble_eq_true rfl, Nat.le_of_ble_eq_true rfl⟩) hK hM h_mo rfl rfl hl.1 rfl (Nat.le_of_ble_eq_true rfl) dX6_makeHead_29 ⟨Nat.le_of_ble_eq_true rfl, Nat.le_of_ble_eq_true rfl⟩) hS (fun _ h => h) (fun M H locs hp hM hS hz _ => ?_)
  obtain ⟨ha, ho3⟩ := hp
  have h_mo := (ho3 mo (mm_ne h_mo h_sc mm_oa)).trans h_mo
  have h_sc : _ = some (Sum.inl (cB, 64, .inl (nm_t (nm_t (nm_t (fun _ => 0) 0 v) 4 sr) 8 rc)) : va_E) := ha
  refine lv_aload_n hx hb dX6_makeHead_32 rfl (lv_at hl 0 rfl) ?_
  refine mm_get (v := .ref sc) (ci := 6) (C := RX6) (T := TX6) (N := 34) hx hb hts (in_X6_makeHead_X6) hown hK hM h_mo rfl 26 (by decide) (hts (.fieldLink RX6 65 "GroupLogModel" "sector" "[B") (List.mem_of_getElem? (i := 4) rfl)) rfl dX6_makeHead_33 ?_
  refine lv_bipush (v := 12) hx hb dX6_makeHead_36 (by decide) ?_
  refine lv_aload_n hx hb dX6_makeHead_38 rfl (lv_at hl 0 rfl) ?_
  refine mm_get (v := .int pl) (ci := 6) (C := RX6) (T := TX6) (N := 34) hx hb hts (in_X6_makeHead_X6) hown hK hM h_mo rfl 19 (by decide) (hts (.fieldLink RX6 47 "GroupLogModel" "place" "I") (List.mem_of_getElem? (i := 5) rfl)) rfl dX6_makeHead_39 ?_
  refine lv_i2b (v := (pl : Int32).toInt8.toInt32) hx hb dX6_makeHead_42 rfl ?_
  refine mm_bast hx hb hK hM hS 2 h_sc rfl (j := 12) (rfl) (by decide) (by decide) dX6_makeHead_43 (fun H locs M hM ha ho hS => ?_)
  have h_mo := (ho mo (mm_ne h_mo h_sc mm_oa)).trans h_mo
  have h_sc : _ = some (Sum.inl (cB, 64, .inl (upd (nm_t (nm_t (nm_t (fun _ => 0) 0 v) 4 sr) 8 rc) (12) ((vp_nar .byte ((pl : Int32).toInt8.toInt32))))) : va_E) := ha
  have ho4 := ho
  have h_sc : _ = some (Sum.inl (cB, 64, .inl (mh_p v sr rc pl)) : va_E) := h_sc
  refine lv_aload_n hx hb dX6_makeHead_44 rfl (lv_at hl 0 rfl) ?_
  refine lv_bipush (v := 13) hx hb dX6_makeHead_45 (by decide) ?_
  refine lv_aload_n hx hb dX6_makeHead_47 rfl (lv_at hl 0 rfl) ?_
  refine mm_get (v := .ref sc) (ci := 6) (C := RX6) (T := TX6) (N := 34) hx hb hts (in_X6_makeHead_X6) hown hK hM h_mo rfl 26 (by decide) (hts (.fieldLink RX6 65 "GroupLogModel" "sector" "[B") (List.mem_of_getElem? (i := 4) rfl)) rfl dX6_makeHead_48 ?_
  refine lv_iconst (v := 0) hx hb dX6_makeHead_51 (by decide) ?_
  refine mm_calli (mm_runS (As := [.ref sc, .int 0]) (rest := [.int 13, .ref mo]) ⟨hx, hb, hml, hown, hts⟩ (c_X6_headSum h_sc) (va_cwS 2 hts gX6_makeHead_X6_headSum rfl rfl rfl (by decide +kernel) ⟨Nat.le_of_ble_eq_true rfl, Nat.le_of_ble_eq_true rfl⟩) hK hM rfl hl.1 rfl (Nat.le_of_ble_eq_true rfl) dX6_makeHead_52 ⟨Nat.le_of_ble_eq_true rfl, Nat.le_of_ble_eq_true rfl⟩) hS (fun _ h => h) (fun r1 M H locs hp hM hS hz _ => ?_)
  obtain ⟨rfl, hme⟩ := hp
  rw [hme] at hM
  refine mm_callv (mm_runV (As := [.int 13, .int (cr_b (fun k => mh_p v sr rc pl k &&& 255) 0 13 (-1) ^^^ (-1))]) (rest := []) ⟨hx, hb, hml, hown, hts⟩ (c_X6_set 13 rfl (by decide) h_mo h_sc) (cwV 2 hts gX6_makeHead_X6_set rfl rfl rfl (by decide +kernel) ⟨Nat.le_of_ble_eq_true rfl, Nat.le_of_ble_eq_true rfl⟩) hK hM h_mo rfl rfl hl.1 rfl (Nat.le_of_ble_eq_true rfl) dX6_makeHead_55 ⟨Nat.le_of_ble_eq_true rfl, Nat.le_of_ble_eq_true rfl⟩) hS (fun _ h => h) (fun M H locs hp hM hS hz _ => ?_)
  obtain ⟨ha, ho5⟩ := hp
  have h_mo := (ho5 mo (mm_ne h_mo h_sc mm_oa)).trans h_mo
  have h_sc : _ = some (Sum.inl (cB, 64, .inl (mh_f v sr rc pl)) : va_E) := ha
  exact mm_vret hx hb hr hlk hM hS (⟨h_sc, fun q hq => by rw [ho5 q hq, ho4 q hq, ho3 q hq, ho2 q hq, ho1 q hq, ho0 q hq]⟩) dX6_makeHead_58

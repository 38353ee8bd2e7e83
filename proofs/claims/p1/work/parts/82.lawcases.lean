/-! THE CLAIM OUT OF ONE WALK OF THE LAW'S BODY. Your part is whole_start (and what it stands on); all else here is the same for every law, but numbers. -/
def R_law : String := "GroupLogLaw"
def lw_P (b : Addr) (xs : List Int32) (args : Array Value) (s : State) : Prop := args = #[.ref b] ∧ s.IntsAt b xs ∧ xs.length ≤ 4 ∧ (Jvm.Cond.and given_1 narrow_1).before args s = true
def lw_Q (_ : Array Value) (s : State) (o : Outcome) (t : State) : Prop := o = .returned (some (.int 1)) ∧ Framed s o t [] 600000 7302250
def lw_Z (below : List Frame) (a : Array Value) (s : State) : State → Prop := fun t => ∃ o, t.status = .running ∧ Ended t below o ∧ lw_Q a s o t
/-- the law's own end, with 1 on the stack, nothing written that was there before, its room as the claim has it -/
theorem lw_ret {p : Program} {l : Launch} {e : Env} {s : State} {m : MethodId} {below : List Frame} {meth : Method} {c : Code} {b : Nat} (hx : p.tables.exec = Jvm.exec) (hb : c.code = code) (hr : meth.sig.returnType = ret) (hlocks : meth.locks = false) {pc : Nat} {H : Heap} {ls : Array Slot} (hdg : decode code pc = .ok (.ireturn, 1)) : W p l e room_1 s m #[Value.ref b] below meth c H [] 600000 7302250 (lw_Z below #[Value.ref b] s) (F0 m pc ls [.int 1]) := by
  intro T hT X
  obtain ⟨fs, hret, hrun, hended, hW, hframe⟩ := X.leave (v := some (.int 1)) (hlocks := hlocks) (fun h => by rw [hr] at h; cases h)
  have hmeth' : T.vm.method? m = some meth := X.method'
  refine ⟨T.setFrames fs, ?_, .returned (some (.int 1)), hrun, hended, rfl, ⟨_, rfl⟩, hW, hframe⟩
  jvm_step X.here [X.here.top, hx, hb, hdg, hmeth', hr, ret, narrow_b1]
  (try refine ⟨rfl, ?_⟩); (try refine ⟨rfl, ?_⟩)
  first | (intro acts; rw [hret _ acts rfl rfl rfl]) | rw [hret _ _ rfl rfl rfl]
  exact Steps.refl _
/-- what holds at the law's entry: the machine, the code, the tables' words (any of lw_tbl by 'hts w (by decide +kernel)'), the script of L ints xs at the cell b, what the Statement gives of the start (any of its parts by flat_of_before) -/
def lw_At (p : Program) (s : State) (m : MethodId) (meth : Method) (c : Code) (b L : Nat) (xs : Nat → Int32) : Prop :=
  p.tables.exec = Jvm.exec ∧ c.code = code ∧ meth.sig.returnType = ret ∧ c.maxLocals = 4 ∧ s.vm.findClass R_law = some m.cls ∧ (∀ w ∈ lw_tbl, w.before #[Value.ref b] s = true) ∧ va_X b L xs s s.heap ∧ b < s.heap.size ∧ meth.locks = false ∧ (Jvm.Cond.and given_1 narrow_1).before #[Value.ref b] s = true

set_option maxHeartbeats 4000000 in
set_option maxRecDepth 100000 in
theorem lw_end {p : Program} {l : Launch} {e : Env} {s : State} {m : MethodId} {below : List Frame} {meth : Method} {c : Code} {b : Nat} {xs : Nat → Int32} (C0 : lw_At p s m meth c b 4 xs) {H : Heap} {locs : List Loc} (hS : va_S (fun q : Nat => s.heap.size ≤ q) s.heap H locs) {ls : Array Slot} (hl : lv_has ls 4 [(0, .ref b), (3, .int 0)]) : W p l e room_1 s m #[Value.ref b] below meth c H locs 151 12793 (lw_Z below #[Value.ref b] s) (F0 m 497 ls []) := by
  obtain ⟨hx, hb, hr, hml, hown, hts, hX, hbl, hlocks, hgv⟩ := C0
  have hts : ∀ w ∈ wsL_law, w.before #[Value.ref b] s = true := fun w h => hts w (wsL_law_in w h)
  have hown : s.vm.findClass RL = some m.cls := hown
  have hb : c.code = cL_law := hb
  have hbA : ¬ (fun q : Nat => s.heap.size ≤ q) b := Nat.not_le.mpr hbl
  refine lv_iinc (v := 4) (lv' := [(3, .int 4), (0, .ref b)]) hx hb dL_law_497 hl (k := 1) rfl (by decide) (by decide) rfl (fun ls hl => ?_)
  refine lv_goto (tgt := 18) hx hb dL_law_500 (by decide) ?_
  refine lv_iload_n hx hb dL_law_18 rfl (lv_at hl 0 rfl) ?_
  refine lv_aload_n hx hb dL_law_19 rfl (lv_at hl 1 rfl) ?_
  refine va_slen hx hb hX hbl hbA hS dL_law_20 ?_
  refine lv_iconst (v := 4) hx hb dL_law_21 (by decide) ?_
  refine lv_isub hx hb dL_law_22 ?_
  refine lv_topi (fun z1 ez1 => ?_)
  have ez1 : 0 = z1 := (ez1.trans (by decide)).symm
  subst ez1
  refine lv_icmp_gt (tgt := 503) hx hb dL_law_23 (by decide) (fun c_2 => ?_) (fun c_2 => ?_)
  rotate_left
  · exact absurd c_2 (by decide)
  refine lv_iconst (v := 1) hx hb dL_law_503 (by decide) ?_
  refine va_forget (fun q hq => hS.2.2 q hq) ?_
  refine W.widen (k := 600000) (n := 7302250) (by omega) (by omega) ?_
  exact lw_ret hx hb hr hlocks dL_law_504

set_option maxHeartbeats 4000000 in
set_option maxRecDepth 100000 in
theorem lw_c0 {p : Program} {l : Launch} {e : Env} {s : State} {m : MethodId} {below : List Frame} {meth : Method} {c : Code} {b : Nat} {xs : Nat → Int32} {D : va_G} {cI cS cB cZ : ClassId} (C0 : lw_At p s m meth c b 4 xs) (hK : mm_K D (mm_T cI cS cB cZ) s) {H : Heap} {locs : List Loc} (hS : va_S (fun q : Nat => s.heap.size ≤ q) s.heap H locs) {B1 : Nat} (hB0 : s.heap.size ≤ B1) (hB1 : B1 ≤ H.size) {Mx Mm : Nat → Option va_E} (hMx : mm_W D (fun q => s.heap.size ≤ q ∧ q < B1) Mx H) (hMm : mm_W D (fun q => B1 ≤ q ∧ q < H.size) Mm H) {x st qu lg rd dr tp sa qb lb db : Nat} {fa : Nat → Option Nat} {g h : Nat → Nat} {mo dk it tq qq qg r1 r2 r3 sc hd : Nat} (h_x : Mx x = some (Sum.inr (5, [.ref st, .ref qu, .ref lg, .ref rd, .ref dr, .ref tp, .int 0, .int 10, .int 0, .int 1]) : va_E)) (h_st : Mx st = some (Sum.inr (4, [.ref sa, .int 0, .int (-1), .int 0]) : va_E)) (h_sa : Mx sa = some (Sum.inl (cS, 64, .inr (.inr (.inr (.inr (fa))))) : va_E)) (h_qu : Mx qu = some (Sum.inr (1, [.ref qb, .int 0, .int 0, .int 0]) : va_E)) (h_lg : Mx lg = some (Sum.inr (0, [.ref lb, .int 1, .int 1, .int 0, .int 2, .int 0, .int 2, .int 1]) : va_E)) (h_dr : Mx dr = some (Sum.inr (3, [.ref db, .int 0]) : va_E)) (h_db : Mx db = some (Sum.inl (cI, 64, .inl (fun _ => 0)) : va_E)) (h_tp : Mx tp = some (Sum.inl (cI, 200, .inl (fun _ => 0)) : va_E)) (hI : st_inv cI Mx fa g h gl_F 64) (hne : h 1 ≠ db) (h_mo : Mm mo = some (Sum.inr (6, [.ref dk, .ref it, .int 1, .int (-1), .int 0, .int 10, .int 0, .int 0, .ref tq, .int 0, .ref qq, .int 0, .ref qg, .int 0, .int 0, .int 0, .int 1, .int 1, .int 1, .int 2, .int 2, .int 1, .int 0, .ref r1, .ref r2, .ref r3, .ref sc, .int 0, .ref hd, .int 0, .int 0, .int 0, .int 0, .int 0]) : va_E)) (h_dk : Mm dk = some (Sum.inl (cB, 4096, .inl (md_F)) : va_E)) (h_it : Mm it = some (Sum.inl (cZ, 64, .inl (fun _ => 0)) : va_E)) (h_tq : Mm tq = some (Sum.inl (cB, 200, .inl (fun _ => 0)) : va_E)) (h_sc : Mm sc = some (Sum.inl (cB, 64, .inl (mh_f 1 1 1 2)) : va_E)) (his : it ≠ sc) {ls : Array Slot} (hl : lv_has ls 4 [(0, .ref b), (1, .ref x), (2, .ref mo), (3, .int 0)]) : W p l e room_1 s m #[Value.ref b] below meth c H locs 151 12793 (lw_Z below #[Value.ref b] s) (F0 m 116 ls []) := by
  obtain ⟨hx, hb, hr, hml, hown, hts, hX, hbl, hlocks, hgv⟩ := id C0
  have hts : ∀ w ∈ wsL_law, w.before #[Value.ref b] s = true := fun w h => hts w (wsL_law_in w h)
  have hown : s.vm.findClass RL = some m.cls := hown
  have hb : c.code = cL_law := hb
  have hbA : ¬ (fun q : Nat => s.heap.size ≤ q) b := Nat.not_le.mpr hbl
  obtain ⟨k1, ek1⟩ : ∃ z, z = xs (nI 1).toNatClampNeg := ⟨_, rfl⟩
  obtain ⟨k2, ek2⟩ : ∃ z, z = xs (nI 2).toNatClampNeg := ⟨_, rfl⟩
  obtain ⟨k3, ek3⟩ : ∃ z, z = xs (nI 3).toNatClampNeg := ⟨_, rfl⟩
  refine lv_aload_n hx hb dL_law_116 rfl (lv_at hl 1 rfl) ?_
  refine lv_aload_n hx hb dL_law_117 rfl (lv_at hl 0 rfl) ?_
  refine lv_iload_n hx hb dL_law_118 rfl (lv_at hl 3 rfl) ?_
  refine lv_iconst (v := 1) hx hb dL_law_119 (by decide) ?_
  refine lv_iadd hx hb dL_law_120 ?_
  refine lv_topi (fun z1 ez1 => ?_)
  have ez1 : 1 = z1 := (ez1.trans (by decide)).symm
  subst ez1
  refine va_sld hx hb hX hbl hbA hS (vp_in_nI (n := 1) (by omega) (by decide)) dL_law_121 ?_
  refine lv_topi (fun z2 ez2 => ?_)
  have ez2 : k1 = z2 := (ez2.trans (ek1.symm)).symm
  subst ez2
  have hM : mm_W D (fun q => (s.heap.size ≤ q ∧ q < B1) ∨ H.size ≤ q) Mx H := hMx.base (fun q h _ => Or.inl h)
  have hAA : ∀ q, (fun q => (s.heap.size ≤ q ∧ q < B1) ∨ H.size ≤ q) q → s.heap.size ≤ q := fun q h => h.elim (fun h => h.1) (fun h => Nat.le_trans hS.1 h)
  obtain ⟨B2, eB2⟩ : ∃ z, z = H.size := ⟨_, rfl⟩
  rw [← eB2] at hMm hB1
  refine mm_calli (mm_runV (As := [.int k1]) (rest := []) ⟨hx, hb, hml, hown, hts⟩ (c_X5_delay h_x) (cwV 1 hts gL_law_X5_delay rfl rfl rfl (by decide +kernel) ⟨Nat.le_of_ble_eq_true rfl, Nat.le_of_ble_eq_true rfl⟩) hK hM h_x rfl rfl hl.1 rfl (Nat.le_of_ble_eq_true rfl) dL_law_122 ⟨Nat.le_of_ble_eq_true rfl, Nat.le_of_ble_eq_true rfl⟩) hS hAA (fun r3 M H locs hp hM hS hz hfr => ?_)
  subst hp
  have hMm := hMm.kept (fun q h hlt => hfr q hlt (fun h2 => h2.elim (fun h3 => by omega) (fun h3 => by omega)))
  refine lv_aload_n hx hb dL_law_125 rfl (lv_at hl 2 rfl) ?_
  refine lv_aload_n hx hb dL_law_126 rfl (lv_at hl 0 rfl) ?_
  refine lv_iload_n hx hb dL_law_127 rfl (lv_at hl 3 rfl) ?_
  refine lv_iconst (v := 1) hx hb dL_law_128 (by decide) ?_
  refine lv_iadd hx hb dL_law_129 ?_
  refine lv_topi (fun z4 ez4 => ?_)
  have ez4 : 1 = z4 := (ez4.trans (by decide)).symm
  subst ez4
  refine va_sld hx hb hX hbl hbA hS (vp_in_nI (n := 1) (by omega) (by decide)) dL_law_130 ?_
  refine lv_topi (fun z5 ez5 => ?_)
  have ez5 : k1 = z5 := (ez5.trans (ek1.symm)).symm
  subst ez5
  have hM : mm_W D (fun q => (B1 ≤ q ∧ q < B2) ∨ H.size ≤ q) Mm H := hMm.base (fun q h _ => Or.inl h)
  have hAA : ∀ q, (fun q => (B1 ≤ q ∧ q < B2) ∨ H.size ≤ q) q → s.heap.size ≤ q := fun q h => h.elim (fun h => by omega) (fun h => Nat.le_trans hS.1 h)
  refine mm_calli (mm_runV (As := [.int k1]) (rest := [.int (tk_f k1)]) ⟨hx, hb, hml, hown, hts⟩ (c_X6_delay h_mo) (cwV 1 hts gL_law_X6_delay rfl rfl rfl (by decide +kernel) ⟨Nat.le_of_ble_eq_true rfl, Nat.le_of_ble_eq_true rfl⟩) hK hM h_mo rfl rfl hl.1 rfl (Nat.le_of_ble_eq_true rfl) dL_law_131 ⟨Nat.le_of_ble_eq_true rfl, Nat.le_of_ble_eq_true rfl⟩) hS hAA (fun r6 M H locs hp hM hS hz hfr => ?_)
  subst hp
  refine lv_icmp_eq (tgt := 497) hx hb dL_law_134 (by decide) (fun c_7 => ?_) (fun c_7 => ?_)
  rotate_left
  · exact absurd c_7 (fun h => h rfl)
  exact lw_end C0 hS (lv_sub hl [0, 3] rfl)

set_option maxHeartbeats 4000000 in
set_option maxRecDepth 100000 in
theorem lw_c1 {p : Program} {l : Launch} {e : Env} {s : State} {m : MethodId} {below : List Frame} {meth : Method} {c : Code} {b : Nat} {xs : Nat → Int32} {D : va_G} {cI cS cB cZ : ClassId} (C0 : lw_At p s m meth c b 4 xs) (hK : mm_K D (mm_T cI cS cB cZ) s) {H : Heap} {locs : List Loc} (hS : va_S (fun q : Nat => s.heap.size ≤ q) s.heap H locs) {B1 : Nat} (hB0 : s.heap.size ≤ B1) (hB1 : B1 ≤ H.size) {Mx Mm : Nat → Option va_E} (hMx : mm_W D (fun q => s.heap.size ≤ q ∧ q < B1) Mx H) (hMm : mm_W D (fun q => B1 ≤ q ∧ q < H.size) Mm H) {x st qu lg rd dr tp sa qb lb db : Nat} {fa : Nat → Option Nat} {g h : Nat → Nat} {mo dk it tq qq qg r1 r2 r3 sc hd : Nat} (h_x : Mx x = some (Sum.inr (5, [.ref st, .ref qu, .ref lg, .ref rd, .ref dr, .ref tp, .int 0, .int 10, .int 0, .int 1]) : va_E)) (h_st : Mx st = some (Sum.inr (4, [.ref sa, .int 0, .int (-1), .int 0]) : va_E)) (h_sa : Mx sa = some (Sum.inl (cS, 64, .inr (.inr (.inr (.inr (fa))))) : va_E)) (h_qu : Mx qu = some (Sum.inr (1, [.ref qb, .int 0, .int 0, .int 0]) : va_E)) (h_lg : Mx lg = some (Sum.inr (0, [.ref lb, .int 1, .int 1, .int 0, .int 2, .int 0, .int 2, .int 1]) : va_E)) (h_dr : Mx dr = some (Sum.inr (3, [.ref db, .int 0]) : va_E)) (h_db : Mx db = some (Sum.inl (cI, 64, .inl (fun _ => 0)) : va_E)) (h_tp : Mx tp = some (Sum.inl (cI, 200, .inl (fun _ => 0)) : va_E)) (hI : st_inv cI Mx fa g h gl_F 64) (hne : h 1 ≠ db) (h_mo : Mm mo = some (Sum.inr (6, [.ref dk, .ref it, .int 1, .int (-1), .int 0, .int 10, .int 0, .int 0, .ref tq, .int 0, .ref qq, .int 0, .ref qg, .int 0, .int 0, .int 0, .int 1, .int 1, .int 1, .int 2, .int 2, .int 1, .int 0, .ref r1, .ref r2, .ref r3, .ref sc, .int 0, .ref hd, .int 0, .int 0, .int 0, .int 0, .int 0]) : va_E)) (h_dk : Mm dk = some (Sum.inl (cB, 4096, .inl (md_F)) : va_E)) (h_it : Mm it = some (Sum.inl (cZ, 64, .inl (fun _ => 0)) : va_E)) (h_tq : Mm tq = some (Sum.inl (cB, 200, .inl (fun _ => 0)) : va_E)) (h_sc : Mm sc = some (Sum.inl (cB, 64, .inl (mh_f 1 1 1 2)) : va_E)) (his : it ≠ sc) {ls : Array Slot} (hl : lv_has ls 4 [(0, .ref b), (1, .ref x), (2, .ref mo), (3, .int 0)]) : W p l e room_1 s m #[Value.ref b] below meth c H locs 151 12793 (lw_Z below #[Value.ref b] s) (F0 m 139 ls []) := by
  obtain ⟨hx, hb, hr, hml, hown, hts, hX, hbl, hlocks, hgv⟩ := id C0
  have hts : ∀ w ∈ wsL_law, w.before #[Value.ref b] s = true := fun w h => hts w (wsL_law_in w h)
  have hown : s.vm.findClass RL = some m.cls := hown
  have hb : c.code = cL_law := hb
  have hbA : ¬ (fun q : Nat => s.heap.size ≤ q) b := Nat.not_le.mpr hbl
  obtain ⟨k1, ek1⟩ : ∃ z, z = xs (nI 1).toNatClampNeg := ⟨_, rfl⟩
  obtain ⟨k2, ek2⟩ : ∃ z, z = xs (nI 2).toNatClampNeg := ⟨_, rfl⟩
  obtain ⟨k3, ek3⟩ : ∃ z, z = xs (nI 3).toNatClampNeg := ⟨_, rfl⟩
  refine lv_aload_n hx hb dL_law_139 rfl (lv_at hl 1 rfl) ?_
  refine lv_aload_n hx hb dL_law_140 rfl (lv_at hl 0 rfl) ?_
  refine lv_iload_n hx hb dL_law_141 rfl (lv_at hl 3 rfl) ?_
  refine lv_iconst (v := 1) hx hb dL_law_142 (by decide) ?_
  refine lv_iadd hx hb dL_law_143 ?_
  refine lv_topi (fun z1 ez1 => ?_)
  have ez1 : 1 = z1 := (ez1.trans (by decide)).symm
  subst ez1
  refine va_sld hx hb hX hbl hbA hS (vp_in_nI (n := 1) (by omega) (by decide)) dL_law_144 ?_
  refine lv_topi (fun z2 ez2 => ?_)
  have ez2 : k1 = z2 := (ez2.trans (ek1.symm)).symm
  subst ez2
  have hM : mm_W D (fun q => (s.heap.size ≤ q ∧ q < B1) ∨ H.size ≤ q) Mx H := hMx.base (fun q h _ => Or.inl h)
  have hAA : ∀ q, (fun q => (s.heap.size ≤ q ∧ q < B1) ∨ H.size ≤ q) q → s.heap.size ≤ q := fun q h => h.elim (fun h => h.1) (fun h => Nat.le_trans hS.1 h)
  obtain ⟨B2, eB2⟩ : ∃ z, z = H.size := ⟨_, rfl⟩
  rw [← eB2] at hMm hB1
  refine mm_calli (mm_runV (As := [.int k1]) (rest := []) ⟨hx, hb, hml, hown, hts⟩ (c_X5_feed h_x h_tp) (cwV 1 hts gL_law_X5_feed rfl rfl rfl (by decide +kernel) ⟨Nat.le_of_ble_eq_true rfl, Nat.le_of_ble_eq_true rfl⟩) hK hM h_x rfl rfl hl.1 rfl (Nat.le_of_ble_eq_true rfl) dL_law_145 ⟨Nat.le_of_ble_eq_true rfl, Nat.le_of_ble_eq_true rfl⟩) hS hAA (fun r3 M H locs hp hM hS hz hfr => ?_)
  subst hp
  have hMm := hMm.kept (fun q h hlt => hfr q hlt (fun h2 => h2.elim (fun h3 => by omega) (fun h3 => by omega)))
  refine lv_aload_n hx hb dL_law_148 rfl (lv_at hl 2 rfl) ?_
  refine lv_aload_n hx hb dL_law_149 rfl (lv_at hl 0 rfl) ?_
  refine lv_iload_n hx hb dL_law_150 rfl (lv_at hl 3 rfl) ?_
  refine lv_iconst (v := 1) hx hb dL_law_151 (by decide) ?_
  refine lv_iadd hx hb dL_law_152 ?_
  refine lv_topi (fun z4 ez4 => ?_)
  have ez4 : 1 = z4 := (ez4.trans (by decide)).symm
  subst ez4
  refine va_sld hx hb hX hbl hbA hS (vp_in_nI (n := 1) (by omega) (by decide)) dL_law_153 ?_
  refine lv_topi (fun z5 ez5 => ?_)
  have ez5 : k1 = z5 := (ez5.trans (ek1.symm)).symm
  subst ez5
  have hM : mm_W D (fun q => (B1 ≤ q ∧ q < B2) ∨ H.size ≤ q) Mm H := hMm.base (fun q h _ => Or.inl h)
  have hAA : ∀ q, (fun q => (B1 ≤ q ∧ q < B2) ∨ H.size ≤ q) q → s.heap.size ≤ q := fun q h => h.elim (fun h => by omega) (fun h => Nat.le_trans hS.1 h)
  refine mm_calli (mm_runV (As := [.int k1]) (rest := [.int (fd_f k1)]) ⟨hx, hb, hml, hown, hts⟩ (c_X6_feed h_mo h_tq) (cwV 1 hts gL_law_X6_feed rfl rfl rfl (by decide +kernel) ⟨Nat.le_of_ble_eq_true rfl, Nat.le_of_ble_eq_true rfl⟩) hK hM h_mo rfl rfl hl.1 rfl (Nat.le_of_ble_eq_true rfl) dL_law_154 ⟨Nat.le_of_ble_eq_true rfl, Nat.le_of_ble_eq_true rfl⟩) hS hAA (fun r6 M H locs hp hM hS hz hfr => ?_)
  subst hp
  refine lv_icmp_eq (tgt := 497) hx hb dL_law_157 (by decide) (fun c_7 => ?_) (fun c_7 => ?_)
  rotate_left
  · exact absurd c_7 (fun h => h rfl)
  exact lw_end C0 hS (lv_sub hl [0, 3] rfl)

set_option maxHeartbeats 4000000 in
set_option maxRecDepth 100000 in
theorem lw_c2 {p : Program} {l : Launch} {e : Env} {s : State} {m : MethodId} {below : List Frame} {meth : Method} {c : Code} {b : Nat} {xs : Nat → Int32} {D : va_G} {cI cS cB cZ : ClassId} (C0 : lw_At p s m meth c b 4 xs) (hK : mm_K D (mm_T cI cS cB cZ) s) {H : Heap} {locs : List Loc} (hS : va_S (fun q : Nat => s.heap.size ≤ q) s.heap H locs) {B1 : Nat} (hB0 : s.heap.size ≤ B1) (hB1 : B1 ≤ H.size) {Mx Mm : Nat → Option va_E} (hMx : mm_W D (fun q => s.heap.size ≤ q ∧ q < B1) Mx H) (hMm : mm_W D (fun q => B1 ≤ q ∧ q < H.size) Mm H) {x st qu lg rd dr tp sa qb lb db : Nat} {fa : Nat → Option Nat} {g h : Nat → Nat} {mo dk it tq qq qg r1 r2 r3 sc hd : Nat} (h_x : Mx x = some (Sum.inr (5, [.ref st, .ref qu, .ref lg, .ref rd, .ref dr, .ref tp, .int 0, .int 10, .int 0, .int 1]) : va_E)) (h_st : Mx st = some (Sum.inr (4, [.ref sa, .int 0, .int (-1), .int 0]) : va_E)) (h_sa : Mx sa = some (Sum.inl (cS, 64, .inr (.inr (.inr (.inr (fa))))) : va_E)) (h_qu : Mx qu = some (Sum.inr (1, [.ref qb, .int 0, .int 0, .int 0]) : va_E)) (h_lg : Mx lg = some (Sum.inr (0, [.ref lb, .int 1, .int 1, .int 0, .int 2, .int 0, .int 2, .int 1]) : va_E)) (h_dr : Mx dr = some (Sum.inr (3, [.ref db, .int 0]) : va_E)) (h_db : Mx db = some (Sum.inl (cI, 64, .inl (fun _ => 0)) : va_E)) (h_tp : Mx tp = some (Sum.inl (cI, 200, .inl (fun _ => 0)) : va_E)) (hI : st_inv cI Mx fa g h gl_F 64) (hne : h 1 ≠ db) (h_mo : Mm mo = some (Sum.inr (6, [.ref dk, .ref it, .int 1, .int (-1), .int 0, .int 10, .int 0, .int 0, .ref tq, .int 0, .ref qq, .int 0, .ref qg, .int 0, .int 0, .int 0, .int 1, .int 1, .int 1, .int 2, .int 2, .int 1, .int 0, .ref r1, .ref r2, .ref r3, .ref sc, .int 0, .ref hd, .int 0, .int 0, .int 0, .int 0, .int 0]) : va_E)) (h_dk : Mm dk = some (Sum.inl (cB, 4096, .inl (md_F)) : va_E)) (h_it : Mm it = some (Sum.inl (cZ, 64, .inl (fun _ => 0)) : va_E)) (h_tq : Mm tq = some (Sum.inl (cB, 200, .inl (fun _ => 0)) : va_E)) (h_sc : Mm sc = some (Sum.inl (cB, 64, .inl (mh_f 1 1 1 2)) : va_E)) (his : it ≠ sc) {ls : Array Slot} (hl : lv_has ls 4 [(0, .ref b), (1, .ref x), (2, .ref mo), (3, .int 0)]) : W p l e room_1 s m #[Value.ref b] below meth c H locs 151 12793 (lw_Z below #[Value.ref b] s) (F0 m 162 ls []) := by
  obtain ⟨hx, hb, hr, hml, hown, hts, hX, hbl, hlocks, hgv⟩ := id C0
  have hts : ∀ w ∈ wsL_law, w.before #[Value.ref b] s = true := fun w h => hts w (wsL_law_in w h)
  have hown : s.vm.findClass RL = some m.cls := hown
  have hb : c.code = cL_law := hb
  have hbA : ¬ (fun q : Nat => s.heap.size ≤ q) b := Nat.not_le.mpr hbl
  obtain ⟨k1, ek1⟩ : ∃ z, z = xs (nI 1).toNatClampNeg := ⟨_, rfl⟩
  obtain ⟨k2, ek2⟩ : ∃ z, z = xs (nI 2).toNatClampNeg := ⟨_, rfl⟩
  obtain ⟨k3, ek3⟩ : ∃ z, z = xs (nI 3).toNatClampNeg := ⟨_, rfl⟩
  refine lv_aload_n hx hb dL_law_162 rfl (lv_at hl 1 rfl) ?_
  have hM : mm_W D (fun q => (s.heap.size ≤ q ∧ q < B1) ∨ H.size ≤ q) Mx H := hMx.base (fun q h _ => Or.inl h)
  have hAA : ∀ q, (fun q => (s.heap.size ≤ q ∧ q < B1) ∨ H.size ≤ q) q → s.heap.size ≤ q := fun q h => h.elim (fun h => h.1) (fun h => Nat.le_trans hS.1 h)
  obtain ⟨B2, eB2⟩ : ∃ z, z = H.size := ⟨_, rfl⟩
  rw [← eB2] at hMm hB1
  refine mm_calli (mm_runV (As := []) (rest := []) ⟨hx, hb, hml, hown, hts⟩ (c_X5_append h_x) (cwV 0 hts gL_law_X5_append rfl rfl rfl (by decide +kernel) ⟨Nat.le_of_ble_eq_true rfl, Nat.le_of_ble_eq_true rfl⟩) hK hM h_x rfl rfl hl.1 rfl (Nat.le_of_ble_eq_true rfl) dL_law_163 ⟨Nat.le_of_ble_eq_true rfl, Nat.le_of_ble_eq_true rfl⟩) hS hAA (fun r1 M H locs hp hM hS hz hfr => ?_)
  subst hp
  have hMm := hMm.kept (fun q h hlt => hfr q hlt (fun h2 => h2.elim (fun h3 => by omega) (fun h3 => by omega)))
  refine lv_aload_n hx hb dL_law_166 rfl (lv_at hl 2 rfl) ?_
  have hM : mm_W D (fun q => (B1 ≤ q ∧ q < B2) ∨ H.size ≤ q) Mm H := hMm.base (fun q h _ => Or.inl h)
  have hAA : ∀ q, (fun q => (B1 ≤ q ∧ q < B2) ∨ H.size ≤ q) q → s.heap.size ≤ q := fun q h => h.elim (fun h => by omega) (fun h => Nat.le_trans hS.1 h)
  refine mm_calli (mm_runV (As := []) (rest := [.int (-1)]) ⟨hx, hb, hml, hown, hts⟩ (c_X6_append h_mo) (cwV 0 hts gL_law_X6_append rfl rfl rfl (by decide +kernel) ⟨Nat.le_of_ble_eq_true rfl, Nat.le_of_ble_eq_true rfl⟩) hK hM h_mo rfl rfl hl.1 rfl (Nat.le_of_ble_eq_true rfl) dL_law_167 ⟨Nat.le_of_ble_eq_true rfl, Nat.le_of_ble_eq_true rfl⟩) hS hAA (fun r2 M H locs hp hM hS hz hfr => ?_)
  subst hp
  refine lv_icmp_eq (tgt := 497) hx hb dL_law_170 (by decide) (fun c_3 => ?_) (fun c_3 => ?_)
  rotate_left
  · exact absurd c_3 (fun h => h rfl)
  exact lw_end C0 hS (lv_sub hl [0, 3] rfl)

set_option maxHeartbeats 4000000 in
set_option maxRecDepth 100000 in
theorem lw_c3 {p : Program} {l : Launch} {e : Env} {s : State} {m : MethodId} {below : List Frame} {meth : Method} {c : Code} {b : Nat} {xs : Nat → Int32} {D : va_G} {cI cS cB cZ : ClassId} (C0 : lw_At p s m meth c b 4 xs) (hK : mm_K D (mm_T cI cS cB cZ) s) {H : Heap} {locs : List Loc} (hS : va_S (fun q : Nat => s.heap.size ≤ q) s.heap H locs) {B1 : Nat} (hB0 : s.heap.size ≤ B1) (hB1 : B1 ≤ H.size) {Mx Mm : Nat → Option va_E} (hMx : mm_W D (fun q => s.heap.size ≤ q ∧ q < B1) Mx H) (hMm : mm_W D (fun q => B1 ≤ q ∧ q < H.size) Mm H) {x st qu lg rd dr tp sa qb lb db : Nat} {fa : Nat → Option Nat} {g h : Nat → Nat} {mo dk it tq qq qg r1 r2 r3 sc hd : Nat} (h_x : Mx x = some (Sum.inr (5, [.ref st, .ref qu, .ref lg, .ref rd, .ref dr, .ref tp, .int 0, .int 10, .int 0, .int 1]) : va_E)) (h_st : Mx st = some (Sum.inr (4, [.ref sa, .int 0, .int (-1), .int 0]) : va_E)) (h_sa : Mx sa = some (Sum.inl (cS, 64, .inr (.inr (.inr (.inr (fa))))) : va_E)) (h_qu : Mx qu = some (Sum.inr (1, [.ref qb, .int 0, .int 0, .int 0]) : va_E)) (h_lg : Mx lg = some (Sum.inr (0, [.ref lb, .int 1, .int 1, .int 0, .int 2, .int 0, .int 2, .int 1]) : va_E)) (h_dr : Mx dr = some (Sum.inr (3, [.ref db, .int 0]) : va_E)) (h_db : Mx db = some (Sum.inl (cI, 64, .inl (fun _ => 0)) : va_E)) (h_tp : Mx tp = some (Sum.inl (cI, 200, .inl (fun _ => 0)) : va_E)) (hI : st_inv cI Mx fa g h gl_F 64) (hne : h 1 ≠ db) (h_mo : Mm mo = some (Sum.inr (6, [.ref dk, .ref it, .int 1, .int (-1), .int 0, .int 10, .int 0, .int 0, .ref tq, .int 0, .ref qq, .int 0, .ref qg, .int 0, .int 0, .int 0, .int 1, .int 1, .int 1, .int 2, .int 2, .int 1, .int 0, .ref r1, .ref r2, .ref r3, .ref sc, .int 0, .ref hd, .int 0, .int 0, .int 0, .int 0, .int 0]) : va_E)) (h_dk : Mm dk = some (Sum.inl (cB, 4096, .inl (md_F)) : va_E)) (h_it : Mm it = some (Sum.inl (cZ, 64, .inl (fun _ => 0)) : va_E)) (h_tq : Mm tq = some (Sum.inl (cB, 200, .inl (fun _ => 0)) : va_E)) (h_sc : Mm sc = some (Sum.inl (cB, 64, .inl (mh_f 1 1 1 2)) : va_E)) (his : it ≠ sc) {ls : Array Slot} (hl : lv_has ls 4 [(0, .ref b), (1, .ref x), (2, .ref mo), (3, .int 0)]) : W p l e room_1 s m #[Value.ref b] below meth c H locs 151 12793 (lw_Z below #[Value.ref b] s) (F0 m 175 ls []) := by
  obtain ⟨hx, hb, hr, hml, hown, hts, hX, hbl, hlocks, hgv⟩ := id C0
  have hts : ∀ w ∈ wsL_law, w.before #[Value.ref b] s = true := fun w h => hts w (wsL_law_in w h)
  have hown : s.vm.findClass RL = some m.cls := hown
  have hb : c.code = cL_law := hb
  have hbA : ¬ (fun q : Nat => s.heap.size ≤ q) b := Nat.not_le.mpr hbl
  obtain ⟨k1, ek1⟩ : ∃ z, z = xs (nI 1).toNatClampNeg := ⟨_, rfl⟩
  obtain ⟨k2, ek2⟩ : ∃ z, z = xs (nI 2).toNatClampNeg := ⟨_, rfl⟩
  obtain ⟨k3, ek3⟩ : ∃ z, z = xs (nI 3).toNatClampNeg := ⟨_, rfl⟩
  refine lv_aload_n hx hb dL_law_175 rfl (lv_at hl 1 rfl) ?_
  have hM : mm_W D (fun q => (s.heap.size ≤ q ∧ q < B1) ∨ H.size ≤ q) Mx H := hMx.base (fun q h _ => Or.inl h)
  have hAA : ∀ q, (fun q => (s.heap.size ≤ q ∧ q < B1) ∨ H.size ≤ q) q → s.heap.size ≤ q := fun q h => h.elim (fun h => h.1) (fun h => Nat.le_trans hS.1 h)
  obtain ⟨B2, eB2⟩ : ∃ z, z = H.size := ⟨_, rfl⟩
  rw [← eB2] at hMm hB1
  refine mm_calli (mm_runV (As := []) (rest := []) ⟨hx, hb, hml, hown, hts⟩ (c_X5_flush hI h_x h_st h_sa h_qu h_lg) (cwV 0 hts gL_law_X5_flush rfl rfl rfl (by decide +kernel) ⟨Nat.le_of_ble_eq_true rfl, Nat.le_of_ble_eq_true rfl⟩) hK hM h_x rfl rfl hl.1 rfl (Nat.le_of_ble_eq_true rfl) dL_law_176 ⟨Nat.le_of_ble_eq_true rfl, Nat.le_of_ble_eq_true rfl⟩) hS hAA (fun r1 M H locs hp hM hS hz hfr => ?_)
  subst hp
  have hMm := hMm.kept (fun q h hlt => hfr q hlt (fun h2 => h2.elim (fun h3 => by omega) (fun h3 => by omega)))
  refine lv_aload_n hx hb dL_law_179 rfl (lv_at hl 2 rfl) ?_
  have hM : mm_W D (fun q => (B1 ≤ q ∧ q < B2) ∨ H.size ≤ q) Mm H := hMm.base (fun q h _ => Or.inl h)
  have hAA : ∀ q, (fun q => (B1 ≤ q ∧ q < B2) ∨ H.size ≤ q) q → s.heap.size ≤ q := fun q h => h.elim (fun h => by omega) (fun h => Nat.le_trans hS.1 h)
  refine mm_calli (mm_runV (As := []) (rest := [.int 0]) ⟨hx, hb, hml, hown, hts⟩ (c_X6_flush h_mo) (cwV 0 hts gL_law_X6_flush rfl rfl rfl (by decide +kernel) ⟨Nat.le_of_ble_eq_true rfl, Nat.le_of_ble_eq_true rfl⟩) hK hM h_mo rfl rfl hl.1 rfl (Nat.le_of_ble_eq_true rfl) dL_law_180 ⟨Nat.le_of_ble_eq_true rfl, Nat.le_of_ble_eq_true rfl⟩) hS hAA (fun r2 M H locs hp hM hS hz hfr => ?_)
  subst hp
  refine lv_icmp_eq (tgt := 497) hx hb dL_law_183 (by decide) (fun c_3 => ?_) (fun c_3 => ?_)
  rotate_left
  · exact absurd c_3 (fun h => h rfl)
  exact lw_end C0 hS (lv_sub hl [0, 3] rfl)

set_option maxHeartbeats 4000000 in
set_option maxRecDepth 100000 in
theorem lw_c4 {p : Program} {l : Launch} {e : Env} {s : State} {m : MethodId} {below : List Frame} {meth : Method} {c : Code} {b : Nat} {xs : Nat → Int32} {D : va_G} {cI cS cB cZ : ClassId} (C0 : lw_At p s m meth c b 4 xs) (hK : mm_K D (mm_T cI cS cB cZ) s) {H : Heap} {locs : List Loc} (hS : va_S (fun q : Nat => s.heap.size ≤ q) s.heap H locs) {B1 : Nat} (hB0 : s.heap.size ≤ B1) (hB1 : B1 ≤ H.size) {Mx Mm : Nat → Option va_E} (hMx : mm_W D (fun q => s.heap.size ≤ q ∧ q < B1) Mx H) (hMm : mm_W D (fun q => B1 ≤ q ∧ q < H.size) Mm H) {x st qu lg rd dr tp sa qb lb db : Nat} {fa : Nat → Option Nat} {g h : Nat → Nat} {mo dk it tq qq qg r1 r2 r3 sc hd : Nat} (h_x : Mx x = some (Sum.inr (5, [.ref st, .ref qu, .ref lg, .ref rd, .ref dr, .ref tp, .int 0, .int 10, .int 0, .int 1]) : va_E)) (h_st : Mx st = some (Sum.inr (4, [.ref sa, .int 0, .int (-1), .int 0]) : va_E)) (h_sa : Mx sa = some (Sum.inl (cS, 64, .inr (.inr (.inr (.inr (fa))))) : va_E)) (h_qu : Mx qu = some (Sum.inr (1, [.ref qb, .int 0, .int 0, .int 0]) : va_E)) (h_lg : Mx lg = some (Sum.inr (0, [.ref lb, .int 1, .int 1, .int 0, .int 2, .int 0, .int 2, .int 1]) : va_E)) (h_dr : Mx dr = some (Sum.inr (3, [.ref db, .int 0]) : va_E)) (h_db : Mx db = some (Sum.inl (cI, 64, .inl (fun _ => 0)) : va_E)) (h_tp : Mx tp = some (Sum.inl (cI, 200, .inl (fun _ => 0)) : va_E)) (hI : st_inv cI Mx fa g h gl_F 64) (hne : h 1 ≠ db) (h_mo : Mm mo = some (Sum.inr (6, [.ref dk, .ref it, .int 1, .int (-1), .int 0, .int 10, .int 0, .int 0, .ref tq, .int 0, .ref qq, .int 0, .ref qg, .int 0, .int 0, .int 0, .int 1, .int 1, .int 1, .int 2, .int 2, .int 1, .int 0, .ref r1, .ref r2, .ref r3, .ref sc, .int 0, .ref hd, .int 0, .int 0, .int 0, .int 0, .int 0]) : va_E)) (h_dk : Mm dk = some (Sum.inl (cB, 4096, .inl (md_F)) : va_E)) (h_it : Mm it = some (Sum.inl (cZ, 64, .inl (fun _ => 0)) : va_E)) (h_tq : Mm tq = some (Sum.inl (cB, 200, .inl (fun _ => 0)) : va_E)) (h_sc : Mm sc = some (Sum.inl (cB, 64, .inl (mh_f 1 1 1 2)) : va_E)) (his : it ≠ sc) {ls : Array Slot} (hl : lv_has ls 4 [(0, .ref b), (1, .ref x), (2, .ref mo), (3, .int 0)]) : W p l e room_1 s m #[Value.ref b] below meth c H locs 151 12793 (lw_Z below #[Value.ref b] s) (F0 m 188 ls []) := by
  obtain ⟨hx, hb, hr, hml, hown, hts, hX, hbl, hlocks, hgv⟩ := id C0
  have hts : ∀ w ∈ wsL_law, w.before #[Value.ref b] s = true := fun w h => hts w (wsL_law_in w h)
  have hown : s.vm.findClass RL = some m.cls := hown
  have hb : c.code = cL_law := hb
  have hbA : ¬ (fun q : Nat => s.heap.size ≤ q) b := Nat.not_le.mpr hbl
  obtain ⟨k1, ek1⟩ : ∃ z, z = xs (nI 1).toNatClampNeg := ⟨_, rfl⟩
  obtain ⟨k2, ek2⟩ : ∃ z, z = xs (nI 2).toNatClampNeg := ⟨_, rfl⟩
  obtain ⟨k3, ek3⟩ : ∃ z, z = xs (nI 3).toNatClampNeg := ⟨_, rfl⟩
  refine lv_aload_n hx hb dL_law_188 rfl (lv_at hl 1 rfl) ?_
  refine lv_aload_n hx hb dL_law_189 rfl (lv_at hl 0 rfl) ?_
  refine lv_iload_n hx hb dL_law_190 rfl (lv_at hl 3 rfl) ?_
  refine lv_iconst (v := 1) hx hb dL_law_191 (by decide) ?_
  refine lv_iadd hx hb dL_law_192 ?_
  refine lv_topi (fun z1 ez1 => ?_)
  have ez1 : 1 = z1 := (ez1.trans (by decide)).symm
  subst ez1
  refine va_sld hx hb hX hbl hbA hS (vp_in_nI (n := 1) (by omega) (by decide)) dL_law_193 ?_
  refine lv_topi (fun z2 ez2 => ?_)
  have ez2 : k1 = z2 := (ez2.trans (ek1.symm)).symm
  subst ez2
  have hM : mm_W D (fun q => (s.heap.size ≤ q ∧ q < B1) ∨ H.size ≤ q) Mx H := hMx.base (fun q h _ => Or.inl h)
  have hAA : ∀ q, (fun q => (s.heap.size ≤ q ∧ q < B1) ∨ H.size ≤ q) q → s.heap.size ≤ q := fun q h => h.elim (fun h => h.1) (fun h => Nat.le_trans hS.1 h)
  obtain ⟨B2, eB2⟩ : ∃ z, z = H.size := ⟨_, rfl⟩
  rw [← eB2] at hMm hB1
  refine mm_calli (mm_runV (As := [.int k1]) (rest := []) ⟨hx, hb, hml, hown, hts⟩ (c_X5_tick h_x h_qu) (cwV 1 hts gL_law_X5_tick rfl rfl rfl (by decide +kernel) ⟨Nat.le_of_ble_eq_true rfl, Nat.le_of_ble_eq_true rfl⟩) hK hM h_x rfl rfl hl.1 rfl (Nat.le_of_ble_eq_true rfl) dL_law_194 ⟨Nat.le_of_ble_eq_true rfl, Nat.le_of_ble_eq_true rfl⟩) hS hAA (fun r3 M H locs hp hM hS hz hfr => ?_)
  subst hp
  have hMm := hMm.kept (fun q h hlt => hfr q hlt (fun h2 => h2.elim (fun h3 => by omega) (fun h3 => by omega)))
  refine lv_aload_n hx hb dL_law_197 rfl (lv_at hl 2 rfl) ?_
  refine lv_aload_n hx hb dL_law_198 rfl (lv_at hl 0 rfl) ?_
  refine lv_iload_n hx hb dL_law_199 rfl (lv_at hl 3 rfl) ?_
  refine lv_iconst (v := 1) hx hb dL_law_200 (by decide) ?_
  refine lv_iadd hx hb dL_law_201 ?_
  refine lv_topi (fun z4 ez4 => ?_)
  have ez4 : 1 = z4 := (ez4.trans (by decide)).symm
  subst ez4
  refine va_sld hx hb hX hbl hbA hS (vp_in_nI (n := 1) (by omega) (by decide)) dL_law_202 ?_
  refine lv_topi (fun z5 ez5 => ?_)
  have ez5 : k1 = z5 := (ez5.trans (ek1.symm)).symm
  subst ez5
  have hM : mm_W D (fun q => (B1 ≤ q ∧ q < B2) ∨ H.size ≤ q) Mm H := hMm.base (fun q h _ => Or.inl h)
  have hAA : ∀ q, (fun q => (B1 ≤ q ∧ q < B2) ∨ H.size ≤ q) q → s.heap.size ≤ q := fun q h => h.elim (fun h => by omega) (fun h => Nat.le_trans hS.1 h)
  refine mm_calli (mm_runV (As := [.int k1]) (rest := [.int (tc_f k1)]) ⟨hx, hb, hml, hown, hts⟩ (c_X6_tick h_mo) (cwV 1 hts gL_law_X6_tick rfl rfl rfl (by decide +kernel) ⟨Nat.le_of_ble_eq_true rfl, Nat.le_of_ble_eq_true rfl⟩) hK hM h_mo rfl rfl hl.1 rfl (Nat.le_of_ble_eq_true rfl) dL_law_203 ⟨Nat.le_of_ble_eq_true rfl, Nat.le_of_ble_eq_true rfl⟩) hS hAA (fun r6 M H locs hp hM hS hz hfr => ?_)
  subst hp
  refine lv_icmp_eq (tgt := 497) hx hb dL_law_206 (by decide) (fun c_7 => ?_) (fun c_7 => ?_)
  rotate_left
  · exact absurd c_7 (fun h => h rfl)
  exact lw_end C0 hS (lv_sub hl [0, 3] rfl)

set_option maxHeartbeats 4000000 in
set_option maxRecDepth 100000 in
theorem lw_c5 {p : Program} {l : Launch} {e : Env} {s : State} {m : MethodId} {below : List Frame} {meth : Method} {c : Code} {b : Nat} {xs : Nat → Int32} {D : va_G} {cI cS cB cZ : ClassId} (C0 : lw_At p s m meth c b 4 xs) (hK : mm_K D (mm_T cI cS cB cZ) s) {H : Heap} {locs : List Loc} (hS : va_S (fun q : Nat => s.heap.size ≤ q) s.heap H locs) {B1 : Nat} (hB0 : s.heap.size ≤ B1) (hB1 : B1 ≤ H.size) {Mx Mm : Nat → Option va_E} (hMx : mm_W D (fun q => s.heap.size ≤ q ∧ q < B1) Mx H) (hMm : mm_W D (fun q => B1 ≤ q ∧ q < H.size) Mm H) {x st qu lg rd dr tp sa qb lb db : Nat} {fa : Nat → Option Nat} {g h : Nat → Nat} {mo dk it tq qq qg r1 r2 r3 sc hd : Nat} (h_x : Mx x = some (Sum.inr (5, [.ref st, .ref qu, .ref lg, .ref rd, .ref dr, .ref tp, .int 0, .int 10, .int 0, .int 1]) : va_E)) (h_st : Mx st = some (Sum.inr (4, [.ref sa, .int 0, .int (-1), .int 0]) : va_E)) (h_sa : Mx sa = some (Sum.inl (cS, 64, .inr (.inr (.inr (.inr (fa))))) : va_E)) (h_qu : Mx qu = some (Sum.inr (1, [.ref qb, .int 0, .int 0, .int 0]) : va_E)) (h_lg : Mx lg = some (Sum.inr (0, [.ref lb, .int 1, .int 1, .int 0, .int 2, .int 0, .int 2, .int 1]) : va_E)) (h_dr : Mx dr = some (Sum.inr (3, [.ref db, .int 0]) : va_E)) (h_db : Mx db = some (Sum.inl (cI, 64, .inl (fun _ => 0)) : va_E)) (h_tp : Mx tp = some (Sum.inl (cI, 200, .inl (fun _ => 0)) : va_E)) (hI : st_inv cI Mx fa g h gl_F 64) (hne : h 1 ≠ db) (h_mo : Mm mo = some (Sum.inr (6, [.ref dk, .ref it, .int 1, .int (-1), .int 0, .int 10, .int 0, .int 0, .ref tq, .int 0, .ref qq, .int 0, .ref qg, .int 0, .int 0, .int 0, .int 1, .int 1, .int 1, .int 2, .int 2, .int 1, .int 0, .ref r1, .ref r2, .ref r3, .ref sc, .int 0, .ref hd, .int 0, .int 0, .int 0, .int 0, .int 0]) : va_E)) (h_dk : Mm dk = some (Sum.inl (cB, 4096, .inl (md_F)) : va_E)) (h_it : Mm it = some (Sum.inl (cZ, 64, .inl (fun _ => 0)) : va_E)) (h_tq : Mm tq = some (Sum.inl (cB, 200, .inl (fun _ => 0)) : va_E)) (h_sc : Mm sc = some (Sum.inl (cB, 64, .inl (mh_f 1 1 1 2)) : va_E)) (his : it ≠ sc) {ls : Array Slot} (hl : lv_has ls 4 [(0, .ref b), (1, .ref x), (2, .ref mo), (3, .int 0)]) : W p l e room_1 s m #[Value.ref b] below meth c H locs 151 12793 (lw_Z below #[Value.ref b] s) (F0 m 211 ls []) := by
  obtain ⟨hx, hb, hr, hml, hown, hts, hX, hbl, hlocks, hgv⟩ := id C0
  have hts : ∀ w ∈ wsL_law, w.before #[Value.ref b] s = true := fun w h => hts w (wsL_law_in w h)
  have hown : s.vm.findClass RL = some m.cls := hown
  have hb : c.code = cL_law := hb
  have hbA : ¬ (fun q : Nat => s.heap.size ≤ q) b := Nat.not_le.mpr hbl
  obtain ⟨k1, ek1⟩ : ∃ z, z = xs (nI 1).toNatClampNeg := ⟨_, rfl⟩
  obtain ⟨k2, ek2⟩ : ∃ z, z = xs (nI 2).toNatClampNeg := ⟨_, rfl⟩
  obtain ⟨k3, ek3⟩ : ∃ z, z = xs (nI 3).toNatClampNeg := ⟨_, rfl⟩
  refine lv_aload_n hx hb dL_law_211 rfl (lv_at hl 1 rfl) ?_
  refine lv_aload_n hx hb dL_law_212 rfl (lv_at hl 0 rfl) ?_
  refine lv_iload_n hx hb dL_law_213 rfl (lv_at hl 3 rfl) ?_
  refine lv_iconst (v := 1) hx hb dL_law_214 (by decide) ?_
  refine lv_iadd hx hb dL_law_215 ?_
  refine lv_topi (fun z1 ez1 => ?_)
  have ez1 : 1 = z1 := (ez1.trans (by decide)).symm
  subst ez1
  refine va_sld hx hb hX hbl hbA hS (vp_in_nI (n := 1) (by omega) (by decide)) dL_law_216 ?_
  refine lv_topi (fun z2 ez2 => ?_)
  have ez2 : k1 = z2 := (ez2.trans (ek1.symm)).symm
  subst ez2
  have hM : mm_W D (fun q => (s.heap.size ≤ q ∧ q < B1) ∨ H.size ≤ q) Mx H := hMx.base (fun q h _ => Or.inl h)
  have hAA : ∀ q, (fun q => (s.heap.size ≤ q ∧ q < B1) ∨ H.size ≤ q) q → s.heap.size ≤ q := fun q h => h.elim (fun h => h.1) (fun h => Nat.le_trans hS.1 h)
  obtain ⟨B2, eB2⟩ : ∃ z, z = H.size := ⟨_, rfl⟩
  rw [← eB2] at hMm hB1
  refine mm_calli (mm_runV (As := [.int k1]) (rest := []) ⟨hx, hb, hml, hown, hts⟩ (c_X5_checkpoint hI hne h_x h_st h_sa h_lg h_dr h_db) (cwV 1 hts gL_law_X5_checkpoint rfl rfl rfl (by decide +kernel) ⟨Nat.le_of_ble_eq_true rfl, Nat.le_of_ble_eq_true rfl⟩) hK hM h_x rfl rfl hl.1 rfl (Nat.le_of_ble_eq_true rfl) dL_law_217 ⟨Nat.le_of_ble_eq_true rfl, Nat.le_of_ble_eq_true rfl⟩) hS hAA (fun r3 M H locs hp hM hS hz hfr => ?_)
  subst hp
  have hMm := hMm.kept (fun q h hlt => hfr q hlt (fun h2 => h2.elim (fun h3 => by omega) (fun h3 => by omega)))
  refine lv_aload_n hx hb dL_law_220 rfl (lv_at hl 2 rfl) ?_
  refine lv_aload_n hx hb dL_law_221 rfl (lv_at hl 0 rfl) ?_
  refine lv_iload_n hx hb dL_law_222 rfl (lv_at hl 3 rfl) ?_
  refine lv_iconst (v := 1) hx hb dL_law_223 (by decide) ?_
  refine lv_iadd hx hb dL_law_224 ?_
  refine lv_topi (fun z4 ez4 => ?_)
  have ez4 : 1 = z4 := (ez4.trans (by decide)).symm
  subst ez4
  refine va_sld hx hb hX hbl hbA hS (vp_in_nI (n := 1) (by omega) (by decide)) dL_law_225 ?_
  refine lv_topi (fun z5 ez5 => ?_)
  have ez5 : k1 = z5 := (ez5.trans (ek1.symm)).symm
  subst ez5
  have hM : mm_W D (fun q => (B1 ≤ q ∧ q < B2) ∨ H.size ≤ q) Mm H := hMm.base (fun q h _ => Or.inl h)
  have hAA : ∀ q, (fun q => (B1 ≤ q ∧ q < B2) ∨ H.size ≤ q) q → s.heap.size ≤ q := fun q h => h.elim (fun h => by omega) (fun h => Nat.le_trans hS.1 h)
  refine mm_calli (mm_runV (As := [.int k1]) (rest := [.int (cp_f k1)]) ⟨hx, hb, hml, hown, hts⟩ (c_X6_checkpoint his h_mo h_dk h_it h_sc) (cwV 1 hts gL_law_X6_checkpoint rfl rfl rfl (by decide +kernel) ⟨Nat.le_of_ble_eq_true rfl, Nat.le_of_ble_eq_true rfl⟩) hK hM h_mo rfl rfl hl.1 rfl (Nat.le_of_ble_eq_true rfl) dL_law_226 ⟨Nat.le_of_ble_eq_true rfl, Nat.le_of_ble_eq_true rfl⟩) hS hAA (fun r6 M H locs hp hM hS hz hfr => ?_)
  subst hp
  refine lv_icmp_eq (tgt := 497) hx hb dL_law_229 (by decide) (fun c_7 => ?_) (fun c_7 => ?_)
  rotate_left
  · exact absurd c_7 (fun h => h rfl)
  exact lw_end C0 hS (lv_sub hl [0, 3] rfl)

set_option maxHeartbeats 4000000 in
set_option maxRecDepth 100000 in
theorem lw_c6 {p : Program} {l : Launch} {e : Env} {s : State} {m : MethodId} {below : List Frame} {meth : Method} {c : Code} {b : Nat} {xs : Nat → Int32} {D : va_G} {cI cS cB cZ : ClassId} (C0 : lw_At p s m meth c b 4 xs) (hK : mm_K D (mm_T cI cS cB cZ) s) {H : Heap} {locs : List Loc} (hS : va_S (fun q : Nat => s.heap.size ≤ q) s.heap H locs) {B1 : Nat} (hB0 : s.heap.size ≤ B1) (hB1 : B1 ≤ H.size) {Mx Mm : Nat → Option va_E} (hMx : mm_W D (fun q => s.heap.size ≤ q ∧ q < B1) Mx H) (hMm : mm_W D (fun q => B1 ≤ q ∧ q < H.size) Mm H) {x st qu lg rd dr tp sa qb lb db : Nat} {fa : Nat → Option Nat} {g h : Nat → Nat} {mo dk it tq qq qg r1 r2 r3 sc hd : Nat} (h_x : Mx x = some (Sum.inr (5, [.ref st, .ref qu, .ref lg, .ref rd, .ref dr, .ref tp, .int 0, .int 10, .int 0, .int 1]) : va_E)) (h_st : Mx st = some (Sum.inr (4, [.ref sa, .int 0, .int (-1), .int 0]) : va_E)) (h_sa : Mx sa = some (Sum.inl (cS, 64, .inr (.inr (.inr (.inr (fa))))) : va_E)) (h_qu : Mx qu = some (Sum.inr (1, [.ref qb, .int 0, .int 0, .int 0]) : va_E)) (h_lg : Mx lg = some (Sum.inr (0, [.ref lb, .int 1, .int 1, .int 0, .int 2, .int 0, .int 2, .int 1]) : va_E)) (h_dr : Mx dr = some (Sum.inr (3, [.ref db, .int 0]) : va_E)) (h_db : Mx db = some (Sum.inl (cI, 64, .inl (fun _ => 0)) : va_E)) (h_tp : Mx tp = some (Sum.inl (cI, 200, .inl (fun _ => 0)) : va_E)) (hI : st_inv cI Mx fa g h gl_F 64) (hne : h 1 ≠ db) (h_mo : Mm mo = some (Sum.inr (6, [.ref dk, .ref it, .int 1, .int (-1), .int 0, .int 10, .int 0, .int 0, .ref tq, .int 0, .ref qq, .int 0, .ref qg, .int 0, .int 0, .int 0, .int 1, .int 1, .int 1, .int 2, .int 2, .int 1, .int 0, .ref r1, .ref r2, .ref r3, .ref sc, .int 0, .ref hd, .int 0, .int 0, .int 0, .int 0, .int 0]) : va_E)) (h_dk : Mm dk = some (Sum.inl (cB, 4096, .inl (md_F)) : va_E)) (h_it : Mm it = some (Sum.inl (cZ, 64, .inl (fun _ => 0)) : va_E)) (h_tq : Mm tq = some (Sum.inl (cB, 200, .inl (fun _ => 0)) : va_E)) (h_sc : Mm sc = some (Sum.inl (cB, 64, .inl (mh_f 1 1 1 2)) : va_E)) (his : it ≠ sc) {ls : Array Slot} (hl : lv_has ls 4 [(0, .ref b), (1, .ref x), (2, .ref mo), (3, .int 0)]) : W p l e room_1 s m #[Value.ref b] below meth c H locs 151 12793 (lw_Z below #[Value.ref b] s) (F0 m 234 ls []) := by
  obtain ⟨hx, hb, hr, hml, hown, hts, hX, hbl, hlocks, hgv⟩ := id C0
  have hts : ∀ w ∈ wsL_law, w.before #[Value.ref b] s = true := fun w h => hts w (wsL_law_in w h)
  have hown : s.vm.findClass RL = some m.cls := hown
  have hb : c.code = cL_law := hb
  have hbA : ¬ (fun q : Nat => s.heap.size ≤ q) b := Nat.not_le.mpr hbl
  obtain ⟨k1, ek1⟩ : ∃ z, z = xs (nI 1).toNatClampNeg := ⟨_, rfl⟩
  obtain ⟨k2, ek2⟩ : ∃ z, z = xs (nI 2).toNatClampNeg := ⟨_, rfl⟩
  obtain ⟨k3, ek3⟩ : ∃ z, z = xs (nI 3).toNatClampNeg := ⟨_, rfl⟩
  refine lv_aload_n hx hb dL_law_234 rfl (lv_at hl 1 rfl) ?_
  have hM : mm_W D (fun q => (s.heap.size ≤ q ∧ q < B1) ∨ H.size ≤ q) Mx H := hMx.base (fun q h _ => Or.inl h)
  have hAA : ∀ q, (fun q => (s.heap.size ≤ q ∧ q < B1) ∨ H.size ≤ q) q → s.heap.size ≤ q := fun q h => h.elim (fun h => h.1) (fun h => Nat.le_trans hS.1 h)
  obtain ⟨B2, eB2⟩ : ∃ z, z = H.size := ⟨_, rfl⟩
  rw [← eB2] at hMm hB1
  refine mm_calli (mm_runV (As := []) (rest := []) ⟨hx, hb, hml, hown, hts⟩ (c_X5_cut h_x h_qu h_st) (cwV 0 hts gL_law_X5_cut rfl rfl rfl (by decide +kernel) ⟨Nat.le_of_ble_eq_true rfl, Nat.le_of_ble_eq_true rfl⟩) hK hM h_x rfl rfl hl.1 rfl (Nat.le_of_ble_eq_true rfl) dL_law_235 ⟨Nat.le_of_ble_eq_true rfl, Nat.le_of_ble_eq_true rfl⟩) hS hAA (fun r1 M H locs hp hM hS hz hfr => ?_)
  subst hp
  have hMm := hMm.kept (fun q h hlt => hfr q hlt (fun h2 => h2.elim (fun h3 => by omega) (fun h3 => by omega)))
  refine lv_aload_n hx hb dL_law_238 rfl (lv_at hl 2 rfl) ?_
  have hM : mm_W D (fun q => (B1 ≤ q ∧ q < B2) ∨ H.size ≤ q) Mm H := hMm.base (fun q h _ => Or.inl h)
  have hAA : ∀ q, (fun q => (B1 ≤ q ∧ q < B2) ∨ H.size ≤ q) q → s.heap.size ≤ q := fun q h => h.elim (fun h => by omega) (fun h => Nat.le_trans hS.1 h)
  refine mm_calli (mm_runV (As := []) (rest := [.int 1]) ⟨hx, hb, hml, hown, hts⟩ (c_X6_cut h_mo) (cwV 0 hts gL_law_X6_cut rfl rfl rfl (by decide +kernel) ⟨Nat.le_of_ble_eq_true rfl, Nat.le_of_ble_eq_true rfl⟩) hK hM h_mo rfl rfl hl.1 rfl (Nat.le_of_ble_eq_true rfl) dL_law_239 ⟨Nat.le_of_ble_eq_true rfl, Nat.le_of_ble_eq_true rfl⟩) hS hAA (fun r2 M H locs hp hM hS hz hfr => ?_)
  subst hp
  refine lv_icmp_eq (tgt := 497) hx hb dL_law_242 (by decide) (fun c_3 => ?_) (fun c_3 => ?_)
  rotate_left
  · exact absurd c_3 (fun h => h rfl)
  exact lw_end C0 hS (lv_sub hl [0, 3] rfl)

set_option maxHeartbeats 4000000 in
set_option maxRecDepth 100000 in
theorem lw_c7 {p : Program} {l : Launch} {e : Env} {s : State} {m : MethodId} {below : List Frame} {meth : Method} {c : Code} {b : Nat} {xs : Nat → Int32} {D : va_G} {cI cS cB cZ : ClassId} (C0 : lw_At p s m meth c b 4 xs) (hK : mm_K D (mm_T cI cS cB cZ) s) {H : Heap} {locs : List Loc} (hS : va_S (fun q : Nat => s.heap.size ≤ q) s.heap H locs) {B1 : Nat} (hB0 : s.heap.size ≤ B1) (hB1 : B1 ≤ H.size) {Mx Mm : Nat → Option va_E} (hMx : mm_W D (fun q => s.heap.size ≤ q ∧ q < B1) Mx H) (hMm : mm_W D (fun q => B1 ≤ q ∧ q < H.size) Mm H) {x st qu lg rd dr tp sa qb lb db : Nat} {fa : Nat → Option Nat} {g h : Nat → Nat} {mo dk it tq qq qg r1 r2 r3 sc hd : Nat} (h_x : Mx x = some (Sum.inr (5, [.ref st, .ref qu, .ref lg, .ref rd, .ref dr, .ref tp, .int 0, .int 10, .int 0, .int 1]) : va_E)) (h_st : Mx st = some (Sum.inr (4, [.ref sa, .int 0, .int (-1), .int 0]) : va_E)) (h_sa : Mx sa = some (Sum.inl (cS, 64, .inr (.inr (.inr (.inr (fa))))) : va_E)) (h_qu : Mx qu = some (Sum.inr (1, [.ref qb, .int 0, .int 0, .int 0]) : va_E)) (h_lg : Mx lg = some (Sum.inr (0, [.ref lb, .int 1, .int 1, .int 0, .int 2, .int 0, .int 2, .int 1]) : va_E)) (h_dr : Mx dr = some (Sum.inr (3, [.ref db, .int 0]) : va_E)) (h_db : Mx db = some (Sum.inl (cI, 64, .inl (fun _ => 0)) : va_E)) (h_tp : Mx tp = some (Sum.inl (cI, 200, .inl (fun _ => 0)) : va_E)) (hI : st_inv cI Mx fa g h gl_F 64) (hne : h 1 ≠ db) (h_mo : Mm mo = some (Sum.inr (6, [.ref dk, .ref it, .int 1, .int (-1), .int 0, .int 10, .int 0, .int 0, .ref tq, .int 0, .ref qq, .int 0, .ref qg, .int 0, .int 0, .int 0, .int 1, .int 1, .int 1, .int 2, .int 2, .int 1, .int 0, .ref r1, .ref r2, .ref r3, .ref sc, .int 0, .ref hd, .int 0, .int 0, .int 0, .int 0, .int 0]) : va_E)) (h_dk : Mm dk = some (Sum.inl (cB, 4096, .inl (md_F)) : va_E)) (h_it : Mm it = some (Sum.inl (cZ, 64, .inl (fun _ => 0)) : va_E)) (h_tq : Mm tq = some (Sum.inl (cB, 200, .inl (fun _ => 0)) : va_E)) (h_sc : Mm sc = some (Sum.inl (cB, 64, .inl (mh_f 1 1 1 2)) : va_E)) (his : it ≠ sc) {ls : Array Slot} (hl : lv_has ls 4 [(0, .ref b), (1, .ref x), (2, .ref mo), (3, .int 0)]) : W p l e room_1 s m #[Value.ref b] below meth c H locs 151 12793 (lw_Z below #[Value.ref b] s) (F0 m 247 ls []) := by
  obtain ⟨hx, hb, hr, hml, hown, hts, hX, hbl, hlocks, hgv⟩ := id C0
  have hts : ∀ w ∈ wsL_law, w.before #[Value.ref b] s = true := fun w h => hts w (wsL_law_in w h)
  have hown : s.vm.findClass RL = some m.cls := hown
  have hb : c.code = cL_law := hb
  have hbA : ¬ (fun q : Nat => s.heap.size ≤ q) b := Nat.not_le.mpr hbl
  obtain ⟨k1, ek1⟩ : ∃ z, z = xs (nI 1).toNatClampNeg := ⟨_, rfl⟩
  obtain ⟨k2, ek2⟩ : ∃ z, z = xs (nI 2).toNatClampNeg := ⟨_, rfl⟩
  obtain ⟨k3, ek3⟩ : ∃ z, z = xs (nI 3).toNatClampNeg := ⟨_, rfl⟩
  refine lv_aload_n hx hb dL_law_247 rfl (lv_at hl 1 rfl) ?_
  refine lv_aload_n hx hb dL_law_248 rfl (lv_at hl 0 rfl) ?_
  refine lv_iload_n hx hb dL_law_249 rfl (lv_at hl 3 rfl) ?_
  refine lv_iconst (v := 1) hx hb dL_law_250 (by decide) ?_
  refine lv_iadd hx hb dL_law_251 ?_
  refine lv_topi (fun z1 ez1 => ?_)
  have ez1 : 1 = z1 := (ez1.trans (by decide)).symm
  subst ez1
  refine va_sld hx hb hX hbl hbA hS (vp_in_nI (n := 1) (by omega) (by decide)) dL_law_252 ?_
  refine lv_topi (fun z2 ez2 => ?_)
  have ez2 : k1 = z2 := (ez2.trans (ek1.symm)).symm
  subst ez2
  refine lv_aload_n hx hb dL_law_253 rfl (lv_at hl 0 rfl) ?_
  refine lv_iload_n hx hb dL_law_254 rfl (lv_at hl 3 rfl) ?_
  refine lv_iconst (v := 2) hx hb dL_law_255 (by decide) ?_
  refine lv_iadd hx hb dL_law_256 ?_
  refine lv_topi (fun z3 ez3 => ?_)
  have ez3 : 2 = z3 := (ez3.trans (by decide)).symm
  subst ez3
  refine va_sld hx hb hX hbl hbA hS (vp_in_nI (n := 2) (by omega) (by decide)) dL_law_257 ?_
  refine lv_topi (fun z4 ez4 => ?_)
  have ez4 : k2 = z4 := (ez4.trans (ek2.symm)).symm
  subst ez4
  have hM : mm_W D (fun q => (s.heap.size ≤ q ∧ q < B1) ∨ H.size ≤ q) Mx H := hMx.base (fun q h _ => Or.inl h)
  have hAA : ∀ q, (fun q => (s.heap.size ≤ q ∧ q < B1) ∨ H.size ≤ q) q → s.heap.size ≤ q := fun q h => h.elim (fun h => h.1) (fun h => Nat.le_trans hS.1 h)
  obtain ⟨B2, eB2⟩ : ∃ z, z = H.size := ⟨_, rfl⟩
  rw [← eB2] at hMm hB1
  refine mm_calli (mm_runV (As := [.int k1, .int k2]) (rest := []) ⟨hx, hb, hml, hown, hts⟩ (c_X5_arm h_x h_st) (cwV 2 hts gL_law_X5_arm rfl rfl rfl (by decide +kernel) ⟨Nat.le_of_ble_eq_true rfl, Nat.le_of_ble_eq_true rfl⟩) hK hM h_x rfl rfl hl.1 rfl (Nat.le_of_ble_eq_true rfl) dL_law_258 ⟨Nat.le_of_ble_eq_true rfl, Nat.le_of_ble_eq_true rfl⟩) hS hAA (fun r5 M H locs hp hM hS hz hfr => ?_)
  subst hp
  have hMm := hMm.kept (fun q h hlt => hfr q hlt (fun h2 => h2.elim (fun h3 => by omega) (fun h3 => by omega)))
  refine lv_aload_n hx hb dL_law_261 rfl (lv_at hl 2 rfl) ?_
  refine lv_aload_n hx hb dL_law_262 rfl (lv_at hl 0 rfl) ?_
  refine lv_iload_n hx hb dL_law_263 rfl (lv_at hl 3 rfl) ?_
  refine lv_iconst (v := 1) hx hb dL_law_264 (by decide) ?_
  refine lv_iadd hx hb dL_law_265 ?_
  refine lv_topi (fun z6 ez6 => ?_)
  have ez6 : 1 = z6 := (ez6.trans (by decide)).symm
  subst ez6
  refine va_sld hx hb hX hbl hbA hS (vp_in_nI (n := 1) (by omega) (by decide)) dL_law_266 ?_
  refine lv_topi (fun z7 ez7 => ?_)
  have ez7 : k1 = z7 := (ez7.trans (ek1.symm)).symm
  subst ez7
  refine lv_aload_n hx hb dL_law_267 rfl (lv_at hl 0 rfl) ?_
  refine lv_iload_n hx hb dL_law_268 rfl (lv_at hl 3 rfl) ?_
  refine lv_iconst (v := 2) hx hb dL_law_269 (by decide) ?_
  refine lv_iadd hx hb dL_law_270 ?_
  refine lv_topi (fun z8 ez8 => ?_)
  have ez8 : 2 = z8 := (ez8.trans (by decide)).symm
  subst ez8
  refine va_sld hx hb hX hbl hbA hS (vp_in_nI (n := 2) (by omega) (by decide)) dL_law_271 ?_
  refine lv_topi (fun z9 ez9 => ?_)
  have ez9 : k2 = z9 := (ez9.trans (ek2.symm)).symm
  subst ez9
  have hM : mm_W D (fun q => (B1 ≤ q ∧ q < B2) ∨ H.size ≤ q) Mm H := hMm.base (fun q h _ => Or.inl h)
  have hAA : ∀ q, (fun q => (B1 ≤ q ∧ q < B2) ∨ H.size ≤ q) q → s.heap.size ≤ q := fun q h => h.elim (fun h => by omega) (fun h => Nat.le_trans hS.1 h)
  refine mm_calli (mm_runV (As := [.int k1, .int k2]) (rest := [.int (ar_f k1 k2)]) ⟨hx, hb, hml, hown, hts⟩ (c_X6_arm h_mo) (cwV 2 hts gL_law_X6_arm rfl rfl rfl (by decide +kernel) ⟨Nat.le_of_ble_eq_true rfl, Nat.le_of_ble_eq_true rfl⟩) hK hM h_mo rfl rfl hl.1 rfl (Nat.le_of_ble_eq_true rfl) dL_law_272 ⟨Nat.le_of_ble_eq_true rfl, Nat.le_of_ble_eq_true rfl⟩) hS hAA (fun r10 M H locs hp hM hS hz hfr => ?_)
  subst hp
  refine lv_icmp_eq (tgt := 497) hx hb dL_law_275 (by decide) (fun c_11 => ?_) (fun c_11 => ?_)
  rotate_left
  · exact absurd c_11 (fun h => h rfl)
  exact lw_end C0 hS (lv_sub hl [0, 3] rfl)

set_option maxHeartbeats 4000000 in
set_option maxRecDepth 100000 in
theorem lw_c8 {p : Program} {l : Launch} {e : Env} {s : State} {m : MethodId} {below : List Frame} {meth : Method} {c : Code} {b : Nat} {xs : Nat → Int32} {D : va_G} {cI cS cB cZ : ClassId} (C0 : lw_At p s m meth c b 4 xs) (hK : mm_K D (mm_T cI cS cB cZ) s) {H : Heap} {locs : List Loc} (hS : va_S (fun q : Nat => s.heap.size ≤ q) s.heap H locs) {B1 : Nat} (hB0 : s.heap.size ≤ B1) (hB1 : B1 ≤ H.size) {Mx Mm : Nat → Option va_E} (hMx : mm_W D (fun q => s.heap.size ≤ q ∧ q < B1) Mx H) (hMm : mm_W D (fun q => B1 ≤ q ∧ q < H.size) Mm H) {x st qu lg rd dr tp sa qb lb db : Nat} {fa : Nat → Option Nat} {g h : Nat → Nat} {mo dk it tq qq qg r1 r2 r3 sc hd : Nat} (h_x : Mx x = some (Sum.inr (5, [.ref st, .ref qu, .ref lg, .ref rd, .ref dr, .ref tp, .int 0, .int 10, .int 0, .int 1]) : va_E)) (h_st : Mx st = some (Sum.inr (4, [.ref sa, .int 0, .int (-1), .int 0]) : va_E)) (h_sa : Mx sa = some (Sum.inl (cS, 64, .inr (.inr (.inr (.inr (fa))))) : va_E)) (h_qu : Mx qu = some (Sum.inr (1, [.ref qb, .int 0, .int 0, .int 0]) : va_E)) (h_lg : Mx lg = some (Sum.inr (0, [.ref lb, .int 1, .int 1, .int 0, .int 2, .int 0, .int 2, .int 1]) : va_E)) (h_dr : Mx dr = some (Sum.inr (3, [.ref db, .int 0]) : va_E)) (h_db : Mx db = some (Sum.inl (cI, 64, .inl (fun _ => 0)) : va_E)) (h_tp : Mx tp = some (Sum.inl (cI, 200, .inl (fun _ => 0)) : va_E)) (hI : st_inv cI Mx fa g h gl_F 64) (hne : h 1 ≠ db) (h_mo : Mm mo = some (Sum.inr (6, [.ref dk, .ref it, .int 1, .int (-1), .int 0, .int 10, .int 0, .int 0, .ref tq, .int 0, .ref qq, .int 0, .ref qg, .int 0, .int 0, .int 0, .int 1, .int 1, .int 1, .int 2, .int 2, .int 1, .int 0, .ref r1, .ref r2, .ref r3, .ref sc, .int 0, .ref hd, .int 0, .int 0, .int 0, .int 0, .int 0]) : va_E)) (h_dk : Mm dk = some (Sum.inl (cB, 4096, .inl (md_F)) : va_E)) (h_it : Mm it = some (Sum.inl (cZ, 64, .inl (fun _ => 0)) : va_E)) (h_tq : Mm tq = some (Sum.inl (cB, 200, .inl (fun _ => 0)) : va_E)) (h_sc : Mm sc = some (Sum.inl (cB, 64, .inl (mh_f 1 1 1 2)) : va_E)) (his : it ≠ sc) {ls : Array Slot} (hl : lv_has ls 4 [(0, .ref b), (1, .ref x), (2, .ref mo), (3, .int 0)]) : W p l e room_1 s m #[Value.ref b] below meth c H locs 151 12793 (lw_Z below #[Value.ref b] s) (F0 m 280 ls []) := by
  obtain ⟨hx, hb, hr, hml, hown, hts, hX, hbl, hlocks, hgv⟩ := id C0
  have hts : ∀ w ∈ wsL_law, w.before #[Value.ref b] s = true := fun w h => hts w (wsL_law_in w h)
  have hown : s.vm.findClass RL = some m.cls := hown
  have hb : c.code = cL_law := hb
  have hbA : ¬ (fun q : Nat => s.heap.size ≤ q) b := Nat.not_le.mpr hbl
  obtain ⟨k1, ek1⟩ : ∃ z, z = xs (nI 1).toNatClampNeg := ⟨_, rfl⟩
  obtain ⟨k2, ek2⟩ : ∃ z, z = xs (nI 2).toNatClampNeg := ⟨_, rfl⟩
  obtain ⟨k3, ek3⟩ : ∃ z, z = xs (nI 3).toNatClampNeg := ⟨_, rfl⟩
  refine lv_aload_n hx hb dL_law_280 rfl (lv_at hl 1 rfl) ?_
  have hM : mm_W D (fun q => (s.heap.size ≤ q ∧ q < B1) ∨ H.size ≤ q) Mx H := hMx.base (fun q h _ => Or.inl h)
  have hAA : ∀ q, (fun q => (s.heap.size ≤ q ∧ q < B1) ∨ H.size ≤ q) q → s.heap.size ≤ q := fun q h => h.elim (fun h => h.1) (fun h => Nat.le_trans hS.1 h)
  obtain ⟨B2, eB2⟩ : ∃ z, z = H.size := ⟨_, rfl⟩
  rw [← eB2] at hMm hB1
  refine mm_calli (mm_runV (As := []) (rest := []) ⟨hx, hb, hml, hown, hts⟩ (c_X5_start h_x) (cwV 0 hts gL_law_X5_start rfl rfl rfl (by decide +kernel) ⟨Nat.le_of_ble_eq_true rfl, Nat.le_of_ble_eq_true rfl⟩) hK hM h_x rfl rfl hl.1 rfl (Nat.le_of_ble_eq_true rfl) dL_law_281 ⟨Nat.le_of_ble_eq_true rfl, Nat.le_of_ble_eq_true rfl⟩) hS hAA (fun r1 M H locs hp hM hS hz hfr => ?_)
  subst hp
  have hMm := hMm.kept (fun q h hlt => hfr q hlt (fun h2 => h2.elim (fun h3 => by omega) (fun h3 => by omega)))
  refine lv_aload_n hx hb dL_law_284 rfl (lv_at hl 2 rfl) ?_
  have hM : mm_W D (fun q => (B1 ≤ q ∧ q < B2) ∨ H.size ≤ q) Mm H := hMm.base (fun q h _ => Or.inl h)
  have hAA : ∀ q, (fun q => (B1 ≤ q ∧ q < B2) ∨ H.size ≤ q) q → s.heap.size ≤ q := fun q h => h.elim (fun h => by omega) (fun h => Nat.le_trans hS.1 h)
  refine mm_calli (mm_runV (As := []) (rest := [.int (-1)]) ⟨hx, hb, hml, hown, hts⟩ (c_X6_start h_mo) (cwV 0 hts gL_law_X6_start rfl rfl rfl (by decide +kernel) ⟨Nat.le_of_ble_eq_true rfl, Nat.le_of_ble_eq_true rfl⟩) hK hM h_mo rfl rfl hl.1 rfl (Nat.le_of_ble_eq_true rfl) dL_law_285 ⟨Nat.le_of_ble_eq_true rfl, Nat.le_of_ble_eq_true rfl⟩) hS hAA (fun r2 M H locs hp hM hS hz hfr => ?_)
  subst hp
  refine lv_icmp_eq (tgt := 497) hx hb dL_law_288 (by decide) (fun c_3 => ?_) (fun c_3 => ?_)
  rotate_left
  · exact absurd c_3 (fun h => h rfl)
  exact lw_end C0 hS (lv_sub hl [0, 3] rfl)

set_option maxHeartbeats 4000000 in
set_option maxRecDepth 100000 in
theorem lw_c9 {p : Program} {l : Launch} {e : Env} {s : State} {m : MethodId} {below : List Frame} {meth : Method} {c : Code} {b : Nat} {xs : Nat → Int32} {D : va_G} {cI cS cB cZ : ClassId} (C0 : lw_At p s m meth c b 4 xs) (hK : mm_K D (mm_T cI cS cB cZ) s) {H : Heap} {locs : List Loc} (hS : va_S (fun q : Nat => s.heap.size ≤ q) s.heap H locs) {B1 : Nat} (hB0 : s.heap.size ≤ B1) (hB1 : B1 ≤ H.size) {Mx Mm : Nat → Option va_E} (hMx : mm_W D (fun q => s.heap.size ≤ q ∧ q < B1) Mx H) (hMm : mm_W D (fun q => B1 ≤ q ∧ q < H.size) Mm H) {x st qu lg rd dr tp sa qb lb db : Nat} {fa : Nat → Option Nat} {g h : Nat → Nat} {mo dk it tq qq qg r1 r2 r3 sc hd : Nat} (h_x : Mx x = some (Sum.inr (5, [.ref st, .ref qu, .ref lg, .ref rd, .ref dr, .ref tp, .int 0, .int 10, .int 0, .int 1]) : va_E)) (h_st : Mx st = some (Sum.inr (4, [.ref sa, .int 0, .int (-1), .int 0]) : va_E)) (h_sa : Mx sa = some (Sum.inl (cS, 64, .inr (.inr (.inr (.inr (fa))))) : va_E)) (h_qu : Mx qu = some (Sum.inr (1, [.ref qb, .int 0, .int 0, .int 0]) : va_E)) (h_lg : Mx lg = some (Sum.inr (0, [.ref lb, .int 1, .int 1, .int 0, .int 2, .int 0, .int 2, .int 1]) : va_E)) (h_dr : Mx dr = some (Sum.inr (3, [.ref db, .int 0]) : va_E)) (h_db : Mx db = some (Sum.inl (cI, 64, .inl (fun _ => 0)) : va_E)) (h_tp : Mx tp = some (Sum.inl (cI, 200, .inl (fun _ => 0)) : va_E)) (hI : st_inv cI Mx fa g h gl_F 64) (hne : h 1 ≠ db) (h_mo : Mm mo = some (Sum.inr (6, [.ref dk, .ref it, .int 1, .int (-1), .int 0, .int 10, .int 0, .int 0, .ref tq, .int 0, .ref qq, .int 0, .ref qg, .int 0, .int 0, .int 0, .int 1, .int 1, .int 1, .int 2, .int 2, .int 1, .int 0, .ref r1, .ref r2, .ref r3, .ref sc, .int 0, .ref hd, .int 0, .int 0, .int 0, .int 0, .int 0]) : va_E)) (h_dk : Mm dk = some (Sum.inl (cB, 4096, .inl (md_F)) : va_E)) (h_it : Mm it = some (Sum.inl (cZ, 64, .inl (fun _ => 0)) : va_E)) (h_tq : Mm tq = some (Sum.inl (cB, 200, .inl (fun _ => 0)) : va_E)) (h_sc : Mm sc = some (Sum.inl (cB, 64, .inl (mh_f 1 1 1 2)) : va_E)) (his : it ≠ sc) {ls : Array Slot} (hl : lv_has ls 4 [(0, .ref b), (1, .ref x), (2, .ref mo), (3, .int 0)]) : W p l e room_1 s m #[Value.ref b] below meth c H locs 151 12793 (lw_Z below #[Value.ref b] s) (F0 m 293 ls []) := by
  obtain ⟨hx, hb, hr, hml, hown, hts, hX, hbl, hlocks, hgv⟩ := id C0
  have hts : ∀ w ∈ wsL_law, w.before #[Value.ref b] s = true := fun w h => hts w (wsL_law_in w h)
  have hown : s.vm.findClass RL = some m.cls := hown
  have hb : c.code = cL_law := hb
  have hbA : ¬ (fun q : Nat => s.heap.size ≤ q) b := Nat.not_le.mpr hbl
  obtain ⟨k1, ek1⟩ : ∃ z, z = xs (nI 1).toNatClampNeg := ⟨_, rfl⟩
  obtain ⟨k2, ek2⟩ : ∃ z, z = xs (nI 2).toNatClampNeg := ⟨_, rfl⟩
  obtain ⟨k3, ek3⟩ : ∃ z, z = xs (nI 3).toNatClampNeg := ⟨_, rfl⟩
  refine lv_aload_n hx hb dL_law_293 rfl (lv_at hl 1 rfl) ?_
  have hM : mm_W D (fun q => (s.heap.size ≤ q ∧ q < B1) ∨ H.size ≤ q) Mx H := hMx.base (fun q h _ => Or.inl h)
  have hAA : ∀ q, (fun q => (s.heap.size ≤ q ∧ q < B1) ∨ H.size ≤ q) q → s.heap.size ≤ q := fun q h => h.elim (fun h => h.1) (fun h => Nat.le_trans hS.1 h)
  obtain ⟨B2, eB2⟩ : ∃ z, z = H.size := ⟨_, rfl⟩
  rw [← eB2] at hMm hB1
  refine mm_calli (mm_runV (As := []) (rest := []) ⟨hx, hb, hml, hown, hts⟩ (c_X5_first h_x h_lg) (cwV 0 hts gL_law_X5_first rfl rfl rfl (by decide +kernel) ⟨Nat.le_of_ble_eq_true rfl, Nat.le_of_ble_eq_true rfl⟩) hK hM h_x rfl rfl hl.1 rfl (Nat.le_of_ble_eq_true rfl) dL_law_294 ⟨Nat.le_of_ble_eq_true rfl, Nat.le_of_ble_eq_true rfl⟩) hS hAA (fun r1 M H locs hp hM hS hz hfr => ?_)
  subst hp
  have hMm := hMm.kept (fun q h hlt => hfr q hlt (fun h2 => h2.elim (fun h3 => by omega) (fun h3 => by omega)))
  refine lv_aload_n hx hb dL_law_297 rfl (lv_at hl 2 rfl) ?_
  have hM : mm_W D (fun q => (B1 ≤ q ∧ q < B2) ∨ H.size ≤ q) Mm H := hMm.base (fun q h _ => Or.inl h)
  have hAA : ∀ q, (fun q => (B1 ≤ q ∧ q < B2) ∨ H.size ≤ q) q → s.heap.size ≤ q := fun q h => h.elim (fun h => by omega) (fun h => Nat.le_trans hS.1 h)
  refine mm_calli (mm_runV (As := []) (rest := [.int 1]) ⟨hx, hb, hml, hown, hts⟩ (c_X6_first h_mo) (cwV 0 hts gL_law_X6_first rfl rfl rfl (by decide +kernel) ⟨Nat.le_of_ble_eq_true rfl, Nat.le_of_ble_eq_true rfl⟩) hK hM h_mo rfl rfl hl.1 rfl (Nat.le_of_ble_eq_true rfl) dL_law_298 ⟨Nat.le_of_ble_eq_true rfl, Nat.le_of_ble_eq_true rfl⟩) hS hAA (fun r2 M H locs hp hM hS hz hfr => ?_)
  subst hp
  refine lv_icmp_eq (tgt := 497) hx hb dL_law_301 (by decide) (fun c_3 => ?_) (fun c_3 => ?_)
  rotate_left
  · exact absurd c_3 (fun h => h rfl)
  exact lw_end C0 hS (lv_sub hl [0, 3] rfl)

set_option maxHeartbeats 4000000 in
set_option maxRecDepth 100000 in
theorem lw_c10 {p : Program} {l : Launch} {e : Env} {s : State} {m : MethodId} {below : List Frame} {meth : Method} {c : Code} {b : Nat} {xs : Nat → Int32} {D : va_G} {cI cS cB cZ : ClassId} (C0 : lw_At p s m meth c b 4 xs) (hK : mm_K D (mm_T cI cS cB cZ) s) {H : Heap} {locs : List Loc} (hS : va_S (fun q : Nat => s.heap.size ≤ q) s.heap H locs) {B1 : Nat} (hB0 : s.heap.size ≤ B1) (hB1 : B1 ≤ H.size) {Mx Mm : Nat → Option va_E} (hMx : mm_W D (fun q => s.heap.size ≤ q ∧ q < B1) Mx H) (hMm : mm_W D (fun q => B1 ≤ q ∧ q < H.size) Mm H) {x st qu lg rd dr tp sa qb lb db : Nat} {fa : Nat → Option Nat} {g h : Nat → Nat} {mo dk it tq qq qg r1 r2 r3 sc hd : Nat} (h_x : Mx x = some (Sum.inr (5, [.ref st, .ref qu, .ref lg, .ref rd, .ref dr, .ref tp, .int 0, .int 10, .int 0, .int 1]) : va_E)) (h_st : Mx st = some (Sum.inr (4, [.ref sa, .int 0, .int (-1), .int 0]) : va_E)) (h_sa : Mx sa = some (Sum.inl (cS, 64, .inr (.inr (.inr (.inr (fa))))) : va_E)) (h_qu : Mx qu = some (Sum.inr (1, [.ref qb, .int 0, .int 0, .int 0]) : va_E)) (h_lg : Mx lg = some (Sum.inr (0, [.ref lb, .int 1, .int 1, .int 0, .int 2, .int 0, .int 2, .int 1]) : va_E)) (h_dr : Mx dr = some (Sum.inr (3, [.ref db, .int 0]) : va_E)) (h_db : Mx db = some (Sum.inl (cI, 64, .inl (fun _ => 0)) : va_E)) (h_tp : Mx tp = some (Sum.inl (cI, 200, .inl (fun _ => 0)) : va_E)) (hI : st_inv cI Mx fa g h gl_F 64) (hne : h 1 ≠ db) (h_mo : Mm mo = some (Sum.inr (6, [.ref dk, .ref it, .int 1, .int (-1), .int 0, .int 10, .int 0, .int 0, .ref tq, .int 0, .ref qq, .int 0, .ref qg, .int 0, .int 0, .int 0, .int 1, .int 1, .int 1, .int 2, .int 2, .int 1, .int 0, .ref r1, .ref r2, .ref r3, .ref sc, .int 0, .ref hd, .int 0, .int 0, .int 0, .int 0, .int 0]) : va_E)) (h_dk : Mm dk = some (Sum.inl (cB, 4096, .inl (md_F)) : va_E)) (h_it : Mm it = some (Sum.inl (cZ, 64, .inl (fun _ => 0)) : va_E)) (h_tq : Mm tq = some (Sum.inl (cB, 200, .inl (fun _ => 0)) : va_E)) (h_sc : Mm sc = some (Sum.inl (cB, 64, .inl (mh_f 1 1 1 2)) : va_E)) (his : it ≠ sc) {ls : Array Slot} (hl : lv_has ls 4 [(0, .ref b), (1, .ref x), (2, .ref mo), (3, .int 0)]) : W p l e room_1 s m #[Value.ref b] below meth c H locs 151 12793 (lw_Z below #[Value.ref b] s) (F0 m 306 ls []) := by
  obtain ⟨hx, hb, hr, hml, hown, hts, hX, hbl, hlocks, hgv⟩ := id C0
  have hts : ∀ w ∈ wsL_law, w.before #[Value.ref b] s = true := fun w h => hts w (wsL_law_in w h)
  have hown : s.vm.findClass RL = some m.cls := hown
  have hb : c.code = cL_law := hb
  have hbA : ¬ (fun q : Nat => s.heap.size ≤ q) b := Nat.not_le.mpr hbl
  obtain ⟨k1, ek1⟩ : ∃ z, z = xs (nI 1).toNatClampNeg := ⟨_, rfl⟩
  obtain ⟨k2, ek2⟩ : ∃ z, z = xs (nI 2).toNatClampNeg := ⟨_, rfl⟩
  obtain ⟨k3, ek3⟩ : ∃ z, z = xs (nI 3).toNatClampNeg := ⟨_, rfl⟩
  refine lv_aload_n hx hb dL_law_306 rfl (lv_at hl 1 rfl) ?_
  have hM : mm_W D (fun q => (s.heap.size ≤ q ∧ q < B1) ∨ H.size ≤ q) Mx H := hMx.base (fun q h _ => Or.inl h)
  have hAA : ∀ q, (fun q => (s.heap.size ≤ q ∧ q < B1) ∨ H.size ≤ q) q → s.heap.size ≤ q := fun q h => h.elim (fun h => h.1) (fun h => Nat.le_trans hS.1 h)
  obtain ⟨B2, eB2⟩ : ∃ z, z = H.size := ⟨_, rfl⟩
  rw [← eB2] at hMm hB1
  refine mm_calli (mm_runV (As := []) (rest := []) ⟨hx, hb, hml, hown, hts⟩ (c_X5_safe h_x h_lg) (cwV 0 hts gL_law_X5_safe rfl rfl rfl (by decide +kernel) ⟨Nat.le_of_ble_eq_true rfl, Nat.le_of_ble_eq_true rfl⟩) hK hM h_x rfl rfl hl.1 rfl (Nat.le_of_ble_eq_true rfl) dL_law_307 ⟨Nat.le_of_ble_eq_true rfl, Nat.le_of_ble_eq_true rfl⟩) hS hAA (fun r1 M H locs hp hM hS hz hfr => ?_)
  subst hp
  have hMm := hMm.kept (fun q h hlt => hfr q hlt (fun h2 => h2.elim (fun h3 => by omega) (fun h3 => by omega)))
  refine lv_aload_n hx hb dL_law_310 rfl (lv_at hl 2 rfl) ?_
  have hM : mm_W D (fun q => (B1 ≤ q ∧ q < B2) ∨ H.size ≤ q) Mm H := hMm.base (fun q h _ => Or.inl h)
  have hAA : ∀ q, (fun q => (B1 ≤ q ∧ q < B2) ∨ H.size ≤ q) q → s.heap.size ≤ q := fun q h => h.elim (fun h => by omega) (fun h => Nat.le_trans hS.1 h)
  refine mm_calli (mm_runV (As := []) (rest := [.int 0]) ⟨hx, hb, hml, hown, hts⟩ (c_X6_safe h_mo) (cwV 0 hts gL_law_X6_safe rfl rfl rfl (by decide +kernel) ⟨Nat.le_of_ble_eq_true rfl, Nat.le_of_ble_eq_true rfl⟩) hK hM h_mo rfl rfl hl.1 rfl (Nat.le_of_ble_eq_true rfl) dL_law_311 ⟨Nat.le_of_ble_eq_true rfl, Nat.le_of_ble_eq_true rfl⟩) hS hAA (fun r2 M H locs hp hM hS hz hfr => ?_)
  subst hp
  refine lv_icmp_eq (tgt := 497) hx hb dL_law_314 (by decide) (fun c_3 => ?_) (fun c_3 => ?_)
  rotate_left
  · exact absurd c_3 (fun h => h rfl)
  exact lw_end C0 hS (lv_sub hl [0, 3] rfl)

set_option maxHeartbeats 4000000 in
set_option maxRecDepth 100000 in
theorem lw_c11 {p : Program} {l : Launch} {e : Env} {s : State} {m : MethodId} {below : List Frame} {meth : Method} {c : Code} {b : Nat} {xs : Nat → Int32} {D : va_G} {cI cS cB cZ : ClassId} (C0 : lw_At p s m meth c b 4 xs) (hK : mm_K D (mm_T cI cS cB cZ) s) {H : Heap} {locs : List Loc} (hS : va_S (fun q : Nat => s.heap.size ≤ q) s.heap H locs) {B1 : Nat} (hB0 : s.heap.size ≤ B1) (hB1 : B1 ≤ H.size) {Mx Mm : Nat → Option va_E} (hMx : mm_W D (fun q => s.heap.size ≤ q ∧ q < B1) Mx H) (hMm : mm_W D (fun q => B1 ≤ q ∧ q < H.size) Mm H) {x st qu lg rd dr tp sa qb lb db : Nat} {fa : Nat → Option Nat} {g h : Nat → Nat} {mo dk it tq qq qg r1 r2 r3 sc hd : Nat} (h_x : Mx x = some (Sum.inr (5, [.ref st, .ref qu, .ref lg, .ref rd, .ref dr, .ref tp, .int 0, .int 10, .int 0, .int 1]) : va_E)) (h_st : Mx st = some (Sum.inr (4, [.ref sa, .int 0, .int (-1), .int 0]) : va_E)) (h_sa : Mx sa = some (Sum.inl (cS, 64, .inr (.inr (.inr (.inr (fa))))) : va_E)) (h_qu : Mx qu = some (Sum.inr (1, [.ref qb, .int 0, .int 0, .int 0]) : va_E)) (h_lg : Mx lg = some (Sum.inr (0, [.ref lb, .int 1, .int 1, .int 0, .int 2, .int 0, .int 2, .int 1]) : va_E)) (h_dr : Mx dr = some (Sum.inr (3, [.ref db, .int 0]) : va_E)) (h_db : Mx db = some (Sum.inl (cI, 64, .inl (fun _ => 0)) : va_E)) (h_tp : Mx tp = some (Sum.inl (cI, 200, .inl (fun _ => 0)) : va_E)) (hI : st_inv cI Mx fa g h gl_F 64) (hne : h 1 ≠ db) (h_mo : Mm mo = some (Sum.inr (6, [.ref dk, .ref it, .int 1, .int (-1), .int 0, .int 10, .int 0, .int 0, .ref tq, .int 0, .ref qq, .int 0, .ref qg, .int 0, .int 0, .int 0, .int 1, .int 1, .int 1, .int 2, .int 2, .int 1, .int 0, .ref r1, .ref r2, .ref r3, .ref sc, .int 0, .ref hd, .int 0, .int 0, .int 0, .int 0, .int 0]) : va_E)) (h_dk : Mm dk = some (Sum.inl (cB, 4096, .inl (md_F)) : va_E)) (h_it : Mm it = some (Sum.inl (cZ, 64, .inl (fun _ => 0)) : va_E)) (h_tq : Mm tq = some (Sum.inl (cB, 200, .inl (fun _ => 0)) : va_E)) (h_sc : Mm sc = some (Sum.inl (cB, 64, .inl (mh_f 1 1 1 2)) : va_E)) (his : it ≠ sc) {ls : Array Slot} (hl : lv_has ls 4 [(0, .ref b), (1, .ref x), (2, .ref mo), (3, .int 0)]) : W p l e room_1 s m #[Value.ref b] below meth c H locs 151 12793 (lw_Z below #[Value.ref b] s) (F0 m 319 ls []) := by
  obtain ⟨hx, hb, hr, hml, hown, hts, hX, hbl, hlocks, hgv⟩ := id C0
  have hts : ∀ w ∈ wsL_law, w.before #[Value.ref b] s = true := fun w h => hts w (wsL_law_in w h)
  have hown : s.vm.findClass RL = some m.cls := hown
  have hb : c.code = cL_law := hb
  have hbA : ¬ (fun q : Nat => s.heap.size ≤ q) b := Nat.not_le.mpr hbl
  obtain ⟨k1, ek1⟩ : ∃ z, z = xs (nI 1).toNatClampNeg := ⟨_, rfl⟩
  obtain ⟨k2, ek2⟩ : ∃ z, z = xs (nI 2).toNatClampNeg := ⟨_, rfl⟩
  obtain ⟨k3, ek3⟩ : ∃ z, z = xs (nI 3).toNatClampNeg := ⟨_, rfl⟩
  refine lv_aload_n hx hb dL_law_319 rfl (lv_at hl 1 rfl) ?_
  refine lv_aload_n hx hb dL_law_320 rfl (lv_at hl 0 rfl) ?_
  refine lv_iload_n hx hb dL_law_321 rfl (lv_at hl 3 rfl) ?_
  refine lv_iconst (v := 1) hx hb dL_law_322 (by decide) ?_
  refine lv_iadd hx hb dL_law_323 ?_
  refine lv_topi (fun z1 ez1 => ?_)
  have ez1 : 1 = z1 := (ez1.trans (by decide)).symm
  subst ez1
  refine va_sld hx hb hX hbl hbA hS (vp_in_nI (n := 1) (by omega) (by decide)) dL_law_324 ?_
  refine lv_topi (fun z2 ez2 => ?_)
  have ez2 : k1 = z2 := (ez2.trans (ek1.symm)).symm
  subst ez2
  have hM : mm_W D (fun q => (s.heap.size ≤ q ∧ q < B1) ∨ H.size ≤ q) Mx H := hMx.base (fun q h _ => Or.inl h)
  have hAA : ∀ q, (fun q => (s.heap.size ≤ q ∧ q < B1) ∨ H.size ≤ q) q → s.heap.size ≤ q := fun q h => h.elim (fun h => h.1) (fun h => Nat.le_trans hS.1 h)
  obtain ⟨B2, eB2⟩ : ∃ z, z = H.size := ⟨_, rfl⟩
  rw [← eB2] at hMm hB1
  refine mm_calli (mm_runV (As := [.int k1]) (rest := []) ⟨hx, hb, hml, hown, hts⟩ (c_X5_size h_x h_lg) (cwV 1 hts gL_law_X5_size rfl rfl rfl (by decide +kernel) ⟨Nat.le_of_ble_eq_true rfl, Nat.le_of_ble_eq_true rfl⟩) hK hM h_x rfl rfl hl.1 rfl (Nat.le_of_ble_eq_true rfl) dL_law_325 ⟨Nat.le_of_ble_eq_true rfl, Nat.le_of_ble_eq_true rfl⟩) hS hAA (fun r3 M H locs hp hM hS hz hfr => ?_)
  subst hp
  have hMm := hMm.kept (fun q h hlt => hfr q hlt (fun h2 => h2.elim (fun h3 => by omega) (fun h3 => by omega)))
  refine lv_aload_n hx hb dL_law_328 rfl (lv_at hl 2 rfl) ?_
  refine lv_aload_n hx hb dL_law_329 rfl (lv_at hl 0 rfl) ?_
  refine lv_iload_n hx hb dL_law_330 rfl (lv_at hl 3 rfl) ?_
  refine lv_iconst (v := 1) hx hb dL_law_331 (by decide) ?_
  refine lv_iadd hx hb dL_law_332 ?_
  refine lv_topi (fun z4 ez4 => ?_)
  have ez4 : 1 = z4 := (ez4.trans (by decide)).symm
  subst ez4
  refine va_sld hx hb hX hbl hbA hS (vp_in_nI (n := 1) (by omega) (by decide)) dL_law_333 ?_
  refine lv_topi (fun z5 ez5 => ?_)
  have ez5 : k1 = z5 := (ez5.trans (ek1.symm)).symm
  subst ez5
  have hM : mm_W D (fun q => (B1 ≤ q ∧ q < B2) ∨ H.size ≤ q) Mm H := hMm.base (fun q h _ => Or.inl h)
  have hAA : ∀ q, (fun q => (B1 ≤ q ∧ q < B2) ∨ H.size ≤ q) q → s.heap.size ≤ q := fun q h => h.elim (fun h => by omega) (fun h => Nat.le_trans hS.1 h)
  refine mm_calli (mm_runV (As := [.int k1]) (rest := [.int (-1)]) ⟨hx, hb, hml, hown, hts⟩ (c_X6_size h_mo) (cwV 1 hts gL_law_X6_size rfl rfl rfl (by decide +kernel) ⟨Nat.le_of_ble_eq_true rfl, Nat.le_of_ble_eq_true rfl⟩) hK hM h_mo rfl rfl hl.1 rfl (Nat.le_of_ble_eq_true rfl) dL_law_334 ⟨Nat.le_of_ble_eq_true rfl, Nat.le_of_ble_eq_true rfl⟩) hS hAA (fun r6 M H locs hp hM hS hz hfr => ?_)
  obtain ⟨rfl, -⟩ := hp
  refine lv_icmp_eq (tgt := 497) hx hb dL_law_337 (by decide) (fun c_7 => ?_) (fun c_7 => ?_)
  rotate_left
  · exact absurd c_7 (fun h => h rfl)
  exact lw_end C0 hS (lv_sub hl [0, 3] rfl)

set_option maxHeartbeats 4000000 in
set_option maxRecDepth 100000 in
theorem lw_c12 {p : Program} {l : Launch} {e : Env} {s : State} {m : MethodId} {below : List Frame} {meth : Method} {c : Code} {b : Nat} {xs : Nat → Int32} {D : va_G} {cI cS cB cZ : ClassId} (C0 : lw_At p s m meth c b 4 xs) (hK : mm_K D (mm_T cI cS cB cZ) s) {H : Heap} {locs : List Loc} (hS : va_S (fun q : Nat => s.heap.size ≤ q) s.heap H locs) {B1 : Nat} (hB0 : s.heap.size ≤ B1) (hB1 : B1 ≤ H.size) {Mx Mm : Nat → Option va_E} (hMx : mm_W D (fun q => s.heap.size ≤ q ∧ q < B1) Mx H) (hMm : mm_W D (fun q => B1 ≤ q ∧ q < H.size) Mm H) {x st qu lg rd dr tp sa qb lb db : Nat} {fa : Nat → Option Nat} {g h : Nat → Nat} {mo dk it tq qq qg r1 r2 r3 sc hd : Nat} (h_x : Mx x = some (Sum.inr (5, [.ref st, .ref qu, .ref lg, .ref rd, .ref dr, .ref tp, .int 0, .int 10, .int 0, .int 1]) : va_E)) (h_st : Mx st = some (Sum.inr (4, [.ref sa, .int 0, .int (-1), .int 0]) : va_E)) (h_sa : Mx sa = some (Sum.inl (cS, 64, .inr (.inr (.inr (.inr (fa))))) : va_E)) (h_qu : Mx qu = some (Sum.inr (1, [.ref qb, .int 0, .int 0, .int 0]) : va_E)) (h_lg : Mx lg = some (Sum.inr (0, [.ref lb, .int 1, .int 1, .int 0, .int 2, .int 0, .int 2, .int 1]) : va_E)) (h_dr : Mx dr = some (Sum.inr (3, [.ref db, .int 0]) : va_E)) (h_db : Mx db = some (Sum.inl (cI, 64, .inl (fun _ => 0)) : va_E)) (h_tp : Mx tp = some (Sum.inl (cI, 200, .inl (fun _ => 0)) : va_E)) (hI : st_inv cI Mx fa g h gl_F 64) (hne : h 1 ≠ db) (h_mo : Mm mo = some (Sum.inr (6, [.ref dk, .ref it, .int 1, .int (-1), .int 0, .int 10, .int 0, .int 0, .ref tq, .int 0, .ref qq, .int 0, .ref qg, .int 0, .int 0, .int 0, .int 1, .int 1, .int 1, .int 2, .int 2, .int 1, .int 0, .ref r1, .ref r2, .ref r3, .ref sc, .int 0, .ref hd, .int 0, .int 0, .int 0, .int 0, .int 0]) : va_E)) (h_dk : Mm dk = some (Sum.inl (cB, 4096, .inl (md_F)) : va_E)) (h_it : Mm it = some (Sum.inl (cZ, 64, .inl (fun _ => 0)) : va_E)) (h_tq : Mm tq = some (Sum.inl (cB, 200, .inl (fun _ => 0)) : va_E)) (h_sc : Mm sc = some (Sum.inl (cB, 64, .inl (mh_f 1 1 1 2)) : va_E)) (his : it ≠ sc) {ls : Array Slot} (hl : lv_has ls 4 [(0, .ref b), (1, .ref x), (2, .ref mo), (3, .int 0)]) : W p l e room_1 s m #[Value.ref b] below meth c H locs 151 12793 (lw_Z below #[Value.ref b] s) (F0 m 342 ls []) := by
  obtain ⟨hx, hb, hr, hml, hown, hts, hX, hbl, hlocks, hgv⟩ := id C0
  have hts : ∀ w ∈ wsL_law, w.before #[Value.ref b] s = true := fun w h => hts w (wsL_law_in w h)
  have hown : s.vm.findClass RL = some m.cls := hown
  have hb : c.code = cL_law := hb
  have hbA : ¬ (fun q : Nat => s.heap.size ≤ q) b := Nat.not_le.mpr hbl
  obtain ⟨k1, ek1⟩ : ∃ z, z = xs (nI 1).toNatClampNeg := ⟨_, rfl⟩
  obtain ⟨k2, ek2⟩ : ∃ z, z = xs (nI 2).toNatClampNeg := ⟨_, rfl⟩
  obtain ⟨k3, ek3⟩ : ∃ z, z = xs (nI 3).toNatClampNeg := ⟨_, rfl⟩
  refine lv_aload_n hx hb dL_law_342 rfl (lv_at hl 1 rfl) ?_
  refine lv_aload_n hx hb dL_law_343 rfl (lv_at hl 0 rfl) ?_
  refine lv_iload_n hx hb dL_law_344 rfl (lv_at hl 3 rfl) ?_
  refine lv_iconst (v := 1) hx hb dL_law_345 (by decide) ?_
  refine lv_iadd hx hb dL_law_346 ?_
  refine lv_topi (fun z1 ez1 => ?_)
  have ez1 : 1 = z1 := (ez1.trans (by decide)).symm
  subst ez1
  refine va_sld hx hb hX hbl hbA hS (vp_in_nI (n := 1) (by omega) (by decide)) dL_law_347 ?_
  refine lv_topi (fun z2 ez2 => ?_)
  have ez2 : k1 = z2 := (ez2.trans (ek1.symm)).symm
  subst ez2
  refine lv_aload_n hx hb dL_law_348 rfl (lv_at hl 0 rfl) ?_
  refine lv_iload_n hx hb dL_law_349 rfl (lv_at hl 3 rfl) ?_
  refine lv_iconst (v := 2) hx hb dL_law_350 (by decide) ?_
  refine lv_iadd hx hb dL_law_351 ?_
  refine lv_topi (fun z3 ez3 => ?_)
  have ez3 : 2 = z3 := (ez3.trans (by decide)).symm
  subst ez3
  refine va_sld hx hb hX hbl hbA hS (vp_in_nI (n := 2) (by omega) (by decide)) dL_law_352 ?_
  refine lv_topi (fun z4 ez4 => ?_)
  have ez4 : k2 = z4 := (ez4.trans (ek2.symm)).symm
  subst ez4
  have hM : mm_W D (fun q => (s.heap.size ≤ q ∧ q < B1) ∨ H.size ≤ q) Mx H := hMx.base (fun q h _ => Or.inl h)
  have hAA : ∀ q, (fun q => (s.heap.size ≤ q ∧ q < B1) ∨ H.size ≤ q) q → s.heap.size ≤ q := fun q h => h.elim (fun h => h.1) (fun h => Nat.le_trans hS.1 h)
  obtain ⟨B2, eB2⟩ : ∃ z, z = H.size := ⟨_, rfl⟩
  rw [← eB2] at hMm hB1
  refine mm_calli (mm_runV (As := [.int k1, .int k2]) (rest := []) ⟨hx, hb, hml, hown, hts⟩ (c_X5_at h_x h_lg) (cwV 2 hts gL_law_X5_at rfl rfl rfl (by decide +kernel) ⟨Nat.le_of_ble_eq_true rfl, Nat.le_of_ble_eq_true rfl⟩) hK hM h_x rfl rfl hl.1 rfl (Nat.le_of_ble_eq_true rfl) dL_law_353 ⟨Nat.le_of_ble_eq_true rfl, Nat.le_of_ble_eq_true rfl⟩) hS hAA (fun r5 M H locs hp hM hS hz hfr => ?_)
  subst hp
  have hMm := hMm.kept (fun q h hlt => hfr q hlt (fun h2 => h2.elim (fun h3 => by omega) (fun h3 => by omega)))
  refine lv_aload_n hx hb dL_law_356 rfl (lv_at hl 2 rfl) ?_
  refine lv_aload_n hx hb dL_law_357 rfl (lv_at hl 0 rfl) ?_
  refine lv_iload_n hx hb dL_law_358 rfl (lv_at hl 3 rfl) ?_
  refine lv_iconst (v := 1) hx hb dL_law_359 (by decide) ?_
  refine lv_iadd hx hb dL_law_360 ?_
  refine lv_topi (fun z6 ez6 => ?_)
  have ez6 : 1 = z6 := (ez6.trans (by decide)).symm
  subst ez6
  refine va_sld hx hb hX hbl hbA hS (vp_in_nI (n := 1) (by omega) (by decide)) dL_law_361 ?_
  refine lv_topi (fun z7 ez7 => ?_)
  have ez7 : k1 = z7 := (ez7.trans (ek1.symm)).symm
  subst ez7
  refine lv_aload_n hx hb dL_law_362 rfl (lv_at hl 0 rfl) ?_
  refine lv_iload_n hx hb dL_law_363 rfl (lv_at hl 3 rfl) ?_
  refine lv_iconst (v := 2) hx hb dL_law_364 (by decide) ?_
  refine lv_iadd hx hb dL_law_365 ?_
  refine lv_topi (fun z8 ez8 => ?_)
  have ez8 : 2 = z8 := (ez8.trans (by decide)).symm
  subst ez8
  refine va_sld hx hb hX hbl hbA hS (vp_in_nI (n := 2) (by omega) (by decide)) dL_law_366 ?_
  refine lv_topi (fun z9 ez9 => ?_)
  have ez9 : k2 = z9 := (ez9.trans (ek2.symm)).symm
  subst ez9
  have hM : mm_W D (fun q => (B1 ≤ q ∧ q < B2) ∨ H.size ≤ q) Mm H := hMm.base (fun q h _ => Or.inl h)
  have hAA : ∀ q, (fun q => (B1 ≤ q ∧ q < B2) ∨ H.size ≤ q) q → s.heap.size ≤ q := fun q h => h.elim (fun h => by omega) (fun h => Nat.le_trans hS.1 h)
  refine mm_calli (mm_runV (As := [.int k1, .int k2]) (rest := [.int (-1)]) ⟨hx, hb, hml, hown, hts⟩ (c_X6_at h_mo) (cwV 2 hts gL_law_X6_at rfl rfl rfl (by decide +kernel) ⟨Nat.le_of_ble_eq_true rfl, Nat.le_of_ble_eq_true rfl⟩) hK hM h_mo rfl rfl hl.1 rfl (Nat.le_of_ble_eq_true rfl) dL_law_367 ⟨Nat.le_of_ble_eq_true rfl, Nat.le_of_ble_eq_true rfl⟩) hS hAA (fun r10 M H locs hp hM hS hz hfr => ?_)
  subst hp
  refine lv_icmp_eq (tgt := 497) hx hb dL_law_370 (by decide) (fun c_11 => ?_) (fun c_11 => ?_)
  rotate_left
  · exact absurd c_11 (fun h => h rfl)
  exact lw_end C0 hS (lv_sub hl [0, 3] rfl)

set_option maxHeartbeats 4000000 in
set_option maxRecDepth 100000 in
theorem lw_c13 {p : Program} {l : Launch} {e : Env} {s : State} {m : MethodId} {below : List Frame} {meth : Method} {c : Code} {b : Nat} {xs : Nat → Int32} {D : va_G} {cI cS cB cZ : ClassId} (C0 : lw_At p s m meth c b 4 xs) (hK : mm_K D (mm_T cI cS cB cZ) s) {H : Heap} {locs : List Loc} (hS : va_S (fun q : Nat => s.heap.size ≤ q) s.heap H locs) {B1 : Nat} (hB0 : s.heap.size ≤ B1) (hB1 : B1 ≤ H.size) {Mx Mm : Nat → Option va_E} (hMx : mm_W D (fun q => s.heap.size ≤ q ∧ q < B1) Mx H) (hMm : mm_W D (fun q => B1 ≤ q ∧ q < H.size) Mm H) {x st qu lg rd dr tp sa qb lb db : Nat} {fa : Nat → Option Nat} {g h : Nat → Nat} {mo dk it tq qq qg r1 r2 r3 sc hd : Nat} (h_x : Mx x = some (Sum.inr (5, [.ref st, .ref qu, .ref lg, .ref rd, .ref dr, .ref tp, .int 0, .int 10, .int 0, .int 1]) : va_E)) (h_st : Mx st = some (Sum.inr (4, [.ref sa, .int 0, .int (-1), .int 0]) : va_E)) (h_sa : Mx sa = some (Sum.inl (cS, 64, .inr (.inr (.inr (.inr (fa))))) : va_E)) (h_qu : Mx qu = some (Sum.inr (1, [.ref qb, .int 0, .int 0, .int 0]) : va_E)) (h_lg : Mx lg = some (Sum.inr (0, [.ref lb, .int 1, .int 1, .int 0, .int 2, .int 0, .int 2, .int 1]) : va_E)) (h_dr : Mx dr = some (Sum.inr (3, [.ref db, .int 0]) : va_E)) (h_db : Mx db = some (Sum.inl (cI, 64, .inl (fun _ => 0)) : va_E)) (h_tp : Mx tp = some (Sum.inl (cI, 200, .inl (fun _ => 0)) : va_E)) (hI : st_inv cI Mx fa g h gl_F 64) (hne : h 1 ≠ db) (h_mo : Mm mo = some (Sum.inr (6, [.ref dk, .ref it, .int 1, .int (-1), .int 0, .int 10, .int 0, .int 0, .ref tq, .int 0, .ref qq, .int 0, .ref qg, .int 0, .int 0, .int 0, .int 1, .int 1, .int 1, .int 2, .int 2, .int 1, .int 0, .ref r1, .ref r2, .ref r3, .ref sc, .int 0, .ref hd, .int 0, .int 0, .int 0, .int 0, .int 0]) : va_E)) (h_dk : Mm dk = some (Sum.inl (cB, 4096, .inl (md_F)) : va_E)) (h_it : Mm it = some (Sum.inl (cZ, 64, .inl (fun _ => 0)) : va_E)) (h_tq : Mm tq = some (Sum.inl (cB, 200, .inl (fun _ => 0)) : va_E)) (h_sc : Mm sc = some (Sum.inl (cB, 64, .inl (mh_f 1 1 1 2)) : va_E)) (his : it ≠ sc) {ls : Array Slot} (hl : lv_has ls 4 [(0, .ref b), (1, .ref x), (2, .ref mo), (3, .int 0)]) : W p l e room_1 s m #[Value.ref b] below meth c H locs 151 12793 (lw_Z below #[Value.ref b] s) (F0 m 375 ls []) := by
  obtain ⟨hx, hb, hr, hml, hown, hts, hX, hbl, hlocks, hgv⟩ := id C0
  have hts : ∀ w ∈ wsL_law, w.before #[Value.ref b] s = true := fun w h => hts w (wsL_law_in w h)
  have hown : s.vm.findClass RL = some m.cls := hown
  have hb : c.code = cL_law := hb
  have hbA : ¬ (fun q : Nat => s.heap.size ≤ q) b := Nat.not_le.mpr hbl
  obtain ⟨k1, ek1⟩ : ∃ z, z = xs (nI 1).toNatClampNeg := ⟨_, rfl⟩
  obtain ⟨k2, ek2⟩ : ∃ z, z = xs (nI 2).toNatClampNeg := ⟨_, rfl⟩
  obtain ⟨k3, ek3⟩ : ∃ z, z = xs (nI 3).toNatClampNeg := ⟨_, rfl⟩
  refine lv_aload_n hx hb dL_law_375 rfl (lv_at hl 1 rfl) ?_
  refine lv_aload_n hx hb dL_law_376 rfl (lv_at hl 0 rfl) ?_
  refine lv_iload_n hx hb dL_law_377 rfl (lv_at hl 3 rfl) ?_
  refine lv_iconst (v := 1) hx hb dL_law_378 (by decide) ?_
  refine lv_iadd hx hb dL_law_379 ?_
  refine lv_topi (fun z1 ez1 => ?_)
  have ez1 : 1 = z1 := (ez1.trans (by decide)).symm
  subst ez1
  refine va_sld hx hb hX hbl hbA hS (vp_in_nI (n := 1) (by omega) (by decide)) dL_law_380 ?_
  refine lv_topi (fun z2 ez2 => ?_)
  have ez2 : k1 = z2 := (ez2.trans (ek1.symm)).symm
  subst ez2
  refine lv_aload_n hx hb dL_law_381 rfl (lv_at hl 0 rfl) ?_
  refine lv_iload_n hx hb dL_law_382 rfl (lv_at hl 3 rfl) ?_
  refine lv_iconst (v := 2) hx hb dL_law_383 (by decide) ?_
  refine lv_iadd hx hb dL_law_384 ?_
  refine lv_topi (fun z3 ez3 => ?_)
  have ez3 : 2 = z3 := (ez3.trans (by decide)).symm
  subst ez3
  refine va_sld hx hb hX hbl hbA hS (vp_in_nI (n := 2) (by omega) (by decide)) dL_law_385 ?_
  refine lv_topi (fun z4 ez4 => ?_)
  have ez4 : k2 = z4 := (ez4.trans (ek2.symm)).symm
  subst ez4
  have hM : mm_W D (fun q => (s.heap.size ≤ q ∧ q < B1) ∨ H.size ≤ q) Mx H := hMx.base (fun q h _ => Or.inl h)
  have hAA : ∀ q, (fun q => (s.heap.size ≤ q ∧ q < B1) ∨ H.size ≤ q) q → s.heap.size ≤ q := fun q h => h.elim (fun h => h.1) (fun h => Nat.le_trans hS.1 h)
  obtain ⟨B2, eB2⟩ : ∃ z, z = H.size := ⟨_, rfl⟩
  rw [← eB2] at hMm hB1
  refine mm_calli (mm_runV (As := [.int k1, .int k2]) (rest := []) ⟨hx, hb, hml, hown, hts⟩ (c_X5_disk hI h_x h_st h_sa) (cwV 2 hts gL_law_X5_disk rfl rfl rfl (by decide +kernel) ⟨Nat.le_of_ble_eq_true rfl, Nat.le_of_ble_eq_true rfl⟩) hK hM h_x rfl rfl hl.1 rfl (Nat.le_of_ble_eq_true rfl) dL_law_386 ⟨Nat.le_of_ble_eq_true rfl, Nat.le_of_ble_eq_true rfl⟩) hS hAA (fun r5 M H locs hp hM hS hz hfr => ?_)
  subst hp
  have hMm := hMm.kept (fun q h hlt => hfr q hlt (fun h2 => h2.elim (fun h3 => by omega) (fun h3 => by omega)))
  refine lv_aload_n hx hb dL_law_389 rfl (lv_at hl 2 rfl) ?_
  refine lv_aload_n hx hb dL_law_390 rfl (lv_at hl 0 rfl) ?_
  refine lv_iload_n hx hb dL_law_391 rfl (lv_at hl 3 rfl) ?_
  refine lv_iconst (v := 1) hx hb dL_law_392 (by decide) ?_
  refine lv_iadd hx hb dL_law_393 ?_
  refine lv_topi (fun z6 ez6 => ?_)
  have ez6 : 1 = z6 := (ez6.trans (by decide)).symm
  subst ez6
  refine va_sld hx hb hX hbl hbA hS (vp_in_nI (n := 1) (by omega) (by decide)) dL_law_394 ?_
  refine lv_topi (fun z7 ez7 => ?_)
  have ez7 : k1 = z7 := (ez7.trans (ek1.symm)).symm
  subst ez7
  refine lv_aload_n hx hb dL_law_395 rfl (lv_at hl 0 rfl) ?_
  refine lv_iload_n hx hb dL_law_396 rfl (lv_at hl 3 rfl) ?_
  refine lv_iconst (v := 2) hx hb dL_law_397 (by decide) ?_
  refine lv_iadd hx hb dL_law_398 ?_
  refine lv_topi (fun z8 ez8 => ?_)
  have ez8 : 2 = z8 := (ez8.trans (by decide)).symm
  subst ez8
  refine va_sld hx hb hX hbl hbA hS (vp_in_nI (n := 2) (by omega) (by decide)) dL_law_399 ?_
  refine lv_topi (fun z9 ez9 => ?_)
  have ez9 : k2 = z9 := (ez9.trans (ek2.symm)).symm
  subst ez9
  have hM : mm_W D (fun q => (B1 ≤ q ∧ q < B2) ∨ H.size ≤ q) Mm H := hMm.base (fun q h _ => Or.inl h)
  have hAA : ∀ q, (fun q => (B1 ≤ q ∧ q < B2) ∨ H.size ≤ q) q → s.heap.size ≤ q := fun q h => h.elim (fun h => by omega) (fun h => Nat.le_trans hS.1 h)
  refine mm_calli (mm_runV (As := [.int k1, .int k2]) (rest := [.int (dk_f k1 k2)]) ⟨hx, hb, hml, hown, hts⟩ (c_X6_disk h_mo h_dk) (cwV 2 hts gL_law_X6_disk rfl rfl rfl (by decide +kernel) ⟨Nat.le_of_ble_eq_true rfl, Nat.le_of_ble_eq_true rfl⟩) hK hM h_mo rfl rfl hl.1 rfl (Nat.le_of_ble_eq_true rfl) dL_law_400 ⟨Nat.le_of_ble_eq_true rfl, Nat.le_of_ble_eq_true rfl⟩) hS hAA (fun r10 M H locs hp hM hS hz hfr => ?_)
  subst hp
  refine lv_icmp_eq (tgt := 497) hx hb dL_law_403 (by decide) (fun c_11 => ?_) (fun c_11 => ?_)
  rotate_left
  · exact absurd c_11 (fun h => h rfl)
  exact lw_end C0 hS (lv_sub hl [0, 3] rfl)

set_option maxHeartbeats 4000000 in
set_option maxRecDepth 100000 in
theorem lw_c14 {p : Program} {l : Launch} {e : Env} {s : State} {m : MethodId} {below : List Frame} {meth : Method} {c : Code} {b : Nat} {xs : Nat → Int32} {D : va_G} {cI cS cB cZ : ClassId} (C0 : lw_At p s m meth c b 4 xs) (hK : mm_K D (mm_T cI cS cB cZ) s) {H : Heap} {locs : List Loc} (hS : va_S (fun q : Nat => s.heap.size ≤ q) s.heap H locs) {B1 : Nat} (hB0 : s.heap.size ≤ B1) (hB1 : B1 ≤ H.size) {Mx Mm : Nat → Option va_E} (hMx : mm_W D (fun q => s.heap.size ≤ q ∧ q < B1) Mx H) (hMm : mm_W D (fun q => B1 ≤ q ∧ q < H.size) Mm H) {x st qu lg rd dr tp sa qb lb db : Nat} {fa : Nat → Option Nat} {g h : Nat → Nat} {mo dk it tq qq qg r1 r2 r3 sc hd : Nat} (h_x : Mx x = some (Sum.inr (5, [.ref st, .ref qu, .ref lg, .ref rd, .ref dr, .ref tp, .int 0, .int 10, .int 0, .int 1]) : va_E)) (h_st : Mx st = some (Sum.inr (4, [.ref sa, .int 0, .int (-1), .int 0]) : va_E)) (h_sa : Mx sa = some (Sum.inl (cS, 64, .inr (.inr (.inr (.inr (fa))))) : va_E)) (h_qu : Mx qu = some (Sum.inr (1, [.ref qb, .int 0, .int 0, .int 0]) : va_E)) (h_lg : Mx lg = some (Sum.inr (0, [.ref lb, .int 1, .int 1, .int 0, .int 2, .int 0, .int 2, .int 1]) : va_E)) (h_dr : Mx dr = some (Sum.inr (3, [.ref db, .int 0]) : va_E)) (h_db : Mx db = some (Sum.inl (cI, 64, .inl (fun _ => 0)) : va_E)) (h_tp : Mx tp = some (Sum.inl (cI, 200, .inl (fun _ => 0)) : va_E)) (hI : st_inv cI Mx fa g h gl_F 64) (hne : h 1 ≠ db) (h_mo : Mm mo = some (Sum.inr (6, [.ref dk, .ref it, .int 1, .int (-1), .int 0, .int 10, .int 0, .int 0, .ref tq, .int 0, .ref qq, .int 0, .ref qg, .int 0, .int 0, .int 0, .int 1, .int 1, .int 1, .int 2, .int 2, .int 1, .int 0, .ref r1, .ref r2, .ref r3, .ref sc, .int 0, .ref hd, .int 0, .int 0, .int 0, .int 0, .int 0]) : va_E)) (h_dk : Mm dk = some (Sum.inl (cB, 4096, .inl (md_F)) : va_E)) (h_it : Mm it = some (Sum.inl (cZ, 64, .inl (fun _ => 0)) : va_E)) (h_tq : Mm tq = some (Sum.inl (cB, 200, .inl (fun _ => 0)) : va_E)) (h_sc : Mm sc = some (Sum.inl (cB, 64, .inl (mh_f 1 1 1 2)) : va_E)) (his : it ≠ sc) {ls : Array Slot} (hl : lv_has ls 4 [(0, .ref b), (1, .ref x), (2, .ref mo), (3, .int 0)]) : W p l e room_1 s m #[Value.ref b] below meth c H locs 151 12793 (lw_Z below #[Value.ref b] s) (F0 m 408 ls []) := by
  obtain ⟨hx, hb, hr, hml, hown, hts, hX, hbl, hlocks, hgv⟩ := id C0
  have hts : ∀ w ∈ wsL_law, w.before #[Value.ref b] s = true := fun w h => hts w (wsL_law_in w h)
  have hown : s.vm.findClass RL = some m.cls := hown
  have hb : c.code = cL_law := hb
  have hbA : ¬ (fun q : Nat => s.heap.size ≤ q) b := Nat.not_le.mpr hbl
  obtain ⟨k1, ek1⟩ : ∃ z, z = xs (nI 1).toNatClampNeg := ⟨_, rfl⟩
  obtain ⟨k2, ek2⟩ : ∃ z, z = xs (nI 2).toNatClampNeg := ⟨_, rfl⟩
  obtain ⟨k3, ek3⟩ : ∃ z, z = xs (nI 3).toNatClampNeg := ⟨_, rfl⟩
  refine lv_aload_n hx hb dL_law_408 rfl (lv_at hl 1 rfl) ?_
  refine lv_aload_n hx hb dL_law_409 rfl (lv_at hl 0 rfl) ?_
  refine lv_iload_n hx hb dL_law_410 rfl (lv_at hl 3 rfl) ?_
  refine lv_iconst (v := 1) hx hb dL_law_411 (by decide) ?_
  refine lv_iadd hx hb dL_law_412 ?_
  refine lv_topi (fun z1 ez1 => ?_)
  have ez1 : 1 = z1 := (ez1.trans (by decide)).symm
  subst ez1
  refine va_sld hx hb hX hbl hbA hS (vp_in_nI (n := 1) (by omega) (by decide)) dL_law_413 ?_
  refine lv_topi (fun z2 ez2 => ?_)
  have ez2 : k1 = z2 := (ez2.trans (ek1.symm)).symm
  subst ez2
  refine lv_aload_n hx hb dL_law_414 rfl (lv_at hl 0 rfl) ?_
  refine lv_iload_n hx hb dL_law_415 rfl (lv_at hl 3 rfl) ?_
  refine lv_iconst (v := 2) hx hb dL_law_416 (by decide) ?_
  refine lv_iadd hx hb dL_law_417 ?_
  refine lv_topi (fun z3 ez3 => ?_)
  have ez3 : 2 = z3 := (ez3.trans (by decide)).symm
  subst ez3
  refine va_sld hx hb hX hbl hbA hS (vp_in_nI (n := 2) (by omega) (by decide)) dL_law_418 ?_
  refine lv_topi (fun z4 ez4 => ?_)
  have ez4 : k2 = z4 := (ez4.trans (ek2.symm)).symm
  subst ez4
  refine lv_aload_n hx hb dL_law_419 rfl (lv_at hl 0 rfl) ?_
  refine lv_iload_n hx hb dL_law_420 rfl (lv_at hl 3 rfl) ?_
  refine lv_iconst (v := 3) hx hb dL_law_421 (by decide) ?_
  refine lv_iadd hx hb dL_law_422 ?_
  refine lv_topi (fun z5 ez5 => ?_)
  have ez5 : 3 = z5 := (ez5.trans (by decide)).symm
  subst ez5
  refine va_sld hx hb hX hbl hbA hS (vp_in_nI (n := 3) (by omega) (by decide)) dL_law_423 ?_
  refine lv_topi (fun z6 ez6 => ?_)
  have ez6 : k3 = z6 := (ez6.trans (ek3.symm)).symm
  subst ez6
  have hM : mm_W D (fun q => (s.heap.size ≤ q ∧ q < B1) ∨ H.size ≤ q) Mx H := hMx.base (fun q h _ => Or.inl h)
  have hAA : ∀ q, (fun q => (s.heap.size ≤ q ∧ q < B1) ∨ H.size ≤ q) q → s.heap.size ≤ q := fun q h => h.elim (fun h => h.1) (fun h => Nat.le_trans hS.1 h)
  obtain ⟨B2, eB2⟩ : ∃ z, z = H.size := ⟨_, rfl⟩
  rw [← eB2] at hMm hB1
  refine mm_calli (mm_runV (As := [.int k1, .int k2, .int k3]) (rest := []) ⟨hx, hb, hml, hown, hts⟩ (c_X5_poke h_x) (cwV 3 hts gL_law_X5_poke rfl rfl rfl (by decide +kernel) ⟨Nat.le_of_ble_eq_true rfl, Nat.le_of_ble_eq_true rfl⟩) hK hM h_x rfl rfl hl.1 rfl (Nat.le_of_ble_eq_true rfl) dL_law_424 ⟨Nat.le_of_ble_eq_true rfl, Nat.le_of_ble_eq_true rfl⟩) hS hAA (fun r7 M H locs hp hM hS hz hfr => ?_)
  subst hp
  have hMm := hMm.kept (fun q h hlt => hfr q hlt (fun h2 => h2.elim (fun h3 => by omega) (fun h3 => by omega)))
  refine lv_aload_n hx hb dL_law_427 rfl (lv_at hl 2 rfl) ?_
  refine lv_aload_n hx hb dL_law_428 rfl (lv_at hl 0 rfl) ?_
  refine lv_iload_n hx hb dL_law_429 rfl (lv_at hl 3 rfl) ?_
  refine lv_iconst (v := 1) hx hb dL_law_430 (by decide) ?_
  refine lv_iadd hx hb dL_law_431 ?_
  refine lv_topi (fun z8 ez8 => ?_)
  have ez8 : 1 = z8 := (ez8.trans (by decide)).symm
  subst ez8
  refine va_sld hx hb hX hbl hbA hS (vp_in_nI (n := 1) (by omega) (by decide)) dL_law_432 ?_
  refine lv_topi (fun z9 ez9 => ?_)
  have ez9 : k1 = z9 := (ez9.trans (ek1.symm)).symm
  subst ez9
  refine lv_aload_n hx hb dL_law_433 rfl (lv_at hl 0 rfl) ?_
  refine lv_iload_n hx hb dL_law_434 rfl (lv_at hl 3 rfl) ?_
  refine lv_iconst (v := 2) hx hb dL_law_435 (by decide) ?_
  refine lv_iadd hx hb dL_law_436 ?_
  refine lv_topi (fun z10 ez10 => ?_)
  have ez10 : 2 = z10 := (ez10.trans (by decide)).symm
  subst ez10
  refine va_sld hx hb hX hbl hbA hS (vp_in_nI (n := 2) (by omega) (by decide)) dL_law_437 ?_
  refine lv_topi (fun z11 ez11 => ?_)
  have ez11 : k2 = z11 := (ez11.trans (ek2.symm)).symm
  subst ez11
  refine lv_aload_n hx hb dL_law_438 rfl (lv_at hl 0 rfl) ?_
  refine lv_iload_n hx hb dL_law_439 rfl (lv_at hl 3 rfl) ?_
  refine lv_iconst (v := 3) hx hb dL_law_440 (by decide) ?_
  refine lv_iadd hx hb dL_law_441 ?_
  refine lv_topi (fun z12 ez12 => ?_)
  have ez12 : 3 = z12 := (ez12.trans (by decide)).symm
  subst ez12
  refine va_sld hx hb hX hbl hbA hS (vp_in_nI (n := 3) (by omega) (by decide)) dL_law_442 ?_
  refine lv_topi (fun z13 ez13 => ?_)
  have ez13 : k3 = z13 := (ez13.trans (ek3.symm)).symm
  subst ez13
  have hM : mm_W D (fun q => (B1 ≤ q ∧ q < B2) ∨ H.size ≤ q) Mm H := hMm.base (fun q h _ => Or.inl h)
  have hAA : ∀ q, (fun q => (B1 ≤ q ∧ q < B2) ∨ H.size ≤ q) q → s.heap.size ≤ q := fun q h => h.elim (fun h => by omega) (fun h => Nat.le_trans hS.1 h)
  refine mm_calli (mm_runV (As := [.int k1, .int k2, .int k3]) (rest := [.int 0]) ⟨hx, hb, hml, hown, hts⟩ (c_X6_poke h_mo) (cwV 3 hts gL_law_X6_poke rfl rfl rfl (by decide +kernel) ⟨Nat.le_of_ble_eq_true rfl, Nat.le_of_ble_eq_true rfl⟩) hK hM h_mo rfl rfl hl.1 rfl (Nat.le_of_ble_eq_true rfl) dL_law_443 ⟨Nat.le_of_ble_eq_true rfl, Nat.le_of_ble_eq_true rfl⟩) hS hAA (fun r14 M H locs hp hM hS hz hfr => ?_)
  subst hp
  refine lv_icmp_eq (tgt := 497) hx hb dL_law_446 (by decide) (fun c_15 => ?_) (fun c_15 => ?_)
  rotate_left
  · exact absurd c_15 (fun h => h rfl)
  exact lw_end C0 hS (lv_sub hl [0, 3] rfl)

set_option maxHeartbeats 4000000 in
set_option maxRecDepth 100000 in
theorem lw_c15 {p : Program} {l : Launch} {e : Env} {s : State} {m : MethodId} {below : List Frame} {meth : Method} {c : Code} {b : Nat} {xs : Nat → Int32} {D : va_G} {cI cS cB cZ : ClassId} (C0 : lw_At p s m meth c b 4 xs) (hK : mm_K D (mm_T cI cS cB cZ) s) {H : Heap} {locs : List Loc} (hS : va_S (fun q : Nat => s.heap.size ≤ q) s.heap H locs) {B1 : Nat} (hB0 : s.heap.size ≤ B1) (hB1 : B1 ≤ H.size) {Mx Mm : Nat → Option va_E} (hMx : mm_W D (fun q => s.heap.size ≤ q ∧ q < B1) Mx H) (hMm : mm_W D (fun q => B1 ≤ q ∧ q < H.size) Mm H) {x st qu lg rd dr tp sa qb lb db : Nat} {fa : Nat → Option Nat} {g h : Nat → Nat} {mo dk it tq qq qg r1 r2 r3 sc hd : Nat} (h_x : Mx x = some (Sum.inr (5, [.ref st, .ref qu, .ref lg, .ref rd, .ref dr, .ref tp, .int 0, .int 10, .int 0, .int 1]) : va_E)) (h_st : Mx st = some (Sum.inr (4, [.ref sa, .int 0, .int (-1), .int 0]) : va_E)) (h_sa : Mx sa = some (Sum.inl (cS, 64, .inr (.inr (.inr (.inr (fa))))) : va_E)) (h_qu : Mx qu = some (Sum.inr (1, [.ref qb, .int 0, .int 0, .int 0]) : va_E)) (h_lg : Mx lg = some (Sum.inr (0, [.ref lb, .int 1, .int 1, .int 0, .int 2, .int 0, .int 2, .int 1]) : va_E)) (h_dr : Mx dr = some (Sum.inr (3, [.ref db, .int 0]) : va_E)) (h_db : Mx db = some (Sum.inl (cI, 64, .inl (fun _ => 0)) : va_E)) (h_tp : Mx tp = some (Sum.inl (cI, 200, .inl (fun _ => 0)) : va_E)) (hI : st_inv cI Mx fa g h gl_F 64) (hne : h 1 ≠ db) (h_mo : Mm mo = some (Sum.inr (6, [.ref dk, .ref it, .int 1, .int (-1), .int 0, .int 10, .int 0, .int 0, .ref tq, .int 0, .ref qq, .int 0, .ref qg, .int 0, .int 0, .int 0, .int 1, .int 1, .int 1, .int 2, .int 2, .int 1, .int 0, .ref r1, .ref r2, .ref r3, .ref sc, .int 0, .ref hd, .int 0, .int 0, .int 0, .int 0, .int 0]) : va_E)) (h_dk : Mm dk = some (Sum.inl (cB, 4096, .inl (md_F)) : va_E)) (h_it : Mm it = some (Sum.inl (cZ, 64, .inl (fun _ => 0)) : va_E)) (h_tq : Mm tq = some (Sum.inl (cB, 200, .inl (fun _ => 0)) : va_E)) (h_sc : Mm sc = some (Sum.inl (cB, 64, .inl (mh_f 1 1 1 2)) : va_E)) (his : it ≠ sc) {ls : Array Slot} (hl : lv_has ls 4 [(0, .ref b), (1, .ref x), (2, .ref mo), (3, .int 0)]) : W p l e room_1 s m #[Value.ref b] below meth c H locs 151 12793 (lw_Z below #[Value.ref b] s) (F0 m 451 ls []) := by
  obtain ⟨hx, hb, hr, hml, hown, hts, hX, hbl, hlocks, hgv⟩ := id C0
  have hts : ∀ w ∈ wsL_law, w.before #[Value.ref b] s = true := fun w h => hts w (wsL_law_in w h)
  have hown : s.vm.findClass RL = some m.cls := hown
  have hb : c.code = cL_law := hb
  have hbA : ¬ (fun q : Nat => s.heap.size ≤ q) b := Nat.not_le.mpr hbl
  obtain ⟨k1, ek1⟩ : ∃ z, z = xs (nI 1).toNatClampNeg := ⟨_, rfl⟩
  obtain ⟨k2, ek2⟩ : ∃ z, z = xs (nI 2).toNatClampNeg := ⟨_, rfl⟩
  obtain ⟨k3, ek3⟩ : ∃ z, z = xs (nI 3).toNatClampNeg := ⟨_, rfl⟩
  refine lv_aload_n hx hb dL_law_451 rfl (lv_at hl 1 rfl) ?_
  refine lv_aload_n hx hb dL_law_452 rfl (lv_at hl 0 rfl) ?_
  refine lv_iload_n hx hb dL_law_453 rfl (lv_at hl 3 rfl) ?_
  refine lv_iconst (v := 1) hx hb dL_law_454 (by decide) ?_
  refine lv_iadd hx hb dL_law_455 ?_
  refine lv_topi (fun z1 ez1 => ?_)
  have ez1 : 1 = z1 := (ez1.trans (by decide)).symm
  subst ez1
  refine va_sld hx hb hX hbl hbA hS (vp_in_nI (n := 1) (by omega) (by decide)) dL_law_456 ?_
  refine lv_topi (fun z2 ez2 => ?_)
  have ez2 : k1 = z2 := (ez2.trans (ek1.symm)).symm
  subst ez2
  have hM : mm_W D (fun q => (s.heap.size ≤ q ∧ q < B1) ∨ H.size ≤ q) Mx H := hMx.base (fun q h _ => Or.inl h)
  have hAA : ∀ q, (fun q => (s.heap.size ≤ q ∧ q < B1) ∨ H.size ≤ q) q → s.heap.size ≤ q := fun q h => h.elim (fun h => h.1) (fun h => Nat.le_trans hS.1 h)
  obtain ⟨B2, eB2⟩ : ∃ z, z = H.size := ⟨_, rfl⟩
  rw [← eB2] at hMm hB1
  refine mm_calli (mm_runV (As := [.int k1]) (rest := []) ⟨hx, hb, hml, hown, hts⟩ (c_X5_torn hI h_x h_st h_sa) (cwV 1 hts gL_law_X5_torn rfl rfl rfl (by decide +kernel) ⟨Nat.le_of_ble_eq_true rfl, Nat.le_of_ble_eq_true rfl⟩) hK hM h_x rfl rfl hl.1 rfl (Nat.le_of_ble_eq_true rfl) dL_law_457 ⟨Nat.le_of_ble_eq_true rfl, Nat.le_of_ble_eq_true rfl⟩) hS hAA (fun r3 M H locs hp hM hS hz hfr => ?_)
  subst hp
  have hMm := hMm.kept (fun q h hlt => hfr q hlt (fun h2 => h2.elim (fun h3 => by omega) (fun h3 => by omega)))
  refine lv_aload_n hx hb dL_law_460 rfl (lv_at hl 2 rfl) ?_
  refine lv_aload_n hx hb dL_law_461 rfl (lv_at hl 0 rfl) ?_
  refine lv_iload_n hx hb dL_law_462 rfl (lv_at hl 3 rfl) ?_
  refine lv_iconst (v := 1) hx hb dL_law_463 (by decide) ?_
  refine lv_iadd hx hb dL_law_464 ?_
  refine lv_topi (fun z4 ez4 => ?_)
  have ez4 : 1 = z4 := (ez4.trans (by decide)).symm
  subst ez4
  refine va_sld hx hb hX hbl hbA hS (vp_in_nI (n := 1) (by omega) (by decide)) dL_law_465 ?_
  refine lv_topi (fun z5 ez5 => ?_)
  have ez5 : k1 = z5 := (ez5.trans (ek1.symm)).symm
  subst ez5
  have hM : mm_W D (fun q => (B1 ≤ q ∧ q < B2) ∨ H.size ≤ q) Mm H := hMm.base (fun q h _ => Or.inl h)
  have hAA : ∀ q, (fun q => (B1 ≤ q ∧ q < B2) ∨ H.size ≤ q) q → s.heap.size ≤ q := fun q h => h.elim (fun h => by omega) (fun h => Nat.le_trans hS.1 h)
  refine mm_calli (mm_runV (As := [.int k1]) (rest := [.int 0]) ⟨hx, hb, hml, hown, hts⟩ (c_X6_torn h_mo h_it) (cwV 1 hts gL_law_X6_torn rfl rfl rfl (by decide +kernel) ⟨Nat.le_of_ble_eq_true rfl, Nat.le_of_ble_eq_true rfl⟩) hK hM h_mo rfl rfl hl.1 rfl (Nat.le_of_ble_eq_true rfl) dL_law_466 ⟨Nat.le_of_ble_eq_true rfl, Nat.le_of_ble_eq_true rfl⟩) hS hAA (fun r6 M H locs hp hM hS hz hfr => ?_)
  subst hp
  refine lv_icmp_eq (tgt := 497) hx hb dL_law_469 (by decide) (fun c_7 => ?_) (fun c_7 => ?_)
  rotate_left
  · exact absurd c_7 (fun h => h rfl)
  exact lw_end C0 hS (lv_sub hl [0, 3] rfl)

set_option maxHeartbeats 4000000 in
set_option maxRecDepth 100000 in
theorem lw_c16 {p : Program} {l : Launch} {e : Env} {s : State} {m : MethodId} {below : List Frame} {meth : Method} {c : Code} {b : Nat} {xs : Nat → Int32} {D : va_G} {cI cS cB cZ : ClassId} (C0 : lw_At p s m meth c b 4 xs) (hK : mm_K D (mm_T cI cS cB cZ) s) {H : Heap} {locs : List Loc} (hS : va_S (fun q : Nat => s.heap.size ≤ q) s.heap H locs) {B1 : Nat} (hB0 : s.heap.size ≤ B1) (hB1 : B1 ≤ H.size) {Mx Mm : Nat → Option va_E} (hMx : mm_W D (fun q => s.heap.size ≤ q ∧ q < B1) Mx H) (hMm : mm_W D (fun q => B1 ≤ q ∧ q < H.size) Mm H) {x st qu lg rd dr tp sa qb lb db : Nat} {fa : Nat → Option Nat} {g h : Nat → Nat} {mo dk it tq qq qg r1 r2 r3 sc hd : Nat} (h_x : Mx x = some (Sum.inr (5, [.ref st, .ref qu, .ref lg, .ref rd, .ref dr, .ref tp, .int 0, .int 10, .int 0, .int 1]) : va_E)) (h_st : Mx st = some (Sum.inr (4, [.ref sa, .int 0, .int (-1), .int 0]) : va_E)) (h_sa : Mx sa = some (Sum.inl (cS, 64, .inr (.inr (.inr (.inr (fa))))) : va_E)) (h_qu : Mx qu = some (Sum.inr (1, [.ref qb, .int 0, .int 0, .int 0]) : va_E)) (h_lg : Mx lg = some (Sum.inr (0, [.ref lb, .int 1, .int 1, .int 0, .int 2, .int 0, .int 2, .int 1]) : va_E)) (h_dr : Mx dr = some (Sum.inr (3, [.ref db, .int 0]) : va_E)) (h_db : Mx db = some (Sum.inl (cI, 64, .inl (fun _ => 0)) : va_E)) (h_tp : Mx tp = some (Sum.inl (cI, 200, .inl (fun _ => 0)) : va_E)) (hI : st_inv cI Mx fa g h gl_F 64) (hne : h 1 ≠ db) (h_mo : Mm mo = some (Sum.inr (6, [.ref dk, .ref it, .int 1, .int (-1), .int 0, .int 10, .int 0, .int 0, .ref tq, .int 0, .ref qq, .int 0, .ref qg, .int 0, .int 0, .int 0, .int 1, .int 1, .int 1, .int 2, .int 2, .int 1, .int 0, .ref r1, .ref r2, .ref r3, .ref sc, .int 0, .ref hd, .int 0, .int 0, .int 0, .int 0, .int 0]) : va_E)) (h_dk : Mm dk = some (Sum.inl (cB, 4096, .inl (md_F)) : va_E)) (h_it : Mm it = some (Sum.inl (cZ, 64, .inl (fun _ => 0)) : va_E)) (h_tq : Mm tq = some (Sum.inl (cB, 200, .inl (fun _ => 0)) : va_E)) (h_sc : Mm sc = some (Sum.inl (cB, 64, .inl (mh_f 1 1 1 2)) : va_E)) (his : it ≠ sc) {ls : Array Slot} (hl : lv_has ls 4 [(0, .ref b), (1, .ref x), (2, .ref mo), (3, .int 0)]) : W p l e room_1 s m #[Value.ref b] below meth c H locs 151 12793 (lw_Z below #[Value.ref b] s) (F0 m 474 ls []) := by
  obtain ⟨hx, hb, hr, hml, hown, hts, hX, hbl, hlocks, hgv⟩ := id C0
  have hts : ∀ w ∈ wsL_law, w.before #[Value.ref b] s = true := fun w h => hts w (wsL_law_in w h)
  have hown : s.vm.findClass RL = some m.cls := hown
  have hb : c.code = cL_law := hb
  have hbA : ¬ (fun q : Nat => s.heap.size ≤ q) b := Nat.not_le.mpr hbl
  obtain ⟨k1, ek1⟩ : ∃ z, z = xs (nI 1).toNatClampNeg := ⟨_, rfl⟩
  obtain ⟨k2, ek2⟩ : ∃ z, z = xs (nI 2).toNatClampNeg := ⟨_, rfl⟩
  obtain ⟨k3, ek3⟩ : ∃ z, z = xs (nI 3).toNatClampNeg := ⟨_, rfl⟩
  refine lv_aload_n hx hb dL_law_474 rfl (lv_at hl 1 rfl) ?_
  refine lv_aload_n hx hb dL_law_475 rfl (lv_at hl 0 rfl) ?_
  refine lv_iload_n hx hb dL_law_476 rfl (lv_at hl 3 rfl) ?_
  refine lv_iconst (v := 1) hx hb dL_law_477 (by decide) ?_
  refine lv_iadd hx hb dL_law_478 ?_
  refine lv_topi (fun z1 ez1 => ?_)
  have ez1 : 1 = z1 := (ez1.trans (by decide)).symm
  subst ez1
  refine va_sld hx hb hX hbl hbA hS (vp_in_nI (n := 1) (by omega) (by decide)) dL_law_479 ?_
  refine lv_topi (fun z2 ez2 => ?_)
  have ez2 : k1 = z2 := (ez2.trans (ek1.symm)).symm
  subst ez2
  have hM : mm_W D (fun q => (s.heap.size ≤ q ∧ q < B1) ∨ H.size ≤ q) Mx H := hMx.base (fun q h _ => Or.inl h)
  have hAA : ∀ q, (fun q => (s.heap.size ≤ q ∧ q < B1) ∨ H.size ≤ q) q → s.heap.size ≤ q := fun q h => h.elim (fun h => h.1) (fun h => Nat.le_trans hS.1 h)
  obtain ⟨B2, eB2⟩ : ∃ z, z = H.size := ⟨_, rfl⟩
  rw [← eB2] at hMm hB1
  refine mm_calli (mm_runV (As := [.int k1]) (rest := []) ⟨hx, hb, hml, hown, hts⟩ (c_X5_count hI h_x h_st h_sa h_qu h_lg) (cwV 1 hts gL_law_X5_count rfl rfl rfl (by decide +kernel) ⟨Nat.le_of_ble_eq_true rfl, Nat.le_of_ble_eq_true rfl⟩) hK hM h_x rfl rfl hl.1 rfl (Nat.le_of_ble_eq_true rfl) dL_law_480 ⟨Nat.le_of_ble_eq_true rfl, Nat.le_of_ble_eq_true rfl⟩) hS hAA (fun r3 M H locs hp hM hS hz hfr => ?_)
  subst hp
  have hMm := hMm.kept (fun q h hlt => hfr q hlt (fun h2 => h2.elim (fun h3 => by omega) (fun h3 => by omega)))
  refine lv_aload_n hx hb dL_law_483 rfl (lv_at hl 2 rfl) ?_
  refine lv_aload_n hx hb dL_law_484 rfl (lv_at hl 0 rfl) ?_
  refine lv_iload_n hx hb dL_law_485 rfl (lv_at hl 3 rfl) ?_
  refine lv_iconst (v := 1) hx hb dL_law_486 (by decide) ?_
  refine lv_iadd hx hb dL_law_487 ?_
  refine lv_topi (fun z4 ez4 => ?_)
  have ez4 : 1 = z4 := (ez4.trans (by decide)).symm
  subst ez4
  refine va_sld hx hb hX hbl hbA hS (vp_in_nI (n := 1) (by omega) (by decide)) dL_law_488 ?_
  refine lv_topi (fun z5 ez5 => ?_)
  have ez5 : k1 = z5 := (ez5.trans (ek1.symm)).symm
  subst ez5
  have hM : mm_W D (fun q => (B1 ≤ q ∧ q < B2) ∨ H.size ≤ q) Mm H := hMm.base (fun q h _ => Or.inl h)
  have hAA : ∀ q, (fun q => (B1 ≤ q ∧ q < B2) ∨ H.size ≤ q) q → s.heap.size ≤ q := fun q h => h.elim (fun h => by omega) (fun h => Nat.le_trans hS.1 h)
  refine mm_calli (mm_runV (As := [.int k1]) (rest := [.int (ct_f k1)]) ⟨hx, hb, hml, hown, hts⟩ (c_X6_count h_mo) (cwV 1 hts gL_law_X6_count rfl rfl rfl (by decide +kernel) ⟨Nat.le_of_ble_eq_true rfl, Nat.le_of_ble_eq_true rfl⟩) hK hM h_mo rfl rfl hl.1 rfl (Nat.le_of_ble_eq_true rfl) dL_law_489 ⟨Nat.le_of_ble_eq_true rfl, Nat.le_of_ble_eq_true rfl⟩) hS hAA (fun r6 M H locs hp hM hS hz hfr => ?_)
  subst hp
  refine lv_icmp_eq (tgt := 497) hx hb dL_law_492 (by decide) (fun c_7 => ?_) (fun c_7 => ?_)
  rotate_left
  · exact absurd c_7 (fun h => h rfl)
  exact lw_end C0 hS (lv_sub hl [0, 3] rfl)

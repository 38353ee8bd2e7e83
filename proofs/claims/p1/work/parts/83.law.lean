theorem nf_in : ∀ q ∈ mm_NF, mm_nc q ∈ lw_tbl := by decide +kernel
set_option maxHeartbeats 4000000 in
set_option maxRecDepth 100000 in
theorem lw_K {b : Nat} {s : State} (hts : ∀ w ∈ lw_tbl, w.before #[Value.ref b] s = true) : ∃ (D : va_G) (cI cS cB cZ : ClassId), mm_K D (mm_T cI cS cB cZ) s := by
  obtain ⟨c0, i0, n0⟩ := u_known (C := RX0) (T := TX0) (N := 8) (n := 8) hts inX0 (hts (.instantiable RX0 8) (by decide +kernel))
  obtain ⟨c1, i1, n1⟩ := u_known (C := RX1) (T := TX1) (N := 4) (n := 4) hts inX1 (hts (.instantiable RX1 4) (by decide +kernel))
  obtain ⟨c2, i2, n2⟩ := u_known (C := RX2) (T := TX2) (N := 5) (n := 5) hts inX2 (hts (.instantiable RX2 5) (by decide +kernel))
  obtain ⟨c3, i3, n3⟩ := u_known (C := RX3) (T := TX3) (N := 2) (n := 2) hts inX3 (hts (.instantiable RX3 2) (by decide +kernel))
  obtain ⟨c4, i4, n4⟩ := u_known (C := RX4) (T := TX4) (N := 4) (n := 4) hts inX4 (hts (.instantiable RX4 4) (by decide +kernel))
  obtain ⟨c5, i5, n5⟩ := u_known (C := RX5) (T := TX5) (N := 10) (n := 10) hts inX5 (hts (.instantiable RX5 10) (by decide +kernel))
  obtain ⟨c6, i6, n6⟩ := u_known (C := RX6) (T := TX6) (N := 34) (n := 34) hts inX6 (hts (.instantiable RX6 34) (by decide +kernel))
  obtain ⟨aI, kI, pI, fI, gI, eI⟩ := Cond.arrayClass_spec (hts (.arrayClass .int) (by decide +kernel))
  obtain ⟨aB, kB, pB, fB, gB, eB⟩ := Cond.arrayClass_spec (hts (.arrayClass .byte) (by decide +kernel))
  obtain ⟨aZ, kZ, pZ, fZ, gZ, eZ⟩ := Cond.arrayClass_spec (hts (.arrayClass .boolean) (by decide +kernel))
  have hao : (Cond.arrayOver (.object RX3)).before #[Value.ref b] s = true := hts _ (by decide +kernel)
  obtain ⟨pS, aS, kS, fS, -, gS, eS, nS⟩ := Cond.arrayOver_spec hao
  refine ⟨(fun k => [c0, c1, c2, c3, c4, c5, c6].getD k c0, fun k => [i0, i1, i2, i3, i4, i5, i6].getD k i0), aI, aS, aB, aZ, ⟨fun k q hq => ?_, fun k q hq => ?_⟩, fun q hq => va_Nw.of rfl (hts (mm_nc q) (nf_in q hq)), va_AO.of hao⟩
  · match k, hq with
    | 0, hq => cases hq; exact n0
    | 1, hq => cases hq; exact n1
    | 2, hq => cases hq; exact n2
    | 3, hq => cases hq; exact n3
    | 4, hq => cases hq; exact n4
    | 5, hq => cases hq; exact n5
    | 6, hq => cases hq; exact n6
    | k + 7, hq => simp [vwCl] at hq
  · match k, hq with
    | 0, hq => cases hq; exact ⟨fun n z => ⟨fun k h => (by cases h), kI, gI, pI, eI⟩, fI⟩
    | 1, hq => cases hq; exact ⟨fun n z => ⟨fun k h => (by cases h), kS, gS, pS, eS⟩, kS, pS, gS, eS, fS, nS⟩
    | 2, hq => cases hq; exact ⟨fun n z => ⟨fun k h => (by cases h), kB, gB, pB, eB⟩, fB⟩
    | 3, hq => cases hq; exact ⟨fun n z => ⟨fun k h => (by cases h), kZ, gZ, pZ, eZ⟩, fZ⟩
    | k + 4, hq => simp [mm_T] at hq

set_option maxHeartbeats 4000000 in
set_option maxRecDepth 100000 in
theorem lw_sw {p : Program} {l : Launch} {e : Env} {s : State} {m : MethodId} {below : List Frame} {meth : Method} {c : Code} {b : Nat} {xs : Nat → Int32} {D : va_G} {cI cS cB cZ : ClassId} (C0 : lw_At p s m meth c b 4 xs) (hK : mm_K D (mm_T cI cS cB cZ) s) {H : Heap} {locs : List Loc} (hS : va_S (fun q : Nat => s.heap.size ≤ q) s.heap H locs) {B1 : Nat} (hB0 : s.heap.size ≤ B1) (hB1 : B1 ≤ H.size) {Mx Mm : Nat → Option va_E} (hMx : mm_W D (fun q => s.heap.size ≤ q ∧ q < B1) Mx H) (hMm : mm_W D (fun q => B1 ≤ q ∧ q < H.size) Mm H) {x st qu lg rd dr tp sa qb lb db : Nat} {fa : Nat → Option Nat} {g h : Nat → Nat} {mo dk it tq qq qg r1 r2 r3 sc hd : Nat} (h_x : Mx x = some (Sum.inr (5, [.ref st, .ref qu, .ref lg, .ref rd, .ref dr, .ref tp, .int 0, .int 10, .int 0, .int 1]) : va_E)) (h_st : Mx st = some (Sum.inr (4, [.ref sa, .int 0, .int (-1), .int 0]) : va_E)) (h_sa : Mx sa = some (Sum.inl (cS, 64, .inr (.inr (.inr (.inr (fa))))) : va_E)) (h_qu : Mx qu = some (Sum.inr (1, [.ref qb, .int 0, .int 0, .int 0]) : va_E)) (h_lg : Mx lg = some (Sum.inr (0, [.ref lb, .int 1, .int 1, .int 0, .int 2, .int 0, .int 2, .int 1]) : va_E)) (h_dr : Mx dr = some (Sum.inr (3, [.ref db, .int 0]) : va_E)) (h_db : Mx db = some (Sum.inl (cI, 64, .inl (fun _ => 0)) : va_E)) (h_tp : Mx tp = some (Sum.inl (cI, 200, .inl (fun _ => 0)) : va_E)) (hI : st_inv cI Mx fa g h gl_F 64) (hne : h 1 ≠ db) (h_mo : Mm mo = some (Sum.inr (6, [.ref dk, .ref it, .int 1, .int (-1), .int 0, .int 10, .int 0, .int 0, .ref tq, .int 0, .ref qq, .int 0, .ref qg, .int 0, .int 0, .int 0, .int 1, .int 1, .int 1, .int 2, .int 2, .int 1, .int 0, .ref r1, .ref r2, .ref r3, .ref sc, .int 0, .ref hd, .int 0, .int 0, .int 0, .int 0, .int 0]) : va_E)) (h_dk : Mm dk = some (Sum.inl (cB, 4096, .inl (md_F)) : va_E)) (h_it : Mm it = some (Sum.inl (cZ, 64, .inl (fun _ => 0)) : va_E)) (h_tq : Mm tq = some (Sum.inl (cB, 200, .inl (fun _ => 0)) : va_E)) (h_sc : Mm sc = some (Sum.inl (cB, 64, .inl (mh_f 1 1 1 2)) : va_E)) (his : it ≠ sc) {ls : Array Slot} (hl : lv_has ls 4 [(0, .ref b), (1, .ref x), (2, .ref mo), (3, .int 0)]) : W p l e room_1 s m #[Value.ref b] below meth c H locs 151 12793 (lw_Z below #[Value.ref b] s) (F0 m 18 ls []) := by
  obtain ⟨hx, hb, hr, hml, hown, hts, hX, hbl, hlocks, hgv⟩ := id C0
  have hts : ∀ w ∈ wsL_law, w.before #[Value.ref b] s = true := fun w h => hts w (wsL_law_in w h)
  have hown : s.vm.findClass RL = some m.cls := hown
  have hb : c.code = cL_law := hb
  have hbA : ¬ (fun q : Nat => s.heap.size ≤ q) b := Nat.not_le.mpr hbl
  obtain ⟨k0, ek0⟩ : ∃ z, z = xs (nI 0).toNatClampNeg := ⟨_, rfl⟩
  refine lv_iload_n hx hb dL_law_18 rfl (lv_at hl 3 rfl) ?_
  refine lv_aload_n hx hb dL_law_19 rfl (lv_at hl 0 rfl) ?_
  refine va_slen hx hb hX hbl hbA hS dL_law_20 ?_
  refine lv_iconst (v := 4) hx hb dL_law_21 (by decide) ?_
  refine lv_isub hx hb dL_law_22 ?_
  refine lv_topi (fun z1 ez1 => ?_)
  have ez1 : 0 = z1 := (ez1.trans (by decide)).symm
  subst ez1
  refine lv_icmp_gt (tgt := 503) hx hb dL_law_23 (by decide) (fun c_2 => ?_) (fun c_2 => ?_)
  · exact absurd c_2 (by decide)
  refine lv_aload_n hx hb dL_law_26 rfl (lv_at hl 0 rfl) ?_
  refine lv_iload_n hx hb dL_law_27 rfl (lv_at hl 3 rfl) ?_
  refine va_sld hx hb hX hbl hbA hS (vp_in_nI (n := 0) (by omega) (by decide)) dL_law_28 ?_
  refine lv_topi (fun z3 ez3 => ?_)
  have ez3 : k0 = z3 := (ez3.trans (ek0.symm)).symm
  subst ez3
  refine lv_bipush (v := 31) hx hb dL_law_29 (by decide) ?_
  refine lv_iand hx hb dL_law_31 ?_
  obtain ⟨j, hj, ej⟩ := pk_andE k0 (m := 31) 5 (by decide)
  rw [ej]
  have hc : j = 0 ∨ j = 1 ∨ j = 2 ∨ j = 3 ∨ j = 4 ∨ j = 5 ∨ j = 6 ∨ j = 7 ∨ j = 8 ∨ j = 9 ∨ j = 10 ∨ j = 11 ∨ j = 12 ∨ j = 13 ∨ j = 14 ∨ j = 15 ∨ j = 16 ∨ 17 ≤ j := by omega
  rcases hc with rfl | rfl | rfl | rfl | rfl | rfl | rfl | rfl | rfl | rfl | rfl | rfl | rfl | rfl | rfl | rfl | rfl | hc
  · refine lv_tableIn (off := 84) (tgt := 116) hx hb dL_law_32 (by decide) (by decide) (by decide) (by decide) ?_
    exact lw_c0 C0 hK hS hB0 hB1 hMx hMm h_x h_st h_sa h_qu h_lg h_dr h_db h_tp hI hne h_mo h_dk h_it h_tq h_sc his hl
  · refine lv_tableIn (off := 107) (tgt := 139) hx hb dL_law_32 (by decide) (by decide) (by decide) (by decide) ?_
    exact lw_c1 C0 hK hS hB0 hB1 hMx hMm h_x h_st h_sa h_qu h_lg h_dr h_db h_tp hI hne h_mo h_dk h_it h_tq h_sc his hl
  · refine lv_tableIn (off := 130) (tgt := 162) hx hb dL_law_32 (by decide) (by decide) (by decide) (by decide) ?_
    exact lw_c2 C0 hK hS hB0 hB1 hMx hMm h_x h_st h_sa h_qu h_lg h_dr h_db h_tp hI hne h_mo h_dk h_it h_tq h_sc his hl
  · refine lv_tableIn (off := 143) (tgt := 175) hx hb dL_law_32 (by decide) (by decide) (by decide) (by decide) ?_
    exact lw_c3 C0 hK hS hB0 hB1 hMx hMm h_x h_st h_sa h_qu h_lg h_dr h_db h_tp hI hne h_mo h_dk h_it h_tq h_sc his hl
  · refine lv_tableIn (off := 156) (tgt := 188) hx hb dL_law_32 (by decide) (by decide) (by decide) (by decide) ?_
    exact lw_c4 C0 hK hS hB0 hB1 hMx hMm h_x h_st h_sa h_qu h_lg h_dr h_db h_tp hI hne h_mo h_dk h_it h_tq h_sc his hl
  · refine lv_tableIn (off := 179) (tgt := 211) hx hb dL_law_32 (by decide) (by decide) (by decide) (by decide) ?_
    exact lw_c5 C0 hK hS hB0 hB1 hMx hMm h_x h_st h_sa h_qu h_lg h_dr h_db h_tp hI hne h_mo h_dk h_it h_tq h_sc his hl
  · refine lv_tableIn (off := 202) (tgt := 234) hx hb dL_law_32 (by decide) (by decide) (by decide) (by decide) ?_
    exact lw_c6 C0 hK hS hB0 hB1 hMx hMm h_x h_st h_sa h_qu h_lg h_dr h_db h_tp hI hne h_mo h_dk h_it h_tq h_sc his hl
  · refine lv_tableIn (off := 215) (tgt := 247) hx hb dL_law_32 (by decide) (by decide) (by decide) (by decide) ?_
    exact lw_c7 C0 hK hS hB0 hB1 hMx hMm h_x h_st h_sa h_qu h_lg h_dr h_db h_tp hI hne h_mo h_dk h_it h_tq h_sc his hl
  · refine lv_tableIn (off := 248) (tgt := 280) hx hb dL_law_32 (by decide) (by decide) (by decide) (by decide) ?_
    exact lw_c8 C0 hK hS hB0 hB1 hMx hMm h_x h_st h_sa h_qu h_lg h_dr h_db h_tp hI hne h_mo h_dk h_it h_tq h_sc his hl
  · refine lv_tableIn (off := 261) (tgt := 293) hx hb dL_law_32 (by decide) (by decide) (by decide) (by decide) ?_
    exact lw_c9 C0 hK hS hB0 hB1 hMx hMm h_x h_st h_sa h_qu h_lg h_dr h_db h_tp hI hne h_mo h_dk h_it h_tq h_sc his hl
  · refine lv_tableIn (off := 274) (tgt := 306) hx hb dL_law_32 (by decide) (by decide) (by decide) (by decide) ?_
    exact lw_c10 C0 hK hS hB0 hB1 hMx hMm h_x h_st h_sa h_qu h_lg h_dr h_db h_tp hI hne h_mo h_dk h_it h_tq h_sc his hl
  · refine lv_tableIn (off := 287) (tgt := 319) hx hb dL_law_32 (by decide) (by decide) (by decide) (by decide) ?_
    exact lw_c11 C0 hK hS hB0 hB1 hMx hMm h_x h_st h_sa h_qu h_lg h_dr h_db h_tp hI hne h_mo h_dk h_it h_tq h_sc his hl
  · refine lv_tableIn (off := 310) (tgt := 342) hx hb dL_law_32 (by decide) (by decide) (by decide) (by decide) ?_
    exact lw_c12 C0 hK hS hB0 hB1 hMx hMm h_x h_st h_sa h_qu h_lg h_dr h_db h_tp hI hne h_mo h_dk h_it h_tq h_sc his hl
  · refine lv_tableIn (off := 343) (tgt := 375) hx hb dL_law_32 (by decide) (by decide) (by decide) (by decide) ?_
    exact lw_c13 C0 hK hS hB0 hB1 hMx hMm h_x h_st h_sa h_qu h_lg h_dr h_db h_tp hI hne h_mo h_dk h_it h_tq h_sc his hl
  · refine lv_tableIn (off := 376) (tgt := 408) hx hb dL_law_32 (by decide) (by decide) (by decide) (by decide) ?_
    exact lw_c14 C0 hK hS hB0 hB1 hMx hMm h_x h_st h_sa h_qu h_lg h_dr h_db h_tp hI hne h_mo h_dk h_it h_tq h_sc his hl
  · refine lv_tableIn (off := 419) (tgt := 451) hx hb dL_law_32 (by decide) (by decide) (by decide) (by decide) ?_
    exact lw_c15 C0 hK hS hB0 hB1 hMx hMm h_x h_st h_sa h_qu h_lg h_dr h_db h_tp hI hne h_mo h_dk h_it h_tq h_sc his hl
  · refine lv_tableIn (off := 442) (tgt := 474) hx hb dL_law_32 (by decide) (by decide) (by decide) (by decide) ?_
    exact lw_c16 C0 hK hS hB0 hB1 hMx hMm h_x h_st h_sa h_qu h_lg h_dr h_db h_tp hI hne h_mo h_dk h_it h_tq h_sc his hl
  · refine lv_tableOut (tgt := 497) hx hb dL_law_32 (Or.inr (by rw [nI_toInt (by omega)]; omega)) (by decide) ?_
    exact lw_end C0 hS (lv_sub hl [0, 3] rfl)

set_option maxHeartbeats 4000000 in
set_option maxRecDepth 100000 in
theorem whole_start {p : Program} {e : Env} {s : State} {m : MethodId} {below : List Frame} {meth : Method} {c : Code} (l : Launch) {b L : Nat} {xs : Nat → Int32} (hL : L ≤ 4) (C0 : lw_At p s m meth c b L xs) : W p l e room_1 s m #[Value.ref b] below meth c s.heap [] 0 0 (lw_Z below #[Value.ref b] s) (entryFrame m ([Value.ref b] : List Value).toArray 4) := by
  obtain ⟨hx, hb, hr, hml, hown, htb, hX, hbl, hlocks, hgv⟩ := id C0
  have hts : ∀ w ∈ wsL_law, w.before #[Value.ref b] s = true := fun w h => htb w (wsL_law_in w h)
  have hown : s.vm.findClass RL = some m.cls := hown
  have hb : c.code = cL_law := hb
  have hA : ∀ q : Nat, s.heap.size ≤ q → (fun q : Nat => s.heap.size ≤ q) q := fun _ h => h
  have hbA : ¬ (fun q : Nat => s.heap.size ≤ q) b := Nat.not_le.mpr hbl
  obtain ⟨D, cI, cS, cB, cZ, hK⟩ := lw_K htb
  have hS : va_S (fun q : Nat => s.heap.size ≤ q) s.heap s.heap [] := va_S.rf
  have hM : mm_W D (fun q : Nat => s.heap.size ≤ q) (fun _ => none) s.heap := ⟨[], fun k q h => by simp at h, ⟨fun i j p q h => by simp at h, fun k q h => by simp at h⟩, fun a e h => by cases h⟩
  have hl := lv_entry ([.ref b]) (n := 4) (Nat.le_of_ble_eq_true rfl)
  rw [lg_entry_eq]
  generalize (lg_sl ([.ref b]) ++ List.replicate (4 - (lg_sl ([.ref b])).length) Slot.unset).toArray = ls at hl ⊢
  have hl : lv_has ls 4 [(0, .ref b)] := hl
  refine mm_new (ci := 5) (fs := [.null, .null, .null, .null, .null, .null, .int 0, .int 0, .int 0, .int 0]) (C := RX5) (T := TX5) (N := 10) hx hb hts inlX5 tyX5 tyX5_ok hown (hts (.classLink RL 7 RX5) (List.mem_of_getElem? (i := 0) rfl)) (hts (.instantiable RX5 10) (List.mem_of_getElem? (i := 1) rfl)) (hts (.initialized RX5) (List.mem_of_getElem? (i := 2) rfl)) hK hM hS hA rfl (def_X5) (Nat.le_of_ble_eq_true rfl) (Nat.le_of_ble_eq_true rfl) dL_law_0 (fun x H M hM ha hn ho hS => ?_)
  have h_x : _ = some (Sum.inr (5, [.null, .null, .null, .null, .null, .null, .int 0, .int 0, .int 0, .int 0]) : va_E) := ha
  refine W.widen (k := 1) (n := 10) (by omega) (by omega) ?_
  refine lv_dup hx hb dL_law_3 rfl ?_
  have hAA : ∀ q, (fun q : Nat => s.heap.size ≤ q) q → s.heap.size ≤ q := fun _ h => h
  refine mm_callv (mm_runI (As := []) (rest := [.ref x]) ⟨hx, hb, hml, hown, hts⟩ (c_X5_init (mm_hA hA hS) h_x) (cwI 0 hts gL_law_X5_init rfl rfl rfl (hts (.initialized RX5) (List.mem_of_getElem? (i := 2) rfl)) (hts (.methodLink RL 9 yX5_init) (List.mem_of_getElem? (i := 6) rfl)) (hts (.instanceMethod yX5_init) (List.mem_of_getElem? (i := 7) rfl)) rfl (by decide +kernel) ⟨Nat.le_of_ble_eq_true rfl, Nat.le_of_ble_eq_true rfl⟩) hK hM rfl hl.1 rfl (Nat.le_of_ble_eq_true rfl) dL_law_4 ⟨Nat.le_of_ble_eq_true rfl, Nat.le_of_ble_eq_true rfl⟩) hS hAA (fun M H locs hp hM hS hz hfr => ?_)
  refine W.widen (k := 140) (n := 5709) (by omega) (by omega) ?_
  obtain ⟨st, qu, lg, rd, dr, tp, sa, qb, lb, db, fa, g, h, h_x, h_st, h_sa, h_qu, h_lg, h_dr, h_db, h_tp, hI, hne⟩ := hp
  obtain ⟨Mx, eMx⟩ : ∃ z, z = M := ⟨_, rfl⟩
  subst eMx
  obtain ⟨B1, eB1⟩ : ∃ z, z = H.size := ⟨_, rfl⟩
  have hB0 : s.heap.size ≤ B1 := by rw [eB1]; exact hS.1
  have hMx : mm_W D (fun q => s.heap.size ≤ q ∧ q < B1) Mx H := hM.base (fun q h h2 => ⟨h, by rw [eB1]; exact h2⟩)
  refine lv_astore_n (lv' := [(1, .ref x), (0, .ref b)]) hx hb dL_law_7 rfl hl (by decide) rfl (fun ls hl => ?_)
  refine va_forget (fun q hq => hS.2.2 q hq) ?_
  obtain ⟨Hx, eHx⟩ : ∃ z, z = H := ⟨_, rfl⟩
  have hSx : va_S (fun q : Nat => s.heap.size ≤ q) s.heap Hx [] := ⟨by rw [eHx]; exact hS.1, by rw [eHx]; exact hS.2.1, fun _ h => by cases h⟩
  have hS : va_S (fun q : Nat => B1 ≤ q) Hx H [] := by rw [eHx]; exact va_S.rf
  have hA : ∀ q : Nat, Hx.size ≤ q → (fun q : Nat => B1 ≤ q) q := fun q h => by rw [eHx, ← eB1] at h; exact h
  have hM : mm_W D (fun q : Nat => B1 ≤ q) (fun _ => none) H := ⟨[], fun k q h => by simp at h, ⟨fun i j p q h => by simp at h, fun k q h => by simp at h⟩, fun a e h => by cases h⟩
  rw [← eHx] at eB1 hMx
  refine mm_new (ci := 6) (fs := [.null, .null, .int 0, .int 0, .int 0, .int 0, .int 0, .int 0, .null, .int 0, .null, .int 0, .null, .int 0, .int 0, .int 0, .int 0, .int 0, .int 0, .int 0, .int 0, .int 0, .int 0, .null, .null, .null, .null, .int 0, .null, .int 0, .int 0, .int 0, .int 0, .int 0]) (C := RX6) (T := TX6) (N := 34) hx hb hts inlX6 tyX6 tyX6_ok hown (hts (.classLink RL 10 RX6) (List.mem_of_getElem? (i := 3) rfl)) (hts (.instantiable RX6 34) (List.mem_of_getElem? (i := 4) rfl)) (hts (.initialized RX6) (List.mem_of_getElem? (i := 5) rfl)) hK hM hS hA rfl (def_X6) (Nat.le_of_ble_eq_true rfl) (Nat.le_of_ble_eq_true rfl) dL_law_8 (fun mo H M hM ha hn ho hS => ?_)
  have h_mo : _ = some (Sum.inr (6, [.null, .null, .int 0, .int 0, .int 0, .int 0, .int 0, .int 0, .null, .int 0, .null, .int 0, .null, .int 0, .int 0, .int 0, .int 0, .int 0, .int 0, .int 0, .int 0, .int 0, .int 0, .null, .null, .null, .null, .int 0, .null, .int 0, .int 0, .int 0, .int 0, .int 0]) : va_E) := ha
  refine W.widen (k := 141) (n := 5743) (by omega) (by omega) ?_
  refine lv_dup hx hb dL_law_11 rfl ?_
  have hAA : ∀ q, (fun q : Nat => B1 ≤ q) q → (fun q : Nat => B1 ≤ q) q := fun _ h => h
  refine mm_callv (mm_runI (As := []) (rest := [.ref mo]) ⟨hx, hb, hml, hown, hts⟩ (c_X6_init (mm_hA hA hS) h_mo) (cwI 0 hts gL_law_X6_init rfl rfl rfl (hts (.initialized RX6) (List.mem_of_getElem? (i := 5) rfl)) (hts (.methodLink RL 12 yX6_init) (List.mem_of_getElem? (i := 117) rfl)) (hts (.instanceMethod yX6_init) (List.mem_of_getElem? (i := 118) rfl)) rfl (by decide +kernel) ⟨Nat.le_of_ble_eq_true rfl, Nat.le_of_ble_eq_true rfl⟩) hK hM rfl hl.1 rfl (Nat.le_of_ble_eq_true rfl) dL_law_12 ⟨Nat.le_of_ble_eq_true rfl, Nat.le_of_ble_eq_true rfl⟩) hS hAA (fun M H locs hp hM hS hz hfr => ?_)
  refine W.widen (k := 151) (n := 12793) (by omega) (by omega) ?_
  obtain ⟨dk, it, tq, qq, qg, r1, r2, r3, sc, hd, h_mo, h_dk, h_it, h_tq, h_sc, his⟩ := hp
  have hMx := hMx.kept (fun q h h2 => hS.2.1 q h2 (fun h3 => absurd h.2 (Nat.not_lt.mpr h3)))
  have hB1 : B1 ≤ H.size := by rw [eB1]; exact hS.1
  have hMm := hM.base (B := fun q => B1 ≤ q ∧ q < H.size) (fun q h h2 => ⟨h, h2⟩)
  have hS : va_S (fun q : Nat => s.heap.size ≤ q) s.heap H locs := ⟨Nat.le_trans hSx.1 hS.1, fun q h1 h2 => (hS.2.1 q (Nat.lt_of_lt_of_le h1 hSx.1) (fun h3 => h2 (Nat.le_trans hB0 h3))).trans (hSx.2.1 q h1 h2), fun l hl => Nat.le_trans hB0 (hS.2.2 l hl)⟩
  refine lv_astore_n (lv' := [(2, .ref mo), (1, .ref x), (0, .ref b)]) hx hb dL_law_15 rfl hl (by decide) rfl (fun ls hl => ?_)
  refine lv_iconst (v := 0) hx hb dL_law_16 (by decide) ?_
  refine lv_istore_n (lv' := [(3, .int 0), (2, .ref mo), (1, .ref x), (0, .ref b)]) hx hb dL_law_17 rfl hl (by decide) rfl (fun ls hl => ?_)
  have hl := lv_sub (l' := [(0, .ref b), (1, .ref x), (2, .ref mo), (3, .int 0)]) hl [3, 2, 1, 0] rfl
  by_cases h4 : L = 4
  · subst h4
    exact lw_sw C0 hK hS hB0 hB1 hMx hMm h_x h_st h_sa h_qu h_lg h_dr h_db h_tp hI hne h_mo h_dk h_it h_tq h_sc his hl
  · skip
    refine lv_iload_n hx hb dL_law_18 rfl (lv_at hl 3 rfl) ?_
    refine lv_aload_n hx hb dL_law_19 rfl (lv_at hl 0 rfl) ?_
    refine va_slen hx hb hX hbl hbA hS dL_law_20 ?_
    refine lv_iconst (v := 4) hx hb dL_law_21 (by decide) ?_
    refine lv_isub hx hb dL_law_22 ?_
    refine lv_icmp_gt (tgt := 503) hx hb dL_law_23 (by decide) (fun c_1 => ?_) (fun c_1 => ?_)
    rotate_left
    · exact absurd c_1 (fun h => h (pk_sneg (a := L) (b := 4) (by decide) (by omega)))
    refine lv_iconst (v := 1) hx hb dL_law_503 (by decide) ?_
    refine va_forget (fun q hq => hS.2.2 q hq) ?_
    refine W.widen (k := 600000) (n := 7302250) (by omega) (by omega) ?_
    exact lw_ret hx hb hr hlocks dL_law_504

-- ===== YOUR PART ENDS =====
set_option maxHeartbeats 4000000 in
theorem lw_walk (l : Launch) (b : Addr) (xs : List Int32) : MetFree l x (headSpec (Jvm.Cond.code x code maxLocals ret :: tables_1) room_1) (lw_P b xs) (fun _ _ _ _ _ => True) lw_Q := by
  refine MetFree.of_bodyS (code := code) (maxLocals := maxLocals) (ret := ret) (by decide) ?_ ?_
  · intro args s m h hn
    obtain ⟨meth, c, h1, h2, h3, h4, h5, h6, -, -⟩ := Cond.code_spec hn (atoms_spec (ws := Jvm.Cond.code x code maxLocals ret :: tables_1) h _ List.mem_cons_self)
    exact ⟨meth, c, h1, h2, h3, h4, h5, h6⟩
  · intro p e s m args below meth c s₁ B hml0 hP _
    obtain ⟨rfl, hx, hbd, hgv⟩ := hP
    obtain ⟨scr, harrAt, hlist, hof, hsmall⟩ := hx
    obtain ⟨hcb, hkn, -, -⟩ := State.arrayAt?_spec harrAt
    have hown : s.vm.findClass R_law = some m.cls := findClass_of_methodNamed B.named
    have hts0 : ∀ c ∈ (Jvm.Cond.code x code maxLocals ret :: tables_1), c.before #[Value.ref b] s = true := atoms_spec (ws := Jvm.Cond.code x code maxLocals ret :: tables_1) B.pre
    have hts : ∀ w ∈ lw_tbl, w.before #[Value.ref b] s = true := k2_hts_sels lw_privs (fun w hw => hts0 w (List.mem_cons_of_mem _ hw)) lw_privs_ok
    have hml : c.maxLocals = 4 := B.maxLocals_eq (hts0 _ List.mem_cons_self)
    have X₀ : Stand p l e room_1 s m #[Value.ref b] below meth c s₁ [] 0 0 := Stand.of_body B
    have hh0 : s₁.heap = s.heap := by rw [B.state]; rfl
    have hsz : scr.slots.size = xs.length := by rw [← Array.length_toList, hlist, List.length_map]
    have hval : ∀ j : Nat, j < xs.length → scr.slots[j]? = some (.int (xs.getD j 0)) := fun j hj => by
      rw [← Array.getElem?_toList, hlist]
      simp [hj]
    have hbl : b < s.heap.size := (Array.getElem?_eq_some_iff.mp hcb).1
    have hX : va_X b xs.length (fun j => xs.getD j 0) s s.heap := ⟨scr, hcb, hof, hkn, hsz, hval⟩
    have K : W p l e room_1 s m #[Value.ref b] below meth c s₁.heap [] 0 0 (lw_Z below #[Value.ref b] s) (entryFrame m ([Value.ref b] : List Value).toArray 4) := by
      rw [hh0]
      exact whole_start l hbd ⟨B.exec, B.bytes, B.returns, hml, hown, hts, hX, hbl, B.notSynchronized, hgv⟩
    obtain ⟨t, a1, o, b1, b2, b3⟩ := K s₁ rfl X₀
    exact ⟨t, o, a1, b1, b2, b3⟩
theorem lw_pre_spec {args : Array Value} {s : State} (h : (Jvm.Cond.and given_1 narrow_1).before args s = true) (hr : rest_1_c.before args s = true) : ∃ (b : Addr) (xs : List Int32), lw_P b xs args s := by
  have hs := flat_of_before _ h
  have hq := flat_of_before _ hr
  have hc : (Cond.count 1).before args s = true := hs _ (by decide +kernel)
  have harr : (Cond.arrayOf (.arg 0) .int).before args s = true := hs _ (by decide +kernel)
  have hle : (Cond.le (.length (.arg 0)) (.int 4)).before args s = true := hs _ (by decide +kernel)
  have hlen : (Cond.isInt (.length (.arg 0))).before args s = true := hq _ (by decide +kernel)
  have hall : (Cond.all (.arg 0) (.isInt (.elem (.arg 0) (.index 0)))).before args s = true := hq _ (by decide +kernel)
  obtain ⟨b, xs, hb, hx⟩ := State.ints_of_pre rfl harr hlen hall
  have hsm : xs.length < 2 ^ 31 := hx.choose_spec.2.2.2
  have hev : (Term.length (.arg 0)).eval args s none [] s = some (.int xs.length.toInt32) := hx.length_eval hb
  have hv := Cond.le_ints hev (show (Term.int 4).eval args s none [] s = some (.int 4) from rfl)
  have hd : xs.length.toInt32 ≤ 4 := by
    simpa [Cond.before, Cond.holds, hv] using hle
  have hN : xs.length ≤ 4 := (Int32.ofNat_le_ofNat hsm (by decide)).mp (show Int32.ofNat xs.length ≤ Int32.ofNat 4 from hd)
  exact ⟨b, xs, Cond.one_arg hc (show args[0]? = some (.ref b) from hb), hx, hN, h⟩
theorem lw_comes (l : Launch) : Comes l x (Jvm.Cond.code x code maxLocals ret :: tables_1) room_1 (fun tb e args s => Calls_1 tb e args s ∧ rest_1 tb e args s ∧ Pre_1 tb e args s)
    (fun _ _ args s o t => lw_Q args s o t) := by
  intro p e ha hc hk s m args below hf hfit hheap happ hpre
  obtain ⟨b, xs, hP⟩ := lw_pre_spec hpre.2.2 hpre.2.1
  obtain ⟨k, o, h1, h2, h3, hQ⟩ := lw_walk l b xs p e ha hc hk s m args below hf ((Spec.applies_iff_loose hf).mp happ).1 hP trivial
  exact ⟨k, o, h1, h2, h3, hQ⟩
theorem lw_frame {s t : State} {o : Outcome} {args : Array Value} (h : Framed s o t [] 600000 7302250) :
    Framed s o t (fieldLocs frame_1_writes args s ++ arrayLocs frame_1_arrays args s ++ staticLocs frame_1_statics s) 600000 7302250 := h
theorem lw_limb (L : Cond) (hL : ∀ (args : Array Value) (s t : State), L.after args s (.returned (some (.int 1))) t = true) :
    ArmFor flags0 classFile x code maxLocals ret World_1 tables_1 room_1 Calls_1 rest_1 Pre_1
      (fun tb e a s o t => postC L tb e a s o t ∧ Framed s o t (fieldLocs frame_1_writes a s ++ arrayLocs frame_1_arrays a s ++ staticLocs frame_1_statics s) 600000 7302250) := by
  intro l _ _ _ p e ha hc hk s m args below hf hfit hheap happ hpre
  obtain ⟨k, o, h1, h2, h3, rfl, hF⟩ := lw_comes l p e ha hc hk s m args below hf hfit hheap happ hpre
  exact ⟨k, _, h1, h2, h3, hL args s _, lw_frame hF⟩
theorem i_vc : Claimed_1_1 ∧ Claimed_1_2 := ⟨lw_limb limb_1_1 (fun args s t => by simp [limb_1_1, Cond.after, Cond.holds, Cond.value]), lw_limb limb_1_2 (fun args s t => Cond.after_iff.mpr (by
  first | (rw [show limb_1_2 = Cond.eq .result (.int 1) from rfl, Cond.eq_ints (x := 1) (y := 1) rfl rfl]; simp; done) | (simp [limb_1_2, Cond.value, Term.eval]; done)))⟩

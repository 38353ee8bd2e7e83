/-! ===== the world as a map from addresses to cells ===== -/
/-- the heap holds what the map says, all of it within A -/
def mm_W (D : va_G) (A : Nat → Prop) (M : Nat → Option va_E) (H : Heap) : Prop := ∃ ws : va_W, va_P D vwCl ws H ∧ va_D A ws ∧ ∀ (a : Nat) (e : va_E), M a = some e → ∃ k : Nat, ws[k]? = some (a, e)
/-- the array classes: of int, of Sector, of byte, of boolean -/
abbrev mm_T (cI cS cB cZ : ClassId) : List (ClassId × FieldType) := [(cI, .int), (cS, .object RX3), (cB, .byte), (cZ, .boolean)]
/-- the fields of nest mates that GroupLog reads or writes from outside -/
def mm_NF : List (Nat × String × String × String) := [(102, "GroupLog$Queue", "waited", "I"), (105, "GroupLog$Log", "keptFrom", "I"), (114, "GroupLog$Log", "nextSerial", "I"), (131, "GroupLog$Store", "stepsLeft", "I"), (134, "GroupLog$Store", "part", "I"), (153, "GroupLog$Log", "firstRecord", "I"), (178, "GroupLog$Sector", "isTorn", "Z"), (181, "GroupLog$Store", "steps", "I"), (187, "GroupLog$Log", "nextPlace", "I"), (82, "GroupLog$Log", "used", "I"), (85, "GroupLog$Log", "lastSafe", "I"), (88, "GroupLog$Queue", "records", "I"), (95, "GroupLog$Queue", "length", "I")]
abbrev mm_nc (q : Nat × String × String × String) : Cond := .fieldLinkNest "GroupLog" q.1 q.2.1 q.2.2.1 q.2.2.2 "GroupLog"
/-- what a method's start says of the tables: classes, array classes, nest mates' fields, arrays over Sector -/
def mm_K (D : va_G) (tys : List (ClassId × FieldType)) (U : State) : Prop := va_K D vwCl tys U ∧ (∀ q ∈ mm_NF, va_Nw (mm_nc q) U) ∧ va_AO RX3 U
theorem mm_K.warm {D : va_G} {tys : List (ClassId × FieldType)} {s U : State} (h : mm_K D tys s) (hW : s.WarmedH U.vm) : mm_K D tys U := ⟨va_K.moved hW.alike h.1, fun q hq => va_Nw.warmF hW (h.2.1 q hq), va_AO.moved hW.alike h.2.2⟩
theorem mm_K.same {D : va_G} {tys : List (ClassId × FieldType)} {s U : State} (h : mm_K D tys s) (hv : s.vm = U.vm) : mm_K D tys U := ⟨va_K.moved (by rw [hv]; exact Vm.Alike.refl _) h.1, fun q hq => va_Nw.same rfl hv (h.2.1 q hq), va_AO.moved (by rw [hv]; exact Vm.Alike.refl _) h.2.2⟩
/-- a method's start -/
def mm_Pc (D : va_G) (A : Nat → Prop) (tys : List (ClassId × FieldType)) (M : Nat → Option va_E) (sz : Nat) (av : List Value) : Array Value → State → Prop := va_Pc av (fun U => U.heap.size = sz ∧ mm_W D A M U.heap ∧ mm_K D tys U)
theorem mm_blind (D : va_G) (A : Nat → Prop) (tys : List (ClassId × FieldType)) (M : Nat → Option va_E) (sz : Nat) (av : List Value) : FrameBlind (mm_Pc D A tys M sz av) := fun a U g mk q => by
  obtain ⟨q0, q1, qM, qK⟩ := q
  exact ⟨q0, q1, qM, mm_K.same (s := U) (U := U.calling g mk a) qK rfl⟩
theorem mm_pre {D : va_G} {A : Nat → Prop} {tys : List (ClassId × FieldType)} {M : Nat → Option va_E} {H : Heap} {s : State} (av : List Value) (hM : mm_W D A M H) (hK : mm_K D tys s) : ∀ U : State, U.heap = H → s.WarmedH U.vm → mm_Pc D A tys M H.size av av.toArray U := fun U hU hW => ⟨rfl, by rw [hU], by rw [hU]; exact hM, hK.warm hW⟩
theorem mm_ne {M : Nat → Option va_E} {a b : Nat} {e1 e2 : va_E} (h1 : M a = some e1) (h2 : M b = some e2) (h : e1 ≠ e2) : a ≠ b := fun e => h (by rw [e, h2] at h1; exact (Option.some.inj h1).symm)
theorem mm_nn {M : Nat → Option va_E} {a b : Nat} {e1 : va_E} (h1 : M a = some e1) (h2 : M b = none) : a ≠ b := fun e => by rw [e, h2] at h1; cases h1
theorem mm_oo {c d : Nat} {x y : List Value} (h : c ≠ d) : (Sum.inr (c, x) : va_E) ≠ .inr (d, y) := fun e => h (by injection e with e; injection e)
theorem mm_oa {c : Nat} {x : List Value} {y : ClassId × vp_A} : (Sum.inr (c, x) : va_E) ≠ .inl y := fun e => by cases e
theorem mm_ao {c : Nat} {x : List Value} {y : ClassId × vp_A} : (Sum.inl y : va_E) ≠ .inr (c, x) := fun e => by cases e
theorem mm_an {c d : ClassId} {n k : Nat} {f g} (h : n ≠ k) : (Sum.inl (c, n, f) : va_E) ≠ .inl (d, k, g) := fun e => h (by injection e with e; injection e with _ e; injection e)
theorem mm_set {D : va_G} {A : Nat → Prop} {M : Nat → Option va_E} {H1 : Heap} {ws : va_W} {k a : Nat} {e0 e : va_E} (hw : ∀ (a : Nat) (e : va_E), M a = some e → ∃ k : Nat, ws[k]? = some (a, e)) (hk : ws[k]? = some (a, e0)) (hP1 : va_P D vwCl (ws.set k (a, e)) H1) (hD1 : va_D A (ws.set k (a, e))) : ∃ M1 : Nat → Option va_E, mm_W D A M1 H1 ∧ M1 a = some e ∧ ∀ b, b ≠ a → M1 b = M b := by
  refine ⟨va_up M a (some e), ⟨_, hP1, hD1, fun b x hb => ?_⟩, va_up_self _ _ _, fun b h => va_up_ne _ _ h⟩
  have hlt : k < ws.length := (List.getElem?_eq_some_iff.mp hk).1
  by_cases h : b = a
  · subst h
    rw [va_up_self] at hb
    cases hb
    exact ⟨k, by simp [hlt]⟩
  · rw [va_up_ne _ _ h] at hb
    obtain ⟨j, hj⟩ := hw b x hb
    refine ⟨j, ?_⟩
    have hjk : k ≠ j := fun q => h (by
      rw [← q, hk] at hj
      have := Option.some.inj hj
      injection this with q1 q2
      exact q1.symm)
    rw [List.getElem?_set_ne hjk]
    exact hj
theorem mm_push {D : va_G} {A : Nat → Prop} {M : Nat → Option va_E} {H1 : Heap} {ws : va_W} {q : Nat} {e : va_E} (hw : ∀ (a : Nat) (e : va_E), M a = some e → ∃ k : Nat, ws[k]? = some (a, e)) (hP1 : va_P D vwCl (ws ++ [(q, e)]) H1) (hD1 : va_D A (ws ++ [(q, e)])) : ∃ M1 : Nat → Option va_E, mm_W D A M1 H1 ∧ M1 q = some e ∧ M q = none ∧ ∀ b, b ≠ q → M1 b = M b := by
  refine ⟨va_up M q (some e), ⟨_, hP1, hD1, fun b x hb => ?_⟩, va_up_self _ _ _, ?_, fun b h => va_up_ne _ _ h⟩
  · by_cases h : b = q
    · subst h
      rw [va_up_self] at hb
      cases hb
      exact ⟨ws.length, by simp⟩
    · rw [va_up_ne _ _ h] at hb
      obtain ⟨j, hj⟩ := hw b x hb
      exact ⟨j, by rw [List.getElem?_append_left (List.getElem?_eq_some_iff.mp hj).1]; exact hj⟩
  · cases hq : M q with
    | none => rfl
    | some x =>
      obtain ⟨j, hj⟩ := hw q x hq
      have hlt := (List.getElem?_eq_some_iff.mp hj).1
      have := hD1.1 j ws.length (q, x) (q, e) (by rw [List.getElem?_append_left hlt]; exact hj) (by simp) rfl
      omega
/-- the same world told by fewer cells, or by cells that are the same on the heap -/
theorem mm_W.less {D : va_G} {A : Nat → Prop} {M M1 : Nat → Option va_E} {H : Heap} (h : mm_W D A M H) (hl : ∀ a e, M1 a = some e → M a = some e) : mm_W D A M1 H := by
  obtain ⟨ws, hP, hD, hw⟩ := h
  exact ⟨ws, hP, hD, fun a e he => hw a e (hl a e he)⟩
theorem mm_W.lt {D : va_G} {A : Nat → Prop} {M : Nat → Option va_E} {H : Heap} (h : mm_W D A M H) {a : Nat} {e : va_E} (he : M a = some e) : a < H.size ∧ A a := by
  obtain ⟨ws, hP, hD, hw⟩ := h
  obtain ⟨k, hk⟩ := hw a e he
  exact ⟨(hP k _ hk).lt, hD.2 k _ hk⟩
/-- an array of ints: only what stands within its length counts -/
theorem mm_W.ext {D : va_G} {A : Nat → Prop} {M : Nat → Option va_E} {H : Heap} {a n : Nat} {cA : ClassId} {f : Nat → Int32} (h : mm_W D A M H) (ha : M a = some (.inl (cA, n, .inl f))) (g : Nat → Int32) (hg : ∀ k, k < n → f k = g k) : ∃ M1 : Nat → Option va_E, mm_W D A M1 H ∧ M1 a = some (.inl (cA, n, .inl g)) ∧ ∀ b, b ≠ a → M1 b = M b := by
  obtain ⟨ws, hP, hD, hw⟩ := h
  obtain ⟨k, hk⟩ := hw _ _ ha
  have hc : vp_cell cA (n, .inl f) = vp_cell cA (n, .inl g) := by
    rw [vp_cell_i, vp_cell_i]
    unfold arrV
    congr 1
    apply Array.ext
    · simp
    · intro i h1 h2
      simp at h1 ⊢
      exact hg i (by simpa using h1)
  refine mm_set (e := .inl (cA, n, .inl g)) hw hk (hP.set hD hk ?_ (fun q _ => rfl)) (hD.set hk)
  show H[a]? = some (vp_cell _ _)
  rw [← hc]
  exact hP k _ hk
section MMR
variable {p : Program} {l : Launch} {e : Env} {R : Room} {s : State} {m : MethodId} {args : Array Value} {below : List Frame} {meth : Method} {c : Code} {H : Heap} {locs : List Loc} {cells slots : Nat} {Q : State → Prop}
variable {cc : ByteArray} {pc : Nat} {ls : Array Slot} {rest : List Value} {D : va_G} {A : Nat → Prop} {a : Nat} {tys : List (ClassId × FieldType)} {M : Nat → Option va_E} {H0 : Heap}

theorem mm_get (hexec : p.tables.exec = Jvm.exec) (hb : c.code = cc) {own C : String} {T : u_T} {N ci index : Nat} {Ts : List Cond} (hts : ∀ w ∈ Ts, w.before args s = true) (hin : ∀ w ∈ u_ws C T N, w ∈ Ts) (hown : s.vm.findClass own = some m.cls) (hK : mm_K D tys s) (hM : mm_W D A M H) {fs : List Value} (he : M a = some (.inr (ci, fs))) (hc : vwCl[ci]? = some (C, T, N)) (k : Nat) (hk : k < N) (hlink : (Cond.fieldLink own index (T k).1 (T k).2.1 (T k).2.2.1).before args s = true) {v : Value} (hv : fs[k]? = some v) (hdg : decode cc pc = .ok (.getfield index, 3))
    (kk : W p l e R s m args below meth c H locs cells slots Q (F0 m (pc + 3) ls (v :: rest))) : W p l e R s m args below meth c H locs cells slots Q (F0 m pc ls (.ref a :: rest)) := by
  obtain ⟨ws, hP, hD, hw⟩ := hM
  obtain ⟨q0, hq⟩ := hw _ _ he
  exact va_get hexec hb hts hin hown hK.1 hP q0 hq hc k hk hlink (fun _ h => h) hv hdg kk
theorem mm_getN (hexec : p.tables.exec = Jvm.exec) (hb : c.code = cc) {own C : String} {T : u_T} {N ci index : Nat} {Ts : List Cond} (hts : ∀ w ∈ Ts, w.before args s = true) (hin : ∀ w ∈ u_ws C T N, w ∈ Ts) (hown : s.vm.findClass own = some m.cls) (hK : mm_K D tys s) (hM : mm_W D A M H) {fs : List Value} (he : M a = some (.inr (ci, fs))) (hc : vwCl[ci]? = some (C, T, N)) (k : Nat) (hk : k < N) (hlink : va_Nw (.fieldLinkNest own index (T k).1 (T k).2.1 (T k).2.2.1 "GroupLog") s) {v : Value} (hv : fs[k]? = some v) (hdg : decode cc pc = .ok (.getfield index, 3))
    (kk : W p l e R s m args below meth c H locs cells slots Q (F0 m (pc + 3) ls (v :: rest))) : W p l e R s m args below meth c H locs cells slots Q (F0 m pc ls (.ref a :: rest)) := by
  obtain ⟨ws, hP, hD, hw⟩ := hM
  obtain ⟨q0, hq⟩ := hw _ _ he
  exact va_getN hexec hb hts hin hown hK.1 hP q0 hq hc k hk (va_Nw.use rfl hlink) (fun _ h => h) hv hdg kk
theorem mm_put (hexec : p.tables.exec = Jvm.exec) (hb : c.code = cc) {own C : String} {T : u_T} {N ci index : Nat} {Ts : List Cond} (hts : ∀ w ∈ Ts, w.before args s = true) (hin : ∀ w ∈ u_ws C T N, w ∈ Ts) (ty0 : Nat → FieldType) (hty : ∀ k, k < N → parseFieldDescriptor (T k).2.2.1 = some (ty0 k)) (hnm : ∀ a, a < N → ∀ b, b < N → a ≠ b → (T a).2.1 ≠ (T b).2.1) (hown : s.vm.findClass own = some m.cls) (hK : mm_K D tys s) (hM : mm_W D A M H) (hS : va_S A H0 H locs) {fs : List Value} (he : M a = some (.inr (ci, fs))) (hc : vwCl[ci]? = some (C, T, N)) (k : Nat) (hk : k < N) (hlink : (Cond.fieldLink own index (T k).1 (T k).2.1 (T k).2.2.1).before args s = true) (hfin : (T k).2.2.2 = false) {v : Value} (hn : narrow (ty0 k) v = v) (hfit : fits (ty0 k) v = true) (hl : k < fs.length) (hdg : decode cc pc = .ok (.putfield index, 3))
    (kk : ∀ (H1 : Heap) (locs1 : List Loc) (M1 : Nat → Option va_E), mm_W D A M1 H1 → M1 a = some (.inr (ci, fs.set k v)) → (∀ b, b ≠ a → M1 b = M b) → va_S A H0 H1 locs1 → W p l e R s m args below meth c H1 locs1 cells slots Q (F0 m (pc + 3) ls rest)) : W p l e R s m args below meth c H locs cells slots Q (F0 m pc ls (v :: .ref a :: rest)) := by
  obtain ⟨ws, hP, hD, hw⟩ := hM
  obtain ⟨q0, hq⟩ := hw _ _ he
  refine va_put hexec hb hts hin ty0 hty hnm hown hK.1 hP hD hS q0 hq hc k hk hlink (fun _ h => h) hfin (hty k hk) hn hfit hl hdg (fun H1 locs1 hP1 hD1 hS1 => ?_)
  obtain ⟨M1, g1, g2, g3⟩ := mm_set hw hq hP1 hD1
  exact kk H1 locs1 M1 g1 g2 g3 hS1
theorem mm_putF (hexec : p.tables.exec = Jvm.exec) (hb : c.code = cc) {own C : String} {T : u_T} {N ci index : Nat} {Ts : List Cond} (hts : ∀ w ∈ Ts, w.before args s = true) (hin : ∀ w ∈ u_ws C T N, w ∈ Ts) (ty0 : Nat → FieldType) (hty : ∀ k, k < N → parseFieldDescriptor (T k).2.2.1 = some (ty0 k)) (hnm : ∀ a, a < N → ∀ b, b < N → a ≠ b → (T a).2.1 ≠ (T b).2.1) (hown : s.vm.findClass own = some m.cls) (hK : mm_K D tys s) (hM : mm_W D A M H) (hS : va_S A H0 H locs) {fs : List Value} (he : M a = some (.inr (ci, fs))) (hc : vwCl[ci]? = some (C, T, N)) (k : Nat) (hk : k < N) (hlink : (Cond.fieldLink own index (T k).1 (T k).2.1 (T k).2.2.1).before args s = true) (hfin : (T k).2.2.2 = true) (hin2 : meth.name = "<init>") (hdecl : (T k).1 = own) {v : Value} (hn : narrow (ty0 k) v = v) (hfit : fits (ty0 k) v = true) (hl : k < fs.length) (hdg : decode cc pc = .ok (.putfield index, 3))
    (kk : ∀ (H1 : Heap) (locs1 : List Loc) (M1 : Nat → Option va_E), mm_W D A M1 H1 → M1 a = some (.inr (ci, fs.set k v)) → (∀ b, b ≠ a → M1 b = M b) → va_S A H0 H1 locs1 → W p l e R s m args below meth c H1 locs1 cells slots Q (F0 m (pc + 3) ls rest)) : W p l e R s m args below meth c H locs cells slots Q (F0 m pc ls (v :: .ref a :: rest)) := by
  obtain ⟨ws, hP, hD, hw⟩ := hM
  obtain ⟨q0, hq⟩ := hw _ _ he
  refine va_putF hexec hb hts hin ty0 hty hnm hown hK.1 hP hD hS q0 hq hc k hk hlink (fun _ h => h) hfin hin2 hdecl (hty k hk) hn hfit hl hdg (fun H1 locs1 hP1 hD1 hS1 => ?_)
  obtain ⟨M1, g1, g2, g3⟩ := mm_set hw hq hP1 hD1
  exact kk H1 locs1 M1 g1 g2 g3 hS1
theorem mm_putN (hexec : p.tables.exec = Jvm.exec) (hb : c.code = cc) {own C : String} {T : u_T} {N ci index : Nat} {Ts : List Cond} (hts : ∀ w ∈ Ts, w.before args s = true) (hin : ∀ w ∈ u_ws C T N, w ∈ Ts) (ty0 : Nat → FieldType) (hty : ∀ k, k < N → parseFieldDescriptor (T k).2.2.1 = some (ty0 k)) (hnm : ∀ a, a < N → ∀ b, b < N → a ≠ b → (T a).2.1 ≠ (T b).2.1) (hown : s.vm.findClass own = some m.cls) (hK : mm_K D tys s) (hM : mm_W D A M H) (hS : va_S A H0 H locs) {fs : List Value} (he : M a = some (.inr (ci, fs))) (hc : vwCl[ci]? = some (C, T, N)) (k : Nat) (hk : k < N) (hlink : va_Nw (.fieldLinkNest own index (T k).1 (T k).2.1 (T k).2.2.1 "GroupLog") s) (hfin : (T k).2.2.2 = false) {v : Value} (hn : narrow (ty0 k) v = v) (hfit : fits (ty0 k) v = true) (hl : k < fs.length) (hdg : decode cc pc = .ok (.putfield index, 3))
    (kk : ∀ (H1 : Heap) (locs1 : List Loc) (M1 : Nat → Option va_E), mm_W D A M1 H1 → M1 a = some (.inr (ci, fs.set k v)) → (∀ b, b ≠ a → M1 b = M b) → va_S A H0 H1 locs1 → W p l e R s m args below meth c H1 locs1 cells slots Q (F0 m (pc + 3) ls rest)) : W p l e R s m args below meth c H locs cells slots Q (F0 m pc ls (v :: .ref a :: rest)) := by
  obtain ⟨ws, hP, hD, hw⟩ := hM
  obtain ⟨q0, hq⟩ := hw _ _ he
  refine va_putN hexec hb hts hin ty0 hty hnm hown hK.1 hP hD hS q0 hq hc k hk (va_Nw.use rfl hlink) (fun _ h => h) hfin (hty k hk) hn hfit hl hdg (fun H1 locs1 hP1 hD1 hS1 => ?_)
  obtain ⟨M1, g1, g2, g3⟩ := mm_set hw hq hP1 hD1
  exact kk H1 locs1 M1 g1 g2 g3 hS1
theorem mm_iald (hexec : p.tables.exec = Jvm.exec) (hb : c.code = cc) (hK : mm_K D tys s) (hM : mm_W D A M H) (t0 : Nat) {cA : ClassId} {n : Nat} {f : Nat → Int32} (he : M a = some (.inl (cA, n, .inl f))) (ht : tys[t0]? = some (cA, .int)) {i : Int32} {j : Nat} (hi : i = nI j) (hj : j < n) (hn : n < 2 ^ 31) (hdg : decode cc pc = .ok (.iaload, 1))
    (kk : W p l e R s m args below meth c H locs cells slots Q (F0 m (pc + 1) ls (.int (f j) :: rest))) : W p l e R s m args below meth c H locs cells slots Q (F0 m pc ls (.int i :: .ref a :: rest)) := by
  obtain ⟨ws, hP, hD, hw⟩ := hM
  obtain ⟨q0, hq⟩ := hw _ _ he
  subst hi
  refine va_iald hexec hb hK.1 hP q0 t0 hq ht (vp_in_nI hj hn) hdg ?_
  rw [nI_clamp (by omega)]
  exact kk
theorem mm_bald (hexec : p.tables.exec = Jvm.exec) (hb : c.code = cc) (hK : mm_K D tys s) (hM : mm_W D A M H) (t0 : Nat) {cA : ClassId} {n : Nat} {f : Nat → Int32} (he : M a = some (.inl (cA, n, .inl f))) (ht : tys[t0]? = some (cA, .byte)) {i : Int32} {j : Nat} (hi : i = nI j) (hj : j < n) (hn : n < 2 ^ 31) (hdg : decode cc pc = .ok (.baload, 1))
    (kk : W p l e R s m args below meth c H locs cells slots Q (F0 m (pc + 1) ls (.int (f j) :: rest))) : W p l e R s m args below meth c H locs cells slots Q (F0 m pc ls (.int i :: .ref a :: rest)) := by
  obtain ⟨ws, hP, hD, hw⟩ := hM
  obtain ⟨q0, hq⟩ := hw _ _ he
  subst hi
  refine va_bald hexec hb hK.1 hP q0 t0 hq ht (vp_in_nI hj hn) hdg ?_
  rw [nI_clamp (by omega)]
  exact kk
theorem mm_zald (hexec : p.tables.exec = Jvm.exec) (hb : c.code = cc) (hK : mm_K D tys s) (hM : mm_W D A M H) (t0 : Nat) {cA : ClassId} {n : Nat} {f : Nat → Int32} (he : M a = some (.inl (cA, n, .inl f))) (ht : tys[t0]? = some (cA, .boolean)) {i : Int32} {j : Nat} (hi : i = nI j) (hj : j < n) (hn : n < 2 ^ 31) (hdg : decode cc pc = .ok (.baload, 1))
    (kk : W p l e R s m args below meth c H locs cells slots Q (F0 m (pc + 1) ls (.int (f j) :: rest))) : W p l e R s m args below meth c H locs cells slots Q (F0 m pc ls (.int i :: .ref a :: rest)) := by
  obtain ⟨ws, hP, hD, hw⟩ := hM
  obtain ⟨q0, hq⟩ := hw _ _ he
  subst hi
  refine va_zald hexec hb hK.1 hP q0 t0 hq ht (vp_in_nI hj hn) hdg ?_
  rw [nI_clamp (by omega)]
  exact kk
theorem mm_iast (hexec : p.tables.exec = Jvm.exec) (hb : c.code = cc) (hK : mm_K D tys s) (hM : mm_W D A M H) (hS : va_S A H0 H locs) (t0 : Nat) {cA : ClassId} {n : Nat} {f : Nat → Int32} (he : M a = some (.inl (cA, n, .inl f))) (ht : tys[t0]? = some (cA, .int)) {i x : Int32} {j : Nat} (hi : i = nI j) (hj : j < n) (hn : n < 2 ^ 31) (hdg : decode cc pc = .ok (.iastore, 1))
    (kk : ∀ (H1 : Heap) (locs1 : List Loc) (M1 : Nat → Option va_E), mm_W D A M1 H1 → M1 a = some (.inl (cA, n, .inl (upd f j x))) → (∀ b, b ≠ a → M1 b = M b) → va_S A H0 H1 locs1 → W p l e R s m args below meth c H1 locs1 cells slots Q (F0 m (pc + 1) ls rest)) : W p l e R s m args below meth c H locs cells slots Q (F0 m pc ls (.int x :: .int i :: .ref a :: rest)) := by
  obtain ⟨ws, hP, hD, hw⟩ := hM
  obtain ⟨q0, hq⟩ := hw _ _ he
  subst hi
  refine va_iast hexec hb hK.1 hP hD hS q0 t0 hq ht (vp_in_nI hj hn) hdg (fun H1 locs1 hP1 hD1 hS1 => ?_)
  rw [nI_clamp (by omega)] at hP1 hD1
  obtain ⟨M1, g1, g2, g3⟩ := mm_set hw hq hP1 hD1
  exact kk H1 locs1 M1 g1 g2 g3 hS1
theorem mm_bast (hexec : p.tables.exec = Jvm.exec) (hb : c.code = cc) (hK : mm_K D tys s) (hM : mm_W D A M H) (hS : va_S A H0 H locs) (t0 : Nat) {cA : ClassId} {n : Nat} {f : Nat → Int32} (he : M a = some (.inl (cA, n, .inl f))) (ht : tys[t0]? = some (cA, .byte)) {i x : Int32} {j : Nat} (hi : i = nI j) (hj : j < n) (hn : n < 2 ^ 31) (hdg : decode cc pc = .ok (.bastore, 1))
    (kk : ∀ (H1 : Heap) (locs1 : List Loc) (M1 : Nat → Option va_E), mm_W D A M1 H1 → M1 a = some (.inl (cA, n, .inl (upd f j (vp_nar .byte x)))) → (∀ b, b ≠ a → M1 b = M b) → va_S A H0 H1 locs1 → W p l e R s m args below meth c H1 locs1 cells slots Q (F0 m (pc + 1) ls rest)) : W p l e R s m args below meth c H locs cells slots Q (F0 m pc ls (.int x :: .int i :: .ref a :: rest)) := by
  obtain ⟨ws, hP, hD, hw⟩ := hM
  obtain ⟨q0, hq⟩ := hw _ _ he
  subst hi
  refine va_bast hexec hb hK.1 hP hD hS q0 t0 hq ht (vp_in_nI hj hn) hdg (fun H1 locs1 hP1 hD1 hS1 => ?_)
  rw [nI_clamp (by omega)] at hP1 hD1
  obtain ⟨M1, g1, g2, g3⟩ := mm_set hw hq hP1 hD1
  exact kk H1 locs1 M1 g1 g2 g3 hS1
theorem mm_zast (hexec : p.tables.exec = Jvm.exec) (hb : c.code = cc) (hK : mm_K D tys s) (hM : mm_W D A M H) (hS : va_S A H0 H locs) (t0 : Nat) {cA : ClassId} {n : Nat} {f : Nat → Int32} (he : M a = some (.inl (cA, n, .inl f))) (ht : tys[t0]? = some (cA, .boolean)) {i x : Int32} {j : Nat} (hi : i = nI j) (hj : j < n) (hn : n < 2 ^ 31) (hdg : decode cc pc = .ok (.bastore, 1))
    (kk : ∀ (H1 : Heap) (locs1 : List Loc) (M1 : Nat → Option va_E), mm_W D A M1 H1 → M1 a = some (.inl (cA, n, .inl (upd f j (vp_nar .boolean x)))) → (∀ b, b ≠ a → M1 b = M b) → va_S A H0 H1 locs1 → W p l e R s m args below meth c H1 locs1 cells slots Q (F0 m (pc + 1) ls rest)) : W p l e R s m args below meth c H locs cells slots Q (F0 m pc ls (.int x :: .int i :: .ref a :: rest)) := by
  obtain ⟨ws, hP, hD, hw⟩ := hM
  obtain ⟨q0, hq⟩ := hw _ _ he
  subst hi
  refine va_zast hexec hb hK.1 hP hD hS q0 t0 hq ht (vp_in_nI hj hn) hdg (fun H1 locs1 hP1 hD1 hS1 => ?_)
  rw [nI_clamp (by omega)] at hP1 hD1
  obtain ⟨M1, g1, g2, g3⟩ := mm_set hw hq hP1 hD1
  exact kk H1 locs1 M1 g1 g2 g3 hS1
theorem mm_alen (hexec : p.tables.exec = Jvm.exec) (hb : c.code = cc) (hK : mm_K D tys s) (hM : mm_W D A M H) (t0 : Nat) {cA : ClassId} {x : vp_A} (he : M a = some (.inl (cA, x))) {ty : FieldType} (ht : tys[t0]? = some (cA, ty)) {v : Int32} (hv : Int32.ofNat x.1 = v) (hdg : decode cc pc = .ok (.arraylength, 1))
    (kk : W p l e R s m args below meth c H locs cells slots Q (F0 m (pc + 1) ls (.int v :: rest))) : W p l e R s m args below meth c H locs cells slots Q (F0 m pc ls (.ref a :: rest)) := by
  obtain ⟨ws, hP, hD, hw⟩ := hM
  obtain ⟨q0, hq⟩ := hw _ _ he
  exact va_alen hexec hb hK.1 hP q0 t0 hq ht hv hdg kk
theorem mm_aldq (hexec : p.tables.exec = Jvm.exec) (hb : c.code = cc) (hK : mm_K D tys s) (hM : mm_W D A M H) (t0 : Nat) {cA : ClassId} {C : String} {n y : Nat} {f : Nat → Option Nat} (he : M a = some (.inl (cA, n, .inr (.inr (.inr (.inr f)))))) (ht : tys[t0]? = some (cA, .object C)) {i : Int32} {j : Nat} (hi : i = nI j) (hj : j < n) (hn : n < 2 ^ 31) (hy : f j = some y) (hdg : decode cc pc = .ok (.aaload, 1))
    (kk : W p l e R s m args below meth c H locs cells slots Q (F0 m (pc + 1) ls (.ref y :: rest))) : W p l e R s m args below meth c H locs cells slots Q (F0 m pc ls (.int i :: .ref a :: rest)) := by
  obtain ⟨ws, hP, hD, hw⟩ := hM
  obtain ⟨q0, hq⟩ := hw _ _ he
  subst hi
  refine va_aldq hexec hb hK.1 hP q0 t0 hq ht (vp_in_nI hj hn) hdg ?_
  rw [nI_clamp (by omega), hy]
  exact kk
theorem mm_astq (hexec : p.tables.exec = Jvm.exec) (hb : c.code = cc) (hK : mm_K D tys s) (hM : mm_W D A M H) (hS : va_S A H0 H locs) (t0 ci : Nat) {cA : ClassId} {r : vw_C} {n v : Nat} {vs : List Value} {f : Nat → Option Nat} (he : M a = some (.inl (cA, n, .inr (.inr (.inr (.inr f)))))) (ht : tys[t0]? = some (cA, .object r.1)) (hv : M v = some (.inr (ci, vs))) (hc : vwCl[ci]? = some r) {i : Int32} {j : Nat} (hi : i = nI j) (hj : j < n) (hn : n < 2 ^ 31) (hdg : decode cc pc = .ok (.aastore, 1))
    (kk : ∀ (H1 : Heap) (locs1 : List Loc) (M1 : Nat → Option va_E), mm_W D A M1 H1 → M1 a = some (.inl (cA, n, .inr (.inr (.inr (.inr (va_up f j (some v))))))) → (∀ b, b ≠ a → M1 b = M b) → va_S A H0 H1 locs1 → W p l e R s m args below meth c H1 locs1 cells slots Q (F0 m (pc + 1) ls rest)) : W p l e R s m args below meth c H locs cells slots Q (F0 m pc ls (.ref v :: .int i :: .ref a :: rest)) := by
  obtain ⟨ws, hP, hD, hw⟩ := hM
  obtain ⟨q0, hq⟩ := hw _ _ he
  obtain ⟨qk, hqk⟩ := hw _ _ hv
  subst hi
  refine va_astq hexec hb hK.1 hP hD hS q0 t0 qk ci hq ht hqk hc (vp_in_nI hj hn) hdg (fun H1 locs1 hP1 hD1 hS1 => ?_)
  rw [nI_clamp (by omega)] at hP1 hD1
  obtain ⟨M1, g1, g2, g3⟩ := mm_set hw hq hP1 hD1
  exact kk H1 locs1 M1 g1 g2 g3 hS1
theorem mm_new (hexec : p.tables.exec = Jvm.exec) (hb : c.code = cc) {own C : String} {T : u_T} {N ci index : Nat} {Ts : List Cond} (hts : ∀ w ∈ Ts, w.before args s = true) (hin : ∀ w ∈ u_ws C T N, w ∈ Ts) (ty0 : Nat → FieldType) (hty : ∀ k, k < N → parseFieldDescriptor (T k).2.2.1 = some (ty0 k)) (hown : s.vm.findClass own = some m.cls) (hcl : (Cond.classLink own index C).before args s = true) (hinst : (Cond.instantiable C N).before args s = true) (hini : (Cond.initialized C).before args s = true) (hK : mm_K D tys s) (hM : mm_W D A M H) (hS : va_S A H0 H locs) (hA : ∀ q, H0.size ≤ q → A q) (hc : vwCl[ci]? = some (C, T, N)) {fs : List Value} (hfs : ∀ j, j < N → defaultValue (ty0 j) = vp_V fs j) (hcells : cells + 1 ≤ R.cells) (hslots : slots + N ≤ R.slots) (hdg : decode cc pc = .ok (.new index, 3))
    (kk : ∀ (q : Nat) (H1 : Heap) (M1 : Nat → Option va_E), mm_W D A M1 H1 → M1 q = some (.inr (ci, fs)) → M q = none → (∀ b, b ≠ q → M1 b = M b) → va_S A H0 H1 locs → W p l e R s m args below meth c H1 locs (cells + 1) (slots + N) Q (F0 m (pc + 3) ls (.ref q :: rest))) : W p l e R s m args below meth c H locs cells slots Q (F0 m pc ls rest) := by
  obtain ⟨ws, hP, hD, hw⟩ := hM
  refine va_new hexec hb hts hin ty0 hty hown hcl hinst hini hK.1 hP hD hS hA hc hfs hcells hslots hdg (fun q H1 hP1 hD1 hS1 => ?_)
  obtain ⟨M1, g1, g2, g3, g4⟩ := mm_push hw hP1 hD1
  exact kk q H1 M1 g1 g2 g3 g4 hS1
theorem mm_newa (hexec : p.tables.exec = Jvm.exec) (hb : c.code = cc) {atype : ArrayType} (harr : (Cond.arrayClass (newarray.typeOf atype)).before args s = true) {ty : FieldType} (hty : newarray.typeOf atype = ty) (hK : mm_K D tys s) (hM : mm_W D A M H) (hS : va_S A H0 H locs) (hA : ∀ q, H0.size ≤ q → A q) (t0 : Nat) {cB : ClassId} (ht : tys[t0]? = some (cB, ty)) (hno : ∀ C, ty ≠ .object C) {n : Int32} {N' : Nat} (ha : ∀ cA : ClassId, vp_cell cA (N', .inl (fun _ => 0)) = arrV cA N' (fun _ => defaultValue ty)) (hn : ¬ n < 0) (hN : n.toNatClampNeg = N') (hbytes : N' * componentBytes ty ≤ 536870912) (hcells : cells + 1 ≤ R.cells) (hslots : slots + N' ≤ R.slots) (hdg : decode cc pc = .ok (.newarray atype, 2))
    (kk : ∀ (q : Nat) (H1 : Heap) (M1 : Nat → Option va_E), mm_W D A M1 H1 → M1 q = some (.inl (cB, N', .inl (fun _ => 0))) → M q = none → (∀ b, b ≠ q → M1 b = M b) → va_S A H0 H1 locs → W p l e R s m args below meth c H1 locs (cells + 1) (slots + N') Q (F0 m (pc + 2) ls (.ref q :: rest))) : W p l e R s m args below meth c H locs cells slots Q (F0 m pc ls (.int n :: rest)) := by
  obtain ⟨ws, hP, hD, hw⟩ := hM
  refine va_newa hexec hb harr hty hK.1 hP hD hS hA ha hn hN hbytes hcells hslots hdg (fun q cA H1 hK1 hP1 hD1 hS1 => ?_)
  have e1 := (hK1.2 t0 _ (by rw [List.getElem?_append_left (List.getElem?_eq_some_iff.mp ht).1]; exact ht)).2
  have e2 := (hK1.2 tys.length (cA, ty) (by simp)).2
  have e3 : cA = cB := by
    cases ty with
    | object C => exact absurd rfl (hno C)
    | _ => exact Option.some.inj (e2.symm.trans e1)
  subst e3
  obtain ⟨M1, g1, g2, g3, g4⟩ := mm_push hw hP1 hD1
  exact kk q H1 M1 g1 g2 g3 g4 hS1
theorem mm_newq (hexec : p.tables.exec = Jvm.exec) (hb : c.code = cc) {own : String} {index : Nat} (hown : s.vm.findClass own = some m.cls) (hclink : (Cond.classLink own index RX3).before args s = true) (hK : mm_K D tys s) (hM : mm_W D A M H) (hS : va_S A H0 H locs) (hA : ∀ q, H0.size ≤ q → A q) (t0 : Nat) {cB : ClassId} (ht : tys[t0]? = some (cB, .object RX3)) {n : Int32} {N' : Nat} (hn : ¬ n < 0) (hN : n.toNatClampNeg = N') (hbytes : N' * 4 ≤ 536870912) (hcells : cells + 1 ≤ R.cells) (hslots : slots + N' ≤ R.slots) (hdg : decode cc pc = .ok (.anewarray index, 3))
    (kk : ∀ (q : Nat) (H1 : Heap) (M1 : Nat → Option va_E), mm_W D A M1 H1 → M1 q = some (.inl (cB, N', .inr (.inr (.inr (.inr (fun _ => none)))))) → M q = none → (∀ b, b ≠ q → M1 b = M b) → va_S A H0 H1 locs → W p l e R s m args below meth c H1 locs (cells + 1) (slots + N') Q (F0 m (pc + 3) ls (.ref q :: rest))) : W p l e R s m args below meth c H locs cells slots Q (F0 m pc ls (.int n :: rest)) := by
  obtain ⟨ws, hP, hD, hw⟩ := hM
  refine va_newq hexec hb hown hclink hK.2.2 hK.1 hP hD hS hA hn hN hbytes hcells hslots hdg (fun q cA H1 hK1 hP1 hD1 hS1 => ?_)
  obtain ⟨_, _, _, _, _, e1⟩ := (hK1.2 t0 _ (by rw [List.getElem?_append_left (List.getElem?_eq_some_iff.mp ht).1]; exact ht)).2
  obtain ⟨_, _, _, _, _, e2⟩ := (hK1.2 tys.length (cA, .object RX3) (by simp)).2
  have e3 : cA = cB := Option.some.inj (e2.symm.trans e1)
  subst e3
  obtain ⟨M1, g1, g2, g3, g4⟩ := mm_push hw hP1 hD1
  exact kk q H1 M1 g1 g2 g3 g4 hS1
end MMR
theorem mm_z_int (N : Nat) (cA : ClassId) : vp_cell cA (N, .inl (fun _ => 0)) = arrV cA N (fun _ => defaultValue .int) := rfl
theorem mm_z_byte (N : Nat) (cA : ClassId) : vp_cell cA (N, .inl (fun _ => 0)) = arrV cA N (fun _ => defaultValue .byte) := rfl
theorem mm_z_boolean (N : Nat) (cA : ClassId) : vp_cell cA (N, .inl (fun _ => 0)) = arrV cA N (fun _ => defaultValue .boolean) := rfl
section MMC
variable {p : Program} {l : Launch} {e : Env} {R : Room} {s : State} {m : MethodId} {args : Array Value} {below : List Frame} {meth : Method} {c : Code} {H : Heap} {locs : List Loc} {cells slots : Nat} {Q : State → Prop}
variable {cc : ByteArray} {pc : Nat} {ls : Array Slot} {rest st0 : List Value} {D : va_G} {A A0 : Nat → Prop} {b : Nat} {tys : List (ClassId × FieldType)} {M : Nat → Option va_E} {H0 : Heap}
variable {y : MethodName} {bytes : ByteArray} {maxL nL mc ms n index : Nat} {ret : Option FieldType} {ws : List Cond} {rm : Room} {Ts : List Cond} {own C : String} {As : List Value}
/-- a call is run: virtual, special (a constructor), static -/
def mm_Run (p : Program) (l : Launch) (e : Env) (R : Room) (s : State) (m : MethodId) (args : Array Value) (below : List Frame) (meth : Method) (c : Code) (H : Heap) (locs : List Loc) (cells slots mc ms : Nat) (g : JFrame) (rest : List Value) (Qc : Array Value → State → Outcome → State → Prop) (av : List Value) (A : Nat → Prop) : Prop := va_Run p l e R s m args below meth c H locs cells slots mc ms g rest (Qc av.toArray) A
theorem mm_runV {Qc : Array Value → State → Outcome → State → Prop} (S : CallFix p m c cc nL s args Ts own) (hMet : Met l y ws rm (mm_Pc D A tys M H.size (.ref b :: As)) Qc mc ms A) (cw : CallW R s args own C index y bytes maxL ret ws rm mc ms n) (hK : mm_K D tys s) (hM : mm_W D A M H) {ci : Nat} {fs : List Value} (he : M b = some (.inr (ci, fs))) {T : u_T} {N : Nat} (hc : vwCl[ci]? = some (C, T, N)) (hn : As.length = n) (hsize : ls.size = nL) (hstack : st0 = As.reverse ++ .ref b :: rest) (hW : (rest.map fun v => v.category).sum ≤ 8) (hdg : decode cc pc = .ok (.invokevirtual index, 3)) (hf : cells + mc ≤ R.cells ∧ slots + ms ≤ R.slots) :
    mm_Run p l e R s m args below meth c H locs cells slots mc ms (F0 m pc ls st0) rest Qc (.ref b :: As) A := by
  obtain ⟨q0, hq⟩ := hM.choose_spec.2.2 _ _ he
  exact va_runV S hMet cw ⟨mm_blind _ _ _ _ _ _, va_recv hK.1 hM.choose_spec.1 (q := (C, T, N)) hc hq, mm_pre _ hM hK⟩ rfl hn hsize hstack (lv_room hW) hdg hf
theorem mm_runI {Qc : Array Value → State → Outcome → State → Prop} (S : CallFix p m c cc nL s args Ts own) (hMet : Met l y ws rm (mm_Pc D A tys M H.size (.ref b :: As)) Qc mc ms A) (cw : CallB R s args own index y bytes maxL none ws rm mc ms n ∧ y.name = "<init>" ∧ (Cond.instanceMethod y).before args s = true) (hK : mm_K D tys s) (hM : mm_W D A M H) (hn : As.length = n) (hsize : ls.size = nL) (hstack : st0 = As.reverse ++ .ref b :: rest) (hW : (rest.map fun v => v.category).sum ≤ 8) (hdg : decode cc pc = .ok (.invokespecial index, 3)) (hf : cells + mc ≤ R.cells ∧ slots + ms ≤ R.slots) :
    mm_Run p l e R s m args below meth c H locs cells slots mc ms (F0 m pc ls st0) rest Qc (.ref b :: As) A :=
  va_runI S hMet cw ⟨mm_blind _ _ _ _ _ _, mm_pre _ hM hK⟩ rfl hn hsize hstack (lv_room hW) hdg hf
theorem mm_runS {Qc : Array Value → State → Outcome → State → Prop} (S : CallFix p m c cc nL s args Ts own) (hMet : Met l y ws rm (mm_Pc D A tys M H.size As) Qc mc ms A) (cw : CallB R s args own index y bytes maxL ret ws rm mc ms n ∧ (Cond.static y).before args s = true) (hK : mm_K D tys s) (hM : mm_W D A M H) (hn : As.length = n) (hsize : ls.size = nL) (hstack : st0 = As.reverse ++ rest) (hW : (rest.map fun v => v.category).sum ≤ 8) (hdg : decode cc pc = .ok (.invokestatic index, 3)) (hf : cells + mc ≤ R.cells ∧ slots + ms ≤ R.slots) :
    mm_Run p l e R s m args below meth c H locs cells slots mc ms (F0 m pc ls st0) rest Qc As A :=
  va_runS S hMet cw ⟨mm_blind _ _ _ _ _ _, mm_pre _ hM hK⟩ rfl hn hsize hstack (lv_room hW) hdg hf
/-- what a method leaves: its answer and the map behind it -/
abbrev mm_Qi (D : va_G) (A : Nat → Prop) (post : Int32 → (Nat → Option va_E) → Prop) : Array Value → State → Outcome → State → Prop := va_Qi post (fun M1 t => mm_W D A M1 t.heap) A
abbrev mm_Qv (D : va_G) (A : Nat → Prop) (post : (Nat → Option va_E) → Prop) : Array Value → State → Outcome → State → Prop := va_Qv post (fun M1 t => mm_W D A M1 t.heap) A
abbrev mm_Qr (D : va_G) (A : Nat → Prop) (post : Nat → (Nat → Option va_E) → Prop) : Array Value → State → Outcome → State → Prop := va_Qr (S := Nat → Option va_E) (fun _ => True) (fun M1 a t => post a M1 ∧ mm_W D A M1 t.heap) A
theorem mm_calli {post : Int32 → (Nat → Option va_E) → Prop} {av : List Value} (hr : mm_Run p l e R s m args below meth c H locs cells slots mc ms (F0 m pc ls st0) rest (mm_Qi D A post) av A) (hS : va_S A0 H0 H locs) (hA : ∀ q, A q → A0 q)
    (kk : ∀ (r : Int32) (M1 : Nat → Option va_E) (H1 : Heap) (locs1 : List Loc), post r M1 → mm_W D A M1 H1 → va_S A0 H0 H1 locs1 → H.size ≤ H1.size → (∀ q : Nat, q < H.size → ¬ A q → H1[q]? = H[q]?) → W p l e R s m args below meth c H1 locs1 (cells + mc) (slots + ms) Q (F0 m (pc + 3) ls (.int r :: rest))) : W p l e R s m args below meth c H locs cells slots Q (F0 m pc ls st0) :=
  va_calli hr hS (fun q _ h => hA q h) hA (fun r u t H1 locs1 ht _ hw hB hz hk hS1 => kk r u H1 locs1 hw (by rw [← ht]; exact hB) hS1 hz hk)
theorem mm_callv {post : (Nat → Option va_E) → Prop} {av : List Value} (hr : mm_Run p l e R s m args below meth c H locs cells slots mc ms (F0 m pc ls st0) rest (mm_Qv D A post) av A) (hS : va_S A0 H0 H locs) (hA : ∀ q, A q → A0 q)
    (kk : ∀ (M1 : Nat → Option va_E) (H1 : Heap) (locs1 : List Loc), post M1 → mm_W D A M1 H1 → va_S A0 H0 H1 locs1 → H.size ≤ H1.size → (∀ q : Nat, q < H.size → ¬ A q → H1[q]? = H[q]?) → W p l e R s m args below meth c H1 locs1 (cells + mc) (slots + ms) Q (F0 m (pc + 3) ls rest)) : W p l e R s m args below meth c H locs cells slots Q (F0 m pc ls st0) :=
  va_callv hr hS (fun q _ h => hA q h) hA (fun u t H1 locs1 ht _ hw hB hz hk hS1 => kk u H1 locs1 hw (by rw [← ht]; exact hB) hS1 hz hk)
theorem mm_callr {post : Nat → (Nat → Option va_E) → Prop} {av : List Value} (hr : mm_Run p l e R s m args below meth c H locs cells slots mc ms (F0 m pc ls st0) rest (mm_Qr D A post) av A) (hS : va_S A0 H0 H locs) (hA : ∀ q, A q → A0 q)
    (kk : ∀ (r : Nat) (M1 : Nat → Option va_E) (H1 : Heap) (locs1 : List Loc), post r M1 → mm_W D A M1 H1 → va_S A0 H0 H1 locs1 → H.size ≤ H1.size → (∀ q : Nat, q < H.size → ¬ A q → H1[q]? = H[q]?) → W p l e R s m args below meth c H1 locs1 (cells + mc) (slots + ms) Q (F0 m (pc + 3) ls (.ref r :: rest))) : W p l e R s m args below meth c H locs cells slots Q (F0 m pc ls st0) :=
  va_callr hr hS (fun q _ h => hA q h) hA (fun u ra t H1 locs1 ht _ _ hB hz hk hS1 => kk ra u H1 locs1 hB.1 (by rw [← ht]; exact hB.2) hS1 hz hk)
/-- a method's ends -/
theorem mm_iret {post : Int32 → (Nat → Option va_E) → Prop} {v : Int32} (hexec : p.tables.exec = Jvm.exec) (hb : c.code = cc) (hr : meth.sig.returnType = some .int) (hlocks : meth.locks = false) (hM : mm_W D A M H) (hS : va_S A s.heap H locs) (hp : post v M) (hdg : decode cc pc = .ok (.ireturn, 1)) : W p l e R s m args below meth c H locs cells slots (MQ below (mm_Qi D A post) args s cells slots A) (F0 m pc ls [.int v]) :=
  W.iret hexec hb hr (fun t ht _ => ⟨⟨v, M, rfl, hp, by show mm_W D A M t.heap; rw [ht]; exact hM⟩, hS.F ht⟩) hS.2.2 hdg hlocks
theorem mm_zret {post : Int32 → (Nat → Option va_E) → Prop} {v : Int32} (hexec : p.tables.exec = Jvm.exec) (hb : c.code = cc) (hr : meth.sig.returnType = some .boolean) (hlocks : meth.locks = false) (hn : narrow .boolean (.int v) = .int v) (hM : mm_W D A M H) (hS : va_S A s.heap H locs) (hp : post v M) (hdg : decode cc pc = .ok (.ireturn, 1)) : W p l e R s m args below meth c H locs cells slots (MQ below (mm_Qi D A post) args s cells slots A) (F0 m pc ls [.int v]) :=
  W.zret hexec hb hr hn (fun t ht _ => ⟨⟨v, M, rfl, hp, by show mm_W D A M t.heap; rw [ht]; exact hM⟩, hS.F ht⟩) hS.2.2 hdg hlocks
theorem mm_vret {post : (Nat → Option va_E) → Prop} (hexec : p.tables.exec = Jvm.exec) (hb : c.code = cc) (hr : meth.sig.returnType = none) (hlocks : meth.locks = false) (hM : mm_W D A M H) (hS : va_S A s.heap H locs) (hp : post M) (hdg : decode cc pc = .ok (.return_, 1)) : W p l e R s m args below meth c H locs cells slots (MQ below (mm_Qv D A post) args s cells slots A) (F0 m pc ls []) :=
  W.vret hexec hb hr (fun t ht _ => ⟨⟨M, rfl, hp, by show mm_W D A M t.heap; rw [ht]; exact hM⟩, hS.F ht⟩) hS.2.2 hdg hlocks
theorem mm_aret {post : Nat → (Nat → Option va_E) → Prop} {v : Nat} {C : String} (hexec : p.tables.exec = Jvm.exec) (hb : c.code = cc) (hr : meth.sig.returnType = some (.object C)) (hlocks : meth.locks = false) (hM : mm_W D A M H) (hS : va_S A s.heap H locs) (hp : post v M) (hdg : decode cc pc = .ok (.areturn, 1)) : W p l e R s m args below meth c H locs cells slots (MQ below (mm_Qr D A post) args s cells slots A) (F0 m pc ls [.ref v]) :=
  W.aret hexec hb hr (Or.inl ⟨_, rfl⟩) (Or.inr ⟨_, rfl⟩) (fun t ht _ => ⟨⟨M, v, rfl, trivial, hp, by rw [ht]; exact hM⟩, hS.F ht⟩) hS.2.2 hdg hlocks
end MMC
/-- the room that is left behind new cells -/
theorem mm_hA {A : Nat → Prop} {H0 H : Heap} {locs : List Loc} (hA : ∀ q, H0.size ≤ q → A q) (hS : va_S A H0 H locs) : ∀ q, H.size ≤ q → A q := fun q h => hA q (Nat.le_trans hS.1 h)
/-- a method's entry, once for all -/
theorem mm_met {l : Launch} {y : MethodName} {ws ws' : List Cond} {rm : Room} {D : va_G} {A : Nat → Prop} {tys : List (ClassId × FieldType)} {M : Nat → Option va_E} {sz : Nat} {av : List Value} {Qc : Array Value → State → Outcome → State → Prop} {mc ms : Nat} {cc : ByteArray} {maxL : Nat} {ret : Option FieldType}
    (hy : plainName y.cls = true) (hw : ws = Cond.code y cc maxL ret :: ws') (hn : (lg_sl av).length ≤ maxL)
    (body : ∀ (p : Program) (e : Env) (s : State) (m : MethodId) (args : Array Value) (below : List Frame) (meth : Method) (c : Code), p.tables.exec = Jvm.exec → c.code = cc → meth.sig.returnType = ret → (∀ w ∈ ws, w.before args s = true) → s.vm.findClass y.cls = some m.cls → meth.locks = false → meth.name = y.name → c.maxLocals = maxL → s.heap.size = sz → mm_K D tys s → mm_W D A M s.heap → va_S A s.heap s.heap [] → ∀ ls : Array Slot, lv_has ls maxL (lv_args 0 av) →
      W p l e (headSpec ws rm).room s m args below meth c s.heap [] 0 0 (MQ below Qc args s mc ms A) (F0 m 0 ls [])) : Met l y ws rm (mm_Pc D A tys M sz av) Qc mc ms A := by
  refine Met.ofW (cc := cc) (maxL := maxL) (ret := ret) hy hw ?_
  intro p e s m args below meth c s₁ B hml hv
  obtain ⟨rfl, hsz, hM, hK⟩ := hv
  have hl := lv_entry av (n := maxL) hn
  rw [lg_entry_eq]
  exact body p e s m _ below meth c B.exec B.bytes B.returns (atoms_spec (ws := ws) B.pre) (findClass_of_methodNamed B.named) B.notSynchronized (name_of_methodNamed B.named B.method).1 hml hsz hK hM va_S.rf _ hl

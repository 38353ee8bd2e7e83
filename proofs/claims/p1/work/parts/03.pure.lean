/-! ===== the sum, numbers in bytes, a head: as mathematics ===== -/
def cr_u (c : Int32) : Int32 := (c.toUInt32 >>> ((1 : Int32).toUInt32 &&& Int32.toUInt32 31)).toInt32
def cr_s (c : Int32) : Int32 := if c &&& 1 = 1 then cr_u c ^^^ (-306674912) else cr_u c
def cr_n : Nat → Int32 → Int32
  | 0, c => c
  | k + 1, c => cr_n k (cr_s c)
def cr_b (f : Nat → Int32) : Nat → Nat → Int32 → Int32
  | _, 0, c => c
  | i, n + 1, c => cr_b f (i + 1) n (cr_n 8 (c ^^^ f i))
/-- four bytes from j on as a number -/
def nm_g (f : Nat → Int32) (j : Nat) : Int32 := f j <<< ((24 : Int32) &&& 31) ||| f (j + 1) <<< ((16 : Int32) &&& 31) ||| f (j + 2) <<< ((8 : Int32) &&& 31) ||| f (j + 3)
def us_h (n k : Int32) : Int32 := (n.toUInt32 >>> (k.toUInt32 &&& Int32.toUInt32 31)).toInt32
/-- a number into four bytes from j on -/
def nm_s (f : Nat → Int32) (j : Nat) (n : Int32) : Nat → Int32 := upd (upd (upd (upd f j (us_h n 24 &&& 255)) (j + 1) (us_h n 16 &&& 255)) (j + 2) (us_h n 8 &&& 255)) (j + 3) (n &&& 255)
def hd_p (v s r p : Int32) : Nat → Int32 := upd (nm_s (nm_s (nm_s (fun _ => 0) 0 v) 4 s) 8 r) 12 (p &&& 255)
/-- a head -/
def hd_f (v s r p : Int32) : Nat → Int32 := nm_s (hd_p v s r p) 13 (cr_b (hd_p v s r p) 0 13 (-1) ^^^ (-1))
theorem hd_sum : nm_g (hd_f 1 1 1 2) 13 = cr_b (hd_f 1 1 1 2) 0 13 (-1) ^^^ (-1) := by decide +kernel
theorem hd_ver : nm_g (hd_f 1 1 1 2) 0 = 1 := by decide +kernel
theorem hd_rec : nm_g (hd_f 1 1 1 2) 8 = 1 := by decide +kernel
theorem hd_plc : hd_f 1 1 1 2 12 = 2 := by decide +kernel
theorem hd_nul : ¬ nm_g (fun _ => 0) 13 = cr_b (fun _ => 0) 0 13 (-1) ^^^ (-1) := by decide +kernel
theorem def_X0 : ∀ j, j < 8 → defaultValue (tyX0 j) = vp_V [.null, .int 0, .int 0, .int 0, .int 0, .int 0, .int 0, .int 0] j := fun j hj => match j, hj with
  | 0, _ => rfl
  | 1, _ => rfl
  | 2, _ => rfl
  | 3, _ => rfl
  | 4, _ => rfl
  | 5, _ => rfl
  | 6, _ => rfl
  | 7, _ => rfl
  | k + 8, h => absurd h (by omega)
theorem def_X1 : ∀ j, j < 4 → defaultValue (tyX1 j) = vp_V [.null, .int 0, .int 0, .int 0] j := fun j hj => match j, hj with
  | 0, _ => rfl
  | 1, _ => rfl
  | 2, _ => rfl
  | 3, _ => rfl
  | k + 4, h => absurd h (by omega)
theorem def_X2 : ∀ j, j < 5 → defaultValue (tyX2 j) = vp_V [.null, .int 0, .int 0, .int 0, .int 0] j := fun j hj => match j, hj with
  | 0, _ => rfl
  | 1, _ => rfl
  | 2, _ => rfl
  | 3, _ => rfl
  | 4, _ => rfl
  | k + 5, h => absurd h (by omega)
theorem def_X3 : ∀ j, j < 2 → defaultValue (tyX3 j) = vp_V [.null, .int 0] j := fun j hj => match j, hj with
  | 0, _ => rfl
  | 1, _ => rfl
  | k + 2, h => absurd h (by omega)
theorem def_X4 : ∀ j, j < 4 → defaultValue (tyX4 j) = vp_V [.null, .int 0, .int 0, .int 0] j := fun j hj => match j, hj with
  | 0, _ => rfl
  | 1, _ => rfl
  | 2, _ => rfl
  | 3, _ => rfl
  | k + 4, h => absurd h (by omega)
theorem def_X5 : ∀ j, j < 10 → defaultValue (tyX5 j) = vp_V [.null, .null, .null, .null, .null, .null, .int 0, .int 0, .int 0, .int 0] j := fun j hj => match j, hj with
  | 0, _ => rfl
  | 1, _ => rfl
  | 2, _ => rfl
  | 3, _ => rfl
  | 4, _ => rfl
  | 5, _ => rfl
  | 6, _ => rfl
  | 7, _ => rfl
  | 8, _ => rfl
  | 9, _ => rfl
  | k + 10, h => absurd h (by omega)
theorem def_X6 : ∀ j, j < 34 → defaultValue (tyX6 j) = vp_V [.null, .null, .int 0, .int 0, .int 0, .int 0, .int 0, .int 0, .null, .int 0, .null, .int 0, .null, .int 0, .int 0, .int 0, .int 0, .int 0, .int 0, .int 0, .int 0, .int 0, .int 0, .null, .null, .null, .null, .int 0, .null, .int 0, .int 0, .int 0, .int 0, .int 0] j := fun j hj => match j, hj with
  | 0, _ => rfl
  | 1, _ => rfl
  | 2, _ => rfl
  | 3, _ => rfl
  | 4, _ => rfl
  | 5, _ => rfl
  | 6, _ => rfl
  | 7, _ => rfl
  | 8, _ => rfl
  | 9, _ => rfl
  | 10, _ => rfl
  | 11, _ => rfl
  | 12, _ => rfl
  | 13, _ => rfl
  | 14, _ => rfl
  | 15, _ => rfl
  | 16, _ => rfl
  | 17, _ => rfl
  | 18, _ => rfl
  | 19, _ => rfl
  | 20, _ => rfl
  | 21, _ => rfl
  | 22, _ => rfl
  | 23, _ => rfl
  | 24, _ => rfl
  | 25, _ => rfl
  | 26, _ => rfl
  | 27, _ => rfl
  | 28, _ => rfl
  | 29, _ => rfl
  | 30, _ => rfl
  | 31, _ => rfl
  | 32, _ => rfl
  | 33, _ => rfl
  | k + 34, h => absurd h (by omega)
/-! ===== the disk's sectors: addresses g of the sectors, h of their bytes ===== -/
theorem mm_iq {c d : ClassId} {n k : Nat} {f : Nat → Int32} {g} : (Sum.inl (c, n, .inl f) : va_E) ≠ .inl (d, k, .inr g) := fun e => by injection e with e; injection e with _ e; injection e with _ e; cases e
theorem mm_qi {c d : ClassId} {n k : Nat} {f : Nat → Int32} {g} : (Sum.inl (d, k, .inr g) : va_E) ≠ .inl (c, n, .inl f) := fun e => by injection e with e; injection e with _ e; injection e with _ e; cases e
def st_inv (cI : ClassId) (M : Nat → Option va_E) (fa : Nat → Option Nat) (g h : Nat → Nat) (F : Nat → Nat → Int32) (i : Nat) : Prop := ∀ j, j < i → fa j = some (g j) ∧ M (g j) = some (Sum.inr (3, [.ref (h j), .int 0]) : va_E) ∧ M (h j) = some (Sum.inl (cI, 64, .inl (F j)) : va_E) ∧ (0 < j → h j ≠ h 0)
theorem st_keep {cI : ClassId} {M M1 : Nat → Option va_E} {fa : Nat → Option Nat} {g h : Nat → Nat} {F : Nat → Nat → Int32} {i : Nat} (H : st_inv cI M fa g h F i) (hk : ∀ j, j < i → M1 (g j) = M (g j) ∧ M1 (h j) = M (h j)) : st_inv cI M1 fa g h F i := fun j hj => ⟨(H j hj).1, (hk j hj).1.trans (H j hj).2.1, (hk j hj).2.trans (H j hj).2.2.1, (H j hj).2.2.2⟩
theorem st_add {cI : ClassId} {M : Nat → Option va_E} {fa : Nat → Option Nat} {g h : Nat → Nat} {i q qb : Nat} (H : st_inv cI M fa g h (fun _ _ => 0) i) (h1 : M q = some (Sum.inr (3, [.ref qb, .int 0]) : va_E)) (h2 : M qb = some (Sum.inl (cI, 64, .inl (fun _ => 0)) : va_E)) (h3 : 0 < i → qb ≠ h 0) : st_inv cI M (va_up fa i (some q)) (va_up g i q) (va_up h i qb) (fun _ _ => 0) (i + 1) := by
  intro j hj
  by_cases e : j = i
  · subst e
    rw [va_up_self, va_up_self, va_up_self]
    refine ⟨rfl, h1, h2, fun h0 => ?_⟩
    rw [va_up_ne _ _ (by omega)]
    exact h3 h0
  · rw [va_up_ne _ _ e, va_up_ne _ _ e, va_up_ne _ _ e]
    obtain ⟨a1, a2, a3, a4⟩ := H j (by omega)
    refine ⟨a1, a2, a3, fun h0 => ?_⟩
    rw [va_up_ne _ _ (by omega)]
    exact a4 h0
/-! ===== what a new object answers ===== -/
def gl_F : Nat → Nat → Int32 := fun j => if j = 0 then hd_f 1 1 1 2 else fun _ => 0
theorem st_head {cI : ClassId} {M M1 : Nat → Option va_E} {fa : Nat → Option Nat} {g h : Nat → Nat} (H : st_inv cI M fa g h (fun _ _ => 0) 64) (h1 : M1 (h 0) = some (Sum.inl (cI, 64, .inl (hd_f 1 1 1 2)) : va_E)) (ho : ∀ q, q ≠ h 0 → M1 q = M q) : st_inv cI M1 fa g h gl_F 64 := by
  intro j hj
  obtain ⟨a1, a2, a3, a4⟩ := H j hj
  have b3 := (H 0 (by decide)).2.2.1
  refine ⟨a1, (ho _ (mm_ne a2 b3 mm_oa)).trans a2, ?_, a4⟩
  by_cases e : j = 0
  · subst e
    exact h1
  · have : gl_F j = fun _ => 0 := by unfold gl_F; rw [if_neg e]
    rw [this]
    exact (ho _ (a4 (by omega))).trans a3
def tk_f (k : Int32) : Int32 := if k < 1 then 0 else if 1000 < k then 0 else 1
theorem tk_1 {k : Int32} (h : ¬ tk_f k = 0) : 1 = tk_f k := by
  unfold tk_f at h ⊢
  split at h
  · exact absurd rfl h
  · split at h
    · exact absurd rfl h
    · rename_i h1 h2
      rw [if_neg h1, if_neg h2]
def fd_f (k : Int32) : Int32 := if k < 0 then 0 else if 255 < k then 0 else 1
def tc_f (k : Int32) : Int32 := if tk_f k = 0 then -1 else 0
def cp_f (k : Int32) : Int32 := if k = 1 then 0 else -1
theorem cp_lo {k : Int32} (h : k < 1) : (-1) = cp_f k := by
  unfold cp_f
  rw [if_neg (fun e => by rw [e] at h; exact absurd h (by decide))]
theorem cp_hi {k : Int32} (h : ¬ k ≤ 1) : (-1) = cp_f k := by
  unfold cp_f
  rw [if_neg (fun e => by rw [e] at h; exact absurd h (by decide))]
theorem cp_hi2 {k : Int32} (h : 1 < k) : (-1) = cp_f k := by
  unfold cp_f
  rw [if_neg (fun e => by rw [e] at h; exact absurd h (by decide))]
theorem cp_eq {k : Int32} (h : ¬ k < 1) (h2 : k ≤ 1) : k = 1 := by
  rw [Int32.lt_iff_toInt_lt] at h
  rw [Int32.le_iff_toInt_le] at h2
  exact Int32.toInt_inj.mp (by omega)
theorem cp_eq2 {k : Int32} (h : ¬ k < 1) (h2 : ¬ 1 < k) : k = 1 := by
  rw [Int32.lt_iff_toInt_lt] at h h2
  exact Int32.toInt_inj.mp (by omega)
def ar_f (n p : Int32) : Int32 := if n < 0 then 0 else if 100 < n then 0 else if p < 0 then 0 else if 63 < p then 0 else 1
theorem ar_le {p : Int32} : (64 ≤ p) ↔ 63 < p := by
  rw [Int32.lt_iff_toInt_lt, Int32.le_iff_toInt_le]
  have e1 : (64 : Int32).toInt = 64 := by decide
  have e0 : (63 : Int32).toInt = 63 := by decide
  omega
theorem ar_lt {p : Int32} : (p < 64) ↔ ¬ 63 < p := by
  rw [Int32.lt_iff_toInt_lt, Int32.lt_iff_toInt_lt]
  have e1 : (64 : Int32).toInt = 64 := by decide
  have e0 : (63 : Int32).toInt = 63 := by decide
  omega
def ib_f (s i : Int32) : Int32 := if s < 0 then 0 else if 64 ≤ s then 0 else if i < 0 then 0 else if 64 ≤ i then 0 else 1
theorem ib_lt {p : Int32} : (p < 64) ↔ ¬ 64 ≤ p := by
  rw [Int32.lt_iff_toInt_lt, Int32.le_iff_toInt_le]
  omega
theorem ib_in {s : Int32} (h0 : ¬ s < 0) (h1 : ¬ 64 ≤ s) : ∃ j : Nat, j < 64 ∧ s = nI j := by
  rcases pk_ix s (n := 64) (by decide) with h | h | ⟨j, hj, e⟩
  · exact absurd h h0
  · exact absurd h h1
  · exact ⟨j, hj, e⟩
theorem ib_1 {s i : Int32} (h : ¬ ib_f s i = 0) : ∃ j k : Nat, j < 64 ∧ k < 64 ∧ s = nI j ∧ i = nI k := by
  unfold ib_f at h
  split at h
  · exact absurd rfl h
  · split at h
    · exact absurd rfl h
    · split at h
      · exact absurd rfl h
      · split at h
        · exact absurd rfl h
        · rename_i a1 a2 a3 a4
          obtain ⟨j, hj, e1⟩ := ib_in a1 a2
          obtain ⟨k, hk, e2⟩ := ib_in a3 a4
          exact ⟨j, k, hj, hk, e1, e2⟩
def dk_f (s i : Int32) : Int32 := if ib_f s i = 0 then -1 else gl_F s.toNatClampNeg i.toNatClampNeg
theorem dk_no {s i : Int32} (h : ib_f s i = 0) : (-1) = dk_f s i := by unfold dk_f; rw [if_pos h]
theorem dk_yes {s i : Int32} {j k : Nat} (h : ¬ ib_f s i = 0) (hj : j < 64) (hk : k < 64) (e1 : s = nI j) (e2 : i = nI k) : gl_F j k = dk_f s i := by
  unfold dk_f
  rw [if_neg h, e1, e2, nI_clamp (by omega), nI_clamp (by omega)]
def ct_f (w : Int32) : Int32 := if w = 0 then 1 else if w = 4 then 2 else if w = 5 then 1 else if w = 9 then 1 else if w = 1 then 0 else if w = 2 then 0 else if w = 3 then 0 else if w = 6 then 0 else if w = 7 then 0 else -1
theorem ct_cases (w : Int32) : w = 0 ∨ w = 1 ∨ w = 2 ∨ w = 3 ∨ w = 4 ∨ w = 5 ∨ w = 6 ∨ w = 7 ∨ w = 8 ∨ w = 9 ∨ (w < 0 ∨ 9 < w) := by
  rcases pk_ix w (n := 10) (by decide) with h | h | ⟨j, hj, e⟩
  · exact Or.inr (Or.inr (Or.inr (Or.inr (Or.inr (Or.inr (Or.inr (Or.inr (Or.inr (Or.inr (Or.inl h))))))))))
  · refine Or.inr (Or.inr (Or.inr (Or.inr (Or.inr (Or.inr (Or.inr (Or.inr (Or.inr (Or.inr (Or.inr ?_))))))))))
    rw [Int32.le_iff_toInt_le] at h
    rw [Int32.lt_iff_toInt_lt]
    have e1 : (nI 10).toInt = 10 := by decide
    have e0 : (9 : Int32).toInt = 9 := by decide
    omega
  · subst e
    have : j = 0 ∨ j = 1 ∨ j = 2 ∨ j = 3 ∨ j = 4 ∨ j = 5 ∨ j = 6 ∨ j = 7 ∨ j = 8 ∨ j = 9 := by omega
    rcases this with rfl | rfl | rfl | rfl | rfl | rfl | rfl | rfl | rfl | rfl <;> decide
theorem ct_out {w : Int32} (h : w < 0 ∨ 9 < w) : (-1) = ct_f w := by
  have hh : ∀ k : Int32, ¬ (k < 0 ∨ 9 < k) → w ≠ k := fun k hk e => hk (by rw [← e]; exact h)
  unfold ct_f
  rw [if_neg (hh 0 (by decide)), if_neg (hh 4 (by decide)), if_neg (hh 5 (by decide)), if_neg (hh 9 (by decide)), if_neg (hh 1 (by decide)), if_neg (hh 2 (by decide)), if_neg (hh 3 (by decide)), if_neg (hh 6 (by decide)), if_neg (hh 7 (by decide))]
theorem ct_int {w : Int32} (h : w < 0 ∨ 9 < w) : w.toInt < 0 ∨ 9 < w.toInt := by
  rw [Int32.lt_iff_toInt_lt, Int32.lt_iff_toInt_lt] at h
  have e1 : (0 : Int32).toInt = 0 := by decide
  have e0 : (9 : Int32).toInt = 9 := by decide
  omega
/-! ===== worlds that are moved ===== -/
theorem mm_W.base {D : va_G} {A B : Nat → Prop} {M : Nat → Option va_E} {H : Heap} (h : mm_W D A M H) (hB : ∀ q, A q → q < H.size → B q) : mm_W D B M H := by
  obtain ⟨ws, hP, hD, hw⟩ := h
  exact ⟨ws, hP, hD.weaken (fun k q hk ha => hB q.1 ha (hP k q hk).lt), hw⟩
theorem mm_W.kept {D : va_G} {A : Nat → Prop} {M : Nat → Option va_E} {H H1 : Heap} (h : mm_W D A M H) (hk : ∀ q, A q → q < H.size → H1[q]? = H[q]?) : mm_W D A M H1 := by
  obtain ⟨ws, hP, hD, hw⟩ := h
  exact ⟨ws, hP.kept (fun k q hq => hk q.1 (hD.2 k q hq) (hP k q hq).lt), hD, hw⟩

/-! ===== the sum, numbers in bytes, a head: as mathematics ===== -/
def cr_u (c : Int32) : Int32 := (c.toUInt32 >>> ((1 : Int32).toUInt32 &&& Int32.toUInt32 31)).toInt32
def cr_s (c : Int32) : Int32 := if c &&& 1 = 1 then cr_u c ^^^ (-306674912) else cr_u c
def cr_n : Nat → Int32 → Int32
  | 0, c => c
  | k + 1, c => cr_n k (cr_s c)
def cr_b (f : Nat → Int32) : Nat → Nat → Int32 → Int32
  | _, 0, c => c
  | i, n + 1, c => cr_b f (i + 1) n (cr_n 8 (c ^^^ f i))
/-- four bytes from j on as a number -/
def nm_g (f : Nat → Int32) (j : Nat) : Int32 := f j <<< ((24 : Int32) &&& 31) ||| f (j + 1) <<< ((16 : Int32) &&& 31) ||| f (j + 2) <<< ((8 : Int32) &&& 31) ||| f (j + 3)
def us_h (n k : Int32) : Int32 := (n.toUInt32 >>> (k.toUInt32 &&& Int32.toUInt32 31)).toInt32
/-- a number into four bytes from j on -/
def nm_s (f : Nat → Int32) (j : Nat) (n : Int32) : Nat → Int32 := upd (upd (upd (upd f j (us_h n 24 &&& 255)) (j + 1) (us_h n 16 &&& 255)) (j + 2) (us_h n 8 &&& 255)) (j + 3) (n &&& 255)
def hd_p (v s r p : Int32) : Nat → Int32 := upd (nm_s (nm_s (nm_s (fun _ => 0) 0 v) 4 s) 8 r) 12 (p &&& 255)
/-- a head -/
def hd_f (v s r p : Int32) : Nat → Int32 := nm_s (hd_p v s r p) 13 (cr_b (hd_p v s r p) 0 13 (-1) ^^^ (-1))
theorem hd_sum : nm_g (hd_f 1 1 1 2) 13 = cr_b (hd_f 1 1 1 2) 0 13 (-1) ^^^ (-1) := by decide +kernel
theorem hd_ver : nm_g (hd_f 1 1 1 2) 0 = 1 := by decide +kernel
theorem hd_rec : nm_g (hd_f 1 1 1 2) 8 = 1 := by decide +kernel
theorem hd_plc : hd_f 1 1 1 2 12 = 2 := by decide +kernel
theorem hd_nul : ¬ nm_g (fun _ => 0) 13 = cr_b (fun _ => 0) 0 13 (-1) ^^^ (-1) := by decide +kernel
theorem def_X0 : ∀ j, j < 8 → defaultValue (tyX0 j) = vp_V [.null, .int 0, .int 0, .int 0, .int 0, .int 0, .int 0, .int 0] j := fun j hj => match j, hj with
  | 0, _ => rfl
  | 1, _ => rfl
  | 2, _ => rfl
  | 3, _ => rfl
  | 4, _ => rfl
  | 5, _ => rfl
  | 6, _ => rfl
  | 7, _ => rfl
  | k + 8, h => absurd h (by omega)
theorem def_X1 : ∀ j, j < 4 → defaultValue (tyX1 j) = vp_V [.null, .int 0, .int 0, .int 0] j := fun j hj => match j, hj with
  | 0, _ => rfl
  | 1, _ => rfl
  | 2, _ => rfl
  | 3, _ => rfl
  | k + 4, h => absurd h (by omega)
theorem def_X2 : ∀ j, j < 5 → defaultValue (tyX2 j) = vp_V [.null, .int 0, .int 0, .int 0, .int 0] j := fun j hj => match j, hj with
  | 0, _ => rfl
  | 1, _ => rfl
  | 2, _ => rfl
  | 3, _ => rfl
  | 4, _ => rfl
  | k + 5, h => absurd h (by omega)
theorem def_X3 : ∀ j, j < 2 → defaultValue (tyX3 j) = vp_V [.null, .int 0] j := fun j hj => match j, hj with
  | 0, _ => rfl
  | 1, _ => rfl
  | k + 2, h => absurd h (by omega)
theorem def_X4 : ∀ j, j < 4 → defaultValue (tyX4 j) = vp_V [.null, .int 0, .int 0, .int 0] j := fun j hj => match j, hj with
  | 0, _ => rfl
  | 1, _ => rfl
  | 2, _ => rfl
  | 3, _ => rfl
  | k + 4, h => absurd h (by omega)
theorem def_X5 : ∀ j, j < 10 → defaultValue (tyX5 j) = vp_V [.null, .null, .null, .null, .null, .null, .int 0, .int 0, .int 0, .int 0] j := fun j hj => match j, hj with
  | 0, _ => rfl
  | 1, _ => rfl
  | 2, _ => rfl
  | 3, _ => rfl
  | 4, _ => rfl
  | 5, _ => rfl
  | 6, _ => rfl
  | 7, _ => rfl
  | 8, _ => rfl
  | 9, _ => rfl
  | k + 10, h => absurd h (by omega)
theorem def_X6 : ∀ j, j < 34 → defaultValue (tyX6 j) = vp_V [.null, .null, .int 0, .int 0, .int 0, .int 0, .int 0, .int 0, .null, .int 0, .null, .int 0, .null, .int 0, .int 0, .int 0, .int 0, .int 0, .int 0, .int 0, .int 0, .int 0, .int 0, .null, .null, .null, .null, .int 0, .null, .int 0, .int 0, .int 0, .int 0, .int 0] j := fun j hj => match j, hj with
  | 0, _ => rfl
  | 1, _ => rfl
  | 2, _ => rfl
  | 3, _ => rfl
  | 4, _ => rfl
  | 5, _ => rfl
  | 6, _ => rfl
  | 7, _ => rfl
  | 8, _ => rfl
  | 9, _ => rfl
  | 10, _ => rfl
  | 11, _ => rfl
  | 12, _ => rfl
  | 13, _ => rfl
  | 14, _ => rfl
  | 15, _ => rfl
  | 16, _ => rfl
  | 17, _ => rfl
  | 18, _ => rfl
  | 19, _ => rfl
  | 20, _ => rfl
  | 21, _ => rfl
  | 22, _ => rfl
  | 23, _ => rfl
  | 24, _ => rfl
  | 25, _ => rfl
  | 26, _ => rfl
  | 27, _ => rfl
  | 28, _ => rfl
  | 29, _ => rfl
  | 30, _ => rfl
  | 31, _ => rfl
  | 32, _ => rfl
  | 33, _ => rfl
  | k + 34, h => absurd h (by omega)
/-! ===== the disk's sectors: addresses g of the sectors, h of their bytes ===== -/
theorem mm_iq {c d : ClassId} {n k : Nat} {f : Nat → Int32} {g} : (Sum.inl (c, n, .inl f) : va_E) ≠ .inl (d, k, .inr g) := fun e => by injection e with e; injection e with _ e; injection e with _ e; cases e
theorem mm_qi {c d : ClassId} {n k : Nat} {f : Nat → Int32} {g} : (Sum.inl (d, k, .inr g) : va_E) ≠ .inl (c, n, .inl f) := fun e => by injection e with e; injection e with _ e; injection e with _ e; cases e
def st_inv (cI : ClassId) (M : Nat → Option va_E) (fa : Nat → Option Nat) (g h : Nat → Nat) (F : Nat → Nat → Int32) (i : Nat) : Prop := ∀ j, j < i → fa j = some (g j) ∧ M (g j) = some (Sum.inr (3, [.ref (h j), .int 0]) : va_E) ∧ M (h j) = some (Sum.inl (cI, 64, .inl (F j)) : va_E) ∧ (0 < j → h j ≠ h 0)
theorem st_keep {cI : ClassId} {M M1 : Nat → Option va_E} {fa : Nat → Option Nat} {g h : Nat → Nat} {F : Nat → Nat → Int32} {i : Nat} (H : st_inv cI M fa g h F i) (hk : ∀ j, j < i → M1 (g j) = M (g j) ∧ M1 (h j) = M (h j)) : st_inv cI M1 fa g h F i := fun j hj => ⟨(H j hj).1, (hk j hj).1.trans (H j hj).2.1, (hk j hj).2.trans (H j hj).2.2.1, (H j hj).2.2.2⟩
theorem st_add {cI : ClassId} {M : Nat → Option va_E} {fa : Nat → Option Nat} {g h : Nat → Nat} {i q qb : Nat} (H : st_inv cI M fa g h (fun _ _ => 0) i) (h1 : M q = some (Sum.inr (3, [.ref qb, .int 0]) : va_E)) (h2 : M qb = some (Sum.inl (cI, 64, .inl (fun _ => 0)) : va_E)) (h3 : 0 < i → qb ≠ h 0) : st_inv cI M (va_up fa i (some q)) (va_up g i q) (va_up h i qb) (fun _ _ => 0) (i + 1) := by
  intro j hj
  by_cases e : j = i
  · subst e
    rw [va_up_self, va_up_self, va_up_self]
    refine ⟨rfl, h1, h2, fun h0 => ?_⟩
    rw [va_up_ne _ _ (by omega)]
    exact h3 h0
  · rw [va_up_ne _ _ e, va_up_ne _ _ e, va_up_ne _ _ e]
    obtain ⟨a1, a2, a3, a4⟩ := H j (by omega)
    refine ⟨a1, a2, a3, fun h0 => ?_⟩
    rw [va_up_ne _ _ (by omega)]
    exact a4 h0
